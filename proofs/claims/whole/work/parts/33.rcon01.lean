set_option maxHeartbeats 4000000 in
set_option maxRecDepth 100000 in
theorem rB_Md_walk_119 {p : Program} {l : Launch} {e : Env} {s : State} {m : MethodId} {args : Array Value} {below : List Frame} {meth : Method} {c : Code} {D : va_G} {a : Nat → Nat} {cA : Nat → ClassId} {A : Nat → Prop} {g : Nat → Nat} {σ2 : St} (S : CallFix p m c prog_10_method_18_code 4 s args AW R_Md) (hr : meth.sig.returnType = none) (hlk : meth.locks = false) (hK : rKX D cA A g s s.heap) {k4 : St → Option (St)} (hk4 : ∀ (σ : St) (H : Heap) (locs : List Loc) (ls : Array Slot), rEx D a cA A σ s.heap H locs → lv_has ls 4 [(0, .ref (a 0))] → k4 σ = some σ2 → W p l e rrm_Md_walk s m args below meth c H locs 0 0 (MQ below (rqv D a cA A g σ2) args s 0 0 A) (F0 m 4 ls [])) : ∀ (σ : St) (v3 : Int32) (H : Heap) (locs : List Loc) (ls : Array Slot), rEx D a cA A σ s.heap H locs → lv_has ls 4 [(0, .ref (a 0)), (3, .int v3)] → rJ_Md_walk_119 k4 σ v3 = some σ2 → W p l e rrm_Md_walk s m args below meth c H locs 0 0 (MQ below (rqv D a cA A g σ2) args s 0 0 A) (F0 m 119 ls []) := by
  intro σ v3 H locs ls E hl hM
  unfold rJ_Md_walk_119 at hM
  refine lv_aload_n S.1 S.2.1 d_Md_walk_119 rfl (lv_at hl 0 rfl) ?_
  refine rgf_Md_32_0 S hK E d_Md_walk_120 ?_
  refine lv_iload_n S.1 S.2.1 d_Md_walk_123 rfl (lv_at hl 1 rfl) ?_
  refine lv_dup2_11 S.1 S.2.1 d_Md_walk_124 rfl rfl ?_
  obtain ⟨h1, hM⟩ := gd_inv hM
  refine ral_8 S hK E h1 d_Md_walk_125 ?_
  refine lv_iconst (v := 1) S.1 S.2.1 d_Md_walk_126 (by decide) ?_
  refine lv_iadd S.1 S.2.1 d_Md_walk_127 ?_
  obtain ⟨h2, hM⟩ := gd_inv hM
  refine ras_8 S hK E h2 d_Md_walk_128 (fun σ3 eσ3 H locs E => ?_)
  have hM := lq_inv hM σ3 eσ3
  refine lv_goto (tgt := 4) S.1 S.2.1 d_Md_walk_129 (by decide) ?_
  exact hk4 _ _ _ _ E (lv_sub hl [0] rfl) hM
set_option maxHeartbeats 4000000 in
set_option maxRecDepth 100000 in
theorem rB_Md_walk_105 {p : Program} {l : Launch} {e : Env} {s : State} {m : MethodId} {args : Array Value} {below : List Frame} {meth : Method} {c : Code} {D : va_G} {a : Nat → Nat} {cA : Nat → ClassId} {A : Nat → Prop} {g : Nat → Nat} {σ2 : St} (S : CallFix p m c prog_10_method_18_code 4 s args AW R_Md) (hr : meth.sig.returnType = none) (hlk : meth.locks = false) (hK : rKX D cA A g s s.heap) {k4 : St → Option (St)} (hk4 : ∀ (σ : St) (H : Heap) (locs : List Loc) (ls : Array Slot), rEx D a cA A σ s.heap H locs → lv_has ls 4 [(0, .ref (a 0))] → k4 σ = some σ2 → W p l e rrm_Md_walk s m args below meth c H locs 0 0 (MQ below (rqv D a cA A g σ2) args s 0 0 A) (F0 m 4 ls [])) : ∀ (σ : St) (v2 : Int32) (v3 : Int32) (H : Heap) (locs : List Loc) (ls : Array Slot), rEx D a cA A σ s.heap H locs → lv_has ls 4 [(0, .ref (a 0)), (2, .int v2), (3, .int v3)] → rJ_Md_walk_105 k4 σ v2 v3 = some σ2 → W p l e rrm_Md_walk s m args below meth c H locs 0 0 (MQ below (rqv D a cA A g σ2) args s 0 0 A) (F0 m 105 ls []) := by
  intro σ v2 v3 H locs ls E hl hM
  unfold rJ_Md_walk_105 at hM
  refine lv_aload_n S.1 S.2.1 d_Md_walk_105 rfl (lv_at hl 0 rfl) ?_
  refine rgf_Md_35_0 S hK E d_Md_walk_106 ?_
  refine lv_iload_n S.1 S.2.1 d_Md_walk_109 rfl (lv_at hl 1 rfl) ?_
  obtain ⟨h1, hM⟩ := gd_inv hM
  refine ral_9 S hK E h1 d_Md_walk_110 ?_
  refine lv_if_ne (tgt := 119) S.1 S.2.1 d_Md_walk_111 (by decide) (fun c2 => ?_) (fun c2 => ?_)
  · have hM := ifN hM c2
    exact rB_Md_walk_119 S hr hlk hK hk4 _ _ _ _ _ E (lv_sub hl [0, 2] rfl) hM
  · have hM := ifP hM c2
    refine lv_aload_n S.1 S.2.1 d_Md_walk_114 rfl (lv_at hl 0 rfl) ?_
    refine lv_iload_n S.1 S.2.1 d_Md_walk_115 rfl (lv_at hl 1 rfl) ?_
    obtain ⟨σ4, h3, hM⟩ := bv_inv hM
    refine rcr_6 (As := [.int v2]) (rest := []) S hK E (rC_Md_goInto h3) ⟨Nat.le_of_ble_eq_true rfl, Nat.le_of_ble_eq_true rfl⟩ rfl rfl hl.1 (lv_room (Nat.le_of_ble_eq_true rfl)) d_Md_walk_116 (fun H locs E => ?_)
    exact rB_Md_walk_119 S hr hlk hK hk4 _ _ _ _ _ E (lv_sub hl [0, 2] rfl) hM
set_option maxHeartbeats 4000000 in
set_option maxRecDepth 100000 in
theorem rB_Md_walk_4 {p : Program} {l : Launch} {e : Env} {s : State} {m : MethodId} {args : Array Value} {below : List Frame} {meth : Method} {c : Code} {D : va_G} {a : Nat → Nat} {cA : Nat → ClassId} {A : Nat → Prop} {g : Nat → Nat} {σ2 : St} (S : CallFix p m c prog_10_method_18_code 4 s args AW R_Md) (hr : meth.sig.returnType = none) (hlk : meth.locks = false) (hK : rKX D cA A g s s.heap) : ∀ (n : Nat) (σ : St) (H : Heap) (locs : List Loc) (ls : Array Slot), rEx D a cA A σ s.heap H locs → lv_has ls 4 [(0, .ref (a 0))] → rL_Md_walk_4 n σ = some σ2 → W p l e rrm_Md_walk s m args below meth c H locs 0 0 (MQ below (rqv D a cA A g σ2) args s 0 0 A) (F0 m 4 ls []) := by
  intro n
  induction n with
  | zero =>
    intro σ H locs ls E hl hM
    rw [rL_Md_walk_4] at hM
    cases hM
  | succ n ih =>
    intro σ H locs ls E hl hM
    rw [rL_Md_walk_4] at hM
    refine lv_aload_n S.1 S.2.1 d_Md_walk_4 rfl (lv_at hl 0 rfl) ?_
    refine rgf_Md_108_0 S hK E d_Md_walk_5 ?_
    refine lv_if_le (tgt := 132) S.1 S.2.1 d_Md_walk_8 (by decide) (fun c1 => ?_) (fun c1 => ?_)
    · have hM := ifP hM c1
      obtain rfl := Option.some.inj hM
      exact rretv S hr hlk hK E d_Md_walk_132
    · have hM := ifN hM c1
      refine lv_aload_n S.1 S.2.1 d_Md_walk_11 rfl (lv_at hl 0 rfl) ?_
      refine rgf_Md_29_0 S hK E d_Md_walk_12 ?_
      refine lv_aload_n S.1 S.2.1 d_Md_walk_15 rfl (lv_at hl 0 rfl) ?_
      refine rgf_Md_108_0 S hK E d_Md_walk_16 ?_
      refine lv_iconst (v := 1) S.1 S.2.1 d_Md_walk_19 (by decide) ?_
      refine lv_isub S.1 S.2.1 d_Md_walk_20 ?_
      obtain ⟨h2, hM⟩ := gd_inv hM
      refine ral_7 S hK E h2 d_Md_walk_21 ?_
      refine lv_topi (fun y3 ey3 => ?_)
      have hM := lq_inv hM y3 ey3
      refine lv_istore_n (lv' := [(1, .int y3), (0, .ref (a 0))]) S.1 S.2.1 d_Md_walk_22 rfl hl (by decide) rfl (fun ls hl => ?_)
      refine lv_aload_n S.1 S.2.1 d_Md_walk_23 rfl (lv_at hl 1 rfl) ?_
      refine rgf_Md_32_0 S hK E d_Md_walk_24 ?_
      refine lv_aload_n S.1 S.2.1 d_Md_walk_27 rfl (lv_at hl 1 rfl) ?_
      refine rgf_Md_108_0 S hK E d_Md_walk_28 ?_
      refine lv_iconst (v := 1) S.1 S.2.1 d_Md_walk_31 (by decide) ?_
      refine lv_isub S.1 S.2.1 d_Md_walk_32 ?_
      obtain ⟨h4, hM⟩ := gd_inv hM
      refine ral_8 S hK E h4 d_Md_walk_33 ?_
      refine lv_aload_n S.1 S.2.1 d_Md_walk_34 rfl (lv_at hl 1 rfl) ?_
      refine rgf_Md_20_0 S hK E d_Md_walk_35 ?_
      refine lv_iload_n S.1 S.2.1 d_Md_walk_38 rfl (lv_at hl 0 rfl) ?_
      obtain ⟨h5, hM⟩ := gd_inv hM
      refine ral_4 S hK E h5 d_Md_walk_39 ?_
      refine lv_icmp_ne (tgt := 50) S.1 S.2.1 d_Md_walk_40 (by decide) (fun c6 => ?_) (fun c6 => ?_)
      · have hM := ifN hM c6
        refine lv_aload_n S.1 S.2.1 d_Md_walk_50 rfl (lv_at hl 1 rfl) ?_
        refine rgf_Md_23_0 S hK E d_Md_walk_51 ?_
        refine lv_bipush (v := 40) S.1 S.2.1 d_Md_walk_54 (by decide) ?_
        refine lv_iload_n S.1 S.2.1 d_Md_walk_56 rfl (lv_at hl 0 rfl) ?_
        refine lv_imul S.1 S.2.1 d_Md_walk_57 ?_
        refine lv_aload_n S.1 S.2.1 d_Md_walk_58 rfl (lv_at hl 1 rfl) ?_
        refine rgf_Md_32_0 S hK E d_Md_walk_59 ?_
        refine lv_aload_n S.1 S.2.1 d_Md_walk_62 rfl (lv_at hl 1 rfl) ?_
        refine rgf_Md_108_0 S hK E d_Md_walk_63 ?_
        refine lv_iconst (v := 1) S.1 S.2.1 d_Md_walk_66 (by decide) ?_
        refine lv_isub S.1 S.2.1 d_Md_walk_67 ?_
        obtain ⟨h7, hM⟩ := gd_inv hM
        refine ral_8 S hK E h7 d_Md_walk_68 ?_
        refine lv_iadd S.1 S.2.1 d_Md_walk_69 ?_
        obtain ⟨h8, hM⟩ := gd_inv hM
        refine ral_5 S hK E h8 d_Md_walk_70 ?_
        refine lv_topi (fun y9 ey9 => ?_)
        have hM := lq_inv hM y9 ey9
        refine lv_istore_n (lv' := [(2, .int y9), (1, .int y3), (0, .ref (a 0))]) S.1 S.2.1 d_Md_walk_71 rfl hl (by decide) rfl (fun ls hl => ?_)
        refine lv_aload_n S.1 S.2.1 d_Md_walk_72 rfl (lv_at hl 2 rfl) ?_
        refine rgf_Md_108_0 S hK E d_Md_walk_73 ?_
        refine lv_iconst (v := 1) S.1 S.2.1 d_Md_walk_76 (by decide) ?_
        refine lv_isub S.1 S.2.1 d_Md_walk_77 ?_
        refine lv_topi (fun y10 ey10 => ?_)
        have hM := lq_inv hM y10 ey10
        refine lv_istore_n (lv' := [(3, .int y10), (2, .int y9), (1, .int y3), (0, .ref (a 0))]) S.1 S.2.1 d_Md_walk_78 rfl hl (by decide) rfl (fun ls hl => ?_)
        refine lv_aload_n S.1 S.2.1 d_Md_walk_79 rfl (lv_at hl 3 rfl) ?_
        refine rgf_Md_35_0 S hK E d_Md_walk_80 ?_
        refine lv_iload_n S.1 S.2.1 d_Md_walk_83 rfl (lv_at hl 1 rfl) ?_
        obtain ⟨h11, hM⟩ := gd_inv hM
        refine ral_9 S hK E h11 d_Md_walk_84 ?_
        refine lv_if_ne (tgt := 105) S.1 S.2.1 d_Md_walk_85 (by decide) (fun c12 => ?_) (fun c12 => ?_)
        · have hM := ifN hM c12
          exact rB_Md_walk_105 S hr hlk hK ih _ _ _ _ _ _ E (lv_sub hl [3, 1, 0] rfl) hM
        · have hM := ifP hM c12
          refine lv_aload_n S.1 S.2.1 d_Md_walk_88 rfl (lv_at hl 3 rfl) ?_
          refine rgf_Md_7_0 S hK E d_Md_walk_89 ?_
          refine lv_iload_n S.1 S.2.1 d_Md_walk_92 rfl (lv_at hl 1 rfl) ?_
          obtain ⟨h13, hM⟩ := gd_inv hM
          refine ral_1 S hK E h13 d_Md_walk_93 ?_
          refine lv_if_eq (tgt := 105) S.1 S.2.1 d_Md_walk_94 (by decide) (fun c14 => ?_) (fun c14 => ?_)
          · have hM := ifP hM c14
            exact rB_Md_walk_105 S hr hlk hK ih _ _ _ _ _ _ E (lv_sub hl [3, 1, 0] rfl) hM
          · have hM := ifN hM c14
            refine lv_aload_n S.1 S.2.1 d_Md_walk_97 rfl (lv_at hl 3 rfl) ?_
            refine lv_iload_n S.1 S.2.1 d_Md_walk_98 rfl (lv_at hl 1 rfl) ?_
            obtain ⟨σ16, h15, hM⟩ := bv_inv hM
            refine rcr_7 (As := [.int y9]) (rest := []) S hK E (rC_Md_takePage h15) ⟨Nat.le_of_ble_eq_true rfl, Nat.le_of_ble_eq_true rfl⟩ rfl rfl hl.1 (lv_room (Nat.le_of_ble_eq_true rfl)) d_Md_walk_99 (fun H locs E => ?_)
            refine lv_goto (tgt := 119) S.1 S.2.1 d_Md_walk_102 (by decide) ?_
            exact rB_Md_walk_119 S hr hlk hK ih _ _ _ _ _ E (lv_sub hl [3, 0] rfl) hM
      · have hM := ifP hM c6
        refine lv_aload_n S.1 S.2.1 d_Md_walk_43 rfl (lv_at hl 1 rfl) ?_
        obtain ⟨σ18, h17, hM⟩ := bv_inv hM
        refine rcr_8 (As := []) (rest := []) S hK E (rC_Md_goUp h17) ⟨Nat.le_of_ble_eq_true rfl, Nat.le_of_ble_eq_true rfl⟩ rfl rfl hl.1 (lv_room (Nat.le_of_ble_eq_true rfl)) d_Md_walk_44 (fun H locs E => ?_)
        refine lv_goto (tgt := 4) S.1 S.2.1 d_Md_walk_47 (by decide) ?_
        exact ih _ _ _ _ E (lv_sub hl [1] rfl) hM
set_option maxHeartbeats 4000000 in
set_option maxRecDepth 100000 in
theorem rC_Md_walk {l : Launch} {D : va_G} {a : Nat → Nat} {cA : Nat → ClassId} {A : Nat → Prop} {g : Nat → Nat} {σ σ2 : St} (hM : rM_Md_walk σ = some σ2) : Met l y_Md_walk (.code y_Md_walk prog_10_method_18_code 4 none :: AW) rrm_Md_walk (va_Pc [.ref (a 0)] (rCP D a cA A g σ)) (rqv D a cA A g σ2) 0 0 A := by
  refine rmet (nL := 4) (by decide) (Nat.le_of_ble_eq_true rfl) (fun S hr hlk hK E ls hl => ?_)
  have hl : lv_has ls 4 [(0, .ref (a 0))] := hl
  unfold rM_Md_walk at hM
  refine lv_aload_n S.1 S.2.1 d_Md_walk_0 rfl (lv_at hl 0 rfl) ?_
  obtain ⟨σ2, h1, hM⟩ := bv_inv hM
  refine rcr_9 (As := []) (rest := []) S hK E (rC_Md_begin h1) ⟨Nat.le_of_ble_eq_true rfl, Nat.le_of_ble_eq_true rfl⟩ rfl rfl hl.1 (lv_room (Nat.le_of_ble_eq_true rfl)) d_Md_walk_1 (fun H locs E => ?_)
  exact rB_Md_walk_4 S hr hlk hK _ _ _ _ _ E (lv_sub hl [0] rfl) hM
set_option maxHeartbeats 4000000 in
set_option maxRecDepth 100000 in
theorem rC_Md_pages {l : Launch} {D : va_G} {a : Nat → Nat} {cA : Nat → ClassId} {A : Nat → Prop} {g : Nat → Nat} {σ σ2 : St} {r : Int32} (hM : rM_Md_pages σ = some (r, σ2)) : Met l y_Md_pages (.code y_Md_pages prog_10_method_20_code 1 (some .int) :: AW) rrm_Md_pages (va_Pc [.ref (a 0)] (rCP D a cA A g σ)) (rqi D a cA A g r σ2) 0 0 A := by
  refine rmet (nL := 1) (by decide) (Nat.le_of_ble_eq_true rfl) (fun S hr hlk hK E ls hl => ?_)
  have hl : lv_has ls 1 [(0, .ref (a 0))] := hl
  unfold rM_Md_pages at hM
  refine lv_aload_n S.1 S.2.1 d_Md_pages_0 rfl (lv_at hl 0 rfl) ?_
  obtain ⟨σ2, h1, hM⟩ := bv_inv hM
  refine rcr_10 (As := []) (rest := []) S hK E (rC_Md_walk h1) ⟨Nat.le_of_ble_eq_true rfl, Nat.le_of_ble_eq_true rfl⟩ rfl rfl hl.1 (lv_room (Nat.le_of_ble_eq_true rfl)) d_Md_pages_1 (fun H locs E => ?_)
  refine lv_aload_n S.1 S.2.1 d_Md_pages_4 rfl (lv_at hl 0 rfl) ?_
  refine rgf_Md_105_0 S hK E d_Md_pages_5 ?_
  obtain ⟨rfl, rfl⟩ := pr_inj hM
  exact rreti S hr hlk hK E d_Md_pages_8
set_option maxHeartbeats 4000000 in
set_option maxRecDepth 100000 in
theorem rC_Md_at {l : Launch} {D : va_G} {a : Nat → Nat} {cA : Nat → ClassId} {A : Nat → Prop} {g : Nat → Nat} {σ σ2 : St} {x1 : Int32} {r : Int32} (hM : rM_Md_at σ x1 = some (r, σ2)) : Met l y_Md_at (.code y_Md_at prog_10_method_21_code 2 (some .int) :: AW) rrm_Md_at (va_Pc [.ref (a 0), .int x1] (rCP D a cA A g σ)) (rqi D a cA A g r σ2) 0 0 A := by
  refine rmet (nL := 2) (by decide) (Nat.le_of_ble_eq_true rfl) (fun S hr hlk hK E ls hl => ?_)
  have hl : lv_has ls 2 [(0, .ref (a 0)), (1, .int x1)] := hl
  unfold rM_Md_at at hM
  refine lv_aload_n S.1 S.2.1 d_Md_at_0 rfl (lv_at hl 0 rfl) ?_
  obtain ⟨σ2, h1, hM⟩ := bv_inv hM
  refine rcr_10 (As := []) (rest := []) S hK E (rC_Md_walk h1) ⟨Nat.le_of_ble_eq_true rfl, Nat.le_of_ble_eq_true rfl⟩ rfl rfl hl.1 (lv_room (Nat.le_of_ble_eq_true rfl)) d_Md_at_1 (fun H locs E => ?_)
  refine lv_iload_n S.1 S.2.1 d_Md_at_4 rfl (lv_at hl 1 rfl) ?_
  refine lv_iconst (v := 0) S.1 S.2.1 d_Md_at_5 (by decide) ?_
  refine lv_aload_n S.1 S.2.1 d_Md_at_6 rfl (lv_at hl 0 rfl) ?_
  refine rgf_Md_105_0 S hK E d_Md_at_7 ?_
  refine lv_iconst (v := 1) S.1 S.2.1 d_Md_at_10 (by decide) ?_
  refine lv_isub S.1 S.2.1 d_Md_at_11 ?_
  obtain ⟨r4, h3, hM⟩ := br_inv hM
  refine rcr_4 (As := [.int x1, .int 0, .int ((σ2 24 0) - 1)]) (rest := []) S hK E (rC_Md_within h3) ⟨Nat.le_of_ble_eq_true rfl, Nat.le_of_ble_eq_true rfl⟩ rfl rfl hl.1 (lv_room (Nat.le_of_ble_eq_true rfl)) d_Md_at_12 (fun H locs E => ?_)
  refine lv_if_eq (tgt := 27) S.1 S.2.1 d_Md_at_15 (by decide) (fun c5 => ?_) (fun c5 => ?_)
  · have hM := ifP hM c5
    refine lv_iconst (v := (-1)) S.1 S.2.1 d_Md_at_27 (by decide) ?_
    obtain ⟨rfl, rfl⟩ := pr_inj hM
    exact rreti S hr hlk hK E d_Md_at_28
  · have hM := ifN hM c5
    refine lv_aload_n S.1 S.2.1 d_Md_at_18 rfl (lv_at hl 0 rfl) ?_
    refine rgf_Md_38_0 S hK E d_Md_at_19 ?_
    refine lv_iload_n S.1 S.2.1 d_Md_at_22 rfl (lv_at hl 1 rfl) ?_
    obtain ⟨h6, hM⟩ := gd_inv hM
    refine ral_10 S hK E h6 d_Md_at_23 ?_
    refine lv_goto (tgt := 28) S.1 S.2.1 d_Md_at_24 (by decide) ?_
    obtain ⟨rfl, rfl⟩ := pr_inj hM
    exact rreti S hr hlk hK E d_Md_at_28
set_option maxHeartbeats 4000000 in
set_option maxRecDepth 100000 in
theorem rB_Md_placeOf_31 {p : Program} {l : Launch} {e : Env} {s : State} {m : MethodId} {args : Array Value} {below : List Frame} {meth : Method} {c : Code} {D : va_G} {a : Nat → Nat} {cA : Nat → ClassId} {A : Nat → Prop} {g : Nat → Nat} {σ2 : St} {r : Int32} (S : CallFix p m c prog_10_method_19_code 4 s args AW R_Md) (hr : meth.sig.returnType = (some .int)) (hlk : meth.locks = false) (hK : rKX D cA A g s s.heap) {k8 : St → Int32 → Int32 → Int32 → Option (Int32 × St)} (hk8 : ∀ (σ : St) (v1 : Int32) (v2 : Int32) (v3 : Int32) (H : Heap) (locs : List Loc) (ls : Array Slot), rEx D a cA A σ s.heap H locs → lv_has ls 4 [(0, .ref (a 0)), (1, .int v1), (2, .int v2), (3, .int v3)] → k8 σ v1 v2 v3 = some (r, σ2) → W p l e rrm_Md_placeOf s m args below meth c H locs 0 0 (MQ below (rqi D a cA A g r σ2) args s 0 0 A) (F0 m 8 ls [])) : ∀ (σ : St) (v1 : Int32) (v3 : Int32) (t0 : Int32) (H : Heap) (locs : List Loc) (ls : Array Slot), rEx D a cA A σ s.heap H locs → lv_has ls 4 [(0, .ref (a 0)), (1, .int v1), (3, .int v3)] → rJ_Md_placeOf_31 k8 σ v1 v3 t0 = some (r, σ2) → W p l e rrm_Md_placeOf s m args below meth c H locs 0 0 (MQ below (rqi D a cA A g r σ2) args s 0 0 A) (F0 m 31 ls [.int t0]) := by
  intro σ v1 v3 t0 H locs ls E hl hM
  unfold rJ_Md_placeOf_31 at hM
  refine lv_istore_n (lv' := [(2, .int t0), (0, .ref (a 0)), (1, .int v1), (3, .int v3)]) S.1 S.2.1 d_Md_placeOf_31 rfl hl (by decide) rfl (fun ls hl => ?_)
  obtain ⟨y1, ey1⟩ : ∃ z : Int32, z = v3 + 1 := ⟨_, rfl⟩
  have hM := lq_inv hM y1 ey1
  refine lv_iinc (v := y1) (lv' := [(3, .int y1), (2, .int t0), (0, .ref (a 0)), (1, .int v1)]) S.1 S.2.1 d_Md_placeOf_32 hl (k := 3) rfl (by rw [ey1]; rfl) (by decide) rfl (fun ls hl => ?_)
  refine lv_goto (tgt := 8) S.1 S.2.1 d_Md_placeOf_35 (by decide) ?_
  exact hk8 _ _ _ _ _ _ _ E (lv_sub hl [2, 3, 1, 0] rfl) hM
set_option maxHeartbeats 4000000 in
set_option maxRecDepth 100000 in
theorem rB_Md_placeOf_8 {p : Program} {l : Launch} {e : Env} {s : State} {m : MethodId} {args : Array Value} {below : List Frame} {meth : Method} {c : Code} {D : va_G} {a : Nat → Nat} {cA : Nat → ClassId} {A : Nat → Prop} {g : Nat → Nat} {σ2 : St} {r : Int32} (S : CallFix p m c prog_10_method_19_code 4 s args AW R_Md) (hr : meth.sig.returnType = (some .int)) (hlk : meth.locks = false) (hK : rKX D cA A g s s.heap) : ∀ (n : Nat) (σ : St) (v1 : Int32) (v2 : Int32) (v3 : Int32) (H : Heap) (locs : List Loc) (ls : Array Slot), rEx D a cA A σ s.heap H locs → lv_has ls 4 [(0, .ref (a 0)), (1, .int v1), (2, .int v2), (3, .int v3)] → rL_Md_placeOf_8 n σ v1 v2 v3 = some (r, σ2) → W p l e rrm_Md_placeOf s m args below meth c H locs 0 0 (MQ below (rqi D a cA A g r σ2) args s 0 0 A) (F0 m 8 ls []) := by
  intro n
  induction n with
  | zero =>
    intro σ v1 v2 v3 H locs ls E hl hM
    rw [rL_Md_placeOf_8] at hM
    cases hM
  | succ n ih =>
    intro σ v1 v2 v3 H locs ls E hl hM
    rw [rL_Md_placeOf_8] at hM
    refine lv_iload_n S.1 S.2.1 d_Md_placeOf_8 rfl (lv_at hl 3 rfl) ?_
    refine lv_aload_n S.1 S.2.1 d_Md_placeOf_9 rfl (lv_at hl 0 rfl) ?_
    refine rgf_Md_105_0 S hK E d_Md_placeOf_10 ?_
    refine lv_icmp_ge (tgt := 38) S.1 S.2.1 d_Md_placeOf_13 (by decide) (fun c1 => ?_) (fun c1 => ?_)
    · have hM := ifP hM c1
      refine lv_iload_n S.1 S.2.1 d_Md_placeOf_38 rfl (lv_at hl 2 rfl) ?_
      obtain ⟨rfl, rfl⟩ := pr_inj hM
      exact rreti S hr hlk hK E d_Md_placeOf_39
    · have hM := ifN hM c1
      refine lv_aload_n S.1 S.2.1 d_Md_placeOf_16 rfl (lv_at hl 0 rfl) ?_
      refine rgf_Md_38_0 S hK E d_Md_placeOf_17 ?_
      refine lv_iload_n S.1 S.2.1 d_Md_placeOf_20 rfl (lv_at hl 3 rfl) ?_
      obtain ⟨h2, hM⟩ := gd_inv hM
      refine ral_10 S hK E h2 d_Md_placeOf_21 ?_
      refine lv_iload_n S.1 S.2.1 d_Md_placeOf_22 rfl (lv_at hl 1 rfl) ?_
      refine lv_icmp_ne (tgt := 30) S.1 S.2.1 d_Md_placeOf_23 (by decide) (fun c3 => ?_) (fun c3 => ?_)
      · have hM := ifN hM c3
        refine lv_iload_n S.1 S.2.1 d_Md_placeOf_30 rfl (lv_at hl 2 rfl) ?_
        exact rB_Md_placeOf_31 S hr hlk hK ih _ _ _ _ _ _ _ E (lv_sub hl [0, 1, 3] rfl) hM
      · have hM := ifP hM c3
        refine lv_iload_n S.1 S.2.1 d_Md_placeOf_26 rfl (lv_at hl 3 rfl) ?_
        refine lv_goto (tgt := 31) S.1 S.2.1 d_Md_placeOf_27 (by decide) ?_
        exact rB_Md_placeOf_31 S hr hlk hK ih _ _ _ _ _ _ _ E (lv_sub hl [0, 1, 3] rfl) hM
set_option maxHeartbeats 4000000 in
set_option maxRecDepth 100000 in
theorem rC_Md_placeOf {l : Launch} {D : va_G} {a : Nat → Nat} {cA : Nat → ClassId} {A : Nat → Prop} {g : Nat → Nat} {σ σ2 : St} {x1 : Int32} {r : Int32} (hM : rM_Md_placeOf σ x1 = some (r, σ2)) : Met l y_Md_placeOf (.code y_Md_placeOf prog_10_method_19_code 4 (some .int) :: AW) rrm_Md_placeOf (va_Pc [.ref (a 0), .int x1] (rCP D a cA A g σ)) (rqi D a cA A g r σ2) 0 0 A := by
  refine rmet (nL := 4) (by decide) (Nat.le_of_ble_eq_true rfl) (fun S hr hlk hK E ls hl => ?_)
  have hl : lv_has ls 4 [(0, .ref (a 0)), (1, .int x1)] := hl
  unfold rM_Md_placeOf at hM
  refine lv_aload_n S.1 S.2.1 d_Md_placeOf_0 rfl (lv_at hl 0 rfl) ?_
  obtain ⟨σ2, h1, hM⟩ := bv_inv hM
  refine rcr_10 (As := []) (rest := []) S hK E (rC_Md_walk h1) ⟨Nat.le_of_ble_eq_true rfl, Nat.le_of_ble_eq_true rfl⟩ rfl rfl hl.1 (lv_room (Nat.le_of_ble_eq_true rfl)) d_Md_placeOf_1 (fun H locs E => ?_)
  refine lv_iconst (v := (-1)) S.1 S.2.1 d_Md_placeOf_4 (by decide) ?_
  refine lv_istore_n (lv' := [(2, .int (-1)), (0, .ref (a 0)), (1, .int x1)]) S.1 S.2.1 d_Md_placeOf_5 rfl hl (by decide) rfl (fun ls hl => ?_)
  refine lv_iconst (v := 0) S.1 S.2.1 d_Md_placeOf_6 (by decide) ?_
  refine lv_istore_n (lv' := [(3, .int 0), (2, .int (-1)), (0, .ref (a 0)), (1, .int x1)]) S.1 S.2.1 d_Md_placeOf_7 rfl hl (by decide) rfl (fun ls hl => ?_)
  exact rB_Md_placeOf_8 S hr hlk hK _ _ _ _ _ _ _ _ E (lv_sub hl [2, 3, 1, 0] rfl) hM
set_option maxHeartbeats 4000000 in
set_option maxRecDepth 100000 in
theorem rC_Md_about {l : Launch} {D : va_G} {a : Nat → Nat} {cA : Nat → ClassId} {A : Nat → Prop} {g : Nat → Nat} {σ σ2 : St} {x1 : Int32} {x2 : Int32} {r : Int32} (hM : rM_Md_about σ x1 x2 = some (r, σ2)) : Met l y_Md_about (.code y_Md_about prog_10_method_22_code 3 (some .int) :: AW) rrm_Md_about (va_Pc [.ref (a 0), .int x1, .int x2] (rCP D a cA A g σ)) (rqi D a cA A g r σ2) 0 0 A := by
  refine rmet (nL := 3) (by decide) (Nat.le_of_ble_eq_true rfl) (fun S hr hlk hK E ls hl => ?_)
  have hl : lv_has ls 3 [(0, .ref (a 0)), (1, .int x1), (2, .int x2)] := hl
  unfold rM_Md_about at hM
  refine lv_aload_n S.1 S.2.1 d_Md_about_0 rfl (lv_at hl 0 rfl) ?_
  refine lv_iload_n S.1 S.2.1 d_Md_about_1 rfl (lv_at hl 1 rfl) ?_
  obtain ⟨r2, h1, hM⟩ := br_inv hM
  refine rcr_0 (As := [.int x1]) (rest := []) S hK E (rC_Md_isItem h1) ⟨Nat.le_of_ble_eq_true rfl, Nat.le_of_ble_eq_true rfl⟩ rfl rfl hl.1 (lv_room (Nat.le_of_ble_eq_true rfl)) d_Md_about_2 (fun H locs E => ?_)
  refine lv_if_ne (tgt := 10) S.1 S.2.1 d_Md_about_5 (by decide) (fun c3 => ?_) (fun c3 => ?_)
  · have hM := ifN hM c3
    refine lv_iload_n S.1 S.2.1 d_Md_about_10 rfl (lv_at hl 2 rfl) ?_
    by_cases c4 : x2 = 0
    · have hM := ifP hM c4
      refine lv_tableIn (tgt := 44) S.1 S.2.1 d_Md_about_11 (by rw [c4]; decide) (by rw [c4]; decide) (by rw [c4]; rfl) (by decide) ?_
      refine lv_aload_n S.1 S.2.1 d_Md_about_44 rfl (lv_at hl 0 rfl) ?_
      refine rgf_Md_7_0 S hK E d_Md_about_45 ?_
      refine lv_iload_n S.1 S.2.1 d_Md_about_48 rfl (lv_at hl 1 rfl) ?_
      obtain ⟨h5, hM⟩ := gd_inv hM
      refine ral_1 S hK E h5 d_Md_about_49 ?_
      refine lv_if_eq (tgt := 57) S.1 S.2.1 d_Md_about_50 (by decide) (fun c6 => ?_) (fun c6 => ?_)
      · have hM := ifP hM c6
        refine lv_iconst (v := 0) S.1 S.2.1 d_Md_about_57 (by decide) ?_
        obtain ⟨rfl, rfl⟩ := pr_inj hM
        exact rreti S hr hlk hK E d_Md_about_58
      · have hM := ifN hM c6
        refine lv_iconst (v := 1) S.1 S.2.1 d_Md_about_53 (by decide) ?_
        refine lv_goto (tgt := 58) S.1 S.2.1 d_Md_about_54 (by decide) ?_
        obtain ⟨rfl, rfl⟩ := pr_inj hM
        exact rreti S hr hlk hK E d_Md_about_58
    have hM := ifN hM c4
    by_cases c7 : x2 = 1
    · have hM := ifP hM c7
      refine lv_tableIn (tgt := 59) S.1 S.2.1 d_Md_about_11 (by rw [c7]; decide) (by rw [c7]; decide) (by rw [c7]; rfl) (by decide) ?_
      refine lv_aload_n S.1 S.2.1 d_Md_about_59 rfl (lv_at hl 0 rfl) ?_
      refine rgf_Md_13_0 S hK E d_Md_about_60 ?_
      refine lv_iload_n S.1 S.2.1 d_Md_about_63 rfl (lv_at hl 1 rfl) ?_
      obtain ⟨h8, hM⟩ := gd_inv hM
      refine ral_2 S hK E h8 d_Md_about_64 ?_
      obtain ⟨rfl, rfl⟩ := pr_inj hM
      exact rreti S hr hlk hK E d_Md_about_65
    have hM := ifN hM c7
    by_cases c9 : x2 = 2
    · have hM := ifP hM c9
      refine lv_tableIn (tgt := 66) S.1 S.2.1 d_Md_about_11 (by rw [c9]; decide) (by rw [c9]; decide) (by rw [c9]; rfl) (by decide) ?_
      refine lv_aload_n S.1 S.2.1 d_Md_about_66 rfl (lv_at hl 0 rfl) ?_
      refine rgf_Md_20_0 S hK E d_Md_about_67 ?_
      refine lv_iload_n S.1 S.2.1 d_Md_about_70 rfl (lv_at hl 1 rfl) ?_
      obtain ⟨h10, hM⟩ := gd_inv hM
      refine ral_4 S hK E h10 d_Md_about_71 ?_
      obtain ⟨rfl, rfl⟩ := pr_inj hM
      exact rreti S hr hlk hK E d_Md_about_72
    have hM := ifN hM c9
    by_cases c11 : x2 = 3
    · have hM := ifP hM c11
      refine lv_tableIn (tgt := 73) S.1 S.2.1 d_Md_about_11 (by rw [c11]; decide) (by rw [c11]; decide) (by rw [c11]; rfl) (by decide) ?_
      refine lv_aload_n S.1 S.2.1 d_Md_about_73 rfl (lv_at hl 0 rfl) ?_
      refine rgf_Md_17_0 S hK E d_Md_about_74 ?_
      refine lv_iload_n S.1 S.2.1 d_Md_about_77 rfl (lv_at hl 1 rfl) ?_
      obtain ⟨h12, hM⟩ := gd_inv hM
      refine ral_3 S hK E h12 d_Md_about_78 ?_
      obtain ⟨rfl, rfl⟩ := pr_inj hM
      exact rreti S hr hlk hK E d_Md_about_79
    have hM := ifN hM c11
    by_cases c13 : x2 = 4
    · have hM := ifP hM c13
      refine lv_tableIn (tgt := 80) S.1 S.2.1 d_Md_about_11 (by rw [c13]; decide) (by rw [c13]; decide) (by rw [c13]; rfl) (by decide) ?_
      refine lv_aload_n S.1 S.2.1 d_Md_about_80 rfl (lv_at hl 0 rfl) ?_
      refine lv_iload_n S.1 S.2.1 d_Md_about_81 rfl (lv_at hl 1 rfl) ?_
      obtain ⟨r15, σ16, h14, hM⟩ := bd_inv hM
      refine rcr_11 (As := [.int x1]) (rest := []) S hK E (rC_Md_placeOf h14) ⟨Nat.le_of_ble_eq_true rfl, Nat.le_of_ble_eq_true rfl⟩ rfl rfl hl.1 (lv_room (Nat.le_of_ble_eq_true rfl)) d_Md_about_82 (fun H locs E => ?_)
      obtain ⟨rfl, rfl⟩ := pr_inj hM
      exact rreti S hr hlk hK E d_Md_about_85
    have hM := ifN hM c13
    refine lv_tableOut (tgt := 86) S.1 S.2.1 d_Md_about_11 (by have qc4 := lv_neT c4 (a := 0) (by decide); have qc7 := lv_neT c7 (a := 1) (by decide); have qc9 := lv_neT c9 (a := 2) (by decide); have qc11 := lv_neT c11 (a := 3) (by decide); have qc13 := lv_neT c13 (a := 4) (by decide); omega) (by decide) ?_
    refine lv_bipush (v := (-2)) S.1 S.2.1 d_Md_about_86 (by decide) ?_
    obtain ⟨rfl, rfl⟩ := pr_inj hM
    exact rreti S hr hlk hK E d_Md_about_88
  · have hM := ifP hM c3
    refine lv_iconst (v := (-1)) S.1 S.2.1 d_Md_about_8 (by decide) ?_
    obtain ⟨rfl, rfl⟩ := pr_inj hM
    exact rreti S hr hlk hK E d_Md_about_9
set_option maxHeartbeats 4000000 in
set_option maxRecDepth 100000 in
theorem rC_Md_kid {l : Launch} {D : va_G} {a : Nat → Nat} {cA : Nat → ClassId} {A : Nat → Prop} {g : Nat → Nat} {σ : St} {x1 : Int32} {x2 : Int32} {r : Int32} (hM : rM_Md_kid σ x1 x2 = some r) : Met l y_Md_kid (.code y_Md_kid prog_10_method_23_code 3 (some .int) :: AW) rrm_Md_kid (va_Pc [.ref (a 0), .int x1, .int x2] (rCP D a cA A g σ)) (rqi D a cA A g r σ) 0 0 A := by
  refine rmet (nL := 3) (by decide) (Nat.le_of_ble_eq_true rfl) (fun S hr hlk hK E ls hl => ?_)
  have hl : lv_has ls 3 [(0, .ref (a 0)), (1, .int x1), (2, .int x2)] := hl
  unfold rM_Md_kid at hM
  refine lv_aload_n S.1 S.2.1 d_Md_kid_0 rfl (lv_at hl 0 rfl) ?_
  refine lv_iload_n S.1 S.2.1 d_Md_kid_1 rfl (lv_at hl 1 rfl) ?_
  obtain ⟨r2, h1, hM⟩ := br_inv hM
  refine rcr_3 (As := [.int x1]) (rest := []) S hK E (rC_Md_isNode h1) ⟨Nat.le_of_ble_eq_true rfl, Nat.le_of_ble_eq_true rfl⟩ rfl rfl hl.1 (lv_room (Nat.le_of_ble_eq_true rfl)) d_Md_kid_2 (fun H locs E => ?_)
  refine lv_if_eq (tgt := 38) S.1 S.2.1 d_Md_kid_5 (by decide) (fun c3 => ?_) (fun c3 => ?_)
  · have hM := ifP hM c3
    refine lv_iconst (v := (-1)) S.1 S.2.1 d_Md_kid_38 (by decide) ?_
    obtain rfl := Option.some.inj hM
    exact rreti S hr hlk hK E d_Md_kid_39
  · have hM := ifN hM c3
    refine lv_iload_n S.1 S.2.1 d_Md_kid_8 rfl (lv_at hl 2 rfl) ?_
    refine lv_iconst (v := 0) S.1 S.2.1 d_Md_kid_9 (by decide) ?_
    refine lv_aload_n S.1 S.2.1 d_Md_kid_10 rfl (lv_at hl 0 rfl) ?_
    refine rgf_Md_20_0 S hK E d_Md_kid_11 ?_
    refine lv_iload_n S.1 S.2.1 d_Md_kid_14 rfl (lv_at hl 1 rfl) ?_
    obtain ⟨h4, hM⟩ := gd_inv hM
    refine ral_4 S hK E h4 d_Md_kid_15 ?_
    refine lv_iconst (v := 1) S.1 S.2.1 d_Md_kid_16 (by decide) ?_
    refine lv_isub S.1 S.2.1 d_Md_kid_17 ?_
    obtain ⟨r6, h5, hM⟩ := br_inv hM
    refine rcr_4 (As := [.int x2, .int 0, .int ((σ 3 x1.toNatClampNeg) - 1)]) (rest := []) S hK E (rC_Md_within h5) ⟨Nat.le_of_ble_eq_true rfl, Nat.le_of_ble_eq_true rfl⟩ rfl rfl hl.1 (lv_room (Nat.le_of_ble_eq_true rfl)) d_Md_kid_18 (fun H locs E => ?_)
    refine lv_if_eq (tgt := 38) S.1 S.2.1 d_Md_kid_21 (by decide) (fun c7 => ?_) (fun c7 => ?_)
    · have hM := ifP hM c7
      refine lv_iconst (v := (-1)) S.1 S.2.1 d_Md_kid_38 (by decide) ?_
      obtain rfl := Option.some.inj hM
      exact rreti S hr hlk hK E d_Md_kid_39
    · have hM := ifN hM c7
      refine lv_aload_n S.1 S.2.1 d_Md_kid_24 rfl (lv_at hl 0 rfl) ?_
      refine rgf_Md_23_0 S hK E d_Md_kid_25 ?_
      refine lv_bipush (v := 40) S.1 S.2.1 d_Md_kid_28 (by decide) ?_
      refine lv_iload_n S.1 S.2.1 d_Md_kid_30 rfl (lv_at hl 1 rfl) ?_
      refine lv_imul S.1 S.2.1 d_Md_kid_31 ?_
      refine lv_iload_n S.1 S.2.1 d_Md_kid_32 rfl (lv_at hl 2 rfl) ?_
      refine lv_iadd S.1 S.2.1 d_Md_kid_33 ?_
      obtain ⟨h8, hM⟩ := gd_inv hM
      refine ral_5 S hK E h8 d_Md_kid_34 ?_
      refine lv_goto (tgt := 39) S.1 S.2.1 d_Md_kid_35 (by decide) ?_
      obtain rfl := Option.some.inj hM
      exact rreti S hr hlk hK E d_Md_kid_39
set_option maxHeartbeats 4000000 in
set_option maxRecDepth 100000 in
theorem rB_Md_tell_29 {p : Program} {l : Launch} {e : Env} {s : State} {m : MethodId} {args : Array Value} {below : List Frame} {meth : Method} {c : Code} {D : va_G} {a : Nat → Nat} {cA : Nat → ClassId} {A : Nat → Prop} {g : Nat → Nat} {σ2 : St} (S : CallFix p m c prog_10_method_24_code 3 s args AW R_Md) (hr : meth.sig.returnType = none) (hlk : meth.locks = false) (hK : rKX D cA A g s s.heap) : ∀ (σ : St) (H : Heap) (locs : List Loc) (ls : Array Slot), rEx D a cA A σ s.heap H locs → lv_has ls 3 [(0, .ref (a 0))] → rJ_Md_tell_29 σ = some σ2 → W p l e rrm_Md_tell s m args below meth c H locs 0 0 (MQ below (rqv D a cA A g σ2) args s 0 0 A) (F0 m 29 ls []) := by
  intro σ H locs ls E hl hM
  unfold rJ_Md_tell_29 at hM
  refine lv_aload_n S.1 S.2.1 d_Md_tell_29 rfl (lv_at hl 0 rfl) ?_
  refine lv_dup S.1 S.2.1 d_Md_tell_30 rfl ?_
  refine rgf_Md_131_0 S hK E d_Md_tell_31 ?_
  refine lv_iconst (v := 1) S.1 S.2.1 d_Md_tell_34 (by decide) ?_
  refine lv_iadd S.1 S.2.1 d_Md_tell_35 ?_
  refine rpf_Md_131_0 S hK E d_Md_tell_36 (fun σ1 eσ1 H locs E => ?_)
  have hM := lq_inv hM σ1 eσ1
  obtain rfl := Option.some.inj hM
  exact rretv S hr hlk hK E d_Md_tell_39
set_option maxHeartbeats 4000000 in
set_option maxRecDepth 100000 in
theorem rC_Md_tell {l : Launch} {D : va_G} {a : Nat → Nat} {cA : Nat → ClassId} {A : Nat → Prop} {g : Nat → Nat} {σ σ2 : St} {x1 : Int32} {x2 : Int32} (hM : rM_Md_tell σ x1 x2 = some σ2) : Met l y_Md_tell (.code y_Md_tell prog_10_method_24_code 3 none :: AW) rrm_Md_tell (va_Pc [.ref (a 0), .int x1, .int x2] (rCP D a cA A g σ)) (rqv D a cA A g σ2) 0 0 A := by
  refine rmet (nL := 3) (by decide) (Nat.le_of_ble_eq_true rfl) (fun S hr hlk hK E ls hl => ?_)
  have hl : lv_has ls 3 [(0, .ref (a 0)), (1, .int x1), (2, .int x2)] := hl
  unfold rM_Md_tell at hM
  refine lv_aload_n S.1 S.2.1 d_Md_tell_0 rfl (lv_at hl 0 rfl) ?_
  refine rgf_Md_131_0 S hK E d_Md_tell_1 ?_
  refine lv_bipush (v := 100) S.1 S.2.1 d_Md_tell_4 (by decide) ?_
  refine lv_icmp_ge (tgt := 29) S.1 S.2.1 d_Md_tell_6 (by decide) (fun c1 => ?_) (fun c1 => ?_)
  · have hM := ifP hM c1
    exact rB_Md_tell_29 S hr hlk hK _ _ _ _ E (lv_sub hl [0] rfl) hM
  · have hM := ifN hM c1
    refine lv_aload_n S.1 S.2.1 d_Md_tell_9 rfl (lv_at hl 0 rfl) ?_
    refine rgf_Md_50_0 S hK E d_Md_tell_10 ?_
    refine lv_aload_n S.1 S.2.1 d_Md_tell_13 rfl (lv_at hl 0 rfl) ?_
    refine rgf_Md_131_0 S hK E d_Md_tell_14 ?_
    refine lv_iload_n S.1 S.2.1 d_Md_tell_17 rfl (lv_at hl 1 rfl) ?_
    obtain ⟨h2, hM⟩ := gd_inv hM
    refine ras_14 S hK E h2 d_Md_tell_18 (fun σ3 eσ3 H locs E => ?_)
    have hM := lq_inv hM σ3 eσ3
    refine lv_aload_n S.1 S.2.1 d_Md_tell_19 rfl (lv_at hl 0 rfl) ?_
    refine rgf_Md_53_0 S hK E d_Md_tell_20 ?_
    refine lv_aload_n S.1 S.2.1 d_Md_tell_23 rfl (lv_at hl 0 rfl) ?_
    refine rgf_Md_131_0 S hK E d_Md_tell_24 ?_
    refine lv_iload_n S.1 S.2.1 d_Md_tell_27 rfl (lv_at hl 2 rfl) ?_
    obtain ⟨h4, hM⟩ := gd_inv hM
    refine ras_15 S hK E h4 d_Md_tell_28 (fun σ5 eσ5 H locs E => ?_)
    have hM := lq_inv hM σ5 eσ5
    exact rB_Md_tell_29 S hr hlk hK _ _ _ _ E (lv_sub hl [0] rfl) hM
set_option maxHeartbeats 4000000 in
set_option maxRecDepth 100000 in
theorem rB_Md_isOnWay_31 {p : Program} {l : Launch} {e : Env} {s : State} {m : MethodId} {args : Array Value} {below : List Frame} {meth : Method} {c : Code} {D : va_G} {a : Nat → Nat} {cA : Nat → ClassId} {A : Nat → Prop} {g : Nat → Nat} {σ : St} {r : Int32} (S : CallFix p m c prog_10_method_26_code 4 s args AW R_Md) (hr : meth.sig.returnType = (some .boolean)) (hlk : meth.locks = false) (hK : rKX D cA A g s s.heap) {k4 : Int32 → Int32 → Int32 → Option (Int32)} (hk4 : ∀ (v1 : Int32) (v2 : Int32) (v3 : Int32) (H : Heap) (locs : List Loc) (ls : Array Slot), rEx D a cA A σ s.heap H locs → lv_has ls 4 [(0, .ref (a 0)), (1, .int v1), (2, .int v2), (3, .int v3)] → k4 v1 v2 v3 = some r → W p l e rrm_Md_isOnWay s m args below meth c H locs 0 0 (MQ below (rqi D a cA A g r σ) args s 0 0 A) (F0 m 4 ls [])) : ∀ (v1 : Int32) (v3 : Int32) (t0 : Int32) (H : Heap) (locs : List Loc) (ls : Array Slot), rEx D a cA A σ s.heap H locs → lv_has ls 4 [(0, .ref (a 0)), (1, .int v1), (3, .int v3)] → rJ_Md_isOnWay_31 k4 σ v1 v3 t0 = some r → W p l e rrm_Md_isOnWay s m args below meth c H locs 0 0 (MQ below (rqi D a cA A g r σ) args s 0 0 A) (F0 m 31 ls [.int t0]) := by
  intro v1 v3 t0 H locs ls E hl hM
  unfold rJ_Md_isOnWay_31 at hM
  refine lv_istore_n (lv' := [(2, .int t0), (0, .ref (a 0)), (1, .int v1), (3, .int v3)]) S.1 S.2.1 d_Md_isOnWay_31 rfl hl (by decide) rfl (fun ls hl => ?_)
  obtain ⟨y1, ey1⟩ : ∃ z : Int32, z = v3 + 1 := ⟨_, rfl⟩
  have hM := lq_inv hM y1 ey1
  refine lv_iinc (v := y1) (lv' := [(3, .int y1), (2, .int t0), (0, .ref (a 0)), (1, .int v1)]) S.1 S.2.1 d_Md_isOnWay_32 hl (k := 3) rfl (by rw [ey1]; rfl) (by decide) rfl (fun ls hl => ?_)
  refine lv_goto (tgt := 4) S.1 S.2.1 d_Md_isOnWay_35 (by decide) ?_
  exact hk4 _ _ _ _ _ _ E (lv_sub hl [2, 3, 1, 0] rfl) hM
set_option maxHeartbeats 4000000 in
set_option maxRecDepth 100000 in
theorem rB_Md_isOnWay_26 {p : Program} {l : Launch} {e : Env} {s : State} {m : MethodId} {args : Array Value} {below : List Frame} {meth : Method} {c : Code} {D : va_G} {a : Nat → Nat} {cA : Nat → ClassId} {A : Nat → Prop} {g : Nat → Nat} {σ : St} {r : Int32} (S : CallFix p m c prog_10_method_26_code 4 s args AW R_Md) (hr : meth.sig.returnType = (some .boolean)) (hlk : meth.locks = false) (hK : rKX D cA A g s s.heap) {k4 : Int32 → Int32 → Int32 → Option (Int32)} (hk4 : ∀ (v1 : Int32) (v2 : Int32) (v3 : Int32) (H : Heap) (locs : List Loc) (ls : Array Slot), rEx D a cA A σ s.heap H locs → lv_has ls 4 [(0, .ref (a 0)), (1, .int v1), (2, .int v2), (3, .int v3)] → k4 v1 v2 v3 = some r → W p l e rrm_Md_isOnWay s m args below meth c H locs 0 0 (MQ below (rqi D a cA A g r σ) args s 0 0 A) (F0 m 4 ls [])) : ∀ (v1 : Int32) (v3 : Int32) (H : Heap) (locs : List Loc) (ls : Array Slot), rEx D a cA A σ s.heap H locs → lv_has ls 4 [(0, .ref (a 0)), (1, .int v1), (3, .int v3)] → rJ_Md_isOnWay_26 k4 σ v1 v3 = some r → W p l e rrm_Md_isOnWay s m args below meth c H locs 0 0 (MQ below (rqi D a cA A g r σ) args s 0 0 A) (F0 m 26 ls []) := by
  intro v1 v3 H locs ls E hl hM
  unfold rJ_Md_isOnWay_26 at hM
  refine lv_iconst (v := 1) S.1 S.2.1 d_Md_isOnWay_26 (by decide) ?_
  refine lv_goto (tgt := 31) S.1 S.2.1 d_Md_isOnWay_27 (by decide) ?_
  exact rB_Md_isOnWay_31 S hr hlk hK hk4 _ _ _ _ _ _ E (lv_sub hl [0, 1, 2] rfl) hM
set_option maxHeartbeats 4000000 in
set_option maxRecDepth 100000 in
theorem rB_Md_isOnWay_4 {p : Program} {l : Launch} {e : Env} {s : State} {m : MethodId} {args : Array Value} {below : List Frame} {meth : Method} {c : Code} {D : va_G} {a : Nat → Nat} {cA : Nat → ClassId} {A : Nat → Prop} {g : Nat → Nat} {σ : St} {r : Int32} (S : CallFix p m c prog_10_method_26_code 4 s args AW R_Md) (hr : meth.sig.returnType = (some .boolean)) (hlk : meth.locks = false) (hK : rKX D cA A g s s.heap) : ∀ (n : Nat) (v1 : Int32) (v2 : Int32) (v3 : Int32) (H : Heap) (locs : List Loc) (ls : Array Slot), rEx D a cA A σ s.heap H locs → lv_has ls 4 [(0, .ref (a 0)), (1, .int v1), (2, .int v2), (3, .int v3)] → rL_Md_isOnWay_4 σ n v1 v2 v3 = some r → W p l e rrm_Md_isOnWay s m args below meth c H locs 0 0 (MQ below (rqi D a cA A g r σ) args s 0 0 A) (F0 m 4 ls []) := by
  intro n
  induction n with
  | zero =>
    intro v1 v2 v3 H locs ls E hl hM
    rw [rL_Md_isOnWay_4] at hM
    cases hM
  | succ n ih =>
    intro v1 v2 v3 H locs ls E hl hM
    rw [rL_Md_isOnWay_4] at hM
    refine lv_iload_n S.1 S.2.1 d_Md_isOnWay_4 rfl (lv_at hl 3 rfl) ?_
    refine lv_aload_n S.1 S.2.1 d_Md_isOnWay_5 rfl (lv_at hl 0 rfl) ?_
    refine rgf_Md_108_0 S hK E d_Md_isOnWay_6 ?_
    refine lv_icmp_ge (tgt := 38) S.1 S.2.1 d_Md_isOnWay_9 (by decide) (fun c1 => ?_) (fun c1 => ?_)
    · have hM := ifP hM c1
      refine lv_iload_n S.1 S.2.1 d_Md_isOnWay_38 rfl (lv_at hl 2 rfl) ?_
      obtain ⟨h2, hM⟩ := gd_inv hM
      obtain rfl := Option.some.inj hM
      exact rretz S hr hlk hK E d_Md_isOnWay_39 (boB_n h2)
    · have hM := ifN hM c1
      refine lv_iload_n S.1 S.2.1 d_Md_isOnWay_12 rfl (lv_at hl 2 rfl) ?_
      refine lv_if_ne (tgt := 26) S.1 S.2.1 d_Md_isOnWay_13 (by decide) (fun c3 => ?_) (fun c3 => ?_)
      · have hM := ifN hM c3
        exact rB_Md_isOnWay_26 S hr hlk hK ih _ _ _ _ _ E (lv_sub hl [0, 1, 3] rfl) hM
      · have hM := ifP hM c3
        refine lv_aload_n S.1 S.2.1 d_Md_isOnWay_16 rfl (lv_at hl 0 rfl) ?_
        refine rgf_Md_29_0 S hK E d_Md_isOnWay_17 ?_
        refine lv_iload_n S.1 S.2.1 d_Md_isOnWay_20 rfl (lv_at hl 3 rfl) ?_
        obtain ⟨h4, hM⟩ := gd_inv hM
        refine ral_7 S hK E h4 d_Md_isOnWay_21 ?_
        refine lv_iload_n S.1 S.2.1 d_Md_isOnWay_22 rfl (lv_at hl 1 rfl) ?_
        refine lv_icmp_ne (tgt := 30) S.1 S.2.1 d_Md_isOnWay_23 (by decide) (fun c5 => ?_) (fun c5 => ?_)
        · have hM := ifN hM c5
          refine lv_iconst (v := 0) S.1 S.2.1 d_Md_isOnWay_30 (by decide) ?_
          exact rB_Md_isOnWay_31 S hr hlk hK ih _ _ _ _ _ _ E (lv_sub hl [0, 1, 3] rfl) hM
        · have hM := ifP hM c5
          exact rB_Md_isOnWay_26 S hr hlk hK ih _ _ _ _ _ E (lv_sub hl [0, 1, 3] rfl) hM
set_option maxHeartbeats 4000000 in
set_option maxRecDepth 100000 in
theorem rC_Md_isOnWay {l : Launch} {D : va_G} {a : Nat → Nat} {cA : Nat → ClassId} {A : Nat → Prop} {g : Nat → Nat} {σ : St} {x1 : Int32} {r : Int32} (hM : rM_Md_isOnWay σ x1 = some r) : Met l y_Md_isOnWay (.code y_Md_isOnWay prog_10_method_26_code 4 (some .boolean) :: AW) rrm_Md_isOnWay (va_Pc [.ref (a 0), .int x1] (rCP D a cA A g σ)) (rqi D a cA A g r σ) 0 0 A := by
  refine rmet (nL := 4) (by decide) (Nat.le_of_ble_eq_true rfl) (fun S hr hlk hK E ls hl => ?_)
  have hl : lv_has ls 4 [(0, .ref (a 0)), (1, .int x1)] := hl
  unfold rM_Md_isOnWay at hM
  refine lv_iconst (v := 0) S.1 S.2.1 d_Md_isOnWay_0 (by decide) ?_
  refine lv_istore_n (lv' := [(2, .int 0), (0, .ref (a 0)), (1, .int x1)]) S.1 S.2.1 d_Md_isOnWay_1 rfl hl (by decide) rfl (fun ls hl => ?_)
  refine lv_iconst (v := 0) S.1 S.2.1 d_Md_isOnWay_2 (by decide) ?_
  refine lv_istore_n (lv' := [(3, .int 0), (2, .int 0), (0, .ref (a 0)), (1, .int x1)]) S.1 S.2.1 d_Md_isOnWay_3 rfl hl (by decide) rfl (fun ls hl => ?_)
  exact rB_Md_isOnWay_4 S hr hlk hK _ _ _ _ _ _ _ E (lv_sub hl [2, 3, 1, 0] rfl) hM
set_option maxHeartbeats 4000000 in
set_option maxRecDepth 100000 in
theorem rB_Md_takeOff_12 {p : Program} {l : Launch} {e : Env} {s : State} {m : MethodId} {args : Array Value} {below : List Frame} {meth : Method} {c : Code} {D : va_G} {a : Nat → Nat} {cA : Nat → ClassId} {A : Nat → Prop} {g : Nat → Nat} {σ2 : St} (S : CallFix p m c prog_10_method_25_code 4 s args AW R_Md) (hr : meth.sig.returnType = none) (hlk : meth.locks = false) (hK : rKX D cA A g s s.heap) : ∀ (n : Nat) (σ : St) (v1 : Int32) (v3 : Int32) (H : Heap) (locs : List Loc) (ls : Array Slot), rEx D a cA A σ s.heap H locs → lv_has ls 4 [(0, .ref (a 0)), (1, .int v1), (3, .int v3)] → rL_Md_takeOff_12 n σ v1 v3 = some σ2 → W p l e rrm_Md_takeOff s m args below meth c H locs 0 0 (MQ below (rqv D a cA A g σ2) args s 0 0 A) (F0 m 12 ls []) := by
  intro n
  induction n with
  | zero =>
    intro σ v1 v3 H locs ls E hl hM
    rw [rL_Md_takeOff_12] at hM
    cases hM
  | succ n ih =>
    intro σ v1 v3 H locs ls E hl hM
    rw [rL_Md_takeOff_12] at hM
    refine lv_iload_n S.1 S.2.1 d_Md_takeOff_12 rfl (lv_at hl 2 rfl) ?_
    refine lv_aload_n S.1 S.2.1 d_Md_takeOff_13 rfl (lv_at hl 0 rfl) ?_
    refine rgf_Md_20_0 S hK E d_Md_takeOff_14 ?_
    refine lv_iload_n S.1 S.2.1 d_Md_takeOff_17 rfl (lv_at hl 1 rfl) ?_
    obtain ⟨h1, hM⟩ := gd_inv hM
    refine ral_4 S hK E h1 d_Md_takeOff_18 ?_
    refine lv_icmp_ge (tgt := 52) S.1 S.2.1 d_Md_takeOff_19 (by decide) (fun c2 => ?_) (fun c2 => ?_)
    · have hM := ifP hM c2
      obtain rfl := Option.some.inj hM
      exact rretv S hr hlk hK E d_Md_takeOff_52
    · have hM := ifN hM c2
      refine lv_aload_n S.1 S.2.1 d_Md_takeOff_22 rfl (lv_at hl 0 rfl) ?_
      refine rgf_Md_23_0 S hK E d_Md_takeOff_23 ?_
      refine lv_bipush (v := 40) S.1 S.2.1 d_Md_takeOff_26 (by decide) ?_
      refine lv_iload_n S.1 S.2.1 d_Md_takeOff_28 rfl (lv_at hl 1 rfl) ?_
      refine lv_imul S.1 S.2.1 d_Md_takeOff_29 ?_
      refine lv_iload_n S.1 S.2.1 d_Md_takeOff_30 rfl (lv_at hl 2 rfl) ?_
      refine lv_iadd S.1 S.2.1 d_Md_takeOff_31 ?_
      refine lv_aload_n S.1 S.2.1 d_Md_takeOff_32 rfl (lv_at hl 0 rfl) ?_
      refine rgf_Md_23_0 S hK E d_Md_takeOff_33 ?_
      refine lv_bipush (v := 40) S.1 S.2.1 d_Md_takeOff_36 (by decide) ?_
      refine lv_iload_n S.1 S.2.1 d_Md_takeOff_38 rfl (lv_at hl 1 rfl) ?_
      refine lv_imul S.1 S.2.1 d_Md_takeOff_39 ?_
      refine lv_iload_n S.1 S.2.1 d_Md_takeOff_40 rfl (lv_at hl 2 rfl) ?_
      refine lv_iadd S.1 S.2.1 d_Md_takeOff_41 ?_
      refine lv_iconst (v := 1) S.1 S.2.1 d_Md_takeOff_42 (by decide) ?_
      refine lv_iadd S.1 S.2.1 d_Md_takeOff_43 ?_
      obtain ⟨h3, hM⟩ := gd_inv hM
      refine ral_5 S hK E h3 d_Md_takeOff_44 ?_
      obtain ⟨h4, hM⟩ := gd_inv hM
      refine ras_5 S hK E h4 d_Md_takeOff_45 (fun σ5 eσ5 H locs E => ?_)
      have hM := lq_inv hM σ5 eσ5
      obtain ⟨y6, ey6⟩ : ∃ z : Int32, z = v3 + 1 := ⟨_, rfl⟩
      have hM := lq_inv hM y6 ey6
      refine lv_iinc (v := y6) (lv' := [(3, .int y6), (0, .ref (a 0)), (1, .int v1)]) S.1 S.2.1 d_Md_takeOff_46 hl (k := 2) rfl (by rw [ey6]; rfl) (by decide) rfl (fun ls hl => ?_)
      refine lv_goto (tgt := 12) S.1 S.2.1 d_Md_takeOff_49 (by decide) ?_
      exact ih _ _ _ _ _ _ E (lv_sub hl [1, 2, 0] rfl) hM
set_option maxHeartbeats 4000000 in
set_option maxRecDepth 100000 in
theorem rC_Md_takeOff {l : Launch} {D : va_G} {a : Nat → Nat} {cA : Nat → ClassId} {A : Nat → Prop} {g : Nat → Nat} {σ σ2 : St} {x1 : Int32} {x2 : Int32} (hM : rM_Md_takeOff σ x1 x2 = some σ2) : Met l y_Md_takeOff (.code y_Md_takeOff prog_10_method_25_code 4 none :: AW) rrm_Md_takeOff (va_Pc [.ref (a 0), .int x1, .int x2] (rCP D a cA A g σ)) (rqv D a cA A g σ2) 0 0 A := by
  refine rmet (nL := 4) (by decide) (Nat.le_of_ble_eq_true rfl) (fun S hr hlk hK E ls hl => ?_)
  have hl : lv_has ls 4 [(0, .ref (a 0)), (1, .int x1), (2, .int x2)] := hl
  unfold rM_Md_takeOff at hM
  refine lv_aload_n S.1 S.2.1 d_Md_takeOff_0 rfl (lv_at hl 0 rfl) ?_
  refine rgf_Md_20_0 S hK E d_Md_takeOff_1 ?_
  refine lv_iload_n S.1 S.2.1 d_Md_takeOff_4 rfl (lv_at hl 1 rfl) ?_
  refine lv_dup2_11 S.1 S.2.1 d_Md_takeOff_5 rfl rfl ?_
  obtain ⟨h1, hM⟩ := gd_inv hM
  refine ral_4 S hK E h1 d_Md_takeOff_6 ?_
  refine lv_iconst (v := 1) S.1 S.2.1 d_Md_takeOff_7 (by decide) ?_
  refine lv_isub S.1 S.2.1 d_Md_takeOff_8 ?_
  obtain ⟨h2, hM⟩ := gd_inv hM
  refine ras_4 S hK E h2 d_Md_takeOff_9 (fun σ3 eσ3 H locs E => ?_)
  have hM := lq_inv hM σ3 eσ3
  refine lv_iload_n S.1 S.2.1 d_Md_takeOff_10 rfl (lv_at hl 2 rfl) ?_
  refine lv_istore_n (lv' := [(3, .int x2), (0, .ref (a 0)), (1, .int x1), (2, .int x2)]) S.1 S.2.1 d_Md_takeOff_11 rfl hl (by decide) rfl (fun ls hl => ?_)
  exact rB_Md_takeOff_12 S hr hlk hK _ _ _ _ _ _ _ E (lv_sub hl [1, 2, 0] rfl) hM
set_option maxHeartbeats 4000000 in
set_option maxRecDepth 100000 in
theorem rB_Md_mendKid_35 {p : Program} {l : Launch} {e : Env} {s : State} {m : MethodId} {args : Array Value} {below : List Frame} {meth : Method} {c : Code} {D : va_G} {a : Nat → Nat} {cA : Nat → ClassId} {A : Nat → Prop} {g : Nat → Nat} {σ2 : St} {r : Int32} (S : CallFix p m c prog_10_method_27_code 6 s args AW R_Md) (hr : meth.sig.returnType = (some .boolean)) (hlk : meth.locks = false) (hK : rKX D cA A g s s.heap) : ∀ (σ : St) (v1 : Int32) (v2 : Int32) (v3 : Int32) (t1 : Int32) (H : Heap) (locs : List Loc) (ls : Array Slot), rEx D a cA A σ s.heap H locs → lv_has ls 6 [(0, .ref (a 0)), (1, .int v1), (2, .int v2), (3, .int v3)] → rJ_Md_mendKid_35 σ v1 v2 v3 t1 = some (r, σ2) → W p l e rrm_Md_mendKid s m args below meth c H locs 0 0 (MQ below (rqi D a cA A g r σ2) args s 0 0 A) (F0 m 35 ls [.int t1, .ref (a 0)]) := by
  intro σ v1 v2 v3 t1 H locs ls E hl hM
  unfold rJ_Md_mendKid_35 at hM
  refine lv_iload_n S.1 S.2.1 d_Md_mendKid_35 rfl (lv_at hl 3 rfl) ?_
  obtain ⟨σ2, h1, hM⟩ := bv_inv hM
  refine rcr_12 (As := [.int t1, .int v3]) (rest := []) S hK E (rC_Md_tell h1) ⟨Nat.le_of_ble_eq_true rfl, Nat.le_of_ble_eq_true rfl⟩ rfl rfl hl.1 (lv_room (Nat.le_of_ble_eq_true rfl)) d_Md_mendKid_36 (fun H locs E => ?_)
  refine lv_aload_n S.1 S.2.1 d_Md_mendKid_39 rfl (lv_at hl 0 rfl) ?_
  refine lv_iload_n S.1 S.2.1 d_Md_mendKid_40 rfl (lv_at hl 1 rfl) ?_
  refine lv_iload_n S.1 S.2.1 d_Md_mendKid_41 rfl (lv_at hl 2 rfl) ?_
  obtain ⟨σ4, h3, hM⟩ := bv_inv hM
  refine rcr_13 (As := [.int v1, .int v2]) (rest := []) S hK E (rC_Md_takeOff h3) ⟨Nat.le_of_ble_eq_true rfl, Nat.le_of_ble_eq_true rfl⟩ rfl rfl hl.1 (lv_room (Nat.le_of_ble_eq_true rfl)) d_Md_mendKid_42 (fun H locs E => ?_)
  refine lv_iconst (v := 0) S.1 S.2.1 d_Md_mendKid_45 (by decide) ?_
  obtain ⟨rfl, rfl⟩ := pr_inj hM
  exact rretz S hr hlk hK E d_Md_mendKid_46 rfl
set_option maxHeartbeats 4000000 in
set_option maxRecDepth 100000 in
theorem rB_Md_mendKid_124 {p : Program} {l : Launch} {e : Env} {s : State} {m : MethodId} {args : Array Value} {below : List Frame} {meth : Method} {c : Code} {D : va_G} {a : Nat → Nat} {cA : Nat → ClassId} {A : Nat → Prop} {g : Nat → Nat} {σ2 : St} {r : Int32} (S : CallFix p m c prog_10_method_27_code 6 s args AW R_Md) (hr : meth.sig.returnType = (some .boolean)) (hlk : meth.locks = false) (hK : rKX D cA A g s s.heap) : ∀ (σ : St) (v1 : Int32) (v2 : Int32) (v4 : Int32) (H : Heap) (locs : List Loc) (ls : Array Slot), rEx D a cA A σ s.heap H locs → lv_has ls 6 [(0, .ref (a 0)), (1, .int v1), (2, .int v2), (4, .int v4)] → rJ_Md_mendKid_124 σ v1 v2 v4 = some (r, σ2) → W p l e rrm_Md_mendKid s m args below meth c H locs 0 0 (MQ below (rqi D a cA A g r σ2) args s 0 0 A) (F0 m 124 ls []) := by
  intro σ v1 v2 v4 H locs ls E hl hM
  unfold rJ_Md_mendKid_124 at hM
  refine lv_aload_n S.1 S.2.1 d_Md_mendKid_124 rfl (lv_at hl 0 rfl) ?_
  refine rgf_Md_35_0 S hK E d_Md_mendKid_125 ?_
  refine lv_iload S.1 S.2.1 d_Md_mendKid_128 (lv_at hl 3 rfl) ?_
  refine lv_iconst (v := 0) S.1 S.2.1 d_Md_mendKid_130 (by decide) ?_
  obtain ⟨h1, hM⟩ := gd_inv hM
  refine ras_9 S hK E h1 d_Md_mendKid_131 (fun σ2 eσ2 H locs E => ?_)
  have hM := lq_inv hM σ2 eσ2
  refine lv_aload_n S.1 S.2.1 d_Md_mendKid_132 rfl (lv_at hl 0 rfl) ?_
  refine rgf_Md_23_0 S hK E d_Md_mendKid_133 ?_
  refine lv_bipush (v := 40) S.1 S.2.1 d_Md_mendKid_136 (by decide) ?_
  refine lv_iload_n S.1 S.2.1 d_Md_mendKid_138 rfl (lv_at hl 1 rfl) ?_
  refine lv_imul S.1 S.2.1 d_Md_mendKid_139 ?_
  refine lv_iload_n S.1 S.2.1 d_Md_mendKid_140 rfl (lv_at hl 2 rfl) ?_
  refine lv_iadd S.1 S.2.1 d_Md_mendKid_141 ?_
  refine lv_iload S.1 S.2.1 d_Md_mendKid_142 (lv_at hl 3 rfl) ?_
  obtain ⟨h3, hM⟩ := gd_inv hM
  refine ras_5 S hK E h3 d_Md_mendKid_144 (fun σ4 eσ4 H locs E => ?_)
  have hM := lq_inv hM σ4 eσ4
  refine lv_iconst (v := 1) S.1 S.2.1 d_Md_mendKid_145 (by decide) ?_
  obtain ⟨rfl, rfl⟩ := pr_inj hM
  exact rretz S hr hlk hK E d_Md_mendKid_146 rfl
set_option maxHeartbeats 4000000 in
set_option maxRecDepth 100000 in
theorem rB_Md_mendKid_89 {p : Program} {l : Launch} {e : Env} {s : State} {m : MethodId} {args : Array Value} {below : List Frame} {meth : Method} {c : Code} {D : va_G} {a : Nat → Nat} {cA : Nat → ClassId} {A : Nat → Prop} {g : Nat → Nat} {σ2 : St} {r : Int32} (S : CallFix p m c prog_10_method_27_code 6 s args AW R_Md) (hr : meth.sig.returnType = (some .boolean)) (hlk : meth.locks = false) (hK : rKX D cA A g s s.heap) : ∀ (n : Nat) (σ : St) (v1 : Int32) (v2 : Int32) (v3 : Int32) (v4 : Int32) (v5 : Int32) (H : Heap) (locs : List Loc) (ls : Array Slot), rEx D a cA A σ s.heap H locs → lv_has ls 6 [(0, .ref (a 0)), (1, .int v1), (2, .int v2), (3, .int v3), (4, .int v4), (5, .int v5)] → rL_Md_mendKid_89 n σ v1 v2 v3 v4 v5 = some (r, σ2) → W p l e rrm_Md_mendKid s m args below meth c H locs 0 0 (MQ below (rqi D a cA A g r σ2) args s 0 0 A) (F0 m 89 ls []) := by
  intro n
  induction n with
  | zero =>
    intro σ v1 v2 v3 v4 v5 H locs ls E hl hM
    rw [rL_Md_mendKid_89] at hM
    cases hM
  | succ n ih =>
    intro σ v1 v2 v3 v4 v5 H locs ls E hl hM
    rw [rL_Md_mendKid_89] at hM
    refine lv_iload S.1 S.2.1 d_Md_mendKid_89 (lv_at hl 5 rfl) ?_
    refine lv_iconst (v := 4) S.1 S.2.1 d_Md_mendKid_91 (by decide) ?_
    refine lv_icmp_ge (tgt := 124) S.1 S.2.1 d_Md_mendKid_92 (by decide) (fun c1 => ?_) (fun c1 => ?_)
    · have hM := ifP hM c1
      exact rB_Md_mendKid_124 S hr hlk hK _ _ _ _ _ _ _ E (lv_sub hl [0, 1, 2, 4] rfl) hM
    · have hM := ifN hM c1
      refine lv_aload_n S.1 S.2.1 d_Md_mendKid_95 rfl (lv_at hl 0 rfl) ?_
      refine rgf_Md_26_0 S hK E d_Md_mendKid_96 ?_
      refine lv_iconst (v := 4) S.1 S.2.1 d_Md_mendKid_99 (by decide) ?_
      refine lv_iload S.1 S.2.1 d_Md_mendKid_100 (lv_at hl 4 rfl) ?_
      refine lv_imul S.1 S.2.1 d_Md_mendKid_102 ?_
      refine lv_iload S.1 S.2.1 d_Md_mendKid_103 (lv_at hl 5 rfl) ?_
      refine lv_iadd S.1 S.2.1 d_Md_mendKid_105 ?_
      refine lv_aload_n S.1 S.2.1 d_Md_mendKid_106 rfl (lv_at hl 0 rfl) ?_
      refine rgf_Md_26_0 S hK E d_Md_mendKid_107 ?_
      refine lv_iconst (v := 4) S.1 S.2.1 d_Md_mendKid_110 (by decide) ?_
      refine lv_iload_n S.1 S.2.1 d_Md_mendKid_111 rfl (lv_at hl 3 rfl) ?_
      refine lv_imul S.1 S.2.1 d_Md_mendKid_112 ?_
      refine lv_iload S.1 S.2.1 d_Md_mendKid_113 (lv_at hl 5 rfl) ?_
      refine lv_iadd S.1 S.2.1 d_Md_mendKid_115 ?_
      obtain ⟨h2, hM⟩ := gd_inv hM
      refine ral_6 S hK E h2 d_Md_mendKid_116 ?_
      obtain ⟨h3, hM⟩ := gd_inv hM
      refine ras_6 S hK E h3 d_Md_mendKid_117 (fun σ4 eσ4 H locs E => ?_)
      have hM := lq_inv hM σ4 eσ4
      obtain ⟨y5, ey5⟩ : ∃ z : Int32, z = v5 + 1 := ⟨_, rfl⟩
      have hM := lq_inv hM y5 ey5
      refine lv_iinc (v := y5) (lv' := [(5, .int y5), (0, .ref (a 0)), (1, .int v1), (2, .int v2), (3, .int v3), (4, .int v4)]) S.1 S.2.1 d_Md_mendKid_118 hl (k := 5) rfl (by rw [ey5]; rfl) (by decide) rfl (fun ls hl => ?_)
      refine lv_goto (tgt := 89) S.1 S.2.1 d_Md_mendKid_121 (by decide) ?_
      exact ih _ _ _ _ _ _ _ _ _ E (lv_sub hl [1, 2, 3, 4, 5, 0] rfl) hM
set_option maxHeartbeats 4000000 in
set_option maxRecDepth 100000 in
theorem rC_Md_mendKid {l : Launch} {D : va_G} {a : Nat → Nat} {cA : Nat → ClassId} {A : Nat → Prop} {g : Nat → Nat} {σ σ2 : St} {x1 : Int32} {x2 : Int32} {r : Int32} (hM : rM_Md_mendKid σ x1 x2 = some (r, σ2)) : Met l y_Md_mendKid (.code y_Md_mendKid prog_10_method_27_code 6 (some .boolean) :: AW) rrm_Md_mendKid (va_Pc [.ref (a 0), .int x1, .int x2] (rCP D a cA A g σ)) (rqi D a cA A g r σ2) 0 0 A := by
  refine rmet (nL := 6) (by decide) (Nat.le_of_ble_eq_true rfl) (fun S hr hlk hK E ls hl => ?_)
  have hl : lv_has ls 6 [(0, .ref (a 0)), (1, .int x1), (2, .int x2)] := hl
  unfold rM_Md_mendKid at hM
  refine lv_aload_n S.1 S.2.1 d_Md_mendKid_0 rfl (lv_at hl 0 rfl) ?_
  refine rgf_Md_23_0 S hK E d_Md_mendKid_1 ?_
  refine lv_bipush (v := 40) S.1 S.2.1 d_Md_mendKid_4 (by decide) ?_
  refine lv_iload_n S.1 S.2.1 d_Md_mendKid_6 rfl (lv_at hl 1 rfl) ?_
  refine lv_imul S.1 S.2.1 d_Md_mendKid_7 ?_
  refine lv_iload_n S.1 S.2.1 d_Md_mendKid_8 rfl (lv_at hl 2 rfl) ?_
  refine lv_iadd S.1 S.2.1 d_Md_mendKid_9 ?_
  obtain ⟨h1, hM⟩ := gd_inv hM
  refine ral_5 S hK E h1 d_Md_mendKid_10 ?_
  refine lv_topi (fun y2 ey2 => ?_)
  have hM := lq_inv hM y2 ey2
  refine lv_istore_n (lv' := [(3, .int y2), (0, .ref (a 0)), (1, .int x1), (2, .int x2)]) S.1 S.2.1 d_Md_mendKid_11 rfl hl (by decide) rfl (fun ls hl => ?_)
  refine lv_aload_n S.1 S.2.1 d_Md_mendKid_12 rfl (lv_at hl 1 rfl) ?_
  refine rgf_Md_7_0 S hK E d_Md_mendKid_13 ?_
  refine lv_iload_n S.1 S.2.1 d_Md_mendKid_16 rfl (lv_at hl 0 rfl) ?_
  obtain ⟨h3, hM⟩ := gd_inv hM
  refine ral_1 S hK E h3 d_Md_mendKid_17 ?_
  refine lv_if_ne (tgt := 47) S.1 S.2.1 d_Md_mendKid_18 (by decide) (fun c4 => ?_) (fun c4 => ?_)
  · have hM := ifN hM c4
    refine lv_aload_n S.1 S.2.1 d_Md_mendKid_47 rfl (lv_at hl 1 rfl) ?_
    refine rgf_Md_77_0 S hK E d_Md_mendKid_48 ?_
    refine lv_sipush (v := 200) S.1 S.2.1 d_Md_mendKid_51 (by decide) ?_
    refine lv_icmp_ne (tgt := 71) S.1 S.2.1 d_Md_mendKid_54 (by decide) (fun c5 => ?_) (fun c5 => ?_)
    · have hM := ifN hM c5
      refine lv_aload_n S.1 S.2.1 d_Md_mendKid_71 rfl (lv_at hl 1 rfl) ?_
      refine lv_iconst (v := 3) S.1 S.2.1 d_Md_mendKid_72 (by decide) ?_
      refine lv_iload_n S.1 S.2.1 d_Md_mendKid_73 rfl (lv_at hl 0 rfl) ?_
      obtain ⟨σ7, h6, hM⟩ := bv_inv hM
      refine rcr_12 (As := [.int 3, .int y2]) (rest := []) S hK E (rC_Md_tell h6) ⟨Nat.le_of_ble_eq_true rfl, Nat.le_of_ble_eq_true rfl⟩ rfl rfl hl.1 (lv_room (Nat.le_of_ble_eq_true rfl)) d_Md_mendKid_74 (fun H locs E => ?_)
      refine lv_aload_n S.1 S.2.1 d_Md_mendKid_77 rfl (lv_at hl 1 rfl) ?_
      refine lv_iconst (v := 1) S.1 S.2.1 d_Md_mendKid_78 (by decide) ?_
      refine lv_iload_n S.1 S.2.1 d_Md_mendKid_79 rfl (lv_at hl 2 rfl) ?_
      refine lv_iconst (v := 0) S.1 S.2.1 d_Md_mendKid_80 (by decide) ?_
      obtain ⟨r9, σ10, h8, hM⟩ := bd_inv hM
      refine rcr_1 (As := [.int 1, .int x1, .int 0]) (rest := []) S hK E (rC_Md_made h8) ⟨Nat.le_of_ble_eq_true rfl, Nat.le_of_ble_eq_true rfl⟩ rfl rfl hl.1 (lv_room (Nat.le_of_ble_eq_true rfl)) d_Md_mendKid_81 (fun H locs E => ?_)
      refine lv_istore (lv' := [(4, .int r9), (3, .int y2), (0, .ref (a 0)), (1, .int x1), (2, .int x2)]) S.1 S.2.1 d_Md_mendKid_84 hl (by decide) rfl (fun ls hl => ?_)
      refine lv_iconst (v := 0) S.1 S.2.1 d_Md_mendKid_86 (by decide) ?_
      refine lv_istore (lv' := [(5, .int 0), (4, .int r9), (3, .int y2), (0, .ref (a 0)), (1, .int x1), (2, .int x2)]) S.1 S.2.1 d_Md_mendKid_87 hl (by decide) rfl (fun ls hl => ?_)
      exact rB_Md_mendKid_89 S hr hlk hK _ _ _ _ _ _ _ _ _ _ E (lv_sub hl [3, 4, 5, 2, 1, 0] rfl) hM
    · have hM := ifP hM c5
      refine lv_aload_n S.1 S.2.1 d_Md_mendKid_57 rfl (lv_at hl 1 rfl) ?_
      refine lv_iconst (v := 5) S.1 S.2.1 d_Md_mendKid_58 (by decide) ?_
      refine lv_iload_n S.1 S.2.1 d_Md_mendKid_59 rfl (lv_at hl 0 rfl) ?_
      obtain ⟨σ12, h11, hM⟩ := bv_inv hM
      refine rcr_12 (As := [.int 5, .int y2]) (rest := []) S hK E (rC_Md_tell h11) ⟨Nat.le_of_ble_eq_true rfl, Nat.le_of_ble_eq_true rfl⟩ rfl rfl hl.1 (lv_room (Nat.le_of_ble_eq_true rfl)) d_Md_mendKid_60 (fun H locs E => ?_)
      refine lv_aload_n S.1 S.2.1 d_Md_mendKid_63 rfl (lv_at hl 1 rfl) ?_
      refine lv_iload_n S.1 S.2.1 d_Md_mendKid_64 rfl (lv_at hl 2 rfl) ?_
      refine lv_iload_n S.1 S.2.1 d_Md_mendKid_65 rfl (lv_at hl 3 rfl) ?_
      obtain ⟨σ14, h13, hM⟩ := bv_inv hM
      refine rcr_13 (As := [.int x1, .int x2]) (rest := []) S hK E (rC_Md_takeOff h13) ⟨Nat.le_of_ble_eq_true rfl, Nat.le_of_ble_eq_true rfl⟩ rfl rfl hl.1 (lv_room (Nat.le_of_ble_eq_true rfl)) d_Md_mendKid_66 (fun H locs E => ?_)
      refine lv_iconst (v := 0) S.1 S.2.1 d_Md_mendKid_69 (by decide) ?_
      obtain ⟨rfl, rfl⟩ := pr_inj hM
      exact rretz S hr hlk hK E d_Md_mendKid_70 rfl
  · have hM := ifP hM c4
    refine lv_aload_n S.1 S.2.1 d_Md_mendKid_21 rfl (lv_at hl 1 rfl) ?_
    refine lv_aload_n S.1 S.2.1 d_Md_mendKid_22 rfl (lv_at hl 1 rfl) ?_
    refine lv_iload_n S.1 S.2.1 d_Md_mendKid_23 rfl (lv_at hl 0 rfl) ?_
    obtain ⟨r16, h15, hM⟩ := br_inv hM
    refine rcr_14 (As := [.int y2]) (rest := [.ref (a 0)]) S hK E (rC_Md_isOnWay h15) ⟨Nat.le_of_ble_eq_true rfl, Nat.le_of_ble_eq_true rfl⟩ rfl rfl hl.1 (lv_room (Nat.le_of_ble_eq_true rfl)) d_Md_mendKid_24 (fun H locs E => ?_)
    refine lv_if_eq (tgt := 34) S.1 S.2.1 d_Md_mendKid_27 (by decide) (fun c17 => ?_) (fun c17 => ?_)
    · have hM := ifP hM c17
      refine lv_iconst (v := 2) S.1 S.2.1 d_Md_mendKid_34 (by decide) ?_
      exact rB_Md_mendKid_35 S hr hlk hK _ _ _ _ _ _ _ _ E (lv_sub hl [1, 2, 3, 0] rfl) hM
    · have hM := ifN hM c17
      refine lv_iconst (v := 1) S.1 S.2.1 d_Md_mendKid_30 (by decide) ?_
      refine lv_goto (tgt := 35) S.1 S.2.1 d_Md_mendKid_31 (by decide) ?_
      exact rB_Md_mendKid_35 S hr hlk hK _ _ _ _ _ _ _ _ E (lv_sub hl [1, 2, 3, 0] rfl) hM
