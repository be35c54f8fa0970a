set_option maxHeartbeats 4000000 in
set_option maxRecDepth 100000 in
theorem kB_Walk_walkAll_Mender_144 {p : Program} {l : Launch} {e : Env} {s : State} {m : MethodId} {args : Array Value} {below : List Frame} {meth : Method} {c : Code} {D : va_G} {a : Nat → Nat} {cA : Nat → ClassId} {A : Nat → Prop} {g : Nat → Nat} {σ2 : St} (S : CallFix p m c prog_8_method_6_code 6 s args AW R_Walk) (hr : meth.sig.returnType = none) (hlk : meth.locks = false) (hK : kKX D cA A g s s.heap) {k51 : St → Int32 → Option (St)} (hk51 : ∀ (σ : St) (v1 : Int32) (H : Heap) (locs : List Loc) (ls : Array Slot), kEx D a cA A σ s.heap H locs → lv_has ls 6 [(0, .ref (a 3)), (1, .int v1)] → k51 σ v1 = some σ2 → W p l e krm_Walk_walkAll_Mender s m args below meth c H locs 0 0 (MQ below (kqv D a cA A g σ2) args s 0 0 A) (F0 m 51 ls [])) : ∀ (σ : St) (v1 : Int32) (H : Heap) (locs : List Loc) (ls : Array Slot), kEx D a cA A σ s.heap H locs → lv_has ls 6 [(0, .ref (a 3)), (1, .int v1)] → kJ_Walk_walkAll_Mender_144 k51 σ v1 = some σ2 → W p l e krm_Walk_walkAll_Mender s m args below meth c H locs 0 0 (MQ below (kqv D a cA A g σ2) args s 0 0 A) (F0 m 144 ls []) := by
  intro σ v1 H locs ls E hl hM
  unfold kJ_Walk_walkAll_Mender_144 at hM
  obtain ⟨y1, ey1⟩ : ∃ z : Int32, z = v1 + 1 := ⟨_, rfl⟩
  have hM := lq_inv hM y1 ey1
  refine lv_iinc (v := y1) (lv' := [(1, .int y1), (0, .ref (a 3))]) S.1 S.2.1 d_Walk_walkAll_144 hl (k := 1) rfl (by rw [ey1]; rfl) (by decide) rfl (fun ls hl => ?_)
  refine lv_goto (tgt := 51) S.1 S.2.1 d_Walk_walkAll_147 (by decide) ?_
  exact hk51 _ _ _ _ _ E (lv_sub hl [1, 0] rfl) hM
set_option maxHeartbeats 4000000 in
set_option maxRecDepth 100000 in
theorem kB_Walk_walkAll_Mender_51 {p : Program} {l : Launch} {e : Env} {s : State} {m : MethodId} {args : Array Value} {below : List Frame} {meth : Method} {c : Code} {D : va_G} {a : Nat → Nat} {cA : Nat → ClassId} {A : Nat → Prop} {g : Nat → Nat} {σ2 : St} (S : CallFix p m c prog_8_method_6_code 6 s args AW R_Walk) (hr : meth.sig.returnType = none) (hlk : meth.locks = false) (hK : kKX D cA A g s s.heap) : ∀ (n : Nat) (σ : St) (v1 : Int32) (H : Heap) (locs : List Loc) (ls : Array Slot), kEx D a cA A σ s.heap H locs → lv_has ls 6 [(0, .ref (a 3)), (1, .int v1)] → kL_Walk_walkAll_Mender_51 n σ v1 = some σ2 → W p l e krm_Walk_walkAll_Mender s m args below meth c H locs 0 0 (MQ below (kqv D a cA A g σ2) args s 0 0 A) (F0 m 51 ls []) := by
  intro n
  induction n with
  | zero =>
    intro σ v1 H locs ls E hl hM
    rw [kL_Walk_walkAll_Mender_51] at hM
    cases hM
  | succ n ih =>
    intro σ v1 H locs ls E hl hM
    rw [kL_Walk_walkAll_Mender_51] at hM
    refine lv_iload_n S.1 S.2.1 d_Walk_walkAll_51 rfl (lv_at hl 1 rfl) ?_
    refine lv_sipush (v := 8200) S.1 S.2.1 d_Walk_walkAll_52 (by decide) ?_
    refine lv_icmp_ge (tgt := 150) S.1 S.2.1 d_Walk_walkAll_55 (by decide) (fun c1 => ?_) (fun c1 => ?_)
    · have hM := ifP hM c1
      obtain rfl := Option.some.inj hM
      exact kretv S hr hlk hK E d_Walk_walkAll_150
    · have hM := ifN hM c1
      refine lv_aload_n S.1 S.2.1 d_Walk_walkAll_58 rfl (lv_at hl 0 rfl) ?_
      refine kgf_Walk_26_3 S hK E d_Walk_walkAll_59 ?_
      refine lv_if_le (tgt := 150) S.1 S.2.1 d_Walk_walkAll_62 (by decide) (fun c2 => ?_) (fun c2 => ?_)
      · have hM := ifP hM c2
        obtain rfl := Option.some.inj hM
        exact kretv S hr hlk hK E d_Walk_walkAll_150
      · have hM := ifN hM c2
        refine lv_aload_n S.1 S.2.1 d_Walk_walkAll_65 rfl (lv_at hl 0 rfl) ?_
        refine kgf_Walk_26_3 S hK E d_Walk_walkAll_66 ?_
        refine lv_iconst (v := 1) S.1 S.2.1 d_Walk_walkAll_69 (by decide) ?_
        refine lv_isub S.1 S.2.1 d_Walk_walkAll_70 ?_
        refine lv_topi (fun y3 ey3 => ?_)
        have hM := lq_inv hM y3 ey3
        refine lv_istore_n (lv' := [(2, .int y3), (0, .ref (a 3)), (1, .int v1)]) S.1 S.2.1 d_Walk_walkAll_71 rfl hl (by decide) rfl (fun ls hl => ?_)
        refine lv_aload_n S.1 S.2.1 d_Walk_walkAll_72 rfl (lv_at hl 1 rfl) ?_
        refine kgf_Walk_15_3 S hK E d_Walk_walkAll_73 ?_
        refine lv_iload_n S.1 S.2.1 d_Walk_walkAll_76 rfl (lv_at hl 0 rfl) ?_
        obtain ⟨h4, hM⟩ := gd_inv hM
        refine kal_21 S hK E h4 d_Walk_walkAll_77 ?_
        refine lv_topi (fun y5 ey5 => ?_)
        have hM := lq_inv hM y5 ey5
        refine lv_istore_n (lv' := [(3, .int y5), (2, .int y3), (0, .ref (a 3)), (1, .int v1)]) S.1 S.2.1 d_Walk_walkAll_78 rfl hl (by decide) rfl (fun ls hl => ?_)
        refine lv_aload_n S.1 S.2.1 d_Walk_walkAll_79 rfl (lv_at hl 2 rfl) ?_
        refine kgf_Walk_19_3 S hK E d_Walk_walkAll_80 ?_
        refine lv_iload_n S.1 S.2.1 d_Walk_walkAll_83 rfl (lv_at hl 1 rfl) ?_
        obtain ⟨h6, hM⟩ := gd_inv hM
        refine kal_22 S hK E h6 d_Walk_walkAll_84 ?_
        refine lv_topi (fun y7 ey7 => ?_)
        have hM := lq_inv hM y7 ey7
        refine lv_istore (lv' := [(4, .int y7), (3, .int y5), (2, .int y3), (0, .ref (a 3)), (1, .int v1)]) S.1 S.2.1 d_Walk_walkAll_85 hl (by decide) rfl (fun ls hl => ?_)
        refine lv_aload_n S.1 S.2.1 d_Walk_walkAll_87 rfl (lv_at hl 3 rfl) ?_
        refine kgf_Walk_22_3 S hK E d_Walk_walkAll_88 ?_
        refine lv_iload_n S.1 S.2.1 d_Walk_walkAll_91 rfl (lv_at hl 1 rfl) ?_
        refine lv_iload S.1 S.2.1 d_Walk_walkAll_92 (lv_at hl 0 rfl) ?_
        obtain ⟨r9, h8, hM⟩ := br_inv hM
        refine kcr_25 (As := [.int y5, .int y7]) (rest := []) S hK E (kC_Items_kidAt h8) ⟨Nat.le_of_ble_eq_true rfl, Nat.le_of_ble_eq_true rfl⟩ rfl rfl hl.1 (lv_room (Nat.le_of_ble_eq_true rfl)) d_Walk_walkAll_94 (fun H locs E => ?_)
        refine lv_istore (lv' := [(5, .int r9), (4, .int y7), (3, .int y5), (2, .int y3), (0, .ref (a 3)), (1, .int v1)]) S.1 S.2.1 d_Walk_walkAll_97 hl (by decide) rfl (fun ls hl => ?_)
        refine lv_aload_n S.1 S.2.1 d_Walk_walkAll_99 rfl (lv_at hl 4 rfl) ?_
        refine kgf_Walk_22_3 S hK E d_Walk_walkAll_100 ?_
        refine lv_iload S.1 S.2.1 d_Walk_walkAll_103 (lv_at hl 0 rfl) ?_
        obtain ⟨r11, h10, hM⟩ := br_inv hM
        refine kcr_26 (As := [.int r9]) (rest := []) S hK E (kC_Items_isKnown h10) ⟨Nat.le_of_ble_eq_true rfl, Nat.le_of_ble_eq_true rfl⟩ rfl rfl hl.1 (lv_room (Nat.le_of_ble_eq_true rfl)) d_Walk_walkAll_105 (fun H locs E => ?_)
        refine lv_if_eq (tgt := 129) S.1 S.2.1 d_Walk_walkAll_108 (by decide) (fun c12 => ?_) (fun c12 => ?_)
        · have hM := ifP hM c12
          refine lv_aload_n S.1 S.2.1 d_Walk_walkAll_129 rfl (lv_at hl 4 rfl) ?_
          refine lv_iload_n S.1 S.2.1 d_Walk_walkAll_130 rfl (lv_at hl 2 rfl) ?_
          obtain ⟨σ14, h13, hM⟩ := bv_inv hM
          refine kcr_56 (As := [.int y5]) (rest := []) S hK E (kC_Mender_leave h13) ⟨Nat.le_of_ble_eq_true rfl, Nat.le_of_ble_eq_true rfl⟩ rfl rfl hl.1 (lv_room (Nat.le_of_ble_eq_true rfl)) d_Walk_walkAll_131 (fun H locs E => ?_)
          refine lv_aload_n S.1 S.2.1 d_Walk_walkAll_134 rfl (lv_at hl 4 rfl) ?_
          refine lv_dup S.1 S.2.1 d_Walk_walkAll_135 rfl ?_
          refine kgf_Walk_26_3 S hK E d_Walk_walkAll_136 ?_
          refine lv_iconst (v := 1) S.1 S.2.1 d_Walk_walkAll_139 (by decide) ?_
          refine lv_isub S.1 S.2.1 d_Walk_walkAll_140 ?_
          refine kpf_Walk_26_3 S hK E d_Walk_walkAll_141 (fun σ15 eσ15 H locs E => ?_)
          have hM := lq_inv hM σ15 eσ15
          exact kB_Walk_walkAll_Mender_144 S hr hlk hK ih _ _ _ _ _ E (lv_sub hl [4, 5] rfl) hM
        · have hM := ifN hM c12
          refine lv_aload_n S.1 S.2.1 d_Walk_walkAll_111 rfl (lv_at hl 4 rfl) ?_
          refine kgf_Walk_19_3 S hK E d_Walk_walkAll_112 ?_
          refine lv_iload_n S.1 S.2.1 d_Walk_walkAll_115 rfl (lv_at hl 3 rfl) ?_
          refine lv_aload_n S.1 S.2.1 d_Walk_walkAll_116 rfl (lv_at hl 4 rfl) ?_
          refine lv_iload_n S.1 S.2.1 d_Walk_walkAll_117 rfl (lv_at hl 2 rfl) ?_
          refine lv_iload S.1 S.2.1 d_Walk_walkAll_118 (lv_at hl 1 rfl) ?_
          refine lv_iload S.1 S.2.1 d_Walk_walkAll_120 (lv_at hl 0 rfl) ?_
          obtain ⟨r17, σ18, h16, hM⟩ := bd_inv hM
          refine kcr_57 (As := [.int y5, .int y7, .int r9]) (rest := [.int y3, .ref (a 22)]) S hK E (kC_Walk_meet_Mender h16) ⟨Nat.le_of_ble_eq_true rfl, Nat.le_of_ble_eq_true rfl⟩ rfl rfl hl.1 (lv_room (Nat.le_of_ble_eq_true rfl)) d_Walk_walkAll_122 (fun H locs E => ?_)
          obtain ⟨h19, hM⟩ := gd_inv hM
          refine kas_22 S hK E h19 d_Walk_walkAll_125 (fun σ20 eσ20 H locs E => ?_)
          have hM := lq_inv hM σ20 eσ20
          refine lv_goto (tgt := 144) S.1 S.2.1 d_Walk_walkAll_126 (by decide) ?_
          exact kB_Walk_walkAll_Mender_144 S hr hlk hK ih _ _ _ _ _ E (lv_sub hl [4, 5] rfl) hM
set_option maxHeartbeats 4000000 in
set_option maxRecDepth 100000 in
theorem kB_Walk_walkAll_Mender_49 {p : Program} {l : Launch} {e : Env} {s : State} {m : MethodId} {args : Array Value} {below : List Frame} {meth : Method} {c : Code} {D : va_G} {a : Nat → Nat} {cA : Nat → ClassId} {A : Nat → Prop} {g : Nat → Nat} {σ2 : St} (S : CallFix p m c prog_8_method_6_code 6 s args AW R_Walk) (hr : meth.sig.returnType = none) (hlk : meth.locks = false) (hK : kKX D cA A g s s.heap) : ∀ (σ : St) (H : Heap) (locs : List Loc) (ls : Array Slot), kEx D a cA A σ s.heap H locs → lv_has ls 6 [(0, .ref (a 3))] → kJ_Walk_walkAll_Mender_49 σ = some σ2 → W p l e krm_Walk_walkAll_Mender s m args below meth c H locs 0 0 (MQ below (kqv D a cA A g σ2) args s 0 0 A) (F0 m 49 ls []) := by
  intro σ H locs ls E hl hM
  unfold kJ_Walk_walkAll_Mender_49 at hM
  refine lv_iconst (v := 0) S.1 S.2.1 d_Walk_walkAll_49 (by decide) ?_
  refine lv_istore_n (lv' := [(1, .int 0), (0, .ref (a 3))]) S.1 S.2.1 d_Walk_walkAll_50 rfl hl (by decide) rfl (fun ls hl => ?_)
  exact kB_Walk_walkAll_Mender_51 S hr hlk hK _ _ _ _ _ _ E (lv_sub hl [1, 0] rfl) hM
set_option maxHeartbeats 4000000 in
set_option maxRecDepth 100000 in
theorem kB_Walk_walkAll_Mender_22 {p : Program} {l : Launch} {e : Env} {s : State} {m : MethodId} {args : Array Value} {below : List Frame} {meth : Method} {c : Code} {D : va_G} {a : Nat → Nat} {cA : Nat → ClassId} {A : Nat → Prop} {g : Nat → Nat} {σ2 : St} (S : CallFix p m c prog_8_method_6_code 6 s args AW R_Walk) (hr : meth.sig.returnType = none) (hlk : meth.locks = false) (hK : kKX D cA A g s s.heap) : ∀ (σ : St) (H : Heap) (locs : List Loc) (ls : Array Slot), kEx D a cA A σ s.heap H locs → lv_has ls 6 [(0, .ref (a 3))] → kJ_Walk_walkAll_Mender_22 σ = some σ2 → W p l e krm_Walk_walkAll_Mender s m args below meth c H locs 0 0 (MQ below (kqv D a cA A g σ2) args s 0 0 A) (F0 m 22 ls []) := by
  intro σ H locs ls E hl hM
  unfold kJ_Walk_walkAll_Mender_22 at hM
  refine lv_aload_n S.1 S.2.1 d_Walk_walkAll_22 rfl (lv_at hl 0 rfl) ?_
  refine lv_iconst (v := 0) S.1 S.2.1 d_Walk_walkAll_23 (by decide) ?_
  refine kpf_Walk_26_3 S hK E d_Walk_walkAll_24 (fun σ1 eσ1 H locs E => ?_)
  have hM := lq_inv hM σ1 eσ1
  refine lv_aload_n S.1 S.2.1 d_Walk_walkAll_27 rfl (lv_at hl 0 rfl) ?_
  refine kgf_Walk_22_3 S hK E d_Walk_walkAll_28 ?_
  obtain ⟨r3, h2, hM⟩ := br_inv hM
  refine kcr_29 (As := []) (rest := []) S hK E (kC_Items_size h2) ⟨Nat.le_of_ble_eq_true rfl, Nat.le_of_ble_eq_true rfl⟩ rfl rfl hl.1 (lv_room (Nat.le_of_ble_eq_true rfl)) d_Walk_walkAll_31 (fun H locs E => ?_)
  refine lv_if_le (tgt := 49) S.1 S.2.1 d_Walk_walkAll_34 (by decide) (fun c4 => ?_) (fun c4 => ?_)
  · have hM := ifP hM c4
    exact kB_Walk_walkAll_Mender_49 S hr hlk hK _ _ _ _ E (lv_sub hl [0] rfl) hM
  · have hM := ifN hM c4
    refine lv_aload_n S.1 S.2.1 d_Walk_walkAll_37 rfl (lv_at hl 0 rfl) ?_
    refine kgf_Walk_9_3 S hK E d_Walk_walkAll_38 ?_
    refine lv_iconst (v := 0) S.1 S.2.1 d_Walk_walkAll_41 (by decide) ?_
    refine lv_iconst (v := 1) S.1 S.2.1 d_Walk_walkAll_42 (by decide) ?_
    obtain ⟨h5, hM⟩ := gd_inv hM
    refine kas_20 S hK E h5 d_Walk_walkAll_43 (fun σ6 eσ6 H locs E => ?_)
    have hM := lq_inv hM σ6 eσ6
    refine lv_aload_n S.1 S.2.1 d_Walk_walkAll_44 rfl (lv_at hl 0 rfl) ?_
    refine lv_iconst (v := 0) S.1 S.2.1 d_Walk_walkAll_45 (by decide) ?_
    obtain ⟨σ8, h7, hM⟩ := bv_inv hM
    refine kcr_51 (As := [.int 0]) (rest := []) S hK E (kC_Walk_enter_Mender h7) ⟨Nat.le_of_ble_eq_true rfl, Nat.le_of_ble_eq_true rfl⟩ rfl rfl hl.1 (lv_room (Nat.le_of_ble_eq_true rfl)) d_Walk_walkAll_46 (fun H locs E => ?_)
    exact kB_Walk_walkAll_Mender_49 S hr hlk hK _ _ _ _ E (lv_sub hl [0] rfl) hM
set_option maxHeartbeats 4000000 in
set_option maxRecDepth 100000 in
theorem kB_Walk_walkAll_Mender_2 {p : Program} {l : Launch} {e : Env} {s : State} {m : MethodId} {args : Array Value} {below : List Frame} {meth : Method} {c : Code} {D : va_G} {a : Nat → Nat} {cA : Nat → ClassId} {A : Nat → Prop} {g : Nat → Nat} {σ2 : St} (S : CallFix p m c prog_8_method_6_code 6 s args AW R_Walk) (hr : meth.sig.returnType = none) (hlk : meth.locks = false) (hK : kKX D cA A g s s.heap) : ∀ (n : Nat) (σ : St) (v1 : Int32) (H : Heap) (locs : List Loc) (ls : Array Slot), kEx D a cA A σ s.heap H locs → lv_has ls 6 [(0, .ref (a 3)), (1, .int v1)] → kL_Walk_walkAll_Mender_2 n σ v1 = some σ2 → W p l e krm_Walk_walkAll_Mender s m args below meth c H locs 0 0 (MQ below (kqv D a cA A g σ2) args s 0 0 A) (F0 m 2 ls []) := by
  intro n
  induction n with
  | zero =>
    intro σ v1 H locs ls E hl hM
    rw [kL_Walk_walkAll_Mender_2] at hM
    cases hM
  | succ n ih =>
    intro σ v1 H locs ls E hl hM
    rw [kL_Walk_walkAll_Mender_2] at hM
    refine lv_iload_n S.1 S.2.1 d_Walk_walkAll_2 rfl (lv_at hl 1 rfl) ?_
    refine lv_sipush (v := 200) S.1 S.2.1 d_Walk_walkAll_3 (by decide) ?_
    refine lv_icmp_ge (tgt := 22) S.1 S.2.1 d_Walk_walkAll_6 (by decide) (fun c1 => ?_) (fun c1 => ?_)
    · have hM := ifP hM c1
      exact kB_Walk_walkAll_Mender_22 S hr hlk hK _ _ _ _ E (lv_sub hl [0] rfl) hM
    · have hM := ifN hM c1
      refine lv_aload_n S.1 S.2.1 d_Walk_walkAll_9 rfl (lv_at hl 0 rfl) ?_
      refine kgf_Walk_9_3 S hK E d_Walk_walkAll_10 ?_
      refine lv_iload_n S.1 S.2.1 d_Walk_walkAll_13 rfl (lv_at hl 1 rfl) ?_
      refine lv_iconst (v := 0) S.1 S.2.1 d_Walk_walkAll_14 (by decide) ?_
      obtain ⟨h2, hM⟩ := gd_inv hM
      refine kas_20 S hK E h2 d_Walk_walkAll_15 (fun σ3 eσ3 H locs E => ?_)
      have hM := lq_inv hM σ3 eσ3
      obtain ⟨y4, ey4⟩ : ∃ z : Int32, z = v1 + 1 := ⟨_, rfl⟩
      have hM := lq_inv hM y4 ey4
      refine lv_iinc (v := y4) (lv' := [(1, .int y4), (0, .ref (a 3))]) S.1 S.2.1 d_Walk_walkAll_16 hl (k := 1) rfl (by rw [ey4]; rfl) (by decide) rfl (fun ls hl => ?_)
      refine lv_goto (tgt := 2) S.1 S.2.1 d_Walk_walkAll_19 (by decide) ?_
      exact ih _ _ _ _ _ E (lv_sub hl [1, 0] rfl) hM
set_option maxHeartbeats 4000000 in
set_option maxRecDepth 100000 in
theorem kC_Walk_walkAll_Mender {l : Launch} {D : va_G} {a : Nat → Nat} {cA : Nat → ClassId} {A : Nat → Prop} {g : Nat → Nat} {σ σ2 : St} (hM : kM_Walk_walkAll_Mender σ = some σ2) : Met l y_Walk_walkAll (.code y_Walk_walkAll prog_8_method_6_code 6 none :: AW) krm_Walk_walkAll_Mender (va_Pc [.ref (a 3)] (kCP D a cA A g σ)) (kqv D a cA A g σ2) 0 0 A := by
  refine kmet (nL := 6) (by decide) (Nat.le_of_ble_eq_true rfl) (fun S hr hlk hK E ls hl => ?_)
  have hl : lv_has ls 6 [(0, .ref (a 3))] := hl
  unfold kM_Walk_walkAll_Mender at hM
  refine lv_iconst (v := 0) S.1 S.2.1 d_Walk_walkAll_0 (by decide) ?_
  refine lv_istore_n (lv' := [(1, .int 0), (0, .ref (a 3))]) S.1 S.2.1 d_Walk_walkAll_1 rfl hl (by decide) rfl (fun ls hl => ?_)
  exact kB_Walk_walkAll_Mender_2 S hr hlk hK _ _ _ _ _ _ E (lv_sub hl [1, 0] rfl) hM
set_option maxHeartbeats 4000000 in
set_option maxRecDepth 100000 in
theorem kC_Mender_putRight {l : Launch} {D : va_G} {a : Nat → Nat} {cA : Nat → ClassId} {A : Nat → Prop} {g : Nat → Nat} {σ σ2 : St} {r : Int32} (hM : kM_Mender_putRight σ = some (r, σ2)) : Met l y_Mender_putRight (.code y_Mender_putRight prog_5_method_2_code 1 (some .int) :: AW) krm_Mender_putRight (va_Pc [.ref (a 3)] (kCP D a cA A g σ)) (kqi D a cA A g r σ2) 0 0 A := by
  refine kmet (nL := 1) (by decide) (Nat.le_of_ble_eq_true rfl) (fun S hr hlk hK E ls hl => ?_)
  have hl : lv_has ls 1 [(0, .ref (a 3))] := hl
  unfold kM_Mender_putRight at hM
  refine lv_aload_n S.1 S.2.1 d_Mender_putRight_0 rfl (lv_at hl 0 rfl) ?_
  refine lv_iconst (v := 0) S.1 S.2.1 d_Mender_putRight_1 (by decide) ?_
  refine kpf_Mender_21_3 S hK E d_Mender_putRight_2 (fun σ1 eσ1 H locs E => ?_)
  have hM := lq_inv hM σ1 eσ1
  refine lv_aload_n S.1 S.2.1 d_Mender_putRight_5 rfl (lv_at hl 0 rfl) ?_
  refine lv_iconst (v := 0) S.1 S.2.1 d_Mender_putRight_6 (by decide) ?_
  refine kpf_Mender_25_3 S hK E d_Mender_putRight_7 (fun σ2 eσ2 H locs E => ?_)
  have hM := lq_inv hM σ2 eσ2
  refine lv_aload_n S.1 S.2.1 d_Mender_putRight_10 rfl (lv_at hl 0 rfl) ?_
  obtain ⟨σ4, h3, hM⟩ := bv_inv hM
  refine kcr_58 (As := []) (rest := []) S hK E (kC_Walk_walkAll_Mender h3) ⟨Nat.le_of_ble_eq_true rfl, Nat.le_of_ble_eq_true rfl⟩ rfl rfl hl.1 (lv_room (Nat.le_of_ble_eq_true rfl)) d_Mender_putRight_11 (fun H locs E => ?_)
  refine lv_aload_n S.1 S.2.1 d_Mender_putRight_14 rfl (lv_at hl 0 rfl) ?_
  refine kgf_Mender_21_3 S hK E d_Mender_putRight_15 ?_
  obtain ⟨rfl, rfl⟩ := pr_inj hM
  exact kreti S hr hlk hK E d_Mender_putRight_18
set_option maxHeartbeats 4000000 in
set_option maxRecDepth 100000 in
theorem kC_PT_mend {l : Launch} {D : va_G} {a : Nat → Nat} {cA : Nat → ClassId} {A : Nat → Prop} {g : Nat → Nat} {σ σ2 : St} {r : Int32} (hM : kM_PT_mend σ = some (r, σ2)) : Met l y_PT_mend (.code y_PT_mend prog_1_method_13_code 1 (some .int) :: AW) krm_PT_mend (va_Pc [.ref (a 0)] (kCP D a cA A g σ)) (kqi D a cA A g r σ2) 0 0 A := by
  refine kmet (nL := 1) (by decide) (Nat.le_of_ble_eq_true rfl) (fun S hr hlk hK E ls hl => ?_)
  have hl : lv_has ls 1 [(0, .ref (a 0))] := hl
  unfold kM_PT_mend at hM
  refine lv_aload_n S.1 S.2.1 d_PT_mend_0 rfl (lv_at hl 0 rfl) ?_
  refine kgf_PT_28_0 S hK E d_PT_mend_1 ?_
  obtain ⟨r2, σ3, h1, hM⟩ := bd_inv hM
  refine kcr_59 (As := []) (rest := []) S hK E (kC_Mender_putRight h1) ⟨Nat.le_of_ble_eq_true rfl, Nat.le_of_ble_eq_true rfl⟩ rfl rfl hl.1 (lv_room (Nat.le_of_ble_eq_true rfl)) d_PT_mend_4 (fun H locs E => ?_)
  obtain ⟨rfl, rfl⟩ := pr_inj hM
  exact kreti S hr hlk hK E d_PT_mend_7
set_option maxHeartbeats 4000000 in
set_option maxRecDepth 100000 in
theorem kC_Mender_tellingAt {l : Launch} {D : va_G} {a : Nat → Nat} {cA : Nat → ClassId} {A : Nat → Prop} {g : Nat → Nat} {σ : St} {x1 : Int32} {x2 : Int32} {r : Int32} (hM : kM_Mender_tellingAt σ x1 x2 = some r) : Met l y_Mender_tellingAt (.code y_Mender_tellingAt prog_5_method_3_code 3 (some .int) :: AW) krm_Mender_tellingAt (va_Pc [.ref (a 3), .int x1, .int x2] (kCP D a cA A g σ)) (kqi D a cA A g r σ) 0 0 A := by
  refine kmet (nL := 3) (by decide) (Nat.le_of_ble_eq_true rfl) (fun S hr hlk hK E ls hl => ?_)
  have hl : lv_has ls 3 [(0, .ref (a 3)), (1, .int x1), (2, .int x2)] := hl
  unfold kM_Mender_tellingAt at hM
  refine lv_iload_n S.1 S.2.1 d_Mender_tellingAt_0 rfl (lv_at hl 1 rfl) ?_
  refine lv_if_lt (tgt := 18) S.1 S.2.1 d_Mender_tellingAt_1 (by decide) (fun c1 => ?_) (fun c1 => ?_)
  · have hM := ifP hM c1
    refine lv_iconst (v := (-1)) S.1 S.2.1 d_Mender_tellingAt_18 (by decide) ?_
    obtain rfl := Option.some.inj hM
    exact kreti S hr hlk hK E d_Mender_tellingAt_19
  · have hM := ifN hM c1
    refine lv_iload_n S.1 S.2.1 d_Mender_tellingAt_4 rfl (lv_at hl 1 rfl) ?_
    refine lv_aload_n S.1 S.2.1 d_Mender_tellingAt_5 rfl (lv_at hl 0 rfl) ?_
    refine kgf_Mender_21_3 S hK E d_Mender_tellingAt_6 ?_
    refine lv_icmp_ge (tgt := 18) S.1 S.2.1 d_Mender_tellingAt_9 (by decide) (fun c2 => ?_) (fun c2 => ?_)
    · have hM := ifP hM c2
      refine lv_iconst (v := (-1)) S.1 S.2.1 d_Mender_tellingAt_18 (by decide) ?_
      obtain rfl := Option.some.inj hM
      exact kreti S hr hlk hK E d_Mender_tellingAt_19
    · have hM := ifN hM c2
      refine lv_iload_n S.1 S.2.1 d_Mender_tellingAt_12 rfl (lv_at hl 1 rfl) ?_
      refine lv_bipush (v := 100) S.1 S.2.1 d_Mender_tellingAt_13 (by decide) ?_
      refine lv_icmp_lt (tgt := 20) S.1 S.2.1 d_Mender_tellingAt_15 (by decide) (fun c3 => ?_) (fun c3 => ?_)
      · have hM := ifP hM c3
        refine lv_iload_n S.1 S.2.1 d_Mender_tellingAt_20 rfl (lv_at hl 2 rfl) ?_
        by_cases c4 : x2 = 0
        · have hM := ifP hM c4
          refine lv_lookup (tgt := 48) (off := 27) S.1 S.2.1 d_Mender_tellingAt_21 (by decide) (by rw [c4]; rfl) (by decide) ?_
          refine lv_aload_n S.1 S.2.1 d_Mender_tellingAt_48 rfl (lv_at hl 0 rfl) ?_
          refine kgf_Mender_11_3 S hK E d_Mender_tellingAt_49 ?_
          refine lv_iload_n S.1 S.2.1 d_Mender_tellingAt_52 rfl (lv_at hl 1 rfl) ?_
          obtain ⟨h5, hM⟩ := gd_inv hM
          refine kal_23 S hK E h5 d_Mender_tellingAt_53 ?_
          obtain rfl := Option.some.inj hM
          exact kreti S hr hlk hK E d_Mender_tellingAt_54
        have hM := ifN hM c4
        by_cases c6 : x2 = 1
        · have hM := ifP hM c6
          refine lv_lookup (tgt := 55) (off := 34) S.1 S.2.1 d_Mender_tellingAt_21 (by decide) (by rw [c6]; rfl) (by decide) ?_
          refine lv_aload_n S.1 S.2.1 d_Mender_tellingAt_55 rfl (lv_at hl 0 rfl) ?_
          refine kgf_Mender_15_3 S hK E d_Mender_tellingAt_56 ?_
          refine lv_iload_n S.1 S.2.1 d_Mender_tellingAt_59 rfl (lv_at hl 1 rfl) ?_
          obtain ⟨h7, hM⟩ := gd_inv hM
          refine kal_24 S hK E h7 d_Mender_tellingAt_60 ?_
          obtain rfl := Option.some.inj hM
          exact kreti S hr hlk hK E d_Mender_tellingAt_61
        have hM := ifN hM c6
        refine lv_lookup (tgt := 62) (off := 41) S.1 S.2.1 d_Mender_tellingAt_21 (by decide) ((lv_osw c4 (by decide)).trans ((lv_osw c6 (by decide)).trans rfl)) (by decide) ?_
        refine lv_iconst (v := (-1)) S.1 S.2.1 d_Mender_tellingAt_62 (by decide) ?_
        obtain rfl := Option.some.inj hM
        exact kreti S hr hlk hK E d_Mender_tellingAt_63
      · have hM := ifN hM c3
        refine lv_iconst (v := (-1)) S.1 S.2.1 d_Mender_tellingAt_18 (by decide) ?_
        obtain rfl := Option.some.inj hM
        exact kreti S hr hlk hK E d_Mender_tellingAt_19
set_option maxHeartbeats 4000000 in
set_option maxRecDepth 100000 in
theorem kC_PT_told {l : Launch} {D : va_G} {a : Nat → Nat} {cA : Nat → ClassId} {A : Nat → Prop} {g : Nat → Nat} {σ : St} {x1 : Int32} {x2 : Int32} {r : Int32} (hM : kM_PT_told σ x1 x2 = some r) : Met l y_PT_told (.code y_PT_told prog_1_method_14_code 3 (some .int) :: AW) krm_PT_told (va_Pc [.ref (a 0), .int x1, .int x2] (kCP D a cA A g σ)) (kqi D a cA A g r σ) 0 0 A := by
  refine kmet (nL := 3) (by decide) (Nat.le_of_ble_eq_true rfl) (fun S hr hlk hK E ls hl => ?_)
  have hl : lv_has ls 3 [(0, .ref (a 0)), (1, .int x1), (2, .int x2)] := hl
  unfold kM_PT_told at hM
  refine lv_aload_n S.1 S.2.1 d_PT_told_0 rfl (lv_at hl 0 rfl) ?_
  refine kgf_PT_28_0 S hK E d_PT_told_1 ?_
  refine lv_iload_n S.1 S.2.1 d_PT_told_4 rfl (lv_at hl 1 rfl) ?_
  refine lv_iload_n S.1 S.2.1 d_PT_told_5 rfl (lv_at hl 2 rfl) ?_
  obtain ⟨r2, h1, hM⟩ := br_inv hM
  refine kcr_60 (As := [.int x1, .int x2]) (rest := []) S hK E (kC_Mender_tellingAt h1) ⟨Nat.le_of_ble_eq_true rfl, Nat.le_of_ble_eq_true rfl⟩ rfl rfl hl.1 (lv_room (Nat.le_of_ble_eq_true rfl)) d_PT_told_6 (fun H locs E => ?_)
  obtain rfl := Option.some.inj hM
  exact kreti S hr hlk hK E d_PT_told_9
set_option maxHeartbeats 4000000 in
set_option maxRecDepth 100000 in
theorem kC_Order_listerOf {l : Launch} {D : va_G} {a : Nat → Nat} {cA : Nat → ClassId} {A : Nat → Prop} {g : Nat → Nat} {σ σ2 : St} {x1 : Int32} {r : Int32} (hM : kM_Order_listerOf σ x1 = some (r, σ2)) : Met l y_Order_listerOf (.code y_Order_listerOf prog_7_method_8_code 2 (some .int) :: AW) krm_Order_listerOf (va_Pc [.ref (a 2), .int x1] (kCP D a cA A g σ)) (kqi D a cA A g r σ2) 0 0 A := by
  refine kmet (nL := 2) (by decide) (Nat.le_of_ble_eq_true rfl) (fun S hr hlk hK E ls hl => ?_)
  have hl : lv_has ls 2 [(0, .ref (a 2)), (1, .int x1)] := hl
  unfold kM_Order_listerOf at hM
  refine lv_aload_n S.1 S.2.1 d_Order_listerOf_0 rfl (lv_at hl 0 rfl) ?_
  obtain ⟨σ2, h1, hM⟩ := bv_inv hM
  refine kcr_33 (As := []) (rest := []) S hK E (kC_Order_refresh h1) ⟨Nat.le_of_ble_eq_true rfl, Nat.le_of_ble_eq_true rfl⟩ rfl rfl hl.1 (lv_room (Nat.le_of_ble_eq_true rfl)) d_Order_listerOf_1 (fun H locs E => ?_)
  refine lv_aload_n S.1 S.2.1 d_Order_listerOf_4 rfl (lv_at hl 0 rfl) ?_
  refine lv_iload_n S.1 S.2.1 d_Order_listerOf_5 rfl (lv_at hl 1 rfl) ?_
  obtain ⟨r4, h3, hM⟩ := br_inv hM
  refine kcr_36 (As := [.int x1]) (rest := []) S hK E (kC_Order_isTaken h3) ⟨Nat.le_of_ble_eq_true rfl, Nat.le_of_ble_eq_true rfl⟩ rfl rfl hl.1 (lv_room (Nat.le_of_ble_eq_true rfl)) d_Order_listerOf_6 (fun H locs E => ?_)
  refine lv_if_eq (tgt := 21) S.1 S.2.1 d_Order_listerOf_9 (by decide) (fun c5 => ?_) (fun c5 => ?_)
  · have hM := ifP hM c5
    refine lv_iconst (v := (-1)) S.1 S.2.1 d_Order_listerOf_21 (by decide) ?_
    obtain ⟨rfl, rfl⟩ := pr_inj hM
    exact kreti S hr hlk hK E d_Order_listerOf_22
  · have hM := ifN hM c5
    refine lv_aload_n S.1 S.2.1 d_Order_listerOf_12 rfl (lv_at hl 0 rfl) ?_
    refine kgf_Order_18_2 S hK E d_Order_listerOf_13 ?_
    refine lv_iload_n S.1 S.2.1 d_Order_listerOf_16 rfl (lv_at hl 1 rfl) ?_
    obtain ⟨h6, hM⟩ := gd_inv hM
    refine kal_18 S hK E h6 d_Order_listerOf_17 ?_
    refine lv_goto (tgt := 22) S.1 S.2.1 d_Order_listerOf_18 (by decide) ?_
    obtain ⟨rfl, rfl⟩ := pr_inj hM
    exact kreti S hr hlk hK E d_Order_listerOf_22
set_option maxHeartbeats 4000000 in
set_option maxRecDepth 100000 in
theorem kB_Items_kidCountWithout_29 {p : Program} {l : Launch} {e : Env} {s : State} {m : MethodId} {args : Array Value} {below : List Frame} {meth : Method} {c : Code} {D : va_G} {a : Nat → Nat} {cA : Nat → ClassId} {A : Nat → Prop} {g : Nat → Nat} {σ : St} {r : Int32} (S : CallFix p m c prog_3_method_23_code 5 s args AW R_Items) (hr : meth.sig.returnType = (some .int)) (hlk : meth.locks = false) (hK : kKX D cA A g s s.heap) {k5 : Int32 → Int32 → Int32 → Int32 → Option (Int32)} (hk5 : ∀ (v1 : Int32) (v2 : Int32) (v3 : Int32) (v4 : Int32) (H : Heap) (locs : List Loc) (ls : Array Slot), kEx D a cA A σ s.heap H locs → lv_has ls 5 [(0, .ref (a 1)), (1, .int v1), (2, .int v2), (3, .int v3), (4, .int v4)] → k5 v1 v2 v3 v4 = some r → W p l e krm_Items_kidCountWithout s m args below meth c H locs 0 0 (MQ below (kqi D a cA A g r σ) args s 0 0 A) (F0 m 5 ls [])) : ∀ (v1 : Int32) (v2 : Int32) (v3 : Int32) (v4 : Int32) (H : Heap) (locs : List Loc) (ls : Array Slot), kEx D a cA A σ s.heap H locs → lv_has ls 5 [(0, .ref (a 1)), (1, .int v1), (2, .int v2), (3, .int v3), (4, .int v4)] → kJ_Items_kidCountWithout_29 k5 σ v1 v2 v3 v4 = some r → W p l e krm_Items_kidCountWithout s m args below meth c H locs 0 0 (MQ below (kqi D a cA A g r σ) args s 0 0 A) (F0 m 29 ls []) := by
  intro v1 v2 v3 v4 H locs ls E hl hM
  unfold kJ_Items_kidCountWithout_29 at hM
  obtain ⟨y1, ey1⟩ : ∃ z : Int32, z = v4 + 1 := ⟨_, rfl⟩
  have hM := lq_inv hM y1 ey1
  refine lv_iinc (v := y1) (lv' := [(4, .int y1), (0, .ref (a 1)), (1, .int v1), (2, .int v2), (3, .int v3)]) S.1 S.2.1 d_Items_kidCountWithout_29 hl (k := 4) rfl (by rw [ey1]; rfl) (by decide) rfl (fun ls hl => ?_)
  refine lv_goto (tgt := 5) S.1 S.2.1 d_Items_kidCountWithout_32 (by decide) ?_
  exact hk5 _ _ _ _ _ _ _ E (lv_sub hl [1, 2, 3, 4, 0] rfl) hM
set_option maxHeartbeats 4000000 in
set_option maxRecDepth 100000 in
theorem kB_Items_kidCountWithout_5 {p : Program} {l : Launch} {e : Env} {s : State} {m : MethodId} {args : Array Value} {below : List Frame} {meth : Method} {c : Code} {D : va_G} {a : Nat → Nat} {cA : Nat → ClassId} {A : Nat → Prop} {g : Nat → Nat} {σ : St} {r : Int32} (S : CallFix p m c prog_3_method_23_code 5 s args AW R_Items) (hr : meth.sig.returnType = (some .int)) (hlk : meth.locks = false) (hK : kKX D cA A g s s.heap) : ∀ (n : Nat) (v1 : Int32) (v2 : Int32) (v3 : Int32) (v4 : Int32) (H : Heap) (locs : List Loc) (ls : Array Slot), kEx D a cA A σ s.heap H locs → lv_has ls 5 [(0, .ref (a 1)), (1, .int v1), (2, .int v2), (3, .int v3), (4, .int v4)] → kL_Items_kidCountWithout_5 σ n v1 v2 v3 v4 = some r → W p l e krm_Items_kidCountWithout s m args below meth c H locs 0 0 (MQ below (kqi D a cA A g r σ) args s 0 0 A) (F0 m 5 ls []) := by
  intro n
  induction n with
  | zero =>
    intro v1 v2 v3 v4 H locs ls E hl hM
    rw [kL_Items_kidCountWithout_5] at hM
    cases hM
  | succ n ih =>
    intro v1 v2 v3 v4 H locs ls E hl hM
    rw [kL_Items_kidCountWithout_5] at hM
    refine lv_iload S.1 S.2.1 d_Items_kidCountWithout_5 (lv_at hl 4 rfl) ?_
    refine lv_aload_n S.1 S.2.1 d_Items_kidCountWithout_7 rfl (lv_at hl 0 rfl) ?_
    refine lv_iload_n S.1 S.2.1 d_Items_kidCountWithout_8 rfl (lv_at hl 1 rfl) ?_
    obtain ⟨r2, h1, hM⟩ := br_inv hM
    refine kcr_1 (As := [.int v1]) (rest := [.int v4]) S hK E (kC_Items_kidCountOf h1) ⟨Nat.le_of_ble_eq_true rfl, Nat.le_of_ble_eq_true rfl⟩ rfl rfl hl.1 (lv_room (Nat.le_of_ble_eq_true rfl)) d_Items_kidCountWithout_9 (fun H locs E => ?_)
    refine lv_icmp_ge (tgt := 35) S.1 S.2.1 d_Items_kidCountWithout_12 (by decide) (fun c3 => ?_) (fun c3 => ?_)
    · have hM := ifP hM c3
      refine lv_iload_n S.1 S.2.1 d_Items_kidCountWithout_35 rfl (lv_at hl 3 rfl) ?_
      obtain rfl := Option.some.inj hM
      exact kreti S hr hlk hK E d_Items_kidCountWithout_36
    · have hM := ifN hM c3
      refine lv_aload_n S.1 S.2.1 d_Items_kidCountWithout_15 rfl (lv_at hl 0 rfl) ?_
      refine lv_iload_n S.1 S.2.1 d_Items_kidCountWithout_16 rfl (lv_at hl 1 rfl) ?_
      refine lv_iload S.1 S.2.1 d_Items_kidCountWithout_17 (lv_at hl 4 rfl) ?_
      obtain ⟨r5, h4, hM⟩ := br_inv hM
      refine kcr_61 (As := [.int v1, .int v4]) (rest := []) S hK E (kC_Items_kidAt h4) ⟨Nat.le_of_ble_eq_true rfl, Nat.le_of_ble_eq_true rfl⟩ rfl rfl hl.1 (lv_room (Nat.le_of_ble_eq_true rfl)) d_Items_kidCountWithout_19 (fun H locs E => ?_)
      refine lv_iload_n S.1 S.2.1 d_Items_kidCountWithout_22 rfl (lv_at hl 2 rfl) ?_
      refine lv_icmp_eq (tgt := 29) S.1 S.2.1 d_Items_kidCountWithout_23 (by decide) (fun c6 => ?_) (fun c6 => ?_)
      · have hM := ifP hM c6
        exact kB_Items_kidCountWithout_29 S hr hlk hK ih _ _ _ _ _ _ _ E (lv_sub hl [0, 1, 2, 3, 4] rfl) hM
      · have hM := ifN hM c6
        obtain ⟨y7, ey7⟩ : ∃ z : Int32, z = v3 + 1 := ⟨_, rfl⟩
        have hM := lq_inv hM y7 ey7
        refine lv_iinc (v := y7) (lv' := [(3, .int y7), (0, .ref (a 1)), (1, .int v1), (2, .int v2), (4, .int v4)]) S.1 S.2.1 d_Items_kidCountWithout_26 hl (k := 3) rfl (by rw [ey7]; rfl) (by decide) rfl (fun ls hl => ?_)
        exact kB_Items_kidCountWithout_29 S hr hlk hK ih _ _ _ _ _ _ _ E (lv_sub hl [1, 2, 3, 0, 4] rfl) hM
set_option maxHeartbeats 4000000 in
set_option maxRecDepth 100000 in
theorem kC_Items_kidCountWithout {l : Launch} {D : va_G} {a : Nat → Nat} {cA : Nat → ClassId} {A : Nat → Prop} {g : Nat → Nat} {σ : St} {x1 : Int32} {x2 : Int32} {r : Int32} (hM : kM_Items_kidCountWithout σ x1 x2 = some r) : Met l y_Items_kidCountWithout (.code y_Items_kidCountWithout prog_3_method_23_code 5 (some .int) :: AW) krm_Items_kidCountWithout (va_Pc [.ref (a 1), .int x1, .int x2] (kCP D a cA A g σ)) (kqi D a cA A g r σ) 0 0 A := by
  refine kmet (nL := 5) (by decide) (Nat.le_of_ble_eq_true rfl) (fun S hr hlk hK E ls hl => ?_)
  have hl : lv_has ls 5 [(0, .ref (a 1)), (1, .int x1), (2, .int x2)] := hl
  unfold kM_Items_kidCountWithout at hM
  refine lv_iconst (v := 0) S.1 S.2.1 d_Items_kidCountWithout_0 (by decide) ?_
  refine lv_istore_n (lv' := [(3, .int 0), (0, .ref (a 1)), (1, .int x1), (2, .int x2)]) S.1 S.2.1 d_Items_kidCountWithout_1 rfl hl (by decide) rfl (fun ls hl => ?_)
  refine lv_iconst (v := 0) S.1 S.2.1 d_Items_kidCountWithout_2 (by decide) ?_
  refine lv_istore (lv' := [(4, .int 0), (3, .int 0), (0, .ref (a 1)), (1, .int x1), (2, .int x2)]) S.1 S.2.1 d_Items_kidCountWithout_3 hl (by decide) rfl (fun ls hl => ?_)
  exact kB_Items_kidCountWithout_5 S hr hlk hK _ _ _ _ _ _ _ _ E (lv_sub hl [2, 3, 4, 1, 0] rfl) hM
set_option maxHeartbeats 4000000 in
set_option maxRecDepth 100000 in
theorem kB_Items_ownValuesOf_2 {p : Program} {l : Launch} {e : Env} {s : State} {m : MethodId} {args : Array Value} {below : List Frame} {meth : Method} {c : Code} {D : va_G} {a : Nat → Nat} {cA : Nat → ClassId} {A : Nat → Prop} {g : Nat → Nat} {σ2 : St} (S : CallFix p m c prog_3_method_27_code 4 s args AW R_Items) (hr : meth.sig.returnType = none) (hlk : meth.locks = false) (hK : kKX D cA A g s s.heap) : ∀ (n : Nat) (σ : St) (v1 : Int32) (v2 : Int32) (v3 : Int32) (H : Heap) (locs : List Loc) (ls : Array Slot), kEx D a cA A σ s.heap H locs → lv_has ls 4 [(0, .ref (a 1)), (1, .int v1), (2, .int v2), (3, .int v3)] → kL_Items_ownValuesOf_2 n σ v1 v2 v3 = some σ2 → W p l e krm_Items_ownValuesOf s m args below meth c H locs 0 0 (MQ below (kqv D a cA A g σ2) args s 0 0 A) (F0 m 2 ls []) := by
  intro n
  induction n with
  | zero =>
    intro σ v1 v2 v3 H locs ls E hl hM
    rw [kL_Items_ownValuesOf_2] at hM
    cases hM
  | succ n ih =>
    intro σ v1 v2 v3 H locs ls E hl hM
    rw [kL_Items_ownValuesOf_2] at hM
    refine lv_iload_n S.1 S.2.1 d_Items_ownValuesOf_2 rfl (lv_at hl 3 rfl) ?_
    refine lv_iconst (v := 4) S.1 S.2.1 d_Items_ownValuesOf_3 (by decide) ?_
    refine lv_icmp_ge (tgt := 25) S.1 S.2.1 d_Items_ownValuesOf_4 (by decide) (fun c1 => ?_) (fun c1 => ?_)
    · have hM := ifP hM c1
      obtain rfl := Option.some.inj hM
      exact kretv S hr hlk hK E d_Items_ownValuesOf_25
    · have hM := ifN hM c1
      refine lv_aload_n S.1 S.2.1 d_Items_ownValuesOf_7 rfl (lv_at hl 0 rfl) ?_
      refine lv_iload_n S.1 S.2.1 d_Items_ownValuesOf_8 rfl (lv_at hl 2 rfl) ?_
      refine lv_iload_n S.1 S.2.1 d_Items_ownValuesOf_9 rfl (lv_at hl 3 rfl) ?_
      refine lv_aload_n S.1 S.2.1 d_Items_ownValuesOf_10 rfl (lv_at hl 0 rfl) ?_
      refine lv_iload_n S.1 S.2.1 d_Items_ownValuesOf_11 rfl (lv_at hl 1 rfl) ?_
      refine lv_iload_n S.1 S.2.1 d_Items_ownValuesOf_12 rfl (lv_at hl 3 rfl) ?_
      obtain ⟨r3, h2, hM⟩ := br_inv hM
      refine kcr_62 (As := [.int v1, .int v3]) (rest := [.int v3, .int v2, .ref (a 1)]) S hK E (kC_Items_valueOf h2) ⟨Nat.le_of_ble_eq_true rfl, Nat.le_of_ble_eq_true rfl⟩ rfl rfl hl.1 (lv_room (Nat.le_of_ble_eq_true rfl)) d_Items_ownValuesOf_13 (fun H locs E => ?_)
      obtain ⟨σ5, h4, hM⟩ := bv_inv hM
      refine kcr_63 (As := [.int v2, .int v3, .int r3]) (rest := []) S hK E (kC_Items_setOwnValue h4) ⟨Nat.le_of_ble_eq_true rfl, Nat.le_of_ble_eq_true rfl⟩ rfl rfl hl.1 (lv_room (Nat.le_of_ble_eq_true rfl)) d_Items_ownValuesOf_16 (fun H locs E => ?_)
      obtain ⟨y6, ey6⟩ : ∃ z : Int32, z = v3 + 1 := ⟨_, rfl⟩
      have hM := lq_inv hM y6 ey6
      refine lv_iinc (v := y6) (lv' := [(3, .int y6), (0, .ref (a 1)), (1, .int v1), (2, .int v2)]) S.1 S.2.1 d_Items_ownValuesOf_19 hl (k := 3) rfl (by rw [ey6]; rfl) (by decide) rfl (fun ls hl => ?_)
      refine lv_goto (tgt := 2) S.1 S.2.1 d_Items_ownValuesOf_22 (by decide) ?_
      exact ih _ _ _ _ _ _ _ E (lv_sub hl [1, 2, 3, 0] rfl) hM
set_option maxHeartbeats 4000000 in
set_option maxRecDepth 100000 in
theorem kC_Items_ownValuesOf {l : Launch} {D : va_G} {a : Nat → Nat} {cA : Nat → ClassId} {A : Nat → Prop} {g : Nat → Nat} {σ σ2 : St} {x1 : Int32} {x2 : Int32} (hM : kM_Items_ownValuesOf σ x1 x2 = some σ2) : Met l y_Items_ownValuesOf (.code y_Items_ownValuesOf prog_3_method_27_code 4 none :: AW) krm_Items_ownValuesOf (va_Pc [.ref (a 1), .int x1, .int x2] (kCP D a cA A g σ)) (kqv D a cA A g σ2) 0 0 A := by
  refine kmet (nL := 4) (by decide) (Nat.le_of_ble_eq_true rfl) (fun S hr hlk hK E ls hl => ?_)
  have hl : lv_has ls 4 [(0, .ref (a 1)), (1, .int x1), (2, .int x2)] := hl
  unfold kM_Items_ownValuesOf at hM
  refine lv_iconst (v := 0) S.1 S.2.1 d_Items_ownValuesOf_0 (by decide) ?_
  refine lv_istore_n (lv' := [(3, .int 0), (0, .ref (a 1)), (1, .int x1), (2, .int x2)]) S.1 S.2.1 d_Items_ownValuesOf_1 rfl hl (by decide) rfl (fun ls hl => ?_)
  exact kB_Items_ownValuesOf_2 S hr hlk hK _ _ _ _ _ _ _ _ E (lv_sub hl [1, 2, 3, 0] rfl) hM
set_option maxHeartbeats 4000000 in
set_option maxRecDepth 100000 in
theorem kB_Items_dropFromList_53 {p : Program} {l : Launch} {e : Env} {s : State} {m : MethodId} {args : Array Value} {below : List Frame} {meth : Method} {c : Code} {D : va_G} {a : Nat → Nat} {cA : Nat → ClassId} {A : Nat → Prop} {g : Nat → Nat} {σ2 : St} (S : CallFix p m c prog_3_method_22_code 7 s args AW R_Items) (hr : meth.sig.returnType = none) (hlk : meth.locks = false) (hK : kKX D cA A g s s.heap) {k11 : St → Int32 → Int32 → Int32 → Int32 → Int32 → Option (St)} (hk11 : ∀ (σ : St) (v1 : Int32) (v2 : Int32) (v3 : Int32) (v4 : Int32) (v5 : Int32) (H : Heap) (locs : List Loc) (ls : Array Slot), kEx D a cA A σ s.heap H locs → lv_has ls 7 [(0, .ref (a 1)), (1, .int v1), (2, .int v2), (3, .int v3), (4, .int v4), (5, .int v5)] → k11 σ v1 v2 v3 v4 v5 = some σ2 → W p l e krm_Items_dropFromList s m args below meth c H locs 0 0 (MQ below (kqv D a cA A g σ2) args s 0 0 A) (F0 m 11 ls [])) : ∀ (σ : St) (v1 : Int32) (v2 : Int32) (v3 : Int32) (v4 : Int32) (v5 : Int32) (H : Heap) (locs : List Loc) (ls : Array Slot), kEx D a cA A σ s.heap H locs → lv_has ls 7 [(0, .ref (a 1)), (1, .int v1), (2, .int v2), (3, .int v3), (4, .int v4), (5, .int v5)] → kJ_Items_dropFromList_53 k11 σ v1 v2 v3 v4 v5 = some σ2 → W p l e krm_Items_dropFromList s m args below meth c H locs 0 0 (MQ below (kqv D a cA A g σ2) args s 0 0 A) (F0 m 53 ls []) := by
  intro σ v1 v2 v3 v4 v5 H locs ls E hl hM
  unfold kJ_Items_dropFromList_53 at hM
  obtain ⟨y1, ey1⟩ : ∃ z : Int32, z = v5 + 1 := ⟨_, rfl⟩
  have hM := lq_inv hM y1 ey1
  refine lv_iinc (v := y1) (lv' := [(5, .int y1), (0, .ref (a 1)), (1, .int v1), (2, .int v2), (3, .int v3), (4, .int v4)]) S.1 S.2.1 d_Items_dropFromList_53 hl (k := 5) rfl (by rw [ey1]; rfl) (by decide) rfl (fun ls hl => ?_)
  refine lv_goto (tgt := 11) S.1 S.2.1 d_Items_dropFromList_56 (by decide) ?_
  exact hk11 _ _ _ _ _ _ _ _ _ E (lv_sub hl [1, 2, 3, 4, 5, 0] rfl) hM
set_option maxHeartbeats 4000000 in
set_option maxRecDepth 100000 in
theorem kB_Items_dropFromList_59 {p : Program} {l : Launch} {e : Env} {s : State} {m : MethodId} {args : Array Value} {below : List Frame} {meth : Method} {c : Code} {D : va_G} {a : Nat → Nat} {cA : Nat → ClassId} {A : Nat → Prop} {g : Nat → Nat} {σ2 : St} (S : CallFix p m c prog_3_method_22_code 7 s args AW R_Items) (hr : meth.sig.returnType = none) (hlk : meth.locks = false) (hK : kKX D cA A g s s.heap) : ∀ (σ : St) (v1 : Int32) (v4 : Int32) (H : Heap) (locs : List Loc) (ls : Array Slot), kEx D a cA A σ s.heap H locs → lv_has ls 7 [(0, .ref (a 1)), (1, .int v1), (4, .int v4)] → kJ_Items_dropFromList_59 σ v1 v4 = some σ2 → W p l e krm_Items_dropFromList s m args below meth c H locs 0 0 (MQ below (kqv D a cA A g σ2) args s 0 0 A) (F0 m 59 ls []) := by
  intro σ v1 v4 H locs ls E hl hM
  unfold kJ_Items_dropFromList_59 at hM
  refine lv_aload_n S.1 S.2.1 d_Items_dropFromList_59 rfl (lv_at hl 0 rfl) ?_
  refine kgf_Items_22_1 S hK E d_Items_dropFromList_60 ?_
  refine lv_iload_n S.1 S.2.1 d_Items_dropFromList_63 rfl (lv_at hl 1 rfl) ?_
  refine lv_iload S.1 S.2.1 d_Items_dropFromList_64 (lv_at hl 2 rfl) ?_
  obtain ⟨h1, hM⟩ := gd_inv hM
  refine kas_10 S hK E h1 d_Items_dropFromList_66 (fun σ2 eσ2 H locs E => ?_)
  have hM := lq_inv hM σ2 eσ2
  obtain rfl := Option.some.inj hM
  exact kretv S hr hlk hK E d_Items_dropFromList_67
set_option maxHeartbeats 4000000 in
set_option maxRecDepth 100000 in
theorem kB_Items_dropFromList_11 {p : Program} {l : Launch} {e : Env} {s : State} {m : MethodId} {args : Array Value} {below : List Frame} {meth : Method} {c : Code} {D : va_G} {a : Nat → Nat} {cA : Nat → ClassId} {A : Nat → Prop} {g : Nat → Nat} {σ2 : St} (S : CallFix p m c prog_3_method_22_code 7 s args AW R_Items) (hr : meth.sig.returnType = none) (hlk : meth.locks = false) (hK : kKX D cA A g s s.heap) : ∀ (n : Nat) (σ : St) (v1 : Int32) (v2 : Int32) (v3 : Int32) (v4 : Int32) (v5 : Int32) (H : Heap) (locs : List Loc) (ls : Array Slot), kEx D a cA A σ s.heap H locs → lv_has ls 7 [(0, .ref (a 1)), (1, .int v1), (2, .int v2), (3, .int v3), (4, .int v4), (5, .int v5)] → kL_Items_dropFromList_11 n σ v1 v2 v3 v4 v5 = some σ2 → W p l e krm_Items_dropFromList s m args below meth c H locs 0 0 (MQ below (kqv D a cA A g σ2) args s 0 0 A) (F0 m 11 ls []) := by
  intro n
  induction n with
  | zero =>
    intro σ v1 v2 v3 v4 v5 H locs ls E hl hM
    rw [kL_Items_dropFromList_11] at hM
    cases hM
  | succ n ih =>
    intro σ v1 v2 v3 v4 v5 H locs ls E hl hM
    rw [kL_Items_dropFromList_11] at hM
    refine lv_iload S.1 S.2.1 d_Items_dropFromList_11 (lv_at hl 5 rfl) ?_
    refine lv_aload_n S.1 S.2.1 d_Items_dropFromList_13 rfl (lv_at hl 0 rfl) ?_
    refine kgf_Items_22_1 S hK E d_Items_dropFromList_14 ?_
    refine lv_iload_n S.1 S.2.1 d_Items_dropFromList_17 rfl (lv_at hl 1 rfl) ?_
    obtain ⟨h1, hM⟩ := gd_inv hM
    refine kal_10 S hK E h1 d_Items_dropFromList_18 ?_
    refine lv_icmp_ge (tgt := 59) S.1 S.2.1 d_Items_dropFromList_19 (by decide) (fun c2 => ?_) (fun c2 => ?_)
    · have hM := ifP hM c2
      exact kB_Items_dropFromList_59 S hr hlk hK _ _ _ _ _ _ E (lv_sub hl [0, 1, 4] rfl) hM
    · have hM := ifN hM c2
      refine lv_aload_n S.1 S.2.1 d_Items_dropFromList_22 rfl (lv_at hl 0 rfl) ?_
      refine kgf_Items_25_1 S hK E d_Items_dropFromList_23 ?_
      refine lv_iload_n S.1 S.2.1 d_Items_dropFromList_26 rfl (lv_at hl 3 rfl) ?_
      refine lv_iload S.1 S.2.1 d_Items_dropFromList_27 (lv_at hl 5 rfl) ?_
      refine lv_iadd S.1 S.2.1 d_Items_dropFromList_29 ?_
      obtain ⟨h3, hM⟩ := gd_inv hM
      refine kal_11 S hK E h3 d_Items_dropFromList_30 ?_
      refine lv_topi (fun y4 ey4 => ?_)
      have hM := lq_inv hM y4 ey4
      refine lv_istore (lv' := [(6, .int y4), (0, .ref (a 1)), (1, .int v1), (2, .int v2), (3, .int v3), (4, .int v4), (5, .int v5)]) S.1 S.2.1 d_Items_dropFromList_31 hl (by decide) rfl (fun ls hl => ?_)
      refine lv_iload S.1 S.2.1 d_Items_dropFromList_33 (lv_at hl 0 rfl) ?_
      refine lv_iload_n S.1 S.2.1 d_Items_dropFromList_35 rfl (lv_at hl 3 rfl) ?_
      refine lv_icmp_eq (tgt := 53) S.1 S.2.1 d_Items_dropFromList_36 (by decide) (fun c5 => ?_) (fun c5 => ?_)
      · have hM := ifP hM c5
        exact kB_Items_dropFromList_53 S hr hlk hK ih _ _ _ _ _ _ _ _ _ E (lv_sub hl [1, 2, 3, 4, 5, 6] rfl) hM
      · have hM := ifN hM c5
        refine lv_aload_n S.1 S.2.1 d_Items_dropFromList_39 rfl (lv_at hl 1 rfl) ?_
        refine kgf_Items_25_1 S hK E d_Items_dropFromList_40 ?_
        refine lv_iload_n S.1 S.2.1 d_Items_dropFromList_43 rfl (lv_at hl 4 rfl) ?_
        refine lv_iload S.1 S.2.1 d_Items_dropFromList_44 (lv_at hl 5 rfl) ?_
        refine lv_iadd S.1 S.2.1 d_Items_dropFromList_46 ?_
        refine lv_iload S.1 S.2.1 d_Items_dropFromList_47 (lv_at hl 0 rfl) ?_
        obtain ⟨h6, hM⟩ := gd_inv hM
        refine kas_11 S hK E h6 d_Items_dropFromList_49 (fun σ7 eσ7 H locs E => ?_)
        have hM := lq_inv hM σ7 eσ7
        obtain ⟨y8, ey8⟩ : ∃ z : Int32, z = v4 + 1 := ⟨_, rfl⟩
        have hM := lq_inv hM y8 ey8
        refine lv_iinc (v := y8) (lv' := [(4, .int y8), (6, .int y4), (0, .ref (a 1)), (1, .int v1), (2, .int v2), (3, .int v3), (5, .int v5)]) S.1 S.2.1 d_Items_dropFromList_50 hl (k := 5) rfl (by rw [ey8]; rfl) (by decide) rfl (fun ls hl => ?_)
        exact kB_Items_dropFromList_53 S hr hlk hK ih _ _ _ _ _ _ _ _ _ E (lv_sub hl [2, 3, 4, 5, 0, 6] rfl) hM
set_option maxHeartbeats 4000000 in
set_option maxRecDepth 100000 in
theorem kC_Items_dropFromList {l : Launch} {D : va_G} {a : Nat → Nat} {cA : Nat → ClassId} {A : Nat → Prop} {g : Nat → Nat} {σ σ2 : St} {x1 : Int32} {x2 : Int32} (hM : kM_Items_dropFromList σ x1 x2 = some σ2) : Met l y_Items_dropFromList (.code y_Items_dropFromList prog_3_method_22_code 7 none :: AW) krm_Items_dropFromList (va_Pc [.ref (a 1), .int x1, .int x2] (kCP D a cA A g σ)) (kqv D a cA A g σ2) 0 0 A := by
  refine kmet (nL := 7) (by decide) (Nat.le_of_ble_eq_true rfl) (fun S hr hlk hK E ls hl => ?_)
  have hl : lv_has ls 7 [(0, .ref (a 1)), (1, .int x1), (2, .int x2)] := hl
  unfold kM_Items_dropFromList at hM
  refine lv_iload_n S.1 S.2.1 d_Items_dropFromList_0 rfl (lv_at hl 1 rfl) ?_
  refine lv_bipush (v := 40) S.1 S.2.1 d_Items_dropFromList_1 (by decide) ?_
  refine lv_imul S.1 S.2.1 d_Items_dropFromList_3 ?_
  refine lv_topi (fun y1 ey1 => ?_)
  have hM := lq_inv hM y1 ey1
  refine lv_istore_n (lv' := [(3, .int y1), (0, .ref (a 1)), (1, .int x1), (2, .int x2)]) S.1 S.2.1 d_Items_dropFromList_4 rfl hl (by decide) rfl (fun ls hl => ?_)
  refine lv_iconst (v := 0) S.1 S.2.1 d_Items_dropFromList_5 (by decide) ?_
  refine lv_istore (lv' := [(4, .int 0), (3, .int y1), (0, .ref (a 1)), (1, .int x1), (2, .int x2)]) S.1 S.2.1 d_Items_dropFromList_6 hl (by decide) rfl (fun ls hl => ?_)
  refine lv_iconst (v := 0) S.1 S.2.1 d_Items_dropFromList_8 (by decide) ?_
  refine lv_istore (lv' := [(5, .int 0), (4, .int 0), (3, .int y1), (0, .ref (a 1)), (1, .int x1), (2, .int x2)]) S.1 S.2.1 d_Items_dropFromList_9 hl (by decide) rfl (fun ls hl => ?_)
  exact kB_Items_dropFromList_11 S hr hlk hK _ _ _ _ _ _ _ _ _ _ E (lv_sub hl [3, 4, 5, 2, 1, 0] rfl) hM
set_option maxHeartbeats 4000000 in
set_option maxRecDepth 100000 in
theorem kB_Items_dropEverywhere_22 {p : Program} {l : Launch} {e : Env} {s : State} {m : MethodId} {args : Array Value} {below : List Frame} {meth : Method} {c : Code} {D : va_G} {a : Nat → Nat} {cA : Nat → ClassId} {A : Nat → Prop} {g : Nat → Nat} {σ2 : St} (S : CallFix p m c prog_3_method_21_code 3 s args AW R_Items) (hr : meth.sig.returnType = none) (hlk : meth.locks = false) (hK : kKX D cA A g s s.heap) : ∀ (σ : St) (H : Heap) (locs : List Loc) (ls : Array Slot), kEx D a cA A σ s.heap H locs → lv_has ls 3 [(0, .ref (a 1))] → kJ_Items_dropEverywhere_22 σ = some σ2 → W p l e krm_Items_dropEverywhere s m args below meth c H locs 0 0 (MQ below (kqv D a cA A g σ2) args s 0 0 A) (F0 m 22 ls []) := by
  intro σ H locs ls E hl hM
  unfold kJ_Items_dropEverywhere_22 at hM
  refine lv_aload_n S.1 S.2.1 d_Items_dropEverywhere_22 rfl (lv_at hl 0 rfl) ?_
  refine lv_dup S.1 S.2.1 d_Items_dropEverywhere_23 rfl ?_
  refine kgf_Items_41_1 S hK E d_Items_dropEverywhere_24 ?_
  refine lv_iconst (v := 1) S.1 S.2.1 d_Items_dropEverywhere_27 (by decide) ?_
  refine lv_iadd S.1 S.2.1 d_Items_dropEverywhere_28 ?_
  refine kpf_Items_41_1 S hK E d_Items_dropEverywhere_29 (fun σ1 eσ1 H locs E => ?_)
  have hM := lq_inv hM σ1 eσ1
  obtain rfl := Option.some.inj hM
  exact kretv S hr hlk hK E d_Items_dropEverywhere_32
set_option maxHeartbeats 4000000 in
set_option maxRecDepth 100000 in
theorem kB_Items_dropEverywhere_2 {p : Program} {l : Launch} {e : Env} {s : State} {m : MethodId} {args : Array Value} {below : List Frame} {meth : Method} {c : Code} {D : va_G} {a : Nat → Nat} {cA : Nat → ClassId} {A : Nat → Prop} {g : Nat → Nat} {σ2 : St} (S : CallFix p m c prog_3_method_21_code 3 s args AW R_Items) (hr : meth.sig.returnType = none) (hlk : meth.locks = false) (hK : kKX D cA A g s s.heap) : ∀ (n : Nat) (σ : St) (v1 : Int32) (v2 : Int32) (H : Heap) (locs : List Loc) (ls : Array Slot), kEx D a cA A σ s.heap H locs → lv_has ls 3 [(0, .ref (a 1)), (1, .int v1), (2, .int v2)] → kL_Items_dropEverywhere_2 n σ v1 v2 = some σ2 → W p l e krm_Items_dropEverywhere s m args below meth c H locs 0 0 (MQ below (kqv D a cA A g σ2) args s 0 0 A) (F0 m 2 ls []) := by
  intro n
  induction n with
  | zero =>
    intro σ v1 v2 H locs ls E hl hM
    rw [kL_Items_dropEverywhere_2] at hM
    cases hM
  | succ n ih =>
    intro σ v1 v2 H locs ls E hl hM
    rw [kL_Items_dropEverywhere_2] at hM
    refine lv_iload_n S.1 S.2.1 d_Items_dropEverywhere_2 rfl (lv_at hl 2 rfl) ?_
    refine lv_aload_n S.1 S.2.1 d_Items_dropEverywhere_3 rfl (lv_at hl 0 rfl) ?_
    refine kgf_Items_37_1 S hK E d_Items_dropEverywhere_4 ?_
    refine lv_icmp_ge (tgt := 22) S.1 S.2.1 d_Items_dropEverywhere_7 (by decide) (fun c1 => ?_) (fun c1 => ?_)
    · have hM := ifP hM c1
      exact kB_Items_dropEverywhere_22 S hr hlk hK _ _ _ _ E (lv_sub hl [0] rfl) hM
    · have hM := ifN hM c1
      refine lv_aload_n S.1 S.2.1 d_Items_dropEverywhere_10 rfl (lv_at hl 0 rfl) ?_
      refine lv_iload_n S.1 S.2.1 d_Items_dropEverywhere_11 rfl (lv_at hl 2 rfl) ?_
      refine lv_iload_n S.1 S.2.1 d_Items_dropEverywhere_12 rfl (lv_at hl 1 rfl) ?_
      obtain ⟨σ3, h2, hM⟩ := bv_inv hM
      refine kcr_64 (As := [.int v2, .int v1]) (rest := []) S hK E (kC_Items_dropFromList h2) ⟨Nat.le_of_ble_eq_true rfl, Nat.le_of_ble_eq_true rfl⟩ rfl rfl hl.1 (lv_room (Nat.le_of_ble_eq_true rfl)) d_Items_dropEverywhere_13 (fun H locs E => ?_)
      obtain ⟨y4, ey4⟩ : ∃ z : Int32, z = v2 + 1 := ⟨_, rfl⟩
      have hM := lq_inv hM y4 ey4
      refine lv_iinc (v := y4) (lv' := [(2, .int y4), (0, .ref (a 1)), (1, .int v1)]) S.1 S.2.1 d_Items_dropEverywhere_16 hl (k := 2) rfl (by rw [ey4]; rfl) (by decide) rfl (fun ls hl => ?_)
      refine lv_goto (tgt := 2) S.1 S.2.1 d_Items_dropEverywhere_19 (by decide) ?_
      exact ih _ _ _ _ _ _ E (lv_sub hl [1, 2, 0] rfl) hM
set_option maxHeartbeats 4000000 in
set_option maxRecDepth 100000 in
theorem kC_Items_dropEverywhere {l : Launch} {D : va_G} {a : Nat → Nat} {cA : Nat → ClassId} {A : Nat → Prop} {g : Nat → Nat} {σ σ2 : St} {x1 : Int32} (hM : kM_Items_dropEverywhere σ x1 = some σ2) : Met l y_Items_dropEverywhere (.code y_Items_dropEverywhere prog_3_method_21_code 3 none :: AW) krm_Items_dropEverywhere (va_Pc [.ref (a 1), .int x1] (kCP D a cA A g σ)) (kqv D a cA A g σ2) 0 0 A := by
  refine kmet (nL := 3) (by decide) (Nat.le_of_ble_eq_true rfl) (fun S hr hlk hK E ls hl => ?_)
  have hl : lv_has ls 3 [(0, .ref (a 1)), (1, .int x1)] := hl
  unfold kM_Items_dropEverywhere at hM
  refine lv_iconst (v := 0) S.1 S.2.1 d_Items_dropEverywhere_0 (by decide) ?_
  refine lv_istore_n (lv' := [(2, .int 0), (0, .ref (a 1)), (1, .int x1)]) S.1 S.2.1 d_Items_dropEverywhere_1 rfl hl (by decide) rfl (fun ls hl => ?_)
  exact kB_Items_dropEverywhere_2 S hr hlk hK _ _ _ _ _ _ _ E (lv_sub hl [1, 2, 0] rfl) hM
set_option maxHeartbeats 4000000 in
set_option maxRecDepth 100000 in
theorem kC_Order_slotOf {l : Launch} {D : va_G} {a : Nat → Nat} {cA : Nat → ClassId} {A : Nat → Prop} {g : Nat → Nat} {σ σ2 : St} {x1 : Int32} {r : Int32} (hM : kM_Order_slotOf σ x1 = some (r, σ2)) : Met l y_Order_slotOf (.code y_Order_slotOf prog_7_method_9_code 2 (some .int) :: AW) krm_Order_slotOf (va_Pc [.ref (a 2), .int x1] (kCP D a cA A g σ)) (kqi D a cA A g r σ2) 0 0 A := by
  refine kmet (nL := 2) (by decide) (Nat.le_of_ble_eq_true rfl) (fun S hr hlk hK E ls hl => ?_)
  have hl : lv_has ls 2 [(0, .ref (a 2)), (1, .int x1)] := hl
  unfold kM_Order_slotOf at hM
  refine lv_aload_n S.1 S.2.1 d_Order_slotOf_0 rfl (lv_at hl 0 rfl) ?_
  obtain ⟨σ2, h1, hM⟩ := bv_inv hM
  refine kcr_33 (As := []) (rest := []) S hK E (kC_Order_refresh h1) ⟨Nat.le_of_ble_eq_true rfl, Nat.le_of_ble_eq_true rfl⟩ rfl rfl hl.1 (lv_room (Nat.le_of_ble_eq_true rfl)) d_Order_slotOf_1 (fun H locs E => ?_)
  refine lv_aload_n S.1 S.2.1 d_Order_slotOf_4 rfl (lv_at hl 0 rfl) ?_
  refine lv_iload_n S.1 S.2.1 d_Order_slotOf_5 rfl (lv_at hl 1 rfl) ?_
  obtain ⟨r4, h3, hM⟩ := br_inv hM
  refine kcr_36 (As := [.int x1]) (rest := []) S hK E (kC_Order_isTaken h3) ⟨Nat.le_of_ble_eq_true rfl, Nat.le_of_ble_eq_true rfl⟩ rfl rfl hl.1 (lv_room (Nat.le_of_ble_eq_true rfl)) d_Order_slotOf_6 (fun H locs E => ?_)
  refine lv_if_eq (tgt := 21) S.1 S.2.1 d_Order_slotOf_9 (by decide) (fun c5 => ?_) (fun c5 => ?_)
  · have hM := ifP hM c5
    refine lv_iconst (v := (-1)) S.1 S.2.1 d_Order_slotOf_21 (by decide) ?_
    obtain ⟨rfl, rfl⟩ := pr_inj hM
    exact kreti S hr hlk hK E d_Order_slotOf_22
  · have hM := ifN hM c5
    refine lv_aload_n S.1 S.2.1 d_Order_slotOf_12 rfl (lv_at hl 0 rfl) ?_
    refine kgf_Order_21_2 S hK E d_Order_slotOf_13 ?_
    refine lv_iload_n S.1 S.2.1 d_Order_slotOf_16 rfl (lv_at hl 1 rfl) ?_
    obtain ⟨h6, hM⟩ := gd_inv hM
    refine kal_19 S hK E h6 d_Order_slotOf_17 ?_
    refine lv_goto (tgt := 22) S.1 S.2.1 d_Order_slotOf_18 (by decide) ?_
    obtain ⟨rfl, rfl⟩ := pr_inj hM
    exact kreti S hr hlk hK E d_Order_slotOf_22
