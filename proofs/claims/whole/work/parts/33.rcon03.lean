set_option maxHeartbeats 4000000 in
set_option maxRecDepth 100000 in
theorem rB_Md_move_187 {p : Program} {l : Launch} {e : Env} {s : State} {m : MethodId} {args : Array Value} {below : List Frame} {meth : Method} {c : Code} {D : va_G} {a : Nat → Nat} {cA : Nat → ClassId} {A : Nat → Prop} {g : Nat → Nat} {σ2 : St} {r : Int32} (S : CallFix p m c prog_10_method_34_code 9 s args AW R_Md) (hr : meth.sig.returnType = (some .int)) (hlk : meth.locks = false) (hK : rKX D cA A g s s.heap) : ∀ (σ : St) (v1 : Int32) (v2 : Int32) (t1 : Int32) (t2 : Int32) (t3 : Int32) (H : Heap) (locs : List Loc) (ls : Array Slot), rEx D a cA A σ s.heap H locs → lv_has ls 9 [(1, .int v1), (2, .int v2)] → rJ_Md_move_187 σ v1 v2 t1 t2 t3 = some (r, σ2) → W p l e rrm_Md_move s m args below meth c H locs 0 0 (MQ below (rqi D a cA A g r σ2) args s 0 0 A) (F0 m 187 ls [.int t3, .int t2, .int t1, .ref (a 0)]) := by
  intro σ v1 v2 t1 t2 t3 H locs ls E hl hM
  unfold rJ_Md_move_187 at hM
  refine lv_iadd S.1 S.2.1 d_Md_move_187 ?_
  refine lv_iload_n S.1 S.2.1 d_Md_move_188 rfl (lv_at hl 0 rfl) ?_
  obtain ⟨σ2, h1, hM⟩ := bv_inv hM
  refine rcr_16 (As := [.int t1, .int (t2 + t3), .int v1]) (rest := []) S hK E (rC_Md_putAt h1) ⟨Nat.le_of_ble_eq_true rfl, Nat.le_of_ble_eq_true rfl⟩ rfl rfl hl.1 (lv_room (Nat.le_of_ble_eq_true rfl)) d_Md_move_189 (fun H locs E => ?_)
  refine lv_iload_n S.1 S.2.1 d_Md_move_192 rfl (lv_at hl 1 rfl) ?_
  obtain ⟨rfl, rfl⟩ := pr_inj hM
  exact rreti S hr hlk hK E d_Md_move_193
set_option maxHeartbeats 4000000 in
set_option maxRecDepth 100000 in
theorem rB_Md_move_101 {p : Program} {l : Launch} {e : Env} {s : State} {m : MethodId} {args : Array Value} {below : List Frame} {meth : Method} {c : Code} {D : va_G} {a : Nat → Nat} {cA : Nat → ClassId} {A : Nat → Prop} {g : Nat → Nat} {σ2 : St} {r : Int32} (S : CallFix p m c prog_10_method_34_code 9 s args AW R_Md) (hr : meth.sig.returnType = (some .int)) (hlk : meth.locks = false) (hK : rKX D cA A g s s.heap) : ∀ (σ : St) (v1 : Int32) (v2 : Int32) (v4 : Int32) (t0 : Int32) (H : Heap) (locs : List Loc) (ls : Array Slot), rEx D a cA A σ s.heap H locs → lv_has ls 9 [(0, .ref (a 0)), (1, .int v1), (2, .int v2), (4, .int v4)] → rJ_Md_move_101 σ v1 v2 v4 t0 = some (r, σ2) → W p l e rrm_Md_move s m args below meth c H locs 0 0 (MQ below (rqi D a cA A g r σ2) args s 0 0 A) (F0 m 101 ls [.int t0]) := by
  intro σ v1 v2 v4 t0 H locs ls E hl hM
  unfold rJ_Md_move_101 at hM
  refine lv_istore (lv' := [(5, .int t0), (0, .ref (a 0)), (1, .int v1), (2, .int v2), (4, .int v4)]) S.1 S.2.1 d_Md_move_101 hl (by decide) rfl (fun ls hl => ?_)
  refine lv_aload_n S.1 S.2.1 d_Md_move_103 rfl (lv_at hl 1 rfl) ?_
  refine rgf_Md_38_0 S hK E d_Md_move_104 ?_
  refine lv_iload S.1 S.2.1 d_Md_move_107 (lv_at hl 0 rfl) ?_
  obtain ⟨h1, hM⟩ := gd_inv hM
  refine ral_10 S hK E h1 d_Md_move_109 ?_
  refine lv_topi (fun y2 ey2 => ?_)
  have hM := lq_inv hM y2 ey2
  refine lv_istore (lv' := [(6, .int y2), (5, .int t0), (0, .ref (a 0)), (1, .int v1), (2, .int v2), (4, .int v4)]) S.1 S.2.1 d_Md_move_110 hl (by decide) rfl (fun ls hl => ?_)
  refine lv_aload_n S.1 S.2.1 d_Md_move_112 rfl (lv_at hl 2 rfl) ?_
  refine rgf_Md_41_0 S hK E d_Md_move_113 ?_
  refine lv_iload S.1 S.2.1 d_Md_move_116 (lv_at hl 1 rfl) ?_
  obtain ⟨h3, hM⟩ := gd_inv hM
  refine ral_11 S hK E h3 d_Md_move_118 ?_
  refine lv_topi (fun y4 ey4 => ?_)
  have hM := lq_inv hM y4 ey4
  refine lv_istore (lv' := [(7, .int y4), (6, .int y2), (5, .int t0), (0, .ref (a 0)), (1, .int v1), (2, .int v2), (4, .int v4)]) S.1 S.2.1 d_Md_move_119 hl (by decide) rfl (fun ls hl => ?_)
  refine lv_aload_n S.1 S.2.1 d_Md_move_121 rfl (lv_at hl 3 rfl) ?_
  refine rgf_Md_20_0 S hK E d_Md_move_122 ?_
  refine lv_iload S.1 S.2.1 d_Md_move_125 (lv_at hl 0 rfl) ?_
  obtain ⟨h5, hM⟩ := gd_inv hM
  refine ral_4 S hK E h5 d_Md_move_127 ?_
  refine lv_aload_n S.1 S.2.1 d_Md_move_128 rfl (lv_at hl 3 rfl) ?_
  refine lv_iload S.1 S.2.1 d_Md_move_129 (lv_at hl 0 rfl) ?_
  refine lv_iload_n S.1 S.2.1 d_Md_move_131 rfl (lv_at hl 4 rfl) ?_
  obtain ⟨r7, h6, hM⟩ := br_inv hM
  refine rcr_17 (As := [.int y4, .int v1]) (rest := [.int (σ 3 y4.toNatClampNeg)]) S hK E (rC_Md_listed h6) ⟨Nat.le_of_ble_eq_true rfl, Nat.le_of_ble_eq_true rfl⟩ rfl rfl hl.1 (lv_room (Nat.le_of_ble_eq_true rfl)) d_Md_move_132 (fun H locs E => ?_)
  refine lv_isub S.1 S.2.1 d_Md_move_135 ?_
  refine lv_bipush (v := 40) S.1 S.2.1 d_Md_move_136 (by decide) ?_
  refine lv_icmp_lt (tgt := 144) S.1 S.2.1 d_Md_move_138 (by decide) (fun c8 => ?_) (fun c8 => ?_)
  · have hM := ifP hM c8
    refine lv_aload_n S.1 S.2.1 d_Md_move_144 rfl (lv_at hl 3 rfl) ?_
    refine lv_iload_n S.1 S.2.1 d_Md_move_145 rfl (lv_at hl 4 rfl) ?_
    obtain ⟨σ10, h9, hM⟩ := bv_inv hM
    refine rcr_18 (As := [.int v1]) (rest := []) S hK E (rC_Md_ownAll h9) ⟨Nat.le_of_ble_eq_true rfl, Nat.le_of_ble_eq_true rfl⟩ rfl rfl hl.1 (lv_room (Nat.le_of_ble_eq_true rfl)) d_Md_move_146 (fun H locs E => ?_)
    refine lv_aload_n S.1 S.2.1 d_Md_move_149 rfl (lv_at hl 3 rfl) ?_
    refine lv_iload_n S.1 S.2.1 d_Md_move_150 rfl (lv_at hl 4 rfl) ?_
    obtain ⟨σ12, h11, hM⟩ := bv_inv hM
    refine rcr_19 (As := [.int v1]) (rest := []) S hK E (rC_Md_takeOffAll h11) ⟨Nat.le_of_ble_eq_true rfl, Nat.le_of_ble_eq_true rfl⟩ rfl rfl hl.1 (lv_room (Nat.le_of_ble_eq_true rfl)) d_Md_move_151 (fun H locs E => ?_)
    refine lv_aload_n S.1 S.2.1 d_Md_move_154 rfl (lv_at hl 3 rfl) ?_
    refine lv_iload S.1 S.2.1 d_Md_move_155 (lv_at hl 1 rfl) ?_
    obtain ⟨r14, σ15, h13, hM⟩ := bd_inv hM
    refine rcr_11 (As := [.int y2]) (rest := []) S hK E (rC_Md_placeOf h13) ⟨Nat.le_of_ble_eq_true rfl, Nat.le_of_ble_eq_true rfl⟩ rfl rfl hl.1 (lv_room (Nat.le_of_ble_eq_true rfl)) d_Md_move_157 (fun H locs E => ?_)
    refine lv_istore (lv' := [(8, .int r14), (7, .int y4), (6, .int y2), (5, .int t0), (0, .ref (a 0)), (1, .int v1), (2, .int v2), (4, .int v4)]) S.1 S.2.1 d_Md_move_160 hl (by decide) rfl (fun ls hl => ?_)
    refine lv_aload_n S.1 S.2.1 d_Md_move_162 rfl (lv_at hl 4 rfl) ?_
    refine lv_aload_n S.1 S.2.1 d_Md_move_163 rfl (lv_at hl 4 rfl) ?_
    refine rgf_Md_41_0 S hK E d_Md_move_164 ?_
    refine lv_iload S.1 S.2.1 d_Md_move_167 (lv_at hl 0 rfl) ?_
    obtain ⟨h16, hM⟩ := gd_inv hM
    refine ral_11 S hK E h16 d_Md_move_169 ?_
    refine lv_aload_n S.1 S.2.1 d_Md_move_170 rfl (lv_at hl 4 rfl) ?_
    refine rgf_Md_44_0 S hK E d_Md_move_171 ?_
    refine lv_iload S.1 S.2.1 d_Md_move_174 (lv_at hl 0 rfl) ?_
    obtain ⟨h17, hM⟩ := gd_inv hM
    refine ral_12 S hK E h17 d_Md_move_176 ?_
    refine lv_iload S.1 S.2.1 d_Md_move_177 (lv_at hl 7 rfl) ?_
    refine lv_if_eq (tgt := 186) S.1 S.2.1 d_Md_move_179 (by decide) (fun c18 => ?_) (fun c18 => ?_)
    · have hM := ifP hM c18
      refine lv_iconst (v := 0) S.1 S.2.1 d_Md_move_186 (by decide) ?_
      exact rB_Md_move_187 S hr hlk hK _ _ _ _ _ _ _ _ _ E (lv_sub hl [5, 6] rfl) hM
    · have hM := ifN hM c18
      refine lv_iconst (v := 1) S.1 S.2.1 d_Md_move_182 (by decide) ?_
      refine lv_goto (tgt := 187) S.1 S.2.1 d_Md_move_183 (by decide) ?_
      exact rB_Md_move_187 S hr hlk hK _ _ _ _ _ _ _ _ _ E (lv_sub hl [5, 6] rfl) hM
  · have hM := ifN hM c8
    refine lv_bipush (v := (-4)) S.1 S.2.1 d_Md_move_141 (by decide) ?_
    obtain ⟨rfl, rfl⟩ := pr_inj hM
    exact rreti S hr hlk hK E d_Md_move_143
set_option maxHeartbeats 4000000 in
set_option maxRecDepth 100000 in
theorem rB_Md_move_54 {p : Program} {l : Launch} {e : Env} {s : State} {m : MethodId} {args : Array Value} {below : List Frame} {meth : Method} {c : Code} {D : va_G} {a : Nat → Nat} {cA : Nat → ClassId} {A : Nat → Prop} {g : Nat → Nat} {σ2 : St} {r : Int32} (S : CallFix p m c prog_10_method_34_code 9 s args AW R_Md) (hr : meth.sig.returnType = (some .int)) (hlk : meth.locks = false) (hK : rKX D cA A g s s.heap) : ∀ (σ : St) (v1 : Int32) (v2 : Int32) (v3 : Int32) (t0 : Int32) (H : Heap) (locs : List Loc) (ls : Array Slot), rEx D a cA A σ s.heap H locs → lv_has ls 9 [(0, .ref (a 0)), (1, .int v1), (2, .int v2), (3, .int v3)] → rJ_Md_move_54 σ v1 v2 v3 t0 = some (r, σ2) → W p l e rrm_Md_move s m args below meth c H locs 0 0 (MQ below (rqi D a cA A g r σ2) args s 0 0 A) (F0 m 54 ls [.int t0]) := by
  intro σ v1 v2 v3 t0 H locs ls E hl hM
  unfold rJ_Md_move_54 at hM
  refine lv_istore (lv' := [(4, .int t0), (0, .ref (a 0)), (1, .int v1), (2, .int v2), (3, .int v3)]) S.1 S.2.1 d_Md_move_54 hl (by decide) rfl (fun ls hl => ?_)
  refine lv_iload S.1 S.2.1 d_Md_move_56 (lv_at hl 0 rfl) ?_
  refine lv_if_eq (tgt := 89) S.1 S.2.1 d_Md_move_58 (by decide) (fun c1 => ?_) (fun c1 => ?_)
  · have hM := ifP hM c1
    refine lv_iload_n S.1 S.2.1 d_Md_move_89 rfl (lv_at hl 3 rfl) ?_
    refine lv_iload_n S.1 S.2.1 d_Md_move_90 rfl (lv_at hl 4 rfl) ?_
    refine lv_icmp_ge (tgt := 98) S.1 S.2.1 d_Md_move_91 (by decide) (fun c2 => ?_) (fun c2 => ?_)
    · have hM := ifP hM c2
      refine lv_iload_n S.1 S.2.1 d_Md_move_98 rfl (lv_at hl 3 rfl) ?_
      refine lv_iconst (v := 1) S.1 S.2.1 d_Md_move_99 (by decide) ?_
      refine lv_iadd S.1 S.2.1 d_Md_move_100 ?_
      exact rB_Md_move_101 S hr hlk hK _ _ _ _ _ _ _ _ E (lv_sub hl [1, 2, 3, 0] rfl) hM
    · have hM := ifN hM c2
      refine lv_iload_n S.1 S.2.1 d_Md_move_94 rfl (lv_at hl 3 rfl) ?_
      refine lv_goto (tgt := 101) S.1 S.2.1 d_Md_move_95 (by decide) ?_
      exact rB_Md_move_101 S hr hlk hK _ _ _ _ _ _ _ _ E (lv_sub hl [1, 2, 3, 0] rfl) hM
  · have hM := ifN hM c1
    refine lv_iload_n S.1 S.2.1 d_Md_move_61 rfl (lv_at hl 4 rfl) ?_
    refine lv_aload_n S.1 S.2.1 d_Md_move_62 rfl (lv_at hl 1 rfl) ?_
    refine rgf_Md_105_0 S hK E d_Md_move_63 ?_
    refine lv_iconst (v := 1) S.1 S.2.1 d_Md_move_66 (by decide) ?_
    refine lv_isub S.1 S.2.1 d_Md_move_67 ?_
    refine lv_icmp_ne (tgt := 80) S.1 S.2.1 d_Md_move_68 (by decide) (fun c3 => ?_) (fun c3 => ?_)
    · have hM := ifN hM c3
      refine lv_aload_n S.1 S.2.1 d_Md_move_80 rfl (lv_at hl 1 rfl) ?_
      refine rgf_Md_105_0 S hK E d_Md_move_81 ?_
      refine lv_iconst (v := 1) S.1 S.2.1 d_Md_move_84 (by decide) ?_
      refine lv_isub S.1 S.2.1 d_Md_move_85 ?_
      refine lv_goto (tgt := 101) S.1 S.2.1 d_Md_move_86 (by decide) ?_
      exact rB_Md_move_101 S hr hlk hK _ _ _ _ _ _ _ _ E (lv_sub hl [1, 2, 3, 0] rfl) hM
    · have hM := ifP hM c3
      refine lv_aload_n S.1 S.2.1 d_Md_move_71 rfl (lv_at hl 1 rfl) ?_
      refine rgf_Md_105_0 S hK E d_Md_move_72 ?_
      refine lv_iconst (v := 2) S.1 S.2.1 d_Md_move_75 (by decide) ?_
      refine lv_isub S.1 S.2.1 d_Md_move_76 ?_
      refine lv_goto (tgt := 101) S.1 S.2.1 d_Md_move_77 (by decide) ?_
      exact rB_Md_move_101 S hr hlk hK _ _ _ _ _ _ _ _ E (lv_sub hl [1, 2, 3, 0] rfl) hM
set_option maxHeartbeats 4000000 in
set_option maxRecDepth 100000 in
theorem rC_Md_move {l : Launch} {D : va_G} {a : Nat → Nat} {cA : Nat → ClassId} {A : Nat → Prop} {g : Nat → Nat} {σ σ2 : St} {x1 : Int32} {x2 : Int32} {r : Int32} (hM : rM_Md_move σ x1 x2 = some (r, σ2)) : Met l y_Md_move (.code y_Md_move prog_10_method_34_code 9 (some .int) :: AW) rrm_Md_move (va_Pc [.ref (a 0), .int x1, .int x2] (rCP D a cA A g σ)) (rqi D a cA A g r σ2) 0 0 A := by
  refine rmet (nL := 9) (by decide) (Nat.le_of_ble_eq_true rfl) (fun S hr hlk hK E ls hl => ?_)
  have hl : lv_has ls 9 [(0, .ref (a 0)), (1, .int x1), (2, .int x2)] := hl
  unfold rM_Md_move at hM
  refine lv_aload_n S.1 S.2.1 d_Md_move_0 rfl (lv_at hl 0 rfl) ?_
  refine lv_iload_n S.1 S.2.1 d_Md_move_1 rfl (lv_at hl 1 rfl) ?_
  obtain ⟨r2, σ3, h1, hM⟩ := bd_inv hM
  refine rcr_11 (As := [.int x1]) (rest := []) S hK E (rC_Md_placeOf h1) ⟨Nat.le_of_ble_eq_true rfl, Nat.le_of_ble_eq_true rfl⟩ rfl rfl hl.1 (lv_room (Nat.le_of_ble_eq_true rfl)) d_Md_move_2 (fun H locs E => ?_)
  refine lv_istore_n (lv' := [(3, .int r2), (0, .ref (a 0)), (1, .int x1), (2, .int x2)]) S.1 S.2.1 d_Md_move_5 rfl hl (by decide) rfl (fun ls hl => ?_)
  refine lv_iload_n S.1 S.2.1 d_Md_move_6 rfl (lv_at hl 0 rfl) ?_
  refine lv_if_ge (tgt := 12) S.1 S.2.1 d_Md_move_7 (by decide) (fun c4 => ?_) (fun c4 => ?_)
  · have hM := ifP hM c4
    refine lv_iload_n S.1 S.2.1 d_Md_move_12 rfl (lv_at hl 3 rfl) ?_
    refine lv_iconst (v := 0) S.1 S.2.1 d_Md_move_13 (by decide) ?_
    refine lv_aload_n S.1 S.2.1 d_Md_move_14 rfl (lv_at hl 1 rfl) ?_
    refine rgf_Md_105_0 S hK E d_Md_move_15 ?_
    refine lv_iconst (v := 1) S.1 S.2.1 d_Md_move_18 (by decide) ?_
    refine lv_isub S.1 S.2.1 d_Md_move_19 ?_
    obtain ⟨r6, h5, hM⟩ := br_inv hM
    refine rcr_4 (As := [.int x2, .int 0, .int ((σ3 24 0) - 1)]) (rest := []) S hK E (rC_Md_within h5) ⟨Nat.le_of_ble_eq_true rfl, Nat.le_of_ble_eq_true rfl⟩ rfl rfl hl.1 (lv_room (Nat.le_of_ble_eq_true rfl)) d_Md_move_20 (fun H locs E => ?_)
    refine lv_if_ne (tgt := 29) S.1 S.2.1 d_Md_move_23 (by decide) (fun c7 => ?_) (fun c7 => ?_)
    · have hM := ifN hM c7
      refine lv_aload_n S.1 S.2.1 d_Md_move_29 rfl (lv_at hl 1 rfl) ?_
      refine rgf_Md_105_0 S hK E d_Md_move_30 ?_
      refine lv_iconst (v := 1) S.1 S.2.1 d_Md_move_33 (by decide) ?_
      refine lv_icmp_ne (tgt := 39) S.1 S.2.1 d_Md_move_34 (by decide) (fun c8 => ?_) (fun c8 => ?_)
      · have hM := ifN hM c8
        refine lv_iload_n S.1 S.2.1 d_Md_move_39 rfl (lv_at hl 3 rfl) ?_
        refine lv_aload_n S.1 S.2.1 d_Md_move_40 rfl (lv_at hl 1 rfl) ?_
        refine rgf_Md_105_0 S hK E d_Md_move_41 ?_
        refine lv_iconst (v := 1) S.1 S.2.1 d_Md_move_44 (by decide) ?_
        refine lv_isub S.1 S.2.1 d_Md_move_45 ?_
        refine lv_icmp_ne (tgt := 53) S.1 S.2.1 d_Md_move_46 (by decide) (fun c9 => ?_) (fun c9 => ?_)
        · have hM := ifN hM c9
          refine lv_iconst (v := 0) S.1 S.2.1 d_Md_move_53 (by decide) ?_
          exact rB_Md_move_54 S hr hlk hK _ _ _ _ _ _ _ _ E (lv_sub hl [1, 2, 3, 0] rfl) hM
        · have hM := ifP hM c9
          refine lv_iconst (v := 1) S.1 S.2.1 d_Md_move_49 (by decide) ?_
          refine lv_goto (tgt := 54) S.1 S.2.1 d_Md_move_50 (by decide) ?_
          exact rB_Md_move_54 S hr hlk hK _ _ _ _ _ _ _ _ E (lv_sub hl [1, 2, 3, 0] rfl) hM
      · have hM := ifP hM c8
        refine lv_iconst (v := 0) S.1 S.2.1 d_Md_move_37 (by decide) ?_
        obtain ⟨rfl, rfl⟩ := pr_inj hM
        exact rreti S hr hlk hK E d_Md_move_38
    · have hM := ifP hM c7
      refine lv_bipush (v := (-2)) S.1 S.2.1 d_Md_move_26 (by decide) ?_
      obtain ⟨rfl, rfl⟩ := pr_inj hM
      exact rreti S hr hlk hK E d_Md_move_28
  · have hM := ifN hM c4
    refine lv_iconst (v := (-1)) S.1 S.2.1 d_Md_move_10 (by decide) ?_
    obtain ⟨rfl, rfl⟩ := pr_inj hM
    exact rreti S hr hlk hK E d_Md_move_11
set_option maxHeartbeats 4000000 in
set_option maxRecDepth 100000 in
theorem rB_Md_copy_94 {p : Program} {l : Launch} {e : Env} {s : State} {m : MethodId} {args : Array Value} {below : List Frame} {meth : Method} {c : Code} {D : va_G} {a : Nat → Nat} {cA : Nat → ClassId} {A : Nat → Prop} {g : Nat → Nat} {σ2 : St} {r : Int32} (S : CallFix p m c prog_10_method_35_code 7 s args AW R_Md) (hr : meth.sig.returnType = (some .int)) (hlk : meth.locks = false) (hK : rKX D cA A g s s.heap) : ∀ (σ : St) (v3 : Int32) (v4 : Int32) (v5 : Int32) (H : Heap) (locs : List Loc) (ls : Array Slot), rEx D a cA A σ s.heap H locs → lv_has ls 7 [(0, .ref (a 0)), (3, .int v3), (4, .int v4), (5, .int v5)] → rJ_Md_copy_94 σ v3 v4 v5 = some (r, σ2) → W p l e rrm_Md_copy s m args below meth c H locs 0 0 (MQ below (rqi D a cA A g r σ2) args s 0 0 A) (F0 m 94 ls []) := by
  intro σ v3 v4 v5 H locs ls E hl hM
  unfold rJ_Md_copy_94 at hM
  refine lv_aload_n S.1 S.2.1 d_Md_copy_94 rfl (lv_at hl 0 rfl) ?_
  refine lv_iload_n S.1 S.2.1 d_Md_copy_95 rfl (lv_at hl 1 rfl) ?_
  refine lv_iload S.1 S.2.1 d_Md_copy_96 (lv_at hl 2 rfl) ?_
  refine lv_iconst (v := 1) S.1 S.2.1 d_Md_copy_98 (by decide) ?_
  refine lv_iadd S.1 S.2.1 d_Md_copy_99 ?_
  refine lv_iload S.1 S.2.1 d_Md_copy_100 (lv_at hl 3 rfl) ?_
  obtain ⟨σ2, h1, hM⟩ := bv_inv hM
  refine rcr_16 (As := [.int v3, .int (v4 + 1), .int v5]) (rest := []) S hK E (rC_Md_putAt h1) ⟨Nat.le_of_ble_eq_true rfl, Nat.le_of_ble_eq_true rfl⟩ rfl rfl hl.1 (lv_room (Nat.le_of_ble_eq_true rfl)) d_Md_copy_102 (fun H locs E => ?_)
  refine lv_iload S.1 S.2.1 d_Md_copy_105 (lv_at hl 3 rfl) ?_
  obtain ⟨rfl, rfl⟩ := pr_inj hM
  exact rreti S hr hlk hK E d_Md_copy_107
set_option maxHeartbeats 4000000 in
set_option maxRecDepth 100000 in
theorem rB_Md_copy_63 {p : Program} {l : Launch} {e : Env} {s : State} {m : MethodId} {args : Array Value} {below : List Frame} {meth : Method} {c : Code} {D : va_G} {a : Nat → Nat} {cA : Nat → ClassId} {A : Nat → Prop} {g : Nat → Nat} {σ2 : St} {r : Int32} (S : CallFix p m c prog_10_method_35_code 7 s args AW R_Md) (hr : meth.sig.returnType = (some .int)) (hlk : meth.locks = false) (hK : rKX D cA A g s s.heap) : ∀ (n : Nat) (σ : St) (v1 : Int32) (v3 : Int32) (v4 : Int32) (v5 : Int32) (v6 : Int32) (H : Heap) (locs : List Loc) (ls : Array Slot), rEx D a cA A σ s.heap H locs → lv_has ls 7 [(0, .ref (a 0)), (1, .int v1), (3, .int v3), (4, .int v4), (5, .int v5), (6, .int v6)] → rL_Md_copy_63 n σ v1 v3 v4 v5 v6 = some (r, σ2) → W p l e rrm_Md_copy s m args below meth c H locs 0 0 (MQ below (rqi D a cA A g r σ2) args s 0 0 A) (F0 m 63 ls []) := by
  intro n
  induction n with
  | zero =>
    intro σ v1 v3 v4 v5 v6 H locs ls E hl hM
    rw [rL_Md_copy_63] at hM
    cases hM
  | succ n ih =>
    intro σ v1 v3 v4 v5 v6 H locs ls E hl hM
    rw [rL_Md_copy_63] at hM
    refine lv_iload S.1 S.2.1 d_Md_copy_63 (lv_at hl 5 rfl) ?_
    refine lv_iconst (v := 4) S.1 S.2.1 d_Md_copy_65 (by decide) ?_
    refine lv_icmp_ge (tgt := 94) S.1 S.2.1 d_Md_copy_66 (by decide) (fun c1 => ?_) (fun c1 => ?_)
    · have hM := ifP hM c1
      exact rB_Md_copy_94 S hr hlk hK _ _ _ _ _ _ _ E (lv_sub hl [0, 2, 3, 4] rfl) hM
    · have hM := ifN hM c1
      refine lv_aload_n S.1 S.2.1 d_Md_copy_69 rfl (lv_at hl 0 rfl) ?_
      refine rgf_Md_26_0 S hK E d_Md_copy_70 ?_
      refine lv_iconst (v := 4) S.1 S.2.1 d_Md_copy_73 (by decide) ?_
      refine lv_iload S.1 S.2.1 d_Md_copy_74 (lv_at hl 4 rfl) ?_
      refine lv_imul S.1 S.2.1 d_Md_copy_76 ?_
      refine lv_iload S.1 S.2.1 d_Md_copy_77 (lv_at hl 5 rfl) ?_
      refine lv_iadd S.1 S.2.1 d_Md_copy_79 ?_
      refine lv_aload_n S.1 S.2.1 d_Md_copy_80 rfl (lv_at hl 0 rfl) ?_
      refine lv_iload_n S.1 S.2.1 d_Md_copy_81 rfl (lv_at hl 1 rfl) ?_
      refine lv_iload S.1 S.2.1 d_Md_copy_82 (lv_at hl 5 rfl) ?_
      obtain ⟨r3, h2, hM⟩ := br_inv hM
      refine rcr_5 (As := [.int v1, .int v6]) (rest := [.int ((4 * v5) + v6), .ref (a 6)]) S hK E (rC_Md_valueOf h2) ⟨Nat.le_of_ble_eq_true rfl, Nat.le_of_ble_eq_true rfl⟩ rfl rfl hl.1 (lv_room (Nat.le_of_ble_eq_true rfl)) d_Md_copy_84 (fun H locs E => ?_)
      obtain ⟨h4, hM⟩ := gd_inv hM
      refine ras_6 S hK E h4 d_Md_copy_87 (fun σ5 eσ5 H locs E => ?_)
      have hM := lq_inv hM σ5 eσ5
      obtain ⟨y6, ey6⟩ : ∃ z : Int32, z = v6 + 1 := ⟨_, rfl⟩
      have hM := lq_inv hM y6 ey6
      refine lv_iinc (v := y6) (lv' := [(6, .int y6), (0, .ref (a 0)), (1, .int v1), (3, .int v3), (4, .int v4), (5, .int v5)]) S.1 S.2.1 d_Md_copy_88 hl (k := 5) rfl (by rw [ey6]; rfl) (by decide) rfl (fun ls hl => ?_)
      refine lv_goto (tgt := 63) S.1 S.2.1 d_Md_copy_91 (by decide) ?_
      exact ih _ _ _ _ _ _ _ _ _ E (lv_sub hl [1, 2, 3, 4, 5, 0] rfl) hM
set_option maxHeartbeats 4000000 in
set_option maxRecDepth 100000 in
theorem rC_Md_copy {l : Launch} {D : va_G} {a : Nat → Nat} {cA : Nat → ClassId} {A : Nat → Prop} {g : Nat → Nat} {σ σ2 : St} {x1 : Int32} {r : Int32} (hM : rM_Md_copy σ x1 = some (r, σ2)) : Met l y_Md_copy (.code y_Md_copy prog_10_method_35_code 7 (some .int) :: AW) rrm_Md_copy (va_Pc [.ref (a 0), .int x1] (rCP D a cA A g σ)) (rqi D a cA A g r σ2) 0 0 A := by
  refine rmet (nL := 7) (by decide) (Nat.le_of_ble_eq_true rfl) (fun S hr hlk hK E ls hl => ?_)
  have hl : lv_has ls 7 [(0, .ref (a 0)), (1, .int x1)] := hl
  unfold rM_Md_copy at hM
  refine lv_aload_n S.1 S.2.1 d_Md_copy_0 rfl (lv_at hl 0 rfl) ?_
  refine lv_iload_n S.1 S.2.1 d_Md_copy_1 rfl (lv_at hl 1 rfl) ?_
  obtain ⟨r2, σ3, h1, hM⟩ := bd_inv hM
  refine rcr_11 (As := [.int x1]) (rest := []) S hK E (rC_Md_placeOf h1) ⟨Nat.le_of_ble_eq_true rfl, Nat.le_of_ble_eq_true rfl⟩ rfl rfl hl.1 (lv_room (Nat.le_of_ble_eq_true rfl)) d_Md_copy_2 (fun H locs E => ?_)
  refine lv_istore_n (lv' := [(2, .int r2), (0, .ref (a 0)), (1, .int x1)]) S.1 S.2.1 d_Md_copy_5 rfl hl (by decide) rfl (fun ls hl => ?_)
  refine lv_iload_n S.1 S.2.1 d_Md_copy_6 rfl (lv_at hl 0 rfl) ?_
  refine lv_if_ge (tgt := 12) S.1 S.2.1 d_Md_copy_7 (by decide) (fun c4 => ?_) (fun c4 => ?_)
  · have hM := ifP hM c4
    refine lv_aload_n S.1 S.2.1 d_Md_copy_12 rfl (lv_at hl 1 rfl) ?_
    refine rgf_Md_41_0 S hK E d_Md_copy_13 ?_
    refine lv_iload_n S.1 S.2.1 d_Md_copy_16 rfl (lv_at hl 0 rfl) ?_
    obtain ⟨h5, hM⟩ := gd_inv hM
    refine ral_11 S hK E h5 d_Md_copy_17 ?_
    refine lv_topi (fun y6 ey6 => ?_)
    have hM := lq_inv hM y6 ey6
    refine lv_istore_n (lv' := [(3, .int y6), (2, .int r2), (0, .ref (a 0)), (1, .int x1)]) S.1 S.2.1 d_Md_copy_18 rfl hl (by decide) rfl (fun ls hl => ?_)
    refine lv_aload_n S.1 S.2.1 d_Md_copy_19 rfl (lv_at hl 2 rfl) ?_
    refine rgf_Md_44_0 S hK E d_Md_copy_20 ?_
    refine lv_iload_n S.1 S.2.1 d_Md_copy_23 rfl (lv_at hl 1 rfl) ?_
    obtain ⟨h7, hM⟩ := gd_inv hM
    refine ral_12 S hK E h7 d_Md_copy_24 ?_
    refine lv_topi (fun y8 ey8 => ?_)
    have hM := lq_inv hM y8 ey8
    refine lv_istore (lv' := [(4, .int y8), (3, .int y6), (2, .int r2), (0, .ref (a 0)), (1, .int x1)]) S.1 S.2.1 d_Md_copy_25 hl (by decide) rfl (fun ls hl => ?_)
    refine lv_aload_n S.1 S.2.1 d_Md_copy_27 rfl (lv_at hl 3 rfl) ?_
    refine rgf_Md_77_0 S hK E d_Md_copy_28 ?_
    refine lv_sipush (v := 200) S.1 S.2.1 d_Md_copy_31 (by decide) ?_
    refine lv_icmp_eq (tgt := 48) S.1 S.2.1 d_Md_copy_34 (by decide) (fun c9 => ?_) (fun c9 => ?_)
    · have hM := ifP hM c9
      refine lv_bipush (v := (-4)) S.1 S.2.1 d_Md_copy_48 (by decide) ?_
      obtain ⟨rfl, rfl⟩ := pr_inj hM
      exact rreti S hr hlk hK E d_Md_copy_50
    · have hM := ifN hM c9
      refine lv_aload_n S.1 S.2.1 d_Md_copy_37 rfl (lv_at hl 3 rfl) ?_
      refine rgf_Md_20_0 S hK E d_Md_copy_38 ?_
      refine lv_iload_n S.1 S.2.1 d_Md_copy_41 rfl (lv_at hl 1 rfl) ?_
      obtain ⟨h10, hM⟩ := gd_inv hM
      refine ral_4 S hK E h10 d_Md_copy_42 ?_
      refine lv_bipush (v := 40) S.1 S.2.1 d_Md_copy_43 (by decide) ?_
      refine lv_icmp_ne (tgt := 51) S.1 S.2.1 d_Md_copy_45 (by decide) (fun c11 => ?_) (fun c11 => ?_)
      · have hM := ifN hM c11
        refine lv_aload_n S.1 S.2.1 d_Md_copy_51 rfl (lv_at hl 3 rfl) ?_
        refine lv_iconst (v := 1) S.1 S.2.1 d_Md_copy_52 (by decide) ?_
        refine lv_iload_n S.1 S.2.1 d_Md_copy_53 rfl (lv_at hl 1 rfl) ?_
        refine lv_iconst (v := 0) S.1 S.2.1 d_Md_copy_54 (by decide) ?_
        obtain ⟨r13, σ14, h12, hM⟩ := bd_inv hM
        refine rcr_1 (As := [.int 1, .int y6, .int 0]) (rest := []) S hK E (rC_Md_made h12) ⟨Nat.le_of_ble_eq_true rfl, Nat.le_of_ble_eq_true rfl⟩ rfl rfl hl.1 (lv_room (Nat.le_of_ble_eq_true rfl)) d_Md_copy_55 (fun H locs E => ?_)
        refine lv_istore (lv' := [(5, .int r13), (4, .int y8), (3, .int y6), (2, .int r2), (0, .ref (a 0)), (1, .int x1)]) S.1 S.2.1 d_Md_copy_58 hl (by decide) rfl (fun ls hl => ?_)
        refine lv_iconst (v := 0) S.1 S.2.1 d_Md_copy_60 (by decide) ?_
        refine lv_istore (lv' := [(6, .int 0), (5, .int r13), (4, .int y8), (3, .int y6), (2, .int r2), (0, .ref (a 0)), (1, .int x1)]) S.1 S.2.1 d_Md_copy_61 hl (by decide) rfl (fun ls hl => ?_)
        exact rB_Md_copy_63 S hr hlk hK _ _ _ _ _ _ _ _ _ _ E (lv_sub hl [5, 6, 3, 2, 1, 0] rfl) hM
      · have hM := ifP hM c11
        refine lv_bipush (v := (-4)) S.1 S.2.1 d_Md_copy_48 (by decide) ?_
        obtain ⟨rfl, rfl⟩ := pr_inj hM
        exact rreti S hr hlk hK E d_Md_copy_50
  · have hM := ifN hM c4
    refine lv_iconst (v := (-1)) S.1 S.2.1 d_Md_copy_10 (by decide) ?_
    obtain ⟨rfl, rfl⟩ := pr_inj hM
    exact rreti S hr hlk hK E d_Md_copy_11
set_option maxHeartbeats 4000000 in
set_option maxRecDepth 100000 in
theorem rB_Md_remove_95 {p : Program} {l : Launch} {e : Env} {s : State} {m : MethodId} {args : Array Value} {below : List Frame} {meth : Method} {c : Code} {D : va_G} {a : Nat → Nat} {cA : Nat → ClassId} {A : Nat → Prop} {g : Nat → Nat} {σ2 : St} {r : Int32} (S : CallFix p m c prog_10_method_36_code 5 s args AW R_Md) (hr : meth.sig.returnType = (some .int)) (hlk : meth.locks = false) (hK : rKX D cA A g s s.heap) {k40 : St → Int32 → Int32 → Int32 → Int32 → Option (Int32 × St)} (hk40 : ∀ (σ : St) (v1 : Int32) (v2 : Int32) (v3 : Int32) (v4 : Int32) (H : Heap) (locs : List Loc) (ls : Array Slot), rEx D a cA A σ s.heap H locs → lv_has ls 5 [(0, .ref (a 0)), (1, .int v1), (2, .int v2), (3, .int v3), (4, .int v4)] → k40 σ v1 v2 v3 v4 = some (r, σ2) → W p l e rrm_Md_remove s m args below meth c H locs 0 0 (MQ below (rqi D a cA A g r σ2) args s 0 0 A) (F0 m 40 ls [])) : ∀ (σ : St) (v1 : Int32) (v2 : Int32) (v3 : Int32) (v4 : Int32) (H : Heap) (locs : List Loc) (ls : Array Slot), rEx D a cA A σ s.heap H locs → lv_has ls 5 [(0, .ref (a 0)), (1, .int v1), (2, .int v2), (3, .int v3), (4, .int v4)] → rJ_Md_remove_95 k40 σ v1 v2 v3 v4 = some (r, σ2) → W p l e rrm_Md_remove s m args below meth c H locs 0 0 (MQ below (rqi D a cA A g r σ2) args s 0 0 A) (F0 m 95 ls []) := by
  intro σ v1 v2 v3 v4 H locs ls E hl hM
  unfold rJ_Md_remove_95 at hM
  obtain ⟨y1, ey1⟩ : ∃ z : Int32, z = v4 + 1 := ⟨_, rfl⟩
  have hM := lq_inv hM y1 ey1
  refine lv_iinc (v := y1) (lv' := [(4, .int y1), (0, .ref (a 0)), (1, .int v1), (2, .int v2), (3, .int v3)]) S.1 S.2.1 d_Md_remove_95 hl (k := 4) rfl (by rw [ey1]; rfl) (by decide) rfl (fun ls hl => ?_)
  refine lv_goto (tgt := 40) S.1 S.2.1 d_Md_remove_98 (by decide) ?_
  exact hk40 _ _ _ _ _ _ _ _ E (lv_sub hl [1, 2, 3, 4, 0] rfl) hM
set_option maxHeartbeats 4000000 in
set_option maxRecDepth 100000 in
theorem rB_Md_remove_101 {p : Program} {l : Launch} {e : Env} {s : State} {m : MethodId} {args : Array Value} {below : List Frame} {meth : Method} {c : Code} {D : va_G} {a : Nat → Nat} {cA : Nat → ClassId} {A : Nat → Prop} {g : Nat → Nat} {σ2 : St} {r : Int32} (S : CallFix p m c prog_10_method_36_code 5 s args AW R_Md) (hr : meth.sig.returnType = (some .int)) (hlk : meth.locks = false) (hK : rKX D cA A g s s.heap) : ∀ (σ : St) (v2 : Int32) (v3 : Int32) (H : Heap) (locs : List Loc) (ls : Array Slot), rEx D a cA A σ s.heap H locs → lv_has ls 5 [(0, .ref (a 0)), (2, .int v2), (3, .int v3)] → rJ_Md_remove_101 σ v2 v3 = some (r, σ2) → W p l e rrm_Md_remove s m args below meth c H locs 0 0 (MQ below (rqi D a cA A g r σ2) args s 0 0 A) (F0 m 101 ls []) := by
  intro σ v2 v3 H locs ls E hl hM
  unfold rJ_Md_remove_101 at hM
  refine lv_aload_n S.1 S.2.1 d_Md_remove_101 rfl (lv_at hl 0 rfl) ?_
  refine lv_iload_n S.1 S.2.1 d_Md_remove_102 rfl (lv_at hl 2 rfl) ?_
  refine rpf_Md_160_0 S hK E d_Md_remove_103 (fun σ1 eσ1 H locs E => ?_)
  have hM := lq_inv hM σ1 eσ1
  refine lv_iload_n S.1 S.2.1 d_Md_remove_106 rfl (lv_at hl 1 rfl) ?_
  obtain ⟨rfl, rfl⟩ := pr_inj hM
  exact rreti S hr hlk hK E d_Md_remove_107
set_option maxHeartbeats 4000000 in
set_option maxRecDepth 100000 in
theorem rB_Md_remove_40 {p : Program} {l : Launch} {e : Env} {s : State} {m : MethodId} {args : Array Value} {below : List Frame} {meth : Method} {c : Code} {D : va_G} {a : Nat → Nat} {cA : Nat → ClassId} {A : Nat → Prop} {g : Nat → Nat} {σ2 : St} {r : Int32} (S : CallFix p m c prog_10_method_36_code 5 s args AW R_Md) (hr : meth.sig.returnType = (some .int)) (hlk : meth.locks = false) (hK : rKX D cA A g s s.heap) : ∀ (n : Nat) (σ : St) (v1 : Int32) (v2 : Int32) (v3 : Int32) (v4 : Int32) (H : Heap) (locs : List Loc) (ls : Array Slot), rEx D a cA A σ s.heap H locs → lv_has ls 5 [(0, .ref (a 0)), (1, .int v1), (2, .int v2), (3, .int v3), (4, .int v4)] → rL_Md_remove_40 n σ v1 v2 v3 v4 = some (r, σ2) → W p l e rrm_Md_remove s m args below meth c H locs 0 0 (MQ below (rqi D a cA A g r σ2) args s 0 0 A) (F0 m 40 ls []) := by
  intro n
  induction n with
  | zero =>
    intro σ v1 v2 v3 v4 H locs ls E hl hM
    rw [rL_Md_remove_40] at hM
    cases hM
  | succ n ih =>
    intro σ v1 v2 v3 v4 H locs ls E hl hM
    rw [rL_Md_remove_40] at hM
    refine lv_iload S.1 S.2.1 d_Md_remove_40 (lv_at hl 4 rfl) ?_
    refine lv_aload_n S.1 S.2.1 d_Md_remove_42 rfl (lv_at hl 0 rfl) ?_
    refine rgf_Md_160_0 S hK E d_Md_remove_43 ?_
    refine lv_icmp_ge (tgt := 101) S.1 S.2.1 d_Md_remove_46 (by decide) (fun c1 => ?_) (fun c1 => ?_)
    · have hM := ifP hM c1
      exact rB_Md_remove_101 S hr hlk hK _ _ _ _ _ _ E (lv_sub hl [0, 2, 3] rfl) hM
    · have hM := ifN hM c1
      refine lv_aload_n S.1 S.2.1 d_Md_remove_49 rfl (lv_at hl 0 rfl) ?_
      refine rgf_Md_68_0 S hK E d_Md_remove_50 ?_
      refine lv_iload S.1 S.2.1 d_Md_remove_53 (lv_at hl 4 rfl) ?_
      obtain ⟨h2, hM⟩ := gd_inv hM
      refine ral_20 S hK E h2 d_Md_remove_55 ?_
      refine lv_iload_n S.1 S.2.1 d_Md_remove_56 rfl (lv_at hl 1 rfl) ?_
      refine lv_icmp_ne (tgt := 66) S.1 S.2.1 d_Md_remove_57 (by decide) (fun c3 => ?_) (fun c3 => ?_)
      · have hM := ifN hM c3
        refine lv_aload_n S.1 S.2.1 d_Md_remove_66 rfl (lv_at hl 0 rfl) ?_
        refine rgf_Md_65_0 S hK E d_Md_remove_67 ?_
        refine lv_iload_n S.1 S.2.1 d_Md_remove_70 rfl (lv_at hl 3 rfl) ?_
        refine lv_aload_n S.1 S.2.1 d_Md_remove_71 rfl (lv_at hl 0 rfl) ?_
        refine rgf_Md_65_0 S hK E d_Md_remove_72 ?_
        refine lv_iload S.1 S.2.1 d_Md_remove_75 (lv_at hl 4 rfl) ?_
        obtain ⟨h4, hM⟩ := gd_inv hM
        refine ral_19 S hK E h4 d_Md_remove_77 ?_
        obtain ⟨h5, hM⟩ := gd_inv hM
        refine ras_19 S hK E h5 d_Md_remove_78 (fun σ6 eσ6 H locs E => ?_)
        have hM := lq_inv hM σ6 eσ6
        refine lv_aload_n S.1 S.2.1 d_Md_remove_79 rfl (lv_at hl 0 rfl) ?_
        refine rgf_Md_68_0 S hK E d_Md_remove_80 ?_
        refine lv_iload_n S.1 S.2.1 d_Md_remove_83 rfl (lv_at hl 3 rfl) ?_
        refine lv_aload_n S.1 S.2.1 d_Md_remove_84 rfl (lv_at hl 0 rfl) ?_
        refine rgf_Md_68_0 S hK E d_Md_remove_85 ?_
        refine lv_iload S.1 S.2.1 d_Md_remove_88 (lv_at hl 4 rfl) ?_
        obtain ⟨h7, hM⟩ := gd_inv hM
        refine ral_20 S hK E h7 d_Md_remove_90 ?_
        obtain ⟨h8, hM⟩ := gd_inv hM
        refine ras_20 S hK E h8 d_Md_remove_91 (fun σ9 eσ9 H locs E => ?_)
        have hM := lq_inv hM σ9 eσ9
        obtain ⟨y10, ey10⟩ : ∃ z : Int32, z = v3 + 1 := ⟨_, rfl⟩
        have hM := lq_inv hM y10 ey10
        refine lv_iinc (v := y10) (lv' := [(3, .int y10), (0, .ref (a 0)), (1, .int v1), (2, .int v2), (4, .int v4)]) S.1 S.2.1 d_Md_remove_92 hl (k := 3) rfl (by rw [ey10]; rfl) (by decide) rfl (fun ls hl => ?_)
        exact rB_Md_remove_95 S hr hlk hK ih _ _ _ _ _ _ _ _ E (lv_sub hl [1, 2, 3, 0, 4] rfl) hM
      · have hM := ifP hM c3
        obtain ⟨y11, ey11⟩ : ∃ z : Int32, z = v2 + 1 := ⟨_, rfl⟩
        have hM := lq_inv hM y11 ey11
        refine lv_iinc (v := y11) (lv' := [(2, .int y11), (0, .ref (a 0)), (1, .int v1), (3, .int v3), (4, .int v4)]) S.1 S.2.1 d_Md_remove_60 hl (k := 2) rfl (by rw [ey11]; rfl) (by decide) rfl (fun ls hl => ?_)
        refine lv_goto (tgt := 95) S.1 S.2.1 d_Md_remove_63 (by decide) ?_
        exact rB_Md_remove_95 S hr hlk hK ih _ _ _ _ _ _ _ _ E (lv_sub hl [1, 2, 0, 3, 4] rfl) hM
set_option maxHeartbeats 4000000 in
set_option maxRecDepth 100000 in
theorem rC_Md_remove {l : Launch} {D : va_G} {a : Nat → Nat} {cA : Nat → ClassId} {A : Nat → Prop} {g : Nat → Nat} {σ σ2 : St} {x1 : Int32} {r : Int32} (hM : rM_Md_remove σ x1 = some (r, σ2)) : Met l y_Md_remove (.code y_Md_remove prog_10_method_36_code 5 (some .int) :: AW) rrm_Md_remove (va_Pc [.ref (a 0), .int x1] (rCP D a cA A g σ)) (rqi D a cA A g r σ2) 0 0 A := by
  refine rmet (nL := 5) (by decide) (Nat.le_of_ble_eq_true rfl) (fun S hr hlk hK E ls hl => ?_)
  have hl : lv_has ls 5 [(0, .ref (a 0)), (1, .int x1)] := hl
  unfold rM_Md_remove at hM
  refine lv_aload_n S.1 S.2.1 d_Md_remove_0 rfl (lv_at hl 0 rfl) ?_
  refine lv_iload_n S.1 S.2.1 d_Md_remove_1 rfl (lv_at hl 1 rfl) ?_
  obtain ⟨r2, σ3, h1, hM⟩ := bd_inv hM
  refine rcr_11 (As := [.int x1]) (rest := []) S hK E (rC_Md_placeOf h1) ⟨Nat.le_of_ble_eq_true rfl, Nat.le_of_ble_eq_true rfl⟩ rfl rfl hl.1 (lv_room (Nat.le_of_ble_eq_true rfl)) d_Md_remove_2 (fun H locs E => ?_)
  refine lv_if_ge (tgt := 10) S.1 S.2.1 d_Md_remove_5 (by decide) (fun c4 => ?_) (fun c4 => ?_)
  · have hM := ifP hM c4
    refine lv_aload_n S.1 S.2.1 d_Md_remove_10 rfl (lv_at hl 0 rfl) ?_
    refine rgf_Md_105_0 S hK E d_Md_remove_11 ?_
    refine lv_iconst (v := 1) S.1 S.2.1 d_Md_remove_14 (by decide) ?_
    refine lv_icmp_ne (tgt := 21) S.1 S.2.1 d_Md_remove_15 (by decide) (fun c5 => ?_) (fun c5 => ?_)
    · have hM := ifN hM c5
      refine lv_aload_n S.1 S.2.1 d_Md_remove_21 rfl (lv_at hl 0 rfl) ?_
      refine lv_iload_n S.1 S.2.1 d_Md_remove_22 rfl (lv_at hl 1 rfl) ?_
      obtain ⟨σ7, h6, hM⟩ := bv_inv hM
      refine rcr_19 (As := [.int x1]) (rest := []) S hK E (rC_Md_takeOffAll h6) ⟨Nat.le_of_ble_eq_true rfl, Nat.le_of_ble_eq_true rfl⟩ rfl rfl hl.1 (lv_room (Nat.le_of_ble_eq_true rfl)) d_Md_remove_23 (fun H locs E => ?_)
      refine lv_aload_n S.1 S.2.1 d_Md_remove_26 rfl (lv_at hl 0 rfl) ?_
      refine rgf_Md_13_0 S hK E d_Md_remove_27 ?_
      refine lv_iload_n S.1 S.2.1 d_Md_remove_30 rfl (lv_at hl 1 rfl) ?_
      refine lv_iconst (v := (-1)) S.1 S.2.1 d_Md_remove_31 (by decide) ?_
      obtain ⟨h8, hM⟩ := gd_inv hM
      refine ras_2 S hK E h8 d_Md_remove_32 (fun σ9 eσ9 H locs E => ?_)
      have hM := lq_inv hM σ9 eσ9
      refine lv_iconst (v := 0) S.1 S.2.1 d_Md_remove_33 (by decide) ?_
      refine lv_istore_n (lv' := [(2, .int 0), (0, .ref (a 0)), (1, .int x1)]) S.1 S.2.1 d_Md_remove_34 rfl hl (by decide) rfl (fun ls hl => ?_)
      refine lv_iconst (v := 0) S.1 S.2.1 d_Md_remove_35 (by decide) ?_
      refine lv_istore_n (lv' := [(3, .int 0), (2, .int 0), (0, .ref (a 0)), (1, .int x1)]) S.1 S.2.1 d_Md_remove_36 rfl hl (by decide) rfl (fun ls hl => ?_)
      refine lv_iconst (v := 0) S.1 S.2.1 d_Md_remove_37 (by decide) ?_
      refine lv_istore (lv' := [(4, .int 0), (3, .int 0), (2, .int 0), (0, .ref (a 0)), (1, .int x1)]) S.1 S.2.1 d_Md_remove_38 hl (by decide) rfl (fun ls hl => ?_)
      exact rB_Md_remove_40 S hr hlk hK _ _ _ _ _ _ _ _ _ E (lv_sub hl [3, 4, 2, 1, 0] rfl) hM
    · have hM := ifP hM c5
      refine lv_bipush (v := (-3)) S.1 S.2.1 d_Md_remove_18 (by decide) ?_
      obtain ⟨rfl, rfl⟩ := pr_inj hM
      exact rreti S hr hlk hK E d_Md_remove_20
  · have hM := ifN hM c4
    refine lv_iconst (v := (-1)) S.1 S.2.1 d_Md_remove_8 (by decide) ?_
    obtain ⟨rfl, rfl⟩ := pr_inj hM
    exact rreti S hr hlk hK E d_Md_remove_9
set_option maxHeartbeats 4000000 in
set_option maxRecDepth 100000 in
theorem rB_Md_label_70 {p : Program} {l : Launch} {e : Env} {s : State} {m : MethodId} {args : Array Value} {below : List Frame} {meth : Method} {c : Code} {D : va_G} {a : Nat → Nat} {cA : Nat → ClassId} {A : Nat → Prop} {g : Nat → Nat} {σ2 : St} {r : Int32} (S : CallFix p m c prog_10_method_37_code 6 s args AW R_Md) (hr : meth.sig.returnType = (some .int)) (hlk : meth.locks = false) (hK : rKX D cA A g s s.heap) {k43 : St → Int32 → Int32 → Int32 → Int32 → Int32 → Option (Int32 × St)} (hk43 : ∀ (σ : St) (v1 : Int32) (v2 : Int32) (v3 : Int32) (v4 : Int32) (v5 : Int32) (H : Heap) (locs : List Loc) (ls : Array Slot), rEx D a cA A σ s.heap H locs → lv_has ls 6 [(0, .ref (a 0)), (1, .int v1), (2, .int v2), (3, .int v3), (4, .int v4), (5, .int v5)] → k43 σ v1 v2 v3 v4 v5 = some (r, σ2) → W p l e rrm_Md_label s m args below meth c H locs 0 0 (MQ below (rqi D a cA A g r σ2) args s 0 0 A) (F0 m 43 ls [])) : ∀ (σ : St) (v1 : Int32) (v2 : Int32) (v3 : Int32) (v5 : Int32) (t0 : Int32) (H : Heap) (locs : List Loc) (ls : Array Slot), rEx D a cA A σ s.heap H locs → lv_has ls 6 [(0, .ref (a 0)), (1, .int v1), (2, .int v2), (3, .int v3), (5, .int v5)] → rJ_Md_label_70 k43 σ v1 v2 v3 v5 t0 = some (r, σ2) → W p l e rrm_Md_label s m args below meth c H locs 0 0 (MQ below (rqi D a cA A g r σ2) args s 0 0 A) (F0 m 70 ls [.int t0]) := by
  intro σ v1 v2 v3 v5 t0 H locs ls E hl hM
  unfold rJ_Md_label_70 at hM
  refine lv_istore (lv' := [(4, .int t0), (0, .ref (a 0)), (1, .int v1), (2, .int v2), (3, .int v3), (5, .int v5)]) S.1 S.2.1 d_Md_label_70 hl (by decide) rfl (fun ls hl => ?_)
  obtain ⟨y1, ey1⟩ : ∃ z : Int32, z = v5 + 1 := ⟨_, rfl⟩
  have hM := lq_inv hM y1 ey1
  refine lv_iinc (v := y1) (lv' := [(5, .int y1), (4, .int t0), (0, .ref (a 0)), (1, .int v1), (2, .int v2), (3, .int v3)]) S.1 S.2.1 d_Md_label_72 hl (k := 5) rfl (by rw [ey1]; rfl) (by decide) rfl (fun ls hl => ?_)
  refine lv_goto (tgt := 43) S.1 S.2.1 d_Md_label_75 (by decide) ?_
  exact hk43 _ _ _ _ _ _ _ _ _ E (lv_sub hl [2, 3, 4, 5, 1, 0] rfl) hM
set_option maxHeartbeats 4000000 in
set_option maxRecDepth 100000 in
theorem rB_Md_label_135 {p : Program} {l : Launch} {e : Env} {s : State} {m : MethodId} {args : Array Value} {below : List Frame} {meth : Method} {c : Code} {D : va_G} {a : Nat → Nat} {cA : Nat → ClassId} {A : Nat → Prop} {g : Nat → Nat} {σ2 : St} {r : Int32} (S : CallFix p m c prog_10_method_37_code 6 s args AW R_Md) (hr : meth.sig.returnType = (some .int)) (hlk : meth.locks = false) (hK : rKX D cA A g s s.heap) : ∀ (σ : St) (t1 : Int32) (H : Heap) (locs : List Loc) (ls : Array Slot), rEx D a cA A σ s.heap H locs → lv_has ls 6 [(0, .ref (a 0))] → rJ_Md_label_135 σ t1 = some (r, σ2) → W p l e rrm_Md_label s m args below meth c H locs 0 0 (MQ below (rqi D a cA A g r σ2) args s 0 0 A) (F0 m 135 ls [.int t1, .ref (a 0)]) := by
  intro σ t1 H locs ls E hl hM
  unfold rJ_Md_label_135 at hM
  refine rpf_Md_163_0 S hK E d_Md_label_135 (fun σ1 eσ1 H locs E => ?_)
  have hM := lq_inv hM σ1 eσ1
  refine lv_aload_n S.1 S.2.1 d_Md_label_138 rfl (lv_at hl 0 rfl) ?_
  refine rgf_Md_163_0 S hK E d_Md_label_139 ?_
  obtain ⟨rfl, rfl⟩ := pr_inj hM
  exact rreti S hr hlk hK E d_Md_label_142
set_option maxHeartbeats 4000000 in
set_option maxRecDepth 100000 in
theorem rB_Md_label_78 {p : Program} {l : Launch} {e : Env} {s : State} {m : MethodId} {args : Array Value} {below : List Frame} {meth : Method} {c : Code} {D : va_G} {a : Nat → Nat} {cA : Nat → ClassId} {A : Nat → Prop} {g : Nat → Nat} {σ2 : St} {r : Int32} (S : CallFix p m c prog_10_method_37_code 6 s args AW R_Md) (hr : meth.sig.returnType = (some .int)) (hlk : meth.locks = false) (hK : rKX D cA A g s s.heap) : ∀ (σ : St) (v1 : Int32) (v2 : Int32) (v3 : Int32) (v4 : Int32) (H : Heap) (locs : List Loc) (ls : Array Slot), rEx D a cA A σ s.heap H locs → lv_has ls 6 [(0, .ref (a 0)), (1, .int v1), (2, .int v2), (3, .int v3), (4, .int v4)] → rJ_Md_label_78 σ v1 v2 v3 v4 = some (r, σ2) → W p l e rrm_Md_label s m args below meth c H locs 0 0 (MQ below (rqi D a cA A g r σ2) args s 0 0 A) (F0 m 78 ls []) := by
  intro σ v1 v2 v3 v4 H locs ls E hl hM
  unfold rJ_Md_label_78 at hM
  refine lv_iload S.1 S.2.1 d_Md_label_78 (lv_at hl 4 rfl) ?_
  refine lv_bipush (v := 20) S.1 S.2.1 d_Md_label_80 (by decide) ?_
  refine lv_icmp_ne (tgt := 88) S.1 S.2.1 d_Md_label_82 (by decide) (fun c1 => ?_) (fun c1 => ?_)
  · have hM := ifN hM c1
    refine lv_aload_n S.1 S.2.1 d_Md_label_88 rfl (lv_at hl 0 rfl) ?_
    refine rgf_Md_56_0 S hK E d_Md_label_89 ?_
    refine lv_iload S.1 S.2.1 d_Md_label_92 (lv_at hl 4 rfl) ?_
    refine lv_iload_n S.1 S.2.1 d_Md_label_94 rfl (lv_at hl 1 rfl) ?_
    obtain ⟨h2, hM⟩ := gd_inv hM
    refine ras_16 S hK E h2 d_Md_label_95 (fun σ3 eσ3 H locs E => ?_)
    have hM := lq_inv hM σ3 eσ3
    refine lv_aload_n S.1 S.2.1 d_Md_label_96 rfl (lv_at hl 0 rfl) ?_
    refine rgf_Md_59_0 S hK E d_Md_label_97 ?_
    refine lv_iload S.1 S.2.1 d_Md_label_100 (lv_at hl 4 rfl) ?_
    refine lv_iload_n S.1 S.2.1 d_Md_label_102 rfl (lv_at hl 2 rfl) ?_
    obtain ⟨h4, hM⟩ := gd_inv hM
    refine ras_17 S hK E h4 d_Md_label_103 (fun σ5 eσ5 H locs E => ?_)
    have hM := lq_inv hM σ5 eσ5
    refine lv_aload_n S.1 S.2.1 d_Md_label_104 rfl (lv_at hl 0 rfl) ?_
    refine rgf_Md_62_0 S hK E d_Md_label_105 ?_
    refine lv_iload S.1 S.2.1 d_Md_label_108 (lv_at hl 4 rfl) ?_
    refine lv_iload_n S.1 S.2.1 d_Md_label_110 rfl (lv_at hl 3 rfl) ?_
    obtain ⟨h6, hM⟩ := gd_inv hM
    refine ras_18 S hK E h6 d_Md_label_111 (fun σ7 eσ7 H locs E => ?_)
    have hM := lq_inv hM σ7 eσ7
    refine lv_aload_n S.1 S.2.1 d_Md_label_112 rfl (lv_at hl 0 rfl) ?_
    refine lv_iload S.1 S.2.1 d_Md_label_113 (lv_at hl 4 rfl) ?_
    refine lv_aload_n S.1 S.2.1 d_Md_label_115 rfl (lv_at hl 0 rfl) ?_
    refine rgf_Md_163_0 S hK E d_Md_label_116 ?_
    refine lv_icmp_ne (tgt := 131) S.1 S.2.1 d_Md_label_119 (by decide) (fun c8 => ?_) (fun c8 => ?_)
    · have hM := ifN hM c8
      refine lv_aload_n S.1 S.2.1 d_Md_label_131 rfl (lv_at hl 0 rfl) ?_
      refine rgf_Md_163_0 S hK E d_Md_label_132 ?_
      exact rB_Md_label_135 S hr hlk hK _ _ _ _ _ E (lv_sub hl [0] rfl) hM
    · have hM := ifP hM c8
      refine lv_aload_n S.1 S.2.1 d_Md_label_122 rfl (lv_at hl 0 rfl) ?_
      refine rgf_Md_163_0 S hK E d_Md_label_123 ?_
      refine lv_iconst (v := 1) S.1 S.2.1 d_Md_label_126 (by decide) ?_
      refine lv_iadd S.1 S.2.1 d_Md_label_127 ?_
      refine lv_goto (tgt := 135) S.1 S.2.1 d_Md_label_128 (by decide) ?_
      exact rB_Md_label_135 S hr hlk hK _ _ _ _ _ E (lv_sub hl [0] rfl) hM
  · have hM := ifP hM c1
    refine lv_bipush (v := (-4)) S.1 S.2.1 d_Md_label_85 (by decide) ?_
    obtain ⟨rfl, rfl⟩ := pr_inj hM
    exact rreti S hr hlk hK E d_Md_label_87
set_option maxHeartbeats 4000000 in
set_option maxRecDepth 100000 in
theorem rB_Md_label_43 {p : Program} {l : Launch} {e : Env} {s : State} {m : MethodId} {args : Array Value} {below : List Frame} {meth : Method} {c : Code} {D : va_G} {a : Nat → Nat} {cA : Nat → ClassId} {A : Nat → Prop} {g : Nat → Nat} {σ2 : St} {r : Int32} (S : CallFix p m c prog_10_method_37_code 6 s args AW R_Md) (hr : meth.sig.returnType = (some .int)) (hlk : meth.locks = false) (hK : rKX D cA A g s s.heap) : ∀ (n : Nat) (σ : St) (v1 : Int32) (v2 : Int32) (v3 : Int32) (v4 : Int32) (v5 : Int32) (H : Heap) (locs : List Loc) (ls : Array Slot), rEx D a cA A σ s.heap H locs → lv_has ls 6 [(0, .ref (a 0)), (1, .int v1), (2, .int v2), (3, .int v3), (4, .int v4), (5, .int v5)] → rL_Md_label_43 n σ v1 v2 v3 v4 v5 = some (r, σ2) → W p l e rrm_Md_label s m args below meth c H locs 0 0 (MQ below (rqi D a cA A g r σ2) args s 0 0 A) (F0 m 43 ls []) := by
  intro n
  induction n with
  | zero =>
    intro σ v1 v2 v3 v4 v5 H locs ls E hl hM
    rw [rL_Md_label_43] at hM
    cases hM
  | succ n ih =>
    intro σ v1 v2 v3 v4 v5 H locs ls E hl hM
    rw [rL_Md_label_43] at hM
    refine lv_iload S.1 S.2.1 d_Md_label_43 (lv_at hl 5 rfl) ?_
    refine lv_aload_n S.1 S.2.1 d_Md_label_45 rfl (lv_at hl 0 rfl) ?_
    refine rgf_Md_163_0 S hK E d_Md_label_46 ?_
    refine lv_icmp_ge (tgt := 78) S.1 S.2.1 d_Md_label_49 (by decide) (fun c1 => ?_) (fun c1 => ?_)
    · have hM := ifP hM c1
      exact rB_Md_label_78 S hr hlk hK _ _ _ _ _ _ _ _ E (lv_sub hl [0, 1, 2, 3, 4] rfl) hM
    · have hM := ifN hM c1
      refine lv_aload_n S.1 S.2.1 d_Md_label_52 rfl (lv_at hl 0 rfl) ?_
      refine rgf_Md_56_0 S hK E d_Md_label_53 ?_
      refine lv_iload S.1 S.2.1 d_Md_label_56 (lv_at hl 5 rfl) ?_
      obtain ⟨h2, hM⟩ := gd_inv hM
      refine ral_16 S hK E h2 d_Md_label_58 ?_
      refine lv_iload_n S.1 S.2.1 d_Md_label_59 rfl (lv_at hl 1 rfl) ?_
      refine lv_icmp_ne (tgt := 68) S.1 S.2.1 d_Md_label_60 (by decide) (fun c3 => ?_) (fun c3 => ?_)
      · have hM := ifN hM c3
        refine lv_iload S.1 S.2.1 d_Md_label_68 (lv_at hl 4 rfl) ?_
        exact rB_Md_label_70 S hr hlk hK ih _ _ _ _ _ _ _ _ _ E (lv_sub hl [0, 1, 2, 3, 5] rfl) hM
      · have hM := ifP hM c3
        refine lv_iload S.1 S.2.1 d_Md_label_63 (lv_at hl 5 rfl) ?_
        refine lv_goto (tgt := 70) S.1 S.2.1 d_Md_label_65 (by decide) ?_
        exact rB_Md_label_70 S hr hlk hK ih _ _ _ _ _ _ _ _ _ E (lv_sub hl [0, 1, 2, 3, 5] rfl) hM
set_option maxHeartbeats 4000000 in
set_option maxRecDepth 100000 in
theorem rC_Md_label {l : Launch} {D : va_G} {a : Nat → Nat} {cA : Nat → ClassId} {A : Nat → Prop} {g : Nat → Nat} {σ σ2 : St} {x1 : Int32} {x2 : Int32} {x3 : Int32} {r : Int32} (hM : rM_Md_label σ x1 x2 x3 = some (r, σ2)) : Met l y_Md_label (.code y_Md_label prog_10_method_37_code 6 (some .int) :: AW) rrm_Md_label (va_Pc [.ref (a 0), .int x1, .int x2, .int x3] (rCP D a cA A g σ)) (rqi D a cA A g r σ2) 0 0 A := by
  refine rmet (nL := 6) (by decide) (Nat.le_of_ble_eq_true rfl) (fun S hr hlk hK E ls hl => ?_)
  have hl : lv_has ls 6 [(0, .ref (a 0)), (1, .int x1), (2, .int x2), (3, .int x3)] := hl
  unfold rM_Md_label at hM
  refine lv_iload_n S.1 S.2.1 d_Md_label_0 rfl (lv_at hl 1 rfl) ?_
  refine lv_iconst (v := 0) S.1 S.2.1 d_Md_label_1 (by decide) ?_
  refine lv_sipush (v := 199) S.1 S.2.1 d_Md_label_2 (by decide) ?_
  obtain ⟨r2, h1, hM⟩ := br_inv hM
  refine rcr_4 (As := [.int x1, .int 0, .int 199]) (rest := []) S hK E (rC_Md_within h1) ⟨Nat.le_of_ble_eq_true rfl, Nat.le_of_ble_eq_true rfl⟩ rfl rfl hl.1 (lv_room (Nat.le_of_ble_eq_true rfl)) d_Md_label_5 (fun H locs E => ?_)
  refine lv_if_eq (tgt := 31) S.1 S.2.1 d_Md_label_8 (by decide) (fun c3 => ?_) (fun c3 => ?_)
  · have hM := ifP hM c3
    refine lv_bipush (v := (-2)) S.1 S.2.1 d_Md_label_31 (by decide) ?_
    obtain ⟨rfl, rfl⟩ := pr_inj hM
    exact rreti S hr hlk hK E d_Md_label_33
  · have hM := ifN hM c3
    refine lv_iload_n S.1 S.2.1 d_Md_label_11 rfl (lv_at hl 2 rfl) ?_
    refine lv_iconst (v := 0) S.1 S.2.1 d_Md_label_12 (by decide) ?_
    refine lv_iconst (v := 2) S.1 S.2.1 d_Md_label_13 (by decide) ?_
    obtain ⟨r5, h4, hM⟩ := br_inv hM
    refine rcr_4 (As := [.int x2, .int 0, .int 2]) (rest := []) S hK E (rC_Md_within h4) ⟨Nat.le_of_ble_eq_true rfl, Nat.le_of_ble_eq_true rfl⟩ rfl rfl hl.1 (lv_room (Nat.le_of_ble_eq_true rfl)) d_Md_label_14 (fun H locs E => ?_)
    refine lv_if_eq (tgt := 31) S.1 S.2.1 d_Md_label_17 (by decide) (fun c6 => ?_) (fun c6 => ?_)
    · have hM := ifP hM c6
      refine lv_bipush (v := (-2)) S.1 S.2.1 d_Md_label_31 (by decide) ?_
      obtain ⟨rfl, rfl⟩ := pr_inj hM
      exact rreti S hr hlk hK E d_Md_label_33
    · have hM := ifN hM c6
      refine lv_iload_n S.1 S.2.1 d_Md_label_20 rfl (lv_at hl 3 rfl) ?_
      refine lv_iconst (v := 1) S.1 S.2.1 d_Md_label_21 (by decide) ?_
      refine lv_sipush (v := 1000) S.1 S.2.1 d_Md_label_22 (by decide) ?_
      obtain ⟨r8, h7, hM⟩ := br_inv hM
      refine rcr_4 (As := [.int x3, .int 1, .int 1000]) (rest := []) S hK E (rC_Md_within h7) ⟨Nat.le_of_ble_eq_true rfl, Nat.le_of_ble_eq_true rfl⟩ rfl rfl hl.1 (lv_room (Nat.le_of_ble_eq_true rfl)) d_Md_label_25 (fun H locs E => ?_)
      refine lv_if_ne (tgt := 34) S.1 S.2.1 d_Md_label_28 (by decide) (fun c9 => ?_) (fun c9 => ?_)
      · have hM := ifN hM c9
        refine lv_aload_n S.1 S.2.1 d_Md_label_34 rfl (lv_at hl 0 rfl) ?_
        refine rgf_Md_163_0 S hK E d_Md_label_35 ?_
        refine lv_topi (fun y10 ey10 => ?_)
        have hM := lq_inv hM y10 ey10
        refine lv_istore (lv' := [(4, .int y10), (0, .ref (a 0)), (1, .int x1), (2, .int x2), (3, .int x3)]) S.1 S.2.1 d_Md_label_38 hl (by decide) rfl (fun ls hl => ?_)
        refine lv_iconst (v := 0) S.1 S.2.1 d_Md_label_40 (by decide) ?_
        refine lv_istore (lv' := [(5, .int 0), (4, .int y10), (0, .ref (a 0)), (1, .int x1), (2, .int x2), (3, .int x3)]) S.1 S.2.1 d_Md_label_41 hl (by decide) rfl (fun ls hl => ?_)
        exact rB_Md_label_43 S hr hlk hK _ _ _ _ _ _ _ _ _ _ E (lv_sub hl [2, 3, 4, 5, 1, 0] rfl) hM
      · have hM := ifP hM c9
        refine lv_bipush (v := (-2)) S.1 S.2.1 d_Md_label_31 (by decide) ?_
        obtain ⟨rfl, rfl⟩ := pr_inj hM
        exact rreti S hr hlk hK E d_Md_label_33
set_option maxHeartbeats 4000000 in
set_option maxRecDepth 100000 in
theorem rC_Md_say {l : Launch} {D : va_G} {a : Nat → Nat} {cA : Nat → ClassId} {A : Nat → Prop} {g : Nat → Nat} {σ σ2 : St} {x1 : Int32} (hM : rM_Md_say σ x1 = some σ2) : Met l y_Md_say (.code y_Md_say prog_10_method_38_code 2 none :: AW) rrm_Md_say (va_Pc [.ref (a 0), .int x1] (rCP D a cA A g σ)) (rqv D a cA A g σ2) 0 0 A := by
  refine rmet (nL := 2) (by decide) (Nat.le_of_ble_eq_true rfl) (fun S hr hlk hK E ls hl => ?_)
  have hl : lv_has ls 2 [(0, .ref (a 0)), (1, .int x1)] := hl
  unfold rM_Md_say at hM
  refine lv_aload_n S.1 S.2.1 d_Md_say_0 rfl (lv_at hl 0 rfl) ?_
  refine rgf_Md_71_0 S hK E d_Md_say_1 ?_
  refine lv_aload_n S.1 S.2.1 d_Md_say_4 rfl (lv_at hl 0 rfl) ?_
  refine rgf_Md_166_0 S hK E d_Md_say_5 ?_
  refine lv_iload_n S.1 S.2.1 d_Md_say_8 rfl (lv_at hl 1 rfl) ?_
  obtain ⟨h1, hM⟩ := gd_inv hM
  refine ras_21 S hK E h1 d_Md_say_9 (fun σ2 eσ2 H locs E => ?_)
  have hM := lq_inv hM σ2 eσ2
  refine lv_aload_n S.1 S.2.1 d_Md_say_10 rfl (lv_at hl 0 rfl) ?_
  refine lv_dup S.1 S.2.1 d_Md_say_11 rfl ?_
  refine rgf_Md_166_0 S hK E d_Md_say_12 ?_
  refine lv_iconst (v := 1) S.1 S.2.1 d_Md_say_15 (by decide) ?_
  refine lv_iadd S.1 S.2.1 d_Md_say_16 ?_
  refine rpf_Md_166_0 S hK E d_Md_say_17 (fun σ3 eσ3 H locs E => ?_)
  have hM := lq_inv hM σ3 eσ3
  obtain rfl := Option.some.inj hM
  exact rretv S hr hlk hK E d_Md_say_20
set_option maxHeartbeats 4000000 in
set_option maxRecDepth 100000 in
theorem rB_Md_sayDigits_18 {p : Program} {l : Launch} {e : Env} {s : State} {m : MethodId} {args : Array Value} {below : List Frame} {meth : Method} {c : Code} {D : va_G} {a : Nat → Nat} {cA : Nat → ClassId} {A : Nat → Prop} {g : Nat → Nat} {σ2 : St} (S : CallFix p m c prog_10_method_39_code 3 s args AW R_Md) (hr : meth.sig.returnType = none) (hlk : meth.locks = false) (hK : rKX D cA A g s s.heap) : ∀ (n : Nat) (σ : St) (v1 : Int32) (v2 : Int32) (H : Heap) (locs : List Loc) (ls : Array Slot), rEx D a cA A σ s.heap H locs → lv_has ls 3 [(0, .ref (a 0)), (1, .int v1), (2, .int v2)] → rL_Md_sayDigits_18 n σ v1 v2 = some σ2 → W p l e rrm_Md_sayDigits s m args below meth c H locs 0 0 (MQ below (rqv D a cA A g σ2) args s 0 0 A) (F0 m 18 ls []) := by
  intro n
  induction n with
  | zero =>
    intro σ v1 v2 H locs ls E hl hM
    rw [rL_Md_sayDigits_18] at hM
    cases hM
  | succ n ih =>
    intro σ v1 v2 H locs ls E hl hM
    rw [rL_Md_sayDigits_18] at hM
    refine lv_iload_n S.1 S.2.1 d_Md_sayDigits_18 rfl (lv_at hl 2 rfl) ?_
    refine lv_if_le (tgt := 43) S.1 S.2.1 d_Md_sayDigits_19 (by decide) (fun c1 => ?_) (fun c1 => ?_)
    · have hM := ifP hM c1
      obtain rfl := Option.some.inj hM
      exact rretv S hr hlk hK E d_Md_sayDigits_43
    · have hM := ifN hM c1
      refine lv_aload_n S.1 S.2.1 d_Md_sayDigits_22 rfl (lv_at hl 0 rfl) ?_
      refine lv_bipush (v := 48) S.1 S.2.1 d_Md_sayDigits_23 (by decide) ?_
      refine lv_iload_n S.1 S.2.1 d_Md_sayDigits_25 rfl (lv_at hl 1 rfl) ?_
      refine lv_iload_n S.1 S.2.1 d_Md_sayDigits_26 rfl (lv_at hl 2 rfl) ?_
      obtain ⟨h2, hM⟩ := gd_inv hM
      refine lv_idiv S.1 S.2.1 d_Md_sayDigits_27 (nzB_ne h2) ?_
      refine lv_bipush (v := 10) S.1 S.2.1 d_Md_sayDigits_28 (by decide) ?_
      refine lv_irem S.1 S.2.1 d_Md_sayDigits_30 (by decide) ?_
      refine lv_iadd S.1 S.2.1 d_Md_sayDigits_31 ?_
      obtain ⟨σ4, h3, hM⟩ := bv_inv hM
      refine rcr_20 (As := [.int (48 + ((v1 / v2) - (v1 / v2) / 10 * 10))]) (rest := []) S hK E (rC_Md_say h3) ⟨Nat.le_of_ble_eq_true rfl, Nat.le_of_ble_eq_true rfl⟩ rfl rfl hl.1 (lv_room (Nat.le_of_ble_eq_true rfl)) d_Md_sayDigits_32 (fun H locs E => ?_)
      refine lv_iload_n S.1 S.2.1 d_Md_sayDigits_35 rfl (lv_at hl 2 rfl) ?_
      refine lv_bipush (v := 10) S.1 S.2.1 d_Md_sayDigits_36 (by decide) ?_
      refine lv_idiv S.1 S.2.1 d_Md_sayDigits_38 (by decide) ?_
      refine lv_topi (fun y5 ey5 => ?_)
      have hM := lq_inv hM y5 ey5
      refine lv_istore_n (lv' := [(2, .int y5), (0, .ref (a 0)), (1, .int v1)]) S.1 S.2.1 d_Md_sayDigits_39 rfl hl (by decide) rfl (fun ls hl => ?_)
      refine lv_goto (tgt := 18) S.1 S.2.1 d_Md_sayDigits_40 (by decide) ?_
      exact ih _ _ _ _ _ _ E (lv_sub hl [1, 2, 0] rfl) hM
set_option maxHeartbeats 4000000 in
set_option maxRecDepth 100000 in
theorem rB_Md_sayDigits_2 {p : Program} {l : Launch} {e : Env} {s : State} {m : MethodId} {args : Array Value} {below : List Frame} {meth : Method} {c : Code} {D : va_G} {a : Nat → Nat} {cA : Nat → ClassId} {A : Nat → Prop} {g : Nat → Nat} {σ2 : St} (S : CallFix p m c prog_10_method_39_code 3 s args AW R_Md) (hr : meth.sig.returnType = none) (hlk : meth.locks = false) (hK : rKX D cA A g s s.heap) : ∀ (n : Nat) (σ : St) (v1 : Int32) (v2 : Int32) (H : Heap) (locs : List Loc) (ls : Array Slot), rEx D a cA A σ s.heap H locs → lv_has ls 3 [(0, .ref (a 0)), (1, .int v1), (2, .int v2)] → rL_Md_sayDigits_2 n σ v1 v2 = some σ2 → W p l e rrm_Md_sayDigits s m args below meth c H locs 0 0 (MQ below (rqv D a cA A g σ2) args s 0 0 A) (F0 m 2 ls []) := by
  intro n
  induction n with
  | zero =>
    intro σ v1 v2 H locs ls E hl hM
    rw [rL_Md_sayDigits_2] at hM
    cases hM
  | succ n ih =>
    intro σ v1 v2 H locs ls E hl hM
    rw [rL_Md_sayDigits_2] at hM
    refine lv_iload_n S.1 S.2.1 d_Md_sayDigits_2 rfl (lv_at hl 1 rfl) ?_
    refine lv_iload_n S.1 S.2.1 d_Md_sayDigits_3 rfl (lv_at hl 2 rfl) ?_
    obtain ⟨h1, hM⟩ := gd_inv hM
    refine lv_idiv S.1 S.2.1 d_Md_sayDigits_4 (nzB_ne h1) ?_
    refine lv_bipush (v := 9) S.1 S.2.1 d_Md_sayDigits_5 (by decide) ?_
    refine lv_icmp_le (tgt := 18) S.1 S.2.1 d_Md_sayDigits_7 (by decide) (fun c2 => ?_) (fun c2 => ?_)
    · have hM := ifP hM c2
      exact rB_Md_sayDigits_18 S hr hlk hK _ _ _ _ _ _ _ E (lv_sub hl [0, 1, 2] rfl) hM
    · have hM := ifN hM c2
      refine lv_iload_n S.1 S.2.1 d_Md_sayDigits_10 rfl (lv_at hl 2 rfl) ?_
      refine lv_bipush (v := 10) S.1 S.2.1 d_Md_sayDigits_11 (by decide) ?_
      refine lv_imul S.1 S.2.1 d_Md_sayDigits_13 ?_
      refine lv_topi (fun y3 ey3 => ?_)
      have hM := lq_inv hM y3 ey3
      refine lv_istore_n (lv' := [(2, .int y3), (0, .ref (a 0)), (1, .int v1)]) S.1 S.2.1 d_Md_sayDigits_14 rfl hl (by decide) rfl (fun ls hl => ?_)
      refine lv_goto (tgt := 2) S.1 S.2.1 d_Md_sayDigits_15 (by decide) ?_
      exact ih _ _ _ _ _ _ E (lv_sub hl [1, 2, 0] rfl) hM
set_option maxHeartbeats 4000000 in
set_option maxRecDepth 100000 in
theorem rC_Md_sayDigits {l : Launch} {D : va_G} {a : Nat → Nat} {cA : Nat → ClassId} {A : Nat → Prop} {g : Nat → Nat} {σ σ2 : St} {x1 : Int32} (hM : rM_Md_sayDigits σ x1 = some σ2) : Met l y_Md_sayDigits (.code y_Md_sayDigits prog_10_method_39_code 3 none :: AW) rrm_Md_sayDigits (va_Pc [.ref (a 0), .int x1] (rCP D a cA A g σ)) (rqv D a cA A g σ2) 0 0 A := by
  refine rmet (nL := 3) (by decide) (Nat.le_of_ble_eq_true rfl) (fun S hr hlk hK E ls hl => ?_)
  have hl : lv_has ls 3 [(0, .ref (a 0)), (1, .int x1)] := hl
  unfold rM_Md_sayDigits at hM
  refine lv_iconst (v := 1) S.1 S.2.1 d_Md_sayDigits_0 (by decide) ?_
  refine lv_istore_n (lv' := [(2, .int 1), (0, .ref (a 0)), (1, .int x1)]) S.1 S.2.1 d_Md_sayDigits_1 rfl hl (by decide) rfl (fun ls hl => ?_)
  exact rB_Md_sayDigits_2 S hr hlk hK _ _ _ _ _ _ _ E (lv_sub hl [1, 2, 0] rfl) hM
