set_option maxHeartbeats 4000000 in
set_option maxRecDepth 100000 in
theorem rB_Md_mend_78 {p : Program} {l : Launch} {e : Env} {s : State} {m : MethodId} {args : Array Value} {below : List Frame} {meth : Method} {c : Code} {D : va_G} {a : Nat → Nat} {cA : Nat → ClassId} {A : Nat → Prop} {g : Nat → Nat} {σ2 : St} {r : Int32} (S : CallFix p m c prog_10_method_28_code 4 s args AW R_Md) (hr : meth.sig.returnType = (some .int)) (hlk : meth.locks = false) (hK : rKX D cA A g s s.heap) {k9 : St → Option (Int32 × St)} (hk9 : ∀ (σ : St) (H : Heap) (locs : List Loc) (ls : Array Slot), rEx D a cA A σ s.heap H locs → lv_has ls 4 [(0, .ref (a 0))] → k9 σ = some (r, σ2) → W p l e rrm_Md_mend s m args below meth c H locs 0 0 (MQ below (rqi D a cA A g r σ2) args s 0 0 A) (F0 m 9 ls [])) : ∀ (σ : St) (H : Heap) (locs : List Loc) (ls : Array Slot), rEx D a cA A σ s.heap H locs → lv_has ls 4 [(0, .ref (a 0))] → rJ_Md_mend_78 k9 σ = some (r, σ2) → W p l e rrm_Md_mend s m args below meth c H locs 0 0 (MQ below (rqi D a cA A g r σ2) args s 0 0 A) (F0 m 78 ls []) := by
  intro σ H locs ls E hl hM
  unfold rJ_Md_mend_78 at hM
  refine lv_aload_n S.1 S.2.1 d_Md_mend_78 rfl (lv_at hl 0 rfl) ?_
  obtain ⟨σ2, h1, hM⟩ := bv_inv hM
  refine rcr_8 (As := []) (rest := []) S hK E (rC_Md_goUp h1) ⟨Nat.le_of_ble_eq_true rfl, Nat.le_of_ble_eq_true rfl⟩ rfl rfl hl.1 (lv_room (Nat.le_of_ble_eq_true rfl)) d_Md_mend_79 (fun H locs E => ?_)
  refine lv_goto (tgt := 9) S.1 S.2.1 d_Md_mend_82 (by decide) ?_
  exact hk9 _ _ _ _ E (lv_sub hl [0] rfl) hM
set_option maxHeartbeats 4000000 in
set_option maxRecDepth 100000 in
theorem rB_Md_mend_174 {p : Program} {l : Launch} {e : Env} {s : State} {m : MethodId} {args : Array Value} {below : List Frame} {meth : Method} {c : Code} {D : va_G} {a : Nat → Nat} {cA : Nat → ClassId} {A : Nat → Prop} {g : Nat → Nat} {σ2 : St} {r : Int32} (S : CallFix p m c prog_10_method_28_code 4 s args AW R_Md) (hr : meth.sig.returnType = (some .int)) (hlk : meth.locks = false) (hK : rKX D cA A g s s.heap) {k9 : St → Option (Int32 × St)} (hk9 : ∀ (σ : St) (H : Heap) (locs : List Loc) (ls : Array Slot), rEx D a cA A σ s.heap H locs → lv_has ls 4 [(0, .ref (a 0))] → k9 σ = some (r, σ2) → W p l e rrm_Md_mend s m args below meth c H locs 0 0 (MQ below (rqi D a cA A g r σ2) args s 0 0 A) (F0 m 9 ls [])) : ∀ (σ : St) (v1 : Int32) (H : Heap) (locs : List Loc) (ls : Array Slot), rEx D a cA A σ s.heap H locs → lv_has ls 4 [(0, .ref (a 0)), (1, .int v1)] → rJ_Md_mend_174 k9 σ v1 = some (r, σ2) → W p l e rrm_Md_mend s m args below meth c H locs 0 0 (MQ below (rqi D a cA A g r σ2) args s 0 0 A) (F0 m 174 ls []) := by
  intro σ v1 H locs ls E hl hM
  unfold rJ_Md_mend_174 at hM
  refine lv_aload_n S.1 S.2.1 d_Md_mend_174 rfl (lv_at hl 0 rfl) ?_
  refine rgf_Md_32_0 S hK E d_Md_mend_175 ?_
  refine lv_iload_n S.1 S.2.1 d_Md_mend_178 rfl (lv_at hl 1 rfl) ?_
  refine lv_dup2_11 S.1 S.2.1 d_Md_mend_179 rfl rfl ?_
  obtain ⟨h1, hM⟩ := gd_inv hM
  refine ral_8 S hK E h1 d_Md_mend_180 ?_
  refine lv_iconst (v := 1) S.1 S.2.1 d_Md_mend_181 (by decide) ?_
  refine lv_iadd S.1 S.2.1 d_Md_mend_182 ?_
  obtain ⟨h2, hM⟩ := gd_inv hM
  refine ras_8 S hK E h2 d_Md_mend_183 (fun σ3 eσ3 H locs E => ?_)
  have hM := lq_inv hM σ3 eσ3
  refine lv_goto (tgt := 9) S.1 S.2.1 d_Md_mend_184 (by decide) ?_
  exact hk9 _ _ _ _ E (lv_sub hl [0] rfl) hM
set_option maxHeartbeats 4000000 in
set_option maxRecDepth 100000 in
theorem rB_Md_mend_128 {p : Program} {l : Launch} {e : Env} {s : State} {m : MethodId} {args : Array Value} {below : List Frame} {meth : Method} {c : Code} {D : va_G} {a : Nat → Nat} {cA : Nat → ClassId} {A : Nat → Prop} {g : Nat → Nat} {σ2 : St} {r : Int32} (S : CallFix p m c prog_10_method_28_code 4 s args AW R_Md) (hr : meth.sig.returnType = (some .int)) (hlk : meth.locks = false) (hK : rKX D cA A g s s.heap) {k9 : St → Option (Int32 × St)} (hk9 : ∀ (σ : St) (H : Heap) (locs : List Loc) (ls : Array Slot), rEx D a cA A σ s.heap H locs → lv_has ls 4 [(0, .ref (a 0))] → k9 σ = some (r, σ2) → W p l e rrm_Md_mend s m args below meth c H locs 0 0 (MQ below (rqi D a cA A g r σ2) args s 0 0 A) (F0 m 9 ls [])) : ∀ (σ : St) (v1 : Int32) (v2 : Int32) (H : Heap) (locs : List Loc) (ls : Array Slot), rEx D a cA A σ s.heap H locs → lv_has ls 4 [(0, .ref (a 0)), (1, .int v1), (2, .int v2)] → rJ_Md_mend_128 k9 σ v1 v2 = some (r, σ2) → W p l e rrm_Md_mend s m args below meth c H locs 0 0 (MQ below (rqi D a cA A g r σ2) args s 0 0 A) (F0 m 128 ls []) := by
  intro σ v1 v2 H locs ls E hl hM
  unfold rJ_Md_mend_128 at hM
  refine lv_aload_n S.1 S.2.1 d_Md_mend_128 rfl (lv_at hl 0 rfl) ?_
  refine rgf_Md_23_0 S hK E d_Md_mend_129 ?_
  refine lv_bipush (v := 40) S.1 S.2.1 d_Md_mend_132 (by decide) ?_
  refine lv_iload_n S.1 S.2.1 d_Md_mend_134 rfl (lv_at hl 2 rfl) ?_
  refine lv_imul S.1 S.2.1 d_Md_mend_135 ?_
  refine lv_aload_n S.1 S.2.1 d_Md_mend_136 rfl (lv_at hl 0 rfl) ?_
  refine rgf_Md_32_0 S hK E d_Md_mend_137 ?_
  refine lv_iload_n S.1 S.2.1 d_Md_mend_140 rfl (lv_at hl 1 rfl) ?_
  obtain ⟨h1, hM⟩ := gd_inv hM
  refine ral_8 S hK E h1 d_Md_mend_141 ?_
  refine lv_iadd S.1 S.2.1 d_Md_mend_142 ?_
  obtain ⟨h2, hM⟩ := gd_inv hM
  refine ral_5 S hK E h2 d_Md_mend_143 ?_
  refine lv_topi (fun y3 ey3 => ?_)
  have hM := lq_inv hM y3 ey3
  refine lv_istore_n (lv' := [(3, .int y3), (0, .ref (a 0)), (1, .int v1), (2, .int v2)]) S.1 S.2.1 d_Md_mend_144 rfl hl (by decide) rfl (fun ls hl => ?_)
  refine lv_aload_n S.1 S.2.1 d_Md_mend_145 rfl (lv_at hl 1 rfl) ?_
  refine rgf_Md_13_0 S hK E d_Md_mend_146 ?_
  refine lv_iload_n S.1 S.2.1 d_Md_mend_149 rfl (lv_at hl 0 rfl) ?_
  refine lv_iload_n S.1 S.2.1 d_Md_mend_150 rfl (lv_at hl 3 rfl) ?_
  obtain ⟨h4, hM⟩ := gd_inv hM
  refine ras_2 S hK E h4 d_Md_mend_151 (fun σ5 eσ5 H locs E => ?_)
  have hM := lq_inv hM σ5 eσ5
  refine lv_aload_n S.1 S.2.1 d_Md_mend_152 rfl (lv_at hl 1 rfl) ?_
  refine rgf_Md_7_0 S hK E d_Md_mend_153 ?_
  refine lv_iload_n S.1 S.2.1 d_Md_mend_156 rfl (lv_at hl 0 rfl) ?_
  obtain ⟨h6, hM⟩ := gd_inv hM
  refine ral_1 S hK E h6 d_Md_mend_157 ?_
  refine lv_if_eq (tgt := 169) S.1 S.2.1 d_Md_mend_158 (by decide) (fun c7 => ?_) (fun c7 => ?_)
  · have hM := ifP hM c7
    refine lv_aload_n S.1 S.2.1 d_Md_mend_169 rfl (lv_at hl 1 rfl) ?_
    refine lv_iload_n S.1 S.2.1 d_Md_mend_170 rfl (lv_at hl 0 rfl) ?_
    obtain ⟨σ9, h8, hM⟩ := bv_inv hM
    refine rcr_6 (As := [.int y3]) (rest := []) S hK E (rC_Md_goInto h8) ⟨Nat.le_of_ble_eq_true rfl, Nat.le_of_ble_eq_true rfl⟩ rfl rfl hl.1 (lv_room (Nat.le_of_ble_eq_true rfl)) d_Md_mend_171 (fun H locs E => ?_)
    exact rB_Md_mend_174 S hr hlk hK hk9 _ _ _ _ _ E (lv_sub hl [1, 2] rfl) hM
  · have hM := ifN hM c7
    refine lv_aload_n S.1 S.2.1 d_Md_mend_161 rfl (lv_at hl 1 rfl) ?_
    refine lv_iload_n S.1 S.2.1 d_Md_mend_162 rfl (lv_at hl 0 rfl) ?_
    obtain ⟨σ11, h10, hM⟩ := bv_inv hM
    refine rcr_7 (As := [.int y3]) (rest := []) S hK E (rC_Md_takePage h10) ⟨Nat.le_of_ble_eq_true rfl, Nat.le_of_ble_eq_true rfl⟩ rfl rfl hl.1 (lv_room (Nat.le_of_ble_eq_true rfl)) d_Md_mend_163 (fun H locs E => ?_)
    refine lv_goto (tgt := 174) S.1 S.2.1 d_Md_mend_166 (by decide) ?_
    exact rB_Md_mend_174 S hr hlk hK hk9 _ _ _ _ _ E (lv_sub hl [1, 2] rfl) hM
set_option maxHeartbeats 4000000 in
set_option maxRecDepth 100000 in
theorem rB_Md_mend_9 {p : Program} {l : Launch} {e : Env} {s : State} {m : MethodId} {args : Array Value} {below : List Frame} {meth : Method} {c : Code} {D : va_G} {a : Nat → Nat} {cA : Nat → ClassId} {A : Nat → Prop} {g : Nat → Nat} {σ2 : St} {r : Int32} (S : CallFix p m c prog_10_method_28_code 4 s args AW R_Md) (hr : meth.sig.returnType = (some .int)) (hlk : meth.locks = false) (hK : rKX D cA A g s s.heap) : ∀ (n : Nat) (σ : St) (H : Heap) (locs : List Loc) (ls : Array Slot), rEx D a cA A σ s.heap H locs → lv_has ls 4 [(0, .ref (a 0))] → rL_Md_mend_9 n σ = some (r, σ2) → W p l e rrm_Md_mend s m args below meth c H locs 0 0 (MQ below (rqi D a cA A g r σ2) args s 0 0 A) (F0 m 9 ls []) := by
  intro n
  induction n with
  | zero =>
    intro σ H locs ls E hl hM
    rw [rL_Md_mend_9] at hM
    cases hM
  | succ n ih =>
    intro σ H locs ls E hl hM
    rw [rL_Md_mend_9] at hM
    refine lv_aload_n S.1 S.2.1 d_Md_mend_9 rfl (lv_at hl 0 rfl) ?_
    refine rgf_Md_108_0 S hK E d_Md_mend_10 ?_
    refine lv_if_le (tgt := 187) S.1 S.2.1 d_Md_mend_13 (by decide) (fun c1 => ?_) (fun c1 => ?_)
    · have hM := ifP hM c1
      refine lv_aload_n S.1 S.2.1 d_Md_mend_187 rfl (lv_at hl 0 rfl) ?_
      refine rgf_Md_131_0 S hK E d_Md_mend_188 ?_
      obtain ⟨rfl, rfl⟩ := pr_inj hM
      exact rreti S hr hlk hK E d_Md_mend_191
    · have hM := ifN hM c1
      refine lv_aload_n S.1 S.2.1 d_Md_mend_16 rfl (lv_at hl 0 rfl) ?_
      refine rgf_Md_108_0 S hK E d_Md_mend_17 ?_
      refine lv_iconst (v := 1) S.1 S.2.1 d_Md_mend_20 (by decide) ?_
      refine lv_isub S.1 S.2.1 d_Md_mend_21 ?_
      refine lv_topi (fun y2 ey2 => ?_)
      have hM := lq_inv hM y2 ey2
      refine lv_istore_n (lv' := [(1, .int y2), (0, .ref (a 0))]) S.1 S.2.1 d_Md_mend_22 rfl hl (by decide) rfl (fun ls hl => ?_)
      refine lv_aload_n S.1 S.2.1 d_Md_mend_23 rfl (lv_at hl 1 rfl) ?_
      refine rgf_Md_29_0 S hK E d_Md_mend_24 ?_
      refine lv_iload_n S.1 S.2.1 d_Md_mend_27 rfl (lv_at hl 0 rfl) ?_
      obtain ⟨h3, hM⟩ := gd_inv hM
      refine ral_7 S hK E h3 d_Md_mend_28 ?_
      refine lv_topi (fun y4 ey4 => ?_)
      have hM := lq_inv hM y4 ey4
      refine lv_istore_n (lv' := [(2, .int y4), (1, .int y2), (0, .ref (a 0))]) S.1 S.2.1 d_Md_mend_29 rfl hl (by decide) rfl (fun ls hl => ?_)
      refine lv_aload_n S.1 S.2.1 d_Md_mend_30 rfl (lv_at hl 2 rfl) ?_
      refine rgf_Md_32_0 S hK E d_Md_mend_31 ?_
      refine lv_iload_n S.1 S.2.1 d_Md_mend_34 rfl (lv_at hl 1 rfl) ?_
      obtain ⟨h5, hM⟩ := gd_inv hM
      refine ral_8 S hK E h5 d_Md_mend_35 ?_
      refine lv_aload_n S.1 S.2.1 d_Md_mend_36 rfl (lv_at hl 2 rfl) ?_
      refine rgf_Md_20_0 S hK E d_Md_mend_37 ?_
      refine lv_iload_n S.1 S.2.1 d_Md_mend_40 rfl (lv_at hl 0 rfl) ?_
      obtain ⟨h6, hM⟩ := gd_inv hM
      refine ral_4 S hK E h6 d_Md_mend_41 ?_
      refine lv_icmp_ne (tgt := 85) S.1 S.2.1 d_Md_mend_42 (by decide) (fun c7 => ?_) (fun c7 => ?_)
      · have hM := ifN hM c7
        refine lv_aload_n S.1 S.2.1 d_Md_mend_85 rfl (lv_at hl 2 rfl) ?_
        refine rgf_Md_23_0 S hK E d_Md_mend_86 ?_
        refine lv_bipush (v := 40) S.1 S.2.1 d_Md_mend_89 (by decide) ?_
        refine lv_iload_n S.1 S.2.1 d_Md_mend_91 rfl (lv_at hl 0 rfl) ?_
        refine lv_imul S.1 S.2.1 d_Md_mend_92 ?_
        refine lv_aload_n S.1 S.2.1 d_Md_mend_93 rfl (lv_at hl 2 rfl) ?_
        refine rgf_Md_32_0 S hK E d_Md_mend_94 ?_
        refine lv_iload_n S.1 S.2.1 d_Md_mend_97 rfl (lv_at hl 1 rfl) ?_
        obtain ⟨h8, hM⟩ := gd_inv hM
        refine ral_8 S hK E h8 d_Md_mend_98 ?_
        refine lv_iadd S.1 S.2.1 d_Md_mend_99 ?_
        obtain ⟨h9, hM⟩ := gd_inv hM
        refine ral_5 S hK E h9 d_Md_mend_100 ?_
        refine lv_topi (fun y10 ey10 => ?_)
        have hM := lq_inv hM y10 ey10
        refine lv_istore_n (lv' := [(3, .int y10), (2, .int y4), (1, .int y2), (0, .ref (a 0))]) S.1 S.2.1 d_Md_mend_101 rfl hl (by decide) rfl (fun ls hl => ?_)
        refine lv_aload_n S.1 S.2.1 d_Md_mend_102 rfl (lv_at hl 3 rfl) ?_
        refine rgf_Md_35_0 S hK E d_Md_mend_103 ?_
        refine lv_iload_n S.1 S.2.1 d_Md_mend_106 rfl (lv_at hl 0 rfl) ?_
        obtain ⟨h11, hM⟩ := gd_inv hM
        refine ral_9 S hK E h11 d_Md_mend_107 ?_
        refine lv_if_eq (tgt := 128) S.1 S.2.1 d_Md_mend_108 (by decide) (fun c12 => ?_) (fun c12 => ?_)
        · have hM := ifP hM c12
          exact rB_Md_mend_128 S hr hlk hK ih _ _ _ _ _ _ E (lv_sub hl [3, 2, 1] rfl) hM
        · have hM := ifN hM c12
          refine lv_aload_n S.1 S.2.1 d_Md_mend_111 rfl (lv_at hl 3 rfl) ?_
          refine lv_iload_n S.1 S.2.1 d_Md_mend_112 rfl (lv_at hl 1 rfl) ?_
          refine lv_aload_n S.1 S.2.1 d_Md_mend_113 rfl (lv_at hl 3 rfl) ?_
          refine rgf_Md_32_0 S hK E d_Md_mend_114 ?_
          refine lv_iload_n S.1 S.2.1 d_Md_mend_117 rfl (lv_at hl 2 rfl) ?_
          obtain ⟨h13, hM⟩ := gd_inv hM
          refine ral_8 S hK E h13 d_Md_mend_118 ?_
          obtain ⟨r15, σ16, h14, hM⟩ := bd_inv hM
          refine rcr_15 (As := [.int y4, .int (σ 7 y2.toNatClampNeg)]) (rest := []) S hK E (rC_Md_mendKid h14) ⟨Nat.le_of_ble_eq_true rfl, Nat.le_of_ble_eq_true rfl⟩ rfl rfl hl.1 (lv_room (Nat.le_of_ble_eq_true rfl)) d_Md_mend_119 (fun H locs E => ?_)
          refine lv_if_ne (tgt := 128) S.1 S.2.1 d_Md_mend_122 (by decide) (fun c17 => ?_) (fun c17 => ?_)
          · have hM := ifN hM c17
            exact rB_Md_mend_128 S hr hlk hK ih _ _ _ _ _ _ E (lv_sub hl [3, 2, 1] rfl) hM
          · have hM := ifP hM c17
            refine lv_goto (tgt := 9) S.1 S.2.1 d_Md_mend_125 (by decide) ?_
            exact ih _ _ _ _ E (lv_sub hl [3] rfl) hM
      · have hM := ifP hM c7
        refine lv_aload_n S.1 S.2.1 d_Md_mend_45 rfl (lv_at hl 2 rfl) ?_
        refine rgf_Md_17_0 S hK E d_Md_mend_46 ?_
        refine lv_iload_n S.1 S.2.1 d_Md_mend_49 rfl (lv_at hl 0 rfl) ?_
        obtain ⟨h18, hM⟩ := gd_inv hM
        refine ral_3 S hK E h18 d_Md_mend_50 ?_
        refine lv_aload_n S.1 S.2.1 d_Md_mend_51 rfl (lv_at hl 2 rfl) ?_
        refine rgf_Md_47_0 S hK E d_Md_mend_52 ?_
        refine lv_iload_n S.1 S.2.1 d_Md_mend_55 rfl (lv_at hl 1 rfl) ?_
        obtain ⟨h19, hM⟩ := gd_inv hM
        refine ral_13 S hK E h19 d_Md_mend_56 ?_
        refine lv_icmp_eq (tgt := 78) S.1 S.2.1 d_Md_mend_57 (by decide) (fun c20 => ?_) (fun c20 => ?_)
        · have hM := ifP hM c20
          exact rB_Md_mend_78 S hr hlk hK ih _ _ _ _ E (lv_sub hl [2] rfl) hM
        · have hM := ifN hM c20
          refine lv_aload_n S.1 S.2.1 d_Md_mend_60 rfl (lv_at hl 2 rfl) ?_
          refine lv_iconst (v := 4) S.1 S.2.1 d_Md_mend_61 (by decide) ?_
          refine lv_iload_n S.1 S.2.1 d_Md_mend_62 rfl (lv_at hl 0 rfl) ?_
          obtain ⟨σ22, h21, hM⟩ := bv_inv hM
          refine rcr_12 (As := [.int 4, .int y4]) (rest := []) S hK E (rC_Md_tell h21) ⟨Nat.le_of_ble_eq_true rfl, Nat.le_of_ble_eq_true rfl⟩ rfl rfl hl.1 (lv_room (Nat.le_of_ble_eq_true rfl)) d_Md_mend_63 (fun H locs E => ?_)
          refine lv_aload_n S.1 S.2.1 d_Md_mend_66 rfl (lv_at hl 2 rfl) ?_
          refine rgf_Md_17_0 S hK E d_Md_mend_67 ?_
          refine lv_iload_n S.1 S.2.1 d_Md_mend_70 rfl (lv_at hl 0 rfl) ?_
          refine lv_aload_n S.1 S.2.1 d_Md_mend_71 rfl (lv_at hl 2 rfl) ?_
          refine rgf_Md_47_0 S hK E d_Md_mend_72 ?_
          refine lv_iload_n S.1 S.2.1 d_Md_mend_75 rfl (lv_at hl 1 rfl) ?_
          obtain ⟨h23, hM⟩ := gd_inv hM
          refine ral_13 S hK E h23 d_Md_mend_76 ?_
          obtain ⟨h24, hM⟩ := gd_inv hM
          refine ras_3 S hK E h24 d_Md_mend_77 (fun σ25 eσ25 H locs E => ?_)
          have hM := lq_inv hM σ25 eσ25
          exact rB_Md_mend_78 S hr hlk hK ih _ _ _ _ E (lv_sub hl [2] rfl) hM
set_option maxHeartbeats 4000000 in
set_option maxRecDepth 100000 in
theorem rC_Md_mend {l : Launch} {D : va_G} {a : Nat → Nat} {cA : Nat → ClassId} {A : Nat → Prop} {g : Nat → Nat} {σ σ2 : St} {r : Int32} (hM : rM_Md_mend σ = some (r, σ2)) : Met l y_Md_mend (.code y_Md_mend prog_10_method_28_code 4 (some .int) :: AW) rrm_Md_mend (va_Pc [.ref (a 0)] (rCP D a cA A g σ)) (rqi D a cA A g r σ2) 0 0 A := by
  refine rmet (nL := 4) (by decide) (Nat.le_of_ble_eq_true rfl) (fun S hr hlk hK E ls hl => ?_)
  have hl : lv_has ls 4 [(0, .ref (a 0))] := hl
  unfold rM_Md_mend at hM
  refine lv_aload_n S.1 S.2.1 d_Md_mend_0 rfl (lv_at hl 0 rfl) ?_
  refine lv_iconst (v := 0) S.1 S.2.1 d_Md_mend_1 (by decide) ?_
  refine rpf_Md_131_0 S hK E d_Md_mend_2 (fun σ1 eσ1 H locs E => ?_)
  have hM := lq_inv hM σ1 eσ1
  refine lv_aload_n S.1 S.2.1 d_Md_mend_5 rfl (lv_at hl 0 rfl) ?_
  obtain ⟨σ3, h2, hM⟩ := bv_inv hM
  refine rcr_9 (As := []) (rest := []) S hK E (rC_Md_begin h2) ⟨Nat.le_of_ble_eq_true rfl, Nat.le_of_ble_eq_true rfl⟩ rfl rfl hl.1 (lv_room (Nat.le_of_ble_eq_true rfl)) d_Md_mend_6 (fun H locs E => ?_)
  exact rB_Md_mend_9 S hr hlk hK _ _ _ _ _ E (lv_sub hl [0] rfl) hM
set_option maxHeartbeats 4000000 in
set_option maxRecDepth 100000 in
theorem rB_Md_told_42 {p : Program} {l : Launch} {e : Env} {s : State} {m : MethodId} {args : Array Value} {below : List Frame} {meth : Method} {c : Code} {D : va_G} {a : Nat → Nat} {cA : Nat → ClassId} {A : Nat → Prop} {g : Nat → Nat} {σ : St} {r : Int32} (S : CallFix p m c prog_10_method_29_code 4 s args AW R_Md) (hr : meth.sig.returnType = (some .int)) (hlk : meth.locks = false) (hK : rKX D cA A g s s.heap) : ∀ (v1 : Int32) (v2 : Int32) (t0 : Int32) (H : Heap) (locs : List Loc) (ls : Array Slot), rEx D a cA A σ s.heap H locs → lv_has ls 4 [(0, .ref (a 0)), (1, .int v1), (2, .int v2)] → rJ_Md_told_42 σ v1 v2 t0 = some r → W p l e rrm_Md_told s m args below meth c H locs 0 0 (MQ below (rqi D a cA A g r σ) args s 0 0 A) (F0 m 42 ls [.int t0]) := by
  intro v1 v2 t0 H locs ls E hl hM
  unfold rJ_Md_told_42 at hM
  refine lv_istore_n (lv' := [(3, .int t0), (0, .ref (a 0)), (1, .int v1), (2, .int v2)]) S.1 S.2.1 d_Md_told_42 rfl hl (by decide) rfl (fun ls hl => ?_)
  refine lv_iload_n S.1 S.2.1 d_Md_told_43 rfl (lv_at hl 0 rfl) ?_
  refine lv_if_ne (tgt := 51) S.1 S.2.1 d_Md_told_44 (by decide) (fun c1 => ?_) (fun c1 => ?_)
  · have hM := ifN hM c1
    refine lv_iload_n S.1 S.2.1 d_Md_told_51 rfl (lv_at hl 3 rfl) ?_
    refine lv_if_ne (tgt := 64) S.1 S.2.1 d_Md_told_52 (by decide) (fun c2 => ?_) (fun c2 => ?_)
    · have hM := ifN hM c2
      refine lv_aload_n S.1 S.2.1 d_Md_told_64 rfl (lv_at hl 1 rfl) ?_
      refine rgf_Md_53_0 S hK E d_Md_told_65 ?_
      refine lv_iload_n S.1 S.2.1 d_Md_told_68 rfl (lv_at hl 2 rfl) ?_
      obtain ⟨h3, hM⟩ := gd_inv hM
      refine ral_15 S hK E h3 d_Md_told_69 ?_
      obtain rfl := Option.some.inj hM
      exact rreti S hr hlk hK E d_Md_told_70
    · have hM := ifP hM c2
      refine lv_aload_n S.1 S.2.1 d_Md_told_55 rfl (lv_at hl 1 rfl) ?_
      refine rgf_Md_50_0 S hK E d_Md_told_56 ?_
      refine lv_iload_n S.1 S.2.1 d_Md_told_59 rfl (lv_at hl 2 rfl) ?_
      obtain ⟨h4, hM⟩ := gd_inv hM
      refine ral_14 S hK E h4 d_Md_told_60 ?_
      refine lv_goto (tgt := 70) S.1 S.2.1 d_Md_told_61 (by decide) ?_
      obtain rfl := Option.some.inj hM
      exact rreti S hr hlk hK E d_Md_told_70
  · have hM := ifP hM c1
    refine lv_iconst (v := (-1)) S.1 S.2.1 d_Md_told_47 (by decide) ?_
    refine lv_goto (tgt := 70) S.1 S.2.1 d_Md_told_48 (by decide) ?_
    obtain rfl := Option.some.inj hM
    exact rreti S hr hlk hK E d_Md_told_70
set_option maxHeartbeats 4000000 in
set_option maxRecDepth 100000 in
theorem rB_Md_told_41 {p : Program} {l : Launch} {e : Env} {s : State} {m : MethodId} {args : Array Value} {below : List Frame} {meth : Method} {c : Code} {D : va_G} {a : Nat → Nat} {cA : Nat → ClassId} {A : Nat → Prop} {g : Nat → Nat} {σ : St} {r : Int32} (S : CallFix p m c prog_10_method_29_code 4 s args AW R_Md) (hr : meth.sig.returnType = (some .int)) (hlk : meth.locks = false) (hK : rKX D cA A g s s.heap) : ∀ (v1 : Int32) (v2 : Int32) (H : Heap) (locs : List Loc) (ls : Array Slot), rEx D a cA A σ s.heap H locs → lv_has ls 4 [(0, .ref (a 0)), (1, .int v1), (2, .int v2)] → rJ_Md_told_41 σ v1 v2 = some r → W p l e rrm_Md_told s m args below meth c H locs 0 0 (MQ below (rqi D a cA A g r σ) args s 0 0 A) (F0 m 41 ls []) := by
  intro v1 v2 H locs ls E hl hM
  unfold rJ_Md_told_41 at hM
  refine lv_iconst (v := 0) S.1 S.2.1 d_Md_told_41 (by decide) ?_
  exact rB_Md_told_42 S hr hlk hK _ _ _ _ _ _ E (lv_sub hl [0, 1, 2] rfl) hM
set_option maxHeartbeats 4000000 in
set_option maxRecDepth 100000 in
theorem rB_Md_told_20 {p : Program} {l : Launch} {e : Env} {s : State} {m : MethodId} {args : Array Value} {below : List Frame} {meth : Method} {c : Code} {D : va_G} {a : Nat → Nat} {cA : Nat → ClassId} {A : Nat → Prop} {g : Nat → Nat} {σ : St} {r : Int32} (S : CallFix p m c prog_10_method_29_code 4 s args AW R_Md) (hr : meth.sig.returnType = (some .int)) (hlk : meth.locks = false) (hK : rKX D cA A g s s.heap) : ∀ (v1 : Int32) (v2 : Int32) (t0 : Int32) (t1 : Int32) (t2 : Int32) (H : Heap) (locs : List Loc) (ls : Array Slot), rEx D a cA A σ s.heap H locs → lv_has ls 4 [(0, .ref (a 0)), (1, .int v1), (2, .int v2)] → rJ_Md_told_20 σ v1 v2 t0 t1 t2 = some r → W p l e rrm_Md_told s m args below meth c H locs 0 0 (MQ below (rqi D a cA A g r σ) args s 0 0 A) (F0 m 20 ls [.int t2, .int t1, .int t0]) := by
  intro v1 v2 t0 t1 t2 H locs ls E hl hM
  unfold rJ_Md_told_20 at hM
  refine lv_iconst (v := 1) S.1 S.2.1 d_Md_told_20 (by decide) ?_
  refine lv_isub S.1 S.2.1 d_Md_told_21 ?_
  obtain ⟨r2, h1, hM⟩ := br_inv hM
  refine rcr_4 (As := [.int t0, .int t1, .int (t2 - 1)]) (rest := []) S hK E (rC_Md_within h1) ⟨Nat.le_of_ble_eq_true rfl, Nat.le_of_ble_eq_true rfl⟩ rfl rfl hl.1 (lv_room (Nat.le_of_ble_eq_true rfl)) d_Md_told_22 (fun H locs E => ?_)
  refine lv_if_eq (tgt := 41) S.1 S.2.1 d_Md_told_25 (by decide) (fun c3 => ?_) (fun c3 => ?_)
  · have hM := ifP hM c3
    exact rB_Md_told_41 S hr hlk hK _ _ _ _ _ E (lv_sub hl [0, 1, 2] rfl) hM
  · have hM := ifN hM c3
    refine lv_iload_n S.1 S.2.1 d_Md_told_28 rfl (lv_at hl 2 rfl) ?_
    refine lv_iconst (v := 0) S.1 S.2.1 d_Md_told_29 (by decide) ?_
    refine lv_iconst (v := 1) S.1 S.2.1 d_Md_told_30 (by decide) ?_
    obtain ⟨r5, h4, hM⟩ := br_inv hM
    refine rcr_4 (As := [.int v2, .int 0, .int 1]) (rest := []) S hK E (rC_Md_within h4) ⟨Nat.le_of_ble_eq_true rfl, Nat.le_of_ble_eq_true rfl⟩ rfl rfl hl.1 (lv_room (Nat.le_of_ble_eq_true rfl)) d_Md_told_31 (fun H locs E => ?_)
    refine lv_if_eq (tgt := 41) S.1 S.2.1 d_Md_told_34 (by decide) (fun c6 => ?_) (fun c6 => ?_)
    · have hM := ifP hM c6
      exact rB_Md_told_41 S hr hlk hK _ _ _ _ _ E (lv_sub hl [0, 1, 2] rfl) hM
    · have hM := ifN hM c6
      refine lv_iconst (v := 1) S.1 S.2.1 d_Md_told_37 (by decide) ?_
      refine lv_goto (tgt := 42) S.1 S.2.1 d_Md_told_38 (by decide) ?_
      exact rB_Md_told_42 S hr hlk hK _ _ _ _ _ _ E (lv_sub hl [0, 1, 2] rfl) hM
set_option maxHeartbeats 4000000 in
set_option maxRecDepth 100000 in
theorem rC_Md_told {l : Launch} {D : va_G} {a : Nat → Nat} {cA : Nat → ClassId} {A : Nat → Prop} {g : Nat → Nat} {σ : St} {x1 : Int32} {x2 : Int32} {r : Int32} (hM : rM_Md_told σ x1 x2 = some r) : Met l y_Md_told (.code y_Md_told prog_10_method_29_code 4 (some .int) :: AW) rrm_Md_told (va_Pc [.ref (a 0), .int x1, .int x2] (rCP D a cA A g σ)) (rqi D a cA A g r σ) 0 0 A := by
  refine rmet (nL := 4) (by decide) (Nat.le_of_ble_eq_true rfl) (fun S hr hlk hK E ls hl => ?_)
  have hl : lv_has ls 4 [(0, .ref (a 0)), (1, .int x1), (2, .int x2)] := hl
  unfold rM_Md_told at hM
  refine lv_iload_n S.1 S.2.1 d_Md_told_0 rfl (lv_at hl 1 rfl) ?_
  refine lv_iconst (v := 0) S.1 S.2.1 d_Md_told_1 (by decide) ?_
  refine lv_aload_n S.1 S.2.1 d_Md_told_2 rfl (lv_at hl 0 rfl) ?_
  refine rgf_Md_131_0 S hK E d_Md_told_3 ?_
  refine lv_bipush (v := 100) S.1 S.2.1 d_Md_told_6 (by decide) ?_
  refine lv_icmp_ge (tgt := 18) S.1 S.2.1 d_Md_told_8 (by decide) (fun c1 => ?_) (fun c1 => ?_)
  · have hM := ifP hM c1
    refine lv_bipush (v := 100) S.1 S.2.1 d_Md_told_18 (by decide) ?_
    exact rB_Md_told_20 S hr hlk hK _ _ _ _ _ _ _ _ E (lv_sub hl [0, 1, 2] rfl) hM
  · have hM := ifN hM c1
    refine lv_aload_n S.1 S.2.1 d_Md_told_11 rfl (lv_at hl 0 rfl) ?_
    refine rgf_Md_131_0 S hK E d_Md_told_12 ?_
    refine lv_goto (tgt := 20) S.1 S.2.1 d_Md_told_15 (by decide) ?_
    exact rB_Md_told_20 S hr hlk hK _ _ _ _ _ _ _ _ E (lv_sub hl [0, 1, 2] rfl) hM
set_option maxHeartbeats 4000000 in
set_option maxRecDepth 100000 in
theorem rB_Md_listed_38 {p : Program} {l : Launch} {e : Env} {s : State} {m : MethodId} {args : Array Value} {below : List Frame} {meth : Method} {c : Code} {D : va_G} {a : Nat → Nat} {cA : Nat → ClassId} {A : Nat → Prop} {g : Nat → Nat} {σ : St} {r : Int32} (S : CallFix p m c prog_10_method_33_code 5 s args AW R_Md) (hr : meth.sig.returnType = (some .int)) (hlk : meth.locks = false) (hK : rKX D cA A g s s.heap) {k5 : Int32 → Int32 → Int32 → Int32 → Option (Int32)} (hk5 : ∀ (v1 : Int32) (v2 : Int32) (v3 : Int32) (v4 : Int32) (H : Heap) (locs : List Loc) (ls : Array Slot), rEx D a cA A σ s.heap H locs → lv_has ls 5 [(0, .ref (a 0)), (1, .int v1), (2, .int v2), (3, .int v3), (4, .int v4)] → k5 v1 v2 v3 v4 = some r → W p l e rrm_Md_listed s m args below meth c H locs 0 0 (MQ below (rqi D a cA A g r σ) args s 0 0 A) (F0 m 5 ls [])) : ∀ (v1 : Int32) (v2 : Int32) (v4 : Int32) (t0 : Int32) (t1 : Int32) (H : Heap) (locs : List Loc) (ls : Array Slot), rEx D a cA A σ s.heap H locs → lv_has ls 5 [(0, .ref (a 0)), (1, .int v1), (2, .int v2), (4, .int v4)] → rJ_Md_listed_38 k5 σ v1 v2 v4 t0 t1 = some r → W p l e rrm_Md_listed s m args below meth c H locs 0 0 (MQ below (rqi D a cA A g r σ) args s 0 0 A) (F0 m 38 ls [.int t1, .int t0]) := by
  intro v1 v2 v4 t0 t1 H locs ls E hl hM
  unfold rJ_Md_listed_38 at hM
  refine lv_iadd S.1 S.2.1 d_Md_listed_38 ?_
  refine lv_topi (fun y1 ey1 => ?_)
  have hM := lq_inv hM y1 ey1
  refine lv_istore_n (lv' := [(3, .int y1), (0, .ref (a 0)), (1, .int v1), (2, .int v2), (4, .int v4)]) S.1 S.2.1 d_Md_listed_39 rfl hl (by decide) rfl (fun ls hl => ?_)
  obtain ⟨y2, ey2⟩ : ∃ z : Int32, z = v4 + 1 := ⟨_, rfl⟩
  have hM := lq_inv hM y2 ey2
  refine lv_iinc (v := y2) (lv' := [(4, .int y2), (3, .int y1), (0, .ref (a 0)), (1, .int v1), (2, .int v2)]) S.1 S.2.1 d_Md_listed_40 hl (k := 4) rfl (by rw [ey2]; rfl) (by decide) rfl (fun ls hl => ?_)
  refine lv_goto (tgt := 5) S.1 S.2.1 d_Md_listed_43 (by decide) ?_
  exact hk5 _ _ _ _ _ _ _ E (lv_sub hl [2, 3, 4, 1, 0] rfl) hM
set_option maxHeartbeats 4000000 in
set_option maxRecDepth 100000 in
theorem rB_Md_listed_5 {p : Program} {l : Launch} {e : Env} {s : State} {m : MethodId} {args : Array Value} {below : List Frame} {meth : Method} {c : Code} {D : va_G} {a : Nat → Nat} {cA : Nat → ClassId} {A : Nat → Prop} {g : Nat → Nat} {σ : St} {r : Int32} (S : CallFix p m c prog_10_method_33_code 5 s args AW R_Md) (hr : meth.sig.returnType = (some .int)) (hlk : meth.locks = false) (hK : rKX D cA A g s s.heap) : ∀ (n : Nat) (v1 : Int32) (v2 : Int32) (v3 : Int32) (v4 : Int32) (H : Heap) (locs : List Loc) (ls : Array Slot), rEx D a cA A σ s.heap H locs → lv_has ls 5 [(0, .ref (a 0)), (1, .int v1), (2, .int v2), (3, .int v3), (4, .int v4)] → rL_Md_listed_5 σ n v1 v2 v3 v4 = some r → W p l e rrm_Md_listed s m args below meth c H locs 0 0 (MQ below (rqi D a cA A g r σ) args s 0 0 A) (F0 m 5 ls []) := by
  intro n
  induction n with
  | zero =>
    intro v1 v2 v3 v4 H locs ls E hl hM
    rw [rL_Md_listed_5] at hM
    cases hM
  | succ n ih =>
    intro v1 v2 v3 v4 H locs ls E hl hM
    rw [rL_Md_listed_5] at hM
    refine lv_iload S.1 S.2.1 d_Md_listed_5 (lv_at hl 4 rfl) ?_
    refine lv_aload_n S.1 S.2.1 d_Md_listed_7 rfl (lv_at hl 0 rfl) ?_
    refine rgf_Md_20_0 S hK E d_Md_listed_8 ?_
    refine lv_iload_n S.1 S.2.1 d_Md_listed_11 rfl (lv_at hl 1 rfl) ?_
    obtain ⟨h1, hM⟩ := gd_inv hM
    refine ral_4 S hK E h1 d_Md_listed_12 ?_
    refine lv_icmp_ge (tgt := 46) S.1 S.2.1 d_Md_listed_13 (by decide) (fun c2 => ?_) (fun c2 => ?_)
    · have hM := ifP hM c2
      refine lv_iload_n S.1 S.2.1 d_Md_listed_46 rfl (lv_at hl 3 rfl) ?_
      obtain rfl := Option.some.inj hM
      exact rreti S hr hlk hK E d_Md_listed_47
    · have hM := ifN hM c2
      refine lv_iload_n S.1 S.2.1 d_Md_listed_16 rfl (lv_at hl 3 rfl) ?_
      refine lv_aload_n S.1 S.2.1 d_Md_listed_17 rfl (lv_at hl 0 rfl) ?_
      refine rgf_Md_23_0 S hK E d_Md_listed_18 ?_
      refine lv_bipush (v := 40) S.1 S.2.1 d_Md_listed_21 (by decide) ?_
      refine lv_iload_n S.1 S.2.1 d_Md_listed_23 rfl (lv_at hl 1 rfl) ?_
      refine lv_imul S.1 S.2.1 d_Md_listed_24 ?_
      refine lv_iload S.1 S.2.1 d_Md_listed_25 (lv_at hl 4 rfl) ?_
      refine lv_iadd S.1 S.2.1 d_Md_listed_27 ?_
      obtain ⟨h3, hM⟩ := gd_inv hM
      refine ral_5 S hK E h3 d_Md_listed_28 ?_
      refine lv_iload_n S.1 S.2.1 d_Md_listed_29 rfl (lv_at hl 2 rfl) ?_
      refine lv_icmp_ne (tgt := 37) S.1 S.2.1 d_Md_listed_30 (by decide) (fun c4 => ?_) (fun c4 => ?_)
      · have hM := ifN hM c4
        refine lv_iconst (v := 0) S.1 S.2.1 d_Md_listed_37 (by decide) ?_
        exact rB_Md_listed_38 S hr hlk hK ih _ _ _ _ _ _ _ _ E (lv_sub hl [0, 1, 2, 4] rfl) hM
      · have hM := ifP hM c4
        refine lv_iconst (v := 1) S.1 S.2.1 d_Md_listed_33 (by decide) ?_
        refine lv_goto (tgt := 38) S.1 S.2.1 d_Md_listed_34 (by decide) ?_
        exact rB_Md_listed_38 S hr hlk hK ih _ _ _ _ _ _ _ _ E (lv_sub hl [0, 1, 2, 4] rfl) hM
set_option maxHeartbeats 4000000 in
set_option maxRecDepth 100000 in
theorem rC_Md_listed {l : Launch} {D : va_G} {a : Nat → Nat} {cA : Nat → ClassId} {A : Nat → Prop} {g : Nat → Nat} {σ : St} {x1 : Int32} {x2 : Int32} {r : Int32} (hM : rM_Md_listed σ x1 x2 = some r) : Met l y_Md_listed (.code y_Md_listed prog_10_method_33_code 5 (some .int) :: AW) rrm_Md_listed (va_Pc [.ref (a 0), .int x1, .int x2] (rCP D a cA A g σ)) (rqi D a cA A g r σ) 0 0 A := by
  refine rmet (nL := 5) (by decide) (Nat.le_of_ble_eq_true rfl) (fun S hr hlk hK E ls hl => ?_)
  have hl : lv_has ls 5 [(0, .ref (a 0)), (1, .int x1), (2, .int x2)] := hl
  unfold rM_Md_listed at hM
  refine lv_iconst (v := 0) S.1 S.2.1 d_Md_listed_0 (by decide) ?_
  refine lv_istore_n (lv' := [(3, .int 0), (0, .ref (a 0)), (1, .int x1), (2, .int x2)]) S.1 S.2.1 d_Md_listed_1 rfl hl (by decide) rfl (fun ls hl => ?_)
  refine lv_iconst (v := 0) S.1 S.2.1 d_Md_listed_2 (by decide) ?_
  refine lv_istore (lv' := [(4, .int 0), (3, .int 0), (0, .ref (a 0)), (1, .int x1), (2, .int x2)]) S.1 S.2.1 d_Md_listed_3 hl (by decide) rfl (fun ls hl => ?_)
  exact rB_Md_listed_5 S hr hlk hK _ _ _ _ _ _ _ _ E (lv_sub hl [2, 3, 4, 1, 0] rfl) hM
set_option maxHeartbeats 4000000 in
set_option maxRecDepth 100000 in
theorem rB_Md_ownAll_2 {p : Program} {l : Launch} {e : Env} {s : State} {m : MethodId} {args : Array Value} {below : List Frame} {meth : Method} {c : Code} {D : va_G} {a : Nat → Nat} {cA : Nat → ClassId} {A : Nat → Prop} {g : Nat → Nat} {σ2 : St} (S : CallFix p m c prog_10_method_30_code 3 s args AW R_Md) (hr : meth.sig.returnType = none) (hlk : meth.locks = false) (hK : rKX D cA A g s s.heap) : ∀ (n : Nat) (σ : St) (v1 : Int32) (v2 : Int32) (H : Heap) (locs : List Loc) (ls : Array Slot), rEx D a cA A σ s.heap H locs → lv_has ls 3 [(0, .ref (a 0)), (1, .int v1), (2, .int v2)] → rL_Md_ownAll_2 n σ v1 v2 = some σ2 → W p l e rrm_Md_ownAll s m args below meth c H locs 0 0 (MQ below (rqv D a cA A g σ2) args s 0 0 A) (F0 m 2 ls []) := by
  intro n
  induction n with
  | zero =>
    intro σ v1 v2 H locs ls E hl hM
    rw [rL_Md_ownAll_2] at hM
    cases hM
  | succ n ih =>
    intro σ v1 v2 H locs ls E hl hM
    rw [rL_Md_ownAll_2] at hM
    refine lv_iload_n S.1 S.2.1 d_Md_ownAll_2 rfl (lv_at hl 2 rfl) ?_
    refine lv_iconst (v := 4) S.1 S.2.1 d_Md_ownAll_3 (by decide) ?_
    refine lv_icmp_ge (tgt := 29) S.1 S.2.1 d_Md_ownAll_4 (by decide) (fun c1 => ?_) (fun c1 => ?_)
    · have hM := ifP hM c1
      obtain rfl := Option.some.inj hM
      exact rretv S hr hlk hK E d_Md_ownAll_29
    · have hM := ifN hM c1
      refine lv_aload_n S.1 S.2.1 d_Md_ownAll_7 rfl (lv_at hl 0 rfl) ?_
      refine rgf_Md_26_0 S hK E d_Md_ownAll_8 ?_
      refine lv_iconst (v := 4) S.1 S.2.1 d_Md_ownAll_11 (by decide) ?_
      refine lv_iload_n S.1 S.2.1 d_Md_ownAll_12 rfl (lv_at hl 1 rfl) ?_
      refine lv_imul S.1 S.2.1 d_Md_ownAll_13 ?_
      refine lv_iload_n S.1 S.2.1 d_Md_ownAll_14 rfl (lv_at hl 2 rfl) ?_
      refine lv_iadd S.1 S.2.1 d_Md_ownAll_15 ?_
      refine lv_aload_n S.1 S.2.1 d_Md_ownAll_16 rfl (lv_at hl 0 rfl) ?_
      refine lv_iload_n S.1 S.2.1 d_Md_ownAll_17 rfl (lv_at hl 1 rfl) ?_
      refine lv_iload_n S.1 S.2.1 d_Md_ownAll_18 rfl (lv_at hl 2 rfl) ?_
      obtain ⟨r3, h2, hM⟩ := br_inv hM
      refine rcr_5 (As := [.int v1, .int v2]) (rest := [.int ((4 * v1) + v2), .ref (a 6)]) S hK E (rC_Md_valueOf h2) ⟨Nat.le_of_ble_eq_true rfl, Nat.le_of_ble_eq_true rfl⟩ rfl rfl hl.1 (lv_room (Nat.le_of_ble_eq_true rfl)) d_Md_ownAll_19 (fun H locs E => ?_)
      obtain ⟨h4, hM⟩ := gd_inv hM
      refine ras_6 S hK E h4 d_Md_ownAll_22 (fun σ5 eσ5 H locs E => ?_)
      have hM := lq_inv hM σ5 eσ5
      obtain ⟨y6, ey6⟩ : ∃ z : Int32, z = v2 + 1 := ⟨_, rfl⟩
      have hM := lq_inv hM y6 ey6
      refine lv_iinc (v := y6) (lv' := [(2, .int y6), (0, .ref (a 0)), (1, .int v1)]) S.1 S.2.1 d_Md_ownAll_23 hl (k := 2) rfl (by rw [ey6]; rfl) (by decide) rfl (fun ls hl => ?_)
      refine lv_goto (tgt := 2) S.1 S.2.1 d_Md_ownAll_26 (by decide) ?_
      exact ih _ _ _ _ _ _ E (lv_sub hl [1, 2, 0] rfl) hM
set_option maxHeartbeats 4000000 in
set_option maxRecDepth 100000 in
theorem rC_Md_ownAll {l : Launch} {D : va_G} {a : Nat → Nat} {cA : Nat → ClassId} {A : Nat → Prop} {g : Nat → Nat} {σ σ2 : St} {x1 : Int32} (hM : rM_Md_ownAll σ x1 = some σ2) : Met l y_Md_ownAll (.code y_Md_ownAll prog_10_method_30_code 3 none :: AW) rrm_Md_ownAll (va_Pc [.ref (a 0), .int x1] (rCP D a cA A g σ)) (rqv D a cA A g σ2) 0 0 A := by
  refine rmet (nL := 3) (by decide) (Nat.le_of_ble_eq_true rfl) (fun S hr hlk hK E ls hl => ?_)
  have hl : lv_has ls 3 [(0, .ref (a 0)), (1, .int x1)] := hl
  unfold rM_Md_ownAll at hM
  refine lv_iconst (v := 0) S.1 S.2.1 d_Md_ownAll_0 (by decide) ?_
  refine lv_istore_n (lv' := [(2, .int 0), (0, .ref (a 0)), (1, .int x1)]) S.1 S.2.1 d_Md_ownAll_1 rfl hl (by decide) rfl (fun ls hl => ?_)
  exact rB_Md_ownAll_2 S hr hlk hK _ _ _ _ _ _ _ E (lv_sub hl [1, 2, 0] rfl) hM
set_option maxHeartbeats 4000000 in
set_option maxRecDepth 100000 in
theorem rB_Md_takeOffAll_52 {p : Program} {l : Launch} {e : Env} {s : State} {m : MethodId} {args : Array Value} {below : List Frame} {meth : Method} {c : Code} {D : va_G} {a : Nat → Nat} {cA : Nat → ClassId} {A : Nat → Prop} {g : Nat → Nat} {σ2 : St} (S : CallFix p m c prog_10_method_31_code 4 s args AW R_Md) (hr : meth.sig.returnType = none) (hlk : meth.locks = false) (hK : rKX D cA A g s s.heap) {k2 : St → Int32 → Int32 → Option (St)} (hk2 : ∀ (σ : St) (v1 : Int32) (v2 : Int32) (H : Heap) (locs : List Loc) (ls : Array Slot), rEx D a cA A σ s.heap H locs → lv_has ls 4 [(0, .ref (a 0)), (1, .int v1), (2, .int v2)] → k2 σ v1 v2 = some σ2 → W p l e rrm_Md_takeOffAll s m args below meth c H locs 0 0 (MQ below (rqv D a cA A g σ2) args s 0 0 A) (F0 m 2 ls [])) : ∀ (σ : St) (v1 : Int32) (v2 : Int32) (H : Heap) (locs : List Loc) (ls : Array Slot), rEx D a cA A σ s.heap H locs → lv_has ls 4 [(0, .ref (a 0)), (1, .int v1), (2, .int v2)] → rJ_Md_takeOffAll_52 k2 σ v1 v2 = some σ2 → W p l e rrm_Md_takeOffAll s m args below meth c H locs 0 0 (MQ below (rqv D a cA A g σ2) args s 0 0 A) (F0 m 52 ls []) := by
  intro σ v1 v2 H locs ls E hl hM
  unfold rJ_Md_takeOffAll_52 at hM
  obtain ⟨y1, ey1⟩ : ∃ z : Int32, z = v2 + 1 := ⟨_, rfl⟩
  have hM := lq_inv hM y1 ey1
  refine lv_iinc (v := y1) (lv' := [(2, .int y1), (0, .ref (a 0)), (1, .int v1)]) S.1 S.2.1 d_Md_takeOffAll_52 hl (k := 2) rfl (by rw [ey1]; rfl) (by decide) rfl (fun ls hl => ?_)
  refine lv_goto (tgt := 2) S.1 S.2.1 d_Md_takeOffAll_55 (by decide) ?_
  exact hk2 _ _ _ _ _ _ E (lv_sub hl [1, 2, 0] rfl) hM
set_option maxHeartbeats 4000000 in
set_option maxRecDepth 100000 in
theorem rB_Md_takeOffAll_12 {p : Program} {l : Launch} {e : Env} {s : State} {m : MethodId} {args : Array Value} {below : List Frame} {meth : Method} {c : Code} {D : va_G} {a : Nat → Nat} {cA : Nat → ClassId} {A : Nat → Prop} {g : Nat → Nat} {σ2 : St} (S : CallFix p m c prog_10_method_31_code 4 s args AW R_Md) (hr : meth.sig.returnType = none) (hlk : meth.locks = false) (hK : rKX D cA A g s s.heap) {k2 : St → Int32 → Int32 → Option (St)} (hk2 : ∀ (σ : St) (v1 : Int32) (v2 : Int32) (H : Heap) (locs : List Loc) (ls : Array Slot), rEx D a cA A σ s.heap H locs → lv_has ls 4 [(0, .ref (a 0)), (1, .int v1), (2, .int v2)] → k2 σ v1 v2 = some σ2 → W p l e rrm_Md_takeOffAll s m args below meth c H locs 0 0 (MQ below (rqv D a cA A g σ2) args s 0 0 A) (F0 m 2 ls [])) : ∀ (n : Nat) (σ : St) (v1 : Int32) (v2 : Int32) (v3 : Int32) (H : Heap) (locs : List Loc) (ls : Array Slot), rEx D a cA A σ s.heap H locs → lv_has ls 4 [(0, .ref (a 0)), (1, .int v1), (2, .int v2), (3, .int v3)] → rL_Md_takeOffAll_12 k2 n σ v1 v2 v3 = some σ2 → W p l e rrm_Md_takeOffAll s m args below meth c H locs 0 0 (MQ below (rqv D a cA A g σ2) args s 0 0 A) (F0 m 12 ls []) := by
  intro n
  induction n with
  | zero =>
    intro σ v1 v2 v3 H locs ls E hl hM
    rw [rL_Md_takeOffAll_12] at hM
    cases hM
  | succ n ih =>
    intro σ v1 v2 v3 H locs ls E hl hM
    rw [rL_Md_takeOffAll_12] at hM
    refine lv_iload_n S.1 S.2.1 d_Md_takeOffAll_12 rfl (lv_at hl 3 rfl) ?_
    refine lv_aload_n S.1 S.2.1 d_Md_takeOffAll_13 rfl (lv_at hl 0 rfl) ?_
    refine rgf_Md_20_0 S hK E d_Md_takeOffAll_14 ?_
    refine lv_iload_n S.1 S.2.1 d_Md_takeOffAll_17 rfl (lv_at hl 2 rfl) ?_
    obtain ⟨h1, hM⟩ := gd_inv hM
    refine ral_4 S hK E h1 d_Md_takeOffAll_18 ?_
    refine lv_icmp_ge (tgt := 52) S.1 S.2.1 d_Md_takeOffAll_19 (by decide) (fun c2 => ?_) (fun c2 => ?_)
    · have hM := ifP hM c2
      exact rB_Md_takeOffAll_52 S hr hlk hK hk2 _ _ _ _ _ _ E (lv_sub hl [0, 1, 2] rfl) hM
    · have hM := ifN hM c2
      refine lv_aload_n S.1 S.2.1 d_Md_takeOffAll_22 rfl (lv_at hl 0 rfl) ?_
      refine rgf_Md_23_0 S hK E d_Md_takeOffAll_23 ?_
      refine lv_bipush (v := 40) S.1 S.2.1 d_Md_takeOffAll_26 (by decide) ?_
      refine lv_iload_n S.1 S.2.1 d_Md_takeOffAll_28 rfl (lv_at hl 2 rfl) ?_
      refine lv_imul S.1 S.2.1 d_Md_takeOffAll_29 ?_
      refine lv_iload_n S.1 S.2.1 d_Md_takeOffAll_30 rfl (lv_at hl 3 rfl) ?_
      refine lv_iadd S.1 S.2.1 d_Md_takeOffAll_31 ?_
      obtain ⟨h3, hM⟩ := gd_inv hM
      refine ral_5 S hK E h3 d_Md_takeOffAll_32 ?_
      refine lv_iload_n S.1 S.2.1 d_Md_takeOffAll_33 rfl (lv_at hl 1 rfl) ?_
      refine lv_icmp_ne (tgt := 46) S.1 S.2.1 d_Md_takeOffAll_34 (by decide) (fun c4 => ?_) (fun c4 => ?_)
      · have hM := ifN hM c4
        obtain ⟨y5, ey5⟩ : ∃ z : Int32, z = v3 + 1 := ⟨_, rfl⟩
        have hM := lq_inv hM y5 ey5
        refine lv_iinc (v := y5) (lv' := [(3, .int y5), (0, .ref (a 0)), (1, .int v1), (2, .int v2)]) S.1 S.2.1 d_Md_takeOffAll_46 hl (k := 3) rfl (by rw [ey5]; rfl) (by decide) rfl (fun ls hl => ?_)
        refine lv_goto (tgt := 12) S.1 S.2.1 d_Md_takeOffAll_49 (by decide) ?_
        exact ih _ _ _ _ _ _ _ E (lv_sub hl [1, 2, 3, 0] rfl) hM
      · have hM := ifP hM c4
        refine lv_aload_n S.1 S.2.1 d_Md_takeOffAll_37 rfl (lv_at hl 0 rfl) ?_
        refine lv_iload_n S.1 S.2.1 d_Md_takeOffAll_38 rfl (lv_at hl 2 rfl) ?_
        refine lv_iload_n S.1 S.2.1 d_Md_takeOffAll_39 rfl (lv_at hl 3 rfl) ?_
        obtain ⟨σ7, h6, hM⟩ := bv_inv hM
        refine rcr_13 (As := [.int v2, .int v3]) (rest := []) S hK E (rC_Md_takeOff h6) ⟨Nat.le_of_ble_eq_true rfl, Nat.le_of_ble_eq_true rfl⟩ rfl rfl hl.1 (lv_room (Nat.le_of_ble_eq_true rfl)) d_Md_takeOffAll_40 (fun H locs E => ?_)
        refine lv_goto (tgt := 12) S.1 S.2.1 d_Md_takeOffAll_43 (by decide) ?_
        exact ih _ _ _ _ _ _ _ E (lv_sub hl [0, 1, 2, 3] rfl) hM
set_option maxHeartbeats 4000000 in
set_option maxRecDepth 100000 in
theorem rB_Md_takeOffAll_2 {p : Program} {l : Launch} {e : Env} {s : State} {m : MethodId} {args : Array Value} {below : List Frame} {meth : Method} {c : Code} {D : va_G} {a : Nat → Nat} {cA : Nat → ClassId} {A : Nat → Prop} {g : Nat → Nat} {σ2 : St} (S : CallFix p m c prog_10_method_31_code 4 s args AW R_Md) (hr : meth.sig.returnType = none) (hlk : meth.locks = false) (hK : rKX D cA A g s s.heap) : ∀ (n : Nat) (σ : St) (v1 : Int32) (v2 : Int32) (H : Heap) (locs : List Loc) (ls : Array Slot), rEx D a cA A σ s.heap H locs → lv_has ls 4 [(0, .ref (a 0)), (1, .int v1), (2, .int v2)] → rL_Md_takeOffAll_2 n σ v1 v2 = some σ2 → W p l e rrm_Md_takeOffAll s m args below meth c H locs 0 0 (MQ below (rqv D a cA A g σ2) args s 0 0 A) (F0 m 2 ls []) := by
  intro n
  induction n with
  | zero =>
    intro σ v1 v2 H locs ls E hl hM
    rw [rL_Md_takeOffAll_2] at hM
    cases hM
  | succ n ih =>
    intro σ v1 v2 H locs ls E hl hM
    rw [rL_Md_takeOffAll_2] at hM
    refine lv_iload_n S.1 S.2.1 d_Md_takeOffAll_2 rfl (lv_at hl 2 rfl) ?_
    refine lv_aload_n S.1 S.2.1 d_Md_takeOffAll_3 rfl (lv_at hl 0 rfl) ?_
    refine rgf_Md_77_0 S hK E d_Md_takeOffAll_4 ?_
    refine lv_icmp_ge (tgt := 58) S.1 S.2.1 d_Md_takeOffAll_7 (by decide) (fun c1 => ?_) (fun c1 => ?_)
    · have hM := ifP hM c1
      obtain rfl := Option.some.inj hM
      exact rretv S hr hlk hK E d_Md_takeOffAll_58
    · have hM := ifN hM c1
      refine lv_iconst (v := 0) S.1 S.2.1 d_Md_takeOffAll_10 (by decide) ?_
      refine lv_istore_n (lv' := [(3, .int 0), (0, .ref (a 0)), (1, .int v1), (2, .int v2)]) S.1 S.2.1 d_Md_takeOffAll_11 rfl hl (by decide) rfl (fun ls hl => ?_)
      exact rB_Md_takeOffAll_12 S hr hlk hK ih _ _ _ _ _ _ _ _ E (lv_sub hl [1, 2, 3, 0] rfl) hM
set_option maxHeartbeats 4000000 in
set_option maxRecDepth 100000 in
theorem rC_Md_takeOffAll {l : Launch} {D : va_G} {a : Nat → Nat} {cA : Nat → ClassId} {A : Nat → Prop} {g : Nat → Nat} {σ σ2 : St} {x1 : Int32} (hM : rM_Md_takeOffAll σ x1 = some σ2) : Met l y_Md_takeOffAll (.code y_Md_takeOffAll prog_10_method_31_code 4 none :: AW) rrm_Md_takeOffAll (va_Pc [.ref (a 0), .int x1] (rCP D a cA A g σ)) (rqv D a cA A g σ2) 0 0 A := by
  refine rmet (nL := 4) (by decide) (Nat.le_of_ble_eq_true rfl) (fun S hr hlk hK E ls hl => ?_)
  have hl : lv_has ls 4 [(0, .ref (a 0)), (1, .int x1)] := hl
  unfold rM_Md_takeOffAll at hM
  refine lv_iconst (v := 0) S.1 S.2.1 d_Md_takeOffAll_0 (by decide) ?_
  refine lv_istore_n (lv' := [(2, .int 0), (0, .ref (a 0)), (1, .int x1)]) S.1 S.2.1 d_Md_takeOffAll_1 rfl hl (by decide) rfl (fun ls hl => ?_)
  exact rB_Md_takeOffAll_2 S hr hlk hK _ _ _ _ _ _ _ E (lv_sub hl [1, 2, 0] rfl) hM
set_option maxHeartbeats 4000000 in
set_option maxRecDepth 100000 in
theorem rB_Md_putAt_46 {p : Program} {l : Launch} {e : Env} {s : State} {m : MethodId} {args : Array Value} {below : List Frame} {meth : Method} {c : Code} {D : va_G} {a : Nat → Nat} {cA : Nat → ClassId} {A : Nat → Prop} {g : Nat → Nat} {σ2 : St} (S : CallFix p m c prog_10_method_32_code 5 s args AW R_Md) (hr : meth.sig.returnType = none) (hlk : meth.locks = false) (hK : rKX D cA A g s s.heap) : ∀ (σ : St) (v1 : Int32) (v2 : Int32) (v3 : Int32) (H : Heap) (locs : List Loc) (ls : Array Slot), rEx D a cA A σ s.heap H locs → lv_has ls 5 [(0, .ref (a 0)), (1, .int v1), (2, .int v2), (3, .int v3)] → rJ_Md_putAt_46 σ v1 v2 v3 = some σ2 → W p l e rrm_Md_putAt s m args below meth c H locs 0 0 (MQ below (rqv D a cA A g σ2) args s 0 0 A) (F0 m 46 ls []) := by
  intro σ v1 v2 v3 H locs ls E hl hM
  unfold rJ_Md_putAt_46 at hM
  refine lv_aload_n S.1 S.2.1 d_Md_putAt_46 rfl (lv_at hl 0 rfl) ?_
  refine rgf_Md_23_0 S hK E d_Md_putAt_47 ?_
  refine lv_bipush (v := 40) S.1 S.2.1 d_Md_putAt_50 (by decide) ?_
  refine lv_iload_n S.1 S.2.1 d_Md_putAt_52 rfl (lv_at hl 1 rfl) ?_
  refine lv_imul S.1 S.2.1 d_Md_putAt_53 ?_
  refine lv_iload_n S.1 S.2.1 d_Md_putAt_54 rfl (lv_at hl 2 rfl) ?_
  refine lv_iadd S.1 S.2.1 d_Md_putAt_55 ?_
  refine lv_iload_n S.1 S.2.1 d_Md_putAt_56 rfl (lv_at hl 3 rfl) ?_
  obtain ⟨h1, hM⟩ := gd_inv hM
  refine ras_5 S hK E h1 d_Md_putAt_57 (fun σ2 eσ2 H locs E => ?_)
  have hM := lq_inv hM σ2 eσ2
  refine lv_aload_n S.1 S.2.1 d_Md_putAt_58 rfl (lv_at hl 0 rfl) ?_
  refine rgf_Md_20_0 S hK E d_Md_putAt_59 ?_
  refine lv_iload_n S.1 S.2.1 d_Md_putAt_62 rfl (lv_at hl 1 rfl) ?_
  refine lv_dup2_11 S.1 S.2.1 d_Md_putAt_63 rfl rfl ?_
  obtain ⟨h3, hM⟩ := gd_inv hM
  refine ral_4 S hK E h3 d_Md_putAt_64 ?_
  refine lv_iconst (v := 1) S.1 S.2.1 d_Md_putAt_65 (by decide) ?_
  refine lv_iadd S.1 S.2.1 d_Md_putAt_66 ?_
  obtain ⟨h4, hM⟩ := gd_inv hM
  refine ras_4 S hK E h4 d_Md_putAt_67 (fun σ5 eσ5 H locs E => ?_)
  have hM := lq_inv hM σ5 eσ5
  refine lv_aload_n S.1 S.2.1 d_Md_putAt_68 rfl (lv_at hl 0 rfl) ?_
  refine rgf_Md_13_0 S hK E d_Md_putAt_69 ?_
  refine lv_iload_n S.1 S.2.1 d_Md_putAt_72 rfl (lv_at hl 3 rfl) ?_
  refine lv_iload_n S.1 S.2.1 d_Md_putAt_73 rfl (lv_at hl 1 rfl) ?_
  obtain ⟨h6, hM⟩ := gd_inv hM
  refine ras_2 S hK E h6 d_Md_putAt_74 (fun σ7 eσ7 H locs E => ?_)
  have hM := lq_inv hM σ7 eσ7
  obtain rfl := Option.some.inj hM
  exact rretv S hr hlk hK E d_Md_putAt_75
set_option maxHeartbeats 4000000 in
set_option maxRecDepth 100000 in
theorem rB_Md_putAt_8 {p : Program} {l : Launch} {e : Env} {s : State} {m : MethodId} {args : Array Value} {below : List Frame} {meth : Method} {c : Code} {D : va_G} {a : Nat → Nat} {cA : Nat → ClassId} {A : Nat → Prop} {g : Nat → Nat} {σ2 : St} (S : CallFix p m c prog_10_method_32_code 5 s args AW R_Md) (hr : meth.sig.returnType = none) (hlk : meth.locks = false) (hK : rKX D cA A g s s.heap) : ∀ (n : Nat) (σ : St) (v1 : Int32) (v2 : Int32) (v3 : Int32) (v4 : Int32) (H : Heap) (locs : List Loc) (ls : Array Slot), rEx D a cA A σ s.heap H locs → lv_has ls 5 [(0, .ref (a 0)), (1, .int v1), (2, .int v2), (3, .int v3), (4, .int v4)] → rL_Md_putAt_8 n σ v1 v2 v3 v4 = some σ2 → W p l e rrm_Md_putAt s m args below meth c H locs 0 0 (MQ below (rqv D a cA A g σ2) args s 0 0 A) (F0 m 8 ls []) := by
  intro n
  induction n with
  | zero =>
    intro σ v1 v2 v3 v4 H locs ls E hl hM
    rw [rL_Md_putAt_8] at hM
    cases hM
  | succ n ih =>
    intro σ v1 v2 v3 v4 H locs ls E hl hM
    rw [rL_Md_putAt_8] at hM
    refine lv_iload S.1 S.2.1 d_Md_putAt_8 (lv_at hl 4 rfl) ?_
    refine lv_iload_n S.1 S.2.1 d_Md_putAt_10 rfl (lv_at hl 2 rfl) ?_
    refine lv_icmp_le (tgt := 46) S.1 S.2.1 d_Md_putAt_11 (by decide) (fun c1 => ?_) (fun c1 => ?_)
    · have hM := ifP hM c1
      exact rB_Md_putAt_46 S hr hlk hK _ _ _ _ _ _ _ E (lv_sub hl [0, 1, 2, 3] rfl) hM
    · have hM := ifN hM c1
      refine lv_aload_n S.1 S.2.1 d_Md_putAt_14 rfl (lv_at hl 0 rfl) ?_
      refine rgf_Md_23_0 S hK E d_Md_putAt_15 ?_
      refine lv_bipush (v := 40) S.1 S.2.1 d_Md_putAt_18 (by decide) ?_
      refine lv_iload_n S.1 S.2.1 d_Md_putAt_20 rfl (lv_at hl 1 rfl) ?_
      refine lv_imul S.1 S.2.1 d_Md_putAt_21 ?_
      refine lv_iload S.1 S.2.1 d_Md_putAt_22 (lv_at hl 4 rfl) ?_
      refine lv_iadd S.1 S.2.1 d_Md_putAt_24 ?_
      refine lv_aload_n S.1 S.2.1 d_Md_putAt_25 rfl (lv_at hl 0 rfl) ?_
      refine rgf_Md_23_0 S hK E d_Md_putAt_26 ?_
      refine lv_bipush (v := 40) S.1 S.2.1 d_Md_putAt_29 (by decide) ?_
      refine lv_iload_n S.1 S.2.1 d_Md_putAt_31 rfl (lv_at hl 1 rfl) ?_
      refine lv_imul S.1 S.2.1 d_Md_putAt_32 ?_
      refine lv_iload S.1 S.2.1 d_Md_putAt_33 (lv_at hl 4 rfl) ?_
      refine lv_iadd S.1 S.2.1 d_Md_putAt_35 ?_
      refine lv_iconst (v := 1) S.1 S.2.1 d_Md_putAt_36 (by decide) ?_
      refine lv_isub S.1 S.2.1 d_Md_putAt_37 ?_
      obtain ⟨h2, hM⟩ := gd_inv hM
      refine ral_5 S hK E h2 d_Md_putAt_38 ?_
      obtain ⟨h3, hM⟩ := gd_inv hM
      refine ras_5 S hK E h3 d_Md_putAt_39 (fun σ4 eσ4 H locs E => ?_)
      have hM := lq_inv hM σ4 eσ4
      obtain ⟨y5, ey5⟩ : ∃ z : Int32, z = v4 + (-1) := ⟨_, rfl⟩
      have hM := lq_inv hM y5 ey5
      refine lv_iinc (v := y5) (lv' := [(4, .int y5), (0, .ref (a 0)), (1, .int v1), (2, .int v2), (3, .int v3)]) S.1 S.2.1 d_Md_putAt_40 hl (k := 4) rfl (by rw [ey5]; rfl) (by decide) rfl (fun ls hl => ?_)
      refine lv_goto (tgt := 8) S.1 S.2.1 d_Md_putAt_43 (by decide) ?_
      exact ih _ _ _ _ _ _ _ _ E (lv_sub hl [1, 2, 3, 4, 0] rfl) hM
set_option maxHeartbeats 4000000 in
set_option maxRecDepth 100000 in
theorem rC_Md_putAt {l : Launch} {D : va_G} {a : Nat → Nat} {cA : Nat → ClassId} {A : Nat → Prop} {g : Nat → Nat} {σ σ2 : St} {x1 : Int32} {x2 : Int32} {x3 : Int32} (hM : rM_Md_putAt σ x1 x2 x3 = some σ2) : Met l y_Md_putAt (.code y_Md_putAt prog_10_method_32_code 5 none :: AW) rrm_Md_putAt (va_Pc [.ref (a 0), .int x1, .int x2, .int x3] (rCP D a cA A g σ)) (rqv D a cA A g σ2) 0 0 A := by
  refine rmet (nL := 5) (by decide) (Nat.le_of_ble_eq_true rfl) (fun S hr hlk hK E ls hl => ?_)
  have hl : lv_has ls 5 [(0, .ref (a 0)), (1, .int x1), (2, .int x2), (3, .int x3)] := hl
  unfold rM_Md_putAt at hM
  refine lv_aload_n S.1 S.2.1 d_Md_putAt_0 rfl (lv_at hl 0 rfl) ?_
  refine rgf_Md_20_0 S hK E d_Md_putAt_1 ?_
  refine lv_iload_n S.1 S.2.1 d_Md_putAt_4 rfl (lv_at hl 1 rfl) ?_
  obtain ⟨h1, hM⟩ := gd_inv hM
  refine ral_4 S hK E h1 d_Md_putAt_5 ?_
  refine lv_topi (fun y2 ey2 => ?_)
  have hM := lq_inv hM y2 ey2
  refine lv_istore (lv' := [(4, .int y2), (0, .ref (a 0)), (1, .int x1), (2, .int x2), (3, .int x3)]) S.1 S.2.1 d_Md_putAt_6 hl (by decide) rfl (fun ls hl => ?_)
  exact rB_Md_putAt_8 S hr hlk hK _ _ _ _ _ _ _ _ _ E (lv_sub hl [1, 2, 3, 4, 0] rfl) hM
