set_option maxHeartbeats 4000000 in
set_option maxRecDepth 100000 in
theorem rB_Md_balance_189 {p : Program} {l : Launch} {e : Env} {s : State} {m : MethodId} {args : Array Value} {below : List Frame} {meth : Method} {c : Code} {D : va_G} {a : Nat → Nat} {cA : Nat → ClassId} {A : Nat → Prop} {g : Nat → Nat} {σ2 : St} {r : Int32} (S : CallFix p m c prog_10_method_49_code 4 s args AW R_Md) (hr : meth.sig.returnType = (some .int)) (hlk : meth.locks = false) (hK : rKX D cA A g s s.heap) {k113 : St → Int32 → Option (Int32 × St)} (hk113 : ∀ (σ : St) (v1 : Int32) (H : Heap) (locs : List Loc) (ls : Array Slot), rEx D a cA A σ s.heap H locs → lv_has ls 4 [(0, .ref (a 0)), (1, .int v1)] → k113 σ v1 = some (r, σ2) → W p l e rrm_Md_balance s m args below meth c H locs 0 0 (MQ below (rqi D a cA A g r σ2) args s 0 0 A) (F0 m 113 ls [])) {k125 : St → Int32 → Int32 → Int32 → Option (Int32 × St)} (hk125 : ∀ (σ : St) (v1 : Int32) (v2 : Int32) (v3 : Int32) (H : Heap) (locs : List Loc) (ls : Array Slot), rEx D a cA A σ s.heap H locs → lv_has ls 4 [(0, .ref (a 0)), (1, .int v1), (2, .int v2), (3, .int v3)] → k125 σ v1 v2 v3 = some (r, σ2) → W p l e rrm_Md_balance s m args below meth c H locs 0 0 (MQ below (rqi D a cA A g r σ2) args s 0 0 A) (F0 m 125 ls [])) : ∀ (σ : St) (v1 : Int32) (v3 : Int32) (t0 : Int32) (H : Heap) (locs : List Loc) (ls : Array Slot), rEx D a cA A σ s.heap H locs → lv_has ls 4 [(0, .ref (a 0)), (1, .int v1), (3, .int v3)] → rJ_Md_balance_189 k113 k125 σ v1 v3 t0 = some (r, σ2) → W p l e rrm_Md_balance s m args below meth c H locs 0 0 (MQ below (rqi D a cA A g r σ2) args s 0 0 A) (F0 m 189 ls [.int t0]) := by
  intro σ v1 v3 t0 H locs ls E hl hM
  unfold rJ_Md_balance_189 at hM
  refine lv_istore_n (lv' := [(2, .int t0), (0, .ref (a 0)), (1, .int v1), (3, .int v3)]) S.1 S.2.1 d_Md_balance_189 rfl hl (by decide) rfl (fun ls hl => ?_)
  obtain ⟨y1, ey1⟩ : ∃ z : Int32, z = v3 + 1 := ⟨_, rfl⟩
  have hM := lq_inv hM y1 ey1
  refine lv_iinc (v := y1) (lv' := [(3, .int y1), (2, .int t0), (0, .ref (a 0)), (1, .int v1)]) S.1 S.2.1 d_Md_balance_190 hl (k := 3) rfl (by rw [ey1]; rfl) (by decide) rfl (fun ls hl => ?_)
  refine lv_goto (tgt := 125) S.1 S.2.1 d_Md_balance_193 (by decide) ?_
  exact hk125 _ _ _ _ _ _ _ E (lv_sub hl [2, 3, 1, 0] rfl) hM
set_option maxHeartbeats 4000000 in
set_option maxRecDepth 100000 in
theorem rB_Md_balance_147 {p : Program} {l : Launch} {e : Env} {s : State} {m : MethodId} {args : Array Value} {below : List Frame} {meth : Method} {c : Code} {D : va_G} {a : Nat → Nat} {cA : Nat → ClassId} {A : Nat → Prop} {g : Nat → Nat} {σ2 : St} {r : Int32} (S : CallFix p m c prog_10_method_49_code 4 s args AW R_Md) (hr : meth.sig.returnType = (some .int)) (hlk : meth.locks = false) (hK : rKX D cA A g s s.heap) {k113 : St → Int32 → Option (Int32 × St)} (hk113 : ∀ (σ : St) (v1 : Int32) (H : Heap) (locs : List Loc) (ls : Array Slot), rEx D a cA A σ s.heap H locs → lv_has ls 4 [(0, .ref (a 0)), (1, .int v1)] → k113 σ v1 = some (r, σ2) → W p l e rrm_Md_balance s m args below meth c H locs 0 0 (MQ below (rqi D a cA A g r σ2) args s 0 0 A) (F0 m 113 ls [])) {k125 : St → Int32 → Int32 → Int32 → Option (Int32 × St)} (hk125 : ∀ (σ : St) (v1 : Int32) (v2 : Int32) (v3 : Int32) (H : Heap) (locs : List Loc) (ls : Array Slot), rEx D a cA A σ s.heap H locs → lv_has ls 4 [(0, .ref (a 0)), (1, .int v1), (2, .int v2), (3, .int v3)] → k125 σ v1 v2 v3 = some (r, σ2) → W p l e rrm_Md_balance s m args below meth c H locs 0 0 (MQ below (rqi D a cA A g r σ2) args s 0 0 A) (F0 m 125 ls [])) : ∀ (σ : St) (v1 : Int32) (v2 : Int32) (v3 : Int32) (H : Heap) (locs : List Loc) (ls : Array Slot), rEx D a cA A σ s.heap H locs → lv_has ls 4 [(0, .ref (a 0)), (1, .int v1), (2, .int v2), (3, .int v3)] → rJ_Md_balance_147 k113 k125 σ v1 v2 v3 = some (r, σ2) → W p l e rrm_Md_balance s m args below meth c H locs 0 0 (MQ below (rqi D a cA A g r σ2) args s 0 0 A) (F0 m 147 ls []) := by
  intro σ v1 v2 v3 H locs ls E hl hM
  unfold rJ_Md_balance_147 at hM
  refine lv_aload_n S.1 S.2.1 d_Md_balance_147 rfl (lv_at hl 0 rfl) ?_
  refine lv_aload_n S.1 S.2.1 d_Md_balance_148 rfl (lv_at hl 0 rfl) ?_
  refine rgf_Md_77_0 S hK E d_Md_balance_149 ?_
  refine lv_iconst (v := 1) S.1 S.2.1 d_Md_balance_152 (by decide) ?_
  refine lv_isub S.1 S.2.1 d_Md_balance_153 ?_
  refine lv_aload_n S.1 S.2.1 d_Md_balance_154 rfl (lv_at hl 0 rfl) ?_
  refine rgf_Md_74_0 S hK E d_Md_balance_155 ?_
  refine lv_iload_n S.1 S.2.1 d_Md_balance_158 rfl (lv_at hl 3 rfl) ?_
  obtain ⟨h1, hM⟩ := gd_inv hM
  refine ral_22 S hK E h1 d_Md_balance_159 ?_
  obtain ⟨σ3, h2, hM⟩ := bv_inv hM
  refine rcr_26 (As := [.int ((σ 22 0) - 1), .int (σ 21 v3.toNatClampNeg)]) (rest := []) S hK E (rC_Md_hang h2) ⟨Nat.le_of_ble_eq_true rfl, Nat.le_of_ble_eq_true rfl⟩ rfl rfl hl.1 (lv_room (Nat.le_of_ble_eq_true rfl)) d_Md_balance_160 (fun H locs E => ?_)
  refine lv_aload_n S.1 S.2.1 d_Md_balance_163 rfl (lv_at hl 0 rfl) ?_
  refine rgf_Md_74_0 S hK E d_Md_balance_164 ?_
  refine lv_iload_n S.1 S.2.1 d_Md_balance_167 rfl (lv_at hl 2 rfl) ?_
  refine lv_aload_n S.1 S.2.1 d_Md_balance_168 rfl (lv_at hl 0 rfl) ?_
  refine rgf_Md_77_0 S hK E d_Md_balance_169 ?_
  refine lv_iconst (v := 1) S.1 S.2.1 d_Md_balance_172 (by decide) ?_
  refine lv_isub S.1 S.2.1 d_Md_balance_173 ?_
  obtain ⟨h4, hM⟩ := gd_inv hM
  refine ras_22 S hK E h4 d_Md_balance_174 (fun σ5 eσ5 H locs E => ?_)
  have hM := lq_inv hM σ5 eσ5
  refine lv_iload_n S.1 S.2.1 d_Md_balance_175 rfl (lv_at hl 3 rfl) ?_
  refine lv_iconst (v := 4) S.1 S.2.1 d_Md_balance_176 (by decide) ?_
  refine lv_irem S.1 S.2.1 d_Md_balance_177 (by decide) ?_
  refine lv_iconst (v := 3) S.1 S.2.1 d_Md_balance_178 (by decide) ?_
  refine lv_icmp_ne (tgt := 188) S.1 S.2.1 d_Md_balance_179 (by decide) (fun c6 => ?_) (fun c6 => ?_)
  · have hM := ifN hM c6
    refine lv_iload_n S.1 S.2.1 d_Md_balance_188 rfl (lv_at hl 2 rfl) ?_
    exact rB_Md_balance_189 S hr hlk hK hk113 hk125 _ _ _ _ _ _ _ E (lv_sub hl [0, 1, 3] rfl) hM
  · have hM := ifP hM c6
    refine lv_iload_n S.1 S.2.1 d_Md_balance_182 rfl (lv_at hl 2 rfl) ?_
    refine lv_iconst (v := 1) S.1 S.2.1 d_Md_balance_183 (by decide) ?_
    refine lv_iadd S.1 S.2.1 d_Md_balance_184 ?_
    refine lv_goto (tgt := 189) S.1 S.2.1 d_Md_balance_185 (by decide) ?_
    exact rB_Md_balance_189 S hr hlk hK hk113 hk125 _ _ _ _ _ _ _ E (lv_sub hl [0, 1, 3] rfl) hM
set_option maxHeartbeats 4000000 in
set_option maxRecDepth 100000 in
theorem rB_Md_balance_196 {p : Program} {l : Launch} {e : Env} {s : State} {m : MethodId} {args : Array Value} {below : List Frame} {meth : Method} {c : Code} {D : va_G} {a : Nat → Nat} {cA : Nat → ClassId} {A : Nat → Prop} {g : Nat → Nat} {σ2 : St} {r : Int32} (S : CallFix p m c prog_10_method_49_code 4 s args AW R_Md) (hr : meth.sig.returnType = (some .int)) (hlk : meth.locks = false) (hK : rKX D cA A g s s.heap) {k113 : St → Int32 → Option (Int32 × St)} (hk113 : ∀ (σ : St) (v1 : Int32) (H : Heap) (locs : List Loc) (ls : Array Slot), rEx D a cA A σ s.heap H locs → lv_has ls 4 [(0, .ref (a 0)), (1, .int v1)] → k113 σ v1 = some (r, σ2) → W p l e rrm_Md_balance s m args below meth c H locs 0 0 (MQ below (rqi D a cA A g r σ2) args s 0 0 A) (F0 m 113 ls [])) : ∀ (σ : St) (v1 : Int32) (H : Heap) (locs : List Loc) (ls : Array Slot), rEx D a cA A σ s.heap H locs → lv_has ls 4 [(0, .ref (a 0)), (1, .int v1)] → rJ_Md_balance_196 k113 σ v1 = some (r, σ2) → W p l e rrm_Md_balance s m args below meth c H locs 0 0 (MQ below (rqi D a cA A g r σ2) args s 0 0 A) (F0 m 196 ls []) := by
  intro σ v1 H locs ls E hl hM
  unfold rJ_Md_balance_196 at hM
  refine lv_aload_n S.1 S.2.1 d_Md_balance_196 rfl (lv_at hl 0 rfl) ?_
  refine lv_aload_n S.1 S.2.1 d_Md_balance_197 rfl (lv_at hl 0 rfl) ?_
  refine rgf_Md_191_0 S hK E d_Md_balance_198 ?_
  refine lv_iconst (v := 3) S.1 S.2.1 d_Md_balance_201 (by decide) ?_
  refine lv_iadd S.1 S.2.1 d_Md_balance_202 ?_
  refine lv_iconst (v := 4) S.1 S.2.1 d_Md_balance_203 (by decide) ?_
  refine lv_idiv S.1 S.2.1 d_Md_balance_204 (by decide) ?_
  refine rpf_Md_191_0 S hK E d_Md_balance_205 (fun σ1 eσ1 H locs E => ?_)
  have hM := lq_inv hM σ1 eσ1
  refine lv_goto (tgt := 113) S.1 S.2.1 d_Md_balance_208 (by decide) ?_
  exact hk113 _ _ _ _ _ E (lv_sub hl [0, 1] rfl) hM
set_option maxHeartbeats 4000000 in
set_option maxRecDepth 100000 in
theorem rB_Md_balance_125 {p : Program} {l : Launch} {e : Env} {s : State} {m : MethodId} {args : Array Value} {below : List Frame} {meth : Method} {c : Code} {D : va_G} {a : Nat → Nat} {cA : Nat → ClassId} {A : Nat → Prop} {g : Nat → Nat} {σ2 : St} {r : Int32} (S : CallFix p m c prog_10_method_49_code 4 s args AW R_Md) (hr : meth.sig.returnType = (some .int)) (hlk : meth.locks = false) (hK : rKX D cA A g s s.heap) {k113 : St → Int32 → Option (Int32 × St)} (hk113 : ∀ (σ : St) (v1 : Int32) (H : Heap) (locs : List Loc) (ls : Array Slot), rEx D a cA A σ s.heap H locs → lv_has ls 4 [(0, .ref (a 0)), (1, .int v1)] → k113 σ v1 = some (r, σ2) → W p l e rrm_Md_balance s m args below meth c H locs 0 0 (MQ below (rqi D a cA A g r σ2) args s 0 0 A) (F0 m 113 ls [])) : ∀ (n : Nat) (σ : St) (v1 : Int32) (v2 : Int32) (v3 : Int32) (H : Heap) (locs : List Loc) (ls : Array Slot), rEx D a cA A σ s.heap H locs → lv_has ls 4 [(0, .ref (a 0)), (1, .int v1), (2, .int v2), (3, .int v3)] → rL_Md_balance_125 k113 n σ v1 v2 v3 = some (r, σ2) → W p l e rrm_Md_balance s m args below meth c H locs 0 0 (MQ below (rqi D a cA A g r σ2) args s 0 0 A) (F0 m 125 ls []) := by
  intro n
  induction n with
  | zero =>
    intro σ v1 v2 v3 H locs ls E hl hM
    rw [rL_Md_balance_125] at hM
    cases hM
  | succ n ih =>
    intro σ v1 v2 v3 H locs ls E hl hM
    rw [rL_Md_balance_125] at hM
    refine lv_iload_n S.1 S.2.1 d_Md_balance_125 rfl (lv_at hl 3 rfl) ?_
    refine lv_aload_n S.1 S.2.1 d_Md_balance_126 rfl (lv_at hl 0 rfl) ?_
    refine rgf_Md_191_0 S hK E d_Md_balance_127 ?_
    refine lv_icmp_ge (tgt := 196) S.1 S.2.1 d_Md_balance_130 (by decide) (fun c1 => ?_) (fun c1 => ?_)
    · have hM := ifP hM c1
      exact rB_Md_balance_196 S hr hlk hK hk113 _ _ _ _ _ E (lv_sub hl [0, 1] rfl) hM
    · have hM := ifN hM c1
      refine lv_iload_n S.1 S.2.1 d_Md_balance_133 rfl (lv_at hl 3 rfl) ?_
      refine lv_iconst (v := 4) S.1 S.2.1 d_Md_balance_134 (by decide) ?_
      refine lv_irem S.1 S.2.1 d_Md_balance_135 (by decide) ?_
      refine lv_if_ne (tgt := 147) S.1 S.2.1 d_Md_balance_136 (by decide) (fun c2 => ?_) (fun c2 => ?_)
      · have hM := ifN hM c2
        exact rB_Md_balance_147 S hr hlk hK hk113 ih _ _ _ _ _ _ _ E (lv_sub hl [0, 1, 2, 3] rfl) hM
      · have hM := ifP hM c2
        refine lv_aload_n S.1 S.2.1 d_Md_balance_139 rfl (lv_at hl 0 rfl) ?_
        refine lv_iconst (v := 0) S.1 S.2.1 d_Md_balance_140 (by decide) ?_
        refine lv_iconst (v := (-1)) S.1 S.2.1 d_Md_balance_141 (by decide) ?_
        refine lv_iconst (v := 0) S.1 S.2.1 d_Md_balance_142 (by decide) ?_
        obtain ⟨r4, σ5, h3, hM⟩ := bd_inv hM
        refine rcr_1 (As := [.int 0, .int (-1), .int 0]) (rest := []) S hK E (rC_Md_made h3) ⟨Nat.le_of_ble_eq_true rfl, Nat.le_of_ble_eq_true rfl⟩ rfl rfl hl.1 (lv_room (Nat.le_of_ble_eq_true rfl)) d_Md_balance_143 (fun H locs E => ?_)
        refine lv_pop S.1 S.2.1 d_Md_balance_146 rfl ?_
        exact rB_Md_balance_147 S hr hlk hK hk113 ih _ _ _ _ _ _ _ E (lv_sub hl [0, 1, 2, 3] rfl) hM
set_option maxHeartbeats 4000000 in
set_option maxRecDepth 100000 in
theorem rB_Md_balance_220 {p : Program} {l : Launch} {e : Env} {s : State} {m : MethodId} {args : Array Value} {below : List Frame} {meth : Method} {c : Code} {D : va_G} {a : Nat → Nat} {cA : Nat → ClassId} {A : Nat → Prop} {g : Nat → Nat} {σ2 : St} {r : Int32} (S : CallFix p m c prog_10_method_49_code 4 s args AW R_Md) (hr : meth.sig.returnType = (some .int)) (hlk : meth.locks = false) (hK : rKX D cA A g s s.heap) : ∀ (n : Nat) (σ : St) (v1 : Int32) (v2 : Int32) (H : Heap) (locs : List Loc) (ls : Array Slot), rEx D a cA A σ s.heap H locs → lv_has ls 4 [(0, .ref (a 0)), (1, .int v1), (2, .int v2)] → rL_Md_balance_220 n σ v1 v2 = some (r, σ2) → W p l e rrm_Md_balance s m args below meth c H locs 0 0 (MQ below (rqi D a cA A g r σ2) args s 0 0 A) (F0 m 220 ls []) := by
  intro n
  induction n with
  | zero =>
    intro σ v1 v2 H locs ls E hl hM
    rw [rL_Md_balance_220] at hM
    cases hM
  | succ n ih =>
    intro σ v1 v2 H locs ls E hl hM
    rw [rL_Md_balance_220] at hM
    refine lv_iload_n S.1 S.2.1 d_Md_balance_220 rfl (lv_at hl 2 rfl) ?_
    refine lv_aload_n S.1 S.2.1 d_Md_balance_221 rfl (lv_at hl 0 rfl) ?_
    refine rgf_Md_191_0 S hK E d_Md_balance_222 ?_
    refine lv_icmp_ge (tgt := 245) S.1 S.2.1 d_Md_balance_225 (by decide) (fun c1 => ?_) (fun c1 => ?_)
    · have hM := ifP hM c1
      refine lv_iload_n S.1 S.2.1 d_Md_balance_245 rfl (lv_at hl 1 rfl) ?_
      obtain ⟨rfl, rfl⟩ := pr_inj hM
      exact rreti S hr hlk hK E d_Md_balance_246
    · have hM := ifN hM c1
      refine lv_aload_n S.1 S.2.1 d_Md_balance_228 rfl (lv_at hl 0 rfl) ?_
      refine lv_iconst (v := 0) S.1 S.2.1 d_Md_balance_229 (by decide) ?_
      refine lv_aload_n S.1 S.2.1 d_Md_balance_230 rfl (lv_at hl 0 rfl) ?_
      refine rgf_Md_74_0 S hK E d_Md_balance_231 ?_
      refine lv_iload_n S.1 S.2.1 d_Md_balance_234 rfl (lv_at hl 2 rfl) ?_
      obtain ⟨h2, hM⟩ := gd_inv hM
      refine ral_22 S hK E h2 d_Md_balance_235 ?_
      obtain ⟨σ4, h3, hM⟩ := bv_inv hM
      refine rcr_26 (As := [.int 0, .int (σ 21 v2.toNatClampNeg)]) (rest := []) S hK E (rC_Md_hang h3) ⟨Nat.le_of_ble_eq_true rfl, Nat.le_of_ble_eq_true rfl⟩ rfl rfl hl.1 (lv_room (Nat.le_of_ble_eq_true rfl)) d_Md_balance_236 (fun H locs E => ?_)
      obtain ⟨y5, ey5⟩ : ∃ z : Int32, z = v2 + 1 := ⟨_, rfl⟩
      have hM := lq_inv hM y5 ey5
      refine lv_iinc (v := y5) (lv' := [(2, .int y5), (0, .ref (a 0)), (1, .int v1)]) S.1 S.2.1 d_Md_balance_239 hl (k := 2) rfl (by rw [ey5]; rfl) (by decide) rfl (fun ls hl => ?_)
      refine lv_goto (tgt := 220) S.1 S.2.1 d_Md_balance_242 (by decide) ?_
      exact ih _ _ _ _ _ _ E (lv_sub hl [1, 2, 0] rfl) hM
set_option maxHeartbeats 4000000 in
set_option maxRecDepth 100000 in
theorem rB_Md_balance_211 {p : Program} {l : Launch} {e : Env} {s : State} {m : MethodId} {args : Array Value} {below : List Frame} {meth : Method} {c : Code} {D : va_G} {a : Nat → Nat} {cA : Nat → ClassId} {A : Nat → Prop} {g : Nat → Nat} {σ2 : St} {r : Int32} (S : CallFix p m c prog_10_method_49_code 4 s args AW R_Md) (hr : meth.sig.returnType = (some .int)) (hlk : meth.locks = false) (hK : rKX D cA A g s s.heap) : ∀ (σ : St) (v1 : Int32) (H : Heap) (locs : List Loc) (ls : Array Slot), rEx D a cA A σ s.heap H locs → lv_has ls 4 [(0, .ref (a 0)), (1, .int v1)] → rJ_Md_balance_211 σ v1 = some (r, σ2) → W p l e rrm_Md_balance s m args below meth c H locs 0 0 (MQ below (rqi D a cA A g r σ2) args s 0 0 A) (F0 m 211 ls []) := by
  intro σ v1 H locs ls E hl hM
  unfold rJ_Md_balance_211 at hM
  refine lv_aload_n S.1 S.2.1 d_Md_balance_211 rfl (lv_at hl 0 rfl) ?_
  refine rgf_Md_17_0 S hK E d_Md_balance_212 ?_
  refine lv_iconst (v := 0) S.1 S.2.1 d_Md_balance_215 (by decide) ?_
  refine lv_iconst (v := 0) S.1 S.2.1 d_Md_balance_216 (by decide) ?_
  obtain ⟨h1, hM⟩ := gd_inv hM
  refine ras_3 S hK E h1 d_Md_balance_217 (fun σ2 eσ2 H locs E => ?_)
  have hM := lq_inv hM σ2 eσ2
  refine lv_iconst (v := 0) S.1 S.2.1 d_Md_balance_218 (by decide) ?_
  refine lv_istore_n (lv' := [(2, .int 0), (0, .ref (a 0)), (1, .int v1)]) S.1 S.2.1 d_Md_balance_219 rfl hl (by decide) rfl (fun ls hl => ?_)
  exact rB_Md_balance_220 S hr hlk hK _ _ _ _ _ _ _ E (lv_sub hl [1, 2, 0] rfl) hM
set_option maxHeartbeats 4000000 in
set_option maxRecDepth 100000 in
theorem rB_Md_balance_113 {p : Program} {l : Launch} {e : Env} {s : State} {m : MethodId} {args : Array Value} {below : List Frame} {meth : Method} {c : Code} {D : va_G} {a : Nat → Nat} {cA : Nat → ClassId} {A : Nat → Prop} {g : Nat → Nat} {σ2 : St} {r : Int32} (S : CallFix p m c prog_10_method_49_code 4 s args AW R_Md) (hr : meth.sig.returnType = (some .int)) (hlk : meth.locks = false) (hK : rKX D cA A g s s.heap) : ∀ (n : Nat) (σ : St) (v1 : Int32) (H : Heap) (locs : List Loc) (ls : Array Slot), rEx D a cA A σ s.heap H locs → lv_has ls 4 [(0, .ref (a 0)), (1, .int v1)] → rL_Md_balance_113 n σ v1 = some (r, σ2) → W p l e rrm_Md_balance s m args below meth c H locs 0 0 (MQ below (rqi D a cA A g r σ2) args s 0 0 A) (F0 m 113 ls []) := by
  intro n
  induction n with
  | zero =>
    intro σ v1 H locs ls E hl hM
    rw [rL_Md_balance_113] at hM
    cases hM
  | succ n ih =>
    intro σ v1 H locs ls E hl hM
    rw [rL_Md_balance_113] at hM
    refine lv_aload_n S.1 S.2.1 d_Md_balance_113 rfl (lv_at hl 0 rfl) ?_
    refine rgf_Md_191_0 S hK E d_Md_balance_114 ?_
    refine lv_iconst (v := 4) S.1 S.2.1 d_Md_balance_117 (by decide) ?_
    refine lv_icmp_le (tgt := 211) S.1 S.2.1 d_Md_balance_118 (by decide) (fun c1 => ?_) (fun c1 => ?_)
    · have hM := ifP hM c1
      exact rB_Md_balance_211 S hr hlk hK _ _ _ _ _ E (lv_sub hl [0, 1] rfl) hM
    · have hM := ifN hM c1
      refine lv_iconst (v := 0) S.1 S.2.1 d_Md_balance_121 (by decide) ?_
      refine lv_istore_n (lv' := [(2, .int 0), (0, .ref (a 0)), (1, .int v1)]) S.1 S.2.1 d_Md_balance_122 rfl hl (by decide) rfl (fun ls hl => ?_)
      refine lv_iconst (v := 0) S.1 S.2.1 d_Md_balance_123 (by decide) ?_
      refine lv_istore_n (lv' := [(3, .int 0), (2, .int 0), (0, .ref (a 0)), (1, .int v1)]) S.1 S.2.1 d_Md_balance_124 rfl hl (by decide) rfl (fun ls hl => ?_)
      exact rB_Md_balance_125 S hr hlk hK ih _ _ _ _ _ _ _ _ E (lv_sub hl [2, 3, 1, 0] rfl) hM
set_option maxHeartbeats 4000000 in
set_option maxRecDepth 100000 in
theorem rB_Md_balance_85 {p : Program} {l : Launch} {e : Env} {s : State} {m : MethodId} {args : Array Value} {below : List Frame} {meth : Method} {c : Code} {D : va_G} {a : Nat → Nat} {cA : Nat → ClassId} {A : Nat → Prop} {g : Nat → Nat} {σ2 : St} {r : Int32} (S : CallFix p m c prog_10_method_49_code 4 s args AW R_Md) (hr : meth.sig.returnType = (some .int)) (hlk : meth.locks = false) (hK : rKX D cA A g s s.heap) : ∀ (n : Nat) (σ : St) (v1 : Int32) (v2 : Int32) (H : Heap) (locs : List Loc) (ls : Array Slot), rEx D a cA A σ s.heap H locs → lv_has ls 4 [(0, .ref (a 0)), (1, .int v1), (2, .int v2)] → rL_Md_balance_85 n σ v1 v2 = some (r, σ2) → W p l e rrm_Md_balance s m args below meth c H locs 0 0 (MQ below (rqi D a cA A g r σ2) args s 0 0 A) (F0 m 85 ls []) := by
  intro n
  induction n with
  | zero =>
    intro σ v1 v2 H locs ls E hl hM
    rw [rL_Md_balance_85] at hM
    cases hM
  | succ n ih =>
    intro σ v1 v2 H locs ls E hl hM
    rw [rL_Md_balance_85] at hM
    refine lv_iload_n S.1 S.2.1 d_Md_balance_85 rfl (lv_at hl 2 rfl) ?_
    refine lv_aload_n S.1 S.2.1 d_Md_balance_86 rfl (lv_at hl 0 rfl) ?_
    refine rgf_Md_77_0 S hK E d_Md_balance_87 ?_
    refine lv_icmp_ge (tgt := 113) S.1 S.2.1 d_Md_balance_90 (by decide) (fun c1 => ?_) (fun c1 => ?_)
    · have hM := ifP hM c1
      exact rB_Md_balance_113 S hr hlk hK _ _ _ _ _ _ E (lv_sub hl [0, 1] rfl) hM
    · have hM := ifN hM c1
      refine lv_aload_n S.1 S.2.1 d_Md_balance_93 rfl (lv_at hl 0 rfl) ?_
      refine rgf_Md_20_0 S hK E d_Md_balance_94 ?_
      refine lv_iload_n S.1 S.2.1 d_Md_balance_97 rfl (lv_at hl 2 rfl) ?_
      refine lv_iconst (v := 0) S.1 S.2.1 d_Md_balance_98 (by decide) ?_
      obtain ⟨h2, hM⟩ := gd_inv hM
      refine ras_4 S hK E h2 d_Md_balance_99 (fun σ3 eσ3 H locs E => ?_)
      have hM := lq_inv hM σ3 eσ3
      refine lv_aload_n S.1 S.2.1 d_Md_balance_100 rfl (lv_at hl 0 rfl) ?_
      refine rgf_Md_13_0 S hK E d_Md_balance_101 ?_
      refine lv_iload_n S.1 S.2.1 d_Md_balance_104 rfl (lv_at hl 2 rfl) ?_
      refine lv_iconst (v := (-1)) S.1 S.2.1 d_Md_balance_105 (by decide) ?_
      obtain ⟨h4, hM⟩ := gd_inv hM
      refine ras_2 S hK E h4 d_Md_balance_106 (fun σ5 eσ5 H locs E => ?_)
      have hM := lq_inv hM σ5 eσ5
      obtain ⟨y6, ey6⟩ : ∃ z : Int32, z = v2 + 1 := ⟨_, rfl⟩
      have hM := lq_inv hM y6 ey6
      refine lv_iinc (v := y6) (lv' := [(2, .int y6), (0, .ref (a 0)), (1, .int v1)]) S.1 S.2.1 d_Md_balance_107 hl (k := 2) rfl (by rw [ey6]; rfl) (by decide) rfl (fun ls hl => ?_)
      refine lv_goto (tgt := 85) S.1 S.2.1 d_Md_balance_110 (by decide) ?_
      exact ih _ _ _ _ _ _ E (lv_sub hl [1, 2, 0] rfl) hM
set_option maxHeartbeats 4000000 in
set_option maxRecDepth 100000 in
theorem rB_Md_balance_83 {p : Program} {l : Launch} {e : Env} {s : State} {m : MethodId} {args : Array Value} {below : List Frame} {meth : Method} {c : Code} {D : va_G} {a : Nat → Nat} {cA : Nat → ClassId} {A : Nat → Prop} {g : Nat → Nat} {σ2 : St} {r : Int32} (S : CallFix p m c prog_10_method_49_code 4 s args AW R_Md) (hr : meth.sig.returnType = (some .int)) (hlk : meth.locks = false) (hK : rKX D cA A g s s.heap) : ∀ (σ : St) (v1 : Int32) (H : Heap) (locs : List Loc) (ls : Array Slot), rEx D a cA A σ s.heap H locs → lv_has ls 4 [(0, .ref (a 0)), (1, .int v1)] → rJ_Md_balance_83 σ v1 = some (r, σ2) → W p l e rrm_Md_balance s m args below meth c H locs 0 0 (MQ below (rqi D a cA A g r σ2) args s 0 0 A) (F0 m 83 ls []) := by
  intro σ v1 H locs ls E hl hM
  unfold rJ_Md_balance_83 at hM
  refine lv_iconst (v := 0) S.1 S.2.1 d_Md_balance_83 (by decide) ?_
  refine lv_istore_n (lv' := [(2, .int 0), (0, .ref (a 0)), (1, .int v1)]) S.1 S.2.1 d_Md_balance_84 rfl hl (by decide) rfl (fun ls hl => ?_)
  exact rB_Md_balance_85 S hr hlk hK _ _ _ _ _ _ _ E (lv_sub hl [1, 2, 0] rfl) hM
set_option maxHeartbeats 4000000 in
set_option maxRecDepth 100000 in
theorem rB_Md_balance_47 {p : Program} {l : Launch} {e : Env} {s : State} {m : MethodId} {args : Array Value} {below : List Frame} {meth : Method} {c : Code} {D : va_G} {a : Nat → Nat} {cA : Nat → ClassId} {A : Nat → Prop} {g : Nat → Nat} {σ2 : St} {r : Int32} (S : CallFix p m c prog_10_method_49_code 4 s args AW R_Md) (hr : meth.sig.returnType = (some .int)) (hlk : meth.locks = false) (hK : rKX D cA A g s s.heap) : ∀ (n : Nat) (σ : St) (v1 : Int32) (v2 : Int32) (H : Heap) (locs : List Loc) (ls : Array Slot), rEx D a cA A σ s.heap H locs → lv_has ls 4 [(0, .ref (a 0)), (1, .int v1), (2, .int v2)] → rL_Md_balance_47 n σ v1 v2 = some (r, σ2) → W p l e rrm_Md_balance s m args below meth c H locs 0 0 (MQ below (rqi D a cA A g r σ2) args s 0 0 A) (F0 m 47 ls []) := by
  intro n
  induction n with
  | zero =>
    intro σ v1 v2 H locs ls E hl hM
    rw [rL_Md_balance_47] at hM
    cases hM
  | succ n ih =>
    intro σ v1 v2 H locs ls E hl hM
    rw [rL_Md_balance_47] at hM
    refine lv_iload_n S.1 S.2.1 d_Md_balance_47 rfl (lv_at hl 2 rfl) ?_
    refine lv_aload_n S.1 S.2.1 d_Md_balance_48 rfl (lv_at hl 0 rfl) ?_
    refine rgf_Md_105_0 S hK E d_Md_balance_49 ?_
    refine lv_icmp_ge (tgt := 83) S.1 S.2.1 d_Md_balance_52 (by decide) (fun c1 => ?_) (fun c1 => ?_)
    · have hM := ifP hM c1
      exact rB_Md_balance_83 S hr hlk hK _ _ _ _ _ E (lv_sub hl [0, 1] rfl) hM
    · have hM := ifN hM c1
      refine lv_aload_n S.1 S.2.1 d_Md_balance_55 rfl (lv_at hl 0 rfl) ?_
      refine rgf_Md_74_0 S hK E d_Md_balance_56 ?_
      refine lv_iload_n S.1 S.2.1 d_Md_balance_59 rfl (lv_at hl 2 rfl) ?_
      refine lv_aload_n S.1 S.2.1 d_Md_balance_60 rfl (lv_at hl 0 rfl) ?_
      refine rgf_Md_38_0 S hK E d_Md_balance_61 ?_
      refine lv_iload_n S.1 S.2.1 d_Md_balance_64 rfl (lv_at hl 2 rfl) ?_
      obtain ⟨h2, hM⟩ := gd_inv hM
      refine ral_10 S hK E h2 d_Md_balance_65 ?_
      obtain ⟨h3, hM⟩ := gd_inv hM
      refine ras_22 S hK E h3 d_Md_balance_66 (fun σ4 eσ4 H locs E => ?_)
      have hM := lq_inv hM σ4 eσ4
      refine lv_aload_n S.1 S.2.1 d_Md_balance_67 rfl (lv_at hl 0 rfl) ?_
      refine lv_aload_n S.1 S.2.1 d_Md_balance_68 rfl (lv_at hl 0 rfl) ?_
      refine rgf_Md_38_0 S hK E d_Md_balance_69 ?_
      refine lv_iload_n S.1 S.2.1 d_Md_balance_72 rfl (lv_at hl 2 rfl) ?_
      obtain ⟨h5, hM⟩ := gd_inv hM
      refine ral_10 S hK E h5 d_Md_balance_73 ?_
      obtain ⟨σ7, h6, hM⟩ := bv_inv hM
      refine rcr_18 (As := [.int (σ4 9 v2.toNatClampNeg)]) (rest := []) S hK E (rC_Md_ownAll h6) ⟨Nat.le_of_ble_eq_true rfl, Nat.le_of_ble_eq_true rfl⟩ rfl rfl hl.1 (lv_room (Nat.le_of_ble_eq_true rfl)) d_Md_balance_74 (fun H locs E => ?_)
      obtain ⟨y8, ey8⟩ : ∃ z : Int32, z = v2 + 1 := ⟨_, rfl⟩
      have hM := lq_inv hM y8 ey8
      refine lv_iinc (v := y8) (lv' := [(2, .int y8), (0, .ref (a 0)), (1, .int v1)]) S.1 S.2.1 d_Md_balance_77 hl (k := 2) rfl (by rw [ey8]; rfl) (by decide) rfl (fun ls hl => ?_)
      refine lv_goto (tgt := 47) S.1 S.2.1 d_Md_balance_80 (by decide) ?_
      exact ih _ _ _ _ _ _ E (lv_sub hl [1, 2, 0] rfl) hM
set_option maxHeartbeats 4000000 in
set_option maxRecDepth 100000 in
theorem rC_Md_balance {l : Launch} {D : va_G} {a : Nat → Nat} {cA : Nat → ClassId} {A : Nat → Prop} {g : Nat → Nat} {σ σ2 : St} {r : Int32} (hM : rM_Md_balance σ = some (r, σ2)) : Met l y_Md_balance (.code y_Md_balance prog_10_method_49_code 4 (some .int) :: AW) rrm_Md_balance (va_Pc [.ref (a 0)] (rCP D a cA A g σ)) (rqi D a cA A g r σ2) 0 0 A := by
  refine rmet (nL := 4) (by decide) (Nat.le_of_ble_eq_true rfl) (fun S hr hlk hK E ls hl => ?_)
  have hl : lv_has ls 4 [(0, .ref (a 0))] := hl
  unfold rM_Md_balance at hM
  refine lv_aload_n S.1 S.2.1 d_Md_balance_0 rfl (lv_at hl 0 rfl) ?_
  obtain ⟨σ2, h1, hM⟩ := bv_inv hM
  refine rcr_10 (As := []) (rest := []) S hK E (rC_Md_walk h1) ⟨Nat.le_of_ble_eq_true rfl, Nat.le_of_ble_eq_true rfl⟩ rfl rfl hl.1 (lv_room (Nat.le_of_ble_eq_true rfl)) d_Md_balance_1 (fun H locs E => ?_)
  refine lv_aload_n S.1 S.2.1 d_Md_balance_4 rfl (lv_at hl 0 rfl) ?_
  refine rgf_Md_105_0 S hK E d_Md_balance_5 ?_
  refine lv_if_ne (tgt := 14) S.1 S.2.1 d_Md_balance_8 (by decide) (fun c3 => ?_) (fun c3 => ?_)
  · have hM := ifN hM c3
    refine lv_aload_n S.1 S.2.1 d_Md_balance_14 rfl (lv_at hl 0 rfl) ?_
    refine rgf_Md_105_0 S hK E d_Md_balance_15 ?_
    obtain ⟨r5, h4, hM⟩ := br_inv hM
    refine rcr_27 (As := [.int (σ2 24 0)]) (rest := []) S hK E (rC_Md_needed h4) ⟨Nat.le_of_ble_eq_true rfl, Nat.le_of_ble_eq_true rfl⟩ rfl rfl hl.1 (lv_room (Nat.le_of_ble_eq_true rfl)) d_Md_balance_18 (fun H locs E => ?_)
    refine lv_istore_n (lv' := [(1, .int r5), (0, .ref (a 0))]) S.1 S.2.1 d_Md_balance_21 rfl hl (by decide) rfl (fun ls hl => ?_)
    refine lv_aload_n S.1 S.2.1 d_Md_balance_22 rfl (lv_at hl 1 rfl) ?_
    refine rgf_Md_77_0 S hK E d_Md_balance_23 ?_
    refine lv_iload_n S.1 S.2.1 d_Md_balance_26 rfl (lv_at hl 0 rfl) ?_
    refine lv_iadd S.1 S.2.1 d_Md_balance_27 ?_
    refine lv_sipush (v := 200) S.1 S.2.1 d_Md_balance_28 (by decide) ?_
    refine lv_icmp_le (tgt := 37) S.1 S.2.1 d_Md_balance_31 (by decide) (fun c6 => ?_) (fun c6 => ?_)
    · have hM := ifP hM c6
      refine lv_aload_n S.1 S.2.1 d_Md_balance_37 rfl (lv_at hl 1 rfl) ?_
      refine lv_aload_n S.1 S.2.1 d_Md_balance_38 rfl (lv_at hl 1 rfl) ?_
      refine rgf_Md_105_0 S hK E d_Md_balance_39 ?_
      refine rpf_Md_191_0 S hK E d_Md_balance_42 (fun σ7 eσ7 H locs E => ?_)
      have hM := lq_inv hM σ7 eσ7
      refine lv_iconst (v := 0) S.1 S.2.1 d_Md_balance_45 (by decide) ?_
      refine lv_istore_n (lv' := [(2, .int 0), (1, .int r5), (0, .ref (a 0))]) S.1 S.2.1 d_Md_balance_46 rfl hl (by decide) rfl (fun ls hl => ?_)
      exact rB_Md_balance_47 S hr hlk hK _ _ _ _ _ _ _ E (lv_sub hl [2, 1, 0] rfl) hM
    · have hM := ifN hM c6
      refine lv_bipush (v := (-4)) S.1 S.2.1 d_Md_balance_34 (by decide) ?_
      obtain ⟨rfl, rfl⟩ := pr_inj hM
      exact rreti S hr hlk hK E d_Md_balance_36
  · have hM := ifP hM c3
    refine lv_bipush (v := (-3)) S.1 S.2.1 d_Md_balance_11 (by decide) ?_
    obtain ⟨rfl, rfl⟩ := pr_inj hM
    exact rreti S hr hlk hK E d_Md_balance_13
set_option maxHeartbeats 4000000 in
set_option maxRecDepth 100000 in
theorem rC_Md_count {l : Launch} {D : va_G} {a : Nat → Nat} {cA : Nat → ClassId} {A : Nat → Prop} {g : Nat → Nat} {σ : St} {x1 : Int32} {r : Int32} (hM : rM_Md_count σ x1 = some r) : Met l y_Md_count (.code y_Md_count prog_10_method_50_code 2 (some .int) :: AW) rrm_Md_count (va_Pc [.ref (a 0), .int x1] (rCP D a cA A g σ)) (rqi D a cA A g r σ) 0 0 A := by
  refine rmet (nL := 2) (by decide) (Nat.le_of_ble_eq_true rfl) (fun S hr hlk hK E ls hl => ?_)
  have hl : lv_has ls 2 [(0, .ref (a 0)), (1, .int x1)] := hl
  unfold rM_Md_count at hM
  refine lv_iload_n S.1 S.2.1 d_Md_count_0 rfl (lv_at hl 1 rfl) ?_
  refine lv_if_ne (tgt := 11) S.1 S.2.1 d_Md_count_1 (by decide) (fun c1 => ?_) (fun c1 => ?_)
  · have hM := ifN hM c1
    refine lv_iload_n S.1 S.2.1 d_Md_count_11 rfl (lv_at hl 1 rfl) ?_
    refine lv_iconst (v := 1) S.1 S.2.1 d_Md_count_12 (by decide) ?_
    refine lv_icmp_ne (tgt := 23) S.1 S.2.1 d_Md_count_13 (by decide) (fun c2 => ?_) (fun c2 => ?_)
    · have hM := ifN hM c2
      refine lv_iload_n S.1 S.2.1 d_Md_count_23 rfl (lv_at hl 1 rfl) ?_
      refine lv_iconst (v := 2) S.1 S.2.1 d_Md_count_24 (by decide) ?_
      refine lv_icmp_ne (tgt := 35) S.1 S.2.1 d_Md_count_25 (by decide) (fun c3 => ?_) (fun c3 => ?_)
      · have hM := ifN hM c3
        refine lv_bipush (v := (-2)) S.1 S.2.1 d_Md_count_35 (by decide) ?_
        obtain rfl := Option.some.inj hM
        exact rreti S hr hlk hK E d_Md_count_37
      · have hM := ifP hM c3
        refine lv_aload_n S.1 S.2.1 d_Md_count_28 rfl (lv_at hl 0 rfl) ?_
        refine rgf_Md_160_0 S hK E d_Md_count_29 ?_
        refine lv_goto (tgt := 37) S.1 S.2.1 d_Md_count_32 (by decide) ?_
        obtain rfl := Option.some.inj hM
        exact rreti S hr hlk hK E d_Md_count_37
    · have hM := ifP hM c2
      refine lv_aload_n S.1 S.2.1 d_Md_count_16 rfl (lv_at hl 0 rfl) ?_
      refine rgf_Md_163_0 S hK E d_Md_count_17 ?_
      refine lv_goto (tgt := 37) S.1 S.2.1 d_Md_count_20 (by decide) ?_
      obtain rfl := Option.some.inj hM
      exact rreti S hr hlk hK E d_Md_count_37
  · have hM := ifP hM c1
    refine lv_aload_n S.1 S.2.1 d_Md_count_4 rfl (lv_at hl 0 rfl) ?_
    refine rgf_Md_77_0 S hK E d_Md_count_5 ?_
    refine lv_goto (tgt := 37) S.1 S.2.1 d_Md_count_8 (by decide) ?_
    obtain rfl := Option.some.inj hM
    exact rreti S hr hlk hK E d_Md_count_37
