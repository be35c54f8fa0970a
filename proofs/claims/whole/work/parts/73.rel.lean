/-! THE RELATION between the class's state and the reference's -/
def LB (σ ρ : St) : Prop := ∃ a, a ≤ 20 ∧ σ 35 0 = nI a ∧ ρ 26 0 = nI a ∧ (∀ j, j < a → ∃ f s i, f ≤ 199 ∧ s ≤ 2 ∧ 1 ≤ i ∧ i ≤ 1000 ∧ σ 20 j = nI f ∧ ρ 15 j = nI f ∧ σ 21 j = nI s ∧ ρ 16 j = nI s ∧ σ 22 j = nI i ∧ ρ 17 j = nI i) ∧ ∀ i j, i < a → j < a → σ 20 i = σ 20 j → i = j
def NX (σ ρ : St) : Prop := ∃ a, a ≤ 60 ∧ σ 37 0 = nI a ∧ ρ 27 0 = nI a ∧ (∀ j, j < a → ∃ p, p < 200 ∧ σ 24 j = ρ 18 j ∧ σ 25 j = nI p ∧ ρ 19 j = nI p) ∧ ∀ i j, i < a → j < a → σ 24 i = σ 24 j → i = j
def TD (σ ρ : St) : Prop := (∃ a, a ≤ 9000 ∧ σ 31 0 = nI a ∧ ρ 25 0 = nI a ∧ ∀ j, j < a → j < 100 → σ 16 j = ρ 13 j ∧ σ 17 j = ρ 14 j) ∧ σ 18 0 = nI 0
def VS (c : Nat) (σ : St) : Prop := ∃ v, v ≤ 20000 * c ∧ σ 27 0 = nI v ∧ (σ 29 0 = nM 1 ∨ ∃ w, w ≤ v ∧ σ 29 0 = nI w)
def Rel (c : Nat) (σ ρ : St) : Prop := ∃ (n : Nat) (pg kc : Nat → Nat) (kd : Nat → Nat → Nat) (pa ct : Nat → Int32) (ow : Nat → Nat → Int32), WF n pg kc kd pa ∧ IV n pg kc kd pa ct ow σ 26 ∧ IV n pg kc kd pa ct ow ρ 22 ∧ FR n σ ∧ LB σ ρ ∧ NX σ ρ ∧ TD σ ρ ∧ VS c σ ∧ (σ 29 0 = σ 27 0 → oK n σ (wO n pg kc kd))
theorem LB.keep {σ ρ σ' ρ' : St} (h : LB σ ρ) (h1 : σ' 35 = σ 35) (h2 : σ' 20 = σ 20) (h3 : σ' 21 = σ 21) (h4 : σ' 22 = σ 22) (g1 : ρ' 26 = ρ 26) (g2 : ρ' 15 = ρ 15) (g3 : ρ' 16 = ρ 16) (g4 : ρ' 17 = ρ 17) : LB σ' ρ' := by
  unfold LB
  rw [h1, h2, h3, h4, g1, g2, g3, g4]
  exact h
theorem NX.keep {σ ρ σ' ρ' : St} (h : NX σ ρ) (h1 : σ' 37 = σ 37) (h2 : σ' 24 = σ 24) (h3 : σ' 25 = σ 25) (g1 : ρ' 27 = ρ 27) (g2 : ρ' 18 = ρ 18) (g3 : ρ' 19 = ρ 19) : NX σ' ρ' := by
  unfold NX
  rw [h1, h2, h3, g1, g2, g3]
  exact h
theorem TD.keep {σ ρ σ' ρ' : St} (h : TD σ ρ) (h0 : σ' 18 = σ 18) (h1 : σ' 31 = σ 31) (h2 : σ' 16 = σ 16) (h3 : σ' 17 = σ 17) (g1 : ρ' 25 = ρ 25) (g2 : ρ' 13 = ρ 13) (g3 : ρ' 14 = ρ 14) : TD σ' ρ' := by
  unfold TD
  rw [h0, h1, h2, h3, g1, g2, g3]
  exact h
theorem VS.keep {c : Nat} {σ σ' : St} (h : VS c σ) (h1 : σ' 27 = σ 27) (h2 : σ' 29 = σ 29) : VS (c + 1) σ' := by
  obtain ⟨v, a, b⟩ := h
  exact ⟨v, by omega, by rw [h1, h2]; exact b⟩
theorem IV.keep {n : Nat} {pg kc : Nat → Nat} {kd : Nat → Nat → Nat} {pa ct : Nat → Int32} {ow : Nat → Nat → Int32} {s s' : St} {z : Nat} (h : IV n pg kc kd pa ct ow s z) (hz : s' z = s z) (hk : ∀ k, k < 6 → s' k = s k) : IV n pg kc kd pa ct ow s' z := by
  unfold IV
  rw [hz, hk 0 (by omega), hk 1 (by omega), hk 2 (by omega), hk 3 (by omega), hk 4 (by omega), hk 5 (by omega)]
  exact h
theorem FR.keep {n : Nat} {s s' : St} (h : FR n s) (h3 : s' 3 = s 3) (h5 : s' 5 = s 5) : FR n s' := by
  unfold FR
  rw [h3, h5]
  exact h
theorem oK.keep {n : Nat} {s s' : St} {o : List (Nat × Nat × Nat)} (h : oK n s o) (h1 : s' 28 = s 28) (h2 : s' 9 = s 9) (h3 : s' 10 = s 10) (h4 : s' 11 = s 11) (h5 : s' 12 = s 12) : oK n s' o := by
  unfold oK
  rw [h1, h2, h3, h4, h5]
  exact h
theorem oR.keep {s s' : St} {o : List (Nat × Nat × Nat)} (h : oR s o) (h1 : s' 24 = s 24) (h2 : s' 9 = s 9) (h3 : s' 10 = s 10) (h4 : s' 11 = s 11) : oR s' o := by
  unfold oR
  rw [h1, h2, h3, h4]
  exact h
theorem IV.lv {n : Nat} {pg kc : Nat → Nat} {kd : Nat → Nat → Nat} {pa ct : Nat → Int32} {ow : Nat → Nat → Int32} {s : St} {z : Nat} (h : IV n pg kc kd pa ct ow s z) : LV n pg kc kd s z := ⟨h.1, h.2.1, h.2.2.2.2.1, h.2.2.2.2.2.1⟩
theorem WF.lf {n : Nat} {pg kc : Nat → Nat} {kd : Nat → Nat → Nat} {pa : Nat → Int32} (h : WF n pg kc kd pa) : LF n pg kc kd := ⟨h.1, h.2.1, h.2.2.1, h.2.2.2.1, h.2.2.2.2.2.2⟩
theorem Rel.next {c : Nat} {σ ρ : St} (h : Rel c σ ρ) : Rel (c + 1) σ ρ := by
  obtain ⟨n, pg, kc, kd, pa, ct, ow, h1, h2, h3, h4, h5, h6, h7, h8, h9⟩ := h
  exact ⟨n, pg, kc, kd, pa, ct, ow, h1, h2, h3, h4, h5, h6, h7, h8.keep rfl rfl, h9⟩
/-- behind a refresh of the class and a walk of the reference -/
theorem Rel.walked {c : Nat} {σ ρ : St} (h : Rel c σ ρ) : ∃ (σ' ρ' : St) (n : Nat) (pg kc : Nat → Nat) (kd : Nat → Nat → Nat) (pa ct : Nat → Int32) (ow : Nat → Nat → Int32), kM_Order_refresh σ = some σ' ∧ rM_Md_walk ρ = some ρ' ∧ oK n σ' (wO n pg kc kd) ∧ oR ρ' (wO n pg kc kd) ∧ σ' 29 0 = σ' 27 0 ∧ WF n pg kc kd pa ∧ IV n pg kc kd pa ct ow σ' 26 ∧ IV n pg kc kd pa ct ow ρ' 22 ∧ FR n σ' ∧ LB σ' ρ' ∧ NX σ' ρ' ∧ TD σ' ρ' ∧ VS c σ' := by
  obtain ⟨n, pg, kc, kd, pa, ct, ow, h1, h2, h3, h4, h5, h6, h7, h8, h9⟩ := h
  obtain ⟨σ', a1, a2, a3, a4⟩ := k_refresh h1.lf h2.lv h9
  obtain ⟨ρ', b1, b2, b3⟩ := r_walk0 h1.lf h3.lv
  refine ⟨σ', ρ', n, pg, kc, kd, pa, ct, ow, a1, b1, a2, b2, ?_, h1, h2.keep (a4 26 (by omega)) (fun k hk => a4 k (by omega)), h3.keep (b3 22 (by omega)) (fun k hk => b3 k (by omega)), h4.keep (a4 3 (by omega)) (a4 5 (by omega)), ?_, ?_, ?_, ?_⟩
  · rw [a3, a4 27 (by omega)]
  · exact h5.keep (a4 35 (by omega)) (a4 20 (by omega)) (a4 21 (by omega)) (a4 22 (by omega)) (b3 26 (by omega)) (b3 15 (by omega)) (b3 16 (by omega)) (b3 17 (by omega))
  · exact h6.keep (a4 37 (by omega)) (a4 24 (by omega)) (a4 25 (by omega)) (b3 27 (by omega)) (b3 18 (by omega)) (b3 19 (by omega))
  · exact h7.keep (a4 18 (by omega)) (a4 31 (by omega)) (a4 16 (by omega)) (a4 17 (by omega)) (b3 25 (by omega)) (b3 13 (by omega)) (b3 14 (by omega))
  · obtain ⟨v, q1, q2, q3⟩ := h8
    refine ⟨v, q1, by rw [a4 27 (by omega)]; exact q2, Or.inr ⟨v, Nat.le_refl _, ?_⟩⟩
    rw [a3]
    exact q2
theorem Rel.of {c : Nat} {σ ρ : St} {n : Nat} {pg kc : Nat → Nat} {kd : Nat → Nat → Nat} {pa ct : Nat → Int32} {ow : Nat → Nat → Int32} (h1 : WF n pg kc kd pa) (h2 : IV n pg kc kd pa ct ow σ 26) (h3 : IV n pg kc kd pa ct ow ρ 22) (h4 : FR n σ) (h5 : LB σ ρ) (h6 : NX σ ρ) (h7 : TD σ ρ) (h8 : VS c σ) (h9 : σ 29 0 = σ 27 0 → oK n σ (wO n pg kc kd)) : Rel c σ ρ := ⟨n, pg, kc, kd, pa, ct, ow, h1, h2, h3, h4, h5, h6, h7, h8, h9⟩
theorem p_skip : ∀ (n : Nat) (σ ρ : St), n < 512 → Rel n σ ρ → Rel (n + 1) σ ρ := fun _ _ _ _ h => h.next
theorem p_count : lF_count Rel := by
  intro n σ ρ x hn h
  have h' := h
  obtain ⟨m, pg, kc, kd, pa, ct, ow, h1, h2, h3, h4, ⟨a, -, a1, a2, -⟩, ⟨b, -, b1, b2, -⟩, -⟩ := h'
  have z1 := h2.1
  have z2 := h3.1
  unfold kM_PT_count rM_Md_count kM_Items_size kM_Labels_size kM_Names_size
  by_cases c0 : x = 0
  · rw [if_pos c0, if_pos c0, z1, z2]
    exact ⟨_, rfl, rfl, h.next⟩
  · rw [if_neg c0, if_neg c0]
    by_cases c1 : x = 1
    · rw [if_pos c1, if_pos c1, a1, a2]
      exact ⟨_, rfl, rfl, h.next⟩
    · rw [if_neg c1, if_neg c1]
      by_cases c2 : x = 2
      · rw [if_pos c2, if_pos c2, b1, b2]
        exact ⟨_, rfl, rfl, h.next⟩
      · rw [if_neg c2, if_neg c2]
        exact ⟨_, rfl, rfl, h.next⟩
theorem nI_m1 {a : Nat} (h : 0 < a) : nI a - nI 1 = nI (a - 1) := pk_sub h
theorem w_y {σ : St} {x a b : Int32} (h1 : ¬ x < a) (h2 : ¬ b < x) : rM_Md_within σ x a b = some (nI 1) := by
  unfold rM_Md_within
  rw [if_neg h1, if_neg h2]
  rfl
theorem w_n {σ : St} {x a b : Int32} (h : x < a ∨ b < x) : rM_Md_within σ x a b = some (nI 0) := by
  unfold rM_Md_within
  by_cases h1 : x < a
  · rw [if_pos h1]; rfl
  · rw [if_neg h1, if_pos (h.resolve_left h1)]; rfl
theorem lt_toInt {x y : Int32} : x < y ↔ x.toInt < y.toInt := Int32.lt_iff_toInt_lt
theorem le_toInt {x y : Int32} : x ≤ y ↔ x.toInt ≤ y.toInt := Int32.le_iff_toInt_le
/-- a number within 0 .. a - 1, as the reference asks -/
theorem w_ix {σ : St} {x : Int32} {a : Nat} (ha : a < 2 ^ 30) : (∃ j, j < a ∧ x = nI j ∧ rM_Md_within σ x (nI 0) (nI a - nI 1) = some (nI 1)) ∨ ((x < nI 0 ∨ (¬ x < nI 0 ∧ nI a ≤ x)) ∧ rM_Md_within σ x (nI 0) (nI a - nI 1) = some (nI 0)) := by
  have e : (nI a - nI 1).toInt = (a : Int) - 1 := pk_sub_toInt (a := a) (b := 1) ha (by omega)
  rcases ix_cases x (n := a) (by omega) with h | h | ⟨j, hj, rfl⟩
  · exact Or.inr ⟨Or.inl h, w_n (Or.inl h)⟩
  · refine Or.inr ⟨Or.inr h, w_n (Or.inr ?_)⟩
    have h2 := le_toInt.mp h.2
    rw [nI_toInt (by omega)] at h2
    rw [lt_toInt, e]
    omega
  · refine Or.inl ⟨j, hj, rfl, w_y ?_ ?_⟩
    · exact nI_pos (by omega)
    · rw [lt_toInt, e, nI_toInt (by omega)]
      omega
theorem p_kid : lF_kid Rel := by
  intro n σ ρ x k hn h
  have h' := h
  obtain ⟨m, pg, kc, kd, pa, ct, ow, h1, h2, h3, -⟩ := h'
  have z1 := h2.1
  have z2 := h3.1
  have m2 := h1.1
  unfold kM_PT_kid rM_Md_kid
  have key : ∃ r, kM_Items_kidAt σ x k = some r ∧ (br (rM_Md_isNode ρ x) fun r2 => if r2 = 0 then some (-1) else gd (inB x 200) (br (rM_Md_within ρ k 0 ((ρ 3 x.toNatClampNeg) - 1)) fun r6 => if r6 = 0 then some (-1) else gd (inB ((40 * x) + k) 8000) (some (ρ 4 (((40 * x) + k)).toNatClampNeg)))) = some r := by
    rcases ix_cases x (n := m) (by omega) with hx | hx | ⟨j, hj, rfl⟩
    · refine ⟨nM 1, ?_, ?_⟩
      · unfold kM_Items_kidAt kM_Items_hasSlot
        rw [li_0, if_pos hx]; rfl
      · rw [r_isNode_n z2 (Or.inl hx)]; rfl
    · refine ⟨nM 1, ?_, ?_⟩
      · unfold kM_Items_kidAt kM_Items_hasSlot
        rw [li_0, if_neg hx.1, z1, if_pos hx.2]; rfl
      · rw [r_isNode_n z2 (Or.inr hx)]; rfl
    · have p1 := h1.2.1 j hj
      have c1 := h1.2.2.1 j hj
      have e1 := h2.2.2.2.2.1 j hj
      have e2 := h3.2.2.2.2.1 j hj
      rw [r_isNode_y z2 m2 hj (h3.2.1 j hj) p1]
      by_cases hp : pg j = 1
      · have hc := h1.2.2.2.2.1 j hj hp
        rw [hc] at e1
        refine ⟨nM 1, ?_, ?_⟩
        · unfold kM_Items_kidAt kM_Items_hasSlot
          rcases ix_cases k (n := 1) (by omega) with hk | hk | ⟨i, hi, rfl⟩
          · simp (disch := omega) only [↓reduceIte, Nat.reduceSub, Nat.reduceAdd, Nat.reduceMul, Nat.sub_zero, Nat.add_zero, Nat.zero_add, Nat.mul_zero, lq_s, br_s, bd_s, bv_s, gd_tt, inB_nI, nI_clamp, sk_s, sk_n, pk_us, pk_un, nI_add, pk_mul, pk_sub, nI_leI, nI_ltI, nI_eq, if_pos, if_neg, nn_neg, nn_ne, nn_ne2, nn_lt, nn_nlt, nn_nle, nn_le, nn_m1, li_0, li_1, li_2, li_3, li_4, li_5, li_9, li_10, li_19, li_20, li_26, li_40, li_60, li_64, li_97, li_48, li_100, li_199, li_200, li_1000, li_8200, li_9999, li_100000, z1, e1] <;> (rw [if_pos hk] <;> simp (disch := omega) only [↓reduceIte, Nat.reduceSub, Nat.reduceAdd, Nat.reduceMul, Nat.sub_zero, Nat.add_zero, Nat.zero_add, Nat.mul_zero, lq_s, br_s, bd_s, bv_s, gd_tt, inB_nI, nI_clamp, sk_s, sk_n, pk_us, pk_un, nI_add, pk_mul, pk_sub, nI_leI, nI_ltI, nI_eq, if_pos, if_neg, nn_neg, nn_ne, nn_ne2, nn_lt, nn_nlt, nn_nle, nn_le, nn_m1, li_0, li_1, li_2, li_3, li_4, li_5, li_9, li_10, li_19, li_20, li_26, li_40, li_60, li_64, li_97, li_48, li_100, li_199, li_200, li_1000, li_8200, li_9999, li_100000])
          · simp (disch := omega) only [↓reduceIte, Nat.reduceSub, Nat.reduceAdd, Nat.reduceMul, Nat.sub_zero, Nat.add_zero, Nat.zero_add, Nat.mul_zero, lq_s, br_s, bd_s, bv_s, gd_tt, inB_nI, nI_clamp, sk_s, sk_n, pk_us, pk_un, nI_add, pk_mul, pk_sub, nI_leI, nI_ltI, nI_eq, if_pos, if_neg, nn_neg, nn_ne, nn_ne2, nn_lt, nn_nlt, nn_nle, nn_le, nn_m1, li_0, li_1, li_2, li_3, li_4, li_5, li_9, li_10, li_19, li_20, li_26, li_40, li_60, li_64, li_97, li_48, li_100, li_199, li_200, li_1000, li_8200, li_9999, li_100000, z1, e1]
            have h0 : nI 0 ≤ k := by
              have h2 := le_toInt.mp hk.2
              rw [nI_toInt (by omega)] at h2
              rw [le_toInt, nI_toInt (by omega)]
              omega
            rw [if_neg hk.1, if_pos h0]; simp (disch := omega) only [↓reduceIte, Nat.reduceSub, Nat.reduceAdd, Nat.reduceMul, Nat.sub_zero, Nat.add_zero, Nat.zero_add, Nat.mul_zero, lq_s, br_s, bd_s, bv_s, gd_tt, inB_nI, nI_clamp, sk_s, sk_n, pk_us, pk_un, nI_add, pk_mul, pk_sub, nI_leI, nI_ltI, nI_eq, if_pos, if_neg, nn_neg, nn_ne, nn_ne2, nn_lt, nn_nlt, nn_nle, nn_le, nn_m1, li_0, li_1, li_2, li_3, li_4, li_5, li_9, li_10, li_19, li_20, li_26, li_40, li_60, li_64, li_97, li_48, li_100, li_199, li_200, li_1000, li_8200, li_9999, li_100000]
          · simp (disch := omega) only [↓reduceIte, Nat.reduceSub, Nat.reduceAdd, Nat.reduceMul, Nat.sub_zero, Nat.add_zero, Nat.zero_add, Nat.mul_zero, lq_s, br_s, bd_s, bv_s, gd_tt, inB_nI, nI_clamp, sk_s, sk_n, pk_us, pk_un, nI_add, pk_mul, pk_sub, nI_leI, nI_ltI, nI_eq, if_pos, if_neg, nn_neg, nn_ne, nn_ne2, nn_lt, nn_nlt, nn_nle, nn_le, nn_m1, li_0, li_1, li_2, li_3, li_4, li_5, li_9, li_10, li_19, li_20, li_26, li_40, li_60, li_64, li_97, li_48, li_100, li_199, li_200, li_1000, li_8200, li_9999, li_100000, z1, e1]
        · rw [hp]; simp (disch := omega) only [↓reduceIte, Nat.reduceSub, Nat.reduceAdd, Nat.reduceMul, Nat.sub_zero, Nat.add_zero, Nat.zero_add, Nat.mul_zero, lq_s, br_s, bd_s, bv_s, gd_tt, inB_nI, nI_clamp, sk_s, sk_n, pk_us, pk_un, nI_add, pk_mul, pk_sub, nI_leI, nI_ltI, nI_eq, if_pos, if_neg, nn_neg, nn_ne, nn_ne2, nn_lt, nn_nlt, nn_nle, nn_le, nn_m1, li_0, li_1, li_2, li_3, li_4, li_5, li_9, li_10, li_19, li_20, li_26, li_40, li_60, li_64, li_97, li_48, li_100, li_199, li_200, li_1000, li_8200, li_9999, li_100000]
      · have hp : pg j = 0 := by omega
        rw [hp]
        simp (disch := omega) only [↓reduceIte, Nat.reduceSub, Nat.reduceAdd, Nat.reduceMul, Nat.sub_zero, Nat.add_zero, Nat.zero_add, Nat.mul_zero, lq_s, br_s, bd_s, bv_s, gd_tt, inB_nI, nI_clamp, sk_s, sk_n, pk_us, pk_un, nI_add, pk_mul, pk_sub, nI_leI, nI_ltI, nI_eq, if_pos, if_neg, nn_neg, nn_ne, nn_ne2, nn_lt, nn_nlt, nn_nle, nn_le, nn_m1, li_0, li_1, li_2, li_3, li_4, li_5, li_9, li_10, li_19, li_20, li_26, li_40, li_60, li_64, li_97, li_48, li_100, li_199, li_200, li_1000, li_8200, li_9999, li_100000, e2]
        rcases w_ix (σ := ρ) (x := k) (a := kc j) (by omega) with ⟨i, hi, rfl, w⟩ | ⟨hk, w⟩
        · refine ⟨nI (kd j i), k_kidAt_y h2.lv h1.lf hj hi, ?_⟩
          rw [w]
          simp (disch := omega) only [↓reduceIte, Nat.reduceSub, Nat.reduceAdd, Nat.reduceMul, Nat.sub_zero, Nat.add_zero, Nat.zero_add, Nat.mul_zero, lq_s, br_s, bd_s, bv_s, gd_tt, inB_nI, nI_clamp, sk_s, sk_n, pk_us, pk_un, nI_add, pk_mul, pk_sub, nI_leI, nI_ltI, nI_eq, if_pos, if_neg, nn_neg, nn_ne, nn_ne2, nn_lt, nn_nlt, nn_nle, nn_le, nn_m1, li_0, li_1, li_2, li_3, li_4, li_5, li_9, li_10, li_19, li_20, li_26, li_40, li_60, li_64, li_97, li_48, li_100, li_199, li_200, li_1000, li_8200, li_9999, li_100000, h3.2.2.2.2.2.1 j i hj hi]
        · refine ⟨nM 1, ?_, ?_⟩
          · unfold kM_Items_kidAt kM_Items_hasSlot
            simp (disch := omega) only [↓reduceIte, Nat.reduceSub, Nat.reduceAdd, Nat.reduceMul, Nat.sub_zero, Nat.add_zero, Nat.zero_add, Nat.mul_zero, lq_s, br_s, bd_s, bv_s, gd_tt, inB_nI, nI_clamp, sk_s, sk_n, pk_us, pk_un, nI_add, pk_mul, pk_sub, nI_leI, nI_ltI, nI_eq, if_pos, if_neg, nn_neg, nn_ne, nn_ne2, nn_lt, nn_nlt, nn_nle, nn_le, nn_m1, li_0, li_1, li_2, li_3, li_4, li_5, li_9, li_10, li_19, li_20, li_26, li_40, li_60, li_64, li_97, li_48, li_100, li_199, li_200, li_1000, li_8200, li_9999, li_100000, z1, e1]
            rcases hk with hk | hk
            · rw [if_pos hk]; simp (disch := omega) only [↓reduceIte, Nat.reduceSub, Nat.reduceAdd, Nat.reduceMul, Nat.sub_zero, Nat.add_zero, Nat.zero_add, Nat.mul_zero, lq_s, br_s, bd_s, bv_s, gd_tt, inB_nI, nI_clamp, sk_s, sk_n, pk_us, pk_un, nI_add, pk_mul, pk_sub, nI_leI, nI_ltI, nI_eq, if_pos, if_neg, nn_neg, nn_ne, nn_ne2, nn_lt, nn_nlt, nn_nle, nn_le, nn_m1, li_0, li_1, li_2, li_3, li_4, li_5, li_9, li_10, li_19, li_20, li_26, li_40, li_60, li_64, li_97, li_48, li_100, li_199, li_200, li_1000, li_8200, li_9999, li_100000]
            · rw [if_neg hk.1, if_pos hk.2]; simp (disch := omega) only [↓reduceIte, Nat.reduceSub, Nat.reduceAdd, Nat.reduceMul, Nat.sub_zero, Nat.add_zero, Nat.zero_add, Nat.mul_zero, lq_s, br_s, bd_s, bv_s, gd_tt, inB_nI, nI_clamp, sk_s, sk_n, pk_us, pk_un, nI_add, pk_mul, pk_sub, nI_leI, nI_ltI, nI_eq, if_pos, if_neg, nn_neg, nn_ne, nn_ne2, nn_lt, nn_nlt, nn_nle, nn_le, nn_m1, li_0, li_1, li_2, li_3, li_4, li_5, li_9, li_10, li_19, li_20, li_26, li_40, li_60, li_64, li_97, li_48, li_100, li_199, li_200, li_1000, li_8200, li_9999, li_100000]
          · rw [w]; simp (disch := omega) only [↓reduceIte, Nat.reduceSub, Nat.reduceAdd, Nat.reduceMul, Nat.sub_zero, Nat.add_zero, Nat.zero_add, Nat.mul_zero, lq_s, br_s, bd_s, bv_s, gd_tt, inB_nI, nI_clamp, sk_s, sk_n, pk_us, pk_un, nI_add, pk_mul, pk_sub, nI_leI, nI_ltI, nI_eq, if_pos, if_neg, nn_neg, nn_ne, nn_ne2, nn_lt, nn_nlt, nn_nle, nn_le, nn_m1, li_0, li_1, li_2, li_3, li_4, li_5, li_9, li_10, li_19, li_20, li_26, li_40, li_60, li_64, li_97, li_48, li_100, li_199, li_200, li_1000, li_8200, li_9999, li_100000]
  obtain ⟨r, k1, k2⟩ := key
  exact ⟨r, by rw [k1]; rfl, k2, h.next⟩
theorem p_told : lF_told Rel := by
  intro n σ ρ x w hn h
  have h' := h
  obtain ⟨m, pg, kc, kd, pa, ct, ow, h1, h2, h3, h4, h5, h6, ⟨⟨a, a0, a1, a2, a3⟩, -⟩, -⟩ := h'
  unfold kM_PT_told rM_Md_told kM_Mender_tellingAt rJ_Md_told_20 rJ_Md_told_41 rJ_Md_told_42
  have key : ∀ b : Nat, b ≤ 100 → b ≤ a → (a < 100 → b = a) → (¬ a < 100 → b = 100) → ∃ r : Int32, (br (if x < 0 then some (-1) else if (σ 31 0) ≤ x then some (-1) else if x < 100 then (if w = 0 then gd (inB x 100) (some (σ 16 x.toNatClampNeg)) else if w = 1 then gd (inB x 100) (some (σ 17 x.toNatClampNeg)) else some (-1)) else some (-1)) fun r2 => some r2) = some r ∧ (br (rM_Md_within ρ x 0 (nI b - 1)) fun r2 => if r2 = 0 then (if (0 : Int32) = 0 then some (-1) else if w = 0 then gd (inB x 100) (some (ρ 13 x.toNatClampNeg)) else gd (inB x 100) (some (ρ 14 x.toNatClampNeg))) else br (rM_Md_within ρ w 0 1) fun r5 => if r5 = 0 then (if (0 : Int32) = 0 then some (-1) else if w = 0 then gd (inB x 100) (some (ρ 13 x.toNatClampNeg)) else gd (inB x 100) (some (ρ 14 x.toNatClampNeg))) else (if (1 : Int32) = 0 then some (-1) else if w = 0 then gd (inB x 100) (some (ρ 13 x.toNatClampNeg)) else gd (inB x 100) (some (ρ 14 x.toNatClampNeg)))) = some r := by
    intro b hb1 hb2 hb3 hb4
    rcases w_ix (σ := ρ) (x := x) (a := b) (by omega) with ⟨i, hi, rfl, hw⟩ | ⟨hk, hw⟩
    · obtain ⟨t1, t2⟩ := a3 i (by omega) (by omega)
      rw [show (0 : Int32) = nI 0 from rfl, show (1 : Int32) = nI 1 from rfl, hw]
      by_cases w0 : w = nI 0
      · subst w0
        rw [w_y (x := nI 0) (a := nI 0) (b := nI 1) (by decide) (by decide)]
        simp (disch := omega) only [↓reduceIte, Nat.reduceSub, Nat.reduceAdd, Nat.reduceMul, Nat.sub_zero, Nat.add_zero, Nat.zero_add, Nat.mul_zero, lq_s, br_s, bd_s, bv_s, gd_tt, inB_nI, nI_clamp, sk_s, sk_n, pk_us, pk_un, nI_add, pk_mul, pk_sub, nI_leI, nI_ltI, nI_eq, if_pos, if_neg, nn_neg, nn_ne, nn_ne2, nn_lt, nn_nlt, nn_nle, nn_le, nn_m1, li_0, li_1, li_2, li_3, li_4, li_5, li_9, li_10, li_19, li_20, li_26, li_40, li_60, li_64, li_97, li_48, li_100, li_199, li_200, li_1000, li_8200, li_9999, li_100000, a1]
        exact ⟨_, rfl, by rw [t1]⟩
      · by_cases w1 : w = nI 1
        · subst w1
          rw [w_y (x := nI 1) (a := nI 0) (b := nI 1) (by decide) (by decide)]
          simp (disch := omega) only [↓reduceIte, Nat.reduceSub, Nat.reduceAdd, Nat.reduceMul, Nat.sub_zero, Nat.add_zero, Nat.zero_add, Nat.mul_zero, lq_s, br_s, bd_s, bv_s, gd_tt, inB_nI, nI_clamp, sk_s, sk_n, pk_us, pk_un, nI_add, pk_mul, pk_sub, nI_leI, nI_ltI, nI_eq, if_pos, if_neg, nn_neg, nn_ne, nn_ne2, nn_lt, nn_nlt, nn_nle, nn_le, nn_m1, li_0, li_1, li_2, li_3, li_4, li_5, li_9, li_10, li_19, li_20, li_26, li_40, li_60, li_64, li_97, li_48, li_100, li_199, li_200, li_1000, li_8200, li_9999, li_100000, a1]
          exact ⟨_, rfl, by rw [t2]⟩
        · rw [w_n (x := w) (a := nI 0) (b := nI 1) (by
            rcases ix_cases w (n := 2) (by omega) with q | q | ⟨q, q1, rfl⟩
            · exact Or.inl q
            · right
              have h2 := le_toInt.mp q.2
              rw [nI_toInt (by omega)] at h2
              rw [lt_toInt, nI_toInt (by omega)]
              omega
            · rcases (show q = 0 ∨ q = 1 by omega) with rfl | rfl
              · exact absurd rfl w0
              · exact absurd rfl w1)]
          simp (disch := omega) only [↓reduceIte, Nat.reduceSub, Nat.reduceAdd, Nat.reduceMul, Nat.sub_zero, Nat.add_zero, Nat.zero_add, Nat.mul_zero, lq_s, br_s, bd_s, bv_s, gd_tt, inB_nI, nI_clamp, sk_s, sk_n, pk_us, pk_un, nI_add, pk_mul, pk_sub, nI_leI, nI_ltI, nI_eq, if_pos, if_neg, nn_neg, nn_ne, nn_ne2, nn_lt, nn_nlt, nn_nle, nn_le, nn_m1, li_0, li_1, li_2, li_3, li_4, li_5, li_9, li_10, li_19, li_20, li_26, li_40, li_60, li_64, li_97, li_48, li_100, li_199, li_200, li_1000, li_8200, li_9999, li_100000, a1]
          exact ⟨_, rfl, rfl⟩
    · rw [show (0 : Int32) = nI 0 from rfl, show (1 : Int32) = nI 1 from rfl, hw]
      refine ⟨nM 1, ?_, by simp (disch := omega) only [↓reduceIte, Nat.reduceSub, Nat.reduceAdd, Nat.reduceMul, Nat.sub_zero, Nat.add_zero, Nat.zero_add, Nat.mul_zero, lq_s, br_s, bd_s, bv_s, gd_tt, inB_nI, nI_clamp, sk_s, sk_n, pk_us, pk_un, nI_add, pk_mul, pk_sub, nI_leI, nI_ltI, nI_eq, if_pos, if_neg, nn_neg, nn_ne, nn_ne2, nn_lt, nn_nlt, nn_nle, nn_le, nn_m1, li_0, li_1, li_2, li_3, li_4, li_5, li_9, li_10, li_19, li_20, li_26, li_40, li_60, li_64, li_97, li_48, li_100, li_199, li_200, li_1000, li_8200, li_9999, li_100000]⟩
      rcases hk with hk | hk
      · rw [if_pos hk]; rfl
      · rw [if_neg hk.1, a1]
        rcases ix_cases x (n := a) (by omega) with q | q | ⟨j, hj, rfl⟩
        · exact absurd q hk.1
        · rw [if_pos q.2]; rfl
        · have hbj : b ≤ j := (nI_leI (by omega) (by omega)).mp hk.2
          have h100 : 100 ≤ j := by
            by_cases q : a < 100
            · have := hb3 q; omega
            · have := hb4 q; omega
          simp (disch := omega) only [↓reduceIte, Nat.reduceSub, Nat.reduceAdd, Nat.reduceMul, Nat.sub_zero, Nat.add_zero, Nat.zero_add, Nat.mul_zero, lq_s, br_s, bd_s, bv_s, gd_tt, inB_nI, nI_clamp, sk_s, sk_n, pk_us, pk_un, nI_add, pk_mul, pk_sub, nI_leI, nI_ltI, nI_eq, if_pos, if_neg, nn_neg, nn_ne, nn_ne2, nn_lt, nn_nlt, nn_nle, nn_le, nn_m1, li_0, li_1, li_2, li_3, li_4, li_5, li_9, li_10, li_19, li_20, li_26, li_40, li_60, li_64, li_97, li_48, li_100, li_199, li_200, li_1000, li_8200, li_9999, li_100000]
  rw [a2]
  by_cases h100 : a < 100
  · rw [if_neg (show ¬ (100 : Int32) ≤ nI a from nI_ge (b := 100) h100 (by decide))]
    obtain ⟨r, k1, k2⟩ := key a (by omega) (Nat.le_refl _) (fun _ => rfl) (fun q => absurd h100 q)
    exact ⟨r, k1, k2, h.next⟩
  · rw [if_pos (show (100 : Int32) ≤ nI a from nI_le (a := 100) (by omega) (by omega))]
    obtain ⟨r, k1, k2⟩ := key 100 (by omega) (by omega) (fun q => absurd q h100) (fun _ => rfl)
    exact ⟨r, k1, k2, h.next⟩
