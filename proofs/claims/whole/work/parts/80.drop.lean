/-! an item is taken off a list: what is left, by counting -/
def cw (f : Nat → Nat) (p : Nat) : Nat → Nat
  | 0 => 0
  | k + 1 => cw f p k + (if f k = p then 0 else 1)
def fK (f : Nat → Nat) (p : Nat) : Nat → Nat → Nat
  | 0, _ => 0
  | k + 1, j => if f k ≠ p ∧ cw f p k = j then f k else fK f p k j
theorem cw_le (f : Nat → Nat) (p : Nat) : ∀ k, cw f p k ≤ k := by
  intro k
  induction k with
  | zero => exact Nat.le_refl _
  | succ k ih =>
    rw [cw]
    by_cases h : f k = p
    · rw [if_pos h]; omega
    · rw [if_neg h]; omega
theorem cw_y {f : Nat → Nat} {p k : Nat} (h : f k = p) : cw f p (k + 1) = cw f p k := by rw [cw, if_pos h]; rfl
theorem cw_n {f : Nat → Nat} {p k : Nat} (h : ¬ f k = p) : cw f p (k + 1) = cw f p k + 1 := by rw [cw, if_neg h]
theorem fK_y {f : Nat → Nat} {p k j : Nat} (h : f k = p) : fK f p (k + 1) j = fK f p k j := by rw [fK, if_neg (fun q => q.1 h)]
theorem fK_new {f : Nat → Nat} {p k : Nat} (h : ¬ f k = p) : fK f p (k + 1) (cw f p k) = f k := by rw [fK, if_pos ⟨h, rfl⟩]
theorem fK_old {f : Nat → Nat} {p k j : Nat} (h : j < cw f p k) : fK f p (k + 1) j = fK f p k j := by rw [fK, if_neg (fun q => by have := q.2; omega)]
theorem fK_in {f : Nat → Nat} {p : Nat} {P : Nat → Prop} : ∀ k, (∀ i, i < k → f i ≠ p → P (f i)) → ∀ j, j < cw f p k → P (fK f p k j) := by
  intro k
  induction k with
  | zero => intro _ j hj; exact absurd hj (Nat.not_lt_zero _)
  | succ k ih =>
    intro h j hj
    by_cases hp : f k = p
    · rw [fK_y hp]
      rw [cw_y hp] at hj
      exact ih (fun i hi => h i (by omega)) j hj
    · rw [cw_n hp] at hj
      by_cases hjk : j = cw f p k
      · subst hjk
        rw [fK_new hp]
        exact h k (by omega) hp
      · rw [fK_old (by omega)]
        exact ih (fun i hi => h i (by omega)) j (by omega)
set_option maxHeartbeats 1000000 in
theorem k_dropLoop {x p m : Nat} {f : Nat → Nat} (hx : x < 200) (hm : m ≤ 40) (hp : p < 200) (hf : ∀ k, k < m → f k < 200) : ∀ (c k fuel : Nat) (σ : St), k + c = m → c < fuel → σ 3 x = nI m → (∀ j, j < cw f p k → σ 4 (40 * x + j) = nI (fK f p k j)) → (∀ j, k ≤ j → j < m → σ 4 (40 * x + j) = nI (f j)) → ∃ σ', kL_Items_dropFromList_11 fuel σ (nI x) (nI p) (nI (x * 40)) (nI (cw f p k)) (nI k) = some σ' ∧ (∀ j, j < cw f p m → σ' 4 (40 * x + j) = nI (fK f p m j)) ∧ (∀ q, (q < 40 * x ∨ 40 * x + 40 ≤ q) → σ' 4 q = σ 4 q) ∧ σ' 3 = upd (σ 3) x (nI (cw f p m)) ∧ ∀ k, k ≠ 3 → k ≠ 4 → σ' k = σ k := by
  intro c
  induction c with
  | zero =>
    intro k fuel σ hk hfu h3 h4 h5
    obtain ⟨g, rfl⟩ : ∃ g, fuel = g + 1 := ⟨fuel - 1, by omega⟩
    have hk : k = m := by omega
    subst hk
    refine ⟨sk σ 3 (upd (σ 3) x (nI (cw f p k))), ?_, fun j hj => by simp (disch := omega) only [↓reduceIte, Nat.reduceSub, Nat.reduceAdd, Nat.reduceMul, Nat.sub_zero, Nat.add_zero, Nat.zero_add, Nat.mul_zero, lq_s, br_s, bd_s, bv_s, gd_tt, inB_nI, nI_clamp, sk_s, sk_n, pk_us, pk_un, nI_add, pk_mul, pk_sub, nI_leI, nI_ltI, nI_eq, if_pos, if_neg, nn_neg, nn_ne, nn_ne2, nn_lt, nn_nlt, nn_nle, nn_le, nn_m1, li_0, li_1, li_2, li_3, li_4, li_5, li_9, li_10, li_19, li_20, li_26, li_40, li_60, li_64, li_97, li_48, li_100, li_199, li_200, li_1000, li_8200, li_9999, li_100000]; exact h4 j hj, fun q hq => by simp (disch := omega) only [↓reduceIte, Nat.reduceSub, Nat.reduceAdd, Nat.reduceMul, Nat.sub_zero, Nat.add_zero, Nat.zero_add, Nat.mul_zero, lq_s, br_s, bd_s, bv_s, gd_tt, inB_nI, nI_clamp, sk_s, sk_n, pk_us, pk_un, nI_add, pk_mul, pk_sub, nI_leI, nI_ltI, nI_eq, if_pos, if_neg, nn_neg, nn_ne, nn_ne2, nn_lt, nn_nlt, nn_nle, nn_le, nn_m1, li_0, li_1, li_2, li_3, li_4, li_5, li_9, li_10, li_19, li_20, li_26, li_40, li_60, li_64, li_97, li_48, li_100, li_199, li_200, li_1000, li_8200, li_9999, li_100000], by simp (disch := omega) only [↓reduceIte, Nat.reduceSub, Nat.reduceAdd, Nat.reduceMul, Nat.sub_zero, Nat.add_zero, Nat.zero_add, Nat.mul_zero, lq_s, br_s, bd_s, bv_s, gd_tt, inB_nI, nI_clamp, sk_s, sk_n, pk_us, pk_un, nI_add, pk_mul, pk_sub, nI_leI, nI_ltI, nI_eq, if_pos, if_neg, nn_neg, nn_ne, nn_ne2, nn_lt, nn_nlt, nn_nle, nn_le, nn_m1, li_0, li_1, li_2, li_3, li_4, li_5, li_9, li_10, li_19, li_20, li_26, li_40, li_60, li_64, li_97, li_48, li_100, li_199, li_200, li_1000, li_8200, li_9999, li_100000], fun k h3 h4 => by simp (disch := omega) only [↓reduceIte, Nat.reduceSub, Nat.reduceAdd, Nat.reduceMul, Nat.sub_zero, Nat.add_zero, Nat.zero_add, Nat.mul_zero, lq_s, br_s, bd_s, bv_s, gd_tt, inB_nI, nI_clamp, sk_s, sk_n, pk_us, pk_un, nI_add, pk_mul, pk_sub, nI_leI, nI_ltI, nI_eq, if_pos, if_neg, nn_neg, nn_ne, nn_ne2, nn_lt, nn_nlt, nn_nle, nn_le, nn_m1, li_0, li_1, li_2, li_3, li_4, li_5, li_9, li_10, li_19, li_20, li_26, li_40, li_60, li_64, li_97, li_48, li_100, li_199, li_200, li_1000, li_8200, li_9999, li_100000]⟩
    rw [kL_Items_dropFromList_11]
    unfold kJ_Items_dropFromList_59
    simp (disch := omega) only [↓reduceIte, Nat.reduceSub, Nat.reduceAdd, Nat.reduceMul, Nat.sub_zero, Nat.add_zero, Nat.zero_add, Nat.mul_zero, lq_s, br_s, bd_s, bv_s, gd_tt, inB_nI, nI_clamp, sk_s, sk_n, pk_us, pk_un, nI_add, pk_mul, pk_sub, nI_leI, nI_ltI, nI_eq, if_pos, if_neg, nn_neg, nn_ne, nn_ne2, nn_lt, nn_nlt, nn_nle, nn_le, nn_m1, li_0, li_1, li_2, li_3, li_4, li_5, li_9, li_10, li_19, li_20, li_26, li_40, li_60, li_64, li_97, li_48, li_100, li_199, li_200, li_1000, li_8200, li_9999, li_100000, h3]
  | succ c ih =>
    intro k fuel σ hk hfu h3 h4 h5
    obtain ⟨g, rfl⟩ : ∃ g, fuel = g + 1 := ⟨fuel - 1, by omega⟩
    have e := h5 k (Nat.le_refl _) (by omega)
    have hle := cw_le f p k
    have hfk := hf k (by omega)
    rw [show 40 * x + k = x * 40 + k by omega] at e
    rw [kL_Items_dropFromList_11]
    unfold kJ_Items_dropFromList_53
    by_cases hv : f k = p
    · rw [hv] at e
      simp (disch := omega) only [↓reduceIte, Nat.reduceSub, Nat.reduceAdd, Nat.reduceMul, Nat.sub_zero, Nat.add_zero, Nat.zero_add, Nat.mul_zero, lq_s, br_s, bd_s, bv_s, gd_tt, inB_nI, nI_clamp, sk_s, sk_n, pk_us, pk_un, nI_add, pk_mul, pk_sub, nI_leI, nI_ltI, nI_eq, if_pos, if_neg, nn_neg, nn_ne, nn_ne2, nn_lt, nn_nlt, nn_nle, nn_le, nn_m1, li_0, li_1, li_2, li_3, li_4, li_5, li_9, li_10, li_19, li_20, li_26, li_40, li_60, li_64, li_97, li_48, li_100, li_199, li_200, li_1000, li_8200, li_9999, li_100000, h3, e]
      have := ih (k + 1) g σ (by omega) (by omega) h3 (fun j hj => by rw [cw_y hv] at hj; rw [fK_y hv]; exact h4 j hj) (fun j h1 h2 => h5 j (by omega) h2)
      rw [cw_y hv] at this
      exact this
    · simp (disch := omega) only [↓reduceIte, Nat.reduceSub, Nat.reduceAdd, Nat.reduceMul, Nat.sub_zero, Nat.add_zero, Nat.zero_add, Nat.mul_zero, lq_s, br_s, bd_s, bv_s, gd_tt, inB_nI, nI_clamp, sk_s, sk_n, pk_us, pk_un, nI_add, pk_mul, pk_sub, nI_leI, nI_ltI, nI_eq, if_pos, if_neg, nn_neg, nn_ne, nn_ne2, nn_lt, nn_nlt, nn_nle, nn_le, nn_m1, li_0, li_1, li_2, li_3, li_4, li_5, li_9, li_10, li_19, li_20, li_26, li_40, li_60, li_64, li_97, li_48, li_100, li_199, li_200, li_1000, li_8200, li_9999, li_100000, h3, e]
      have := ih (k + 1) g (sk σ 4 (upd (σ 4) (x * 40 + cw f p k) (nI (f k)))) (by omega) (by omega) (by simp (disch := omega) only [↓reduceIte, Nat.reduceSub, Nat.reduceAdd, Nat.reduceMul, Nat.sub_zero, Nat.add_zero, Nat.zero_add, Nat.mul_zero, lq_s, br_s, bd_s, bv_s, gd_tt, inB_nI, nI_clamp, sk_s, sk_n, pk_us, pk_un, nI_add, pk_mul, pk_sub, nI_leI, nI_ltI, nI_eq, if_pos, if_neg, nn_neg, nn_ne, nn_ne2, nn_lt, nn_nlt, nn_nle, nn_le, nn_m1, li_0, li_1, li_2, li_3, li_4, li_5, li_9, li_10, li_19, li_20, li_26, li_40, li_60, li_64, li_97, li_48, li_100, li_199, li_200, li_1000, li_8200, li_9999, li_100000]; exact h3) (fun j hj => by
        rw [cw_n hv] at hj
        by_cases hjc : j = cw f p k
        · subst hjc
          rw [fK_new hv, show 40 * x + cw f p k = x * 40 + cw f p k by omega]
          simp (disch := omega) only [↓reduceIte, Nat.reduceSub, Nat.reduceAdd, Nat.reduceMul, Nat.sub_zero, Nat.add_zero, Nat.zero_add, Nat.mul_zero, lq_s, br_s, bd_s, bv_s, gd_tt, inB_nI, nI_clamp, sk_s, sk_n, pk_us, pk_un, nI_add, pk_mul, pk_sub, nI_leI, nI_ltI, nI_eq, if_pos, if_neg, nn_neg, nn_ne, nn_ne2, nn_lt, nn_nlt, nn_nle, nn_le, nn_m1, li_0, li_1, li_2, li_3, li_4, li_5, li_9, li_10, li_19, li_20, li_26, li_40, li_60, li_64, li_97, li_48, li_100, li_199, li_200, li_1000, li_8200, li_9999, li_100000]
        · rw [fK_old (by omega)]
          simp (disch := omega) only [↓reduceIte, Nat.reduceSub, Nat.reduceAdd, Nat.reduceMul, Nat.sub_zero, Nat.add_zero, Nat.zero_add, Nat.mul_zero, lq_s, br_s, bd_s, bv_s, gd_tt, inB_nI, nI_clamp, sk_s, sk_n, pk_us, pk_un, nI_add, pk_mul, pk_sub, nI_leI, nI_ltI, nI_eq, if_pos, if_neg, nn_neg, nn_ne, nn_ne2, nn_lt, nn_nlt, nn_nle, nn_le, nn_m1, li_0, li_1, li_2, li_3, li_4, li_5, li_9, li_10, li_19, li_20, li_26, li_40, li_60, li_64, li_97, li_48, li_100, li_199, li_200, li_1000, li_8200, li_9999, li_100000]
          exact h4 j (by omega)) (fun j h1 h2 => by
        simp (disch := omega) only [↓reduceIte, Nat.reduceSub, Nat.reduceAdd, Nat.reduceMul, Nat.sub_zero, Nat.add_zero, Nat.zero_add, Nat.mul_zero, lq_s, br_s, bd_s, bv_s, gd_tt, inB_nI, nI_clamp, sk_s, sk_n, pk_us, pk_un, nI_add, pk_mul, pk_sub, nI_leI, nI_ltI, nI_eq, if_pos, if_neg, nn_neg, nn_ne, nn_ne2, nn_lt, nn_nlt, nn_nle, nn_le, nn_m1, li_0, li_1, li_2, li_3, li_4, li_5, li_9, li_10, li_19, li_20, li_26, li_40, li_60, li_64, li_97, li_48, li_100, li_199, li_200, li_1000, li_8200, li_9999, li_100000]
        exact h5 j (by omega) h2)
      rw [cw_n hv] at this
      obtain ⟨σ', a1, a2, a3, a4, a5⟩ := this
      refine ⟨σ', a1, a2, fun q hq => ?_, ?_, fun k h3 h4 => ?_⟩
      · rw [a3 q hq]
        simp (disch := omega) only [↓reduceIte, Nat.reduceSub, Nat.reduceAdd, Nat.reduceMul, Nat.sub_zero, Nat.add_zero, Nat.zero_add, Nat.mul_zero, lq_s, br_s, bd_s, bv_s, gd_tt, inB_nI, nI_clamp, sk_s, sk_n, pk_us, pk_un, nI_add, pk_mul, pk_sub, nI_leI, nI_ltI, nI_eq, if_pos, if_neg, nn_neg, nn_ne, nn_ne2, nn_lt, nn_nlt, nn_nle, nn_le, nn_m1, li_0, li_1, li_2, li_3, li_4, li_5, li_9, li_10, li_19, li_20, li_26, li_40, li_60, li_64, li_97, li_48, li_100, li_199, li_200, li_1000, li_8200, li_9999, li_100000]
      · rw [a4]
        simp (disch := omega) only [↓reduceIte, Nat.reduceSub, Nat.reduceAdd, Nat.reduceMul, Nat.sub_zero, Nat.add_zero, Nat.zero_add, Nat.mul_zero, lq_s, br_s, bd_s, bv_s, gd_tt, inB_nI, nI_clamp, sk_s, sk_n, pk_us, pk_un, nI_add, pk_mul, pk_sub, nI_leI, nI_ltI, nI_eq, if_pos, if_neg, nn_neg, nn_ne, nn_ne2, nn_lt, nn_nlt, nn_nle, nn_le, nn_m1, li_0, li_1, li_2, li_3, li_4, li_5, li_9, li_10, li_19, li_20, li_26, li_40, li_60, li_64, li_97, li_48, li_100, li_199, li_200, li_1000, li_8200, li_9999, li_100000]
      · rw [a5 k h3 h4]
        simp (disch := omega) only [↓reduceIte, Nat.reduceSub, Nat.reduceAdd, Nat.reduceMul, Nat.sub_zero, Nat.add_zero, Nat.zero_add, Nat.mul_zero, lq_s, br_s, bd_s, bv_s, gd_tt, inB_nI, nI_clamp, sk_s, sk_n, pk_us, pk_un, nI_add, pk_mul, pk_sub, nI_leI, nI_ltI, nI_eq, if_pos, if_neg, nn_neg, nn_ne, nn_ne2, nn_lt, nn_nlt, nn_nle, nn_le, nn_m1, li_0, li_1, li_2, li_3, li_4, li_5, li_9, li_10, li_19, li_20, li_26, li_40, li_60, li_64, li_97, li_48, li_100, li_199, li_200, li_1000, li_8200, li_9999, li_100000]
theorem r_takeLoop {x m : Nat} (hx : x < 200) (hm : m < 40) : ∀ (c s fuel : Nat) (σ : St), s + c = m → c < fuel → σ 3 x = nI m → ∃ σ', rL_Md_takeOff_12 fuel σ (nI x) (nI s) = some σ' ∧ (∀ j, s ≤ j → j < m → σ' 4 (40 * x + j) = σ 4 (40 * x + j + 1)) ∧ (∀ q, ¬ (40 * x + s ≤ q ∧ q < 40 * x + m) → σ' 4 q = σ 4 q) ∧ ∀ k, k ≠ 4 → σ' k = σ k := by
  intro c
  induction c with
  | zero =>
    intro s fuel σ hs hf h3
    obtain ⟨g, rfl⟩ : ∃ g, fuel = g + 1 := ⟨fuel - 1, by omega⟩
    refine ⟨σ, ?_, fun j h1 h2 => by omega, fun _ _ => rfl, fun _ _ => rfl⟩
    rw [rL_Md_takeOff_12]
    simp (disch := omega) only [↓reduceIte, Nat.reduceSub, Nat.reduceAdd, Nat.reduceMul, Nat.sub_zero, Nat.add_zero, Nat.zero_add, Nat.mul_zero, lq_s, br_s, bd_s, bv_s, gd_tt, inB_nI, nI_clamp, sk_s, sk_n, pk_us, pk_un, nI_add, pk_mul, pk_sub, nI_leI, nI_ltI, nI_eq, if_pos, if_neg, nn_neg, nn_ne, nn_ne2, nn_lt, nn_nlt, nn_nle, nn_le, nn_m1, li_0, li_1, li_2, li_3, li_4, li_5, li_9, li_10, li_19, li_20, li_26, li_40, li_60, li_64, li_97, li_48, li_100, li_199, li_200, li_1000, li_8200, li_9999, li_100000, h3]
  | succ c ih =>
    intro s fuel σ hs hf h3
    obtain ⟨g, rfl⟩ : ∃ g, fuel = g + 1 := ⟨fuel - 1, by omega⟩
    by_cases h40 : 40 * x + s + 1 < 8000
    · rw [rL_Md_takeOff_12]
      simp (disch := omega) only [↓reduceIte, Nat.reduceSub, Nat.reduceAdd, Nat.reduceMul, Nat.sub_zero, Nat.add_zero, Nat.zero_add, Nat.mul_zero, lq_s, br_s, bd_s, bv_s, gd_tt, inB_nI, nI_clamp, sk_s, sk_n, pk_us, pk_un, nI_add, pk_mul, pk_sub, nI_leI, nI_ltI, nI_eq, if_pos, if_neg, nn_neg, nn_ne, nn_ne2, nn_lt, nn_nlt, nn_nle, nn_le, nn_m1, li_0, li_1, li_2, li_3, li_4, li_5, li_9, li_10, li_19, li_20, li_26, li_40, li_60, li_64, li_97, li_48, li_100, li_199, li_200, li_1000, li_8200, li_9999, li_100000, h3]
      obtain ⟨σ', a1, a2, a3, a4⟩ := ih (s + 1) g (sk σ 4 (upd (σ 4) (40 * x + s) (σ 4 (40 * x + s + 1)))) (by omega) (by omega) (by simp (disch := omega) only [↓reduceIte, Nat.reduceSub, Nat.reduceAdd, Nat.reduceMul, Nat.sub_zero, Nat.add_zero, Nat.zero_add, Nat.mul_zero, lq_s, br_s, bd_s, bv_s, gd_tt, inB_nI, nI_clamp, sk_s, sk_n, pk_us, pk_un, nI_add, pk_mul, pk_sub, nI_leI, nI_ltI, nI_eq, if_pos, if_neg, nn_neg, nn_ne, nn_ne2, nn_lt, nn_nlt, nn_nle, nn_le, nn_m1, li_0, li_1, li_2, li_3, li_4, li_5, li_9, li_10, li_19, li_20, li_26, li_40, li_60, li_64, li_97, li_48, li_100, li_199, li_200, li_1000, li_8200, li_9999, li_100000]; exact h3)
      refine ⟨σ', a1, fun j h1 h2 => ?_, fun q hq => ?_, fun k hk => ?_⟩
      · by_cases hjs : j = s
        · subst hjs
          rw [a3 _ (by omega)]
          simp (disch := omega) only [↓reduceIte, Nat.reduceSub, Nat.reduceAdd, Nat.reduceMul, Nat.sub_zero, Nat.add_zero, Nat.zero_add, Nat.mul_zero, lq_s, br_s, bd_s, bv_s, gd_tt, inB_nI, nI_clamp, sk_s, sk_n, pk_us, pk_un, nI_add, pk_mul, pk_sub, nI_leI, nI_ltI, nI_eq, if_pos, if_neg, nn_neg, nn_ne, nn_ne2, nn_lt, nn_nlt, nn_nle, nn_le, nn_m1, li_0, li_1, li_2, li_3, li_4, li_5, li_9, li_10, li_19, li_20, li_26, li_40, li_60, li_64, li_97, li_48, li_100, li_199, li_200, li_1000, li_8200, li_9999, li_100000]
        · rw [a2 j (by omega) h2]
          simp (disch := omega) only [↓reduceIte, Nat.reduceSub, Nat.reduceAdd, Nat.reduceMul, Nat.sub_zero, Nat.add_zero, Nat.zero_add, Nat.mul_zero, lq_s, br_s, bd_s, bv_s, gd_tt, inB_nI, nI_clamp, sk_s, sk_n, pk_us, pk_un, nI_add, pk_mul, pk_sub, nI_leI, nI_ltI, nI_eq, if_pos, if_neg, nn_neg, nn_ne, nn_ne2, nn_lt, nn_nlt, nn_nle, nn_le, nn_m1, li_0, li_1, li_2, li_3, li_4, li_5, li_9, li_10, li_19, li_20, li_26, li_40, li_60, li_64, li_97, li_48, li_100, li_199, li_200, li_1000, li_8200, li_9999, li_100000]
      · rw [a3 q (by omega)]
        have : q ≠ 40 * x + s := by omega
        simp (disch := omega) only [↓reduceIte, Nat.reduceSub, Nat.reduceAdd, Nat.reduceMul, Nat.sub_zero, Nat.add_zero, Nat.zero_add, Nat.mul_zero, lq_s, br_s, bd_s, bv_s, gd_tt, inB_nI, nI_clamp, sk_s, sk_n, pk_us, pk_un, nI_add, pk_mul, pk_sub, nI_leI, nI_ltI, nI_eq, if_pos, if_neg, nn_neg, nn_ne, nn_ne2, nn_lt, nn_nlt, nn_nle, nn_le, nn_m1, li_0, li_1, li_2, li_3, li_4, li_5, li_9, li_10, li_19, li_20, li_26, li_40, li_60, li_64, li_97, li_48, li_100, li_199, li_200, li_1000, li_8200, li_9999, li_100000]
      · rw [a4 k hk]
        simp (disch := omega) only [↓reduceIte, Nat.reduceSub, Nat.reduceAdd, Nat.reduceMul, Nat.sub_zero, Nat.add_zero, Nat.zero_add, Nat.mul_zero, lq_s, br_s, bd_s, bv_s, gd_tt, inB_nI, nI_clamp, sk_s, sk_n, pk_us, pk_un, nI_add, pk_mul, pk_sub, nI_leI, nI_ltI, nI_eq, if_pos, if_neg, nn_neg, nn_ne, nn_ne2, nn_lt, nn_nlt, nn_nle, nn_le, nn_m1, li_0, li_1, li_2, li_3, li_4, li_5, li_9, li_10, li_19, li_20, li_26, li_40, li_60, li_64, li_97, li_48, li_100, li_199, li_200, li_1000, li_8200, li_9999, li_100000]
    · omega
theorem r_takeOff {x s m : Nat} {σ : St} (hx : x < 200) (hm : m < 40) (hs : s ≤ m) (h3 : σ 3 x = nI (m + 1)) : ∃ σ', rM_Md_takeOff σ (nI x) (nI s) = some σ' ∧ σ' 3 = upd (σ 3) x (nI m) ∧ (∀ j, s ≤ j → j < m → σ' 4 (40 * x + j) = σ 4 (40 * x + j + 1)) ∧ (∀ q, ¬ (40 * x + s ≤ q ∧ q < 40 * x + m) → σ' 4 q = σ 4 q) ∧ ∀ k, k ≠ 3 → k ≠ 4 → σ' k = σ k := by
  have hFU := FU_ge
  obtain ⟨σ', a1, a2, a3, a4⟩ := r_takeLoop (x := x) (m := m) hx hm (m - s) s FU (sk σ 3 (upd (σ 3) x (nI m))) (by omega) (by omega) (by simp (disch := omega) only [↓reduceIte, Nat.reduceSub, Nat.reduceAdd, Nat.reduceMul, Nat.sub_zero, Nat.add_zero, Nat.zero_add, Nat.mul_zero, lq_s, br_s, bd_s, bv_s, gd_tt, inB_nI, nI_clamp, sk_s, sk_n, pk_us, pk_un, nI_add, pk_mul, pk_sub, nI_leI, nI_ltI, nI_eq, if_pos, if_neg, nn_neg, nn_ne, nn_ne2, nn_lt, nn_nlt, nn_nle, nn_le, nn_m1, li_0, li_1, li_2, li_3, li_4, li_5, li_9, li_10, li_19, li_20, li_26, li_40, li_60, li_64, li_97, li_48, li_100, li_199, li_200, li_1000, li_8200, li_9999, li_100000])
  refine ⟨σ', ?_, ?_, fun j h1 h2 => ?_, fun q hq => ?_, fun k h3 h4 => ?_⟩
  · unfold rM_Md_takeOff
    simp (disch := omega) only [↓reduceIte, Nat.reduceSub, Nat.reduceAdd, Nat.reduceMul, Nat.sub_zero, Nat.add_zero, Nat.zero_add, Nat.mul_zero, lq_s, br_s, bd_s, bv_s, gd_tt, inB_nI, nI_clamp, sk_s, sk_n, pk_us, pk_un, nI_add, pk_mul, pk_sub, nI_leI, nI_ltI, nI_eq, if_pos, if_neg, nn_neg, nn_ne, nn_ne2, nn_lt, nn_nlt, nn_nle, nn_le, nn_m1, li_0, li_1, li_2, li_3, li_4, li_5, li_9, li_10, li_19, li_20, li_26, li_40, li_60, li_64, li_97, li_48, li_100, li_199, li_200, li_1000, li_8200, li_9999, li_100000, h3, Nat.add_sub_cancel, a1]
  · rw [a4 3 (by decide)]
    simp (disch := omega) only [↓reduceIte, Nat.reduceSub, Nat.reduceAdd, Nat.reduceMul, Nat.sub_zero, Nat.add_zero, Nat.zero_add, Nat.mul_zero, lq_s, br_s, bd_s, bv_s, gd_tt, inB_nI, nI_clamp, sk_s, sk_n, pk_us, pk_un, nI_add, pk_mul, pk_sub, nI_leI, nI_ltI, nI_eq, if_pos, if_neg, nn_neg, nn_ne, nn_ne2, nn_lt, nn_nlt, nn_nle, nn_le, nn_m1, li_0, li_1, li_2, li_3, li_4, li_5, li_9, li_10, li_19, li_20, li_26, li_40, li_60, li_64, li_97, li_48, li_100, li_199, li_200, li_1000, li_8200, li_9999, li_100000]
  · rw [a2 j h1 h2]
    simp (disch := omega) only [↓reduceIte, Nat.reduceSub, Nat.reduceAdd, Nat.reduceMul, Nat.sub_zero, Nat.add_zero, Nat.zero_add, Nat.mul_zero, lq_s, br_s, bd_s, bv_s, gd_tt, inB_nI, nI_clamp, sk_s, sk_n, pk_us, pk_un, nI_add, pk_mul, pk_sub, nI_leI, nI_ltI, nI_eq, if_pos, if_neg, nn_neg, nn_ne, nn_ne2, nn_lt, nn_nlt, nn_nle, nn_le, nn_m1, li_0, li_1, li_2, li_3, li_4, li_5, li_9, li_10, li_19, li_20, li_26, li_40, li_60, li_64, li_97, li_48, li_100, li_199, li_200, li_1000, li_8200, li_9999, li_100000]
  · rw [a3 q hq]
    simp (disch := omega) only [↓reduceIte, Nat.reduceSub, Nat.reduceAdd, Nat.reduceMul, Nat.sub_zero, Nat.add_zero, Nat.zero_add, Nat.mul_zero, lq_s, br_s, bd_s, bv_s, gd_tt, inB_nI, nI_clamp, sk_s, sk_n, pk_us, pk_un, nI_add, pk_mul, pk_sub, nI_leI, nI_ltI, nI_eq, if_pos, if_neg, nn_neg, nn_ne, nn_ne2, nn_lt, nn_nlt, nn_nle, nn_le, nn_m1, li_0, li_1, li_2, li_3, li_4, li_5, li_9, li_10, li_19, li_20, li_26, li_40, li_60, li_64, li_97, li_48, li_100, li_199, li_200, li_1000, li_8200, li_9999, li_100000]
  · rw [a4 k h4]
    simp (disch := omega) only [↓reduceIte, Nat.reduceSub, Nat.reduceAdd, Nat.reduceMul, Nat.sub_zero, Nat.add_zero, Nat.zero_add, Nat.mul_zero, lq_s, br_s, bd_s, bv_s, gd_tt, inB_nI, nI_clamp, sk_s, sk_n, pk_us, pk_un, nI_add, pk_mul, pk_sub, nI_leI, nI_ltI, nI_eq, if_pos, if_neg, nn_neg, nn_ne, nn_ne2, nn_lt, nn_nlt, nn_nle, nn_le, nn_m1, li_0, li_1, li_2, li_3, li_4, li_5, li_9, li_10, li_19, li_20, li_26, li_40, li_60, li_64, li_97, li_48, li_100, li_199, li_200, li_1000, li_8200, li_9999, li_100000]
set_option maxHeartbeats 1000000 in
theorem r_dropLoop {x p m : Nat} {f : Nat → Nat} (K : St → Int32 → Int32 → Option St) (hx : x < 200) (hm : m ≤ 40) (hp : p < 200) (hf : ∀ k, k < m → f k < 200) : ∀ (c k fuel : Nat) (σ : St), k + c = m → c < fuel → σ 3 x = nI (cw f p k + c) → (∀ j, j < cw f p k → σ 4 (40 * x + j) = nI (fK f p k j)) → (∀ t, t < c → σ 4 (40 * x + (cw f p k + t)) = nI (f (k + t))) → ∃ σ', rL_Md_takeOffAll_12 K fuel σ (nI p) (nI x) (nI (cw f p k)) = rJ_Md_takeOffAll_52 K σ' (nI p) (nI x) ∧ (∀ j, j < cw f p m → σ' 4 (40 * x + j) = nI (fK f p m j)) ∧ (∀ q, (q < 40 * x ∨ 40 * x + 40 ≤ q) → σ' 4 q = σ 4 q) ∧ σ' 3 x = nI (cw f p m) ∧ (∀ i, i ≠ x → σ' 3 i = σ 3 i) ∧ ∀ k, k ≠ 3 → k ≠ 4 → σ' k = σ k := by
  intro c
  induction c with
  | zero =>
    intro k fuel σ hk hfu h3 h4 h5
    obtain ⟨g, rfl⟩ : ∃ g, fuel = g + 1 := ⟨fuel - 1, by omega⟩
    have hk : k = m := by omega
    subst hk
    have hle := cw_le f p k
    refine ⟨σ, ?_, h4, fun _ _ => rfl, h3, fun _ _ => rfl, fun _ _ _ => rfl⟩
    rw [rL_Md_takeOffAll_12]
    simp (disch := omega) only [↓reduceIte, Nat.reduceSub, Nat.reduceAdd, Nat.reduceMul, Nat.sub_zero, Nat.add_zero, Nat.zero_add, Nat.mul_zero, lq_s, br_s, bd_s, bv_s, gd_tt, inB_nI, nI_clamp, sk_s, sk_n, pk_us, pk_un, nI_add, pk_mul, pk_sub, nI_leI, nI_ltI, nI_eq, if_pos, if_neg, nn_neg, nn_ne, nn_ne2, nn_lt, nn_nlt, nn_nle, nn_le, nn_m1, li_0, li_1, li_2, li_3, li_4, li_5, li_9, li_10, li_19, li_20, li_26, li_40, li_60, li_64, li_97, li_48, li_100, li_199, li_200, li_1000, li_8200, li_9999, li_100000, h3]
  | succ c ih =>
    intro k fuel σ hk hfu h3 h4 h5
    obtain ⟨g, rfl⟩ : ∃ g, fuel = g + 1 := ⟨fuel - 1, by omega⟩
    have e := h5 0 (by omega)
    rw [Nat.add_zero, Nat.add_zero] at e
    have hle := cw_le f p k
    have hfk := hf k (by omega)
    rw [rL_Md_takeOffAll_12]
    by_cases hv : f k = p
    · rw [hv] at e
      obtain ⟨σ1, a1, a2, a3, a4, a5⟩ := r_takeOff (x := x) (s := cw f p k) (m := cw f p k + c) hx (by omega) (by omega) h3
      simp (disch := omega) only [↓reduceIte, Nat.reduceSub, Nat.reduceAdd, Nat.reduceMul, Nat.sub_zero, Nat.add_zero, Nat.zero_add, Nat.mul_zero, lq_s, br_s, bd_s, bv_s, gd_tt, inB_nI, nI_clamp, sk_s, sk_n, pk_us, pk_un, nI_add, pk_mul, pk_sub, nI_leI, nI_ltI, nI_eq, if_pos, if_neg, nn_neg, nn_ne, nn_ne2, nn_lt, nn_nlt, nn_nle, nn_le, nn_m1, li_0, li_1, li_2, li_3, li_4, li_5, li_9, li_10, li_19, li_20, li_26, li_40, li_60, li_64, li_97, li_48, li_100, li_199, li_200, li_1000, li_8200, li_9999, li_100000, h3, e, a1]
      have := ih (k + 1) g σ1 (by omega) (by omega) (by rw [a2, cw_y hv, pk_us]) (fun j hj => by
        rw [cw_y hv] at hj
        rw [fK_y hv, a4 _ (by omega)]
        exact h4 j hj) (fun t ht => by
        rw [cw_y hv, a3 (cw f p k + t) (by omega) (by omega)]
        have := h5 (t + 1) (by omega)
        rw [show 40 * x + (cw f p k + t) + 1 = 40 * x + (cw f p k + (t + 1)) by omega, this, show k + (t + 1) = k + 1 + t by omega])
      rw [cw_y hv] at this
      obtain ⟨σ', b1, b2, b3, b4, b5, b6⟩ := this
      refine ⟨σ', b1, b2, fun q hq => ?_, b4, fun i hi => ?_, fun k h3 h4 => ?_⟩
      · rw [b3 q hq, a4 q (by omega)]
      · rw [b5 i hi, a2, pk_un hi]
      · rw [b6 k h3 h4, a5 k h3 h4]
    · simp (disch := omega) only [↓reduceIte, Nat.reduceSub, Nat.reduceAdd, Nat.reduceMul, Nat.sub_zero, Nat.add_zero, Nat.zero_add, Nat.mul_zero, lq_s, br_s, bd_s, bv_s, gd_tt, inB_nI, nI_clamp, sk_s, sk_n, pk_us, pk_un, nI_add, pk_mul, pk_sub, nI_leI, nI_ltI, nI_eq, if_pos, if_neg, nn_neg, nn_ne, nn_ne2, nn_lt, nn_nlt, nn_nle, nn_le, nn_m1, li_0, li_1, li_2, li_3, li_4, li_5, li_9, li_10, li_19, li_20, li_26, li_40, li_60, li_64, li_97, li_48, li_100, li_199, li_200, li_1000, li_8200, li_9999, li_100000, h3, e]
      have := ih (k + 1) g σ (by omega) (by omega) (by rw [h3, cw_n hv]; congr 1; omega) (fun j hj => by
        rw [cw_n hv] at hj
        by_cases hjc : j = cw f p k
        · subst hjc
          rw [fK_new hv]
          exact e
        · rw [fK_old (by omega)]
          exact h4 j (by omega)) (fun t ht => by
        rw [cw_n hv]
        have := h5 (t + 1) (by omega)
        rw [show 40 * x + (cw f p k + 1 + t) = 40 * x + (cw f p k + (t + 1)) by omega, this, show k + (t + 1) = k + 1 + t by omega])
      rw [cw_n hv] at this
      exact this
/-- the lists without an item, in the nodes before m -/
def kcF (kc : Nat → Nat) (kd : Nat → Nat → Nat) (p m : Nat) : Nat → Nat := fun i => if i < m then cw (kd i) p (kc i) else kc i
def kdF (kc : Nat → Nat) (kd : Nat → Nat → Nat) (p m : Nat) : Nat → Nat → Nat := fun i k => if i < m then fK (kd i) p (kc i) k else kd i k
theorem IV.drop {n : Nat} {pg kc : Nat → Nat} {kd : Nat → Nat → Nat} {pa ct : Nat → Int32} {ow : Nat → Nat → Int32} {s s' : St} {z p m : Nat} (h : IV n pg (kcF kc kd p m) (kdF kc kd p m) pa ct ow s z) (hk : ∀ i, i < n → kc i ≤ 40) (hmn : m < n) (hz : s' z = s z) (ho : ∀ k, k < 6 → k ≠ 3 → k ≠ 4 → s' k = s k) (h3 : s' 3 m = nI (cw (kd m) p (kc m))) (h3o : ∀ i, i ≠ m → s' 3 i = s 3 i) (h4 : ∀ j, j < cw (kd m) p (kc m) → s' 4 (40 * m + j) = nI (fK (kd m) p (kc m) j)) (h4o : ∀ q, (q < 40 * m ∨ 40 * m + 40 ≤ q) → s' 4 q = s 4 q) : IV n pg (kcF kc kd p (m + 1)) (kdF kc kd p (m + 1)) pa ct ow s' z := by
  obtain ⟨q1, q2, q3, q4, q5, q6, q7⟩ := h
  refine ⟨by rw [hz]; exact q1, by rw [ho 0 (by omega) (by omega) (by omega)]; exact q2, by rw [ho 1 (by omega) (by omega) (by omega)]; exact q3, by rw [ho 2 (by omega) (by omega) (by omega)]; exact q4, fun i hi => ?_, fun i k hi hk2 => ?_, by rw [ho 5 (by omega) (by omega) (by omega)]; exact q7⟩
  · unfold kcF
    by_cases him : i = m
    · subst him
      rw [if_pos (by omega)]; exact h3
    · rw [h3o i him, q5 i hi]
      unfold kcF
      by_cases hl : i < m
      · rw [if_pos hl, if_pos (by omega)]
      · rw [if_neg hl, if_neg (by omega)]
  · unfold kcF at hk2
    unfold kdF
    by_cases him : i = m
    · subst him
      rw [if_pos (by omega)] at hk2 ⊢
      exact h4 k hk2
    · have hkk : k < kcF kc kd p m i := by
        unfold kcF
        by_cases hl : i < m
        · rw [if_pos hl]; rw [if_pos (by omega)] at hk2; exact hk2
        · rw [if_neg hl]; rw [if_neg (by omega)] at hk2; exact hk2
      have hk40 : k < 40 := by
        have h40 := hk i hi
        have hc := cw_le (kd i) p (kc i)
        by_cases hl : i < m + 1
        · rw [if_pos hl] at hk2; omega
        · rw [if_neg hl] at hk2; omega
      rw [h4o _ (by omega), q6 i k hi hkk]
      unfold kdF
      by_cases hl : i < m
      · rw [if_pos hl, if_pos (by omega)]
      · rw [if_neg hl, if_neg (by omega)]
theorem kF_at {kc : Nat → Nat} {kd : Nat → Nat → Nat} {p m : Nat} : kcF kc kd p m m = kc m ∧ ∀ k, kdF kc kd p m m k = kd m k := by
  unfold kcF kdF
  refine ⟨if_neg (by omega), fun k => if_neg (by omega)⟩
set_option maxHeartbeats 1000000 in
theorem k_dropAll {n p : Nat} {pg kc : Nat → Nat} {kd : Nat → Nat → Nat} {pa ct : Nat → Int32} {ow : Nat → Nat → Int32} (hW : WF n pg kc kd pa) (hp : p < n) : ∀ (c m fuel : Nat) (σ : St), m + c = n → c < fuel → IV n pg (kcF kc kd p m) (kdF kc kd p m) pa ct ow σ 26 → ∃ σ', kL_Items_dropEverywhere_2 fuel σ (nI p) (nI m) = some σ' ∧ IV n pg (kcF kc kd p n) (kdF kc kd p n) pa ct ow σ' 26 ∧ σ' 27 0 = σ 27 0 + nI 1 ∧ (∀ i, n ≤ i → σ' 3 i = σ 3 i) ∧ ∀ k, k ≠ 3 → k ≠ 4 → k ≠ 27 → σ' k = σ k := by
  have hFU := FU_ge
  have hn := hW.1
  intro c
  induction c with
  | zero =>
    intro m fuel σ hm hf hI
    obtain ⟨g, rfl⟩ : ∃ g, fuel = g + 1 := ⟨fuel - 1, by omega⟩
    have hm : m = n := by omega
    subst hm
    have z := hI.1
    refine ⟨sk σ 27 (fun _ => σ 27 0 + nI 1), ?_, hI.keep (by simp (disch := omega) only [↓reduceIte, Nat.reduceSub, Nat.reduceAdd, Nat.reduceMul, Nat.sub_zero, Nat.add_zero, Nat.zero_add, Nat.mul_zero, lq_s, br_s, bd_s, bv_s, gd_tt, inB_nI, nI_clamp, sk_s, sk_n, pk_us, pk_un, nI_add, pk_mul, pk_sub, nI_leI, nI_ltI, nI_eq, if_pos, if_neg, nn_neg, nn_ne, nn_ne2, nn_lt, nn_nlt, nn_nle, nn_le, nn_m1, li_0, li_1, li_2, li_3, li_4, li_5, li_9, li_10, li_19, li_20, li_26, li_40, li_60, li_64, li_97, li_48, li_100, li_199, li_200, li_1000, li_8200, li_9999, li_100000]) (fun k hk => by simp (disch := omega) only [↓reduceIte, Nat.reduceSub, Nat.reduceAdd, Nat.reduceMul, Nat.sub_zero, Nat.add_zero, Nat.zero_add, Nat.mul_zero, lq_s, br_s, bd_s, bv_s, gd_tt, inB_nI, nI_clamp, sk_s, sk_n, pk_us, pk_un, nI_add, pk_mul, pk_sub, nI_leI, nI_ltI, nI_eq, if_pos, if_neg, nn_neg, nn_ne, nn_ne2, nn_lt, nn_nlt, nn_nle, nn_le, nn_m1, li_0, li_1, li_2, li_3, li_4, li_5, li_9, li_10, li_19, li_20, li_26, li_40, li_60, li_64, li_97, li_48, li_100, li_199, li_200, li_1000, li_8200, li_9999, li_100000]), by simp (disch := omega) only [↓reduceIte, Nat.reduceSub, Nat.reduceAdd, Nat.reduceMul, Nat.sub_zero, Nat.add_zero, Nat.zero_add, Nat.mul_zero, lq_s, br_s, bd_s, bv_s, gd_tt, inB_nI, nI_clamp, sk_s, sk_n, pk_us, pk_un, nI_add, pk_mul, pk_sub, nI_leI, nI_ltI, nI_eq, if_pos, if_neg, nn_neg, nn_ne, nn_ne2, nn_lt, nn_nlt, nn_nle, nn_le, nn_m1, li_0, li_1, li_2, li_3, li_4, li_5, li_9, li_10, li_19, li_20, li_26, li_40, li_60, li_64, li_97, li_48, li_100, li_199, li_200, li_1000, li_8200, li_9999, li_100000], fun i hi => by simp (disch := omega) only [↓reduceIte, Nat.reduceSub, Nat.reduceAdd, Nat.reduceMul, Nat.sub_zero, Nat.add_zero, Nat.zero_add, Nat.mul_zero, lq_s, br_s, bd_s, bv_s, gd_tt, inB_nI, nI_clamp, sk_s, sk_n, pk_us, pk_un, nI_add, pk_mul, pk_sub, nI_leI, nI_ltI, nI_eq, if_pos, if_neg, nn_neg, nn_ne, nn_ne2, nn_lt, nn_nlt, nn_nle, nn_le, nn_m1, li_0, li_1, li_2, li_3, li_4, li_5, li_9, li_10, li_19, li_20, li_26, li_40, li_60, li_64, li_97, li_48, li_100, li_199, li_200, li_1000, li_8200, li_9999, li_100000], fun k h3 h4 h27 => by simp (disch := omega) only [↓reduceIte, Nat.reduceSub, Nat.reduceAdd, Nat.reduceMul, Nat.sub_zero, Nat.add_zero, Nat.zero_add, Nat.mul_zero, lq_s, br_s, bd_s, bv_s, gd_tt, inB_nI, nI_clamp, sk_s, sk_n, pk_us, pk_un, nI_add, pk_mul, pk_sub, nI_leI, nI_ltI, nI_eq, if_pos, if_neg, nn_neg, nn_ne, nn_ne2, nn_lt, nn_nlt, nn_nle, nn_le, nn_m1, li_0, li_1, li_2, li_3, li_4, li_5, li_9, li_10, li_19, li_20, li_26, li_40, li_60, li_64, li_97, li_48, li_100, li_199, li_200, li_1000, li_8200, li_9999, li_100000]⟩
    rw [kL_Items_dropEverywhere_2]
    unfold kJ_Items_dropEverywhere_22
    simp (disch := omega) only [↓reduceIte, Nat.reduceSub, Nat.reduceAdd, Nat.reduceMul, Nat.sub_zero, Nat.add_zero, Nat.zero_add, Nat.mul_zero, lq_s, br_s, bd_s, bv_s, gd_tt, inB_nI, nI_clamp, sk_s, sk_n, pk_us, pk_un, nI_add, pk_mul, pk_sub, nI_leI, nI_ltI, nI_eq, if_pos, if_neg, nn_neg, nn_ne, nn_ne2, nn_lt, nn_nlt, nn_nle, nn_le, nn_m1, li_0, li_1, li_2, li_3, li_4, li_5, li_9, li_10, li_19, li_20, li_26, li_40, li_60, li_64, li_97, li_48, li_100, li_199, li_200, li_1000, li_8200, li_9999, li_100000, z]
  | succ c ih =>
    intro m fuel σ hm hf hI
    obtain ⟨g, rfl⟩ : ∃ g, fuel = g + 1 := ⟨fuel - 1, by omega⟩
    have z := hI.1
    have e3 := hI.2.2.2.2.1 m (by omega)
    rw [kF_at.1] at e3
    have h40 := hW.2.2.1 m (by omega)
    obtain ⟨σ1, a1, a2, a3, a4, a5⟩ := k_dropLoop (x := m) (p := p) (m := kc m) (f := kd m) (by omega) h40 (by omega) (fun k hk => by have := hW.2.2.2.1 m k (by omega) hk; omega) (kc m) 0 FU σ (by omega) (by omega) e3 (fun j hj => absurd hj (Nat.not_lt_zero _)) (fun j _ hj => by
      have := hI.2.2.2.2.2.1 m j (by omega) (by rw [kF_at.1]; exact hj)
      rw [kF_at.2] at this
      exact this)
    have e : kM_Items_dropFromList σ (nI m) (nI p) = some σ1 := by
      unfold kM_Items_dropFromList
      simp (disch := omega) only [↓reduceIte, Nat.reduceSub, Nat.reduceAdd, Nat.reduceMul, Nat.sub_zero, Nat.add_zero, Nat.zero_add, Nat.mul_zero, lq_s, br_s, bd_s, bv_s, gd_tt, inB_nI, nI_clamp, sk_s, sk_n, pk_us, pk_un, nI_add, pk_mul, pk_sub, nI_leI, nI_ltI, nI_eq, if_pos, if_neg, nn_neg, nn_ne, nn_ne2, nn_lt, nn_nlt, nn_nle, nn_le, nn_m1, li_0, li_1, li_2, li_3, li_4, li_5, li_9, li_10, li_19, li_20, li_26, li_40, li_60, li_64, li_97, li_48, li_100, li_199, li_200, li_1000, li_8200, li_9999, li_100000]
      exact a1
    have hI1 := hI.drop (s' := σ1) (fun i hi => hW.2.2.1 i hi) (by omega) (a5 26 (by decide) (by decide)) (fun k _ h3 h4 => a5 k h3 h4) (by rw [a4, pk_us]) (fun i hi => by rw [a4, pk_un hi]) a2 a3
    obtain ⟨σ', b1, b2, b3, b4, b5⟩ := ih (m + 1) g σ1 (by omega) (by omega) hI1
    refine ⟨σ', ?_, b2, ?_, fun i hi => ?_, fun k h3 h4 h27 => ?_⟩
    · rw [kL_Items_dropEverywhere_2]
      simp (disch := omega) only [↓reduceIte, Nat.reduceSub, Nat.reduceAdd, Nat.reduceMul, Nat.sub_zero, Nat.add_zero, Nat.zero_add, Nat.mul_zero, lq_s, br_s, bd_s, bv_s, gd_tt, inB_nI, nI_clamp, sk_s, sk_n, pk_us, pk_un, nI_add, pk_mul, pk_sub, nI_leI, nI_ltI, nI_eq, if_pos, if_neg, nn_neg, nn_ne, nn_ne2, nn_lt, nn_nlt, nn_nle, nn_le, nn_m1, li_0, li_1, li_2, li_3, li_4, li_5, li_9, li_10, li_19, li_20, li_26, li_40, li_60, li_64, li_97, li_48, li_100, li_199, li_200, li_1000, li_8200, li_9999, li_100000, z, e]
      exact b1
    · rw [b3, a5 27 (by decide) (by decide)]
    · rw [b4 i hi, a4, pk_un (by omega)]
    · rw [b5 k h3 h4 h27, a5 k h3 h4]
set_option maxHeartbeats 1000000 in
theorem r_dropAll {n p : Nat} {pg kc : Nat → Nat} {kd : Nat → Nat → Nat} {pa ct : Nat → Int32} {ow : Nat → Nat → Int32} (hW : WF n pg kc kd pa) (hp : p < n) : ∀ (c m fuel : Nat) (σ : St), m + c = n → c < fuel → IV n pg (kcF kc kd p m) (kdF kc kd p m) pa ct ow σ 22 → ∃ σ', rL_Md_takeOffAll_2 fuel σ (nI p) (nI m) = some σ' ∧ IV n pg (kcF kc kd p n) (kdF kc kd p n) pa ct ow σ' 22 ∧ ∀ k, k ≠ 3 → k ≠ 4 → σ' k = σ k := by
  have hFU := FU_ge
  have hn := hW.1
  intro c
  induction c with
  | zero =>
    intro m fuel σ hm hf hI
    obtain ⟨g, rfl⟩ : ∃ g, fuel = g + 1 := ⟨fuel - 1, by omega⟩
    have hm : m = n := by omega
    subst hm
    have z := hI.1
    refine ⟨σ, ?_, hI, fun _ _ _ => rfl⟩
    rw [rL_Md_takeOffAll_2]
    simp (disch := omega) only [↓reduceIte, Nat.reduceSub, Nat.reduceAdd, Nat.reduceMul, Nat.sub_zero, Nat.add_zero, Nat.zero_add, Nat.mul_zero, lq_s, br_s, bd_s, bv_s, gd_tt, inB_nI, nI_clamp, sk_s, sk_n, pk_us, pk_un, nI_add, pk_mul, pk_sub, nI_leI, nI_ltI, nI_eq, if_pos, if_neg, nn_neg, nn_ne, nn_ne2, nn_lt, nn_nlt, nn_nle, nn_le, nn_m1, li_0, li_1, li_2, li_3, li_4, li_5, li_9, li_10, li_19, li_20, li_26, li_40, li_60, li_64, li_97, li_48, li_100, li_199, li_200, li_1000, li_8200, li_9999, li_100000, z]
  | succ c ih =>
    intro m fuel σ hm hf hI
    obtain ⟨g, rfl⟩ : ∃ g, fuel = g + 1 := ⟨fuel - 1, by omega⟩
    have z := hI.1
    have e3 := hI.2.2.2.2.1 m (by omega)
    rw [kF_at.1] at e3
    have h40 := hW.2.2.1 m (by omega)
    obtain ⟨σ1, a1, a2, a3, a4, a5, a6⟩ := r_dropLoop (x := m) (p := p) (m := kc m) (f := kd m) (fun σ z0 z1 => rL_Md_takeOffAll_2 g σ z0 z1) (by omega) h40 (by omega) (fun k hk => by have := hW.2.2.2.1 m k (by omega) hk; omega) (kc m) 0 FU σ (by omega) (by omega) (by rw [e3]; show _ = nI (0 + kc m); rw [Nat.zero_add]) (fun j hj => absurd hj (Nat.not_lt_zero _)) (fun t ht => by
      have := hI.2.2.2.2.2.1 m t (by omega) (by rw [kF_at.1]; exact ht)
      rw [kF_at.2] at this
      show σ 4 (40 * m + (0 + t)) = nI (kd m (0 + t))
      rw [Nat.zero_add]
      exact this)
    have hI1 := hI.drop (s' := σ1) (fun i hi => hW.2.2.1 i hi) (by omega) (a6 22 (by decide) (by decide)) (fun k _ h3 h4 => a6 k h3 h4) a4 a5 a2 a3
    obtain ⟨σ', b1, b2, b3⟩ := ih (m + 1) g σ1 (by omega) (by omega) hI1
    refine ⟨σ', ?_, b2, fun k h3 h4 => by rw [b3 k h3 h4, a6 k h3 h4]⟩
    rw [rL_Md_takeOffAll_2]
    simp (disch := omega) only [↓reduceIte, Nat.reduceSub, Nat.reduceAdd, Nat.reduceMul, Nat.sub_zero, Nat.add_zero, Nat.zero_add, Nat.mul_zero, lq_s, br_s, bd_s, bv_s, gd_tt, inB_nI, nI_clamp, sk_s, sk_n, pk_us, pk_un, nI_add, pk_mul, pk_sub, nI_leI, nI_ltI, nI_eq, if_pos, if_neg, nn_neg, nn_ne, nn_ne2, nn_lt, nn_nlt, nn_nle, nn_le, nn_m1, li_0, li_1, li_2, li_3, li_4, li_5, li_9, li_10, li_19, li_20, li_26, li_40, li_60, li_64, li_97, li_48, li_100, li_199, li_200, li_1000, li_8200, li_9999, li_100000, z]
    rw [show (nI 0 : Int32) = nI (cw (kd m) p 0) from rfl, a1]
    unfold rJ_Md_takeOffAll_52
    simp (disch := omega) only [↓reduceIte, Nat.reduceSub, Nat.reduceAdd, Nat.reduceMul, Nat.sub_zero, Nat.add_zero, Nat.zero_add, Nat.mul_zero, lq_s, br_s, bd_s, bv_s, gd_tt, inB_nI, nI_clamp, sk_s, sk_n, pk_us, pk_un, nI_add, pk_mul, pk_sub, nI_leI, nI_ltI, nI_eq, if_pos, if_neg, nn_neg, nn_ne, nn_ne2, nn_lt, nn_nlt, nn_nle, nn_le, nn_m1, li_0, li_1, li_2, li_3, li_4, li_5, li_9, li_10, li_19, li_20, li_26, li_40, li_60, li_64, li_97, li_48, li_100, li_199, li_200, li_1000, li_8200, li_9999, li_100000]
    exact b1
theorem kF_zero {kc : Nat → Nat} {kd : Nat → Nat → Nat} {p : Nat} : kcF kc kd p 0 = kc ∧ kdF kc kd p 0 = kd := by
  refine ⟨funext fun i => ?_, funext fun i => funext fun k => ?_⟩
  · unfold kcF; rw [if_neg (by omega)]
  · unfold kdF; rw [if_neg (by omega)]
theorem WF.drop {n p : Nat} {pg kc : Nat → Nat} {kd : Nat → Nat → Nat} {pa : Nat → Int32} (h : WF n pg kc kd pa) : WF n pg (kcF kc kd p n) (kdF kc kd p n) pa := by
  obtain ⟨q1, q2, q3, q4, q5, q6, q7⟩ := h
  refine ⟨q1, q2, fun i hi => ?_, fun i k hi hk => ?_, fun i hi hp => ?_, q6, q7⟩
  · unfold kcF
    rw [if_pos hi]
    have := cw_le (kd i) p (kc i)
    have := q3 i hi
    omega
  · unfold kcF at hk
    unfold kdF
    rw [if_pos hi] at hk ⊢
    exact fK_in (P := fun y => y < n) (kc i) (fun j hj _ => q4 i j hi hj) k hk
  · unfold kcF
    rw [if_pos hi]
    have := cw_le (kd i) p (kc i)
    have := q5 i hi hp
    omega
