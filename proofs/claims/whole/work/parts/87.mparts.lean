/-! mending: its parts -/
def delKd (kd : Nat → Nat → Nat) (x s : Nat) : Nat → Nat → Nat := fun i k => if i = x then (if k < s then kd i k else kd i (k + 1)) else kd i k
def setKd (kd : Nat → Nat → Nat) (x s it : Nat) : Nat → Nat → Nat := fun i k => if i = x ∧ k = s then it else kd i k
theorem IV.del {n : Nat} {pg kc : Nat → Nat} {kd : Nat → Nat → Nat} {pa ct : Nat → Int32} {ow : Nat → Nat → Int32} {s s' : St} {z x sl m : Nat} (h : IV n pg kc kd pa ct ow s z) (hz : s' z 0 = s z 0) (hx : x < n) (hm : kc x = m + 1) (hs : sl ≤ m) (h0 : s' 0 = s 0) (h1 : s' 1 = s 1) (h2 : s' 2 = s 2) (h5 : s' 5 = s 5) (h3 : s' 3 = upd (s 3) x (nI m)) (h4a : ∀ q, ¬ (40 * x + sl ≤ q ∧ q < 40 * x + m) → s' 4 q = s 4 q) (h4b : ∀ k, sl ≤ k → k < m → s' 4 (40 * x + k) = s 4 (40 * x + k + 1)) (h40 : ∀ i, i < n → kc i ≤ 40) : IV n pg (va_up kc x m) (delKd kd x sl) pa ct ow s' z := by
  obtain ⟨q1, q2, q3, q4, q5, q6, q7⟩ := h
  refine ⟨by rw [hz]; exact q1, by rw [h0]; exact q2, by rw [h1]; exact q3, by rw [h2]; exact q4, fun i hi => ?_, fun i k hi hk => ?_, by rw [h5]; exact q7⟩
  · rw [h3]
    by_cases hix : i = x
    · subst hix
      rw [va_up_self, pk_us]
    · rw [va_up_ne kc _ hix, pk_un hix]
      exact q5 i hi
  · unfold delKd
    by_cases hix : i = x
    · subst hix
      rw [va_up_self] at hk
      rw [if_pos rfl]
      by_cases k1 : k < sl
      · rw [if_pos k1, h4a _ (by omega)]
        exact q6 i k hi (by omega)
      · rw [if_neg k1, h4b k (by omega) hk, show 40 * i + k + 1 = 40 * i + (k + 1) by omega]
        exact q6 i (k + 1) hi (by omega)
    · rw [va_up_ne kc _ hix] at hk
      have := h40 i hi
      have := h40 x hx
      rw [if_neg hix, h4a _ (by omega)]
      exact q6 i k hi hk
theorem WF.del {n : Nat} {pg kc : Nat → Nat} {kd : Nat → Nat → Nat} {pa : Nat → Int32} {x sl m : Nat} (h : WF n pg kc kd pa) (hx : x < n) (hm : kc x = m + 1) : WF n pg (va_up kc x m) (delKd kd x sl) pa := by
  obtain ⟨q1, q2, q3, q4, q5, q6, q7⟩ := h
  refine ⟨q1, q2, fun i hi => ?_, fun i k hi hk => ?_, fun i hi hpi => ?_, q6, q7⟩
  · by_cases hix : i = x
    · subst hix; rw [va_up_self]; have := q3 i hi; omega
    · rw [va_up_ne kc _ hix]; exact q3 i hi
  · unfold delKd
    by_cases hix : i = x
    · subst hix
      rw [va_up_self] at hk
      rw [if_pos rfl]
      by_cases k1 : k < sl
      · rw [if_pos k1]; exact q4 i k hi (by omega)
      · rw [if_neg k1]; exact q4 i (k + 1) hi (by omega)
    · rw [va_up_ne kc _ hix] at hk
      rw [if_neg hix]; exact q4 i k hi hk
  · by_cases hix : i = x
    · subst hix; have := q5 i hi hpi; omega
    · rw [va_up_ne kc _ hix]; exact q5 i hi hpi
theorem k_dropLoop2 {x m : Nat} (hx : x < 200) (hm : m < 40) : ∀ (c s fuel : Nat) (σ : St), s + c = m → c < fuel → σ 3 x = nI m → ∃ σ', kL_Items_dropKid_28 fuel σ (nI x) (nI (x * 40)) (nI s) = kJ_Items_dropKid_65 σ' ∧ (∀ j, s ≤ j → j < m → σ' 4 (40 * x + j) = σ 4 (40 * x + j + 1)) ∧ (∀ q, ¬ (40 * x + s ≤ q ∧ q < 40 * x + m) → σ' 4 q = σ 4 q) ∧ ∀ k, k ≠ 4 → σ' k = σ k := by
  intro c
  induction c with
  | zero =>
    intro s fuel σ hs hf h3
    obtain ⟨g, rfl⟩ : ∃ g, fuel = g + 1 := ⟨fuel - 1, by omega⟩
    refine ⟨σ, ?_, fun j h1 h2 => by omega, fun _ _ => rfl, fun _ _ => rfl⟩
    rw [kL_Items_dropKid_28]
    simp (disch := omega) only [↓reduceIte, Nat.reduceSub, Nat.reduceAdd, Nat.reduceMul, Nat.sub_zero, Nat.add_zero, Nat.zero_add, Nat.mul_zero, lq_s, br_s, bd_s, bv_s, gd_tt, inB_nI, nI_clamp, sk_s, sk_n, pk_us, pk_un, nI_add, pk_mul, pk_sub, nI_leI, nI_ltI, nI_eq, if_pos, if_neg, nn_neg, nn_ne, nn_ne2, nn_lt, nn_nlt, nn_nle, nn_le, nn_m1, li_0, li_1, li_2, li_3, li_4, li_5, li_9, li_10, li_19, li_20, li_26, li_40, li_60, li_64, li_97, li_48, li_100, li_199, li_200, li_1000, li_8200, li_9999, li_100000, h3]
  | succ c ih =>
    intro s fuel σ hs hf h3
    obtain ⟨g, rfl⟩ : ∃ g, fuel = g + 1 := ⟨fuel - 1, by omega⟩
    rw [kL_Items_dropKid_28]
    simp (disch := omega) only [↓reduceIte, Nat.reduceSub, Nat.reduceAdd, Nat.reduceMul, Nat.sub_zero, Nat.add_zero, Nat.zero_add, Nat.mul_zero, lq_s, br_s, bd_s, bv_s, gd_tt, inB_nI, nI_clamp, sk_s, sk_n, pk_us, pk_un, nI_add, pk_mul, pk_sub, nI_leI, nI_ltI, nI_eq, if_pos, if_neg, nn_neg, nn_ne, nn_ne2, nn_lt, nn_nlt, nn_nle, nn_le, nn_m1, li_0, li_1, li_2, li_3, li_4, li_5, li_9, li_10, li_19, li_20, li_26, li_40, li_60, li_64, li_97, li_48, li_100, li_199, li_200, li_1000, li_8200, li_9999, li_100000, h3]
    obtain ⟨σ', a1, a2, a3, a4⟩ := ih (s + 1) g (sk σ 4 (upd (σ 4) (x * 40 + s) (σ 4 (x * 40 + s + 1)))) (by omega) (by omega) (by simp (disch := omega) only [↓reduceIte, Nat.reduceSub, Nat.reduceAdd, Nat.reduceMul, Nat.sub_zero, Nat.add_zero, Nat.zero_add, Nat.mul_zero, lq_s, br_s, bd_s, bv_s, gd_tt, inB_nI, nI_clamp, sk_s, sk_n, pk_us, pk_un, nI_add, pk_mul, pk_sub, nI_leI, nI_ltI, nI_eq, if_pos, if_neg, nn_neg, nn_ne, nn_ne2, nn_lt, nn_nlt, nn_nle, nn_le, nn_m1, li_0, li_1, li_2, li_3, li_4, li_5, li_9, li_10, li_19, li_20, li_26, li_40, li_60, li_64, li_97, li_48, li_100, li_199, li_200, li_1000, li_8200, li_9999, li_100000]; exact h3)
    refine ⟨σ', a1, fun j h1 h2 => ?_, fun q hq => ?_, fun k hk => ?_⟩
    · by_cases hjs : j = s
      · subst hjs
        rw [a3 _ (by omega), show 40 * x + j = x * 40 + j by omega]
        simp (disch := omega) only [↓reduceIte, Nat.reduceSub, Nat.reduceAdd, Nat.reduceMul, Nat.sub_zero, Nat.add_zero, Nat.zero_add, Nat.mul_zero, lq_s, br_s, bd_s, bv_s, gd_tt, inB_nI, nI_clamp, sk_s, sk_n, pk_us, pk_un, nI_add, pk_mul, pk_sub, nI_leI, nI_ltI, nI_eq, if_pos, if_neg, nn_neg, nn_ne, nn_ne2, nn_lt, nn_nlt, nn_nle, nn_le, nn_m1, li_0, li_1, li_2, li_3, li_4, li_5, li_9, li_10, li_19, li_20, li_26, li_40, li_60, li_64, li_97, li_48, li_100, li_199, li_200, li_1000, li_8200, li_9999, li_100000]
      · rw [a2 j (by omega) h2]
        simp (disch := omega) only [↓reduceIte, Nat.reduceSub, Nat.reduceAdd, Nat.reduceMul, Nat.sub_zero, Nat.add_zero, Nat.zero_add, Nat.mul_zero, lq_s, br_s, bd_s, bv_s, gd_tt, inB_nI, nI_clamp, sk_s, sk_n, pk_us, pk_un, nI_add, pk_mul, pk_sub, nI_leI, nI_ltI, nI_eq, if_pos, if_neg, nn_neg, nn_ne, nn_ne2, nn_lt, nn_nlt, nn_nle, nn_le, nn_m1, li_0, li_1, li_2, li_3, li_4, li_5, li_9, li_10, li_19, li_20, li_26, li_40, li_60, li_64, li_97, li_48, li_100, li_199, li_200, li_1000, li_8200, li_9999, li_100000]
    · rw [a3 q (by omega)]
      have : q ≠ x * 40 + s := by omega
      simp (disch := omega) only [↓reduceIte, Nat.reduceSub, Nat.reduceAdd, Nat.reduceMul, Nat.sub_zero, Nat.add_zero, Nat.zero_add, Nat.mul_zero, lq_s, br_s, bd_s, bv_s, gd_tt, inB_nI, nI_clamp, sk_s, sk_n, pk_us, pk_un, nI_add, pk_mul, pk_sub, nI_leI, nI_ltI, nI_eq, if_pos, if_neg, nn_neg, nn_ne, nn_ne2, nn_lt, nn_nlt, nn_nle, nn_le, nn_m1, li_0, li_1, li_2, li_3, li_4, li_5, li_9, li_10, li_19, li_20, li_26, li_40, li_60, li_64, li_97, li_48, li_100, li_199, li_200, li_1000, li_8200, li_9999, li_100000]
    · rw [a4 k hk]
      simp (disch := omega) only [↓reduceIte, Nat.reduceSub, Nat.reduceAdd, Nat.reduceMul, Nat.sub_zero, Nat.add_zero, Nat.zero_add, Nat.mul_zero, lq_s, br_s, bd_s, bv_s, gd_tt, inB_nI, nI_clamp, sk_s, sk_n, pk_us, pk_un, nI_add, pk_mul, pk_sub, nI_leI, nI_ltI, nI_eq, if_pos, if_neg, nn_neg, nn_ne, nn_ne2, nn_lt, nn_nlt, nn_nle, nn_le, nn_m1, li_0, li_1, li_2, li_3, li_4, li_5, li_9, li_10, li_19, li_20, li_26, li_40, li_60, li_64, li_97, li_48, li_100, li_199, li_200, li_1000, li_8200, li_9999, li_100000]
/-- the class takes a kid off a list -/
theorem k_dropKid {n : Nat} {pg kc : Nat → Nat} {kd : Nat → Nat → Nat} {pa ct : Nat → Int32} {ow : Nat → Nat → Int32} {σ : St} {x s m : Nat} (hI : IV n pg kc kd pa ct ow σ 26) (hW : WF n pg kc kd pa) (hx : x < n) (hm : kc x = m + 1) (hs : s ≤ m) : ∃ σ', kM_Items_dropKid σ (nI x) (nI s) = some σ' ∧ IV n pg (va_up kc x m) (delKd kd x s) pa ct ow σ' 26 ∧ σ' 27 0 = σ 27 0 + nI 1 ∧ σ' 3 = upd (σ 3) x (nI m) ∧ ∀ k, k ≠ 3 → k ≠ 4 → k ≠ 27 → σ' k = σ k := by
  have hFU := FU_ge
  have hn := hW.1
  have h40 := hW.2.2.1 x hx
  have e3 := hI.2.2.2.2.1 x hx
  have z := hI.1
  rw [hm] at e3
  obtain ⟨σ1, a1, a2, a3, a4⟩ := k_dropLoop2 (x := x) (m := m) (by omega) (by omega) (m - s) s FU (sk σ 3 (upd (σ 3) x (nI m))) (by omega) (by omega) (by simp (disch := omega) only [↓reduceIte, Nat.reduceSub, Nat.reduceAdd, Nat.reduceMul, Nat.sub_zero, Nat.add_zero, Nat.zero_add, Nat.mul_zero, lq_s, br_s, bd_s, bv_s, gd_tt, inB_nI, nI_clamp, sk_s, sk_n, pk_us, pk_un, nI_add, pk_mul, pk_sub, nI_leI, nI_ltI, nI_eq, if_pos, if_neg, nn_neg, nn_ne, nn_ne2, nn_lt, nn_nlt, nn_nle, nn_le, nn_m1, li_0, li_1, li_2, li_3, li_4, li_5, li_9, li_10, li_19, li_20, li_26, li_40, li_60, li_64, li_97, li_48, li_100, li_199, li_200, li_1000, li_8200, li_9999, li_100000])
  refine ⟨sk σ1 27 (fun _ => σ1 27 0 + nI 1), ?_, ?_, ?_, ?_, fun k h3 h4 h27 => ?_⟩
  · unfold kM_Items_dropKid kM_Items_hasSlot
    simp (disch := omega) only [↓reduceIte, Nat.reduceSub, Nat.reduceAdd, Nat.reduceMul, Nat.sub_zero, Nat.add_zero, Nat.zero_add, Nat.mul_zero, lq_s, br_s, bd_s, bv_s, gd_tt, inB_nI, nI_clamp, sk_s, sk_n, pk_us, pk_un, nI_add, pk_mul, pk_sub, nI_leI, nI_ltI, nI_eq, if_pos, if_neg, nn_neg, nn_ne, nn_ne2, nn_lt, nn_nlt, nn_nle, nn_le, nn_m1, li_0, li_1, li_2, li_3, li_4, li_5, li_9, li_10, li_19, li_20, li_26, li_40, li_60, li_64, li_97, li_48, li_100, li_199, li_200, li_1000, li_8200, li_9999, li_100000, z, e3, Nat.add_sub_cancel, a1]
    unfold kJ_Items_dropKid_65
    simp (disch := omega) only [↓reduceIte, Nat.reduceSub, Nat.reduceAdd, Nat.reduceMul, Nat.sub_zero, Nat.add_zero, Nat.zero_add, Nat.mul_zero, lq_s, br_s, bd_s, bv_s, gd_tt, inB_nI, nI_clamp, sk_s, sk_n, pk_us, pk_un, nI_add, pk_mul, pk_sub, nI_leI, nI_ltI, nI_eq, if_pos, if_neg, nn_neg, nn_ne, nn_ne2, nn_lt, nn_nlt, nn_nle, nn_le, nn_m1, li_0, li_1, li_2, li_3, li_4, li_5, li_9, li_10, li_19, li_20, li_26, li_40, li_60, li_64, li_97, li_48, li_100, li_199, li_200, li_1000, li_8200, li_9999, li_100000]
  · refine hI.del (by simp (disch := omega) only [↓reduceIte, Nat.reduceSub, Nat.reduceAdd, Nat.reduceMul, Nat.sub_zero, Nat.add_zero, Nat.zero_add, Nat.mul_zero, lq_s, br_s, bd_s, bv_s, gd_tt, inB_nI, nI_clamp, sk_s, sk_n, pk_us, pk_un, nI_add, pk_mul, pk_sub, nI_leI, nI_ltI, nI_eq, if_pos, if_neg, nn_neg, nn_ne, nn_ne2, nn_lt, nn_nlt, nn_nle, nn_le, nn_m1, li_0, li_1, li_2, li_3, li_4, li_5, li_9, li_10, li_19, li_20, li_26, li_40, li_60, li_64, li_97, li_48, li_100, li_199, li_200, li_1000, li_8200, li_9999, li_100000]; rw [a4 26 (by decide)]; simp (disch := omega) only [↓reduceIte, Nat.reduceSub, Nat.reduceAdd, Nat.reduceMul, Nat.sub_zero, Nat.add_zero, Nat.zero_add, Nat.mul_zero, lq_s, br_s, bd_s, bv_s, gd_tt, inB_nI, nI_clamp, sk_s, sk_n, pk_us, pk_un, nI_add, pk_mul, pk_sub, nI_leI, nI_ltI, nI_eq, if_pos, if_neg, nn_neg, nn_ne, nn_ne2, nn_lt, nn_nlt, nn_nle, nn_le, nn_m1, li_0, li_1, li_2, li_3, li_4, li_5, li_9, li_10, li_19, li_20, li_26, li_40, li_60, li_64, li_97, li_48, li_100, li_199, li_200, li_1000, li_8200, li_9999, li_100000]) hx hm hs (by simp (disch := omega) only [↓reduceIte, Nat.reduceSub, Nat.reduceAdd, Nat.reduceMul, Nat.sub_zero, Nat.add_zero, Nat.zero_add, Nat.mul_zero, lq_s, br_s, bd_s, bv_s, gd_tt, inB_nI, nI_clamp, sk_s, sk_n, pk_us, pk_un, nI_add, pk_mul, pk_sub, nI_leI, nI_ltI, nI_eq, if_pos, if_neg, nn_neg, nn_ne, nn_ne2, nn_lt, nn_nlt, nn_nle, nn_le, nn_m1, li_0, li_1, li_2, li_3, li_4, li_5, li_9, li_10, li_19, li_20, li_26, li_40, li_60, li_64, li_97, li_48, li_100, li_199, li_200, li_1000, li_8200, li_9999, li_100000]; rw [a4 0 (by decide)]; simp (disch := omega) only [↓reduceIte, Nat.reduceSub, Nat.reduceAdd, Nat.reduceMul, Nat.sub_zero, Nat.add_zero, Nat.zero_add, Nat.mul_zero, lq_s, br_s, bd_s, bv_s, gd_tt, inB_nI, nI_clamp, sk_s, sk_n, pk_us, pk_un, nI_add, pk_mul, pk_sub, nI_leI, nI_ltI, nI_eq, if_pos, if_neg, nn_neg, nn_ne, nn_ne2, nn_lt, nn_nlt, nn_nle, nn_le, nn_m1, li_0, li_1, li_2, li_3, li_4, li_5, li_9, li_10, li_19, li_20, li_26, li_40, li_60, li_64, li_97, li_48, li_100, li_199, li_200, li_1000, li_8200, li_9999, li_100000]) (by simp (disch := omega) only [↓reduceIte, Nat.reduceSub, Nat.reduceAdd, Nat.reduceMul, Nat.sub_zero, Nat.add_zero, Nat.zero_add, Nat.mul_zero, lq_s, br_s, bd_s, bv_s, gd_tt, inB_nI, nI_clamp, sk_s, sk_n, pk_us, pk_un, nI_add, pk_mul, pk_sub, nI_leI, nI_ltI, nI_eq, if_pos, if_neg, nn_neg, nn_ne, nn_ne2, nn_lt, nn_nlt, nn_nle, nn_le, nn_m1, li_0, li_1, li_2, li_3, li_4, li_5, li_9, li_10, li_19, li_20, li_26, li_40, li_60, li_64, li_97, li_48, li_100, li_199, li_200, li_1000, li_8200, li_9999, li_100000]; rw [a4 1 (by decide)]; simp (disch := omega) only [↓reduceIte, Nat.reduceSub, Nat.reduceAdd, Nat.reduceMul, Nat.sub_zero, Nat.add_zero, Nat.zero_add, Nat.mul_zero, lq_s, br_s, bd_s, bv_s, gd_tt, inB_nI, nI_clamp, sk_s, sk_n, pk_us, pk_un, nI_add, pk_mul, pk_sub, nI_leI, nI_ltI, nI_eq, if_pos, if_neg, nn_neg, nn_ne, nn_ne2, nn_lt, nn_nlt, nn_nle, nn_le, nn_m1, li_0, li_1, li_2, li_3, li_4, li_5, li_9, li_10, li_19, li_20, li_26, li_40, li_60, li_64, li_97, li_48, li_100, li_199, li_200, li_1000, li_8200, li_9999, li_100000]) (by simp (disch := omega) only [↓reduceIte, Nat.reduceSub, Nat.reduceAdd, Nat.reduceMul, Nat.sub_zero, Nat.add_zero, Nat.zero_add, Nat.mul_zero, lq_s, br_s, bd_s, bv_s, gd_tt, inB_nI, nI_clamp, sk_s, sk_n, pk_us, pk_un, nI_add, pk_mul, pk_sub, nI_leI, nI_ltI, nI_eq, if_pos, if_neg, nn_neg, nn_ne, nn_ne2, nn_lt, nn_nlt, nn_nle, nn_le, nn_m1, li_0, li_1, li_2, li_3, li_4, li_5, li_9, li_10, li_19, li_20, li_26, li_40, li_60, li_64, li_97, li_48, li_100, li_199, li_200, li_1000, li_8200, li_9999, li_100000]; rw [a4 2 (by decide)]; simp (disch := omega) only [↓reduceIte, Nat.reduceSub, Nat.reduceAdd, Nat.reduceMul, Nat.sub_zero, Nat.add_zero, Nat.zero_add, Nat.mul_zero, lq_s, br_s, bd_s, bv_s, gd_tt, inB_nI, nI_clamp, sk_s, sk_n, pk_us, pk_un, nI_add, pk_mul, pk_sub, nI_leI, nI_ltI, nI_eq, if_pos, if_neg, nn_neg, nn_ne, nn_ne2, nn_lt, nn_nlt, nn_nle, nn_le, nn_m1, li_0, li_1, li_2, li_3, li_4, li_5, li_9, li_10, li_19, li_20, li_26, li_40, li_60, li_64, li_97, li_48, li_100, li_199, li_200, li_1000, li_8200, li_9999, li_100000]) (by simp (disch := omega) only [↓reduceIte, Nat.reduceSub, Nat.reduceAdd, Nat.reduceMul, Nat.sub_zero, Nat.add_zero, Nat.zero_add, Nat.mul_zero, lq_s, br_s, bd_s, bv_s, gd_tt, inB_nI, nI_clamp, sk_s, sk_n, pk_us, pk_un, nI_add, pk_mul, pk_sub, nI_leI, nI_ltI, nI_eq, if_pos, if_neg, nn_neg, nn_ne, nn_ne2, nn_lt, nn_nlt, nn_nle, nn_le, nn_m1, li_0, li_1, li_2, li_3, li_4, li_5, li_9, li_10, li_19, li_20, li_26, li_40, li_60, li_64, li_97, li_48, li_100, li_199, li_200, li_1000, li_8200, li_9999, li_100000]; rw [a4 5 (by decide)]; simp (disch := omega) only [↓reduceIte, Nat.reduceSub, Nat.reduceAdd, Nat.reduceMul, Nat.sub_zero, Nat.add_zero, Nat.zero_add, Nat.mul_zero, lq_s, br_s, bd_s, bv_s, gd_tt, inB_nI, nI_clamp, sk_s, sk_n, pk_us, pk_un, nI_add, pk_mul, pk_sub, nI_leI, nI_ltI, nI_eq, if_pos, if_neg, nn_neg, nn_ne, nn_ne2, nn_lt, nn_nlt, nn_nle, nn_le, nn_m1, li_0, li_1, li_2, li_3, li_4, li_5, li_9, li_10, li_19, li_20, li_26, li_40, li_60, li_64, li_97, li_48, li_100, li_199, li_200, li_1000, li_8200, li_9999, li_100000]) (by simp (disch := omega) only [↓reduceIte, Nat.reduceSub, Nat.reduceAdd, Nat.reduceMul, Nat.sub_zero, Nat.add_zero, Nat.zero_add, Nat.mul_zero, lq_s, br_s, bd_s, bv_s, gd_tt, inB_nI, nI_clamp, sk_s, sk_n, pk_us, pk_un, nI_add, pk_mul, pk_sub, nI_leI, nI_ltI, nI_eq, if_pos, if_neg, nn_neg, nn_ne, nn_ne2, nn_lt, nn_nlt, nn_nle, nn_le, nn_m1, li_0, li_1, li_2, li_3, li_4, li_5, li_9, li_10, li_19, li_20, li_26, li_40, li_60, li_64, li_97, li_48, li_100, li_199, li_200, li_1000, li_8200, li_9999, li_100000]; rw [a4 3 (by decide)]; simp (disch := omega) only [↓reduceIte, Nat.reduceSub, Nat.reduceAdd, Nat.reduceMul, Nat.sub_zero, Nat.add_zero, Nat.zero_add, Nat.mul_zero, lq_s, br_s, bd_s, bv_s, gd_tt, inB_nI, nI_clamp, sk_s, sk_n, pk_us, pk_un, nI_add, pk_mul, pk_sub, nI_leI, nI_ltI, nI_eq, if_pos, if_neg, nn_neg, nn_ne, nn_ne2, nn_lt, nn_nlt, nn_nle, nn_le, nn_m1, li_0, li_1, li_2, li_3, li_4, li_5, li_9, li_10, li_19, li_20, li_26, li_40, li_60, li_64, li_97, li_48, li_100, li_199, li_200, li_1000, li_8200, li_9999, li_100000]) (fun q hq => ?_) (fun k h1 h2 => ?_) (fun i hi => hW.2.2.1 i hi)
    · simp (disch := omega) only [↓reduceIte, Nat.reduceSub, Nat.reduceAdd, Nat.reduceMul, Nat.sub_zero, Nat.add_zero, Nat.zero_add, Nat.mul_zero, lq_s, br_s, bd_s, bv_s, gd_tt, inB_nI, nI_clamp, sk_s, sk_n, pk_us, pk_un, nI_add, pk_mul, pk_sub, nI_leI, nI_ltI, nI_eq, if_pos, if_neg, nn_neg, nn_ne, nn_ne2, nn_lt, nn_nlt, nn_nle, nn_le, nn_m1, li_0, li_1, li_2, li_3, li_4, li_5, li_9, li_10, li_19, li_20, li_26, li_40, li_60, li_64, li_97, li_48, li_100, li_199, li_200, li_1000, li_8200, li_9999, li_100000]
      rw [a3 q hq]
      simp (disch := omega) only [↓reduceIte, Nat.reduceSub, Nat.reduceAdd, Nat.reduceMul, Nat.sub_zero, Nat.add_zero, Nat.zero_add, Nat.mul_zero, lq_s, br_s, bd_s, bv_s, gd_tt, inB_nI, nI_clamp, sk_s, sk_n, pk_us, pk_un, nI_add, pk_mul, pk_sub, nI_leI, nI_ltI, nI_eq, if_pos, if_neg, nn_neg, nn_ne, nn_ne2, nn_lt, nn_nlt, nn_nle, nn_le, nn_m1, li_0, li_1, li_2, li_3, li_4, li_5, li_9, li_10, li_19, li_20, li_26, li_40, li_60, li_64, li_97, li_48, li_100, li_199, li_200, li_1000, li_8200, li_9999, li_100000]
    · simp (disch := omega) only [↓reduceIte, Nat.reduceSub, Nat.reduceAdd, Nat.reduceMul, Nat.sub_zero, Nat.add_zero, Nat.zero_add, Nat.mul_zero, lq_s, br_s, bd_s, bv_s, gd_tt, inB_nI, nI_clamp, sk_s, sk_n, pk_us, pk_un, nI_add, pk_mul, pk_sub, nI_leI, nI_ltI, nI_eq, if_pos, if_neg, nn_neg, nn_ne, nn_ne2, nn_lt, nn_nlt, nn_nle, nn_le, nn_m1, li_0, li_1, li_2, li_3, li_4, li_5, li_9, li_10, li_19, li_20, li_26, li_40, li_60, li_64, li_97, li_48, li_100, li_199, li_200, li_1000, li_8200, li_9999, li_100000]
      rw [a2 k h1 h2]
      simp (disch := omega) only [↓reduceIte, Nat.reduceSub, Nat.reduceAdd, Nat.reduceMul, Nat.sub_zero, Nat.add_zero, Nat.zero_add, Nat.mul_zero, lq_s, br_s, bd_s, bv_s, gd_tt, inB_nI, nI_clamp, sk_s, sk_n, pk_us, pk_un, nI_add, pk_mul, pk_sub, nI_leI, nI_ltI, nI_eq, if_pos, if_neg, nn_neg, nn_ne, nn_ne2, nn_lt, nn_nlt, nn_nle, nn_le, nn_m1, li_0, li_1, li_2, li_3, li_4, li_5, li_9, li_10, li_19, li_20, li_26, li_40, li_60, li_64, li_97, li_48, li_100, li_199, li_200, li_1000, li_8200, li_9999, li_100000]
  · simp (disch := omega) only [↓reduceIte, Nat.reduceSub, Nat.reduceAdd, Nat.reduceMul, Nat.sub_zero, Nat.add_zero, Nat.zero_add, Nat.mul_zero, lq_s, br_s, bd_s, bv_s, gd_tt, inB_nI, nI_clamp, sk_s, sk_n, pk_us, pk_un, nI_add, pk_mul, pk_sub, nI_leI, nI_ltI, nI_eq, if_pos, if_neg, nn_neg, nn_ne, nn_ne2, nn_lt, nn_nlt, nn_nle, nn_le, nn_m1, li_0, li_1, li_2, li_3, li_4, li_5, li_9, li_10, li_19, li_20, li_26, li_40, li_60, li_64, li_97, li_48, li_100, li_199, li_200, li_1000, li_8200, li_9999, li_100000]
    rw [a4 27 (by decide)]
    simp (disch := omega) only [↓reduceIte, Nat.reduceSub, Nat.reduceAdd, Nat.reduceMul, Nat.sub_zero, Nat.add_zero, Nat.zero_add, Nat.mul_zero, lq_s, br_s, bd_s, bv_s, gd_tt, inB_nI, nI_clamp, sk_s, sk_n, pk_us, pk_un, nI_add, pk_mul, pk_sub, nI_leI, nI_ltI, nI_eq, if_pos, if_neg, nn_neg, nn_ne, nn_ne2, nn_lt, nn_nlt, nn_nle, nn_le, nn_m1, li_0, li_1, li_2, li_3, li_4, li_5, li_9, li_10, li_19, li_20, li_26, li_40, li_60, li_64, li_97, li_48, li_100, li_199, li_200, li_1000, li_8200, li_9999, li_100000]
  · simp (disch := omega) only [↓reduceIte, Nat.reduceSub, Nat.reduceAdd, Nat.reduceMul, Nat.sub_zero, Nat.add_zero, Nat.zero_add, Nat.mul_zero, lq_s, br_s, bd_s, bv_s, gd_tt, inB_nI, nI_clamp, sk_s, sk_n, pk_us, pk_un, nI_add, pk_mul, pk_sub, nI_leI, nI_ltI, nI_eq, if_pos, if_neg, nn_neg, nn_ne, nn_ne2, nn_lt, nn_nlt, nn_nle, nn_le, nn_m1, li_0, li_1, li_2, li_3, li_4, li_5, li_9, li_10, li_19, li_20, li_26, li_40, li_60, li_64, li_97, li_48, li_100, li_199, li_200, li_1000, li_8200, li_9999, li_100000]
    rw [a4 3 (by decide)]
    simp (disch := omega) only [↓reduceIte, Nat.reduceSub, Nat.reduceAdd, Nat.reduceMul, Nat.sub_zero, Nat.add_zero, Nat.zero_add, Nat.mul_zero, lq_s, br_s, bd_s, bv_s, gd_tt, inB_nI, nI_clamp, sk_s, sk_n, pk_us, pk_un, nI_add, pk_mul, pk_sub, nI_leI, nI_ltI, nI_eq, if_pos, if_neg, nn_neg, nn_ne, nn_ne2, nn_lt, nn_nlt, nn_nle, nn_le, nn_m1, li_0, li_1, li_2, li_3, li_4, li_5, li_9, li_10, li_19, li_20, li_26, li_40, li_60, li_64, li_97, li_48, li_100, li_199, li_200, li_1000, li_8200, li_9999, li_100000]
  · simp (disch := omega) only [↓reduceIte, Nat.reduceSub, Nat.reduceAdd, Nat.reduceMul, Nat.sub_zero, Nat.add_zero, Nat.zero_add, Nat.mul_zero, lq_s, br_s, bd_s, bv_s, gd_tt, inB_nI, nI_clamp, sk_s, sk_n, pk_us, pk_un, nI_add, pk_mul, pk_sub, nI_leI, nI_ltI, nI_eq, if_pos, if_neg, nn_neg, nn_ne, nn_ne2, nn_lt, nn_nlt, nn_nle, nn_le, nn_m1, li_0, li_1, li_2, li_3, li_4, li_5, li_9, li_10, li_19, li_20, li_26, li_40, li_60, li_64, li_97, li_48, li_100, li_199, li_200, li_1000, li_8200, li_9999, li_100000]
    rw [a4 k h4]
    simp (disch := omega) only [↓reduceIte, Nat.reduceSub, Nat.reduceAdd, Nat.reduceMul, Nat.sub_zero, Nat.add_zero, Nat.zero_add, Nat.mul_zero, lq_s, br_s, bd_s, bv_s, gd_tt, inB_nI, nI_clamp, sk_s, sk_n, pk_us, pk_un, nI_add, pk_mul, pk_sub, nI_leI, nI_ltI, nI_eq, if_pos, if_neg, nn_neg, nn_ne, nn_ne2, nn_lt, nn_nlt, nn_nle, nn_le, nn_m1, li_0, li_1, li_2, li_3, li_4, li_5, li_9, li_10, li_19, li_20, li_26, li_40, li_60, li_64, li_97, li_48, li_100, li_199, li_200, li_1000, li_8200, li_9999, li_100000]
theorem r_dropKid {n : Nat} {pg kc : Nat → Nat} {kd : Nat → Nat → Nat} {pa ct : Nat → Int32} {ow : Nat → Nat → Int32} {σ : St} {x s m : Nat} (hI : IV n pg kc kd pa ct ow σ 22) (hW : WF n pg kc kd pa) (hx : x < n) (hm : kc x = m + 1) (hs : s ≤ m) : ∃ σ', rM_Md_takeOff σ (nI x) (nI s) = some σ' ∧ IV n pg (va_up kc x m) (delKd kd x s) pa ct ow σ' 22 ∧ ∀ k, k ≠ 3 → k ≠ 4 → σ' k = σ k := by
  have hn := hW.1
  have h40 := hW.2.2.1 x hx
  have e3 := hI.2.2.2.2.1 x hx
  rw [hm] at e3
  obtain ⟨σ', a1, a2, a3, a4, a5⟩ := r_takeOff (x := x) (s := s) (m := m) (by omega) (by omega) hs e3
  refine ⟨σ', a1, ?_, a5⟩
  exact hI.del (by rw [a5 22 (by decide) (by decide)]) hx hm hs (a5 0 (by decide) (by decide)) (a5 1 (by decide) (by decide)) (a5 2 (by decide) (by decide)) (a5 5 (by decide) (by decide)) a2 a4 a3 (fun i hi => hW.2.2.1 i hi)
/-- what was told -/
def TL (a : Nat) (σ ρ : St) : Prop := σ 31 0 = nI a ∧ ρ 25 0 = nI a ∧ ∀ j, j < a → j < 100 → σ 16 j = ρ 13 j ∧ σ 17 j = ρ 14 j
theorem TL.keep {a : Nat} {σ ρ σ' ρ' : St} (h : TL a σ ρ) (h1 : σ' 31 = σ 31) (h2 : σ' 16 = σ 16) (h3 : σ' 17 = σ 17) (g1 : ρ' 25 = ρ 25) (g2 : ρ' 13 = ρ 13) (g3 : ρ' 14 = ρ 14) : TL a σ' ρ' := by
  unfold TL
  rw [h1, h2, h3, g1, g2, g3]
  exact h
theorem p_tell {a : Nat} {σ ρ : St} (h : TL a σ ρ) (ha : a ≤ 9000) (kind thing : Int32) : ∃ σ' ρ', kM_Mender_tell σ kind thing = some σ' ∧ rM_Md_tell ρ kind thing = some ρ' ∧ TL (a + 1) σ' ρ' ∧ (∀ k, k ≠ 16 → k ≠ 17 → k ≠ 31 → σ' k = σ k) ∧ ∀ k, k ≠ 13 → k ≠ 14 → k ≠ 25 → ρ' k = ρ k := by
  obtain ⟨h1, h2, h3⟩ := h
  unfold kM_Mender_tell rM_Md_tell kJ_Mender_tell_29 rJ_Md_tell_29
  by_cases h100 : 100 ≤ a
  · refine ⟨sk σ 31 (fun _ => nI (a + 1)), sk ρ 25 (fun _ => nI (a + 1)), by simp (disch := omega) only [↓reduceIte, Nat.reduceSub, Nat.reduceAdd, Nat.reduceMul, Nat.sub_zero, Nat.add_zero, Nat.zero_add, Nat.mul_zero, lq_s, br_s, bd_s, bv_s, gd_tt, inB_nI, nI_clamp, sk_s, sk_n, pk_us, pk_un, nI_add, pk_mul, pk_sub, nI_leI, nI_ltI, nI_eq, if_pos, if_neg, nn_neg, nn_ne, nn_ne2, nn_lt, nn_nlt, nn_nle, nn_le, nn_m1, li_0, li_1, li_2, li_3, li_4, li_5, li_9, li_10, li_19, li_20, li_26, li_40, li_60, li_64, li_97, li_48, li_100, li_199, li_200, li_1000, li_8200, li_9999, li_100000, h1], by simp (disch := omega) only [↓reduceIte, Nat.reduceSub, Nat.reduceAdd, Nat.reduceMul, Nat.sub_zero, Nat.add_zero, Nat.zero_add, Nat.mul_zero, lq_s, br_s, bd_s, bv_s, gd_tt, inB_nI, nI_clamp, sk_s, sk_n, pk_us, pk_un, nI_add, pk_mul, pk_sub, nI_leI, nI_ltI, nI_eq, if_pos, if_neg, nn_neg, nn_ne, nn_ne2, nn_lt, nn_nlt, nn_nle, nn_le, nn_m1, li_0, li_1, li_2, li_3, li_4, li_5, li_9, li_10, li_19, li_20, li_26, li_40, li_60, li_64, li_97, li_48, li_100, li_199, li_200, li_1000, li_8200, li_9999, li_100000, h2], ⟨by simp (disch := omega) only [↓reduceIte, Nat.reduceSub, Nat.reduceAdd, Nat.reduceMul, Nat.sub_zero, Nat.add_zero, Nat.zero_add, Nat.mul_zero, lq_s, br_s, bd_s, bv_s, gd_tt, inB_nI, nI_clamp, sk_s, sk_n, pk_us, pk_un, nI_add, pk_mul, pk_sub, nI_leI, nI_ltI, nI_eq, if_pos, if_neg, nn_neg, nn_ne, nn_ne2, nn_lt, nn_nlt, nn_nle, nn_le, nn_m1, li_0, li_1, li_2, li_3, li_4, li_5, li_9, li_10, li_19, li_20, li_26, li_40, li_60, li_64, li_97, li_48, li_100, li_199, li_200, li_1000, li_8200, li_9999, li_100000], by simp (disch := omega) only [↓reduceIte, Nat.reduceSub, Nat.reduceAdd, Nat.reduceMul, Nat.sub_zero, Nat.add_zero, Nat.zero_add, Nat.mul_zero, lq_s, br_s, bd_s, bv_s, gd_tt, inB_nI, nI_clamp, sk_s, sk_n, pk_us, pk_un, nI_add, pk_mul, pk_sub, nI_leI, nI_ltI, nI_eq, if_pos, if_neg, nn_neg, nn_ne, nn_ne2, nn_lt, nn_nlt, nn_nle, nn_le, nn_m1, li_0, li_1, li_2, li_3, li_4, li_5, li_9, li_10, li_19, li_20, li_26, li_40, li_60, li_64, li_97, li_48, li_100, li_199, li_200, li_1000, li_8200, li_9999, li_100000], fun j j1 j2 => ?_⟩, fun k _ _ _ => by simp (disch := omega) only [↓reduceIte, Nat.reduceSub, Nat.reduceAdd, Nat.reduceMul, Nat.sub_zero, Nat.add_zero, Nat.zero_add, Nat.mul_zero, lq_s, br_s, bd_s, bv_s, gd_tt, inB_nI, nI_clamp, sk_s, sk_n, pk_us, pk_un, nI_add, pk_mul, pk_sub, nI_leI, nI_ltI, nI_eq, if_pos, if_neg, nn_neg, nn_ne, nn_ne2, nn_lt, nn_nlt, nn_nle, nn_le, nn_m1, li_0, li_1, li_2, li_3, li_4, li_5, li_9, li_10, li_19, li_20, li_26, li_40, li_60, li_64, li_97, li_48, li_100, li_199, li_200, li_1000, li_8200, li_9999, li_100000], fun k _ _ _ => by simp (disch := omega) only [↓reduceIte, Nat.reduceSub, Nat.reduceAdd, Nat.reduceMul, Nat.sub_zero, Nat.add_zero, Nat.zero_add, Nat.mul_zero, lq_s, br_s, bd_s, bv_s, gd_tt, inB_nI, nI_clamp, sk_s, sk_n, pk_us, pk_un, nI_add, pk_mul, pk_sub, nI_leI, nI_ltI, nI_eq, if_pos, if_neg, nn_neg, nn_ne, nn_ne2, nn_lt, nn_nlt, nn_nle, nn_le, nn_m1, li_0, li_1, li_2, li_3, li_4, li_5, li_9, li_10, li_19, li_20, li_26, li_40, li_60, li_64, li_97, li_48, li_100, li_199, li_200, li_1000, li_8200, li_9999, li_100000]⟩
    simp (disch := omega) only [↓reduceIte, Nat.reduceSub, Nat.reduceAdd, Nat.reduceMul, Nat.sub_zero, Nat.add_zero, Nat.zero_add, Nat.mul_zero, lq_s, br_s, bd_s, bv_s, gd_tt, inB_nI, nI_clamp, sk_s, sk_n, pk_us, pk_un, nI_add, pk_mul, pk_sub, nI_leI, nI_ltI, nI_eq, if_pos, if_neg, nn_neg, nn_ne, nn_ne2, nn_lt, nn_nlt, nn_nle, nn_le, nn_m1, li_0, li_1, li_2, li_3, li_4, li_5, li_9, li_10, li_19, li_20, li_26, li_40, li_60, li_64, li_97, li_48, li_100, li_199, li_200, li_1000, li_8200, li_9999, li_100000]
    exact h3 j (by omega) j2
  · refine ⟨sk (sk (sk σ 16 (upd (σ 16) a kind)) 17 (upd (σ 17) a thing)) 31 (fun _ => nI (a + 1)), sk (sk (sk ρ 13 (upd (ρ 13) a kind)) 14 (upd (ρ 14) a thing)) 25 (fun _ => nI (a + 1)), by simp (disch := omega) only [↓reduceIte, Nat.reduceSub, Nat.reduceAdd, Nat.reduceMul, Nat.sub_zero, Nat.add_zero, Nat.zero_add, Nat.mul_zero, lq_s, br_s, bd_s, bv_s, gd_tt, inB_nI, nI_clamp, sk_s, sk_n, pk_us, pk_un, nI_add, pk_mul, pk_sub, nI_leI, nI_ltI, nI_eq, if_pos, if_neg, nn_neg, nn_ne, nn_ne2, nn_lt, nn_nlt, nn_nle, nn_le, nn_m1, li_0, li_1, li_2, li_3, li_4, li_5, li_9, li_10, li_19, li_20, li_26, li_40, li_60, li_64, li_97, li_48, li_100, li_199, li_200, li_1000, li_8200, li_9999, li_100000, h1], by simp (disch := omega) only [↓reduceIte, Nat.reduceSub, Nat.reduceAdd, Nat.reduceMul, Nat.sub_zero, Nat.add_zero, Nat.zero_add, Nat.mul_zero, lq_s, br_s, bd_s, bv_s, gd_tt, inB_nI, nI_clamp, sk_s, sk_n, pk_us, pk_un, nI_add, pk_mul, pk_sub, nI_leI, nI_ltI, nI_eq, if_pos, if_neg, nn_neg, nn_ne, nn_ne2, nn_lt, nn_nlt, nn_nle, nn_le, nn_m1, li_0, li_1, li_2, li_3, li_4, li_5, li_9, li_10, li_19, li_20, li_26, li_40, li_60, li_64, li_97, li_48, li_100, li_199, li_200, li_1000, li_8200, li_9999, li_100000, h2], ⟨by simp (disch := omega) only [↓reduceIte, Nat.reduceSub, Nat.reduceAdd, Nat.reduceMul, Nat.sub_zero, Nat.add_zero, Nat.zero_add, Nat.mul_zero, lq_s, br_s, bd_s, bv_s, gd_tt, inB_nI, nI_clamp, sk_s, sk_n, pk_us, pk_un, nI_add, pk_mul, pk_sub, nI_leI, nI_ltI, nI_eq, if_pos, if_neg, nn_neg, nn_ne, nn_ne2, nn_lt, nn_nlt, nn_nle, nn_le, nn_m1, li_0, li_1, li_2, li_3, li_4, li_5, li_9, li_10, li_19, li_20, li_26, li_40, li_60, li_64, li_97, li_48, li_100, li_199, li_200, li_1000, li_8200, li_9999, li_100000], by simp (disch := omega) only [↓reduceIte, Nat.reduceSub, Nat.reduceAdd, Nat.reduceMul, Nat.sub_zero, Nat.add_zero, Nat.zero_add, Nat.mul_zero, lq_s, br_s, bd_s, bv_s, gd_tt, inB_nI, nI_clamp, sk_s, sk_n, pk_us, pk_un, nI_add, pk_mul, pk_sub, nI_leI, nI_ltI, nI_eq, if_pos, if_neg, nn_neg, nn_ne, nn_ne2, nn_lt, nn_nlt, nn_nle, nn_le, nn_m1, li_0, li_1, li_2, li_3, li_4, li_5, li_9, li_10, li_19, li_20, li_26, li_40, li_60, li_64, li_97, li_48, li_100, li_199, li_200, li_1000, li_8200, li_9999, li_100000], fun j j1 j2 => ?_⟩, fun k _ _ _ => by simp (disch := omega) only [↓reduceIte, Nat.reduceSub, Nat.reduceAdd, Nat.reduceMul, Nat.sub_zero, Nat.add_zero, Nat.zero_add, Nat.mul_zero, lq_s, br_s, bd_s, bv_s, gd_tt, inB_nI, nI_clamp, sk_s, sk_n, pk_us, pk_un, nI_add, pk_mul, pk_sub, nI_leI, nI_ltI, nI_eq, if_pos, if_neg, nn_neg, nn_ne, nn_ne2, nn_lt, nn_nlt, nn_nle, nn_le, nn_m1, li_0, li_1, li_2, li_3, li_4, li_5, li_9, li_10, li_19, li_20, li_26, li_40, li_60, li_64, li_97, li_48, li_100, li_199, li_200, li_1000, li_8200, li_9999, li_100000], fun k _ _ _ => by simp (disch := omega) only [↓reduceIte, Nat.reduceSub, Nat.reduceAdd, Nat.reduceMul, Nat.sub_zero, Nat.add_zero, Nat.zero_add, Nat.mul_zero, lq_s, br_s, bd_s, bv_s, gd_tt, inB_nI, nI_clamp, sk_s, sk_n, pk_us, pk_un, nI_add, pk_mul, pk_sub, nI_leI, nI_ltI, nI_eq, if_pos, if_neg, nn_neg, nn_ne, nn_ne2, nn_lt, nn_nlt, nn_nle, nn_le, nn_m1, li_0, li_1, li_2, li_3, li_4, li_5, li_9, li_10, li_19, li_20, li_26, li_40, li_60, li_64, li_97, li_48, li_100, li_199, li_200, li_1000, li_8200, li_9999, li_100000]⟩
    by_cases hja : j = a
    · subst hja
      simp (disch := omega) only [↓reduceIte, Nat.reduceSub, Nat.reduceAdd, Nat.reduceMul, Nat.sub_zero, Nat.add_zero, Nat.zero_add, Nat.mul_zero, lq_s, br_s, bd_s, bv_s, gd_tt, inB_nI, nI_clamp, sk_s, sk_n, pk_us, pk_un, nI_add, pk_mul, pk_sub, nI_leI, nI_ltI, nI_eq, if_pos, if_neg, nn_neg, nn_ne, nn_ne2, nn_lt, nn_nlt, nn_nle, nn_le, nn_m1, li_0, li_1, li_2, li_3, li_4, li_5, li_9, li_10, li_19, li_20, li_26, li_40, li_60, li_64, li_97, li_48, li_100, li_199, li_200, li_1000, li_8200, li_9999, li_100000]
      exact ⟨trivial, trivial⟩
    · simp (disch := omega) only [↓reduceIte, Nat.reduceSub, Nat.reduceAdd, Nat.reduceMul, Nat.sub_zero, Nat.add_zero, Nat.zero_add, Nat.mul_zero, lq_s, br_s, bd_s, bv_s, gd_tt, inB_nI, nI_clamp, sk_s, sk_n, pk_us, pk_un, nI_add, pk_mul, pk_sub, nI_leI, nI_ltI, nI_eq, if_pos, if_neg, nn_neg, nn_ne, nn_ne2, nn_lt, nn_nlt, nn_nle, nn_le, nn_m1, li_0, li_1, li_2, li_3, li_4, li_5, li_9, li_10, li_19, li_20, li_26, li_40, li_60, li_64, li_97, li_48, li_100, li_199, li_200, li_1000, li_8200, li_9999, li_100000]
      exact h3 j (by omega) j2
/-- a page's own values are copied, by both -/
theorem own_same {n : Nat} {pg kc : Nat → Nat} {kd : Nat → Nat → Nat} {pa ct : Nat → Int32} (hW : WF n pg kc kd pa) {g t : Nat} (hg : g < n) (ht : t < n) (v1 v2 : Int32) : ∀ (c key fk fr : Nat) (ow : Nat → Nat → Int32) (σ ρ : St), key + c = 4 → c < fk → c < fr → IV n pg kc kd pa ct ow σ 26 → IV n pg kc kd pa ct ow ρ 22 → ∃ ow' σ' ρ', kL_Items_copyOwnValues_19 fk σ (nI g) (nI t) (nI key) = some σ' ∧ rL_Md_mendKid_89 fr ρ v1 v2 (nI g) (nI t) (nI key) = rJ_Md_mendKid_124 ρ' v1 v2 (nI t) ∧ IV n pg kc kd pa ct ow' σ' 26 ∧ IV n pg kc kd pa ct ow' ρ' 22 ∧ (∀ k, k ≠ 5 → σ' k = σ k) ∧ (∀ q, 4 * n ≤ q → σ' 5 q = σ 5 q) ∧ ∀ k, k ≠ 5 → ρ' k = ρ k := by
  have hn := hW.1
  intro c
  induction c with
  | zero =>
    intro key fk fr ow σ ρ hk h1 h2 hI hJ
    obtain ⟨g1, rfl⟩ : ∃ g, fk = g + 1 := ⟨fk - 1, by omega⟩
    obtain ⟨g2, rfl⟩ : ∃ g, fr = g + 1 := ⟨fr - 1, by omega⟩
    refine ⟨ow, σ, ρ, ?_, ?_, hI, hJ, fun _ _ => rfl, fun _ _ => rfl, fun _ _ => rfl⟩
    · rw [kL_Items_copyOwnValues_19]
      simp (disch := omega) only [↓reduceIte, Nat.reduceSub, Nat.reduceAdd, Nat.reduceMul, Nat.sub_zero, Nat.add_zero, Nat.zero_add, Nat.mul_zero, lq_s, br_s, bd_s, bv_s, gd_tt, inB_nI, nI_clamp, sk_s, sk_n, pk_us, pk_un, nI_add, pk_mul, pk_sub, nI_leI, nI_ltI, nI_eq, if_pos, if_neg, nn_neg, nn_ne, nn_ne2, nn_lt, nn_nlt, nn_nle, nn_le, nn_m1, li_0, li_1, li_2, li_3, li_4, li_5, li_9, li_10, li_19, li_20, li_26, li_40, li_60, li_64, li_97, li_48, li_100, li_199, li_200, li_1000, li_8200, li_9999, li_100000]
    · rw [rL_Md_mendKid_89]
      simp (disch := omega) only [↓reduceIte, Nat.reduceSub, Nat.reduceAdd, Nat.reduceMul, Nat.sub_zero, Nat.add_zero, Nat.zero_add, Nat.mul_zero, lq_s, br_s, bd_s, bv_s, gd_tt, inB_nI, nI_clamp, sk_s, sk_n, pk_us, pk_un, nI_add, pk_mul, pk_sub, nI_leI, nI_ltI, nI_eq, if_pos, if_neg, nn_neg, nn_ne, nn_ne2, nn_lt, nn_nlt, nn_nle, nn_le, nn_m1, li_0, li_1, li_2, li_3, li_4, li_5, li_9, li_10, li_19, li_20, li_26, li_40, li_60, li_64, li_97, li_48, li_100, li_199, li_200, li_1000, li_8200, li_9999, li_100000]
  | succ c ih =>
    intro key fk fr ow σ ρ hk h1 h2 hI hJ
    obtain ⟨g1, rfl⟩ : ∃ g, fk = g + 1 := ⟨fk - 1, by omega⟩
    obtain ⟨g2, rfl⟩ : ∃ g, fr = g + 1 := ⟨fr - 1, by omega⟩
    have hkey : key < 4 := by omega
    have e1 := hI.2.2.2.2.2.2 g key hg hkey
    rw [show 4 * g + key = g * 4 + key by omega] at e1
    have e2 := hJ.2.2.2.2.2.2 g key hg hkey
    obtain ⟨ow', σ', ρ', a1, a2, a3, a4, a5, a6, a7⟩ := ih (key + 1) g1 g2 (owU ow t key (ow g key)) (sk σ 5 (upd (σ 5) (4 * t + key) (ow g key))) (sk ρ 5 (upd (ρ 5) (4 * t + key) (ow g key))) (by omega) (by omega) (by omega) (hI.own (by decide) hkey) (hJ.own (by decide) hkey)
    refine ⟨ow', σ', ρ', ?_, ?_, a3, a4, fun k hk5 => ?_, fun q hq => ?_, fun k hk5 => ?_⟩
    · rw [kL_Items_copyOwnValues_19]
      rw [show 4 * t + key = t * 4 + key by omega] at a1
      simp (disch := omega) only [↓reduceIte, Nat.reduceSub, Nat.reduceAdd, Nat.reduceMul, Nat.sub_zero, Nat.add_zero, Nat.zero_add, Nat.mul_zero, lq_s, br_s, bd_s, bv_s, gd_tt, inB_nI, nI_clamp, sk_s, sk_n, pk_us, pk_un, nI_add, pk_mul, pk_sub, nI_leI, nI_ltI, nI_eq, if_pos, if_neg, nn_neg, nn_ne, nn_ne2, nn_lt, nn_nlt, nn_nle, nn_le, nn_m1, li_0, li_1, li_2, li_3, li_4, li_5, li_9, li_10, li_19, li_20, li_26, li_40, li_60, li_64, li_97, li_48, li_100, li_199, li_200, li_1000, li_8200, li_9999, li_100000, e1]
      exact a1
    · rw [rL_Md_mendKid_89]
      simp (disch := omega) only [↓reduceIte, Nat.reduceSub, Nat.reduceAdd, Nat.reduceMul, Nat.sub_zero, Nat.add_zero, Nat.zero_add, Nat.mul_zero, lq_s, br_s, bd_s, bv_s, gd_tt, inB_nI, nI_clamp, sk_s, sk_n, pk_us, pk_un, nI_add, pk_mul, pk_sub, nI_leI, nI_ltI, nI_eq, if_pos, if_neg, nn_neg, nn_ne, nn_ne2, nn_lt, nn_nlt, nn_nle, nn_le, nn_m1, li_0, li_1, li_2, li_3, li_4, li_5, li_9, li_10, li_19, li_20, li_26, li_40, li_60, li_64, li_97, li_48, li_100, li_199, li_200, li_1000, li_8200, li_9999, li_100000, e2]
      exact a2
    · rw [a5 k hk5]; simp (disch := omega) only [↓reduceIte, Nat.reduceSub, Nat.reduceAdd, Nat.reduceMul, Nat.sub_zero, Nat.add_zero, Nat.zero_add, Nat.mul_zero, lq_s, br_s, bd_s, bv_s, gd_tt, inB_nI, nI_clamp, sk_s, sk_n, pk_us, pk_un, nI_add, pk_mul, pk_sub, nI_leI, nI_ltI, nI_eq, if_pos, if_neg, nn_neg, nn_ne, nn_ne2, nn_lt, nn_nlt, nn_nle, nn_le, nn_m1, li_0, li_1, li_2, li_3, li_4, li_5, li_9, li_10, li_19, li_20, li_26, li_40, li_60, li_64, li_97, li_48, li_100, li_199, li_200, li_1000, li_8200, li_9999, li_100000]
    · rw [a6 q hq]
      have : q ≠ 4 * t + key := by omega
      simp (disch := omega) only [↓reduceIte, Nat.reduceSub, Nat.reduceAdd, Nat.reduceMul, Nat.sub_zero, Nat.add_zero, Nat.zero_add, Nat.mul_zero, lq_s, br_s, bd_s, bv_s, gd_tt, inB_nI, nI_clamp, sk_s, sk_n, pk_us, pk_un, nI_add, pk_mul, pk_sub, nI_leI, nI_ltI, nI_eq, if_pos, if_neg, nn_neg, nn_ne, nn_ne2, nn_lt, nn_nlt, nn_nle, nn_le, nn_m1, li_0, li_1, li_2, li_3, li_4, li_5, li_9, li_10, li_19, li_20, li_26, li_40, li_60, li_64, li_97, li_48, li_100, li_199, li_200, li_1000, li_8200, li_9999, li_100000]
    · rw [a7 k hk5]; simp (disch := omega) only [↓reduceIte, Nat.reduceSub, Nat.reduceAdd, Nat.reduceMul, Nat.sub_zero, Nat.add_zero, Nat.zero_add, Nat.mul_zero, lq_s, br_s, bd_s, bv_s, gd_tt, inB_nI, nI_clamp, sk_s, sk_n, pk_us, pk_un, nI_add, pk_mul, pk_sub, nI_leI, nI_ltI, nI_eq, if_pos, if_neg, nn_neg, nn_ne, nn_ne2, nn_lt, nn_nlt, nn_nle, nn_le, nn_m1, li_0, li_1, li_2, li_3, li_4, li_5, li_9, li_10, li_19, li_20, li_26, li_40, li_60, li_64, li_97, li_48, li_100, li_199, li_200, li_1000, li_8200, li_9999, li_100000]
theorem IV.put {n : Nat} {pg kc : Nat → Nat} {kd : Nat → Nat → Nat} {pa ct : Nat → Int32} {ow : Nat → Nat → Int32} {s : St} {z x sl it : Nat} (h : IV n pg kc kd pa ct ow s z) (hz : z ≠ 4) (hx : x < n) (hs : sl < kc x) (h40 : ∀ i, i < n → kc i ≤ 40) : IV n pg kc (setKd kd x sl it) pa ct ow (sk s 4 (upd (s 4) (40 * x + sl) (nI it))) z := by
  obtain ⟨q1, q2, q3, q4, q5, q6, q7⟩ := h
  refine ⟨by simp (disch := omega) only [↓reduceIte, Nat.reduceSub, Nat.reduceAdd, Nat.reduceMul, Nat.sub_zero, Nat.add_zero, Nat.zero_add, Nat.mul_zero, lq_s, br_s, bd_s, bv_s, gd_tt, inB_nI, nI_clamp, sk_s, sk_n, pk_us, pk_un, nI_add, pk_mul, pk_sub, nI_leI, nI_ltI, nI_eq, if_pos, if_neg, nn_neg, nn_ne, nn_ne2, nn_lt, nn_nlt, nn_nle, nn_le, nn_m1, li_0, li_1, li_2, li_3, li_4, li_5, li_9, li_10, li_19, li_20, li_26, li_40, li_60, li_64, li_97, li_48, li_100, li_199, li_200, li_1000, li_8200, li_9999, li_100000]; exact q1, by simp (disch := omega) only [↓reduceIte, Nat.reduceSub, Nat.reduceAdd, Nat.reduceMul, Nat.sub_zero, Nat.add_zero, Nat.zero_add, Nat.mul_zero, lq_s, br_s, bd_s, bv_s, gd_tt, inB_nI, nI_clamp, sk_s, sk_n, pk_us, pk_un, nI_add, pk_mul, pk_sub, nI_leI, nI_ltI, nI_eq, if_pos, if_neg, nn_neg, nn_ne, nn_ne2, nn_lt, nn_nlt, nn_nle, nn_le, nn_m1, li_0, li_1, li_2, li_3, li_4, li_5, li_9, li_10, li_19, li_20, li_26, li_40, li_60, li_64, li_97, li_48, li_100, li_199, li_200, li_1000, li_8200, li_9999, li_100000]; exact q2, by simp (disch := omega) only [↓reduceIte, Nat.reduceSub, Nat.reduceAdd, Nat.reduceMul, Nat.sub_zero, Nat.add_zero, Nat.zero_add, Nat.mul_zero, lq_s, br_s, bd_s, bv_s, gd_tt, inB_nI, nI_clamp, sk_s, sk_n, pk_us, pk_un, nI_add, pk_mul, pk_sub, nI_leI, nI_ltI, nI_eq, if_pos, if_neg, nn_neg, nn_ne, nn_ne2, nn_lt, nn_nlt, nn_nle, nn_le, nn_m1, li_0, li_1, li_2, li_3, li_4, li_5, li_9, li_10, li_19, li_20, li_26, li_40, li_60, li_64, li_97, li_48, li_100, li_199, li_200, li_1000, li_8200, li_9999, li_100000]; exact q3, by simp (disch := omega) only [↓reduceIte, Nat.reduceSub, Nat.reduceAdd, Nat.reduceMul, Nat.sub_zero, Nat.add_zero, Nat.zero_add, Nat.mul_zero, lq_s, br_s, bd_s, bv_s, gd_tt, inB_nI, nI_clamp, sk_s, sk_n, pk_us, pk_un, nI_add, pk_mul, pk_sub, nI_leI, nI_ltI, nI_eq, if_pos, if_neg, nn_neg, nn_ne, nn_ne2, nn_lt, nn_nlt, nn_nle, nn_le, nn_m1, li_0, li_1, li_2, li_3, li_4, li_5, li_9, li_10, li_19, li_20, li_26, li_40, li_60, li_64, li_97, li_48, li_100, li_199, li_200, li_1000, li_8200, li_9999, li_100000]; exact q4, by simp (disch := omega) only [↓reduceIte, Nat.reduceSub, Nat.reduceAdd, Nat.reduceMul, Nat.sub_zero, Nat.add_zero, Nat.zero_add, Nat.mul_zero, lq_s, br_s, bd_s, bv_s, gd_tt, inB_nI, nI_clamp, sk_s, sk_n, pk_us, pk_un, nI_add, pk_mul, pk_sub, nI_leI, nI_ltI, nI_eq, if_pos, if_neg, nn_neg, nn_ne, nn_ne2, nn_lt, nn_nlt, nn_nle, nn_le, nn_m1, li_0, li_1, li_2, li_3, li_4, li_5, li_9, li_10, li_19, li_20, li_26, li_40, li_60, li_64, li_97, li_48, li_100, li_199, li_200, li_1000, li_8200, li_9999, li_100000]; exact q5, fun i k hi hk => ?_, by simp (disch := omega) only [↓reduceIte, Nat.reduceSub, Nat.reduceAdd, Nat.reduceMul, Nat.sub_zero, Nat.add_zero, Nat.zero_add, Nat.mul_zero, lq_s, br_s, bd_s, bv_s, gd_tt, inB_nI, nI_clamp, sk_s, sk_n, pk_us, pk_un, nI_add, pk_mul, pk_sub, nI_leI, nI_ltI, nI_eq, if_pos, if_neg, nn_neg, nn_ne, nn_ne2, nn_lt, nn_nlt, nn_nle, nn_le, nn_m1, li_0, li_1, li_2, li_3, li_4, li_5, li_9, li_10, li_19, li_20, li_26, li_40, li_60, li_64, li_97, li_48, li_100, li_199, li_200, li_1000, li_8200, li_9999, li_100000]; exact q7⟩
  have a1 := h40 i hi
  have a2 := h40 x hx
  unfold setKd
  by_cases hc : i = x ∧ k = sl
  · rw [if_pos hc]
    obtain ⟨rfl, rfl⟩ := hc
    simp (disch := omega) only [↓reduceIte, Nat.reduceSub, Nat.reduceAdd, Nat.reduceMul, Nat.sub_zero, Nat.add_zero, Nat.zero_add, Nat.mul_zero, lq_s, br_s, bd_s, bv_s, gd_tt, inB_nI, nI_clamp, sk_s, sk_n, pk_us, pk_un, nI_add, pk_mul, pk_sub, nI_leI, nI_ltI, nI_eq, if_pos, if_neg, nn_neg, nn_ne, nn_ne2, nn_lt, nn_nlt, nn_nle, nn_le, nn_m1, li_0, li_1, li_2, li_3, li_4, li_5, li_9, li_10, li_19, li_20, li_26, li_40, li_60, li_64, li_97, li_48, li_100, li_199, li_200, li_1000, li_8200, li_9999, li_100000]
  · rw [if_neg hc]
    have : 40 * i + k ≠ 40 * x + sl := by omega
    simp (disch := omega) only [↓reduceIte, Nat.reduceSub, Nat.reduceAdd, Nat.reduceMul, Nat.sub_zero, Nat.add_zero, Nat.zero_add, Nat.mul_zero, lq_s, br_s, bd_s, bv_s, gd_tt, inB_nI, nI_clamp, sk_s, sk_n, pk_us, pk_un, nI_add, pk_mul, pk_sub, nI_leI, nI_ltI, nI_eq, if_pos, if_neg, nn_neg, nn_ne, nn_ne2, nn_lt, nn_nlt, nn_nle, nn_le, nn_m1, li_0, li_1, li_2, li_3, li_4, li_5, li_9, li_10, li_19, li_20, li_26, li_40, li_60, li_64, li_97, li_48, li_100, li_199, li_200, li_1000, li_8200, li_9999, li_100000]
    exact q6 i k hi hk
theorem WF.put {n : Nat} {pg kc : Nat → Nat} {kd : Nat → Nat → Nat} {pa : Nat → Int32} {x sl it : Nat} (h : WF n pg kc kd pa) (hit : it < n) : WF n pg kc (setKd kd x sl it) pa := by
  obtain ⟨q1, q2, q3, q4, q5, q6, q7⟩ := h
  refine ⟨q1, q2, q3, fun i k hi hk => ?_, q5, q6, q7⟩
  unfold setKd
  by_cases hc : i = x ∧ k = sl
  · rw [if_pos hc]; exact hit
  · rw [if_neg hc]; exact q4 i k hi hk
theorem k_replace {n : Nat} {pg kc : Nat → Nat} {kd : Nat → Nat → Nat} {pa ct : Nat → Int32} {ow : Nat → Nat → Int32} {σ : St} {x s it : Nat} (hI : IV n pg kc kd pa ct ow σ 26) (hW : WF n pg kc kd pa) (hx : x < n) (hs : s < kc x) : kM_Items_replaceKid σ (nI x) (nI s) (nI it) = some (sk (sk σ 4 (upd (σ 4) (40 * x + s) (nI it))) 27 (fun _ => σ 27 0 + nI 1)) := by
  have hn := hW.1
  have h40 := hW.2.2.1 x hx
  have e3 := hI.2.2.2.2.1 x hx
  have z := hI.1
  unfold kM_Items_replaceKid kM_Items_hasSlot
  rw [show 40 * x + s = x * 40 + s by omega]
  simp (disch := omega) only [↓reduceIte, Nat.reduceSub, Nat.reduceAdd, Nat.reduceMul, Nat.sub_zero, Nat.add_zero, Nat.zero_add, Nat.mul_zero, lq_s, br_s, bd_s, bv_s, gd_tt, inB_nI, nI_clamp, sk_s, sk_n, pk_us, pk_un, nI_add, pk_mul, pk_sub, nI_leI, nI_ltI, nI_eq, if_pos, if_neg, nn_neg, nn_ne, nn_ne2, nn_lt, nn_nlt, nn_nle, nn_le, nn_m1, li_0, li_1, li_2, li_3, li_4, li_5, li_9, li_10, li_19, li_20, li_26, li_40, li_60, li_64, li_97, li_48, li_100, li_199, li_200, li_1000, li_8200, li_9999, li_100000, z, e3]
/-- whether a node is on the way, by both -/
theorem p_onWay {d y : Nat} {σ ρ : St} (hd : d ≤ 200) (hy : y < 200) (h1 : σ 33 0 = nI d) (h2 : ρ 23 0 = nI d) (w : Nat → Nat) (hw : ∀ j, j < d → w j < 200 ∧ σ 14 j = nI (w j) ∧ ρ 6 j = nI (w j)) : ∃ r, r ≤ 1 ∧ kM_Walk_isOnTheWay_Mender σ (nI y) = some (nI r) ∧ rM_Md_isOnWay ρ (nI y) = some (nI r) := by
  have hFU := FU_ge
  have one : ∀ (c j fr : Nat), j + c = d → c < fr → rL_Md_isOnWay_4 ρ fr (nI y) (nI 1) (nI j) = some (nI 1) := by
    intro c
    induction c with
    | zero =>
      intro j fr hj hf
      obtain ⟨g, rfl⟩ : ∃ g, fr = g + 1 := ⟨fr - 1, by omega⟩
      rw [rL_Md_isOnWay_4]
      have : boB (nI 1) = true := rfl
      simp (disch := omega) only [↓reduceIte, Nat.reduceSub, Nat.reduceAdd, Nat.reduceMul, Nat.sub_zero, Nat.add_zero, Nat.zero_add, Nat.mul_zero, lq_s, br_s, bd_s, bv_s, gd_tt, inB_nI, nI_clamp, sk_s, sk_n, pk_us, pk_un, nI_add, pk_mul, pk_sub, nI_leI, nI_ltI, nI_eq, if_pos, if_neg, nn_neg, nn_ne, nn_ne2, nn_lt, nn_nlt, nn_nle, nn_le, nn_m1, li_0, li_1, li_2, li_3, li_4, li_5, li_9, li_10, li_19, li_20, li_26, li_40, li_60, li_64, li_97, li_48, li_100, li_199, li_200, li_1000, li_8200, li_9999, li_100000, h2, this]
    | succ c ih =>
      intro j fr hj hf
      obtain ⟨g, rfl⟩ : ∃ g, fr = g + 1 := ⟨fr - 1, by omega⟩
      rw [rL_Md_isOnWay_4]
      unfold rJ_Md_isOnWay_26 rJ_Md_isOnWay_31
      simp (disch := omega) only [↓reduceIte, Nat.reduceSub, Nat.reduceAdd, Nat.reduceMul, Nat.sub_zero, Nat.add_zero, Nat.zero_add, Nat.mul_zero, lq_s, br_s, bd_s, bv_s, gd_tt, inB_nI, nI_clamp, sk_s, sk_n, pk_us, pk_un, nI_add, pk_mul, pk_sub, nI_leI, nI_ltI, nI_eq, if_pos, if_neg, nn_neg, nn_ne, nn_ne2, nn_lt, nn_nlt, nn_nle, nn_le, nn_m1, li_0, li_1, li_2, li_3, li_4, li_5, li_9, li_10, li_19, li_20, li_26, li_40, li_60, li_64, li_97, li_48, li_100, li_199, li_200, li_1000, li_8200, li_9999, li_100000, h2]
      exact ih (j + 1) g (by omega) (by omega)
  have key : ∀ (c j fk fr : Nat), j + c = d → c < fk → c < fr → ∃ r, r ≤ 1 ∧ kL_Walk_isOnTheWay_Mender_2 σ fk (nI y) (nI j) = some (nI r) ∧ rL_Md_isOnWay_4 ρ fr (nI y) (nI 0) (nI j) = some (nI r) := by
    intro c
    induction c with
    | zero =>
      intro j fk fr hj hf hf2
      obtain ⟨g, rfl⟩ : ∃ g, fk = g + 1 := ⟨fk - 1, by omega⟩
      obtain ⟨g2, rfl⟩ : ∃ g, fr = g + 1 := ⟨fr - 1, by omega⟩
      refine ⟨0, by omega, ?_, ?_⟩
      · rw [kL_Walk_isOnTheWay_Mender_2]
        simp (disch := omega) only [↓reduceIte, Nat.reduceSub, Nat.reduceAdd, Nat.reduceMul, Nat.sub_zero, Nat.add_zero, Nat.zero_add, Nat.mul_zero, lq_s, br_s, bd_s, bv_s, gd_tt, inB_nI, nI_clamp, sk_s, sk_n, pk_us, pk_un, nI_add, pk_mul, pk_sub, nI_leI, nI_ltI, nI_eq, if_pos, if_neg, nn_neg, nn_ne, nn_ne2, nn_lt, nn_nlt, nn_nle, nn_le, nn_m1, li_0, li_1, li_2, li_3, li_4, li_5, li_9, li_10, li_19, li_20, li_26, li_40, li_60, li_64, li_97, li_48, li_100, li_199, li_200, li_1000, li_8200, li_9999, li_100000, h1]
      · rw [rL_Md_isOnWay_4]
        have : boB (nI 0) = true := rfl
        simp (disch := omega) only [↓reduceIte, Nat.reduceSub, Nat.reduceAdd, Nat.reduceMul, Nat.sub_zero, Nat.add_zero, Nat.zero_add, Nat.mul_zero, lq_s, br_s, bd_s, bv_s, gd_tt, inB_nI, nI_clamp, sk_s, sk_n, pk_us, pk_un, nI_add, pk_mul, pk_sub, nI_leI, nI_ltI, nI_eq, if_pos, if_neg, nn_neg, nn_ne, nn_ne2, nn_lt, nn_nlt, nn_nle, nn_le, nn_m1, li_0, li_1, li_2, li_3, li_4, li_5, li_9, li_10, li_19, li_20, li_26, li_40, li_60, li_64, li_97, li_48, li_100, li_199, li_200, li_1000, li_8200, li_9999, li_100000, h2, this]
    | succ c ih =>
      intro j fk fr hj hf hf2
      obtain ⟨g, rfl⟩ : ∃ g, fk = g + 1 := ⟨fk - 1, by omega⟩
      obtain ⟨g2, rfl⟩ : ∃ g, fr = g + 1 := ⟨fr - 1, by omega⟩
      obtain ⟨w1, w2, w3⟩ := hw j (by omega)
      rw [kL_Walk_isOnTheWay_Mender_2, rL_Md_isOnWay_4]
      unfold rJ_Md_isOnWay_26 rJ_Md_isOnWay_31
      by_cases hwy : w j = y
      · rw [hwy] at w2 w3
        refine ⟨1, by omega, by simp (disch := omega) only [↓reduceIte, Nat.reduceSub, Nat.reduceAdd, Nat.reduceMul, Nat.sub_zero, Nat.add_zero, Nat.zero_add, Nat.mul_zero, lq_s, br_s, bd_s, bv_s, gd_tt, inB_nI, nI_clamp, sk_s, sk_n, pk_us, pk_un, nI_add, pk_mul, pk_sub, nI_leI, nI_ltI, nI_eq, if_pos, if_neg, nn_neg, nn_ne, nn_ne2, nn_lt, nn_nlt, nn_nle, nn_le, nn_m1, li_0, li_1, li_2, li_3, li_4, li_5, li_9, li_10, li_19, li_20, li_26, li_40, li_60, li_64, li_97, li_48, li_100, li_199, li_200, li_1000, li_8200, li_9999, li_100000, h1, w2], ?_⟩
        simp (disch := omega) only [↓reduceIte, Nat.reduceSub, Nat.reduceAdd, Nat.reduceMul, Nat.sub_zero, Nat.add_zero, Nat.zero_add, Nat.mul_zero, lq_s, br_s, bd_s, bv_s, gd_tt, inB_nI, nI_clamp, sk_s, sk_n, pk_us, pk_un, nI_add, pk_mul, pk_sub, nI_leI, nI_ltI, nI_eq, if_pos, if_neg, nn_neg, nn_ne, nn_ne2, nn_lt, nn_nlt, nn_nle, nn_le, nn_m1, li_0, li_1, li_2, li_3, li_4, li_5, li_9, li_10, li_19, li_20, li_26, li_40, li_60, li_64, li_97, li_48, li_100, li_199, li_200, li_1000, li_8200, li_9999, li_100000, h2, w3]
        exact one c (j + 1) g2 (by omega) (by omega)
      · obtain ⟨r, r1, r2, r3⟩ := ih (j + 1) g g2 (by omega) (by omega) (by omega)
        refine ⟨r, r1, ?_, ?_⟩
        · simp (disch := omega) only [↓reduceIte, Nat.reduceSub, Nat.reduceAdd, Nat.reduceMul, Nat.sub_zero, Nat.add_zero, Nat.zero_add, Nat.mul_zero, lq_s, br_s, bd_s, bv_s, gd_tt, inB_nI, nI_clamp, sk_s, sk_n, pk_us, pk_un, nI_add, pk_mul, pk_sub, nI_leI, nI_ltI, nI_eq, if_pos, if_neg, nn_neg, nn_ne, nn_ne2, nn_lt, nn_nlt, nn_nle, nn_le, nn_m1, li_0, li_1, li_2, li_3, li_4, li_5, li_9, li_10, li_19, li_20, li_26, li_40, li_60, li_64, li_97, li_48, li_100, li_199, li_200, li_1000, li_8200, li_9999, li_100000, h1, w2]
          exact r2
        · simp (disch := omega) only [↓reduceIte, Nat.reduceSub, Nat.reduceAdd, Nat.reduceMul, Nat.sub_zero, Nat.add_zero, Nat.zero_add, Nat.mul_zero, lq_s, br_s, bd_s, bv_s, gd_tt, inB_nI, nI_clamp, sk_s, sk_n, pk_us, pk_un, nI_add, pk_mul, pk_sub, nI_leI, nI_ltI, nI_eq, if_pos, if_neg, nn_neg, nn_ne, nn_ne2, nn_lt, nn_nlt, nn_nle, nn_le, nn_m1, li_0, li_1, li_2, li_3, li_4, li_5, li_9, li_10, li_19, li_20, li_26, li_40, li_60, li_64, li_97, li_48, li_100, li_199, li_200, li_1000, li_8200, li_9999, li_100000, h2, w3]
          exact r3
  obtain ⟨r, r1, r2, r3⟩ := key d 0 FU FU (by omega) (by omega) (by omega)
  exact ⟨r, r1, r2, r3⟩
