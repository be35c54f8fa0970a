/-! labels: the signs that both write -/
theorem li_13 : (13 : Int32) = nI 13 := rfl
theorem li_99 : (99 : Int32) = nI 99 := rfl
theorem li_105 : (105 : Int32) = nI 105 := rfl
theorem li_108 : (108 : Int32) = nI 108 := rfl
theorem li_109 : (109 : Int32) = nI 109 := rfl
theorem li_118 : (118 : Int32) = nI 118 := rfl
theorem li_120 : (120 : Int32) = nI 120 := rfl
theorem nz_y {d : Nat} (h0 : 0 < d) (h : d < 2 ^ 31) : nzB (nI d) = true := by
  unfold nzB
  have : ¬ nI d = 0 := fun z => by have := (nI_eq (a := d) (b := 0) h (by omega)).mp z; omega
  simp [this]
theorem ch_y : ∀ c : Nat, c < 128 → ((nI c).toUInt32 % 65536).toInt32 = nI c := by decide +kernel
theorem ch_n : ∀ c : Nat, c < 128 → vp_nar .char (nI c) = nI c := by decide +kernel
def SK (σ : St) (L : List Nat) : Prop := σ 36 0 = nI L.length ∧ ∀ (j c : Nat), L[j]? = some c → σ 23 j = nI c
def SR (ρ : St) (L : List Nat) : Prop := ρ 28 0 = nI L.length ∧ ∀ (j c : Nat), L[j]? = some c → ρ 20 j = nI c
theorem l_at {L : List Nat} {e q j : Nat} (h : (L ++ [e])[j]? = some q) : L[j]? = some q ∨ (j = L.length ∧ q = e) := by
  by_cases hl : j < L.length
  · rw [List.getElem?_append_left hl] at h
    exact Or.inl h
  · rw [List.getElem?_append_right (by omega)] at h
    have hz : j - L.length < 1 := (List.getElem?_eq_some_iff.mp h).1
    have hj : j = L.length := by omega
    subst hj
    rw [Nat.sub_self] at h
    cases h
    exact Or.inr ⟨rfl, rfl⟩
theorem k_sign {σ : St} {L : List Nat} {c : Nat} (h : SK σ L) (hl : L.length < 64) (hc : c < 128) : ∃ σ', kM_Labels_writeSign σ (nI c) = some σ' ∧ SK σ' (L ++ [c]) ∧ ∀ k, k ≠ 23 → k ≠ 36 → σ' k = σ k := by
  have h1 := h.1
  have h2 := ch_n c hc
  refine ⟨sk (sk σ 23 (upd (σ 23) L.length (nI c))) 36 (fun _ => nI (L.length + 1)), ?_, ⟨?_, fun j e hj => ?_⟩, fun k h23 h36 => by simp (disch := omega) only [↓reduceIte, Nat.reduceSub, Nat.reduceAdd, Nat.reduceMul, Nat.sub_zero, Nat.add_zero, Nat.zero_add, Nat.mul_zero, lq_s, br_s, bd_s, bv_s, gd_tt, inB_nI, nI_clamp, sk_s, sk_n, pk_us, pk_un, nI_add, pk_mul, pk_sub, nI_leI, nI_ltI, nI_eq, if_pos, if_neg, nn_neg, nn_ne, nn_ne2, nn_lt, nn_nlt, nn_nle, nn_le, nn_m1, li_0, li_1, li_2, li_3, li_4, li_5, li_9, li_10, li_19, li_20, li_26, li_40, li_60, li_64, li_97, li_48, li_100, li_199, li_200, li_1000, li_8200, li_9999, li_100000]⟩
  · unfold kM_Labels_writeSign
    simp (disch := omega) only [↓reduceIte, Nat.reduceSub, Nat.reduceAdd, Nat.reduceMul, Nat.sub_zero, Nat.add_zero, Nat.zero_add, Nat.mul_zero, lq_s, br_s, bd_s, bv_s, gd_tt, inB_nI, nI_clamp, sk_s, sk_n, pk_us, pk_un, nI_add, pk_mul, pk_sub, nI_leI, nI_ltI, nI_eq, if_pos, if_neg, nn_neg, nn_ne, nn_ne2, nn_lt, nn_nlt, nn_nle, nn_le, nn_m1, li_0, li_1, li_2, li_3, li_4, li_5, li_9, li_10, li_19, li_20, li_26, li_40, li_60, li_64, li_97, li_48, li_100, li_199, li_200, li_1000, li_8200, li_9999, li_100000, h1, h2]
  · simp (disch := omega) only [↓reduceIte, Nat.reduceSub, Nat.reduceAdd, Nat.reduceMul, Nat.sub_zero, Nat.add_zero, Nat.zero_add, Nat.mul_zero, lq_s, br_s, bd_s, bv_s, gd_tt, inB_nI, nI_clamp, sk_s, sk_n, pk_us, pk_un, nI_add, pk_mul, pk_sub, nI_leI, nI_ltI, nI_eq, if_pos, if_neg, nn_neg, nn_ne, nn_ne2, nn_lt, nn_nlt, nn_nle, nn_le, nn_m1, li_0, li_1, li_2, li_3, li_4, li_5, li_9, li_10, li_19, li_20, li_26, li_40, li_60, li_64, li_97, li_48, li_100, li_199, li_200, li_1000, li_8200, li_9999, li_100000, List.length_append, List.length_singleton]
  · rcases l_at hj with hj | ⟨rfl, rfl⟩
    · have hlt := (List.getElem?_eq_some_iff.mp hj).1
      simp (disch := omega) only [↓reduceIte, Nat.reduceSub, Nat.reduceAdd, Nat.reduceMul, Nat.sub_zero, Nat.add_zero, Nat.zero_add, Nat.mul_zero, lq_s, br_s, bd_s, bv_s, gd_tt, inB_nI, nI_clamp, sk_s, sk_n, pk_us, pk_un, nI_add, pk_mul, pk_sub, nI_leI, nI_ltI, nI_eq, if_pos, if_neg, nn_neg, nn_ne, nn_ne2, nn_lt, nn_nlt, nn_nle, nn_le, nn_m1, li_0, li_1, li_2, li_3, li_4, li_5, li_9, li_10, li_19, li_20, li_26, li_40, li_60, li_64, li_97, li_48, li_100, li_199, li_200, li_1000, li_8200, li_9999, li_100000]
      exact h.2 j e hj
    · simp (disch := omega) only [↓reduceIte, Nat.reduceSub, Nat.reduceAdd, Nat.reduceMul, Nat.sub_zero, Nat.add_zero, Nat.zero_add, Nat.mul_zero, lq_s, br_s, bd_s, bv_s, gd_tt, inB_nI, nI_clamp, sk_s, sk_n, pk_us, pk_un, nI_add, pk_mul, pk_sub, nI_leI, nI_ltI, nI_eq, if_pos, if_neg, nn_neg, nn_ne, nn_ne2, nn_lt, nn_nlt, nn_nle, nn_le, nn_m1, li_0, li_1, li_2, li_3, li_4, li_5, li_9, li_10, li_19, li_20, li_26, li_40, li_60, li_64, li_97, li_48, li_100, li_199, li_200, li_1000, li_8200, li_9999, li_100000]
theorem r_say {ρ : St} {L : List Nat} {c : Nat} (h : SR ρ L) (hl : L.length < 60) : ∃ ρ', rM_Md_say ρ (nI c) = some ρ' ∧ SR ρ' (L ++ [c]) ∧ ∀ k, k ≠ 20 → k ≠ 28 → ρ' k = ρ k := by
  have h1 := h.1
  refine ⟨sk (sk ρ 20 (upd (ρ 20) L.length (nI c))) 28 (fun _ => nI (L.length + 1)), ?_, ⟨?_, fun j e hj => ?_⟩, fun k h23 h36 => by simp (disch := omega) only [↓reduceIte, Nat.reduceSub, Nat.reduceAdd, Nat.reduceMul, Nat.sub_zero, Nat.add_zero, Nat.zero_add, Nat.mul_zero, lq_s, br_s, bd_s, bv_s, gd_tt, inB_nI, nI_clamp, sk_s, sk_n, pk_us, pk_un, nI_add, pk_mul, pk_sub, nI_leI, nI_ltI, nI_eq, if_pos, if_neg, nn_neg, nn_ne, nn_ne2, nn_lt, nn_nlt, nn_nle, nn_le, nn_m1, li_0, li_1, li_2, li_3, li_4, li_5, li_9, li_10, li_19, li_20, li_26, li_40, li_60, li_64, li_97, li_48, li_100, li_199, li_200, li_1000, li_8200, li_9999, li_100000]⟩
  · unfold rM_Md_say
    simp (disch := omega) only [↓reduceIte, Nat.reduceSub, Nat.reduceAdd, Nat.reduceMul, Nat.sub_zero, Nat.add_zero, Nat.zero_add, Nat.mul_zero, lq_s, br_s, bd_s, bv_s, gd_tt, inB_nI, nI_clamp, sk_s, sk_n, pk_us, pk_un, nI_add, pk_mul, pk_sub, nI_leI, nI_ltI, nI_eq, if_pos, if_neg, nn_neg, nn_ne, nn_ne2, nn_lt, nn_nlt, nn_nle, nn_le, nn_m1, li_0, li_1, li_2, li_3, li_4, li_5, li_9, li_10, li_19, li_20, li_26, li_40, li_60, li_64, li_97, li_48, li_100, li_199, li_200, li_1000, li_8200, li_9999, li_100000, h1]
  · simp (disch := omega) only [↓reduceIte, Nat.reduceSub, Nat.reduceAdd, Nat.reduceMul, Nat.sub_zero, Nat.add_zero, Nat.zero_add, Nat.mul_zero, lq_s, br_s, bd_s, bv_s, gd_tt, inB_nI, nI_clamp, sk_s, sk_n, pk_us, pk_un, nI_add, pk_mul, pk_sub, nI_leI, nI_ltI, nI_eq, if_pos, if_neg, nn_neg, nn_ne, nn_ne2, nn_lt, nn_nlt, nn_nle, nn_le, nn_m1, li_0, li_1, li_2, li_3, li_4, li_5, li_9, li_10, li_19, li_20, li_26, li_40, li_60, li_64, li_97, li_48, li_100, li_199, li_200, li_1000, li_8200, li_9999, li_100000, List.length_append, List.length_singleton]
  · rcases l_at hj with hj | ⟨rfl, rfl⟩
    · have hlt := (List.getElem?_eq_some_iff.mp hj).1
      simp (disch := omega) only [↓reduceIte, Nat.reduceSub, Nat.reduceAdd, Nat.reduceMul, Nat.sub_zero, Nat.add_zero, Nat.zero_add, Nat.mul_zero, lq_s, br_s, bd_s, bv_s, gd_tt, inB_nI, nI_clamp, sk_s, sk_n, pk_us, pk_un, nI_add, pk_mul, pk_sub, nI_leI, nI_ltI, nI_eq, if_pos, if_neg, nn_neg, nn_ne, nn_ne2, nn_lt, nn_nlt, nn_nle, nn_le, nn_m1, li_0, li_1, li_2, li_3, li_4, li_5, li_9, li_10, li_19, li_20, li_26, li_40, li_60, li_64, li_97, li_48, li_100, li_199, li_200, li_1000, li_8200, li_9999, li_100000]
      exact h.2 j e hj
    · simp (disch := omega) only [↓reduceIte, Nat.reduceSub, Nat.reduceAdd, Nat.reduceMul, Nat.sub_zero, Nat.add_zero, Nat.zero_add, Nat.mul_zero, lq_s, br_s, bd_s, bv_s, gd_tt, inB_nI, nI_clamp, sk_s, sk_n, pk_us, pk_un, nI_add, pk_mul, pk_sub, nI_leI, nI_ltI, nI_eq, if_pos, if_neg, nn_neg, nn_ne, nn_ne2, nn_lt, nn_nlt, nn_nle, nn_le, nn_m1, li_0, li_1, li_2, li_3, li_4, li_5, li_9, li_10, li_19, li_20, li_26, li_40, li_60, li_64, li_97, li_48, li_100, li_199, li_200, li_1000, li_8200, li_9999, li_100000]
theorem rep_one {L : List Nat} {a c : Nat} : (L ++ [a]) ++ List.replicate c a = L ++ List.replicate (c + 1) a := by
  rw [List.append_assoc]; rfl
-- letters
theorem k_letters {ch times : Nat} (hch : ch < 128) (ht : times ≤ 100) : ∀ (c i fuel : Nat) (σ : St) (L : List Nat), i + c = times → c < fuel → SK σ L → L.length + c ≤ 64 → ∃ σ', kL_Labels_writeLetters_24 fuel σ (nI ch) (nI times) (nI i) = some σ' ∧ SK σ' (L ++ List.replicate c ch) ∧ ∀ k, k ≠ 23 → k ≠ 36 → σ' k = σ k := by
  intro c
  induction c with
  | zero =>
    intro i fuel σ L hi hf hS hl
    obtain ⟨g, rfl⟩ : ∃ g, fuel = g + 1 := ⟨fuel - 1, by omega⟩
    refine ⟨σ, ?_, by rw [show List.replicate 0 ch = [] from rfl, List.append_nil]; exact hS, fun _ _ _ => rfl⟩
    rw [kL_Labels_writeLetters_24]
    simp (disch := omega) only [↓reduceIte, Nat.reduceSub, Nat.reduceAdd, Nat.reduceMul, Nat.sub_zero, Nat.add_zero, Nat.zero_add, Nat.mul_zero, lq_s, br_s, bd_s, bv_s, gd_tt, inB_nI, nI_clamp, sk_s, sk_n, pk_us, pk_un, nI_add, pk_mul, pk_sub, nI_leI, nI_ltI, nI_eq, if_pos, if_neg, nn_neg, nn_ne, nn_ne2, nn_lt, nn_nlt, nn_nle, nn_le, nn_m1, li_0, li_1, li_2, li_3, li_4, li_5, li_9, li_10, li_19, li_20, li_26, li_40, li_60, li_64, li_97, li_48, li_100, li_199, li_200, li_1000, li_8200, li_9999, li_100000]
  | succ c ih =>
    intro i fuel σ L hi hf hS hl
    obtain ⟨g, rfl⟩ : ∃ g, fuel = g + 1 := ⟨fuel - 1, by omega⟩
    obtain ⟨σ1, a1, a2, a3⟩ := k_sign hS (by omega) hch
    obtain ⟨σ2, b1, b2, b3⟩ := ih (i + 1) g σ1 (L ++ [ch]) (by omega) (by omega) a2 (by rw [List.length_append]; show L.length + 1 + c ≤ 64; omega)
    rw [rep_one] at b2
    refine ⟨σ2, ?_, b2, fun k h1 h2 => by rw [b3 k h1 h2, a3 k h1 h2]⟩
    rw [kL_Labels_writeLetters_24]
    simp (disch := omega) only [↓reduceIte, Nat.reduceSub, Nat.reduceAdd, Nat.reduceMul, Nat.sub_zero, Nat.add_zero, Nat.zero_add, Nat.mul_zero, lq_s, br_s, bd_s, bv_s, gd_tt, inB_nI, nI_clamp, sk_s, sk_n, pk_us, pk_un, nI_add, pk_mul, pk_sub, nI_leI, nI_ltI, nI_eq, if_pos, if_neg, nn_neg, nn_ne, nn_ne2, nn_lt, nn_nlt, nn_nle, nn_le, nn_m1, li_0, li_1, li_2, li_3, li_4, li_5, li_9, li_10, li_19, li_20, li_26, li_40, li_60, li_64, li_97, li_48, li_100, li_199, li_200, li_1000, li_8200, li_9999, li_100000, a1]
    exact b1
theorem r_letters {m : Nat} (hm : m < 1200) (hm1 : 1 ≤ m) : ∀ (c i fuel : Nat) (ρ : St) (L : List Nat), i + c = (m - 1) / 26 + 1 → c < fuel → SR ρ L → L.length + c ≤ 60 → ∃ ρ', rL_Md_sayLabel_142 fuel ρ (nI m) (nI i) = some ρ' ∧ SR ρ' (L ++ List.replicate c (97 + (m - 1 - (m - 1) / 26 * 26))) ∧ ∀ k, k ≠ 20 → k ≠ 28 → ρ' k = ρ k := by
  intro c
  induction c with
  | zero =>
    intro i fuel ρ L hi hf hS hl
    obtain ⟨g, rfl⟩ : ∃ g, fuel = g + 1 := ⟨fuel - 1, by omega⟩
    refine ⟨ρ, ?_, by rw [show List.replicate 0 (97 + (m - 1 - (m - 1) / 26 * 26)) = [] from rfl, List.append_nil]; exact hS, fun _ _ _ => rfl⟩
    rw [rL_Md_sayLabel_142]
    simp (disch := omega) only [↓reduceIte, Nat.reduceSub, Nat.reduceAdd, Nat.reduceMul, Nat.sub_zero, Nat.add_zero, Nat.zero_add, Nat.mul_zero, lq_s, br_s, bd_s, bv_s, gd_tt, inB_nI, nI_clamp, sk_s, sk_n, pk_us, pk_un, nI_add, pk_mul, pk_sub, nI_leI, nI_ltI, nI_eq, if_pos, if_neg, nn_neg, nn_ne, nn_ne2, nn_lt, nn_nlt, nn_nle, nn_le, nn_m1, li_0, li_1, li_2, li_3, li_4, li_5, li_9, li_10, li_19, li_20, li_26, li_40, li_60, li_64, li_97, li_48, li_100, li_199, li_200, li_1000, li_8200, li_9999, li_100000, pk_div]
  | succ c ih =>
    intro i fuel ρ L hi hf hS hl
    obtain ⟨g, rfl⟩ : ∃ g, fuel = g + 1 := ⟨fuel - 1, by omega⟩
    obtain ⟨σ1, a1, a2, a3⟩ := r_say (c := 97 + (m - 1 - (m - 1) / 26 * 26)) hS (by omega)
    obtain ⟨σ2, b1, b2, b3⟩ := ih (i + 1) g σ1 (L ++ [97 + (m - 1 - (m - 1) / 26 * 26)]) (by omega) (by omega) a2 (by rw [List.length_append]; show L.length + 1 + c ≤ 60; omega)
    rw [rep_one] at b2
    refine ⟨σ2, ?_, b2, fun k h1 h2 => by rw [b3 k h1 h2, a3 k h1 h2]⟩
    rw [rL_Md_sayLabel_142]
    simp (disch := omega) only [↓reduceIte, Nat.reduceSub, Nat.reduceAdd, Nat.reduceMul, Nat.sub_zero, Nat.add_zero, Nat.zero_add, Nat.mul_zero, lq_s, br_s, bd_s, bv_s, gd_tt, inB_nI, nI_clamp, sk_s, sk_n, pk_us, pk_un, nI_add, pk_mul, pk_sub, nI_leI, nI_ltI, nI_eq, if_pos, if_neg, nn_neg, nn_ne, nn_ne2, nn_lt, nn_nlt, nn_nle, nn_le, nn_m1, li_0, li_1, li_2, li_3, li_4, li_5, li_9, li_10, li_19, li_20, li_26, li_40, li_60, li_64, li_97, li_48, li_100, li_199, li_200, li_1000, li_8200, li_9999, li_100000, pk_div, a1]
    exact b1
-- digits
def dg (m u : Nat) : Nat := 48 + (m / u - m / u / 10 * 10)
theorem dg_lt {m u : Nat} : dg m u < 128 := by
  unfold dg
  generalize m / u = q
  omega
theorem k_dig {m u g : Nat} {σ : St} {L : List Nat} (hm : m < 1200) (hu : 0 < u) (hu2 : u ≤ 1000) (hS : SK σ L) (hl : L.length < 64) : ∃ σ', kL_Labels_writeDigits_4 (g + 1) σ (nI m) (nI u) = kL_Labels_writeDigits_4 g σ' (nI m) (nI (u / 10)) ∧ SK σ' (L ++ (if u ≤ m then [dg m u] else [])) ∧ ∀ k, k ≠ 23 → k ≠ 36 → σ' k = σ k := by
  rw [kL_Labels_writeDigits_4]
  unfold kJ_Labels_writeDigits_27
  by_cases h : u ≤ m
  · rw [if_pos h]
    have hq : m / u < 1200 := Nat.lt_of_le_of_lt (Nat.div_le_self m u) hm
    obtain ⟨σ1, a1, a2, a3⟩ := k_sign (c := dg m u) hS hl dg_lt
    refine ⟨σ1, ?_, a2, a3⟩
    have hz := nz_y hu (show u < 2 ^ 31 by omega)
    have hc := ch_y (dg m u) dg_lt
    have hd : nI m / nI u = nI (m / u) := pk_div (by omega) hu (by omega)
    unfold dg at a1 hc
    simp (disch := omega) only [↓reduceIte, Nat.reduceSub, Nat.reduceAdd, Nat.reduceMul, Nat.sub_zero, Nat.add_zero, Nat.zero_add, Nat.mul_zero, lq_s, br_s, bd_s, bv_s, gd_tt, inB_nI, nI_clamp, sk_s, sk_n, pk_us, pk_un, nI_add, pk_mul, pk_sub, nI_leI, nI_ltI, nI_eq, if_pos, if_neg, nn_neg, nn_ne, nn_ne2, nn_lt, nn_nlt, nn_nle, nn_le, nn_m1, li_0, li_1, li_2, li_3, li_4, li_5, li_9, li_10, li_19, li_20, li_26, li_40, li_60, li_64, li_97, li_48, li_100, li_199, li_200, li_1000, li_8200, li_9999, li_100000, hz, hd, pk_div, hc, a1]
  · rw [if_neg h, List.append_nil]
    refine ⟨σ, ?_, hS, fun _ _ _ => rfl⟩
    simp (disch := omega) only [↓reduceIte, Nat.reduceSub, Nat.reduceAdd, Nat.reduceMul, Nat.sub_zero, Nat.add_zero, Nat.zero_add, Nat.mul_zero, lq_s, br_s, bd_s, bv_s, gd_tt, inB_nI, nI_clamp, sk_s, sk_n, pk_us, pk_un, nI_add, pk_mul, pk_sub, nI_leI, nI_ltI, nI_eq, if_pos, if_neg, nn_neg, nn_ne, nn_ne2, nn_lt, nn_nlt, nn_nle, nn_le, nn_m1, li_0, li_1, li_2, li_3, li_4, li_5, li_9, li_10, li_19, li_20, li_26, li_40, li_60, li_64, li_97, li_48, li_100, li_199, li_200, li_1000, li_8200, li_9999, li_100000, pk_div]
theorem r_dig {m u g : Nat} {ρ : St} {L : List Nat} (hm : m < 1200) (hu : 0 < u) (hu2 : u ≤ 1000) (hS : SR ρ L) (hl : L.length < 60) : ∃ ρ', rL_Md_sayDigits_18 (g + 1) ρ (nI m) (nI u) = rL_Md_sayDigits_18 g ρ' (nI m) (nI (u / 10)) ∧ SR ρ' (L ++ [dg m u]) ∧ ∀ k, k ≠ 20 → k ≠ 28 → ρ' k = ρ k := by
  rw [rL_Md_sayDigits_18]
  have hq : m / u < 1200 := Nat.lt_of_le_of_lt (Nat.div_le_self m u) hm
  obtain ⟨σ1, a1, a2, a3⟩ := r_say (c := dg m u) hS hl
  refine ⟨σ1, ?_, a2, a3⟩
  have hz := nz_y hu (show u < 2 ^ 31 by omega)
  have hd : nI m / nI u = nI (m / u) := pk_div (by omega) hu (by omega)
  unfold dg at a1
  simp (disch := omega) only [↓reduceIte, Nat.reduceSub, Nat.reduceAdd, Nat.reduceMul, Nat.sub_zero, Nat.add_zero, Nat.zero_add, Nat.mul_zero, lq_s, br_s, bd_s, bv_s, gd_tt, inB_nI, nI_clamp, sk_s, sk_n, pk_us, pk_un, nI_add, pk_mul, pk_sub, nI_leI, nI_ltI, nI_eq, if_pos, if_neg, nn_neg, nn_ne, nn_ne2, nn_lt, nn_nlt, nn_nle, nn_le, nn_m1, li_0, li_1, li_2, li_3, li_4, li_5, li_9, li_10, li_19, li_20, li_26, li_40, li_60, li_64, li_97, li_48, li_100, li_199, li_200, li_1000, li_8200, li_9999, li_100000, hz, hd, pk_div, a1]
theorem r_up {m u g : Nat} {ρ : St} (hm : m < 1200) (hu : 0 < u) (hu2 : u ≤ 1000) : rL_Md_sayDigits_2 (g + 1) ρ (nI m) (nI u) = if m / u ≤ 9 then rL_Md_sayDigits_18 FU ρ (nI m) (nI u) else rL_Md_sayDigits_2 g ρ (nI m) (nI (u * 10)) := by
  rw [rL_Md_sayDigits_2]
  have hq : m / u < 1200 := Nat.lt_of_le_of_lt (Nat.div_le_self m u) hm
  have hz := nz_y hu (show u < 2 ^ 31 by omega)
  have hd : nI m / nI u = nI (m / u) := pk_div (by omega) hu (by omega)
  by_cases h : m / u ≤ 9
  · simp (disch := omega) only [↓reduceIte, Nat.reduceSub, Nat.reduceAdd, Nat.reduceMul, Nat.sub_zero, Nat.add_zero, Nat.zero_add, Nat.mul_zero, lq_s, br_s, bd_s, bv_s, gd_tt, inB_nI, nI_clamp, sk_s, sk_n, pk_us, pk_un, nI_add, pk_mul, pk_sub, nI_leI, nI_ltI, nI_eq, if_pos, if_neg, nn_neg, nn_ne, nn_ne2, nn_lt, nn_nlt, nn_nle, nn_le, nn_m1, li_0, li_1, li_2, li_3, li_4, li_5, li_9, li_10, li_19, li_20, li_26, li_40, li_60, li_64, li_97, li_48, li_100, li_199, li_200, li_1000, li_8200, li_9999, li_100000, hz, hd]
  · simp (disch := omega) only [↓reduceIte, Nat.reduceSub, Nat.reduceAdd, Nat.reduceMul, Nat.sub_zero, Nat.add_zero, Nat.zero_add, Nat.mul_zero, lq_s, br_s, bd_s, bv_s, gd_tt, inB_nI, nI_clamp, sk_s, sk_n, pk_us, pk_un, nI_add, pk_mul, pk_sub, nI_leI, nI_ltI, nI_eq, if_pos, if_neg, nn_neg, nn_ne, nn_ne2, nn_lt, nn_nlt, nn_nle, nn_le, nn_m1, li_0, li_1, li_2, li_3, li_4, li_5, li_9, li_10, li_19, li_20, li_26, li_40, li_60, li_64, li_97, li_48, li_100, li_199, li_200, li_1000, li_8200, li_9999, li_100000, hz, hd]
theorem p_digits {m : Nat} {σ ρ : St} (hm : m < 1200) (hm1 : 1 ≤ m) (hS : SK σ []) (hT : SR ρ []) : ∃ (L : List Nat) (σ' ρ' : St), L.length ≤ 60 ∧ kM_Labels_writeDigits σ (nI m) = some σ' ∧ rM_Md_sayDigits ρ (nI m) = some ρ' ∧ SK σ' L ∧ SR ρ' L ∧ (∀ k, k ≠ 23 → k ≠ 36 → σ' k = σ k) ∧ ∀ k, k ≠ 20 → k ≠ 28 → ρ' k = ρ k := by
  have hFU := FU_ge
  obtain ⟨g, hg⟩ : ∃ g, FU = g + 6 := ⟨FU - 6, by omega⟩
  have l1 : ∀ (P : Prop) [Decidable P] (a : Nat), (if P then [a] else []).length ≤ 1 := fun P _ a => by
    by_cases h : P
    · rw [if_pos h]; exact Nat.le_refl _
    · rw [if_neg h]; exact Nat.zero_le _
  obtain ⟨σ1, a1, a2, a3⟩ := k_dig (u := 1000) (g := g + 5) hm (by omega) (by omega) hS (by show 0 < 64; omega)
  have b1 := l1 (1000 ≤ m) (dg m 1000)
  rw [List.nil_append] at a2
  obtain ⟨σ2, c1, c2, c3⟩ := k_dig (u := 100) (g := g + 4) hm (by omega) (by omega) a2 (by omega)
  have b2 := l1 (100 ≤ m) (dg m 100)
  obtain ⟨σ3, d1, d2, d3⟩ := k_dig (u := 10) (g := g + 3) hm (by omega) (by omega) c2 (by rw [List.length_append]; omega)
  have b3 := l1 (10 ≤ m) (dg m 10)
  obtain ⟨σ4, e1, e2, e3⟩ := k_dig (u := 1) (g := g + 2) hm (by omega) (by omega) d2 (by rw [List.length_append, List.length_append]; omega)
  have b4 := l1 (1 ≤ m) (dg m 1)
  have ek : kM_Labels_writeDigits σ (nI m) = some σ4 := by
    unfold kM_Labels_writeDigits
    rw [hg, show (1000 : Int32) = nI 1000 from rfl, a1, show 1000 / 10 = 100 from rfl, c1, show 100 / 10 = 10 from rfl, d1, show 10 / 10 = 1 from rfl, e1, show 1 / 10 = 0 from rfl, kL_Labels_writeDigits_4]
    simp (disch := omega) only [↓reduceIte, Nat.reduceSub, Nat.reduceAdd, Nat.reduceMul, Nat.sub_zero, Nat.add_zero, Nat.zero_add, Nat.mul_zero, lq_s, br_s, bd_s, bv_s, gd_tt, inB_nI, nI_clamp, sk_s, sk_n, pk_us, pk_un, nI_add, pk_mul, pk_sub, nI_leI, nI_ltI, nI_eq, if_pos, if_neg, nn_neg, nn_ne, nn_ne2, nn_lt, nn_nlt, nn_nle, nn_le, nn_m1, li_0, li_1, li_2, li_3, li_4, li_5, li_9, li_10, li_19, li_20, li_26, li_40, li_60, li_64, li_97, li_48, li_100, li_199, li_200, li_1000, li_8200, li_9999, li_100000]
  have kf : ∀ k, k ≠ 23 → k ≠ 36 → σ4 k = σ k := fun k h1 h2 => by rw [e3 k h1 h2, d3 k h1 h2, c3 k h1 h2, a3 k h1 h2]
  have z0 : ∀ (G : Nat) (s : St), rL_Md_sayDigits_18 (G + 1) s (nI m) (nI (1 / 10)) = some s := fun G s => by
    rw [show 1 / 10 = 0 from rfl, rL_Md_sayDigits_18]
    simp (disch := omega) only [↓reduceIte, Nat.reduceSub, Nat.reduceAdd, Nat.reduceMul, Nat.sub_zero, Nat.add_zero, Nat.zero_add, Nat.mul_zero, lq_s, br_s, bd_s, bv_s, gd_tt, inB_nI, nI_clamp, sk_s, sk_n, pk_us, pk_un, nI_add, pk_mul, pk_sub, nI_leI, nI_ltI, nI_eq, if_pos, if_neg, nn_neg, nn_ne, nn_ne2, nn_lt, nn_nlt, nn_nle, nn_le, nn_m1, li_0, li_1, li_2, li_3, li_4, li_5, li_9, li_10, li_19, li_20, li_26, li_40, li_60, li_64, li_97, li_48, li_100, li_199, li_200, li_1000, li_8200, li_9999, li_100000]
  have hu1 : ∀ G s, rL_Md_sayDigits_2 (G + 1) s (nI m) (nI 1) = if m ≤ 9 then rL_Md_sayDigits_18 FU s (nI m) (nI 1) else rL_Md_sayDigits_2 G s (nI m) (nI 10) := fun G s => by rw [r_up hm (by omega) (by omega), Nat.div_one]
  have hu2 : ∀ G s, rL_Md_sayDigits_2 (G + 1) s (nI m) (nI 10) = if m / 10 ≤ 9 then rL_Md_sayDigits_18 FU s (nI m) (nI 10) else rL_Md_sayDigits_2 G s (nI m) (nI 100) := fun G s => by rw [r_up hm (by omega) (by omega)]
  have hu3 : ∀ G s, rL_Md_sayDigits_2 (G + 1) s (nI m) (nI 100) = if m / 100 ≤ 9 then rL_Md_sayDigits_18 FU s (nI m) (nI 100) else rL_Md_sayDigits_2 G s (nI m) (nI 1000) := fun G s => by rw [r_up hm (by omega) (by omega)]
  have hu4 : ∀ G s, rL_Md_sayDigits_2 (G + 1) s (nI m) (nI 1000) = rL_Md_sayDigits_18 FU s (nI m) (nI 1000) := fun G s => by rw [r_up hm (by omega) (by omega), if_pos (by omega)]
  unfold rM_Md_sayDigits
  rw [if_pos hm1] at e2
  by_cases h10 : m ≤ 9
  · rw [if_neg (by omega), if_neg (by omega), if_neg (by omega), List.append_nil, List.append_nil, List.nil_append] at e2
    obtain ⟨ρ1, f1, f2, f3⟩ := r_dig (u := 1) (g := g + 5) hm (by omega) (by omega) hT (by show 0 < 60; omega)
    refine ⟨_, σ4, ρ1, ?_, ek, ?_, e2, f2, kf, f3⟩
    · show 1 ≤ 60; omega
    · rw [show (1 : Int32) = nI 1 from rfl]
      conv => lhs; rw [hg]
      rw [hu1, if_pos h10, hg, f1, z0]
  · by_cases h100 : m < 100
    · rw [if_neg (by omega), if_neg (by omega), if_pos (by omega), List.append_nil, List.nil_append] at e2
      obtain ⟨ρ1, f1, f2, f3⟩ := r_dig (u := 10) (g := g + 5) hm (by omega) (by omega) hT (by show 0 < 60; omega)
      obtain ⟨ρ2, g1, g2, g3⟩ := r_dig (u := 1) (g := g + 4) hm (by omega) (by omega) f2 (by show 1 < 60; omega)
      refine ⟨_, σ4, ρ2, ?_, ek, ?_, e2, g2, kf, fun k h1 h2 => by rw [g3 k h1 h2, f3 k h1 h2]⟩
      · show 2 ≤ 60; omega
      · rw [show (1 : Int32) = nI 1 from rfl]
        conv => lhs; rw [hg]
        rw [hu1, if_neg h10, hu2, if_pos (by omega), hg, f1, show 10 / 10 = 1 from rfl, g1, z0]
    · by_cases h1000 : m < 1000
      · rw [if_neg (by omega), if_pos (by omega), if_pos (by omega), List.nil_append] at e2
        obtain ⟨ρ1, f1, f2, f3⟩ := r_dig (u := 100) (g := g + 5) hm (by omega) (by omega) hT (by show 0 < 60; omega)
        obtain ⟨ρ2, g1, g2, g3⟩ := r_dig (u := 10) (g := g + 4) hm (by omega) (by omega) f2 (by show 1 < 60; omega)
        obtain ⟨ρ3, i1, i2, i3⟩ := r_dig (u := 1) (g := g + 3) hm (by omega) (by omega) g2 (by show 2 < 60; omega)
        refine ⟨_, σ4, ρ3, ?_, ek, ?_, e2, i2, kf, fun k h1 h2 => by rw [i3 k h1 h2, g3 k h1 h2, f3 k h1 h2]⟩
        · show 3 ≤ 60; omega
        · rw [show (1 : Int32) = nI 1 from rfl]
          conv => lhs; rw [hg]
          rw [hu1, if_neg h10, hu2, if_neg (by omega), hu3, if_pos (by omega), hg, f1, show 100 / 10 = 10 from rfl, g1, show 10 / 10 = 1 from rfl, i1, z0]
      · rw [if_pos (by omega), if_pos (by omega), if_pos (by omega)] at e2
        obtain ⟨ρ1, f1, f2, f3⟩ := r_dig (u := 1000) (g := g + 5) hm (by omega) (by omega) hT (by show 0 < 60; omega)
        obtain ⟨ρ2, g1, g2, g3⟩ := r_dig (u := 100) (g := g + 4) hm (by omega) (by omega) f2 (by show 1 < 60; omega)
        obtain ⟨ρ3, i1, i2, i3⟩ := r_dig (u := 10) (g := g + 3) hm (by omega) (by omega) g2 (by show 2 < 60; omega)
        obtain ⟨ρ4, j1, j2, j3⟩ := r_dig (u := 1) (g := g + 2) hm (by omega) (by omega) i2 (by show 3 < 60; omega)
        refine ⟨_, σ4, ρ4, ?_, ek, ?_, e2, j2, kf, fun k h1 h2 => by rw [j3 k h1 h2, i3 k h1 h2, g3 k h1 h2, f3 k h1 h2]⟩
        · show 4 ≤ 60; omega
        · rw [show (1 : Int32) = nI 1 from rfl]
          conv => lhs; rw [hg]
          rw [hu1, if_neg h10, hu2, if_neg (by omega), hu3, if_neg (by omega), hu4, hg, f1, show 1000 / 10 = 100 from rfl, g1, show 100 / 10 = 10 from rfl, i1, show 10 / 10 = 1 from rfl, j1, z0]
