/-! a page's own values, by both; copies -/
theorem va_same {pa : Nat → Int32} {n : Nat} {v : Int32} : va_up (va_up pa n v) n v = va_up pa n v := by
  funext i
  by_cases h : i = n
  · subst h; rw [va_up_self, va_up_self]
  · rw [va_up_ne _ _ h]
theorem Rel.bumped {c b n : Nat} {pg kc : Nat → Nat} {kd : Nat → Nat → Nat} {pa ct : Nat → Int32} {ow : Nat → Nat → Int32} {σ ρ σ2 ρ2 : St} (hc : c < 512) (h1 : WF n pg kc kd pa) (h2 : IV n pg kc kd pa ct ow σ2 26) (h3 : IV n pg kc kd pa ct ow ρ2 22) (h4 : FR n σ2) (h5 : LB σ ρ) (h6 : NX σ ρ) (h7 : TD σ ρ) (h8 : VS c σ) (hb : b ≤ 20000) (hb0 : 0 < b) (h27 : σ2 27 0 = σ 27 0 + nI b) (hk : ∀ k, (k = 16 ∨ k = 17 ∨ k = 18 ∨ (19 < k ∧ k < 23) ∨ k = 24 ∨ k = 25 ∨ k = 29 ∨ k = 31 ∨ k = 35 ∨ k = 37) → σ2 k = σ k) (hr : ∀ k, (12 < k ∧ k < 20) ∨ (24 < k ∧ k < 28) → ρ2 k = ρ k) : Rel (c + 1) σ2 ρ2 := by
  refine Rel.of h1 h2 h3 h4 (h5.keep (hk 35 (by omega)) (hk 20 (by omega)) (hk 21 (by omega)) (hk 22 (by omega)) (hr 26 (by omega)) (hr 15 (by omega)) (hr 16 (by omega)) (hr 17 (by omega))) (h6.keep (hk 37 (by omega)) (hk 24 (by omega)) (hk 25 (by omega)) (hr 27 (by omega)) (hr 18 (by omega)) (hr 19 (by omega))) (h7.keep (hk 18 (by omega)) (hk 31 (by omega)) (hk 16 (by omega)) (hk 17 (by omega)) (hr 25 (by omega)) (hr 13 (by omega)) (hr 14 (by omega))) (h8.bump hb h27 (by rw [hk 29 (by omega)])) (fun q => absurd q (h8.stale hc hb hb0 h27 (by rw [hk 29 (by omega)])))
def owU (ow : Nat → Nat → Int32) (t key : Nat) (v : Int32) : Nat → Nat → Int32 := fun i k => if i = t ∧ k = key then v else ow i k
theorem IV.own {n : Nat} {pg kc : Nat → Nat} {kd : Nat → Nat → Nat} {pa ct : Nat → Int32} {ow : Nat → Nat → Int32} {s : St} {z t key : Nat} {v : Int32} (h : IV n pg kc kd pa ct ow s z) (hz : z ≠ 5) (hkey : key < 4) : IV n pg kc kd pa ct (owU ow t key v) (sk s 5 (upd (s 5) (4 * t + key) v)) z := by
  obtain ⟨q1, q2, q3, q4, q5, q6, q7⟩ := h
  refine ⟨by simp (disch := omega) only [↓reduceIte, Nat.reduceSub, Nat.reduceAdd, Nat.reduceMul, Nat.sub_zero, Nat.add_zero, Nat.zero_add, Nat.mul_zero, lq_s, br_s, bd_s, bv_s, gd_tt, inB_nI, nI_clamp, sk_s, sk_n, pk_us, pk_un, nI_add, pk_mul, pk_sub, nI_leI, nI_ltI, nI_eq, if_pos, if_neg, nn_neg, nn_ne, nn_ne2, nn_lt, nn_nlt, nn_nle, nn_le, nn_m1, li_0, li_1, li_2, li_3, li_4, li_5, li_9, li_10, li_19, li_20, li_26, li_40, li_60, li_64, li_97, li_48, li_100, li_199, li_200, li_1000, li_8200, li_9999, li_100000]; exact q1, by simp (disch := omega) only [↓reduceIte, Nat.reduceSub, Nat.reduceAdd, Nat.reduceMul, Nat.sub_zero, Nat.add_zero, Nat.zero_add, Nat.mul_zero, lq_s, br_s, bd_s, bv_s, gd_tt, inB_nI, nI_clamp, sk_s, sk_n, pk_us, pk_un, nI_add, pk_mul, pk_sub, nI_leI, nI_ltI, nI_eq, if_pos, if_neg, nn_neg, nn_ne, nn_ne2, nn_lt, nn_nlt, nn_nle, nn_le, nn_m1, li_0, li_1, li_2, li_3, li_4, li_5, li_9, li_10, li_19, li_20, li_26, li_40, li_60, li_64, li_97, li_48, li_100, li_199, li_200, li_1000, li_8200, li_9999, li_100000]; exact q2, by simp (disch := omega) only [↓reduceIte, Nat.reduceSub, Nat.reduceAdd, Nat.reduceMul, Nat.sub_zero, Nat.add_zero, Nat.zero_add, Nat.mul_zero, lq_s, br_s, bd_s, bv_s, gd_tt, inB_nI, nI_clamp, sk_s, sk_n, pk_us, pk_un, nI_add, pk_mul, pk_sub, nI_leI, nI_ltI, nI_eq, if_pos, if_neg, nn_neg, nn_ne, nn_ne2, nn_lt, nn_nlt, nn_nle, nn_le, nn_m1, li_0, li_1, li_2, li_3, li_4, li_5, li_9, li_10, li_19, li_20, li_26, li_40, li_60, li_64, li_97, li_48, li_100, li_199, li_200, li_1000, li_8200, li_9999, li_100000]; exact q3, by simp (disch := omega) only [↓reduceIte, Nat.reduceSub, Nat.reduceAdd, Nat.reduceMul, Nat.sub_zero, Nat.add_zero, Nat.zero_add, Nat.mul_zero, lq_s, br_s, bd_s, bv_s, gd_tt, inB_nI, nI_clamp, sk_s, sk_n, pk_us, pk_un, nI_add, pk_mul, pk_sub, nI_leI, nI_ltI, nI_eq, if_pos, if_neg, nn_neg, nn_ne, nn_ne2, nn_lt, nn_nlt, nn_nle, nn_le, nn_m1, li_0, li_1, li_2, li_3, li_4, li_5, li_9, li_10, li_19, li_20, li_26, li_40, li_60, li_64, li_97, li_48, li_100, li_199, li_200, li_1000, li_8200, li_9999, li_100000]; exact q4, by simp (disch := omega) only [↓reduceIte, Nat.reduceSub, Nat.reduceAdd, Nat.reduceMul, Nat.sub_zero, Nat.add_zero, Nat.zero_add, Nat.mul_zero, lq_s, br_s, bd_s, bv_s, gd_tt, inB_nI, nI_clamp, sk_s, sk_n, pk_us, pk_un, nI_add, pk_mul, pk_sub, nI_leI, nI_ltI, nI_eq, if_pos, if_neg, nn_neg, nn_ne, nn_ne2, nn_lt, nn_nlt, nn_nle, nn_le, nn_m1, li_0, li_1, li_2, li_3, li_4, li_5, li_9, li_10, li_19, li_20, li_26, li_40, li_60, li_64, li_97, li_48, li_100, li_199, li_200, li_1000, li_8200, li_9999, li_100000]; exact q5, by simp (disch := omega) only [↓reduceIte, Nat.reduceSub, Nat.reduceAdd, Nat.reduceMul, Nat.sub_zero, Nat.add_zero, Nat.zero_add, Nat.mul_zero, lq_s, br_s, bd_s, bv_s, gd_tt, inB_nI, nI_clamp, sk_s, sk_n, pk_us, pk_un, nI_add, pk_mul, pk_sub, nI_leI, nI_ltI, nI_eq, if_pos, if_neg, nn_neg, nn_ne, nn_ne2, nn_lt, nn_nlt, nn_nle, nn_le, nn_m1, li_0, li_1, li_2, li_3, li_4, li_5, li_9, li_10, li_19, li_20, li_26, li_40, li_60, li_64, li_97, li_48, li_100, li_199, li_200, li_1000, li_8200, li_9999, li_100000]; exact q6, fun i k hi hk => ?_⟩
  unfold owU
  by_cases hc : i = t ∧ k = key
  · rw [if_pos hc]
    obtain ⟨rfl, rfl⟩ := hc
    simp (disch := omega) only [↓reduceIte, Nat.reduceSub, Nat.reduceAdd, Nat.reduceMul, Nat.sub_zero, Nat.add_zero, Nat.zero_add, Nat.mul_zero, lq_s, br_s, bd_s, bv_s, gd_tt, inB_nI, nI_clamp, sk_s, sk_n, pk_us, pk_un, nI_add, pk_mul, pk_sub, nI_leI, nI_ltI, nI_eq, if_pos, if_neg, nn_neg, nn_ne, nn_ne2, nn_lt, nn_nlt, nn_nle, nn_le, nn_m1, li_0, li_1, li_2, li_3, li_4, li_5, li_9, li_10, li_19, li_20, li_26, li_40, li_60, li_64, li_97, li_48, li_100, li_199, li_200, li_1000, li_8200, li_9999, li_100000]
  · rw [if_neg hc]
    have : 4 * i + k ≠ 4 * t + key := by omega
    simp (disch := omega) only [↓reduceIte, Nat.reduceSub, Nat.reduceAdd, Nat.reduceMul, Nat.sub_zero, Nat.add_zero, Nat.zero_add, Nat.mul_zero, lq_s, br_s, bd_s, bv_s, gd_tt, inB_nI, nI_clamp, sk_s, sk_n, pk_us, pk_un, nI_add, pk_mul, pk_sub, nI_leI, nI_ltI, nI_eq, if_pos, if_neg, nn_neg, nn_ne, nn_ne2, nn_lt, nn_nlt, nn_nle, nn_le, nn_m1, li_0, li_1, li_2, li_3, li_4, li_5, li_9, li_10, li_19, li_20, li_26, li_40, li_60, li_64, li_97, li_48, li_100, li_199, li_200, li_1000, li_8200, li_9999, li_100000]
    exact q7 i k hi hk
theorem k_setOwn {σ : St} {n t key : Nat} {v : Int32} (h : σ 26 0 = nI n) (hn : n ≤ 200) (ht : t < n) (hkey : key < 4) : kM_Items_setOwnValue σ (nI t) (nI key) v = some (sk σ 5 (upd (σ 5) (4 * t + key) v)) := by
  unfold kM_Items_setOwnValue
  rw [show 4 * t + key = t * 4 + key by omega]
  simp (disch := omega) only [↓reduceIte, Nat.reduceSub, Nat.reduceAdd, Nat.reduceMul, Nat.sub_zero, Nat.add_zero, Nat.zero_add, Nat.mul_zero, lq_s, br_s, bd_s, bv_s, gd_tt, inB_nI, nI_clamp, sk_s, sk_n, pk_us, pk_un, nI_add, pk_mul, pk_sub, nI_leI, nI_ltI, nI_eq, if_pos, if_neg, nn_neg, nn_ne, nn_ne2, nn_lt, nn_nlt, nn_nle, nn_le, nn_m1, li_0, li_1, li_2, li_3, li_4, li_5, li_9, li_10, li_19, li_20, li_26, li_40, li_60, li_64, li_97, li_48, li_100, li_199, li_200, li_1000, li_8200, li_9999, li_100000, k_isKnown_y h hn ht, k_isKey_y hkey]
theorem own_copy {n : Nat} {pg kc : Nat → Nat} {kd : Nat → Nat → Nat} {pa ct : Nat → Int32} (hW : WF n pg kc kd pa) {g t : Nat} (hg : g < n) (ht : t < n) (v3 v4 : Int32) : ∀ (c key fk fr : Nat) (ow : Nat → Nat → Int32) (σ ρ : St), key + c = 4 → c < fk → c < fr → IV n pg kc kd pa ct ow σ 26 → IV n pg kc kd pa ct ow ρ 22 → ∃ ow' σ' ρ', kL_Items_ownValuesOf_2 fk σ (nI g) (nI t) (nI key) = some σ' ∧ rL_Md_copy_63 fr ρ (nI g) v3 v4 (nI t) (nI key) = rJ_Md_copy_94 ρ' v3 v4 (nI t) ∧ IV n pg kc kd pa ct ow' σ' 26 ∧ IV n pg kc kd pa ct ow' ρ' 22 ∧ (∀ k, k ≠ 5 → σ' k = σ k) ∧ (∀ q, 4 * n ≤ q → σ' 5 q = σ 5 q) ∧ ∀ k, k ≠ 5 → ρ' k = ρ k := by
  have hn := hW.1
  intro c
  induction c with
  | zero =>
    intro key fk fr ow σ ρ hk h1 h2 hI hJ
    obtain ⟨g1, rfl⟩ : ∃ g, fk = g + 1 := ⟨fk - 1, by omega⟩
    obtain ⟨g2, rfl⟩ : ∃ g, fr = g + 1 := ⟨fr - 1, by omega⟩
    refine ⟨ow, σ, ρ, ?_, ?_, hI, hJ, fun _ _ => rfl, fun _ _ => rfl, fun _ _ => rfl⟩
    · rw [kL_Items_ownValuesOf_2]
      simp (disch := omega) only [↓reduceIte, Nat.reduceSub, Nat.reduceAdd, Nat.reduceMul, Nat.sub_zero, Nat.add_zero, Nat.zero_add, Nat.mul_zero, lq_s, br_s, bd_s, bv_s, gd_tt, inB_nI, nI_clamp, sk_s, sk_n, pk_us, pk_un, nI_add, pk_mul, pk_sub, nI_leI, nI_ltI, nI_eq, if_pos, if_neg, nn_neg, nn_ne, nn_ne2, nn_lt, nn_nlt, nn_nle, nn_le, nn_m1, li_0, li_1, li_2, li_3, li_4, li_5, li_9, li_10, li_19, li_20, li_26, li_40, li_60, li_64, li_97, li_48, li_100, li_199, li_200, li_1000, li_8200, li_9999, li_100000]
    · rw [rL_Md_copy_63]
      simp (disch := omega) only [↓reduceIte, Nat.reduceSub, Nat.reduceAdd, Nat.reduceMul, Nat.sub_zero, Nat.add_zero, Nat.zero_add, Nat.mul_zero, lq_s, br_s, bd_s, bv_s, gd_tt, inB_nI, nI_clamp, sk_s, sk_n, pk_us, pk_un, nI_add, pk_mul, pk_sub, nI_leI, nI_ltI, nI_eq, if_pos, if_neg, nn_neg, nn_ne, nn_ne2, nn_lt, nn_nlt, nn_nle, nn_le, nn_m1, li_0, li_1, li_2, li_3, li_4, li_5, li_9, li_10, li_19, li_20, li_26, li_40, li_60, li_64, li_97, li_48, li_100, li_199, li_200, li_1000, li_8200, li_9999, li_100000]
  | succ c ih =>
    intro key fk fr ow σ ρ hk h1 h2 hI hJ
    obtain ⟨g1, rfl⟩ : ∃ g, fk = g + 1 := ⟨fk - 1, by omega⟩
    obtain ⟨g2, rfl⟩ : ∃ g, fr = g + 1 := ⟨fr - 1, by omega⟩
    have hkey : key < 4 := by omega
    obtain ⟨v, e1, e2⟩ := p_value hI hJ hW hg hkey
    have e3 := k_setOwn (v := v) hI.1 hn ht hkey
    obtain ⟨ow', σ', ρ', a1, a2, a3, a4, a5, a6, a7⟩ := ih (key + 1) g1 g2 (owU ow t key v) (sk σ 5 (upd (σ 5) (4 * t + key) v)) (sk ρ 5 (upd (ρ 5) (4 * t + key) v)) (by omega) (by omega) (by omega) (hI.own (by decide) hkey) (hJ.own (by decide) hkey)
    refine ⟨ow', σ', ρ', ?_, ?_, a3, a4, fun k hk5 => ?_, fun q hq => ?_, fun k hk5 => ?_⟩
    · rw [kL_Items_ownValuesOf_2]
      simp (disch := omega) only [↓reduceIte, Nat.reduceSub, Nat.reduceAdd, Nat.reduceMul, Nat.sub_zero, Nat.add_zero, Nat.zero_add, Nat.mul_zero, lq_s, br_s, bd_s, bv_s, gd_tt, inB_nI, nI_clamp, sk_s, sk_n, pk_us, pk_un, nI_add, pk_mul, pk_sub, nI_leI, nI_ltI, nI_eq, if_pos, if_neg, nn_neg, nn_ne, nn_ne2, nn_lt, nn_nlt, nn_nle, nn_le, nn_m1, li_0, li_1, li_2, li_3, li_4, li_5, li_9, li_10, li_19, li_20, li_26, li_40, li_60, li_64, li_97, li_48, li_100, li_199, li_200, li_1000, li_8200, li_9999, li_100000, e1, e3]
      exact a1
    · rw [rL_Md_copy_63]
      simp (disch := omega) only [↓reduceIte, Nat.reduceSub, Nat.reduceAdd, Nat.reduceMul, Nat.sub_zero, Nat.add_zero, Nat.zero_add, Nat.mul_zero, lq_s, br_s, bd_s, bv_s, gd_tt, inB_nI, nI_clamp, sk_s, sk_n, pk_us, pk_un, nI_add, pk_mul, pk_sub, nI_leI, nI_ltI, nI_eq, if_pos, if_neg, nn_neg, nn_ne, nn_ne2, nn_lt, nn_nlt, nn_nle, nn_le, nn_m1, li_0, li_1, li_2, li_3, li_4, li_5, li_9, li_10, li_19, li_20, li_26, li_40, li_60, li_64, li_97, li_48, li_100, li_199, li_200, li_1000, li_8200, li_9999, li_100000, e2]
      exact a2
    · rw [a5 k hk5]; simp (disch := omega) only [↓reduceIte, Nat.reduceSub, Nat.reduceAdd, Nat.reduceMul, Nat.sub_zero, Nat.add_zero, Nat.zero_add, Nat.mul_zero, lq_s, br_s, bd_s, bv_s, gd_tt, inB_nI, nI_clamp, sk_s, sk_n, pk_us, pk_un, nI_add, pk_mul, pk_sub, nI_leI, nI_ltI, nI_eq, if_pos, if_neg, nn_neg, nn_ne, nn_ne2, nn_lt, nn_nlt, nn_nle, nn_le, nn_m1, li_0, li_1, li_2, li_3, li_4, li_5, li_9, li_10, li_19, li_20, li_26, li_40, li_60, li_64, li_97, li_48, li_100, li_199, li_200, li_1000, li_8200, li_9999, li_100000]
    · rw [a6 q hq]
      have : q ≠ 4 * t + key := by omega
      simp (disch := omega) only [↓reduceIte, Nat.reduceSub, Nat.reduceAdd, Nat.reduceMul, Nat.sub_zero, Nat.add_zero, Nat.zero_add, Nat.mul_zero, lq_s, br_s, bd_s, bv_s, gd_tt, inB_nI, nI_clamp, sk_s, sk_n, pk_us, pk_un, nI_add, pk_mul, pk_sub, nI_leI, nI_ltI, nI_eq, if_pos, if_neg, nn_neg, nn_ne, nn_ne2, nn_lt, nn_nlt, nn_nle, nn_le, nn_m1, li_0, li_1, li_2, li_3, li_4, li_5, li_9, li_10, li_19, li_20, li_26, li_40, li_60, li_64, li_97, li_48, li_100, li_199, li_200, li_1000, li_8200, li_9999, li_100000]
    · rw [a7 k hk5]; simp (disch := omega) only [↓reduceIte, Nat.reduceSub, Nat.reduceAdd, Nat.reduceMul, Nat.sub_zero, Nat.add_zero, Nat.zero_add, Nat.mul_zero, lq_s, br_s, bd_s, bv_s, gd_tt, inB_nI, nI_clamp, sk_s, sk_n, pk_us, pk_un, nI_add, pk_mul, pk_sub, nI_leI, nI_ltI, nI_eq, if_pos, if_neg, nn_neg, nn_ne, nn_ne2, nn_lt, nn_nlt, nn_nle, nn_le, nn_m1, li_0, li_1, li_2, li_3, li_4, li_5, li_9, li_10, li_19, li_20, li_26, li_40, li_60, li_64, li_97, li_48, li_100, li_199, li_200, li_1000, li_8200, li_9999, li_100000]
theorem own_all {n : Nat} {pg kc : Nat → Nat} {kd : Nat → Nat → Nat} {pa ct : Nat → Int32} (hW : WF n pg kc kd pa) {t : Nat} (ht : t < n) : ∀ (c key fk fr : Nat) (ow : Nat → Nat → Int32) (σ ρ : St), key + c = 4 → c < fk → c < fr → IV n pg kc kd pa ct ow σ 26 → IV n pg kc kd pa ct ow ρ 22 → ∃ ow' σ' ρ', kL_Items_ownValuesOf_2 fk σ (nI t) (nI t) (nI key) = some σ' ∧ rL_Md_ownAll_2 fr ρ (nI t) (nI key) = some ρ' ∧ IV n pg kc kd pa ct ow' σ' 26 ∧ IV n pg kc kd pa ct ow' ρ' 22 ∧ (∀ k, k ≠ 5 → σ' k = σ k) ∧ (∀ q, 4 * n ≤ q → σ' 5 q = σ 5 q) ∧ ∀ k, k ≠ 5 → ρ' k = ρ k := by
  have hn := hW.1
  intro c
  induction c with
  | zero =>
    intro key fk fr ow σ ρ hk h1 h2 hI hJ
    obtain ⟨g1, rfl⟩ : ∃ g, fk = g + 1 := ⟨fk - 1, by omega⟩
    obtain ⟨g2, rfl⟩ : ∃ g, fr = g + 1 := ⟨fr - 1, by omega⟩
    refine ⟨ow, σ, ρ, ?_, ?_, hI, hJ, fun _ _ => rfl, fun _ _ => rfl, fun _ _ => rfl⟩
    · rw [kL_Items_ownValuesOf_2]
      simp (disch := omega) only [↓reduceIte, Nat.reduceSub, Nat.reduceAdd, Nat.reduceMul, Nat.sub_zero, Nat.add_zero, Nat.zero_add, Nat.mul_zero, lq_s, br_s, bd_s, bv_s, gd_tt, inB_nI, nI_clamp, sk_s, sk_n, pk_us, pk_un, nI_add, pk_mul, pk_sub, nI_leI, nI_ltI, nI_eq, if_pos, if_neg, nn_neg, nn_ne, nn_ne2, nn_lt, nn_nlt, nn_nle, nn_le, nn_m1, li_0, li_1, li_2, li_3, li_4, li_5, li_9, li_10, li_19, li_20, li_26, li_40, li_60, li_64, li_97, li_48, li_100, li_199, li_200, li_1000, li_8200, li_9999, li_100000]
    · rw [rL_Md_ownAll_2]
      simp (disch := omega) only [↓reduceIte, Nat.reduceSub, Nat.reduceAdd, Nat.reduceMul, Nat.sub_zero, Nat.add_zero, Nat.zero_add, Nat.mul_zero, lq_s, br_s, bd_s, bv_s, gd_tt, inB_nI, nI_clamp, sk_s, sk_n, pk_us, pk_un, nI_add, pk_mul, pk_sub, nI_leI, nI_ltI, nI_eq, if_pos, if_neg, nn_neg, nn_ne, nn_ne2, nn_lt, nn_nlt, nn_nle, nn_le, nn_m1, li_0, li_1, li_2, li_3, li_4, li_5, li_9, li_10, li_19, li_20, li_26, li_40, li_60, li_64, li_97, li_48, li_100, li_199, li_200, li_1000, li_8200, li_9999, li_100000]
  | succ c ih =>
    intro key fk fr ow σ ρ hk h1 h2 hI hJ
    obtain ⟨g1, rfl⟩ : ∃ g, fk = g + 1 := ⟨fk - 1, by omega⟩
    obtain ⟨g2, rfl⟩ : ∃ g, fr = g + 1 := ⟨fr - 1, by omega⟩
    have hkey : key < 4 := by omega
    obtain ⟨v, e1, e2⟩ := p_value hI hJ hW ht hkey
    have e3 := k_setOwn (v := v) hI.1 hn ht hkey
    obtain ⟨ow', σ', ρ', a1, a2, a3, a4, a5, a6, a7⟩ := ih (key + 1) g1 g2 (owU ow t key v) (sk σ 5 (upd (σ 5) (4 * t + key) v)) (sk ρ 5 (upd (ρ 5) (4 * t + key) v)) (by omega) (by omega) (by omega) (hI.own (by decide) hkey) (hJ.own (by decide) hkey)
    refine ⟨ow', σ', ρ', ?_, ?_, a3, a4, fun k hk5 => ?_, fun q hq => ?_, fun k hk5 => ?_⟩
    · rw [kL_Items_ownValuesOf_2]
      simp (disch := omega) only [↓reduceIte, Nat.reduceSub, Nat.reduceAdd, Nat.reduceMul, Nat.sub_zero, Nat.add_zero, Nat.zero_add, Nat.mul_zero, lq_s, br_s, bd_s, bv_s, gd_tt, inB_nI, nI_clamp, sk_s, sk_n, pk_us, pk_un, nI_add, pk_mul, pk_sub, nI_leI, nI_ltI, nI_eq, if_pos, if_neg, nn_neg, nn_ne, nn_ne2, nn_lt, nn_nlt, nn_nle, nn_le, nn_m1, li_0, li_1, li_2, li_3, li_4, li_5, li_9, li_10, li_19, li_20, li_26, li_40, li_60, li_64, li_97, li_48, li_100, li_199, li_200, li_1000, li_8200, li_9999, li_100000, e1, e3]
      exact a1
    · rw [rL_Md_ownAll_2]
      simp (disch := omega) only [↓reduceIte, Nat.reduceSub, Nat.reduceAdd, Nat.reduceMul, Nat.sub_zero, Nat.add_zero, Nat.zero_add, Nat.mul_zero, lq_s, br_s, bd_s, bv_s, gd_tt, inB_nI, nI_clamp, sk_s, sk_n, pk_us, pk_un, nI_add, pk_mul, pk_sub, nI_leI, nI_ltI, nI_eq, if_pos, if_neg, nn_neg, nn_ne, nn_ne2, nn_lt, nn_nlt, nn_nle, nn_le, nn_m1, li_0, li_1, li_2, li_3, li_4, li_5, li_9, li_10, li_19, li_20, li_26, li_40, li_60, li_64, li_97, li_48, li_100, li_199, li_200, li_1000, li_8200, li_9999, li_100000, e2]
      exact a2
    · rw [a5 k hk5]; simp (disch := omega) only [↓reduceIte, Nat.reduceSub, Nat.reduceAdd, Nat.reduceMul, Nat.sub_zero, Nat.add_zero, Nat.zero_add, Nat.mul_zero, lq_s, br_s, bd_s, bv_s, gd_tt, inB_nI, nI_clamp, sk_s, sk_n, pk_us, pk_un, nI_add, pk_mul, pk_sub, nI_leI, nI_ltI, nI_eq, if_pos, if_neg, nn_neg, nn_ne, nn_ne2, nn_lt, nn_nlt, nn_nle, nn_le, nn_m1, li_0, li_1, li_2, li_3, li_4, li_5, li_9, li_10, li_19, li_20, li_26, li_40, li_60, li_64, li_97, li_48, li_100, li_199, li_200, li_1000, li_8200, li_9999, li_100000]
    · rw [a6 q hq]
      have : q ≠ 4 * t + key := by omega
      simp (disch := omega) only [↓reduceIte, Nat.reduceSub, Nat.reduceAdd, Nat.reduceMul, Nat.sub_zero, Nat.add_zero, Nat.zero_add, Nat.mul_zero, lq_s, br_s, bd_s, bv_s, gd_tt, inB_nI, nI_clamp, sk_s, sk_n, pk_us, pk_un, nI_add, pk_mul, pk_sub, nI_leI, nI_ltI, nI_eq, if_pos, if_neg, nn_neg, nn_ne, nn_ne2, nn_lt, nn_nlt, nn_nle, nn_le, nn_m1, li_0, li_1, li_2, li_3, li_4, li_5, li_9, li_10, li_19, li_20, li_26, li_40, li_60, li_64, li_97, li_48, li_100, li_199, li_200, li_1000, li_8200, li_9999, li_100000]
    · rw [a7 k hk5]; simp (disch := omega) only [↓reduceIte, Nat.reduceSub, Nat.reduceAdd, Nat.reduceMul, Nat.sub_zero, Nat.add_zero, Nat.zero_add, Nat.mul_zero, lq_s, br_s, bd_s, bv_s, gd_tt, inB_nI, nI_clamp, sk_s, sk_n, pk_us, pk_un, nI_add, pk_mul, pk_sub, nI_leI, nI_ltI, nI_eq, if_pos, if_neg, nn_neg, nn_ne, nn_ne2, nn_lt, nn_nlt, nn_nle, nn_le, nn_m1, li_0, li_1, li_2, li_3, li_4, li_5, li_9, li_10, li_19, li_20, li_26, li_40, li_60, li_64, li_97, li_48, li_100, li_199, li_200, li_1000, li_8200, li_9999, li_100000]
/-- where the class's order has a page -/
theorem k_where {n : Nat} {σ σ' : St} {o : List (Nat × Nat × Nat)} (h : kM_Order_refresh σ = some σ') (ho : oK n σ' o) (hn : n ≤ 200) (hl : o.length ≤ n) {j : Nat} {q : Nat × Nat × Nat} (hq : o[j]? = some q) : kM_Order_listerOf σ (nI q.1) = some (nI q.2.1, σ') ∧ kM_Order_slotOf σ (nI q.1) = some (nI q.2.2, σ') := by
  obtain ⟨e0, e1, e2, e3, e4⟩ := ho.2.1 j q hq
  have hj := (List.getElem?_eq_some_iff.mp hq).1
  have ht : kM_Order_isTaken σ' (nI q.1) = some (nI 1) := by
    unfold kM_Order_isTaken
    simp (disch := omega) only [↓reduceIte, Nat.reduceSub, Nat.reduceAdd, Nat.reduceMul, Nat.sub_zero, Nat.add_zero, Nat.zero_add, Nat.mul_zero, lq_s, br_s, bd_s, bv_s, gd_tt, inB_nI, nI_clamp, sk_s, sk_n, pk_us, pk_un, nI_add, pk_mul, pk_sub, nI_leI, nI_ltI, nI_eq, if_pos, if_neg, nn_neg, nn_ne, nn_ne2, nn_lt, nn_nlt, nn_nle, nn_le, nn_m1, li_0, li_1, li_2, li_3, li_4, li_5, li_9, li_10, li_19, li_20, li_26, li_40, li_60, li_64, li_97, li_48, li_100, li_199, li_200, li_1000, li_8200, li_9999, li_100000, e2]
  unfold kM_Order_listerOf kM_Order_slotOf
  rw [h, bv_s, bv_s]
  refine ⟨?_, ?_⟩
  · simp (disch := omega) only [↓reduceIte, Nat.reduceSub, Nat.reduceAdd, Nat.reduceMul, Nat.sub_zero, Nat.add_zero, Nat.zero_add, Nat.mul_zero, lq_s, br_s, bd_s, bv_s, gd_tt, inB_nI, nI_clamp, sk_s, sk_n, pk_us, pk_un, nI_add, pk_mul, pk_sub, nI_leI, nI_ltI, nI_eq, if_pos, if_neg, nn_neg, nn_ne, nn_ne2, nn_lt, nn_nlt, nn_nle, nn_le, nn_m1, li_0, li_1, li_2, li_3, li_4, li_5, li_9, li_10, li_19, li_20, li_26, li_40, li_60, li_64, li_97, li_48, li_100, li_199, li_200, li_1000, li_8200, li_9999, li_100000, ht, e3]
  · simp (disch := omega) only [↓reduceIte, Nat.reduceSub, Nat.reduceAdd, Nat.reduceMul, Nat.sub_zero, Nat.add_zero, Nat.zero_add, Nat.mul_zero, lq_s, br_s, bd_s, bv_s, gd_tt, inB_nI, nI_clamp, sk_s, sk_n, pk_us, pk_un, nI_add, pk_mul, pk_sub, nI_leI, nI_ltI, nI_eq, if_pos, if_neg, nn_neg, nn_ne, nn_ne2, nn_lt, nn_nlt, nn_nle, nn_le, nn_m1, li_0, li_1, li_2, li_3, li_4, li_5, li_9, li_10, li_19, li_20, li_26, li_40, li_60, li_64, li_97, li_48, li_100, li_199, li_200, li_1000, li_8200, li_9999, li_100000, ht, e4]
theorem k_again {σ : St} (h : σ 29 0 = σ 27 0) : kM_Order_refresh σ = some σ := by
  unfold kM_Order_refresh kM_Items_version
  rw [br_s, if_pos h]
set_option maxHeartbeats 1000000 in
theorem p_copy : lF_copy Rel := by
  intro c σ ρ x hc h
  obtain ⟨σ', ρ', n, pg, kc, kd, pa, ct, ow, a1, a2, a3, a4, a5, w1, w2, w3, w4, w5, w6, w7, w8⟩ := h.walked
  have hR := (Rel.of w1 w2 w3 w4 w5 w6 w7 w8 (fun _ => a3)).next
  have hn := w1.1
  have hl := wO_len w1.lf
  have hFU := FU_ge
  unfold kM_PT_copy rM_Md_copy
  rcases p_place a1 a3 a2 a4 w1.1 hl x with ⟨j, q, b1, b2, b3, b4⟩ | ⟨b1, b2, b3⟩
  · have hj := (List.getElem?_eq_some_iff.mp b1).1
    have hq := (a3.2.1 j q b1).1
    have hg := wO_good w1.lf b1
    obtain ⟨x0, y, s⟩ := q
    obtain ⟨g1, g2, g3, g4, g5, g6⟩ := hg
    have g1 : x0 < n := g1
    have g3 : y < n := g3
    have g4 : pg y = 0 := g4
    have g5 : s < kc y := g5
    have b2 : x = nI x0 := b2
    subst b2
    have s1 : ¬ nI j = (-1 : Int32) := by
      rw [show (-1 : Int32) = nM 1 from rfl, nn_ne (by omega) (by omega) (by omega)]
      exact fun z => z
    have s2 : (0 : Int32) ≤ nI j := nI_pos' (by omega)
    have hre := k_again a5
    obtain ⟨l1, l2⟩ := k_where hre a3 hn hl b1
    have l1 : kM_Order_listerOf σ' (nI x0) = some (nI y, σ') := l1
    have l2 : kM_Order_slotOf σ' (nI x0) = some (nI s, σ') := l2
    obtain ⟨r1, r2, r3⟩ := a4.2 j _ b1
    have r2 : ρ' 10 j = nI y := r2
    have r3 : ρ' 11 j = nI s := r3
    rw [b3, b4, bd_s, bd_s, if_neg s1, if_pos s2, l1, bd_s, l2, bd_s]
    have z1 := w2.1
    have z2 := w3.1
    have k3 := w3.2.2.2.2.1 y g3
    have h40 := w1.2.2.1 y g3
    have e2 := k_noSlot_y z1 hn g3 (w2.2.2.2.2.1 y g3) h40
    unfold kM_Items_isFull
    by_cases hf : n = 200
    · subst hf
      exact ⟨nM 4, σ', ρ', by simp (disch := omega) only [↓reduceIte, Nat.reduceSub, Nat.reduceAdd, Nat.reduceMul, Nat.sub_zero, Nat.add_zero, Nat.zero_add, Nat.mul_zero, lq_s, br_s, bd_s, bv_s, gd_tt, inB_nI, nI_clamp, sk_s, sk_n, pk_us, pk_un, nI_add, pk_mul, pk_sub, nI_leI, nI_ltI, nI_eq, if_pos, if_neg, nn_neg, nn_ne, nn_ne2, nn_lt, nn_nlt, nn_nle, nn_le, nn_m1, li_0, li_1, li_2, li_3, li_4, li_5, li_9, li_10, li_19, li_20, li_26, li_40, li_60, li_64, li_97, li_48, li_100, li_199, li_200, li_1000, li_8200, li_9999, li_100000, z1], by simp (disch := omega) only [↓reduceIte, Nat.reduceSub, Nat.reduceAdd, Nat.reduceMul, Nat.sub_zero, Nat.add_zero, Nat.zero_add, Nat.mul_zero, lq_s, br_s, bd_s, bv_s, gd_tt, inB_nI, nI_clamp, sk_s, sk_n, pk_us, pk_un, nI_add, pk_mul, pk_sub, nI_leI, nI_ltI, nI_eq, if_pos, if_neg, nn_neg, nn_ne, nn_ne2, nn_lt, nn_nlt, nn_nle, nn_le, nn_m1, li_0, li_1, li_2, li_3, li_4, li_5, li_9, li_10, li_19, li_20, li_26, li_40, li_60, li_64, li_97, li_48, li_100, li_199, li_200, li_1000, li_8200, li_9999, li_100000, z2, r2, r3], hR⟩
    · by_cases hk4 : kc y < 40
      · rw [if_pos hk4] at e2
        obtain ⟨σ1, c1, c2, c3, c4⟩ := k_add (p := 1) (q := nI y) (co := nI 0) w2 w4 (by omega) (by omega)
        obtain ⟨ρ1, d1, d2, d3⟩ := r_made (p := 1) (q := nI y) (co := nI 0) w3 (by omega) (by omega) (fun _ => rfl)
        have hW1 := w1.more (p := 1) (q := nI y) (by omega) (by omega) (Or.inr ⟨y, g3, rfl⟩) (fun z => by omega)
        obtain ⟨ow', σ2, ρ2, f1, f2, f3, f4, f5, f6, f7⟩ := own_copy hW1 (g := x0) (t := n) (by omega) (by omega) (nI y) (nI s) 4 0 FU FU _ σ1 ρ1 (by omega) (by omega) (by omega) c2 d2
        have hne : y ≠ n := by omega
        have hkx : va_up kc n 0 y = kc y := va_up_ne kc 0 hne
        have hpx1 : va_up pg n 1 y = 0 := by rw [va_up_ne pg 1 hne]; exact g4
        obtain ⟨σ3, i1, i2, i3, i4, i5⟩ := k_insert (it := n) (s := s + 1) f3 hW1 (show y < n + 1 by omega) hpx1 (by rw [hkx]; omega) (by rw [hkx]; exact hk4)
        obtain ⟨ρ3, j1, j2, j3⟩ := r_insert (it := n) (s := s + 1) f4 hW1 (show y < n + 1 by omega) (by rw [hkx]; omega) (by rw [hkx]; exact hk4) (by omega)
        have hW2 := hW1.ins (x := y) (sl := s + 1) (it := n) (by omega) (by rw [hkx]; omega) (by rw [hkx]; exact hk4) (by omega) hpx1
        rw [va_same] at j2
        refine ⟨nI n, σ3, ρ3, ?_, ?_, ?_⟩
        · have ek : kM_Items_ownValuesOf σ1 (nI x0) (nI n) = some σ2 := f1
          simp (disch := omega) only [↓reduceIte, Nat.reduceSub, Nat.reduceAdd, Nat.reduceMul, Nat.sub_zero, Nat.add_zero, Nat.zero_add, Nat.mul_zero, lq_s, br_s, bd_s, bv_s, gd_tt, inB_nI, nI_clamp, sk_s, sk_n, pk_us, pk_un, nI_add, pk_mul, pk_sub, nI_leI, nI_ltI, nI_eq, if_pos, if_neg, nn_neg, nn_ne, nn_ne2, nn_lt, nn_nlt, nn_nle, nn_le, nn_m1, li_0, li_1, li_2, li_3, li_4, li_5, li_9, li_10, li_19, li_20, li_26, li_40, li_60, li_64, li_97, li_48, li_100, li_199, li_200, li_1000, li_8200, li_9999, li_100000, z1, e2, c1, ek, i1]
        · simp (disch := omega) only [↓reduceIte, Nat.reduceSub, Nat.reduceAdd, Nat.reduceMul, Nat.sub_zero, Nat.add_zero, Nat.zero_add, Nat.mul_zero, lq_s, br_s, bd_s, bv_s, gd_tt, inB_nI, nI_clamp, sk_s, sk_n, pk_us, pk_un, nI_add, pk_mul, pk_sub, nI_leI, nI_ltI, nI_eq, if_pos, if_neg, nn_neg, nn_ne, nn_ne2, nn_lt, nn_nlt, nn_nle, nn_le, nn_m1, li_0, li_1, li_2, li_3, li_4, li_5, li_9, li_10, li_19, li_20, li_26, li_40, li_60, li_64, li_97, li_48, li_100, li_199, li_200, li_1000, li_8200, li_9999, li_100000, z2, r2, r3, k3, d1, f2]
          unfold rJ_Md_copy_94
          simp (disch := omega) only [↓reduceIte, Nat.reduceSub, Nat.reduceAdd, Nat.reduceMul, Nat.sub_zero, Nat.add_zero, Nat.zero_add, Nat.mul_zero, lq_s, br_s, bd_s, bv_s, gd_tt, inB_nI, nI_clamp, sk_s, sk_n, pk_us, pk_un, nI_add, pk_mul, pk_sub, nI_leI, nI_ltI, nI_eq, if_pos, if_neg, nn_neg, nn_ne, nn_ne2, nn_lt, nn_nlt, nn_nle, nn_le, nn_m1, li_0, li_1, li_2, li_3, li_4, li_5, li_9, li_10, li_19, li_20, li_26, li_40, li_60, li_64, li_97, li_48, li_100, li_199, li_200, li_1000, li_8200, li_9999, li_100000, j1]
        · refine Rel.bumped (b := 1) hc hW2 i2 j2 (fun i h1 h2 => ⟨?_, fun k hk => ?_⟩) w5 w6 w7 w8 (by omega) (by omega) ?_ (fun k hk => ?_) (fun k hk => ?_)
          · rw [i4, pk_un (by omega), f5 3 (by decide)]
            exact (c3 i h1 h2).1
          · rw [i5 5 (by decide) (by decide) (by decide), f6 _ (by omega)]
            exact (c3 i h1 h2).2 k hk
          · rw [i3, f5 27 (by decide), c4 27 (by decide) (by decide) (by decide) (by decide)]
          · rw [i5 k (by omega) (by omega) (by omega), f5 k (by omega), c4 k (by omega) (by omega) (by omega) (by omega)]
          · rw [j3 k (by omega) (by omega) (by omega), f7 k (by omega), d3 k (by omega)]
      · have hk4' : kc y = 40 := by omega
        rw [if_neg hk4] at e2
        rw [hk4'] at k3
        exact ⟨nM 4, σ', ρ', by simp (disch := omega) only [↓reduceIte, Nat.reduceSub, Nat.reduceAdd, Nat.reduceMul, Nat.sub_zero, Nat.add_zero, Nat.zero_add, Nat.mul_zero, lq_s, br_s, bd_s, bv_s, gd_tt, inB_nI, nI_clamp, sk_s, sk_n, pk_us, pk_un, nI_add, pk_mul, pk_sub, nI_leI, nI_ltI, nI_eq, if_pos, if_neg, nn_neg, nn_ne, nn_ne2, nn_lt, nn_nlt, nn_nle, nn_le, nn_m1, li_0, li_1, li_2, li_3, li_4, li_5, li_9, li_10, li_19, li_20, li_26, li_40, li_60, li_64, li_97, li_48, li_100, li_199, li_200, li_1000, li_8200, li_9999, li_100000, z1, e2], by simp (disch := omega) only [↓reduceIte, Nat.reduceSub, Nat.reduceAdd, Nat.reduceMul, Nat.sub_zero, Nat.add_zero, Nat.zero_add, Nat.mul_zero, lq_s, br_s, bd_s, bv_s, gd_tt, inB_nI, nI_clamp, sk_s, sk_n, pk_us, pk_un, nI_add, pk_mul, pk_sub, nI_leI, nI_ltI, nI_eq, if_pos, if_neg, nn_neg, nn_ne, nn_ne2, nn_lt, nn_nlt, nn_nle, nn_le, nn_m1, li_0, li_1, li_2, li_3, li_4, li_5, li_9, li_10, li_19, li_20, li_26, li_40, li_60, li_64, li_97, li_48, li_100, li_199, li_200, li_1000, li_8200, li_9999, li_100000, z2, r2, r3, k3], hR⟩
  · rw [b2, b3]
    exact ⟨nM 1, σ', ρ', by simp (disch := omega) only [↓reduceIte, Nat.reduceSub, Nat.reduceAdd, Nat.reduceMul, Nat.sub_zero, Nat.add_zero, Nat.zero_add, Nat.mul_zero, lq_s, br_s, bd_s, bv_s, gd_tt, inB_nI, nI_clamp, sk_s, sk_n, pk_us, pk_un, nI_add, pk_mul, pk_sub, nI_leI, nI_ltI, nI_eq, if_pos, if_neg, nn_neg, nn_ne, nn_ne2, nn_lt, nn_nlt, nn_nle, nn_le, nn_m1, li_0, li_1, li_2, li_3, li_4, li_5, li_9, li_10, li_19, li_20, li_26, li_40, li_60, li_64, li_97, li_48, li_100, li_199, li_200, li_1000, li_8200, li_9999, li_100000], by simp (disch := omega) only [↓reduceIte, Nat.reduceSub, Nat.reduceAdd, Nat.reduceMul, Nat.sub_zero, Nat.add_zero, Nat.zero_add, Nat.mul_zero, lq_s, br_s, bd_s, bv_s, gd_tt, inB_nI, nI_clamp, sk_s, sk_n, pk_us, pk_un, nI_add, pk_mul, pk_sub, nI_leI, nI_ltI, nI_eq, if_pos, if_neg, nn_neg, nn_ne, nn_ne2, nn_lt, nn_nlt, nn_nle, nn_le, nn_m1, li_0, li_1, li_2, li_3, li_4, li_5, li_9, li_10, li_19, li_20, li_26, li_40, li_60, li_64, li_97, li_48, li_100, li_199, li_200, li_1000, li_8200, li_9999, li_100000], hR⟩
