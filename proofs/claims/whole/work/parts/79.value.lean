/-! values along the parents: rings end alike -/
/-- within a set of items without a value, that parents don't lead out of, both answer none -/
theorem v_ring {n : Nat} {pg kc : Nat → Nat} {kd : Nat → Nat → Nat} {pa ct : Nat → Int32} {ow : Nat → Nat → Int32} {σ ρ : St} (hk : IV n pg kc kd pa ct ow σ 26) (hr : IV n pg kc kd pa ct ow ρ 22) (hn : n ≤ 200) {key : Nat} (hkey : key < 4) (V : Nat → Prop) (hV : ∀ x, V x → x < n ∧ ow x key = nM 1 ∧ (pa x = nM 1 ∨ ∃ p, pa x = nI p ∧ V p)) : ∀ (c lev fk fr i : Nat), lev + c = 200 → c < fk → c + 1 < fr → V i → kL_Items_valueOf_14 σ fk (nI key) (nI i) (nI lev) = some (nM 1) ∧ rL_Md_valueOf_5 ρ fr (nI key) (nI i) (nI lev) = some (nM 1) := by
  intro c
  induction c with
  | zero =>
    intro lev fk fr i hl h1 h2 hi
    obtain ⟨g, rfl⟩ : ∃ g, fk = g + 1 := ⟨fk - 1, by omega⟩
    obtain ⟨g2, rfl⟩ : ∃ g, fr = g + 1 := ⟨fr - 1, by omega⟩
    obtain ⟨v1, v2, v3⟩ := hV i hi
    have e := hr.2.2.2.2.2.2 i key v1 hkey
    rw [v2] at e
    refine ⟨?_, ?_⟩
    · rw [kL_Items_valueOf_14]
      simp (disch := omega) only [↓reduceIte, Nat.reduceSub, Nat.reduceAdd, Nat.reduceMul, Nat.sub_zero, Nat.add_zero, Nat.zero_add, Nat.mul_zero, lq_s, br_s, bd_s, bv_s, gd_tt, inB_nI, nI_clamp, sk_s, sk_n, pk_us, pk_un, nI_add, pk_mul, pk_sub, nI_leI, nI_ltI, nI_eq, if_pos, if_neg, nn_neg, nn_ne, nn_ne2, nn_lt, nn_nlt, nn_nle, nn_le, nn_m1, li_0, li_1, li_2, li_3, li_4, li_5, li_9, li_10, li_19, li_20, li_26, li_40, li_60, li_64, li_97, li_48, li_100, li_199, li_200, li_1000, li_8200, li_9999, li_100000]
    · rw [rL_Md_valueOf_5]
      unfold rJ_Md_valueOf_44
      simp (disch := omega) only [↓reduceIte, Nat.reduceSub, Nat.reduceAdd, Nat.reduceMul, Nat.sub_zero, Nat.add_zero, Nat.zero_add, Nat.mul_zero, lq_s, br_s, bd_s, bv_s, gd_tt, inB_nI, nI_clamp, sk_s, sk_n, pk_us, pk_un, nI_add, pk_mul, pk_sub, nI_leI, nI_ltI, nI_eq, if_pos, if_neg, nn_neg, nn_ne, nn_ne2, nn_lt, nn_nlt, nn_nle, nn_le, nn_m1, li_0, li_1, li_2, li_3, li_4, li_5, li_9, li_10, li_19, li_20, li_26, li_40, li_60, li_64, li_97, li_48, li_100, li_199, li_200, li_1000, li_8200, li_9999, li_100000, e]
  | succ c ih =>
    intro lev fk fr i hl h1 h2 hi
    obtain ⟨g, rfl⟩ : ∃ g, fk = g + 1 := ⟨fk - 1, by omega⟩
    obtain ⟨g2, rfl⟩ : ∃ g, fr = g + 1 := ⟨fr - 1, by omega⟩
    obtain ⟨v1, v2, v3⟩ := hV i hi
    have e := hr.2.2.2.2.2.2 i key v1 hkey
    rw [v2] at e
    have e2 := hk.2.2.2.2.2.2 i key v1 hkey
    rw [v2, show 4 * i + key = i * 4 + key by omega] at e2
    have f1 := hk.2.2.1 i v1
    have f2 := hr.2.2.1 i v1
    have z := k_isKnown_y hk.1 hn v1
    rw [kL_Items_valueOf_14, rL_Md_valueOf_5]
    rcases v3 with v3 | ⟨p, v3, v4⟩
    · rw [v3] at f1 f2
      simp (disch := omega) only [↓reduceIte, Nat.reduceSub, Nat.reduceAdd, Nat.reduceMul, Nat.sub_zero, Nat.add_zero, Nat.zero_add, Nat.mul_zero, lq_s, br_s, bd_s, bv_s, gd_tt, inB_nI, nI_clamp, sk_s, sk_n, pk_us, pk_un, nI_add, pk_mul, pk_sub, nI_leI, nI_ltI, nI_eq, if_pos, if_neg, nn_neg, nn_ne, nn_ne2, nn_lt, nn_nlt, nn_nle, nn_le, nn_m1, li_0, li_1, li_2, li_3, li_4, li_5, li_9, li_10, li_19, li_20, li_26, li_40, li_60, li_64, li_97, li_48, li_100, li_199, li_200, li_1000, li_8200, li_9999, li_100000, z, e, e2, f1, f2]
      obtain ⟨g, rfl⟩ : ∃ g', g = g' + 1 := ⟨g - 1, by omega⟩
      obtain ⟨g2, rfl⟩ : ∃ g', g2 = g' + 1 := ⟨g2 - 1, by omega⟩
      rw [kL_Items_valueOf_14, rL_Md_valueOf_5]
      have z2 : kM_Items_isKnown σ (nM 1) = some (nI 0) := k_isKnown_n hk.1 (Or.inl nM_lt0)
      unfold rJ_Md_valueOf_44
      by_cases h8 : 200 ≤ lev + 1
      · simp (disch := omega) only [↓reduceIte, Nat.reduceSub, Nat.reduceAdd, Nat.reduceMul, Nat.sub_zero, Nat.add_zero, Nat.zero_add, Nat.mul_zero, lq_s, br_s, bd_s, bv_s, gd_tt, inB_nI, nI_clamp, sk_s, sk_n, pk_us, pk_un, nI_add, pk_mul, pk_sub, nI_leI, nI_ltI, nI_eq, if_pos, if_neg, nn_neg, nn_ne, nn_ne2, nn_lt, nn_nlt, nn_nle, nn_le, nn_m1, li_0, li_1, li_2, li_3, li_4, li_5, li_9, li_10, li_19, li_20, li_26, li_40, li_60, li_64, li_97, li_48, li_100, li_199, li_200, li_1000, li_8200, li_9999, li_100000, z2, nM_lt0, and_self]
      · simp (disch := omega) only [↓reduceIte, Nat.reduceSub, Nat.reduceAdd, Nat.reduceMul, Nat.sub_zero, Nat.add_zero, Nat.zero_add, Nat.mul_zero, lq_s, br_s, bd_s, bv_s, gd_tt, inB_nI, nI_clamp, sk_s, sk_n, pk_us, pk_un, nI_add, pk_mul, pk_sub, nI_leI, nI_ltI, nI_eq, if_pos, if_neg, nn_neg, nn_ne, nn_ne2, nn_lt, nn_nlt, nn_nle, nn_le, nn_m1, li_0, li_1, li_2, li_3, li_4, li_5, li_9, li_10, li_19, li_20, li_26, li_40, li_60, li_64, li_97, li_48, li_100, li_199, li_200, li_1000, li_8200, li_9999, li_100000, z2, nM_lt0, and_self]
    · rw [v3] at f1 f2
      simp (disch := omega) only [↓reduceIte, Nat.reduceSub, Nat.reduceAdd, Nat.reduceMul, Nat.sub_zero, Nat.add_zero, Nat.zero_add, Nat.mul_zero, lq_s, br_s, bd_s, bv_s, gd_tt, inB_nI, nI_clamp, sk_s, sk_n, pk_us, pk_un, nI_add, pk_mul, pk_sub, nI_leI, nI_ltI, nI_eq, if_pos, if_neg, nn_neg, nn_ne, nn_ne2, nn_lt, nn_nlt, nn_nle, nn_le, nn_m1, li_0, li_1, li_2, li_3, li_4, li_5, li_9, li_10, li_19, li_20, li_26, li_40, li_60, li_64, li_97, li_48, li_100, li_199, li_200, li_1000, li_8200, li_9999, li_100000, z, e, e2, f1, f2]
      exact ih (lev + 1) g g2 p (by omega) (by omega) (by omega) v4
set_option maxHeartbeats 1000000 in
/-- both find the same value -/
theorem v_both {n : Nat} {pg kc : Nat → Nat} {kd : Nat → Nat → Nat} {pa ct : Nat → Int32} {ow : Nat → Nat → Int32} {σ ρ : St} (hk : IV n pg kc kd pa ct ow σ 26) (hr : IV n pg kc kd pa ct ow ρ 22) (hn : n ≤ 200) (hpa : ∀ i, i < n → pa i = nM 1 ∨ ∃ p, p < n ∧ pa i = nI p) {key : Nat} (hkey : key < 4) : ∀ (m : Nat) (vis : Nat → Nat) (lev fk fr i : Nat), um vis n ≤ m → lev + m ≤ 200 → m < fk → 200 < fk + lev → 202 < fr + lev → i < n → (∀ x, x < n → vis x ≠ 0 → ow x key = nM 1 ∧ (pa x = nM 1 ∨ ∃ p, p < n ∧ pa x = nI p ∧ (vis p ≠ 0 ∨ p = i))) → ∃ v, kL_Items_valueOf_14 σ fk (nI key) (nI i) (nI lev) = some v ∧ rL_Md_valueOf_5 ρ fr (nI key) (nI i) (nI lev) = some v := by
  intro m
  induction m with
  | zero =>
    intro vis lev fk fr i hu hl h1 h2 h3 hi hvis
    by_cases hvi : vis i = 0
    · have := um_up hvi n hi
      omega
    · have hring := v_ring hk hr hn hkey (fun x => x < n ∧ vis x ≠ 0) (fun x hx => by
        obtain ⟨q1, q2⟩ := hvis x hx.1 hx.2
        refine ⟨hx.1, q1, ?_⟩
        rcases q2 with q2 | ⟨p, p1, p2, p3⟩
        · exact Or.inl q2
        · refine Or.inr ⟨p, p2, p1, ?_⟩
          rcases p3 with p3 | p3
          · exact p3
          · rw [p3]; exact hvi) (200 - lev) lev fk fr i (by omega) (by omega) (by omega) ⟨hi, hvi⟩
      exact ⟨_, hring.1, hring.2⟩
  | succ m ih =>
    intro vis lev fk fr i hu hl h1 h2 h3 hi hvis
    by_cases hvi : vis i = 0
    · have hum := um_up hvi n hi
      obtain ⟨g, rfl⟩ : ∃ g, fk = g + 1 := ⟨fk - 1, by omega⟩
      obtain ⟨g2, rfl⟩ : ∃ g, fr = g + 1 := ⟨fr - 1, by omega⟩
      have e := hr.2.2.2.2.2.2 i key hi hkey
      have e2 := hk.2.2.2.2.2.2 i key hi hkey
      rw [show 4 * i + key = i * 4 + key by omega] at e2
      have f1 := hk.2.2.1 i hi
      have f2 := hr.2.2.1 i hi
      have z := k_isKnown_y hk.1 hn hi
      rw [kL_Items_valueOf_14, rL_Md_valueOf_5]
      by_cases ho : ow i key = nM 1
      · rw [ho] at e e2
        rcases hpa i hi with v3 | ⟨p, p1, v3⟩
        · rw [v3] at f1 f2
          simp (disch := omega) only [↓reduceIte, Nat.reduceSub, Nat.reduceAdd, Nat.reduceMul, Nat.sub_zero, Nat.add_zero, Nat.zero_add, Nat.mul_zero, lq_s, br_s, bd_s, bv_s, gd_tt, inB_nI, nI_clamp, sk_s, sk_n, pk_us, pk_un, nI_add, pk_mul, pk_sub, nI_leI, nI_ltI, nI_eq, if_pos, if_neg, nn_neg, nn_ne, nn_ne2, nn_lt, nn_nlt, nn_nle, nn_le, nn_m1, li_0, li_1, li_2, li_3, li_4, li_5, li_9, li_10, li_19, li_20, li_26, li_40, li_60, li_64, li_97, li_48, li_100, li_199, li_200, li_1000, li_8200, li_9999, li_100000, z, e, e2, f1, f2]
          obtain ⟨g, rfl⟩ : ∃ g', g = g' + 1 := ⟨g - 1, by omega⟩
          obtain ⟨g2, rfl⟩ : ∃ g', g2 = g' + 1 := ⟨g2 - 1, by omega⟩
          rw [kL_Items_valueOf_14, rL_Md_valueOf_5]
          have z2 : kM_Items_isKnown σ (nM 1) = some (nI 0) := k_isKnown_n hk.1 (Or.inl nM_lt0)
          unfold rJ_Md_valueOf_44
          refine ⟨nM 1, ?_, ?_⟩
          · by_cases h8 : 200 ≤ lev + 1
            · simp (disch := omega) only [↓reduceIte, Nat.reduceSub, Nat.reduceAdd, Nat.reduceMul, Nat.sub_zero, Nat.add_zero, Nat.zero_add, Nat.mul_zero, lq_s, br_s, bd_s, bv_s, gd_tt, inB_nI, nI_clamp, sk_s, sk_n, pk_us, pk_un, nI_add, pk_mul, pk_sub, nI_leI, nI_ltI, nI_eq, if_pos, if_neg, nn_neg, nn_ne, nn_ne2, nn_lt, nn_nlt, nn_nle, nn_le, nn_m1, li_0, li_1, li_2, li_3, li_4, li_5, li_9, li_10, li_19, li_20, li_26, li_40, li_60, li_64, li_97, li_48, li_100, li_199, li_200, li_1000, li_8200, li_9999, li_100000]
            · simp (disch := omega) only [↓reduceIte, Nat.reduceSub, Nat.reduceAdd, Nat.reduceMul, Nat.sub_zero, Nat.add_zero, Nat.zero_add, Nat.mul_zero, lq_s, br_s, bd_s, bv_s, gd_tt, inB_nI, nI_clamp, sk_s, sk_n, pk_us, pk_un, nI_add, pk_mul, pk_sub, nI_leI, nI_ltI, nI_eq, if_pos, if_neg, nn_neg, nn_ne, nn_ne2, nn_lt, nn_nlt, nn_nle, nn_le, nn_m1, li_0, li_1, li_2, li_3, li_4, li_5, li_9, li_10, li_19, li_20, li_26, li_40, li_60, li_64, li_97, li_48, li_100, li_199, li_200, li_1000, li_8200, li_9999, li_100000, z2]
          · simp (disch := omega) only [↓reduceIte, Nat.reduceSub, Nat.reduceAdd, Nat.reduceMul, Nat.sub_zero, Nat.add_zero, Nat.zero_add, Nat.mul_zero, lq_s, br_s, bd_s, bv_s, gd_tt, inB_nI, nI_clamp, sk_s, sk_n, pk_us, pk_un, nI_add, pk_mul, pk_sub, nI_leI, nI_ltI, nI_eq, if_pos, if_neg, nn_neg, nn_ne, nn_ne2, nn_lt, nn_nlt, nn_nle, nn_le, nn_m1, li_0, li_1, li_2, li_3, li_4, li_5, li_9, li_10, li_19, li_20, li_26, li_40, li_60, li_64, li_97, li_48, li_100, li_199, li_200, li_1000, li_8200, li_9999, li_100000, nM_lt0]
        · rw [v3] at f1 f2
          simp (disch := omega) only [↓reduceIte, Nat.reduceSub, Nat.reduceAdd, Nat.reduceMul, Nat.sub_zero, Nat.add_zero, Nat.zero_add, Nat.mul_zero, lq_s, br_s, bd_s, bv_s, gd_tt, inB_nI, nI_clamp, sk_s, sk_n, pk_us, pk_un, nI_add, pk_mul, pk_sub, nI_leI, nI_ltI, nI_eq, if_pos, if_neg, nn_neg, nn_ne, nn_ne2, nn_lt, nn_nlt, nn_nle, nn_le, nn_m1, li_0, li_1, li_2, li_3, li_4, li_5, li_9, li_10, li_19, li_20, li_26, li_40, li_60, li_64, li_97, li_48, li_100, li_199, li_200, li_1000, li_8200, li_9999, li_100000, z, e, e2, f1, f2]
          refine ih (va_up vis i 1) (lev + 1) g g2 p (by omega) (by omega) (by omega) (by omega) (by omega) p1 (fun x hx hv => ?_)
          by_cases hxi : x = i
          · subst hxi
            exact ⟨ho, Or.inr ⟨p, p1, v3, Or.inr rfl⟩⟩
          · rw [va_up_ne vis 1 hxi] at hv
            obtain ⟨q1, q2⟩ := hvis x hx hv
            refine ⟨q1, ?_⟩
            rcases q2 with q2 | ⟨p', a1, a2, a3⟩
            · exact Or.inl q2
            · refine Or.inr ⟨p', a1, a2, Or.inl ?_⟩
              by_cases hpi : p' = i
              · rw [hpi, va_up_self]; omega
              · rw [va_up_ne vis 1 hpi]
                rcases a3 with a3 | a3
                · exact a3
                · exact absurd a3 hpi
      · refine ⟨ow i key, ?_, ?_⟩
        · simp (disch := omega) only [↓reduceIte, Nat.reduceSub, Nat.reduceAdd, Nat.reduceMul, Nat.sub_zero, Nat.add_zero, Nat.zero_add, Nat.mul_zero, lq_s, br_s, bd_s, bv_s, gd_tt, inB_nI, nI_clamp, sk_s, sk_n, pk_us, pk_un, nI_add, pk_mul, pk_sub, nI_leI, nI_ltI, nI_eq, if_pos, if_neg, nn_neg, nn_ne, nn_ne2, nn_lt, nn_nlt, nn_nle, nn_le, nn_m1, li_0, li_1, li_2, li_3, li_4, li_5, li_9, li_10, li_19, li_20, li_26, li_40, li_60, li_64, li_97, li_48, li_100, li_199, li_200, li_1000, li_8200, li_9999, li_100000, z, e2]
        · unfold rJ_Md_valueOf_44
          simp (disch := omega) only [↓reduceIte, Nat.reduceSub, Nat.reduceAdd, Nat.reduceMul, Nat.sub_zero, Nat.add_zero, Nat.zero_add, Nat.mul_zero, lq_s, br_s, bd_s, bv_s, gd_tt, inB_nI, nI_clamp, sk_s, sk_n, pk_us, pk_un, nI_add, pk_mul, pk_sub, nI_leI, nI_ltI, nI_eq, if_pos, if_neg, nn_neg, nn_ne, nn_ne2, nn_lt, nn_nlt, nn_nle, nn_le, nn_m1, li_0, li_1, li_2, li_3, li_4, li_5, li_9, li_10, li_19, li_20, li_26, li_40, li_60, li_64, li_97, li_48, li_100, li_199, li_200, li_1000, li_8200, li_9999, li_100000, e]
    · have hring := v_ring hk hr hn hkey (fun x => x < n ∧ vis x ≠ 0) (fun x hx => by
        obtain ⟨q1, q2⟩ := hvis x hx.1 hx.2
        refine ⟨hx.1, q1, ?_⟩
        rcases q2 with q2 | ⟨p, p1, p2, p3⟩
        · exact Or.inl q2
        · refine Or.inr ⟨p, p2, p1, ?_⟩
          rcases p3 with p3 | p3
          · exact p3
          · rw [p3]; exact hvi) (200 - lev) lev fk fr i (by omega) (by omega) (by omega) ⟨hi, hvi⟩
      exact ⟨_, hring.1, hring.2⟩
theorem um_zero (n : Nat) : um (fun _ => 0) n = n := by
  induction n with
  | zero => rfl
  | succ n ih => rw [um, ih]; simp
/-- the value of an item for a key, by both -/
theorem p_value {n : Nat} {pg kc : Nat → Nat} {kd : Nat → Nat → Nat} {pa ct : Nat → Int32} {ow : Nat → Nat → Int32} {σ ρ : St} (hk : IV n pg kc kd pa ct ow σ 26) (hr : IV n pg kc kd pa ct ow ρ 22) (hW : WF n pg kc kd pa) {i key : Nat} (hi : i < n) (hkey : key < 4) : ∃ v, kM_Items_valueOf σ (nI i) (nI key) = some v ∧ rM_Md_valueOf ρ (nI i) (nI key) = some v := by
  have hFU := FU_ge
  have hn := hW.1
  obtain ⟨v, a, b⟩ := v_both hk hr hn hW.2.2.2.2.2.1 hkey n (fun _ => 0) 0 FU FU i (by rw [um_zero]; exact Nat.le_refl _) (by omega) (by omega) (by omega) (by omega) hi (fun x hx hv => absurd rfl hv)
  refine ⟨v, ?_, b⟩
  unfold kM_Items_valueOf
  simp (disch := omega) only [↓reduceIte, Nat.reduceSub, Nat.reduceAdd, Nat.reduceMul, Nat.sub_zero, Nat.add_zero, Nat.zero_add, Nat.mul_zero, lq_s, br_s, bd_s, bv_s, gd_tt, inB_nI, nI_clamp, sk_s, sk_n, pk_us, pk_un, nI_add, pk_mul, pk_sub, nI_leI, nI_ltI, nI_eq, if_pos, if_neg, nn_neg, nn_ne, nn_ne2, nn_lt, nn_nlt, nn_nle, nn_le, nn_m1, li_0, li_1, li_2, li_3, li_4, li_5, li_9, li_10, li_19, li_20, li_26, li_40, li_60, li_64, li_97, li_48, li_100, li_199, li_200, li_1000, li_8200, li_9999, li_100000, k_isKey_y hkey, a]
theorem p_of : lF_of Rel := by
  intro c σ ρ x y hc h
  have h' := h
  obtain ⟨n, pg, kc, kd, pa, ct, ow, w1, w2, w3, w4, w5, w6, w7, w8, w9⟩ := h'
  have z1 := w2.1
  have z2 := w3.1
  have m2 := w1.1
  unfold kM_PT_of rM_Md_of
  rcases ix_cases x (n := n) (by omega) with hx | hx | ⟨i, hi, rfl⟩
  · rw [k_isPage_n z1 (Or.inl hx), r_isItem_n z2 (Or.inl hx)]
    exact ⟨nM 1, by simp (disch := omega) only [↓reduceIte, Nat.reduceSub, Nat.reduceAdd, Nat.reduceMul, Nat.sub_zero, Nat.add_zero, Nat.zero_add, Nat.mul_zero, lq_s, br_s, bd_s, bv_s, gd_tt, inB_nI, nI_clamp, sk_s, sk_n, pk_us, pk_un, nI_add, pk_mul, pk_sub, nI_leI, nI_ltI, nI_eq, if_pos, if_neg, nn_neg, nn_ne, nn_ne2, nn_lt, nn_nlt, nn_nle, nn_le, nn_m1, li_0, li_1, li_2, li_3, li_4, li_5, li_9, li_10, li_19, li_20, li_26, li_40, li_60, li_64, li_97, li_48, li_100, li_199, li_200, li_1000, li_8200, li_9999, li_100000], by simp (disch := omega) only [↓reduceIte, Nat.reduceSub, Nat.reduceAdd, Nat.reduceMul, Nat.sub_zero, Nat.add_zero, Nat.zero_add, Nat.mul_zero, lq_s, br_s, bd_s, bv_s, gd_tt, inB_nI, nI_clamp, sk_s, sk_n, pk_us, pk_un, nI_add, pk_mul, pk_sub, nI_leI, nI_ltI, nI_eq, if_pos, if_neg, nn_neg, nn_ne, nn_ne2, nn_lt, nn_nlt, nn_nle, nn_le, nn_m1, li_0, li_1, li_2, li_3, li_4, li_5, li_9, li_10, li_19, li_20, li_26, li_40, li_60, li_64, li_97, li_48, li_100, li_199, li_200, li_1000, li_8200, li_9999, li_100000], h.next⟩
  · rw [k_isPage_n z1 (Or.inr hx), r_isItem_n z2 (Or.inr hx)]
    exact ⟨nM 1, by simp (disch := omega) only [↓reduceIte, Nat.reduceSub, Nat.reduceAdd, Nat.reduceMul, Nat.sub_zero, Nat.add_zero, Nat.zero_add, Nat.mul_zero, lq_s, br_s, bd_s, bv_s, gd_tt, inB_nI, nI_clamp, sk_s, sk_n, pk_us, pk_un, nI_add, pk_mul, pk_sub, nI_leI, nI_ltI, nI_eq, if_pos, if_neg, nn_neg, nn_ne, nn_ne2, nn_lt, nn_nlt, nn_nle, nn_le, nn_m1, li_0, li_1, li_2, li_3, li_4, li_5, li_9, li_10, li_19, li_20, li_26, li_40, li_60, li_64, li_97, li_48, li_100, li_199, li_200, li_1000, li_8200, li_9999, li_100000], by simp (disch := omega) only [↓reduceIte, Nat.reduceSub, Nat.reduceAdd, Nat.reduceMul, Nat.sub_zero, Nat.add_zero, Nat.zero_add, Nat.mul_zero, lq_s, br_s, bd_s, bv_s, gd_tt, inB_nI, nI_clamp, sk_s, sk_n, pk_us, pk_un, nI_add, pk_mul, pk_sub, nI_leI, nI_ltI, nI_eq, if_pos, if_neg, nn_neg, nn_ne, nn_ne2, nn_lt, nn_nlt, nn_nle, nn_le, nn_m1, li_0, li_1, li_2, li_3, li_4, li_5, li_9, li_10, li_19, li_20, li_26, li_40, li_60, li_64, li_97, li_48, li_100, li_199, li_200, li_1000, li_8200, li_9999, li_100000], h.next⟩
  · have hp1 := w1.2.1 i hi
    have e3 := w3.2.1 i hi
    rw [r_isItem_y z2 m2 hi, k_isPage_y z1 m2 hi (w2.2.1 i hi) hp1]
    by_cases hp : pg i = 0
    · rw [hp] at e3 ⊢
      exact ⟨nM 1, by simp (disch := omega) only [↓reduceIte, Nat.reduceSub, Nat.reduceAdd, Nat.reduceMul, Nat.sub_zero, Nat.add_zero, Nat.zero_add, Nat.mul_zero, lq_s, br_s, bd_s, bv_s, gd_tt, inB_nI, nI_clamp, sk_s, sk_n, pk_us, pk_un, nI_add, pk_mul, pk_sub, nI_leI, nI_ltI, nI_eq, if_pos, if_neg, nn_neg, nn_ne, nn_ne2, nn_lt, nn_nlt, nn_nle, nn_le, nn_m1, li_0, li_1, li_2, li_3, li_4, li_5, li_9, li_10, li_19, li_20, li_26, li_40, li_60, li_64, li_97, li_48, li_100, li_199, li_200, li_1000, li_8200, li_9999, li_100000], by simp (disch := omega) only [↓reduceIte, Nat.reduceSub, Nat.reduceAdd, Nat.reduceMul, Nat.sub_zero, Nat.add_zero, Nat.zero_add, Nat.mul_zero, lq_s, br_s, bd_s, bv_s, gd_tt, inB_nI, nI_clamp, sk_s, sk_n, pk_us, pk_un, nI_add, pk_mul, pk_sub, nI_leI, nI_ltI, nI_eq, if_pos, if_neg, nn_neg, nn_ne, nn_ne2, nn_lt, nn_nlt, nn_nle, nn_le, nn_m1, li_0, li_1, li_2, li_3, li_4, li_5, li_9, li_10, li_19, li_20, li_26, li_40, li_60, li_64, li_97, li_48, li_100, li_199, li_200, li_1000, li_8200, li_9999, li_100000, e3], h.next⟩
    · have hp : pg i = 1 := by omega
      rw [hp] at e3 ⊢
      rw [show (rM_Md_within ρ y 0 3) = rM_Md_within ρ y (nI 0) (nI 3) from rfl]
      rcases rng y 0 3 (by omega) with hy | ⟨hy1, hy2, k, -, hk, rfl⟩ | q
      · rw [k_isKey_n hy, w_n hy]
        exact ⟨nM 2, by simp (disch := omega) only [↓reduceIte, Nat.reduceSub, Nat.reduceAdd, Nat.reduceMul, Nat.sub_zero, Nat.add_zero, Nat.zero_add, Nat.mul_zero, lq_s, br_s, bd_s, bv_s, gd_tt, inB_nI, nI_clamp, sk_s, sk_n, pk_us, pk_un, nI_add, pk_mul, pk_sub, nI_leI, nI_ltI, nI_eq, if_pos, if_neg, nn_neg, nn_ne, nn_ne2, nn_lt, nn_nlt, nn_nle, nn_le, nn_m1, li_0, li_1, li_2, li_3, li_4, li_5, li_9, li_10, li_19, li_20, li_26, li_40, li_60, li_64, li_97, li_48, li_100, li_199, li_200, li_1000, li_8200, li_9999, li_100000], by simp (disch := omega) only [↓reduceIte, Nat.reduceSub, Nat.reduceAdd, Nat.reduceMul, Nat.sub_zero, Nat.add_zero, Nat.zero_add, Nat.mul_zero, lq_s, br_s, bd_s, bv_s, gd_tt, inB_nI, nI_clamp, sk_s, sk_n, pk_us, pk_un, nI_add, pk_mul, pk_sub, nI_leI, nI_ltI, nI_eq, if_pos, if_neg, nn_neg, nn_ne, nn_ne2, nn_lt, nn_nlt, nn_nle, nn_le, nn_m1, li_0, li_1, li_2, li_3, li_4, li_5, li_9, li_10, li_19, li_20, li_26, li_40, li_60, li_64, li_97, li_48, li_100, li_199, li_200, li_1000, li_8200, li_9999, li_100000, e3], h.next⟩
      · rw [w_y hy1 hy2, k_isKey_y (by omega)]
        obtain ⟨v, v1, v2⟩ := p_value w2 w3 w1 hi (show k < 4 by omega)
        exact ⟨v, by simp (disch := omega) only [↓reduceIte, Nat.reduceSub, Nat.reduceAdd, Nat.reduceMul, Nat.sub_zero, Nat.add_zero, Nat.zero_add, Nat.mul_zero, lq_s, br_s, bd_s, bv_s, gd_tt, inB_nI, nI_clamp, sk_s, sk_n, pk_us, pk_un, nI_add, pk_mul, pk_sub, nI_leI, nI_ltI, nI_eq, if_pos, if_neg, nn_neg, nn_ne, nn_ne2, nn_lt, nn_nlt, nn_nle, nn_le, nn_m1, li_0, li_1, li_2, li_3, li_4, li_5, li_9, li_10, li_19, li_20, li_26, li_40, li_60, li_64, li_97, li_48, li_100, li_199, li_200, li_1000, li_8200, li_9999, li_100000, v1], by simp (disch := omega) only [↓reduceIte, Nat.reduceSub, Nat.reduceAdd, Nat.reduceMul, Nat.sub_zero, Nat.add_zero, Nat.zero_add, Nat.mul_zero, lq_s, br_s, bd_s, bv_s, gd_tt, inB_nI, nI_clamp, sk_s, sk_n, pk_us, pk_un, nI_add, pk_mul, pk_sub, nI_leI, nI_ltI, nI_eq, if_pos, if_neg, nn_neg, nn_ne, nn_ne2, nn_lt, nn_nlt, nn_nle, nn_le, nn_m1, li_0, li_1, li_2, li_3, li_4, li_5, li_9, li_10, li_19, li_20, li_26, li_40, li_60, li_64, li_97, li_48, li_100, li_199, li_200, li_1000, li_8200, li_9999, li_100000, e3, v2], h.next⟩
      · omega
