/-! balance: groups, rows, levels -/
set_option maxHeartbeats 1000000 in
theorem p_inner {N j to len : Nat} {pg : Nat → Nat} {ct : Nat → Int32} {ow : Nat → Nat → Int32} {f : Nat → Nat} (K : St → Int32 → Option (Int32 × St)) (v1 : Int32) (hpN : pg N = 0) (h1 : to ≤ 4 * j + 4) (h2 : to ≤ len) (h3 : len ≤ 200) : ∀ (c i fk fr : Nat) (kc : Nat → Nat) (kd : Nat → Nat → Nat) (pa : Nat → Int32) (bel : Int32) (σ ρ : St), i + c + 1 = to → 4 * j ≤ i → c + 1 < fk → c ≤ fr → WF (N + 1) pg kc kd pa → IV (N + 1) pg kc kd pa ct ow σ 26 → IV (N + 1) pg kc kd pa (va_up ct N bel) ow ρ 22 → FR (N + 1) σ → kc N + c + 1 ≤ 40 → (∀ i', i ≤ i' → i' < len → f i' < N + 1 ∧ f i' ≠ N ∧ σ 19 i' = nI (f i') ∧ ρ 21 i' = nI (f i')) → ρ 29 0 = nI len → ∃ (kc' : Nat → Nat) (kd' : Nat → Nat → Nat) (pa' : Nat → Int32) (bel' v2' : Int32) (σ' ρ' : St), kL_Bal_hang_6 fk σ (nI N) (nI to) bel (nI i) = kJ_Bal_hang_77 σ' (nI N) bel' ∧ rJ_Md_balance_147 K (fun σ z0 z1 z2 => rL_Md_balance_125 K fr σ z0 z1 z2) ρ v1 (nI j) (nI i) = rL_Md_balance_125 K (fr - c) ρ' v1 v2' (nI to) ∧ (to = 4 * j + 4 → v2' = nI (j + 1)) ∧ WF (N + 1) pg kc' kd' pa' ∧ IV (N + 1) pg kc' kd' pa' ct ow σ' 26 ∧ IV (N + 1) pg kc' kd' pa' (va_up ct N bel') ow ρ' 22 ∧ FR (N + 1) σ' ∧ (∀ x, x ≠ N → kc' x = kc x) ∧ (∀ i', i' ≠ j → ρ' 21 i' = ρ 21 i') ∧ ρ' 21 j = nI N ∧ σ' 27 0 = σ 27 0 + nI (c + 1) ∧ (∀ k, k ≠ 1 → k ≠ 3 → k ≠ 4 → k ≠ 27 → σ' k = σ k) ∧ ∀ k, k ≠ 1 → k ≠ 2 → k ≠ 3 → k ≠ 4 → k ≠ 21 → ρ' k = ρ k := by
  intro c
  induction c with
  | zero =>
    intro i fk fr kc kd pa bel σ ρ hi hj hfk hfr hW hI hJ hF hk40 hrow h29
    obtain ⟨g, rfl⟩ : ∃ g, fk = g + 1 + 1 := ⟨fk - 2, by omega⟩
    obtain ⟨y1, y2, y3, y4⟩ := hrow i (Nat.le_refl _) (by omega)
    have hn := hW.1
    obtain ⟨σ1, ρ1, a1, a2, a3, a4, a5, a6, a7, a8, a9⟩ := p_hang1 (to := to) hW hI hJ hF (by omega) hpN (by omega) y1 y2 y3 (by omega) (by omega) (by omega)
    have z2 := hJ.1
    have z3 := a5.1
    have hto : to = i + 1 := by omega
    refine ⟨_, _, _, _, if i - i / 4 * 4 = 3 then nI (j + 1) else nI j, σ1, sk ρ1 21 (upd (ρ1 21) j (nI N)), ?_, ?_, fun h => ?_, a3, a4, a5.keep (by simp (disch := omega) only [↓reduceIte, Nat.reduceSub, Nat.reduceAdd, Nat.reduceMul, Nat.sub_zero, Nat.add_zero, Nat.zero_add, Nat.mul_zero, lq_s, br_s, bd_s, bv_s, gd_tt, inB_nI, nI_clamp, sk_s, sk_n, pk_us, pk_un, nI_add, pk_mul, pk_sub, nI_leI, nI_ltI, nI_eq, if_pos, if_neg, nn_neg, nn_ne, nn_ne2, nn_lt, nn_nlt, nn_nle, nn_le, nn_m1, li_0, li_1, li_2, li_3, li_4, li_5, li_9, li_10, li_19, li_20, li_26, li_40, li_60, li_64, li_97, li_48, li_100, li_199, li_200, li_1000, li_8200, li_9999, li_100000]) (fun k hk => by simp (disch := omega) only [↓reduceIte, Nat.reduceSub, Nat.reduceAdd, Nat.reduceMul, Nat.sub_zero, Nat.add_zero, Nat.zero_add, Nat.mul_zero, lq_s, br_s, bd_s, bv_s, gd_tt, inB_nI, nI_clamp, sk_s, sk_n, pk_us, pk_un, nI_add, pk_mul, pk_sub, nI_leI, nI_ltI, nI_eq, if_pos, if_neg, nn_neg, nn_ne, nn_ne2, nn_lt, nn_nlt, nn_nle, nn_le, nn_m1, li_0, li_1, li_2, li_3, li_4, li_5, li_9, li_10, li_19, li_20, li_26, li_40, li_60, li_64, li_97, li_48, li_100, li_199, li_200, li_1000, li_8200, li_9999, li_100000]), a6, fun x hx => va_up_ne kc _ hx, fun i' hi' => ?_, by simp (disch := omega) only [↓reduceIte, Nat.reduceSub, Nat.reduceAdd, Nat.reduceMul, Nat.sub_zero, Nat.add_zero, Nat.zero_add, Nat.mul_zero, lq_s, br_s, bd_s, bv_s, gd_tt, inB_nI, nI_clamp, sk_s, sk_n, pk_us, pk_un, nI_add, pk_mul, pk_sub, nI_leI, nI_ltI, nI_eq, if_pos, if_neg, nn_neg, nn_ne, nn_ne2, nn_lt, nn_nlt, nn_nle, nn_le, nn_m1, li_0, li_1, li_2, li_3, li_4, li_5, li_9, li_10, li_19, li_20, li_26, li_40, li_60, li_64, li_97, li_48, li_100, li_199, li_200, li_1000, li_8200, li_9999, li_100000], a7, a8, fun k q1 q2 q3 q4 q5 => ?_⟩
    · rw [a1, kL_Bal_hang_6]
      simp (disch := omega) only [↓reduceIte, Nat.reduceSub, Nat.reduceAdd, Nat.reduceMul, Nat.sub_zero, Nat.add_zero, Nat.zero_add, Nat.mul_zero, lq_s, br_s, bd_s, bv_s, gd_tt, inB_nI, nI_clamp, sk_s, sk_n, pk_us, pk_un, nI_add, pk_mul, pk_sub, nI_leI, nI_ltI, nI_eq, if_pos, if_neg, nn_neg, nn_ne, nn_ne2, nn_lt, nn_nlt, nn_nle, nn_le, nn_m1, li_0, li_1, li_2, li_3, li_4, li_5, li_9, li_10, li_19, li_20, li_26, li_40, li_60, li_64, li_97, li_48, li_100, li_199, li_200, li_1000, li_8200, li_9999, li_100000]
    · unfold rJ_Md_balance_147 rJ_Md_balance_189
      by_cases h3' : i - i / 4 * 4 = 3
      · simp (disch := omega) only [↓reduceIte, Nat.reduceSub, Nat.reduceAdd, Nat.reduceMul, Nat.sub_zero, Nat.add_zero, Nat.zero_add, Nat.mul_zero, lq_s, br_s, bd_s, bv_s, gd_tt, inB_nI, nI_clamp, sk_s, sk_n, pk_us, pk_un, nI_add, pk_mul, pk_sub, nI_leI, nI_ltI, nI_eq, if_pos, if_neg, nn_neg, nn_ne, nn_ne2, nn_lt, nn_nlt, nn_nle, nn_le, nn_m1, li_0, li_1, li_2, li_3, li_4, li_5, li_9, li_10, li_19, li_20, li_26, li_40, li_60, li_64, li_97, li_48, li_100, li_199, li_200, li_1000, li_8200, li_9999, li_100000, z2, y4, a2, z3, pk_div, Nat.add_sub_cancel, hto, h3']
      · simp (disch := omega) only [↓reduceIte, Nat.reduceSub, Nat.reduceAdd, Nat.reduceMul, Nat.sub_zero, Nat.add_zero, Nat.zero_add, Nat.mul_zero, lq_s, br_s, bd_s, bv_s, gd_tt, inB_nI, nI_clamp, sk_s, sk_n, pk_us, pk_un, nI_add, pk_mul, pk_sub, nI_leI, nI_ltI, nI_eq, if_pos, if_neg, nn_neg, nn_ne, nn_ne2, nn_lt, nn_nlt, nn_nle, nn_le, nn_m1, li_0, li_1, li_2, li_3, li_4, li_5, li_9, li_10, li_19, li_20, li_26, li_40, li_60, li_64, li_97, li_48, li_100, li_199, li_200, li_1000, li_8200, li_9999, li_100000, z2, y4, a2, z3, pk_div, Nat.add_sub_cancel, hto, h3']
    · rw [if_pos (by omega)]
    · simp (disch := omega) only [↓reduceIte, Nat.reduceSub, Nat.reduceAdd, Nat.reduceMul, Nat.sub_zero, Nat.add_zero, Nat.zero_add, Nat.mul_zero, lq_s, br_s, bd_s, bv_s, gd_tt, inB_nI, nI_clamp, sk_s, sk_n, pk_us, pk_un, nI_add, pk_mul, pk_sub, nI_leI, nI_ltI, nI_eq, if_pos, if_neg, nn_neg, nn_ne, nn_ne2, nn_lt, nn_nlt, nn_nle, nn_le, nn_m1, li_0, li_1, li_2, li_3, li_4, li_5, li_9, li_10, li_19, li_20, li_26, li_40, li_60, li_64, li_97, li_48, li_100, li_199, li_200, li_1000, li_8200, li_9999, li_100000]
      rw [a9 21 (by decide) (by decide) (by decide) (by decide)]
    · simp (disch := omega) only [↓reduceIte, Nat.reduceSub, Nat.reduceAdd, Nat.reduceMul, Nat.sub_zero, Nat.add_zero, Nat.zero_add, Nat.mul_zero, lq_s, br_s, bd_s, bv_s, gd_tt, inB_nI, nI_clamp, sk_s, sk_n, pk_us, pk_un, nI_add, pk_mul, pk_sub, nI_leI, nI_ltI, nI_eq, if_pos, if_neg, nn_neg, nn_ne, nn_ne2, nn_lt, nn_nlt, nn_nle, nn_le, nn_m1, li_0, li_1, li_2, li_3, li_4, li_5, li_9, li_10, li_19, li_20, li_26, li_40, li_60, li_64, li_97, li_48, li_100, li_199, li_200, li_1000, li_8200, li_9999, li_100000]
      exact a9 k q1 q2 q3 q4
  | succ c ih =>
    intro i fk fr kc kd pa bel σ ρ hi hj hfk hfr hW hI hJ hF hk40 hrow h29
    obtain ⟨g, rfl⟩ : ∃ g, fk = g + 1 := ⟨fk - 1, by omega⟩
    obtain ⟨g2, rfl⟩ : ∃ g, fr = g + 1 := ⟨fr - 1, by omega⟩
    obtain ⟨y1, y2, y3, y4⟩ := hrow i (Nat.le_refl _) (by omega)
    have hn := hW.1
    obtain ⟨σ1, ρ1, a1, a2, a3, a4, a5, a6, a7, a8, a9⟩ := p_hang1 (to := to) hW hI hJ hF (by omega) hpN (by omega) y1 y2 y3 (by omega) (by omega) (by omega)
    have z2 := hJ.1
    have z3 := a5.1
    have e29 : ρ1 29 0 = nI len := by rw [a9 29 (by decide) (by decide) (by decide) (by decide)]; exact h29
    obtain ⟨kc', kd', pa', bel', v2', σ', ρ', b1, b2, b3, b4, b5, b6, b7, b8, b9, b10, b11, b12, b13⟩ := ih (i + 1) g g2 _ _ _ _ σ1 (sk ρ1 21 (upd (ρ1 21) j (nI N))) (by omega) (by omega) (by omega) (by omega) a3 a4 (a5.keep (by simp (disch := omega) only [↓reduceIte, Nat.reduceSub, Nat.reduceAdd, Nat.reduceMul, Nat.sub_zero, Nat.add_zero, Nat.zero_add, Nat.mul_zero, lq_s, br_s, bd_s, bv_s, gd_tt, inB_nI, nI_clamp, sk_s, sk_n, pk_us, pk_un, nI_add, pk_mul, pk_sub, nI_leI, nI_ltI, nI_eq, if_pos, if_neg, nn_neg, nn_ne, nn_ne2, nn_lt, nn_nlt, nn_nle, nn_le, nn_m1, li_0, li_1, li_2, li_3, li_4, li_5, li_9, li_10, li_19, li_20, li_26, li_40, li_60, li_64, li_97, li_48, li_100, li_199, li_200, li_1000, li_8200, li_9999, li_100000]) (fun k hk => by simp (disch := omega) only [↓reduceIte, Nat.reduceSub, Nat.reduceAdd, Nat.reduceMul, Nat.sub_zero, Nat.add_zero, Nat.zero_add, Nat.mul_zero, lq_s, br_s, bd_s, bv_s, gd_tt, inB_nI, nI_clamp, sk_s, sk_n, pk_us, pk_un, nI_add, pk_mul, pk_sub, nI_leI, nI_ltI, nI_eq, if_pos, if_neg, nn_neg, nn_ne, nn_ne2, nn_lt, nn_nlt, nn_nle, nn_le, nn_m1, li_0, li_1, li_2, li_3, li_4, li_5, li_9, li_10, li_19, li_20, li_26, li_40, li_60, li_64, li_97, li_48, li_100, li_199, li_200, li_1000, li_8200, li_9999, li_100000])) a6 (by rw [va_up_self]; omega) (fun i' q1 q2 => by
      obtain ⟨x1, x2, x3, x4⟩ := hrow i' (by omega) q2
      refine ⟨x1, x2, ?_, ?_⟩
      · rw [a8 19 (by decide) (by decide) (by decide) (by decide)]; exact x3
      · have : i' ≠ j := by omega
        simp (disch := omega) only [↓reduceIte, Nat.reduceSub, Nat.reduceAdd, Nat.reduceMul, Nat.sub_zero, Nat.add_zero, Nat.zero_add, Nat.mul_zero, lq_s, br_s, bd_s, bv_s, gd_tt, inB_nI, nI_clamp, sk_s, sk_n, pk_us, pk_un, nI_add, pk_mul, pk_sub, nI_leI, nI_ltI, nI_eq, if_pos, if_neg, nn_neg, nn_ne, nn_ne2, nn_lt, nn_nlt, nn_nle, nn_le, nn_m1, li_0, li_1, li_2, li_3, li_4, li_5, li_9, li_10, li_19, li_20, li_26, li_40, li_60, li_64, li_97, li_48, li_100, li_199, li_200, li_1000, li_8200, li_9999, li_100000]
        rw [a9 21 (by decide) (by decide) (by decide) (by decide)]; exact x4) (by simp (disch := omega) only [↓reduceIte, Nat.reduceSub, Nat.reduceAdd, Nat.reduceMul, Nat.sub_zero, Nat.add_zero, Nat.zero_add, Nat.mul_zero, lq_s, br_s, bd_s, bv_s, gd_tt, inB_nI, nI_clamp, sk_s, sk_n, pk_us, pk_un, nI_add, pk_mul, pk_sub, nI_leI, nI_ltI, nI_eq, if_pos, if_neg, nn_neg, nn_ne, nn_ne2, nn_lt, nn_nlt, nn_nle, nn_le, nn_m1, li_0, li_1, li_2, li_3, li_4, li_5, li_9, li_10, li_19, li_20, li_26, li_40, li_60, li_64, li_97, li_48, li_100, li_199, li_200, li_1000, li_8200, li_9999, li_100000]; exact e29)
    refine ⟨kc', kd', pa', bel', v2', σ', ρ', ?_, ?_, b3, b4, b5, b6, b7, fun x hx => ?_, fun i' hi' => ?_, b10, ?_, fun k q1 q2 q3 q4 => ?_, fun k q1 q2 q3 q4 q5 => ?_⟩
    · rw [a1]; exact b1
    · unfold rJ_Md_balance_147 rJ_Md_balance_189
      have hne : ¬ i - i / 4 * 4 = 3 := by omega
      have hne2 : ¬ (i + 1) - (i + 1) / 4 * 4 = 0 := by omega
      simp (disch := omega) only [↓reduceIte, Nat.reduceSub, Nat.reduceAdd, Nat.reduceMul, Nat.sub_zero, Nat.add_zero, Nat.zero_add, Nat.mul_zero, lq_s, br_s, bd_s, bv_s, gd_tt, inB_nI, nI_clamp, sk_s, sk_n, pk_us, pk_un, nI_add, pk_mul, pk_sub, nI_leI, nI_ltI, nI_eq, if_pos, if_neg, nn_neg, nn_ne, nn_ne2, nn_lt, nn_nlt, nn_nle, nn_le, nn_m1, li_0, li_1, li_2, li_3, li_4, li_5, li_9, li_10, li_19, li_20, li_26, li_40, li_60, li_64, li_97, li_48, li_100, li_199, li_200, li_1000, li_8200, li_9999, li_100000, z2, y4, a2, z3, pk_div, Nat.add_sub_cancel, hne]
      rw [rL_Md_balance_125]
      simp (disch := omega) only [↓reduceIte, Nat.reduceSub, Nat.reduceAdd, Nat.reduceMul, Nat.sub_zero, Nat.add_zero, Nat.zero_add, Nat.mul_zero, lq_s, br_s, bd_s, bv_s, gd_tt, inB_nI, nI_clamp, sk_s, sk_n, pk_us, pk_un, nI_add, pk_mul, pk_sub, nI_leI, nI_ltI, nI_eq, if_pos, if_neg, nn_neg, nn_ne, nn_ne2, nn_lt, nn_nlt, nn_nle, nn_le, nn_m1, li_0, li_1, li_2, li_3, li_4, li_5, li_9, li_10, li_19, li_20, li_26, li_40, li_60, li_64, li_97, li_48, li_100, li_199, li_200, li_1000, li_8200, li_9999, li_100000, e29, pk_div, hne2]
      rw [b2, show g2 + 1 - (c + 1) = g2 - c by omega]
    · rw [b8 x hx, va_up_ne kc _ hx]
    · rw [b9 i' hi']
      simp (disch := omega) only [↓reduceIte, Nat.reduceSub, Nat.reduceAdd, Nat.reduceMul, Nat.sub_zero, Nat.add_zero, Nat.zero_add, Nat.mul_zero, lq_s, br_s, bd_s, bv_s, gd_tt, inB_nI, nI_clamp, sk_s, sk_n, pk_us, pk_un, nI_add, pk_mul, pk_sub, nI_leI, nI_ltI, nI_eq, if_pos, if_neg, nn_neg, nn_ne, nn_ne2, nn_lt, nn_nlt, nn_nle, nn_le, nn_m1, li_0, li_1, li_2, li_3, li_4, li_5, li_9, li_10, li_19, li_20, li_26, li_40, li_60, li_64, li_97, li_48, li_100, li_199, li_200, li_1000, li_8200, li_9999, li_100000]
      rw [a9 21 (by decide) (by decide) (by decide) (by decide)]
    · rw [b11, a7, Int32.add_assoc, nI_add, show 1 + (c + 1) = c + 1 + 1 by omega]
    · rw [b12 k q1 q2 q3 q4, a8 k q1 q2 q3 q4]
    · rw [b13 k q1 q2 q3 q4 q5]
      simp (disch := omega) only [↓reduceIte, Nat.reduceSub, Nat.reduceAdd, Nat.reduceMul, Nat.sub_zero, Nat.add_zero, Nat.zero_add, Nat.mul_zero, lq_s, br_s, bd_s, bv_s, gd_tt, inB_nI, nI_clamp, sk_s, sk_n, pk_us, pk_un, nI_add, pk_mul, pk_sub, nI_leI, nI_ltI, nI_eq, if_pos, if_neg, nn_neg, nn_ne, nn_ne2, nn_lt, nn_nlt, nn_nle, nn_le, nn_m1, li_0, li_1, li_2, li_3, li_4, li_5, li_9, li_10, li_19, li_20, li_26, li_40, li_60, li_64, li_97, li_48, li_100, li_199, li_200, li_1000, li_8200, li_9999, li_100000]
      exact a9 k q1 q2 q3 q4
set_option maxHeartbeats 2000000 in
theorem p_row {len g n0 : Nat} {f : Nat → Nat} (K : St → Int32 → Option (Int32 × St)) (v1 : Int32) (hg : g = (len + 3) / 4) (hlen : len ≤ 200) (hn0 : 0 < n0) : ∀ (c j fk fr n e : Nat) (pg kc : Nat → Nat) (kd : Nat → Nat → Nat) (pa ct : Nat → Int32) (ow : Nat → Nat → Int32) (v2 : Int32) (σ ρ : St), j + c = g → c < fk → len < fr + e → WF n pg kc kd pa → IV n pg kc kd pa ct ow σ 26 → IV n pg kc kd pa ct ow ρ 22 → FR n σ → n + c ≤ 200 → kc 0 = 0 → n = n0 + j → σ 34 0 = nI len → ρ 29 0 = nI len → (∀ i, 4 * j ≤ i → i < len → f i < n0 ∧ σ 19 i = nI (f i) ∧ ρ 21 i = nI (f i)) → (∀ i, i < j → σ 19 i = nI (n0 + i) ∧ ρ 21 i = nI (n0 + i)) → (4 * j < len → e = 4 * j ∧ v2 = nI j) → (len ≤ 4 * j → e = len) → ∃ (pg' kc' : Nat → Nat) (kd' : Nat → Nat → Nat) (pa' ct' : Nat → Int32) (ow' : Nat → Nat → Int32) (b : Nat) (σ' ρ' : St), kL_Bal_raiseRow_4 fk σ (nI j) (nI (4 * j)) = kJ_Bal_raiseRow_55 σ' (nI g) ∧ rL_Md_balance_125 K fr ρ v1 v2 (nI e) = rJ_Md_balance_196 K ρ' v1 ∧ WF (n + c) pg' kc' kd' pa' ∧ IV (n + c) pg' kc' kd' pa' ct' ow' σ' 26 ∧ IV (n + c) pg' kc' kd' pa' ct' ow' ρ' 22 ∧ FR (n + c) σ' ∧ kc' 0 = 0 ∧ (∀ i, i < g → σ' 19 i = nI (n0 + i) ∧ ρ' 21 i = nI (n0 + i)) ∧ b ≤ len - 4 * j ∧ σ' 27 0 = σ 27 0 + nI b ∧ (∀ k, 5 < k → k ≠ 19 → k ≠ 26 → k ≠ 27 → σ' k = σ k) ∧ ∀ k, 5 < k → k ≠ 21 → k ≠ 22 → ρ' k = ρ k := by
  have hFU := FU_ge
  intro c
  induction c with
  | zero =>
    intro j fk fr n e pg kc kd pa ct ow v2 σ ρ hj hfk hfr hW hI hJ hF hroom hk0 hn h34 h29 hrow hnew he1 he2
    obtain ⟨q, rfl⟩ : ∃ q, fk = q + 1 := ⟨fk - 1, by omega⟩
    have he : e = len := he2 (by omega)
    obtain ⟨q2, rfl⟩ : ∃ q, fr = q + 1 := ⟨fr - 1, by omega⟩
    have hj : j = g := by omega
    refine ⟨pg, kc, kd, pa, ct, ow, 0, σ, ρ, ?_, ?_, hW, hI, hJ, hF, hk0, ?_, by omega, a_zero _, fun _ _ _ _ _ => rfl, fun _ _ _ _ => rfl⟩
    · rw [kL_Bal_raiseRow_4]
      simp (disch := omega) only [↓reduceIte, Nat.reduceSub, Nat.reduceAdd, Nat.reduceMul, Nat.sub_zero, Nat.add_zero, Nat.zero_add, Nat.mul_zero, lq_s, br_s, bd_s, bv_s, gd_tt, inB_nI, nI_clamp, sk_s, sk_n, pk_us, pk_un, nI_add, pk_mul, pk_sub, nI_leI, nI_ltI, nI_eq, if_pos, if_neg, nn_neg, nn_ne, nn_ne2, nn_lt, nn_nlt, nn_nle, nn_le, nn_m1, li_0, li_1, li_2, li_3, li_4, li_5, li_9, li_10, li_19, li_20, li_26, li_40, li_60, li_64, li_97, li_48, li_100, li_199, li_200, li_1000, li_8200, li_9999, li_100000, h34, hj]
    · rw [rL_Md_balance_125]
      simp (disch := omega) only [↓reduceIte, Nat.reduceSub, Nat.reduceAdd, Nat.reduceMul, Nat.sub_zero, Nat.add_zero, Nat.zero_add, Nat.mul_zero, lq_s, br_s, bd_s, bv_s, gd_tt, inB_nI, nI_clamp, sk_s, sk_n, pk_us, pk_un, nI_add, pk_mul, pk_sub, nI_leI, nI_ltI, nI_eq, if_pos, if_neg, nn_neg, nn_ne, nn_ne2, nn_lt, nn_nlt, nn_nle, nn_le, nn_m1, li_0, li_1, li_2, li_3, li_4, li_5, li_9, li_10, li_19, li_20, li_26, li_40, li_60, li_64, li_97, li_48, li_100, li_199, li_200, li_1000, li_8200, li_9999, li_100000, h29, he]
    · intro i hi
      exact hnew i (by omega)
  | succ c ih =>
    intro j fk fr n e pg kc kd pa ct ow v2 σ ρ hj hfk hfr hW hI hJ hF hroom hk0 hn h34 h29 hrow hnew he1 he2
    have hjl : 4 * j < len := by omega
    obtain ⟨he, hv2⟩ := he1 hjl
    subst hv2
    subst he
    obtain ⟨q, rfl⟩ : ∃ q, fk = q + 1 := ⟨fk - 1, by omega⟩
    obtain ⟨q2, rfl⟩ : ∃ q, fr = q + 1 := ⟨fr - 1, by omega⟩
    obtain ⟨to, hto1, hto2⟩ : ∃ to, (len < 4 * j + 4 → to = len) ∧ (¬ len < 4 * j + 4 → to = 4 * j + 4) := by
      by_cases h : len < 4 * j + 4
      · exact ⟨len, fun _ => rfl, fun z => absurd h z⟩
      · exact ⟨4 * j + 4, fun z => absurd z h, fun _ => rfl⟩
    have hto3 : 4 * j < to := by omega
    have hto4 : to ≤ 4 * j + 4 := by omega
    have hto5 : to ≤ len := by omega
    obtain ⟨σ1, a1, a2, a3, a4⟩ := k_add (p := 0) (q := nM 1) (co := nI 0) hI hF (by omega) (by omega)
    obtain ⟨ρ1, b1, b2, b3⟩ := r_made (p := 0) (q := nM 1) (co := nI 0) hJ (by omega) (by omega) (fun z => by omega)
    have hW1 := hW.more (p := 0) (q := nM 1) (by omega) (by omega) (Or.inl rfl) (fun _ => rfl)
    rw [← va_same (pa := ct)] at b2
    obtain ⟨kc', kd', pa', bel', v2', σ2, ρ2, c1, c2, c3, c4, c5, c6, c7, c8, c9, c10, c11, c12, c13⟩ := p_inner (N := n) (j := j) (to := to) (len := len) (f := f) K v1 (va_up_self pg n 0) hto4 hto5 hlen (to - 4 * j - 1) (4 * j) FU q2 _ _ _ (nI 0) σ1 ρ1 (by omega) (by omega) (by omega) (by omega) hW1 a2 b2 a3 (by rw [va_up_self]; omega) (fun i' x1 x2 => by
      obtain ⟨y1, y2, y3⟩ := hrow i' x1 x2
      refine ⟨by omega, by omega, ?_, ?_⟩
      · rw [a4 19 (by decide) (by decide) (by decide) (by decide)]; exact y2
      · rw [b3 21 (by omega)]; exact y3) (by rw [b3 29 (by omega)]; exact h29)
    rw [va_over] at c6
    have d1 := (c5.cnt (i := n) (q := bel') (by decide))
    rw [va_over] at d1
    have e34 : σ1 34 0 = nI len := by rw [a4 34 (by decide) (by decide) (by decide) (by decide)]; exact h34
    have e26 := k_isKnown_y c5.1 (by omega) (show n < n + 1 by omega)
    have hsc : kM_Items_setCount σ2 (nI n) bel' = some (sk σ2 2 (upd (σ2 2) n bel')) := by
      unfold kM_Items_setCount
      simp (disch := omega) only [↓reduceIte, Nat.reduceSub, Nat.reduceAdd, Nat.reduceMul, Nat.sub_zero, Nat.add_zero, Nat.zero_add, Nat.mul_zero, lq_s, br_s, bd_s, bv_s, gd_tt, inB_nI, nI_clamp, sk_s, sk_n, pk_us, pk_un, nI_add, pk_mul, pk_sub, nI_leI, nI_ltI, nI_eq, if_pos, if_neg, nn_neg, nn_ne, nn_ne2, nn_lt, nn_nlt, nn_nle, nn_le, nn_m1, li_0, li_1, li_2, li_3, li_4, li_5, li_9, li_10, li_19, li_20, li_26, li_40, li_60, li_64, li_97, li_48, li_100, li_199, li_200, li_1000, li_8200, li_9999, li_100000, e26]
    have hhang : kM_Bal_hang σ1 (nI n) (nI (4 * j)) (nI to) = some (sk σ2 2 (upd (σ2 2) n bel')) := by
      unfold kM_Bal_hang
      rw [show (0 : Int32) = nI 0 from rfl, c1]
      unfold kJ_Bal_hang_77
      rw [hsc, bv_s]
    have hmin : (if len < 4 * j + 4 then nI len else nI (4 * j + 4)) = nI to := by
      by_cases h : len < 4 * j + 4
      · rw [hto1 h, if_pos h]
      · rw [hto2 h, if_neg h]
    obtain ⟨pg3, kc3, kd3, pa3, ct3, ow3, b, σ3, ρ3, f1, f2, f3, f4, f5, f6, f7, f8, f9, f10, f11, f12⟩ := ih (j + 1) q (q2 - (to - 4 * j - 1)) (n + 1) to (va_up pg n 0) kc' kd' pa' _ _ v2' (sk (sk σ2 2 (upd (σ2 2) n bel')) 19 (upd (σ2 19) j (nI n))) ρ2 (by omega) (by omega) (by omega) c4 (d1.keep (by simp (disch := omega) only [↓reduceIte, Nat.reduceSub, Nat.reduceAdd, Nat.reduceMul, Nat.sub_zero, Nat.add_zero, Nat.zero_add, Nat.mul_zero, lq_s, br_s, bd_s, bv_s, gd_tt, inB_nI, nI_clamp, sk_s, sk_n, pk_us, pk_un, nI_add, pk_mul, pk_sub, nI_leI, nI_ltI, nI_eq, if_pos, if_neg, nn_neg, nn_ne, nn_ne2, nn_lt, nn_nlt, nn_nle, nn_le, nn_m1, li_0, li_1, li_2, li_3, li_4, li_5, li_9, li_10, li_19, li_20, li_26, li_40, li_60, li_64, li_97, li_48, li_100, li_199, li_200, li_1000, li_8200, li_9999, li_100000]) (fun k hk => by simp (disch := omega) only [↓reduceIte, Nat.reduceSub, Nat.reduceAdd, Nat.reduceMul, Nat.sub_zero, Nat.add_zero, Nat.zero_add, Nat.mul_zero, lq_s, br_s, bd_s, bv_s, gd_tt, inB_nI, nI_clamp, sk_s, sk_n, pk_us, pk_un, nI_add, pk_mul, pk_sub, nI_leI, nI_ltI, nI_eq, if_pos, if_neg, nn_neg, nn_ne, nn_ne2, nn_lt, nn_nlt, nn_nle, nn_le, nn_m1, li_0, li_1, li_2, li_3, li_4, li_5, li_9, li_10, li_19, li_20, li_26, li_40, li_60, li_64, li_97, li_48, li_100, li_199, li_200, li_1000, li_8200, li_9999, li_100000])) c6 (fun i x1 x2 => ⟨by simp (disch := omega) only [↓reduceIte, Nat.reduceSub, Nat.reduceAdd, Nat.reduceMul, Nat.sub_zero, Nat.add_zero, Nat.zero_add, Nat.mul_zero, lq_s, br_s, bd_s, bv_s, gd_tt, inB_nI, nI_clamp, sk_s, sk_n, pk_us, pk_un, nI_add, pk_mul, pk_sub, nI_leI, nI_ltI, nI_eq, if_pos, if_neg, nn_neg, nn_ne, nn_ne2, nn_lt, nn_nlt, nn_nle, nn_le, nn_m1, li_0, li_1, li_2, li_3, li_4, li_5, li_9, li_10, li_19, li_20, li_26, li_40, li_60, li_64, li_97, li_48, li_100, li_199, li_200, li_1000, li_8200, li_9999, li_100000]; exact (c7 i x1 x2).1, fun k hk => by simp (disch := omega) only [↓reduceIte, Nat.reduceSub, Nat.reduceAdd, Nat.reduceMul, Nat.sub_zero, Nat.add_zero, Nat.zero_add, Nat.mul_zero, lq_s, br_s, bd_s, bv_s, gd_tt, inB_nI, nI_clamp, sk_s, sk_n, pk_us, pk_un, nI_add, pk_mul, pk_sub, nI_leI, nI_ltI, nI_eq, if_pos, if_neg, nn_neg, nn_ne, nn_ne2, nn_lt, nn_nlt, nn_nle, nn_le, nn_m1, li_0, li_1, li_2, li_3, li_4, li_5, li_9, li_10, li_19, li_20, li_26, li_40, li_60, li_64, li_97, li_48, li_100, li_199, li_200, li_1000, li_8200, li_9999, li_100000]; exact (c7 i x1 x2).2 k hk⟩) (by omega) (by rw [c8 0 (by omega), va_up_ne kc _ (by omega)]; exact hk0) (by omega) (by simp (disch := omega) only [↓reduceIte, Nat.reduceSub, Nat.reduceAdd, Nat.reduceMul, Nat.sub_zero, Nat.add_zero, Nat.zero_add, Nat.mul_zero, lq_s, br_s, bd_s, bv_s, gd_tt, inB_nI, nI_clamp, sk_s, sk_n, pk_us, pk_un, nI_add, pk_mul, pk_sub, nI_leI, nI_ltI, nI_eq, if_pos, if_neg, nn_neg, nn_ne, nn_ne2, nn_lt, nn_nlt, nn_nle, nn_le, nn_m1, li_0, li_1, li_2, li_3, li_4, li_5, li_9, li_10, li_19, li_20, li_26, li_40, li_60, li_64, li_97, li_48, li_100, li_199, li_200, li_1000, li_8200, li_9999, li_100000]; rw [c12 34 (by decide) (by decide) (by decide) (by decide)]; exact e34) (by rw [c13 29 (by decide) (by decide) (by decide) (by decide) (by decide), b3 29 (by omega)]; exact h29) (fun i x1 x2 => by
      obtain ⟨y1, y2, y3⟩ := hrow i (by omega) x2
      have hij : i ≠ j := by omega
      refine ⟨y1, ?_, ?_⟩
      · simp (disch := omega) only [↓reduceIte, Nat.reduceSub, Nat.reduceAdd, Nat.reduceMul, Nat.sub_zero, Nat.add_zero, Nat.zero_add, Nat.mul_zero, lq_s, br_s, bd_s, bv_s, gd_tt, inB_nI, nI_clamp, sk_s, sk_n, pk_us, pk_un, nI_add, pk_mul, pk_sub, nI_leI, nI_ltI, nI_eq, if_pos, if_neg, nn_neg, nn_ne, nn_ne2, nn_lt, nn_nlt, nn_nle, nn_le, nn_m1, li_0, li_1, li_2, li_3, li_4, li_5, li_9, li_10, li_19, li_20, li_26, li_40, li_60, li_64, li_97, li_48, li_100, li_199, li_200, li_1000, li_8200, li_9999, li_100000]
        rw [c12 19 (by decide) (by decide) (by decide) (by decide), a4 19 (by decide) (by decide) (by decide) (by decide)]
        exact y2
      · rw [c9 i hij, b3 21 (by omega)]
        exact y3) (fun i hi => by
      by_cases hij : i = j
      · subst hij
        refine ⟨?_, ?_⟩
        · simp (disch := omega) only [↓reduceIte, Nat.reduceSub, Nat.reduceAdd, Nat.reduceMul, Nat.sub_zero, Nat.add_zero, Nat.zero_add, Nat.mul_zero, lq_s, br_s, bd_s, bv_s, gd_tt, inB_nI, nI_clamp, sk_s, sk_n, pk_us, pk_un, nI_add, pk_mul, pk_sub, nI_leI, nI_ltI, nI_eq, if_pos, if_neg, nn_neg, nn_ne, nn_ne2, nn_lt, nn_nlt, nn_nle, nn_le, nn_m1, li_0, li_1, li_2, li_3, li_4, li_5, li_9, li_10, li_19, li_20, li_26, li_40, li_60, li_64, li_97, li_48, li_100, li_199, li_200, li_1000, li_8200, li_9999, li_100000]; rw [hn]
        · rw [c10, hn]
      · obtain ⟨y1, y2⟩ := hnew i (by omega)
        refine ⟨?_, ?_⟩
        · simp (disch := omega) only [↓reduceIte, Nat.reduceSub, Nat.reduceAdd, Nat.reduceMul, Nat.sub_zero, Nat.add_zero, Nat.zero_add, Nat.mul_zero, lq_s, br_s, bd_s, bv_s, gd_tt, inB_nI, nI_clamp, sk_s, sk_n, pk_us, pk_un, nI_add, pk_mul, pk_sub, nI_leI, nI_ltI, nI_eq, if_pos, if_neg, nn_neg, nn_ne, nn_ne2, nn_lt, nn_nlt, nn_nle, nn_le, nn_m1, li_0, li_1, li_2, li_3, li_4, li_5, li_9, li_10, li_19, li_20, li_26, li_40, li_60, li_64, li_97, li_48, li_100, li_199, li_200, li_1000, li_8200, li_9999, li_100000]
          rw [c12 19 (by decide) (by decide) (by decide) (by decide), a4 19 (by decide) (by decide) (by decide) (by decide)]
          exact y1
        · rw [c9 i hij, b3 21 (by omega)]
          exact y2) (fun h => ⟨by omega, c3 (by omega)⟩) (fun h => by omega)
    refine ⟨pg3, kc3, kd3, pa3, ct3, ow3, (to - 4 * j) + b, σ3, ρ3, ?_, ?_, ?_, ?_, ?_, ?_, f7, f8, by omega, ?_, fun k x1 x2 x3 x4 => ?_, fun k x1 x2 x3 => ?_⟩
    · rw [kL_Bal_raiseRow_4, show (-1 : Int32) = nM 1 from rfl]
      simp (disch := omega) only [↓reduceIte, Nat.reduceSub, Nat.reduceAdd, Nat.reduceMul, Nat.sub_zero, Nat.add_zero, Nat.zero_add, Nat.mul_zero, lq_s, br_s, bd_s, bv_s, gd_tt, inB_nI, nI_clamp, sk_s, sk_n, pk_us, pk_un, nI_add, pk_mul, pk_sub, nI_leI, nI_ltI, nI_eq, if_pos, if_neg, nn_neg, nn_ne, nn_ne2, nn_lt, nn_nlt, nn_nle, nn_le, nn_m1, li_0, li_1, li_2, li_3, li_4, li_5, li_9, li_10, li_19, li_20, li_26, li_40, li_60, li_64, li_97, li_48, li_100, li_199, li_200, li_1000, li_8200, li_9999, li_100000, h34, a1, e34, hmin, hhang]
      rw [show 4 * j + 4 = 4 * (j + 1) by omega]
      exact f1
    · rw [rL_Md_balance_125, show (-1 : Int32) = nM 1 from rfl]
      have hz : 4 * j - 4 * j / 4 * 4 = 0 := by omega
      simp (disch := omega) only [↓reduceIte, Nat.reduceSub, Nat.reduceAdd, Nat.reduceMul, Nat.sub_zero, Nat.add_zero, Nat.zero_add, Nat.mul_zero, lq_s, br_s, bd_s, bv_s, gd_tt, inB_nI, nI_clamp, sk_s, sk_n, pk_us, pk_un, nI_add, pk_mul, pk_sub, nI_leI, nI_ltI, nI_eq, if_pos, if_neg, nn_neg, nn_ne, nn_ne2, nn_lt, nn_nlt, nn_nle, nn_le, nn_m1, li_0, li_1, li_2, li_3, li_4, li_5, li_9, li_10, li_19, li_20, li_26, li_40, li_60, li_64, li_97, li_48, li_100, li_199, li_200, li_1000, li_8200, li_9999, li_100000, h29, pk_div, hz, b1]
      rw [c2]
      exact f2
    · rw [show n + (c + 1) = n + 1 + c by omega]; exact f3
    · rw [show n + (c + 1) = n + 1 + c by omega]; exact f4
    · rw [show n + (c + 1) = n + 1 + c by omega]; exact f5
    · rw [show n + (c + 1) = n + 1 + c by omega]; exact f6
    · rw [f10]
      simp (disch := omega) only [↓reduceIte, Nat.reduceSub, Nat.reduceAdd, Nat.reduceMul, Nat.sub_zero, Nat.add_zero, Nat.zero_add, Nat.mul_zero, lq_s, br_s, bd_s, bv_s, gd_tt, inB_nI, nI_clamp, sk_s, sk_n, pk_us, pk_un, nI_add, pk_mul, pk_sub, nI_leI, nI_ltI, nI_eq, if_pos, if_neg, nn_neg, nn_ne, nn_ne2, nn_lt, nn_nlt, nn_nle, nn_le, nn_m1, li_0, li_1, li_2, li_3, li_4, li_5, li_9, li_10, li_19, li_20, li_26, li_40, li_60, li_64, li_97, li_48, li_100, li_199, li_200, li_1000, li_8200, li_9999, li_100000]
      rw [c11, a4 27 (by decide) (by decide) (by decide) (by decide), Int32.add_assoc, nI_add, show to - 4 * j - 1 + 1 + b = to - 4 * j + b by omega]
    · rw [f11 k x1 x2 x3 x4]
      simp (disch := omega) only [↓reduceIte, Nat.reduceSub, Nat.reduceAdd, Nat.reduceMul, Nat.sub_zero, Nat.add_zero, Nat.zero_add, Nat.mul_zero, lq_s, br_s, bd_s, bv_s, gd_tt, inB_nI, nI_clamp, sk_s, sk_n, pk_us, pk_un, nI_add, pk_mul, pk_sub, nI_leI, nI_ltI, nI_eq, if_pos, if_neg, nn_neg, nn_ne, nn_ne2, nn_lt, nn_nlt, nn_nle, nn_le, nn_m1, li_0, li_1, li_2, li_3, li_4, li_5, li_9, li_10, li_19, li_20, li_26, li_40, li_60, li_64, li_97, li_48, li_100, li_199, li_200, li_1000, li_8200, li_9999, li_100000]
      rw [c12 k (by omega) (by omega) (by omega) x4, a4 k (by omega) (by omega) (by omega) x3]
    · rw [f12 k x1 x2 x3, c13 k (by omega) (by omega) (by omega) (by omega) x2, b3 k (by omega)]
/-- how many nodes the levels over so many kids take -/
def nf : Nat → Nat → Nat
  | 0, _ => 0
  | k + 1, len => if len ≤ 4 then 0 else (len + 3) / 4 + nf k ((len + 3) / 4)
theorem nf_le : ∀ (k len : Nat), nf k len ≤ len := by
  intro k
  induction k with
  | zero => intro len; exact Nat.zero_le _
  | succ k ih =>
    intro len
    rw [nf]
    by_cases h : len ≤ 4
    · rw [if_pos h]; omega
    · rw [if_neg h]
      have := ih ((len + 3) / 4)
      omega
theorem p_needed {σ ρ : St} : ∀ (k len acc level fk fr : Nat), len ≤ k + 4 → len ≤ 200 → acc + len ≤ 1000 → level + k ≤ 199 → k < fk → k < fr → kL_Bal_nodesFor_6 σ fk (nI acc) (nI len) (nI level) = some (nI (acc + nf k len)) ∧ rL_Md_needed_4 ρ fr (nI acc) (nI len) = some (nI (acc + nf k len)) := by
  intro k
  induction k with
  | zero =>
    intro len acc level fk fr h1 h2 h3 h4 h5 h6
    obtain ⟨q, rfl⟩ : ∃ q, fk = q + 1 := ⟨fk - 1, by omega⟩
    obtain ⟨q2, rfl⟩ : ∃ q, fr = q + 1 := ⟨fr - 1, by omega⟩
    rw [kL_Bal_nodesFor_6, rL_Md_needed_4, nf]
    refine ⟨by simp (disch := omega) only [↓reduceIte, Nat.reduceSub, Nat.reduceAdd, Nat.reduceMul, Nat.sub_zero, Nat.add_zero, Nat.zero_add, Nat.mul_zero, lq_s, br_s, bd_s, bv_s, gd_tt, inB_nI, nI_clamp, sk_s, sk_n, pk_us, pk_un, nI_add, pk_mul, pk_sub, nI_leI, nI_ltI, nI_eq, if_pos, if_neg, nn_neg, nn_ne, nn_ne2, nn_lt, nn_nlt, nn_nle, nn_le, nn_m1, li_0, li_1, li_2, li_3, li_4, li_5, li_9, li_10, li_19, li_20, li_26, li_40, li_60, li_64, li_97, li_48, li_100, li_199, li_200, li_1000, li_8200, li_9999, li_100000], by simp (disch := omega) only [↓reduceIte, Nat.reduceSub, Nat.reduceAdd, Nat.reduceMul, Nat.sub_zero, Nat.add_zero, Nat.zero_add, Nat.mul_zero, lq_s, br_s, bd_s, bv_s, gd_tt, inB_nI, nI_clamp, sk_s, sk_n, pk_us, pk_un, nI_add, pk_mul, pk_sub, nI_leI, nI_ltI, nI_eq, if_pos, if_neg, nn_neg, nn_ne, nn_ne2, nn_lt, nn_nlt, nn_nle, nn_le, nn_m1, li_0, li_1, li_2, li_3, li_4, li_5, li_9, li_10, li_19, li_20, li_26, li_40, li_60, li_64, li_97, li_48, li_100, li_199, li_200, li_1000, li_8200, li_9999, li_100000]⟩
  | succ k ih =>
    intro len acc level fk fr h1 h2 h3 h4 h5 h6
    obtain ⟨q, rfl⟩ : ∃ q, fk = q + 1 := ⟨fk - 1, by omega⟩
    obtain ⟨q2, rfl⟩ : ∃ q, fr = q + 1 := ⟨fr - 1, by omega⟩
    rw [kL_Bal_nodesFor_6, rL_Md_needed_4, nf]
    by_cases h : len ≤ 4
    · rw [if_pos h]
      refine ⟨by simp (disch := omega) only [↓reduceIte, Nat.reduceSub, Nat.reduceAdd, Nat.reduceMul, Nat.sub_zero, Nat.add_zero, Nat.zero_add, Nat.mul_zero, lq_s, br_s, bd_s, bv_s, gd_tt, inB_nI, nI_clamp, sk_s, sk_n, pk_us, pk_un, nI_add, pk_mul, pk_sub, nI_leI, nI_ltI, nI_eq, if_pos, if_neg, nn_neg, nn_ne, nn_ne2, nn_lt, nn_nlt, nn_nle, nn_le, nn_m1, li_0, li_1, li_2, li_3, li_4, li_5, li_9, li_10, li_19, li_20, li_26, li_40, li_60, li_64, li_97, li_48, li_100, li_199, li_200, li_1000, li_8200, li_9999, li_100000], by simp (disch := omega) only [↓reduceIte, Nat.reduceSub, Nat.reduceAdd, Nat.reduceMul, Nat.sub_zero, Nat.add_zero, Nat.zero_add, Nat.mul_zero, lq_s, br_s, bd_s, bv_s, gd_tt, inB_nI, nI_clamp, sk_s, sk_n, pk_us, pk_un, nI_add, pk_mul, pk_sub, nI_leI, nI_ltI, nI_eq, if_pos, if_neg, nn_neg, nn_ne, nn_ne2, nn_lt, nn_nlt, nn_nle, nn_le, nn_m1, li_0, li_1, li_2, li_3, li_4, li_5, li_9, li_10, li_19, li_20, li_26, li_40, li_60, li_64, li_97, li_48, li_100, li_199, li_200, li_1000, li_8200, li_9999, li_100000]⟩
    · rw [if_neg h]
      obtain ⟨i1, i2⟩ := ih ((len + 3) / 4) (acc + (len + 3) / 4) (level + 1) q q2 (by omega) (by omega) (by omega) (by omega) (by omega) (by omega)
      rw [← Nat.add_assoc]
      have hs : len + 4 - 1 = len + 3 := by omega
      refine ⟨?_, ?_⟩
      · simp (disch := omega) only [↓reduceIte, Nat.reduceSub, Nat.reduceAdd, Nat.reduceMul, Nat.sub_zero, Nat.add_zero, Nat.zero_add, Nat.mul_zero, lq_s, br_s, bd_s, bv_s, gd_tt, inB_nI, nI_clamp, sk_s, sk_n, pk_us, pk_un, nI_add, pk_mul, pk_sub, nI_leI, nI_ltI, nI_eq, if_pos, if_neg, nn_neg, nn_ne, nn_ne2, nn_lt, nn_nlt, nn_nle, nn_le, nn_m1, li_0, li_1, li_2, li_3, li_4, li_5, li_9, li_10, li_19, li_20, li_26, li_40, li_60, li_64, li_97, li_48, li_100, li_199, li_200, li_1000, li_8200, li_9999, li_100000, pk_div, hs]
        exact i1
      · simp (disch := omega) only [↓reduceIte, Nat.reduceSub, Nat.reduceAdd, Nat.reduceMul, Nat.sub_zero, Nat.add_zero, Nat.zero_add, Nat.mul_zero, lq_s, br_s, bd_s, bv_s, gd_tt, inB_nI, nI_clamp, sk_s, sk_n, pk_us, pk_un, nI_add, pk_mul, pk_sub, nI_leI, nI_ltI, nI_eq, if_pos, if_neg, nn_neg, nn_ne, nn_ne2, nn_lt, nn_nlt, nn_nle, nn_le, nn_m1, li_0, li_1, li_2, li_3, li_4, li_5, li_9, li_10, li_19, li_20, li_26, li_40, li_60, li_64, li_97, li_48, li_100, li_199, li_200, li_1000, li_8200, li_9999, li_100000, pk_div]
        exact i2
