/-! balance: hanging kids -/
theorem va_over {α : Type} {f : Nat → α} {n : Nat} {a b : α} : va_up (va_up f n a) n b = va_up f n b := by
  funext i
  by_cases h : i = n
  · subst h; rw [va_up_self, va_up_self]
  · rw [va_up_ne _ _ h, va_up_ne _ _ h, va_up_ne _ _ h]
/-- how much a kid counts -/
def cK (pg : Nat → Nat) (ct : Nat → Int32) (y : Nat) : Int32 := if pg y = 0 then ct y else nI 1
set_option maxHeartbeats 1000000 in
theorem p_hang1 {n N y i to : Nat} {pg kc : Nat → Nat} {kd : Nat → Nat → Nat} {pa ct : Nat → Int32} {ow : Nat → Nat → Int32} {bel : Int32} {σ ρ : St} (hW : WF n pg kc kd pa) (hI : IV n pg kc kd pa ct ow σ 26) (hJ : IV n pg kc kd pa (va_up ct N bel) ow ρ 22) (hFr : FR n σ) (hN : N < n) (hpN : pg N = 0) (h40 : kc N < 40) (hy : y < n) (hyN : y ≠ N) (h19 : σ 19 i = nI y) (hi : i < 200) (hto : i < to) (hto2 : to ≤ 200) : ∃ σ' ρ', (∀ g, kL_Bal_hang_6 (g + 1) σ (nI N) (nI to) bel (nI i) = kL_Bal_hang_6 g σ' (nI N) (nI to) (bel + cK pg ct y) (nI (i + 1))) ∧ rM_Md_hang ρ (nI N) (nI y) = some ρ' ∧ WF n pg (va_up kc N (kc N + 1)) (insKd kd N (kc N) y) (va_up pa y (nI N)) ∧ IV n pg (va_up kc N (kc N + 1)) (insKd kd N (kc N) y) (va_up pa y (nI N)) ct ow σ' 26 ∧ IV n pg (va_up kc N (kc N + 1)) (insKd kd N (kc N) y) (va_up pa y (nI N)) (va_up ct N (bel + cK pg ct y)) ow ρ' 22 ∧ FR n σ' ∧ σ' 27 0 = σ 27 0 + nI 1 ∧ (∀ k, k ≠ 1 → k ≠ 3 → k ≠ 4 → k ≠ 27 → σ' k = σ k) ∧ ∀ k, k ≠ 1 → k ≠ 2 → k ≠ 3 → k ≠ 4 → ρ' k = ρ k := by
  have hn := hW.1
  have e3 := k_kidCountOf_y hI.1 hn hN (hI.2.2.2.2.1 N hN)
  obtain ⟨σ1, a1, a2, a3, a4, a5⟩ := k_insert (it := y) (s := kc N) hI hW hN hpN (Nat.le_refl _) h40
  have hW1 := (hW.ins (x := N) (sl := kc N) (it := y) hN (Nat.le_refl _) h40 hy hpN).par (i := y) (q := nI N) (Or.inr ⟨N, hN, rfl⟩)
  have b1 := k_setParent (q := nI N) a2.1 hn hy
  have b2 := a2.par (i := y) (q := nI N) (by decide)
  obtain ⟨ρ1, c1, c2, c3⟩ := r_append (it := y) hJ hW hN h40
  have c4 := c2.par (i := y) (q := nI N) (by decide)
  have hpy := hW.2.1 y hy
  have d0 := b2.2.1 y hy
  have d2 := b2.2.2.2.1 y hy
  have r0 := c4.2.1 y hy
  have r2 := c4.2.2.2.1 y hy
  rw [va_up_ne ct _ hyN] at r2
  have r2N := c4.2.2.2.1 N hN
  rw [va_up_self] at r2N
  have e5 := k_isPage_y b2.1 hn hy d0 hpy
  have e6 := k_isKnown_y b2.1 hn hy
  have c5 := c4.cnt (i := N) (q := bel + cK pg ct y) (by decide)
  rw [va_over] at c5
  refine ⟨sk σ1 1 (upd (σ1 1) y (nI N)), sk (sk ρ1 1 (upd (ρ1 1) y (nI N))) 2 (upd ((sk ρ1 1 (upd (ρ1 1) y (nI N))) 2) N (bel + cK pg ct y)), fun g => ?_, ?_, hW1, b2, c5, fun i' h1 h2 => ⟨?_, fun k hk => ?_⟩, ?_, fun k h1 h3 h4 h27 => ?_, fun k h1 h2 h3 h4 => ?_⟩
  · rw [kL_Bal_hang_6]
    unfold kM_Items_appendKid kM_Items_countOf kJ_Bal_hang_68 cK
    rcases (show pg y = 0 ∨ pg y = 1 by omega) with hp | hp
    · rw [hp] at e5
      simp (disch := omega) only [↓reduceIte, Nat.reduceSub, Nat.reduceAdd, Nat.reduceMul, Nat.sub_zero, Nat.add_zero, Nat.zero_add, Nat.mul_zero, lq_s, br_s, bd_s, bv_s, gd_tt, inB_nI, nI_clamp, sk_s, sk_n, pk_us, pk_un, nI_add, pk_mul, pk_sub, nI_leI, nI_ltI, nI_eq, if_pos, if_neg, nn_neg, nn_ne, nn_ne2, nn_lt, nn_nlt, nn_nle, nn_le, nn_m1, li_0, li_1, li_2, li_3, li_4, li_5, li_9, li_10, li_19, li_20, li_26, li_40, li_60, li_64, li_97, li_48, li_100, li_199, li_200, li_1000, li_8200, li_9999, li_100000] at d2
      simp (disch := omega) only [↓reduceIte, Nat.reduceSub, Nat.reduceAdd, Nat.reduceMul, Nat.sub_zero, Nat.add_zero, Nat.zero_add, Nat.mul_zero, lq_s, br_s, bd_s, bv_s, gd_tt, inB_nI, nI_clamp, sk_s, sk_n, pk_us, pk_un, nI_add, pk_mul, pk_sub, nI_leI, nI_ltI, nI_eq, if_pos, if_neg, nn_neg, nn_ne, nn_ne2, nn_lt, nn_nlt, nn_nle, nn_le, nn_m1, li_0, li_1, li_2, li_3, li_4, li_5, li_9, li_10, li_19, li_20, li_26, li_40, li_60, li_64, li_97, li_48, li_100, li_199, li_200, li_1000, li_8200, li_9999, li_100000, h19, e3, a1, b1, e5, e6, d2, hp]
    · rw [hp] at e5
      simp (disch := omega) only [↓reduceIte, Nat.reduceSub, Nat.reduceAdd, Nat.reduceMul, Nat.sub_zero, Nat.add_zero, Nat.zero_add, Nat.mul_zero, lq_s, br_s, bd_s, bv_s, gd_tt, inB_nI, nI_clamp, sk_s, sk_n, pk_us, pk_un, nI_add, pk_mul, pk_sub, nI_leI, nI_ltI, nI_eq, if_pos, if_neg, nn_neg, nn_ne, nn_ne2, nn_lt, nn_nlt, nn_nle, nn_le, nn_m1, li_0, li_1, li_2, li_3, li_4, li_5, li_9, li_10, li_19, li_20, li_26, li_40, li_60, li_64, li_97, li_48, li_100, li_199, li_200, li_1000, li_8200, li_9999, li_100000, h19, e3, a1, b1, e5, hp]
  · unfold rM_Md_hang rJ_Md_hang_39 cK
    rcases (show pg y = 0 ∨ pg y = 1 by omega) with hp | hp
    · rw [hp] at r0
      rw [c1, bv_s]
      simp (disch := omega) only [↓reduceIte, Nat.reduceSub, Nat.reduceAdd, Nat.reduceMul, Nat.sub_zero, Nat.add_zero, Nat.zero_add, Nat.mul_zero, lq_s, br_s, bd_s, bv_s, gd_tt, inB_nI, nI_clamp, sk_s, sk_n, pk_us, pk_un, nI_add, pk_mul, pk_sub, nI_leI, nI_ltI, nI_eq, if_pos, if_neg, nn_neg, nn_ne, nn_ne2, nn_lt, nn_nlt, nn_nle, nn_le, nn_m1, li_0, li_1, li_2, li_3, li_4, li_5, li_9, li_10, li_19, li_20, li_26, li_40, li_60, li_64, li_97, li_48, li_100, li_199, li_200, li_1000, li_8200, li_9999, li_100000] at r0
      simp (disch := omega) only [↓reduceIte, Nat.reduceSub, Nat.reduceAdd, Nat.reduceMul, Nat.sub_zero, Nat.add_zero, Nat.zero_add, Nat.mul_zero, lq_s, br_s, bd_s, bv_s, gd_tt, inB_nI, nI_clamp, sk_s, sk_n, pk_us, pk_un, nI_add, pk_mul, pk_sub, nI_leI, nI_ltI, nI_eq, if_pos, if_neg, nn_neg, nn_ne, nn_ne2, nn_lt, nn_nlt, nn_nle, nn_le, nn_m1, li_0, li_1, li_2, li_3, li_4, li_5, li_9, li_10, li_19, li_20, li_26, li_40, li_60, li_64, li_97, li_48, li_100, li_199, li_200, li_1000, li_8200, li_9999, li_100000] at r2
      simp (disch := omega) only [↓reduceIte, Nat.reduceSub, Nat.reduceAdd, Nat.reduceMul, Nat.sub_zero, Nat.add_zero, Nat.zero_add, Nat.mul_zero, lq_s, br_s, bd_s, bv_s, gd_tt, inB_nI, nI_clamp, sk_s, sk_n, pk_us, pk_un, nI_add, pk_mul, pk_sub, nI_leI, nI_ltI, nI_eq, if_pos, if_neg, nn_neg, nn_ne, nn_ne2, nn_lt, nn_nlt, nn_nle, nn_le, nn_m1, li_0, li_1, li_2, li_3, li_4, li_5, li_9, li_10, li_19, li_20, li_26, li_40, li_60, li_64, li_97, li_48, li_100, li_199, li_200, li_1000, li_8200, li_9999, li_100000] at r2N
      simp (disch := omega) only [↓reduceIte, Nat.reduceSub, Nat.reduceAdd, Nat.reduceMul, Nat.sub_zero, Nat.add_zero, Nat.zero_add, Nat.mul_zero, lq_s, br_s, bd_s, bv_s, gd_tt, inB_nI, nI_clamp, sk_s, sk_n, pk_us, pk_un, nI_add, pk_mul, pk_sub, nI_leI, nI_ltI, nI_eq, if_pos, if_neg, nn_neg, nn_ne, nn_ne2, nn_lt, nn_nlt, nn_nle, nn_le, nn_m1, li_0, li_1, li_2, li_3, li_4, li_5, li_9, li_10, li_19, li_20, li_26, li_40, li_60, li_64, li_97, li_48, li_100, li_199, li_200, li_1000, li_8200, li_9999, li_100000, r0, r2, r2N, hp]
    · rw [hp] at r0
      rw [c1, bv_s]
      simp (disch := omega) only [↓reduceIte, Nat.reduceSub, Nat.reduceAdd, Nat.reduceMul, Nat.sub_zero, Nat.add_zero, Nat.zero_add, Nat.mul_zero, lq_s, br_s, bd_s, bv_s, gd_tt, inB_nI, nI_clamp, sk_s, sk_n, pk_us, pk_un, nI_add, pk_mul, pk_sub, nI_leI, nI_ltI, nI_eq, if_pos, if_neg, nn_neg, nn_ne, nn_ne2, nn_lt, nn_nlt, nn_nle, nn_le, nn_m1, li_0, li_1, li_2, li_3, li_4, li_5, li_9, li_10, li_19, li_20, li_26, li_40, li_60, li_64, li_97, li_48, li_100, li_199, li_200, li_1000, li_8200, li_9999, li_100000] at r0
      simp (disch := omega) only [↓reduceIte, Nat.reduceSub, Nat.reduceAdd, Nat.reduceMul, Nat.sub_zero, Nat.add_zero, Nat.zero_add, Nat.mul_zero, lq_s, br_s, bd_s, bv_s, gd_tt, inB_nI, nI_clamp, sk_s, sk_n, pk_us, pk_un, nI_add, pk_mul, pk_sub, nI_leI, nI_ltI, nI_eq, if_pos, if_neg, nn_neg, nn_ne, nn_ne2, nn_lt, nn_nlt, nn_nle, nn_le, nn_m1, li_0, li_1, li_2, li_3, li_4, li_5, li_9, li_10, li_19, li_20, li_26, li_40, li_60, li_64, li_97, li_48, li_100, li_199, li_200, li_1000, li_8200, li_9999, li_100000] at r2N
      simp (disch := omega) only [↓reduceIte, Nat.reduceSub, Nat.reduceAdd, Nat.reduceMul, Nat.sub_zero, Nat.add_zero, Nat.zero_add, Nat.mul_zero, lq_s, br_s, bd_s, bv_s, gd_tt, inB_nI, nI_clamp, sk_s, sk_n, pk_us, pk_un, nI_add, pk_mul, pk_sub, nI_leI, nI_ltI, nI_eq, if_pos, if_neg, nn_neg, nn_ne, nn_ne2, nn_lt, nn_nlt, nn_nle, nn_le, nn_m1, li_0, li_1, li_2, li_3, li_4, li_5, li_9, li_10, li_19, li_20, li_26, li_40, li_60, li_64, li_97, li_48, li_100, li_199, li_200, li_1000, li_8200, li_9999, li_100000, r0, r2N, hp]
  · simp (disch := omega) only [↓reduceIte, Nat.reduceSub, Nat.reduceAdd, Nat.reduceMul, Nat.sub_zero, Nat.add_zero, Nat.zero_add, Nat.mul_zero, lq_s, br_s, bd_s, bv_s, gd_tt, inB_nI, nI_clamp, sk_s, sk_n, pk_us, pk_un, nI_add, pk_mul, pk_sub, nI_leI, nI_ltI, nI_eq, if_pos, if_neg, nn_neg, nn_ne, nn_ne2, nn_lt, nn_nlt, nn_nle, nn_le, nn_m1, li_0, li_1, li_2, li_3, li_4, li_5, li_9, li_10, li_19, li_20, li_26, li_40, li_60, li_64, li_97, li_48, li_100, li_199, li_200, li_1000, li_8200, li_9999, li_100000]
    rw [a4, pk_un (by omega)]
    exact (hFr i' h1 h2).1
  · simp (disch := omega) only [↓reduceIte, Nat.reduceSub, Nat.reduceAdd, Nat.reduceMul, Nat.sub_zero, Nat.add_zero, Nat.zero_add, Nat.mul_zero, lq_s, br_s, bd_s, bv_s, gd_tt, inB_nI, nI_clamp, sk_s, sk_n, pk_us, pk_un, nI_add, pk_mul, pk_sub, nI_leI, nI_ltI, nI_eq, if_pos, if_neg, nn_neg, nn_ne, nn_ne2, nn_lt, nn_nlt, nn_nle, nn_le, nn_m1, li_0, li_1, li_2, li_3, li_4, li_5, li_9, li_10, li_19, li_20, li_26, li_40, li_60, li_64, li_97, li_48, li_100, li_199, li_200, li_1000, li_8200, li_9999, li_100000]
    rw [a5 5 (by decide) (by decide) (by decide)]
    exact (hFr i' h1 h2).2 k hk
  · simp (disch := omega) only [↓reduceIte, Nat.reduceSub, Nat.reduceAdd, Nat.reduceMul, Nat.sub_zero, Nat.add_zero, Nat.zero_add, Nat.mul_zero, lq_s, br_s, bd_s, bv_s, gd_tt, inB_nI, nI_clamp, sk_s, sk_n, pk_us, pk_un, nI_add, pk_mul, pk_sub, nI_leI, nI_ltI, nI_eq, if_pos, if_neg, nn_neg, nn_ne, nn_ne2, nn_lt, nn_nlt, nn_nle, nn_le, nn_m1, li_0, li_1, li_2, li_3, li_4, li_5, li_9, li_10, li_19, li_20, li_26, li_40, li_60, li_64, li_97, li_48, li_100, li_199, li_200, li_1000, li_8200, li_9999, li_100000]
    exact a3
  · simp (disch := omega) only [↓reduceIte, Nat.reduceSub, Nat.reduceAdd, Nat.reduceMul, Nat.sub_zero, Nat.add_zero, Nat.zero_add, Nat.mul_zero, lq_s, br_s, bd_s, bv_s, gd_tt, inB_nI, nI_clamp, sk_s, sk_n, pk_us, pk_un, nI_add, pk_mul, pk_sub, nI_leI, nI_ltI, nI_eq, if_pos, if_neg, nn_neg, nn_ne, nn_ne2, nn_lt, nn_nlt, nn_nle, nn_le, nn_m1, li_0, li_1, li_2, li_3, li_4, li_5, li_9, li_10, li_19, li_20, li_26, li_40, li_60, li_64, li_97, li_48, li_100, li_199, li_200, li_1000, li_8200, li_9999, li_100000]
    exact a5 k h3 h4 h27
  · simp (disch := omega) only [↓reduceIte, Nat.reduceSub, Nat.reduceAdd, Nat.reduceMul, Nat.sub_zero, Nat.add_zero, Nat.zero_add, Nat.mul_zero, lq_s, br_s, bd_s, bv_s, gd_tt, inB_nI, nI_clamp, sk_s, sk_n, pk_us, pk_un, nI_add, pk_mul, pk_sub, nI_leI, nI_ltI, nI_eq, if_pos, if_neg, nn_neg, nn_ne, nn_ne2, nn_lt, nn_nlt, nn_nle, nn_le, nn_m1, li_0, li_1, li_2, li_3, li_4, li_5, li_9, li_10, li_19, li_20, li_26, li_40, li_60, li_64, li_97, li_48, li_100, li_199, li_200, li_1000, li_8200, li_9999, li_100000]
    exact c3 k h3 h4
