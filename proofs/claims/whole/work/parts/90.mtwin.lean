set_option maxHeartbeats 1000000 in
/-- a kid met again is taken off: a node, or a page where there is no room -/
theorem m_drop {n0 n x s T a st y : Nat} {pg kc : Nat → Nat} {kd : Nat → Nat → Nat} {pa ct : Nat → Int32} {ow : Nat → Nat → Int32} {met : Nat → Nat} {t : List (Nat × Nat)} {σ ρ : St} (h : MM n0 n pg kc kd pa ct ow met ((x, s) :: t) T a σ ρ) (hst : st < 8200) (ha : a ≤ 9000) (hs : s < kc x) (hy : kd x s = y) (hmet : met y = 1) (hp : pg y = 0 ∨ (pg y = 1 ∧ n = 200)) : MX n0 n pg kc kd a (frM kc ((x, s) :: t) + 41 * um met n0) st σ ρ := by
  obtain ⟨w1, w2, w3, w4, w5, ⟨w6, w6'⟩, w7, w8, w9, w10, ⟨w11, w11'⟩, w12, w13, w14⟩ := h
  obtain ⟨q1, q2, q3, q4, q5, q6, q7, q8, q9, q10, P, b, p1, p2, p3, p4⟩ := w7
  have q1 : σ 14 t.length = nI x := q1
  have q2 : σ 15 t.length = nI s := q2
  have q3 : ρ 6 t.length = nI x := q3
  have q4 : ρ 7 t.length = nI s := q4
  have q5 : x < n0 := q5
  have q6 : s ≤ kc x := q6
  have q7 : pg x = 0 := q7
  have q8 : met x = 1 := q8
  have q10 : ∀ g ∈ t, g.1 ≠ x := q10
  have p2 : σ 18 x = nI P := p2
  have w6 : σ 33 0 = nI (t.length + 1) := w6
  have w6' : ρ 23 0 = nI (t.length + 1) := w6'
  have w12 : t.length + 1 + T + um met n0 ≤ n := w12
  have hn := w1.1
  have h40 := w1.2.2.1 x (by omega)
  have k3 := w2.2.2.2.2.1 x (by omega)
  have r3 := w3.2.2.2.2.1 x (by omega)
  have z1 := w2.1
  have z2 := w3.1
  have hyn : y < n0 := by rw [← hy]; exact q9 s (Nat.le_refl _) hs
  have k4 := w2.2.2.2.2.2.1 x s (by omega) hs
  have r4 := w3.2.2.2.2.2.1 x s (by omega) hs
  rw [hy] at k4 r4
  rw [show 40 * x + s = x * 40 + s by omega] at k4
  have k0 := w2.2.1 y (by omega)
  have r0 := w3.2.1 y (by omega)
  obtain ⟨k13, r8, -⟩ := w8 y hyn
  rw [hmet] at k13 r8
  obtain ⟨m1, hm1⟩ : ∃ m1, kc x = m1 + 1 := ⟨kc x - 1, by omega⟩
  obtain ⟨σ1, a1, a2, a3, a4, a5⟩ := k_dropKid (s := s) w2 w1 (show x < n by omega) hm1 (by omega)
  have key : ∃ (σ2 ρ2 : St), kM_Walk_meet_Mender σ (nI x) (nI s) (nI y) = some (nI s, σ2) ∧ rM_Md_mendKid ρ (nI x) (nI s) = some (nI 0, ρ2) ∧ IV n pg (va_up kc x m1) (delKd kd x s) pa ct ow σ2 26 ∧ IV n pg (va_up kc x m1) (delKd kd x s) pa ct ow ρ2 22 ∧ TL (a + 1) σ2 ρ2 ∧ (∀ k, k ≠ 16 → k ≠ 17 → k ≠ 31 → σ2 k = σ1 k) ∧ ∀ k, k ≠ 3 → k ≠ 4 → k ≠ 13 → k ≠ 14 → k ≠ 25 → ρ2 k = ρ k := by
    have hTL : TL a σ1 ρ := w10.keep (a5 31 (by decide) (by decide) (by decide)) (a5 16 (by decide) (by decide) (by decide)) (a5 17 (by decide) (by decide) (by decide)) rfl rfl rfl
    have mk : ∀ kind : Int32, ∃ (σ2 ρ1 ρ2 : St), kM_Mender_tell σ1 kind (nI y) = some σ2 ∧ rM_Md_tell ρ kind (nI y) = some ρ1 ∧ rM_Md_takeOff ρ1 (nI x) (nI s) = some ρ2 ∧ IV n pg (va_up kc x m1) (delKd kd x s) pa ct ow σ2 26 ∧ IV n pg (va_up kc x m1) (delKd kd x s) pa ct ow ρ2 22 ∧ TL (a + 1) σ2 ρ2 ∧ (∀ k, k ≠ 16 → k ≠ 17 → k ≠ 31 → σ2 k = σ1 k) ∧ ∀ k, k ≠ 3 → k ≠ 4 → k ≠ 13 → k ≠ 14 → k ≠ 25 → ρ2 k = ρ k := by
      intro kind
      obtain ⟨σ2, ρ1, b1, b2, b3, b4, b5⟩ := p_tell hTL ha kind (nI y)
      have hJ : IV n pg kc kd pa ct ow ρ1 22 := w3.keep (b5 22 (by decide) (by decide) (by decide)) (fun k hk => b5 k (by omega) (by omega) (by omega))
      obtain ⟨ρ2, c1, c2, c3⟩ := r_dropKid (s := s) hJ w1 (show x < n by omega) hm1 (by omega)
      exact ⟨σ2, ρ1, ρ2, b1, b2, c1, a2.keep (b4 26 (by decide) (by decide) (by decide)) (fun k hk => b4 k (by omega) (by omega) (by omega)), c2, b3.keep rfl rfl rfl (c3 25 (by decide) (by decide)) (c3 13 (by decide) (by decide)) (c3 14 (by decide) (by decide)), b4, fun k h1 h2 h3 h4 h5 => by rw [c3 k h1 h2, b5 k h3 h4 h5]⟩
    have e3 := k_isPage_y z1 hn (show y < n by omega) k0 (w1.2.1 y (by omega))
    rcases hp with hp | ⟨hp, hfull⟩
    · rw [hp] at k0 r0 e3
      have hway := MS.way ((x, s) :: t) T ⟨q1, q2, q3, q4, q5, q6, q7, q8, q9, q10, P, b, p1, p2, p3, p4⟩
      obtain ⟨r, r1, r2, r3'⟩ := p_onWay (d := t.length + 1) (y := y) (σ := σ1) (ρ := ρ) (by omega) (by omega) (by rw [a5 33 (by decide) (by decide) (by decide)]; exact w6) w6' (fun j => (σ 14 j).toNatClampNeg) (fun j hj => by
        obtain ⟨x', x1, x2, x3⟩ := hway j hj
        have hcl : (σ 14 j).toNatClampNeg = x' := by rw [x2]; exact nI_clamp (by omega)
        show (σ 14 j).toNatClampNeg < 200 ∧ σ1 14 j = nI (σ 14 j).toNatClampNeg ∧ ρ 6 j = nI (σ 14 j).toNatClampNeg
        rw [hcl, a5 14 (by decide) (by decide) (by decide)]
        exact ⟨by omega, x2, x3⟩)
      rcases (show r = 0 ∨ r = 1 by omega) with rfl | rfl
      · obtain ⟨σ2, ρ1, ρ2, b1, b2, b3, b4, b5, b6, b7, b8⟩ := mk (nI 2)
        refine ⟨σ2, ρ2, ?_, ?_, b4, b5, b6, b7, b8⟩
        · unfold kM_Walk_meet_Mender kM_Mender_meetNodeAgain kJ_Mender_meetNodeAgain_23 kJ_Walk_meet_Mender_41
          simp (disch := omega) only [↓reduceIte, Nat.reduceSub, Nat.reduceAdd, Nat.reduceMul, Nat.sub_zero, Nat.add_zero, Nat.zero_add, Nat.mul_zero, lq_s, br_s, bd_s, bv_s, gd_tt, inB_nI, nI_clamp, sk_s, sk_n, pk_us, pk_un, nI_add, pk_mul, pk_sub, nI_leI, nI_ltI, nI_eq, if_pos, if_neg, nn_neg, nn_ne, nn_ne2, nn_lt, nn_nlt, nn_nle, nn_le, nn_m1, li_0, li_1, li_2, li_3, li_4, li_5, li_9, li_10, li_19, li_20, li_26, li_40, li_60, li_64, li_97, li_48, li_100, li_199, li_200, li_1000, li_8200, li_9999, li_100000, e3, k13, a1, r2, b1]
        · unfold rM_Md_mendKid rJ_Md_mendKid_35
          simp (disch := omega) only [↓reduceIte, Nat.reduceSub, Nat.reduceAdd, Nat.reduceMul, Nat.sub_zero, Nat.add_zero, Nat.zero_add, Nat.mul_zero, lq_s, br_s, bd_s, bv_s, gd_tt, inB_nI, nI_clamp, sk_s, sk_n, pk_us, pk_un, nI_add, pk_mul, pk_sub, nI_leI, nI_ltI, nI_eq, if_pos, if_neg, nn_neg, nn_ne, nn_ne2, nn_lt, nn_nlt, nn_nle, nn_le, nn_m1, li_0, li_1, li_2, li_3, li_4, li_5, li_9, li_10, li_19, li_20, li_26, li_40, li_60, li_64, li_97, li_48, li_100, li_199, li_200, li_1000, li_8200, li_9999, li_100000, r4, r0, r3', b2, b3]
      · obtain ⟨σ2, ρ1, ρ2, b1, b2, b3, b4, b5, b6, b7, b8⟩ := mk (nI 1)
        refine ⟨σ2, ρ2, ?_, ?_, b4, b5, b6, b7, b8⟩
        · unfold kM_Walk_meet_Mender kM_Mender_meetNodeAgain kJ_Mender_meetNodeAgain_23 kJ_Walk_meet_Mender_41
          simp (disch := omega) only [↓reduceIte, Nat.reduceSub, Nat.reduceAdd, Nat.reduceMul, Nat.sub_zero, Nat.add_zero, Nat.zero_add, Nat.mul_zero, lq_s, br_s, bd_s, bv_s, gd_tt, inB_nI, nI_clamp, sk_s, sk_n, pk_us, pk_un, nI_add, pk_mul, pk_sub, nI_leI, nI_ltI, nI_eq, if_pos, if_neg, nn_neg, nn_ne, nn_ne2, nn_lt, nn_nlt, nn_nle, nn_le, nn_m1, li_0, li_1, li_2, li_3, li_4, li_5, li_9, li_10, li_19, li_20, li_26, li_40, li_60, li_64, li_97, li_48, li_100, li_199, li_200, li_1000, li_8200, li_9999, li_100000, e3, k13, a1, r2, b1]
        · unfold rM_Md_mendKid rJ_Md_mendKid_35
          simp (disch := omega) only [↓reduceIte, Nat.reduceSub, Nat.reduceAdd, Nat.reduceMul, Nat.sub_zero, Nat.add_zero, Nat.zero_add, Nat.mul_zero, lq_s, br_s, bd_s, bv_s, gd_tt, inB_nI, nI_clamp, sk_s, sk_n, pk_us, pk_un, nI_add, pk_mul, pk_sub, nI_leI, nI_ltI, nI_eq, if_pos, if_neg, nn_neg, nn_ne, nn_ne2, nn_lt, nn_nlt, nn_nle, nn_le, nn_m1, li_0, li_1, li_2, li_3, li_4, li_5, li_9, li_10, li_19, li_20, li_26, li_40, li_60, li_64, li_97, li_48, li_100, li_199, li_200, li_1000, li_8200, li_9999, li_100000, r4, r0, r3', b2, b3]
    · rw [hp] at k0 r0 e3
      obtain ⟨σ2, ρ1, ρ2, b1, b2, b3, b4, b5, b6, b7, b8⟩ := mk (nI 5)
      refine ⟨σ2, ρ2, ?_, ?_, b4, b5, b6, b7, b8⟩
      · unfold kM_Walk_meet_Mender kM_Mender_meetPageAgain kJ_Walk_meet_Mender_41 kM_Items_isFull
        simp (disch := omega) only [↓reduceIte, Nat.reduceSub, Nat.reduceAdd, Nat.reduceMul, Nat.sub_zero, Nat.add_zero, Nat.zero_add, Nat.mul_zero, lq_s, br_s, bd_s, bv_s, gd_tt, inB_nI, nI_clamp, sk_s, sk_n, pk_us, pk_un, nI_add, pk_mul, pk_sub, nI_leI, nI_ltI, nI_eq, if_pos, if_neg, nn_neg, nn_ne, nn_ne2, nn_lt, nn_nlt, nn_nle, nn_le, nn_m1, li_0, li_1, li_2, li_3, li_4, li_5, li_9, li_10, li_19, li_20, li_26, li_40, li_60, li_64, li_97, li_48, li_100, li_199, li_200, li_1000, li_8200, li_9999, li_100000, e3, k13, z1, a1, b1]
      · unfold rM_Md_mendKid
        simp (disch := omega) only [↓reduceIte, Nat.reduceSub, Nat.reduceAdd, Nat.reduceMul, Nat.sub_zero, Nat.add_zero, Nat.zero_add, Nat.mul_zero, lq_s, br_s, bd_s, bv_s, gd_tt, inB_nI, nI_clamp, sk_s, sk_n, pk_us, pk_un, nI_add, pk_mul, pk_sub, nI_leI, nI_ltI, nI_eq, if_pos, if_neg, nn_neg, nn_ne, nn_ne2, nn_lt, nn_nlt, nn_nle, nn_le, nn_m1, li_0, li_1, li_2, li_3, li_4, li_5, li_9, li_10, li_19, li_20, li_26, li_40, li_60, li_64, li_97, li_48, li_100, li_199, li_200, li_1000, li_8200, li_9999, li_100000, r4, r0, z2, hfull, b2, b3]
  obtain ⟨σ2, ρ2, y1, y2, y3, y4, y5, y6, y7⟩ := key
  have e1 := k_kidAt_y w2.lv w1.lf (show x < n by omega) hs
  rw [hy] at e1
  have e2 := k_isKnown_y z1 hn (show y < n by omega)
  have hne : ∀ f ∈ t, f.1 ≠ x := q10
  have sf : ∀ k, k ≠ 3 → k ≠ 4 → k ≠ 27 → k ≠ 16 → k ≠ 17 → k ≠ 31 → σ2 k = σ k := fun k h1 h2 h3 h4 h5 h6 => by rw [y6 k h4 h5 h6, a5 k h1 h2 h3]
  have hfr : frM (va_up kc x m1) t = frM kc t := frM_keep t (fun f hf => va_up_ne kc _ (hne f hf))
  refine ⟨n, pg, va_up kc x m1, delKd kd x s, pa, ct, ow, met, (x, s) :: t, T, a + 1, 1, sk σ2 15 (upd (σ2 15) t.length (nI s)), ρ2, fun g => ?_, fun g => ?_, ⟨w1.del (by omega) hm1, ?_, ?_, fun i h1 h2 => ⟨?_, fun k hk => ?_⟩, w5, ⟨?_, ?_⟩, ⟨?_, ?_, ?_, ?_, q5, ?_, q7, q8, fun k h1 h2 => ?_, q10, P, b, p1, ?_, ?_, ?_⟩, fun i hi => ?_, fun x' hx' hm' => ?_, ?_, ⟨?_, ?_⟩, w12, ?_, w14⟩, ?_, by omega, by omega, ?_, fun z => absurd z (by omega), fun k hk => ?_, fun k hk => ?_⟩
  · rw [kL_Walk_walkAll_Mender_51]
    unfold kJ_Walk_walkAll_Mender_144
    simp (disch := omega) only [↓reduceIte, Nat.reduceSub, Nat.reduceAdd, Nat.reduceMul, Nat.sub_zero, Nat.add_zero, Nat.zero_add, Nat.mul_zero, lq_s, br_s, bd_s, bv_s, gd_tt, inB_nI, nI_clamp, sk_s, sk_n, pk_us, pk_un, nI_add, pk_mul, pk_sub, nI_leI, nI_ltI, nI_eq, if_pos, if_neg, nn_neg, nn_ne, nn_ne2, nn_lt, nn_nlt, nn_nle, nn_le, nn_m1, li_0, li_1, li_2, li_3, li_4, li_5, li_9, li_10, li_19, li_20, li_26, li_40, li_60, li_64, li_97, li_48, li_100, li_199, li_200, li_1000, li_8200, li_9999, li_100000, w6, q1, q2, e1, e2, y1, Nat.add_sub_cancel]
  · rw [rL_Md_mend_9]
    simp (disch := omega) only [↓reduceIte, Nat.reduceSub, Nat.reduceAdd, Nat.reduceMul, Nat.sub_zero, Nat.add_zero, Nat.zero_add, Nat.mul_zero, lq_s, br_s, bd_s, bv_s, gd_tt, inB_nI, nI_clamp, sk_s, sk_n, pk_us, pk_un, nI_add, pk_mul, pk_sub, nI_leI, nI_ltI, nI_eq, if_pos, if_neg, nn_neg, nn_ne, nn_ne2, nn_lt, nn_nlt, nn_nle, nn_le, nn_m1, li_0, li_1, li_2, li_3, li_4, li_5, li_9, li_10, li_19, li_20, li_26, li_40, li_60, li_64, li_97, li_48, li_100, li_199, li_200, li_1000, li_8200, li_9999, li_100000, w6', q3, q4, r3, r4, r8, y2, Nat.add_sub_cancel]
  · exact y3.keep (by simp (disch := omega) only [↓reduceIte, Nat.reduceSub, Nat.reduceAdd, Nat.reduceMul, Nat.sub_zero, Nat.add_zero, Nat.zero_add, Nat.mul_zero, lq_s, br_s, bd_s, bv_s, gd_tt, inB_nI, nI_clamp, sk_s, sk_n, pk_us, pk_un, nI_add, pk_mul, pk_sub, nI_leI, nI_ltI, nI_eq, if_pos, if_neg, nn_neg, nn_ne, nn_ne2, nn_lt, nn_nlt, nn_nle, nn_le, nn_m1, li_0, li_1, li_2, li_3, li_4, li_5, li_9, li_10, li_19, li_20, li_26, li_40, li_60, li_64, li_97, li_48, li_100, li_199, li_200, li_1000, li_8200, li_9999, li_100000]) (fun k hk => by simp (disch := omega) only [↓reduceIte, Nat.reduceSub, Nat.reduceAdd, Nat.reduceMul, Nat.sub_zero, Nat.add_zero, Nat.zero_add, Nat.mul_zero, lq_s, br_s, bd_s, bv_s, gd_tt, inB_nI, nI_clamp, sk_s, sk_n, pk_us, pk_un, nI_add, pk_mul, pk_sub, nI_leI, nI_ltI, nI_eq, if_pos, if_neg, nn_neg, nn_ne, nn_ne2, nn_lt, nn_nlt, nn_nle, nn_le, nn_m1, li_0, li_1, li_2, li_3, li_4, li_5, li_9, li_10, li_19, li_20, li_26, li_40, li_60, li_64, li_97, li_48, li_100, li_199, li_200, li_1000, li_8200, li_9999, li_100000])
  · exact y4
  · simp (disch := omega) only [↓reduceIte, Nat.reduceSub, Nat.reduceAdd, Nat.reduceMul, Nat.sub_zero, Nat.add_zero, Nat.zero_add, Nat.mul_zero, lq_s, br_s, bd_s, bv_s, gd_tt, inB_nI, nI_clamp, sk_s, sk_n, pk_us, pk_un, nI_add, pk_mul, pk_sub, nI_leI, nI_ltI, nI_eq, if_pos, if_neg, nn_neg, nn_ne, nn_ne2, nn_lt, nn_nlt, nn_nle, nn_le, nn_m1, li_0, li_1, li_2, li_3, li_4, li_5, li_9, li_10, li_19, li_20, li_26, li_40, li_60, li_64, li_97, li_48, li_100, li_199, li_200, li_1000, li_8200, li_9999, li_100000]
    rw [y6 3 (by decide) (by decide) (by decide), a4, pk_un (by omega)]
    exact (w4 i h1 h2).1
  · simp (disch := omega) only [↓reduceIte, Nat.reduceSub, Nat.reduceAdd, Nat.reduceMul, Nat.sub_zero, Nat.add_zero, Nat.zero_add, Nat.mul_zero, lq_s, br_s, bd_s, bv_s, gd_tt, inB_nI, nI_clamp, sk_s, sk_n, pk_us, pk_un, nI_add, pk_mul, pk_sub, nI_leI, nI_ltI, nI_eq, if_pos, if_neg, nn_neg, nn_ne, nn_ne2, nn_lt, nn_nlt, nn_nle, nn_le, nn_m1, li_0, li_1, li_2, li_3, li_4, li_5, li_9, li_10, li_19, li_20, li_26, li_40, li_60, li_64, li_97, li_48, li_100, li_199, li_200, li_1000, li_8200, li_9999, li_100000]
    rw [sf 5 (by decide) (by decide) (by decide) (by decide) (by decide) (by decide)]
    exact (w4 i h1 h2).2 k hk
  · simp (disch := omega) only [↓reduceIte, Nat.reduceSub, Nat.reduceAdd, Nat.reduceMul, Nat.sub_zero, Nat.add_zero, Nat.zero_add, Nat.mul_zero, lq_s, br_s, bd_s, bv_s, gd_tt, inB_nI, nI_clamp, sk_s, sk_n, pk_us, pk_un, nI_add, pk_mul, pk_sub, nI_leI, nI_ltI, nI_eq, if_pos, if_neg, nn_neg, nn_ne, nn_ne2, nn_lt, nn_nlt, nn_nle, nn_le, nn_m1, li_0, li_1, li_2, li_3, li_4, li_5, li_9, li_10, li_19, li_20, li_26, li_40, li_60, li_64, li_97, li_48, li_100, li_199, li_200, li_1000, li_8200, li_9999, li_100000]
    rw [sf 33 (by decide) (by decide) (by decide) (by decide) (by decide) (by decide)]
    exact w6
  · rw [y7 23 (by decide) (by decide) (by decide) (by decide) (by decide)]
    exact w6'
  · simp (disch := omega) only [↓reduceIte, Nat.reduceSub, Nat.reduceAdd, Nat.reduceMul, Nat.sub_zero, Nat.add_zero, Nat.zero_add, Nat.mul_zero, lq_s, br_s, bd_s, bv_s, gd_tt, inB_nI, nI_clamp, sk_s, sk_n, pk_us, pk_un, nI_add, pk_mul, pk_sub, nI_leI, nI_ltI, nI_eq, if_pos, if_neg, nn_neg, nn_ne, nn_ne2, nn_lt, nn_nlt, nn_nle, nn_le, nn_m1, li_0, li_1, li_2, li_3, li_4, li_5, li_9, li_10, li_19, li_20, li_26, li_40, li_60, li_64, li_97, li_48, li_100, li_199, li_200, li_1000, li_8200, li_9999, li_100000]
    rw [sf 14 (by decide) (by decide) (by decide) (by decide) (by decide) (by decide)]
    exact q1
  · simp (disch := omega) only [↓reduceIte, Nat.reduceSub, Nat.reduceAdd, Nat.reduceMul, Nat.sub_zero, Nat.add_zero, Nat.zero_add, Nat.mul_zero, lq_s, br_s, bd_s, bv_s, gd_tt, inB_nI, nI_clamp, sk_s, sk_n, pk_us, pk_un, nI_add, pk_mul, pk_sub, nI_leI, nI_ltI, nI_eq, if_pos, if_neg, nn_neg, nn_ne, nn_ne2, nn_lt, nn_nlt, nn_nle, nn_le, nn_m1, li_0, li_1, li_2, li_3, li_4, li_5, li_9, li_10, li_19, li_20, li_26, li_40, li_60, li_64, li_97, li_48, li_100, li_199, li_200, li_1000, li_8200, li_9999, li_100000]
  · rw [y7 6 (by decide) (by decide) (by decide) (by decide) (by decide)]
    exact q3
  · rw [y7 7 (by decide) (by decide) (by decide) (by decide) (by decide)]
    exact q4
  · show s ≤ va_up kc x m1 x
    rw [va_up_self]
    omega
  · show delKd kd x s x k < n0
    have h1 : s ≤ k := h1
    have h2 : k < va_up kc x m1 x := h2
    rw [va_up_self] at h2
    unfold delKd
    rw [if_pos rfl, if_neg (by omega)]
    exact q9 (k + 1) (by show s ≤ k + 1; omega) (by show k + 1 < kc x; omega)
  · simp (disch := omega) only [↓reduceIte, Nat.reduceSub, Nat.reduceAdd, Nat.reduceMul, Nat.sub_zero, Nat.add_zero, Nat.zero_add, Nat.mul_zero, lq_s, br_s, bd_s, bv_s, gd_tt, inB_nI, nI_clamp, sk_s, sk_n, pk_us, pk_un, nI_add, pk_mul, pk_sub, nI_leI, nI_ltI, nI_eq, if_pos, if_neg, nn_neg, nn_ne, nn_ne2, nn_lt, nn_nlt, nn_nle, nn_le, nn_m1, li_0, li_1, li_2, li_3, li_4, li_5, li_9, li_10, li_19, li_20, li_26, li_40, li_60, li_64, li_97, li_48, li_100, li_199, li_200, li_1000, li_8200, li_9999, li_100000]
    rw [sf 18 (by decide) (by decide) (by decide) (by decide) (by decide) (by decide)]
    exact p2
  · rw [y7 12 (by decide) (by decide) (by decide) (by decide) (by decide)]
    exact p3
  · refine MS.keep t P p4 (fun f hf => ⟨rfl, va_up_ne kc _ (hne f hf), ?_, rfl, ?_⟩) (fun j hj => ?_)
    · funext k
      unfold delKd
      rw [if_neg (hne f hf)]
    · simp (disch := omega) only [↓reduceIte, Nat.reduceSub, Nat.reduceAdd, Nat.reduceMul, Nat.sub_zero, Nat.add_zero, Nat.zero_add, Nat.mul_zero, lq_s, br_s, bd_s, bv_s, gd_tt, inB_nI, nI_clamp, sk_s, sk_n, pk_us, pk_un, nI_add, pk_mul, pk_sub, nI_leI, nI_ltI, nI_eq, if_pos, if_neg, nn_neg, nn_ne, nn_ne2, nn_lt, nn_nlt, nn_nle, nn_le, nn_m1, li_0, li_1, li_2, li_3, li_4, li_5, li_9, li_10, li_19, li_20, li_26, li_40, li_60, li_64, li_97, li_48, li_100, li_199, li_200, li_1000, li_8200, li_9999, li_100000]
      rw [sf 18 (by decide) (by decide) (by decide) (by decide) (by decide) (by decide)]
    · simp (disch := omega) only [↓reduceIte, Nat.reduceSub, Nat.reduceAdd, Nat.reduceMul, Nat.sub_zero, Nat.add_zero, Nat.zero_add, Nat.mul_zero, lq_s, br_s, bd_s, bv_s, gd_tt, inB_nI, nI_clamp, sk_s, sk_n, pk_us, pk_un, nI_add, pk_mul, pk_sub, nI_leI, nI_ltI, nI_eq, if_pos, if_neg, nn_neg, nn_ne, nn_ne2, nn_lt, nn_nlt, nn_nle, nn_le, nn_m1, li_0, li_1, li_2, li_3, li_4, li_5, li_9, li_10, li_19, li_20, li_26, li_40, li_60, li_64, li_97, li_48, li_100, li_199, li_200, li_1000, li_8200, li_9999, li_100000]
      rw [sf 14 (by decide) (by decide) (by decide) (by decide) (by decide) (by decide), sf 15 (by decide) (by decide) (by decide) (by decide) (by decide) (by decide), y7 6 (by decide) (by decide) (by decide) (by decide) (by decide), y7 7 (by decide) (by decide) (by decide) (by decide) (by decide), y7 12 (by decide) (by decide) (by decide) (by decide) (by decide)]
      exact ⟨rfl, rfl, rfl, rfl, rfl⟩
  · simp (disch := omega) only [↓reduceIte, Nat.reduceSub, Nat.reduceAdd, Nat.reduceMul, Nat.sub_zero, Nat.add_zero, Nat.zero_add, Nat.mul_zero, lq_s, br_s, bd_s, bv_s, gd_tt, inB_nI, nI_clamp, sk_s, sk_n, pk_us, pk_un, nI_add, pk_mul, pk_sub, nI_leI, nI_ltI, nI_eq, if_pos, if_neg, nn_neg, nn_ne, nn_ne2, nn_lt, nn_nlt, nn_nle, nn_le, nn_m1, li_0, li_1, li_2, li_3, li_4, li_5, li_9, li_10, li_19, li_20, li_26, li_40, li_60, li_64, li_97, li_48, li_100, li_199, li_200, li_1000, li_8200, li_9999, li_100000]
    rw [sf 13 (by decide) (by decide) (by decide) (by decide) (by decide) (by decide), y7 8 (by decide) (by decide) (by decide) (by decide) (by decide)]
    exact w8 i hi
  · have hx'x : x' ≠ x := fun z => by rw [z, q8] at hm'; omega
    intro k hk
    rw [va_up_ne kc _ hx'x] at hk
    unfold delKd
    rw [if_neg hx'x]
    exact w9 x' hx' hm' k hk
  · exact y5.keep (by simp (disch := omega) only [↓reduceIte, Nat.reduceSub, Nat.reduceAdd, Nat.reduceMul, Nat.sub_zero, Nat.add_zero, Nat.zero_add, Nat.mul_zero, lq_s, br_s, bd_s, bv_s, gd_tt, inB_nI, nI_clamp, sk_s, sk_n, pk_us, pk_un, nI_add, pk_mul, pk_sub, nI_leI, nI_ltI, nI_eq, if_pos, if_neg, nn_neg, nn_ne, nn_ne2, nn_lt, nn_nlt, nn_nle, nn_le, nn_m1, li_0, li_1, li_2, li_3, li_4, li_5, li_9, li_10, li_19, li_20, li_26, li_40, li_60, li_64, li_97, li_48, li_100, li_199, li_200, li_1000, li_8200, li_9999, li_100000]) (by simp (disch := omega) only [↓reduceIte, Nat.reduceSub, Nat.reduceAdd, Nat.reduceMul, Nat.sub_zero, Nat.add_zero, Nat.zero_add, Nat.mul_zero, lq_s, br_s, bd_s, bv_s, gd_tt, inB_nI, nI_clamp, sk_s, sk_n, pk_us, pk_un, nI_add, pk_mul, pk_sub, nI_leI, nI_ltI, nI_eq, if_pos, if_neg, nn_neg, nn_ne, nn_ne2, nn_lt, nn_nlt, nn_nle, nn_le, nn_m1, li_0, li_1, li_2, li_3, li_4, li_5, li_9, li_10, li_19, li_20, li_26, li_40, li_60, li_64, li_97, li_48, li_100, li_199, li_200, li_1000, li_8200, li_9999, li_100000]) (by simp (disch := omega) only [↓reduceIte, Nat.reduceSub, Nat.reduceAdd, Nat.reduceMul, Nat.sub_zero, Nat.add_zero, Nat.zero_add, Nat.mul_zero, lq_s, br_s, bd_s, bv_s, gd_tt, inB_nI, nI_clamp, sk_s, sk_n, pk_us, pk_un, nI_add, pk_mul, pk_sub, nI_leI, nI_ltI, nI_eq, if_pos, if_neg, nn_neg, nn_ne, nn_ne2, nn_lt, nn_nlt, nn_nle, nn_le, nn_m1, li_0, li_1, li_2, li_3, li_4, li_5, li_9, li_10, li_19, li_20, li_26, li_40, li_60, li_64, li_97, li_48, li_100, li_199, li_200, li_1000, li_8200, li_9999, li_100000]) rfl rfl rfl
  · simp (disch := omega) only [↓reduceIte, Nat.reduceSub, Nat.reduceAdd, Nat.reduceMul, Nat.sub_zero, Nat.add_zero, Nat.zero_add, Nat.mul_zero, lq_s, br_s, bd_s, bv_s, gd_tt, inB_nI, nI_clamp, sk_s, sk_n, pk_us, pk_un, nI_add, pk_mul, pk_sub, nI_leI, nI_ltI, nI_eq, if_pos, if_neg, nn_neg, nn_ne, nn_ne2, nn_lt, nn_nlt, nn_nle, nn_le, nn_m1, li_0, li_1, li_2, li_3, li_4, li_5, li_9, li_10, li_19, li_20, li_26, li_40, li_60, li_64, li_97, li_48, li_100, li_199, li_200, li_1000, li_8200, li_9999, li_100000]
    rw [sf 32 (by decide) (by decide) (by decide) (by decide) (by decide) (by decide)]
    exact w11
  · rw [y7 24 (by decide) (by decide) (by decide) (by decide) (by decide)]
    exact w11'
  · simp (disch := omega) only [↓reduceIte, Nat.reduceSub, Nat.reduceAdd, Nat.reduceMul, Nat.sub_zero, Nat.add_zero, Nat.zero_add, Nat.mul_zero, lq_s, br_s, bd_s, bv_s, gd_tt, inB_nI, nI_clamp, sk_s, sk_n, pk_us, pk_un, nI_add, pk_mul, pk_sub, nI_leI, nI_ltI, nI_eq, if_pos, if_neg, nn_neg, nn_ne, nn_ne2, nn_lt, nn_nlt, nn_nle, nn_le, nn_m1, li_0, li_1, li_2, li_3, li_4, li_5, li_9, li_10, li_19, li_20, li_26, li_40, li_60, li_64, li_97, li_48, li_100, li_199, li_200, li_1000, li_8200, li_9999, li_100000]
    rw [sf 18 (by decide) (by decide) (by decide) (by decide) (by decide) (by decide)]
    exact w13
  · show (va_up kc x m1 x + 1 - s) + frM (va_up kc x m1) t + 41 * um met n0 < (kc x + 1 - s) + frM kc t + 41 * um met n0
    rw [hfr, va_up_self]
    omega
  · simp (disch := omega) only [↓reduceIte, Nat.reduceSub, Nat.reduceAdd, Nat.reduceMul, Nat.sub_zero, Nat.add_zero, Nat.zero_add, Nat.mul_zero, lq_s, br_s, bd_s, bv_s, gd_tt, inB_nI, nI_clamp, sk_s, sk_n, pk_us, pk_un, nI_add, pk_mul, pk_sub, nI_leI, nI_ltI, nI_eq, if_pos, if_neg, nn_neg, nn_ne, nn_ne2, nn_lt, nn_nlt, nn_nle, nn_le, nn_m1, li_0, li_1, li_2, li_3, li_4, li_5, li_9, li_10, li_19, li_20, li_26, li_40, li_60, li_64, li_97, li_48, li_100, li_199, li_200, li_1000, li_8200, li_9999, li_100000]
    rw [y6 27 (by decide) (by decide) (by decide)]
    exact a3
  · unfold KF at hk
    simp (disch := omega) only [↓reduceIte, Nat.reduceSub, Nat.reduceAdd, Nat.reduceMul, Nat.sub_zero, Nat.add_zero, Nat.zero_add, Nat.mul_zero, lq_s, br_s, bd_s, bv_s, gd_tt, inB_nI, nI_clamp, sk_s, sk_n, pk_us, pk_un, nI_add, pk_mul, pk_sub, nI_leI, nI_ltI, nI_eq, if_pos, if_neg, nn_neg, nn_ne, nn_ne2, nn_lt, nn_nlt, nn_nle, nn_le, nn_m1, li_0, li_1, li_2, li_3, li_4, li_5, li_9, li_10, li_19, li_20, li_26, li_40, li_60, li_64, li_97, li_48, li_100, li_199, li_200, li_1000, li_8200, li_9999, li_100000]
    exact sf k (by omega) (by omega) (by omega) (by omega) (by omega) (by omega)
  · unfold RF at hk
    exact y7 k (by omega) (by omega) (by omega) (by omega) (by omega)
set_option maxHeartbeats 2000000 in
/-- a page met again: a copy of it takes its slot -/
theorem m_twin {n0 n x s T a st y : Nat} {pg kc : Nat → Nat} {kd : Nat → Nat → Nat} {pa ct : Nat → Int32} {ow : Nat → Nat → Int32} {met : Nat → Nat} {t : List (Nat × Nat)} {σ ρ : St} (h : MM n0 n pg kc kd pa ct ow met ((x, s) :: t) T a σ ρ) (hst : st < 8200) (ha : a ≤ 9000) (hs : s < kc x) (hy : kd x s = y) (hmet : met y = 1) (hp : pg y = 1) (hroom : n < 200) : MX n0 n pg kc kd a (frM kc ((x, s) :: t) + 41 * um met n0) st σ ρ := by
  obtain ⟨w1, w2, w3, w4, w5, ⟨w6, w6'⟩, w7, w8, w9, w10, ⟨w11, w11'⟩, w12, w13, w14⟩ := h
  obtain ⟨q1, q2, q3, q4, q5, q6, q7, q8, q9, q10, P, b, p1, p2, p3, p4⟩ := w7
  have q1 : σ 14 t.length = nI x := q1
  have q2 : σ 15 t.length = nI s := q2
  have q3 : ρ 6 t.length = nI x := q3
  have q4 : ρ 7 t.length = nI s := q4
  have q5 : x < n0 := q5
  have q6 : s ≤ kc x := q6
  have q7 : pg x = 0 := q7
  have q8 : met x = 1 := q8
  have q10 : ∀ g ∈ t, g.1 ≠ x := q10
  have p2 : σ 18 x = nI P := p2
  have w6 : σ 33 0 = nI (t.length + 1) := w6
  have w6' : ρ 23 0 = nI (t.length + 1) := w6'
  have w12 : t.length + 1 + T + um met n0 ≤ n := w12
  have hn := w1.1
  have h40 := w1.2.2.1 x (by omega)
  have k3 := w2.2.2.2.2.1 x (by omega)
  have r3 := w3.2.2.2.2.1 x (by omega)
  have z1 := w2.1
  have z2 := w3.1
  have hyn : y < n0 := by rw [← hy]; exact q9 s (Nat.le_refl _) hs
  have k4 := w2.2.2.2.2.2.1 x s (by omega) hs
  have r4 := w3.2.2.2.2.2.1 x s (by omega) hs
  rw [hy] at k4 r4
  rw [show 40 * x + s = x * 40 + s by omega] at k4
  have k0 := w2.2.1 y (by omega)
  have r0 := w3.2.1 y (by omega)
  obtain ⟨k13, r8, -⟩ := w8 y hyn
  rw [hmet] at k13 r8
  have hFU := FU_ge
  have e3 := k_isPage_y z1 hn (show y < n by omega) k0 (w1.2.1 y (by omega))
  rw [hp] at k0 r0 e3
  have hxn : x ≠ n := by omega
  -- the class
  obtain ⟨σ1, a1, a2, a3, a4⟩ := k_add (p := 1) (q := nI x) (co := nI 0) w2 w4 hroom (by omega)
  have hW1 := w1.more (p := 1) (q := nI x) hroom (by omega) (Or.inr ⟨x, by omega, rfl⟩) (fun z => by omega)
  -- the reference
  obtain ⟨σT, ρ1, t1, t2, t3, t4, t5⟩ := p_tell (σ := σ) (ρ := ρ) w10 ha (nI 3) (nI y)
  have hJ : IV n pg kc kd pa ct ow ρ1 22 := w3.keep (t5 22 (by decide) (by decide) (by decide)) (fun k hk => t5 k (by omega) (by omega) (by omega))
  obtain ⟨ρ2, b1, b2, b3⟩ := r_made (p := 1) (q := nI x) (co := nI 0) hJ hroom (by omega) (fun _ => rfl)
  obtain ⟨ow', σ2, ρ3, c1, c2, c3, c4, c5, c6, c7⟩ := own_same hW1 (g := y) (t := n) (by omega) (by omega) (nI x) (nI s) 4 0 FU FU _ σ1 ρ2 (by omega) (by omega) (by omega) a2 b2
  have hkx : va_up kc n 0 x = kc x := va_up_ne kc 0 hxn
  have hW1' : WF (n + 1) (va_up pg n 1) (va_up kc n 0) (setKd kd x s n) (va_up pa n (nI x)) := hW1.put (by omega)
  have d1 := k_replace (s := s) (it := n) c3 hW1 (show x < n + 1 by omega) (by rw [hkx]; exact hs)
  have hI3 := c3.put (x := x) (sl := s) (it := n) (by decide) (by omega) (by rw [hkx]; exact hs) (fun i hi => hW1.2.2.1 i hi)
  have hJ3 := c4.put (x := x) (sl := s) (it := n) (by decide) (by omega) (by rw [hkx]; exact hs) (fun i hi => hW1.2.2.1 i hi)
  have g32 : σ2 32 0 = nI T := by rw [c5 32 (by decide), a4 32 (by decide) (by decide) (by decide) (by decide)]; exact w11
  -- what the class tells, over its own state
  obtain ⟨σ5, ρT, u1, u2, u3, u4, u5⟩ := p_tell (a := a) (σ := sk (sk (sk σ2 4 (upd (σ2 4) (40 * x + s) (nI n))) 27 (fun _ => σ2 27 0 + nI 1)) 32 (fun _ => nI (T + 1))) (ρ := ρ) (w10.keep (by simp (disch := omega) only [↓reduceIte, Nat.reduceSub, Nat.reduceAdd, Nat.reduceMul, Nat.sub_zero, Nat.add_zero, Nat.zero_add, Nat.mul_zero, lq_s, br_s, bd_s, bv_s, gd_tt, inB_nI, nI_clamp, sk_s, sk_n, pk_us, pk_un, nI_add, pk_mul, pk_sub, nI_leI, nI_ltI, nI_eq, if_pos, if_neg, nn_neg, nn_ne, nn_ne2, nn_lt, nn_nlt, nn_nle, nn_le, nn_m1, li_0, li_1, li_2, li_3, li_4, li_5, li_9, li_10, li_19, li_20, li_26, li_40, li_60, li_64, li_97, li_48, li_100, li_199, li_200, li_1000, li_8200, li_9999, li_100000]; rw [c5 31 (by decide), a4 31 (by decide) (by decide) (by decide) (by decide)]) (by simp (disch := omega) only [↓reduceIte, Nat.reduceSub, Nat.reduceAdd, Nat.reduceMul, Nat.sub_zero, Nat.add_zero, Nat.zero_add, Nat.mul_zero, lq_s, br_s, bd_s, bv_s, gd_tt, inB_nI, nI_clamp, sk_s, sk_n, pk_us, pk_un, nI_add, pk_mul, pk_sub, nI_leI, nI_ltI, nI_eq, if_pos, if_neg, nn_neg, nn_ne, nn_ne2, nn_lt, nn_nlt, nn_nle, nn_le, nn_m1, li_0, li_1, li_2, li_3, li_4, li_5, li_9, li_10, li_19, li_20, li_26, li_40, li_60, li_64, li_97, li_48, li_100, li_199, li_200, li_1000, li_8200, li_9999, li_100000]; rw [c5 16 (by decide), a4 16 (by decide) (by decide) (by decide) (by decide)]) (by simp (disch := omega) only [↓reduceIte, Nat.reduceSub, Nat.reduceAdd, Nat.reduceMul, Nat.sub_zero, Nat.add_zero, Nat.zero_add, Nat.mul_zero, lq_s, br_s, bd_s, bv_s, gd_tt, inB_nI, nI_clamp, sk_s, sk_n, pk_us, pk_un, nI_add, pk_mul, pk_sub, nI_leI, nI_ltI, nI_eq, if_pos, if_neg, nn_neg, nn_ne, nn_ne2, nn_lt, nn_nlt, nn_nle, nn_le, nn_m1, li_0, li_1, li_2, li_3, li_4, li_5, li_9, li_10, li_19, li_20, li_26, li_40, li_60, li_64, li_97, li_48, li_100, li_199, li_200, li_1000, li_8200, li_9999, li_100000]; rw [c5 17 (by decide), a4 17 (by decide) (by decide) (by decide) (by decide)]) rfl rfl rfl) ha (nI 3) (nI y)
  have hρ : ρT = ρ1 := by
    rw [t2] at u2
    exact (Option.some.inj u2).symm
  rw [hρ] at u3 u5
  have e1 := k_kidAt_y w2.lv w1.lf (show x < n by omega) hs
  rw [hy] at e1
  have e2 := k_isKnown_y z1 hn (show y < n by omega)
  have e4 : kM_Items_isKnown σ1 (nI y) = some (nI 1) := k_isKnown_y a2.1 (by omega) (show y < n + 1 by omega)
  have e5 : kM_Items_isKnown σ1 (nI n) = some (nI 1) := k_isKnown_y a2.1 (by omega) (show n < n + 1 by omega)
  have ymeet : kM_Walk_meet_Mender σ (nI x) (nI s) (nI y) = some (nI (s + 1), σ5) := by
    unfold kM_Walk_meet_Mender kM_Mender_meetPageAgain kJ_Walk_meet_Mender_41 kM_Items_isFull kM_Items_copyOwnValues
    simp (disch := omega) only [↓reduceIte, Nat.reduceSub, Nat.reduceAdd, Nat.reduceMul, Nat.sub_zero, Nat.add_zero, Nat.zero_add, Nat.mul_zero, lq_s, br_s, bd_s, bv_s, gd_tt, inB_nI, nI_clamp, sk_s, sk_n, pk_us, pk_un, nI_add, pk_mul, pk_sub, nI_leI, nI_ltI, nI_eq, if_pos, if_neg, nn_neg, nn_ne, nn_ne2, nn_lt, nn_nlt, nn_nle, nn_le, nn_m1, li_0, li_1, li_2, li_3, li_4, li_5, li_9, li_10, li_19, li_20, li_26, li_40, li_60, li_64, li_97, li_48, li_100, li_199, li_200, li_1000, li_8200, li_9999, li_100000, e3, k13, z1, a1, e4, e5, c1, d1, g32, u1]
  -- the reference's states
  have rf3 : ∀ k, (5 < k ∧ k ≠ 22 ∧ k ≠ 13 ∧ k ≠ 14 ∧ k ≠ 25) → ρ3 k = ρ k := fun k hk => by rw [c7 k (by omega), b3 k (Or.inl ⟨by omega, by omega⟩), t5 k (by omega) (by omega) (by omega)]
  have ymend : rM_Md_mendKid ρ (nI x) (nI s) = some (nI 1, sk (sk ρ3 8 (upd (ρ3 8) n (nI 0))) 4 (upd (ρ3 4) (40 * x + s) (nI n))) := by
    unfold rM_Md_mendKid
    simp (disch := omega) only [↓reduceIte, Nat.reduceSub, Nat.reduceAdd, Nat.reduceMul, Nat.sub_zero, Nat.add_zero, Nat.zero_add, Nat.mul_zero, lq_s, br_s, bd_s, bv_s, gd_tt, inB_nI, nI_clamp, sk_s, sk_n, pk_us, pk_un, nI_add, pk_mul, pk_sub, nI_leI, nI_ltI, nI_eq, if_pos, if_neg, nn_neg, nn_ne, nn_ne2, nn_lt, nn_nlt, nn_nle, nn_le, nn_m1, li_0, li_1, li_2, li_3, li_4, li_5, li_9, li_10, li_19, li_20, li_26, li_40, li_60, li_64, li_97, li_48, li_100, li_199, li_200, li_1000, li_8200, li_9999, li_100000, r4, r0, z2, t2, b1, c2]
    unfold rJ_Md_mendKid_124
    simp (disch := omega) only [↓reduceIte, Nat.reduceSub, Nat.reduceAdd, Nat.reduceMul, Nat.sub_zero, Nat.add_zero, Nat.zero_add, Nat.mul_zero, lq_s, br_s, bd_s, bv_s, gd_tt, inB_nI, nI_clamp, sk_s, sk_n, pk_us, pk_un, nI_add, pk_mul, pk_sub, nI_leI, nI_ltI, nI_eq, if_pos, if_neg, nn_neg, nn_ne, nn_ne2, nn_lt, nn_nlt, nn_nle, nn_le, nn_m1, li_0, li_1, li_2, li_3, li_4, li_5, li_9, li_10, li_19, li_20, li_26, li_40, li_60, li_64, li_97, li_48, li_100, li_199, li_200, li_1000, li_8200, li_9999, li_100000, nar_z0]
  have f0 : ρ3 0 n = nI 1 := by have := c4.2.1 n (by omega); rw [va_up_self] at this; exact this
  have f6 : ρ3 6 t.length = nI x := by rw [rf3 6 (by omega)]; exact q3
  have f7 : ρ3 7 t.length = nI s := by rw [rf3 7 (by omega)]; exact q4
  have f12 : ρ3 12 t.length = nI b := by rw [rf3 12 (by omega)]; exact p3
  have f23 : ρ3 23 0 = nI (t.length + 1) := by rw [rf3 23 (by omega)]; exact w6'
  have f24 : ρ3 24 0 = nI T := by rw [rf3 24 (by omega)]; exact w11'
  have hne : ∀ f ∈ t, f.1 ≠ x := q10
  have hlt : ∀ f ∈ t, f.1 < n0 := fun f hf => (MS.mem t P p4 f hf).1
  have sf : ∀ k, 5 < k → k ≠ 26 → k ≠ 27 → k ≠ 32 → k ≠ 16 → k ≠ 17 → k ≠ 31 → σ5 k = σ k := fun k h1 h2 h3 h4 h5 h6 h7 => by
    rw [u4 k h5 h6 h7]
    simp (disch := omega) only [↓reduceIte, Nat.reduceSub, Nat.reduceAdd, Nat.reduceMul, Nat.sub_zero, Nat.add_zero, Nat.zero_add, Nat.mul_zero, lq_s, br_s, bd_s, bv_s, gd_tt, inB_nI, nI_clamp, sk_s, sk_n, pk_us, pk_un, nI_add, pk_mul, pk_sub, nI_leI, nI_ltI, nI_eq, if_pos, if_neg, nn_neg, nn_ne, nn_ne2, nn_lt, nn_nlt, nn_nle, nn_le, nn_m1, li_0, li_1, li_2, li_3, li_4, li_5, li_9, li_10, li_19, li_20, li_26, li_40, li_60, li_64, li_97, li_48, li_100, li_199, li_200, li_1000, li_8200, li_9999, li_100000]
    rw [c5 k (by omega), a4 k (by omega) (by omega) (by omega) h2]
  have hfr : frM (va_up kc n 0) t = frM kc t := frM_keep t (fun f hf => va_up_ne kc _ (fun z => by have := hlt f hf; omega))
  refine ⟨n + 1, va_up pg n 1, va_up kc n 0, setKd kd x s n, va_up pa n (nI x), va_up ct n (nI 0), ow', met, (x, s + 1) :: t, T + 1, a + 1, 1, sk σ5 15 (upd (σ5 15) t.length (nI (s + 1))), sk (sk (sk (sk (sk (sk (sk (sk (sk (sk ρ3 8 (upd (ρ3 8) n (nI 0))) 4 (upd (ρ3 4) (40 * x + s) (nI n))) 1 (upd (ρ3 1) n (nI x))) 8 (upd (upd (ρ3 8) n (nI 0)) n (nI 1))) 9 (upd (ρ3 9) T (nI n))) 10 (upd (ρ3 10) T (nI x))) 11 (upd (ρ3 11) T (nI s))) 24 (fun _ => nI (T + 1))) 12 (upd (ρ3 12) t.length (nI (b + 1)))) 7 (upd (ρ3 7) t.length (nI (s + 1))), fun g => ?_, fun g => ?_, ⟨hW1', ?_, ?_, fun i h1 h2 => ⟨?_, fun k hk => ?_⟩, by omega, ⟨?_, ?_⟩, ⟨?_, ?_, ?_, ?_, q5, ?_, ?_, q8, fun k h1 h2 => ?_, q10, P, b + 1, (by omega), ?_, ?_, ?_⟩, fun i hi => ?_, fun x' hx' hm' => ?_, ?_, ⟨?_, ?_⟩, ?_, ?_, w14⟩, ?_, by omega, by omega, ?_, fun z => absurd z (by omega), fun k hk => ?_, fun k hk => ?_⟩
  · rw [kL_Walk_walkAll_Mender_51]
    unfold kJ_Walk_walkAll_Mender_144
    simp (disch := omega) only [↓reduceIte, Nat.reduceSub, Nat.reduceAdd, Nat.reduceMul, Nat.sub_zero, Nat.add_zero, Nat.zero_add, Nat.mul_zero, lq_s, br_s, bd_s, bv_s, gd_tt, inB_nI, nI_clamp, sk_s, sk_n, pk_us, pk_un, nI_add, pk_mul, pk_sub, nI_leI, nI_ltI, nI_eq, if_pos, if_neg, nn_neg, nn_ne, nn_ne2, nn_lt, nn_nlt, nn_nle, nn_le, nn_m1, li_0, li_1, li_2, li_3, li_4, li_5, li_9, li_10, li_19, li_20, li_26, li_40, li_60, li_64, li_97, li_48, li_100, li_199, li_200, li_1000, li_8200, li_9999, li_100000, w6, q1, q2, e1, e2, ymeet, Nat.add_sub_cancel]
  · rw [rL_Md_mend_9]
    unfold rJ_Md_mend_128 rM_Md_takePage rJ_Md_mend_174
    simp (disch := omega) only [↓reduceIte, Nat.reduceSub, Nat.reduceAdd, Nat.reduceMul, Nat.sub_zero, Nat.add_zero, Nat.zero_add, Nat.mul_zero, lq_s, br_s, bd_s, bv_s, gd_tt, inB_nI, nI_clamp, sk_s, sk_n, pk_us, pk_un, nI_add, pk_mul, pk_sub, nI_leI, nI_ltI, nI_eq, if_pos, if_neg, nn_neg, nn_ne, nn_ne2, nn_lt, nn_nlt, nn_nle, nn_le, nn_m1, li_0, li_1, li_2, li_3, li_4, li_5, li_9, li_10, li_19, li_20, li_26, li_40, li_60, li_64, li_97, li_48, li_100, li_199, li_200, li_1000, li_8200, li_9999, li_100000, w6', q3, q4, r3, r4, r8, ymend, f0, f6, f7, f12, f23, f24, nar_z1, Nat.add_sub_cancel]
  · refine hI3.keep ?_ (fun k hk => ?_)
    · simp (disch := omega) only [↓reduceIte, Nat.reduceSub, Nat.reduceAdd, Nat.reduceMul, Nat.sub_zero, Nat.add_zero, Nat.zero_add, Nat.mul_zero, lq_s, br_s, bd_s, bv_s, gd_tt, inB_nI, nI_clamp, sk_s, sk_n, pk_us, pk_un, nI_add, pk_mul, pk_sub, nI_leI, nI_ltI, nI_eq, if_pos, if_neg, nn_neg, nn_ne, nn_ne2, nn_lt, nn_nlt, nn_nle, nn_le, nn_m1, li_0, li_1, li_2, li_3, li_4, li_5, li_9, li_10, li_19, li_20, li_26, li_40, li_60, li_64, li_97, li_48, li_100, li_199, li_200, li_1000, li_8200, li_9999, li_100000]
      rw [u4 26 (by decide) (by decide) (by decide)]
      simp (disch := omega) only [↓reduceIte, Nat.reduceSub, Nat.reduceAdd, Nat.reduceMul, Nat.sub_zero, Nat.add_zero, Nat.zero_add, Nat.mul_zero, lq_s, br_s, bd_s, bv_s, gd_tt, inB_nI, nI_clamp, sk_s, sk_n, pk_us, pk_un, nI_add, pk_mul, pk_sub, nI_leI, nI_ltI, nI_eq, if_pos, if_neg, nn_neg, nn_ne, nn_ne2, nn_lt, nn_nlt, nn_nle, nn_le, nn_m1, li_0, li_1, li_2, li_3, li_4, li_5, li_9, li_10, li_19, li_20, li_26, li_40, li_60, li_64, li_97, li_48, li_100, li_199, li_200, li_1000, li_8200, li_9999, li_100000]
    · simp (disch := omega) only [↓reduceIte, Nat.reduceSub, Nat.reduceAdd, Nat.reduceMul, Nat.sub_zero, Nat.add_zero, Nat.zero_add, Nat.mul_zero, lq_s, br_s, bd_s, bv_s, gd_tt, inB_nI, nI_clamp, sk_s, sk_n, pk_us, pk_un, nI_add, pk_mul, pk_sub, nI_leI, nI_ltI, nI_eq, if_pos, if_neg, nn_neg, nn_ne, nn_ne2, nn_lt, nn_nlt, nn_nle, nn_le, nn_m1, li_0, li_1, li_2, li_3, li_4, li_5, li_9, li_10, li_19, li_20, li_26, li_40, li_60, li_64, li_97, li_48, li_100, li_199, li_200, li_1000, li_8200, li_9999, li_100000]
      rw [u4 k (by omega) (by omega) (by omega)]
      simp (disch := omega) only [↓reduceIte, Nat.reduceSub, Nat.reduceAdd, Nat.reduceMul, Nat.sub_zero, Nat.add_zero, Nat.zero_add, Nat.mul_zero, lq_s, br_s, bd_s, bv_s, gd_tt, inB_nI, nI_clamp, sk_s, sk_n, pk_us, pk_un, nI_add, pk_mul, pk_sub, nI_leI, nI_ltI, nI_eq, if_pos, if_neg, nn_neg, nn_ne, nn_ne2, nn_lt, nn_nlt, nn_nle, nn_le, nn_m1, li_0, li_1, li_2, li_3, li_4, li_5, li_9, li_10, li_19, li_20, li_26, li_40, li_60, li_64, li_97, li_48, li_100, li_199, li_200, li_1000, li_8200, li_9999, li_100000]
  · have hJ4 := hJ3.par (i := n) (q := nI x) (by decide)
    rw [va_same] at hJ4
    refine hJ4.keep (by simp (disch := omega) only [↓reduceIte, Nat.reduceSub, Nat.reduceAdd, Nat.reduceMul, Nat.sub_zero, Nat.add_zero, Nat.zero_add, Nat.mul_zero, lq_s, br_s, bd_s, bv_s, gd_tt, inB_nI, nI_clamp, sk_s, sk_n, pk_us, pk_un, nI_add, pk_mul, pk_sub, nI_leI, nI_ltI, nI_eq, if_pos, if_neg, nn_neg, nn_ne, nn_ne2, nn_lt, nn_nlt, nn_nle, nn_le, nn_m1, li_0, li_1, li_2, li_3, li_4, li_5, li_9, li_10, li_19, li_20, li_26, li_40, li_60, li_64, li_97, li_48, li_100, li_199, li_200, li_1000, li_8200, li_9999, li_100000]) (fun k hk => ?_)
    by_cases hk1 : k = 1
    · subst hk1
      simp (disch := omega) only [↓reduceIte, Nat.reduceSub, Nat.reduceAdd, Nat.reduceMul, Nat.sub_zero, Nat.add_zero, Nat.zero_add, Nat.mul_zero, lq_s, br_s, bd_s, bv_s, gd_tt, inB_nI, nI_clamp, sk_s, sk_n, pk_us, pk_un, nI_add, pk_mul, pk_sub, nI_leI, nI_ltI, nI_eq, if_pos, if_neg, nn_neg, nn_ne, nn_ne2, nn_lt, nn_nlt, nn_nle, nn_le, nn_m1, li_0, li_1, li_2, li_3, li_4, li_5, li_9, li_10, li_19, li_20, li_26, li_40, li_60, li_64, li_97, li_48, li_100, li_199, li_200, li_1000, li_8200, li_9999, li_100000]
    · by_cases hk4 : k = 4
      · subst hk4
        simp (disch := omega) only [↓reduceIte, Nat.reduceSub, Nat.reduceAdd, Nat.reduceMul, Nat.sub_zero, Nat.add_zero, Nat.zero_add, Nat.mul_zero, lq_s, br_s, bd_s, bv_s, gd_tt, inB_nI, nI_clamp, sk_s, sk_n, pk_us, pk_un, nI_add, pk_mul, pk_sub, nI_leI, nI_ltI, nI_eq, if_pos, if_neg, nn_neg, nn_ne, nn_ne2, nn_lt, nn_nlt, nn_nle, nn_le, nn_m1, li_0, li_1, li_2, li_3, li_4, li_5, li_9, li_10, li_19, li_20, li_26, li_40, li_60, li_64, li_97, li_48, li_100, li_199, li_200, li_1000, li_8200, li_9999, li_100000]
      · simp (disch := omega) only [↓reduceIte, Nat.reduceSub, Nat.reduceAdd, Nat.reduceMul, Nat.sub_zero, Nat.add_zero, Nat.zero_add, Nat.mul_zero, lq_s, br_s, bd_s, bv_s, gd_tt, inB_nI, nI_clamp, sk_s, sk_n, pk_us, pk_un, nI_add, pk_mul, pk_sub, nI_leI, nI_ltI, nI_eq, if_pos, if_neg, nn_neg, nn_ne, nn_ne2, nn_lt, nn_nlt, nn_nle, nn_le, nn_m1, li_0, li_1, li_2, li_3, li_4, li_5, li_9, li_10, li_19, li_20, li_26, li_40, li_60, li_64, li_97, li_48, li_100, li_199, li_200, li_1000, li_8200, li_9999, li_100000]
  · simp (disch := omega) only [↓reduceIte, Nat.reduceSub, Nat.reduceAdd, Nat.reduceMul, Nat.sub_zero, Nat.add_zero, Nat.zero_add, Nat.mul_zero, lq_s, br_s, bd_s, bv_s, gd_tt, inB_nI, nI_clamp, sk_s, sk_n, pk_us, pk_un, nI_add, pk_mul, pk_sub, nI_leI, nI_ltI, nI_eq, if_pos, if_neg, nn_neg, nn_ne, nn_ne2, nn_lt, nn_nlt, nn_nle, nn_le, nn_m1, li_0, li_1, li_2, li_3, li_4, li_5, li_9, li_10, li_19, li_20, li_26, li_40, li_60, li_64, li_97, li_48, li_100, li_199, li_200, li_1000, li_8200, li_9999, li_100000]
    rw [u4 3 (by decide) (by decide) (by decide)]
    simp (disch := omega) only [↓reduceIte, Nat.reduceSub, Nat.reduceAdd, Nat.reduceMul, Nat.sub_zero, Nat.add_zero, Nat.zero_add, Nat.mul_zero, lq_s, br_s, bd_s, bv_s, gd_tt, inB_nI, nI_clamp, sk_s, sk_n, pk_us, pk_un, nI_add, pk_mul, pk_sub, nI_leI, nI_ltI, nI_eq, if_pos, if_neg, nn_neg, nn_ne, nn_ne2, nn_lt, nn_nlt, nn_nle, nn_le, nn_m1, li_0, li_1, li_2, li_3, li_4, li_5, li_9, li_10, li_19, li_20, li_26, li_40, li_60, li_64, li_97, li_48, li_100, li_199, li_200, li_1000, li_8200, li_9999, li_100000]
    rw [c5 3 (by decide)]
    exact (a3 i h1 h2).1
  · simp (disch := omega) only [↓reduceIte, Nat.reduceSub, Nat.reduceAdd, Nat.reduceMul, Nat.sub_zero, Nat.add_zero, Nat.zero_add, Nat.mul_zero, lq_s, br_s, bd_s, bv_s, gd_tt, inB_nI, nI_clamp, sk_s, sk_n, pk_us, pk_un, nI_add, pk_mul, pk_sub, nI_leI, nI_ltI, nI_eq, if_pos, if_neg, nn_neg, nn_ne, nn_ne2, nn_lt, nn_nlt, nn_nle, nn_le, nn_m1, li_0, li_1, li_2, li_3, li_4, li_5, li_9, li_10, li_19, li_20, li_26, li_40, li_60, li_64, li_97, li_48, li_100, li_199, li_200, li_1000, li_8200, li_9999, li_100000]
    rw [u4 5 (by decide) (by decide) (by decide)]
    simp (disch := omega) only [↓reduceIte, Nat.reduceSub, Nat.reduceAdd, Nat.reduceMul, Nat.sub_zero, Nat.add_zero, Nat.zero_add, Nat.mul_zero, lq_s, br_s, bd_s, bv_s, gd_tt, inB_nI, nI_clamp, sk_s, sk_n, pk_us, pk_un, nI_add, pk_mul, pk_sub, nI_leI, nI_ltI, nI_eq, if_pos, if_neg, nn_neg, nn_ne, nn_ne2, nn_lt, nn_nlt, nn_nle, nn_le, nn_m1, li_0, li_1, li_2, li_3, li_4, li_5, li_9, li_10, li_19, li_20, li_26, li_40, li_60, li_64, li_97, li_48, li_100, li_199, li_200, li_1000, li_8200, li_9999, li_100000]
    rw [c6 _ (by omega)]
    exact (a3 i h1 h2).2 k hk
  · simp (disch := omega) only [↓reduceIte, Nat.reduceSub, Nat.reduceAdd, Nat.reduceMul, Nat.sub_zero, Nat.add_zero, Nat.zero_add, Nat.mul_zero, lq_s, br_s, bd_s, bv_s, gd_tt, inB_nI, nI_clamp, sk_s, sk_n, pk_us, pk_un, nI_add, pk_mul, pk_sub, nI_leI, nI_ltI, nI_eq, if_pos, if_neg, nn_neg, nn_ne, nn_ne2, nn_lt, nn_nlt, nn_nle, nn_le, nn_m1, li_0, li_1, li_2, li_3, li_4, li_5, li_9, li_10, li_19, li_20, li_26, li_40, li_60, li_64, li_97, li_48, li_100, li_199, li_200, li_1000, li_8200, li_9999, li_100000]
    rw [sf 33 (by decide) (by decide) (by decide) (by decide) (by decide) (by decide) (by decide)]
    exact w6
  · simp (disch := omega) only [↓reduceIte, Nat.reduceSub, Nat.reduceAdd, Nat.reduceMul, Nat.sub_zero, Nat.add_zero, Nat.zero_add, Nat.mul_zero, lq_s, br_s, bd_s, bv_s, gd_tt, inB_nI, nI_clamp, sk_s, sk_n, pk_us, pk_un, nI_add, pk_mul, pk_sub, nI_leI, nI_ltI, nI_eq, if_pos, if_neg, nn_neg, nn_ne, nn_ne2, nn_lt, nn_nlt, nn_nle, nn_le, nn_m1, li_0, li_1, li_2, li_3, li_4, li_5, li_9, li_10, li_19, li_20, li_26, li_40, li_60, li_64, li_97, li_48, li_100, li_199, li_200, li_1000, li_8200, li_9999, li_100000]
    exact f23
  · simp (disch := omega) only [↓reduceIte, Nat.reduceSub, Nat.reduceAdd, Nat.reduceMul, Nat.sub_zero, Nat.add_zero, Nat.zero_add, Nat.mul_zero, lq_s, br_s, bd_s, bv_s, gd_tt, inB_nI, nI_clamp, sk_s, sk_n, pk_us, pk_un, nI_add, pk_mul, pk_sub, nI_leI, nI_ltI, nI_eq, if_pos, if_neg, nn_neg, nn_ne, nn_ne2, nn_lt, nn_nlt, nn_nle, nn_le, nn_m1, li_0, li_1, li_2, li_3, li_4, li_5, li_9, li_10, li_19, li_20, li_26, li_40, li_60, li_64, li_97, li_48, li_100, li_199, li_200, li_1000, li_8200, li_9999, li_100000]
    rw [sf 14 (by decide) (by decide) (by decide) (by decide) (by decide) (by decide) (by decide)]
    exact q1
  · simp (disch := omega) only [↓reduceIte, Nat.reduceSub, Nat.reduceAdd, Nat.reduceMul, Nat.sub_zero, Nat.add_zero, Nat.zero_add, Nat.mul_zero, lq_s, br_s, bd_s, bv_s, gd_tt, inB_nI, nI_clamp, sk_s, sk_n, pk_us, pk_un, nI_add, pk_mul, pk_sub, nI_leI, nI_ltI, nI_eq, if_pos, if_neg, nn_neg, nn_ne, nn_ne2, nn_lt, nn_nlt, nn_nle, nn_le, nn_m1, li_0, li_1, li_2, li_3, li_4, li_5, li_9, li_10, li_19, li_20, li_26, li_40, li_60, li_64, li_97, li_48, li_100, li_199, li_200, li_1000, li_8200, li_9999, li_100000]
  · simp (disch := omega) only [↓reduceIte, Nat.reduceSub, Nat.reduceAdd, Nat.reduceMul, Nat.sub_zero, Nat.add_zero, Nat.zero_add, Nat.mul_zero, lq_s, br_s, bd_s, bv_s, gd_tt, inB_nI, nI_clamp, sk_s, sk_n, pk_us, pk_un, nI_add, pk_mul, pk_sub, nI_leI, nI_ltI, nI_eq, if_pos, if_neg, nn_neg, nn_ne, nn_ne2, nn_lt, nn_nlt, nn_nle, nn_le, nn_m1, li_0, li_1, li_2, li_3, li_4, li_5, li_9, li_10, li_19, li_20, li_26, li_40, li_60, li_64, li_97, li_48, li_100, li_199, li_200, li_1000, li_8200, li_9999, li_100000]
    exact f6
  · simp (disch := omega) only [↓reduceIte, Nat.reduceSub, Nat.reduceAdd, Nat.reduceMul, Nat.sub_zero, Nat.add_zero, Nat.zero_add, Nat.mul_zero, lq_s, br_s, bd_s, bv_s, gd_tt, inB_nI, nI_clamp, sk_s, sk_n, pk_us, pk_un, nI_add, pk_mul, pk_sub, nI_leI, nI_ltI, nI_eq, if_pos, if_neg, nn_neg, nn_ne, nn_ne2, nn_lt, nn_nlt, nn_nle, nn_le, nn_m1, li_0, li_1, li_2, li_3, li_4, li_5, li_9, li_10, li_19, li_20, li_26, li_40, li_60, li_64, li_97, li_48, li_100, li_199, li_200, li_1000, li_8200, li_9999, li_100000]
  · show s + 1 ≤ va_up kc n 0 x
    rw [hkx]
    omega
  · show va_up pg n 1 x = 0
    rw [va_up_ne pg 1 hxn]
    exact q7
  · have h1 : s + 1 ≤ k := h1
    have h2 : k < va_up kc n 0 x := h2
    rw [hkx] at h2
    show setKd kd x s n x k < n0
    unfold setKd
    rw [if_neg (by omega)]
    exact q9 k (by show s ≤ k; omega) h2
  · simp (disch := omega) only [↓reduceIte, Nat.reduceSub, Nat.reduceAdd, Nat.reduceMul, Nat.sub_zero, Nat.add_zero, Nat.zero_add, Nat.mul_zero, lq_s, br_s, bd_s, bv_s, gd_tt, inB_nI, nI_clamp, sk_s, sk_n, pk_us, pk_un, nI_add, pk_mul, pk_sub, nI_leI, nI_ltI, nI_eq, if_pos, if_neg, nn_neg, nn_ne, nn_ne2, nn_lt, nn_nlt, nn_nle, nn_le, nn_m1, li_0, li_1, li_2, li_3, li_4, li_5, li_9, li_10, li_19, li_20, li_26, li_40, li_60, li_64, li_97, li_48, li_100, li_199, li_200, li_1000, li_8200, li_9999, li_100000]
    rw [sf 18 (by decide) (by decide) (by decide) (by decide) (by decide) (by decide) (by decide)]
    exact p2
  · simp (disch := omega) only [↓reduceIte, Nat.reduceSub, Nat.reduceAdd, Nat.reduceMul, Nat.sub_zero, Nat.add_zero, Nat.zero_add, Nat.mul_zero, lq_s, br_s, bd_s, bv_s, gd_tt, inB_nI, nI_clamp, sk_s, sk_n, pk_us, pk_un, nI_add, pk_mul, pk_sub, nI_leI, nI_ltI, nI_eq, if_pos, if_neg, nn_neg, nn_ne, nn_ne2, nn_lt, nn_nlt, nn_nle, nn_le, nn_m1, li_0, li_1, li_2, li_3, li_4, li_5, li_9, li_10, li_19, li_20, li_26, li_40, li_60, li_64, li_97, li_48, li_100, li_199, li_200, li_1000, li_8200, li_9999, li_100000]
  · refine MS.keep t P p4 (fun f hf => ?_) (fun j hj => ?_)
    · have hfn : f.1 ≠ n := by have := hlt f hf; omega
      refine ⟨va_up_ne pg _ hfn, va_up_ne kc _ hfn, ?_, rfl, ?_⟩
      · funext k
        unfold setKd
        rw [if_neg (fun z => hne f hf z.1)]
      · simp (disch := omega) only [↓reduceIte, Nat.reduceSub, Nat.reduceAdd, Nat.reduceMul, Nat.sub_zero, Nat.add_zero, Nat.zero_add, Nat.mul_zero, lq_s, br_s, bd_s, bv_s, gd_tt, inB_nI, nI_clamp, sk_s, sk_n, pk_us, pk_un, nI_add, pk_mul, pk_sub, nI_leI, nI_ltI, nI_eq, if_pos, if_neg, nn_neg, nn_ne, nn_ne2, nn_lt, nn_nlt, nn_nle, nn_le, nn_m1, li_0, li_1, li_2, li_3, li_4, li_5, li_9, li_10, li_19, li_20, li_26, li_40, li_60, li_64, li_97, li_48, li_100, li_199, li_200, li_1000, li_8200, li_9999, li_100000]
        rw [sf 18 (by decide) (by decide) (by decide) (by decide) (by decide) (by decide) (by decide)]
    · simp (disch := omega) only [↓reduceIte, Nat.reduceSub, Nat.reduceAdd, Nat.reduceMul, Nat.sub_zero, Nat.add_zero, Nat.zero_add, Nat.mul_zero, lq_s, br_s, bd_s, bv_s, gd_tt, inB_nI, nI_clamp, sk_s, sk_n, pk_us, pk_un, nI_add, pk_mul, pk_sub, nI_leI, nI_ltI, nI_eq, if_pos, if_neg, nn_neg, nn_ne, nn_ne2, nn_lt, nn_nlt, nn_nle, nn_le, nn_m1, li_0, li_1, li_2, li_3, li_4, li_5, li_9, li_10, li_19, li_20, li_26, li_40, li_60, li_64, li_97, li_48, li_100, li_199, li_200, li_1000, li_8200, li_9999, li_100000]
      rw [sf 14 (by decide) (by decide) (by decide) (by decide) (by decide) (by decide) (by decide), sf 15 (by decide) (by decide) (by decide) (by decide) (by decide) (by decide) (by decide), rf3 6 (by omega), rf3 7 (by omega), rf3 12 (by omega)]
      exact ⟨rfl, rfl, rfl, rfl, rfl⟩
  · have hin : i ≠ n := by omega
    simp (disch := omega) only [↓reduceIte, Nat.reduceSub, Nat.reduceAdd, Nat.reduceMul, Nat.sub_zero, Nat.add_zero, Nat.zero_add, Nat.mul_zero, lq_s, br_s, bd_s, bv_s, gd_tt, inB_nI, nI_clamp, sk_s, sk_n, pk_us, pk_un, nI_add, pk_mul, pk_sub, nI_leI, nI_ltI, nI_eq, if_pos, if_neg, nn_neg, nn_ne, nn_ne2, nn_lt, nn_nlt, nn_nle, nn_le, nn_m1, li_0, li_1, li_2, li_3, li_4, li_5, li_9, li_10, li_19, li_20, li_26, li_40, li_60, li_64, li_97, li_48, li_100, li_199, li_200, li_1000, li_8200, li_9999, li_100000]
    rw [sf 13 (by decide) (by decide) (by decide) (by decide) (by decide) (by decide) (by decide), rf3 8 (by omega)]
    exact w8 i hi
  · have hx'x : x' ≠ x := fun z => by rw [z, q8] at hm'; omega
    intro k hk
    rw [va_up_ne kc _ (show x' ≠ n by omega)] at hk
    unfold setKd
    rw [if_neg (fun z => hx'x z.1)]
    exact w9 x' hx' hm' k hk
  · refine u3.keep (by simp (disch := omega) only [↓reduceIte, Nat.reduceSub, Nat.reduceAdd, Nat.reduceMul, Nat.sub_zero, Nat.add_zero, Nat.zero_add, Nat.mul_zero, lq_s, br_s, bd_s, bv_s, gd_tt, inB_nI, nI_clamp, sk_s, sk_n, pk_us, pk_un, nI_add, pk_mul, pk_sub, nI_leI, nI_ltI, nI_eq, if_pos, if_neg, nn_neg, nn_ne, nn_ne2, nn_lt, nn_nlt, nn_nle, nn_le, nn_m1, li_0, li_1, li_2, li_3, li_4, li_5, li_9, li_10, li_19, li_20, li_26, li_40, li_60, li_64, li_97, li_48, li_100, li_199, li_200, li_1000, li_8200, li_9999, li_100000]) (by simp (disch := omega) only [↓reduceIte, Nat.reduceSub, Nat.reduceAdd, Nat.reduceMul, Nat.sub_zero, Nat.add_zero, Nat.zero_add, Nat.mul_zero, lq_s, br_s, bd_s, bv_s, gd_tt, inB_nI, nI_clamp, sk_s, sk_n, pk_us, pk_un, nI_add, pk_mul, pk_sub, nI_leI, nI_ltI, nI_eq, if_pos, if_neg, nn_neg, nn_ne, nn_ne2, nn_lt, nn_nlt, nn_nle, nn_le, nn_m1, li_0, li_1, li_2, li_3, li_4, li_5, li_9, li_10, li_19, li_20, li_26, li_40, li_60, li_64, li_97, li_48, li_100, li_199, li_200, li_1000, li_8200, li_9999, li_100000]) (by simp (disch := omega) only [↓reduceIte, Nat.reduceSub, Nat.reduceAdd, Nat.reduceMul, Nat.sub_zero, Nat.add_zero, Nat.zero_add, Nat.mul_zero, lq_s, br_s, bd_s, bv_s, gd_tt, inB_nI, nI_clamp, sk_s, sk_n, pk_us, pk_un, nI_add, pk_mul, pk_sub, nI_leI, nI_ltI, nI_eq, if_pos, if_neg, nn_neg, nn_ne, nn_ne2, nn_lt, nn_nlt, nn_nle, nn_le, nn_m1, li_0, li_1, li_2, li_3, li_4, li_5, li_9, li_10, li_19, li_20, li_26, li_40, li_60, li_64, li_97, li_48, li_100, li_199, li_200, li_1000, li_8200, li_9999, li_100000]) ?_ ?_ ?_
    · simp (disch := omega) only [↓reduceIte, Nat.reduceSub, Nat.reduceAdd, Nat.reduceMul, Nat.sub_zero, Nat.add_zero, Nat.zero_add, Nat.mul_zero, lq_s, br_s, bd_s, bv_s, gd_tt, inB_nI, nI_clamp, sk_s, sk_n, pk_us, pk_un, nI_add, pk_mul, pk_sub, nI_leI, nI_ltI, nI_eq, if_pos, if_neg, nn_neg, nn_ne, nn_ne2, nn_lt, nn_nlt, nn_nle, nn_le, nn_m1, li_0, li_1, li_2, li_3, li_4, li_5, li_9, li_10, li_19, li_20, li_26, li_40, li_60, li_64, li_97, li_48, li_100, li_199, li_200, li_1000, li_8200, li_9999, li_100000]
      rw [c7 25 (by decide), b3 25 (by omega)]
    · simp (disch := omega) only [↓reduceIte, Nat.reduceSub, Nat.reduceAdd, Nat.reduceMul, Nat.sub_zero, Nat.add_zero, Nat.zero_add, Nat.mul_zero, lq_s, br_s, bd_s, bv_s, gd_tt, inB_nI, nI_clamp, sk_s, sk_n, pk_us, pk_un, nI_add, pk_mul, pk_sub, nI_leI, nI_ltI, nI_eq, if_pos, if_neg, nn_neg, nn_ne, nn_ne2, nn_lt, nn_nlt, nn_nle, nn_le, nn_m1, li_0, li_1, li_2, li_3, li_4, li_5, li_9, li_10, li_19, li_20, li_26, li_40, li_60, li_64, li_97, li_48, li_100, li_199, li_200, li_1000, li_8200, li_9999, li_100000]
      rw [c7 13 (by decide), b3 13 (by omega)]
    · simp (disch := omega) only [↓reduceIte, Nat.reduceSub, Nat.reduceAdd, Nat.reduceMul, Nat.sub_zero, Nat.add_zero, Nat.zero_add, Nat.mul_zero, lq_s, br_s, bd_s, bv_s, gd_tt, inB_nI, nI_clamp, sk_s, sk_n, pk_us, pk_un, nI_add, pk_mul, pk_sub, nI_leI, nI_ltI, nI_eq, if_pos, if_neg, nn_neg, nn_ne, nn_ne2, nn_lt, nn_nlt, nn_nle, nn_le, nn_m1, li_0, li_1, li_2, li_3, li_4, li_5, li_9, li_10, li_19, li_20, li_26, li_40, li_60, li_64, li_97, li_48, li_100, li_199, li_200, li_1000, li_8200, li_9999, li_100000]
      rw [c7 14 (by decide), b3 14 (by omega)]
  · simp (disch := omega) only [↓reduceIte, Nat.reduceSub, Nat.reduceAdd, Nat.reduceMul, Nat.sub_zero, Nat.add_zero, Nat.zero_add, Nat.mul_zero, lq_s, br_s, bd_s, bv_s, gd_tt, inB_nI, nI_clamp, sk_s, sk_n, pk_us, pk_un, nI_add, pk_mul, pk_sub, nI_leI, nI_ltI, nI_eq, if_pos, if_neg, nn_neg, nn_ne, nn_ne2, nn_lt, nn_nlt, nn_nle, nn_le, nn_m1, li_0, li_1, li_2, li_3, li_4, li_5, li_9, li_10, li_19, li_20, li_26, li_40, li_60, li_64, li_97, li_48, li_100, li_199, li_200, li_1000, li_8200, li_9999, li_100000]
    rw [u4 32 (by decide) (by decide) (by decide)]
    simp (disch := omega) only [↓reduceIte, Nat.reduceSub, Nat.reduceAdd, Nat.reduceMul, Nat.sub_zero, Nat.add_zero, Nat.zero_add, Nat.mul_zero, lq_s, br_s, bd_s, bv_s, gd_tt, inB_nI, nI_clamp, sk_s, sk_n, pk_us, pk_un, nI_add, pk_mul, pk_sub, nI_leI, nI_ltI, nI_eq, if_pos, if_neg, nn_neg, nn_ne, nn_ne2, nn_lt, nn_nlt, nn_nle, nn_le, nn_m1, li_0, li_1, li_2, li_3, li_4, li_5, li_9, li_10, li_19, li_20, li_26, li_40, li_60, li_64, li_97, li_48, li_100, li_199, li_200, li_1000, li_8200, li_9999, li_100000]
  · simp (disch := omega) only [↓reduceIte, Nat.reduceSub, Nat.reduceAdd, Nat.reduceMul, Nat.sub_zero, Nat.add_zero, Nat.zero_add, Nat.mul_zero, lq_s, br_s, bd_s, bv_s, gd_tt, inB_nI, nI_clamp, sk_s, sk_n, pk_us, pk_un, nI_add, pk_mul, pk_sub, nI_leI, nI_ltI, nI_eq, if_pos, if_neg, nn_neg, nn_ne, nn_ne2, nn_lt, nn_nlt, nn_nle, nn_le, nn_m1, li_0, li_1, li_2, li_3, li_4, li_5, li_9, li_10, li_19, li_20, li_26, li_40, li_60, li_64, li_97, li_48, li_100, li_199, li_200, li_1000, li_8200, li_9999, li_100000]
  · show t.length + 1 + (T + 1) + um met n0 ≤ n + 1
    omega
  · simp (disch := omega) only [↓reduceIte, Nat.reduceSub, Nat.reduceAdd, Nat.reduceMul, Nat.sub_zero, Nat.add_zero, Nat.zero_add, Nat.mul_zero, lq_s, br_s, bd_s, bv_s, gd_tt, inB_nI, nI_clamp, sk_s, sk_n, pk_us, pk_un, nI_add, pk_mul, pk_sub, nI_leI, nI_ltI, nI_eq, if_pos, if_neg, nn_neg, nn_ne, nn_ne2, nn_lt, nn_nlt, nn_nle, nn_le, nn_m1, li_0, li_1, li_2, li_3, li_4, li_5, li_9, li_10, li_19, li_20, li_26, li_40, li_60, li_64, li_97, li_48, li_100, li_199, li_200, li_1000, li_8200, li_9999, li_100000]
    rw [sf 18 (by decide) (by decide) (by decide) (by decide) (by decide) (by decide) (by decide)]
    exact w13
  · show (va_up kc n 0 x + 1 - (s + 1)) + frM (va_up kc n 0) t + 41 * um met n0 < (kc x + 1 - s) + frM kc t + 41 * um met n0
    rw [hfr, hkx]
    omega
  · simp (disch := omega) only [↓reduceIte, Nat.reduceSub, Nat.reduceAdd, Nat.reduceMul, Nat.sub_zero, Nat.add_zero, Nat.zero_add, Nat.mul_zero, lq_s, br_s, bd_s, bv_s, gd_tt, inB_nI, nI_clamp, sk_s, sk_n, pk_us, pk_un, nI_add, pk_mul, pk_sub, nI_leI, nI_ltI, nI_eq, if_pos, if_neg, nn_neg, nn_ne, nn_ne2, nn_lt, nn_nlt, nn_nle, nn_le, nn_m1, li_0, li_1, li_2, li_3, li_4, li_5, li_9, li_10, li_19, li_20, li_26, li_40, li_60, li_64, li_97, li_48, li_100, li_199, li_200, li_1000, li_8200, li_9999, li_100000]
    rw [u4 27 (by decide) (by decide) (by decide)]
    simp (disch := omega) only [↓reduceIte, Nat.reduceSub, Nat.reduceAdd, Nat.reduceMul, Nat.sub_zero, Nat.add_zero, Nat.zero_add, Nat.mul_zero, lq_s, br_s, bd_s, bv_s, gd_tt, inB_nI, nI_clamp, sk_s, sk_n, pk_us, pk_un, nI_add, pk_mul, pk_sub, nI_leI, nI_ltI, nI_eq, if_pos, if_neg, nn_neg, nn_ne, nn_ne2, nn_lt, nn_nlt, nn_nle, nn_le, nn_m1, li_0, li_1, li_2, li_3, li_4, li_5, li_9, li_10, li_19, li_20, li_26, li_40, li_60, li_64, li_97, li_48, li_100, li_199, li_200, li_1000, li_8200, li_9999, li_100000]
    rw [c5 27 (by decide), a4 27 (by decide) (by decide) (by decide) (by decide)]
  · unfold KF at hk
    simp (disch := omega) only [↓reduceIte, Nat.reduceSub, Nat.reduceAdd, Nat.reduceMul, Nat.sub_zero, Nat.add_zero, Nat.zero_add, Nat.mul_zero, lq_s, br_s, bd_s, bv_s, gd_tt, inB_nI, nI_clamp, sk_s, sk_n, pk_us, pk_un, nI_add, pk_mul, pk_sub, nI_leI, nI_ltI, nI_eq, if_pos, if_neg, nn_neg, nn_ne, nn_ne2, nn_lt, nn_nlt, nn_nle, nn_le, nn_m1, li_0, li_1, li_2, li_3, li_4, li_5, li_9, li_10, li_19, li_20, li_26, li_40, li_60, li_64, li_97, li_48, li_100, li_199, li_200, li_1000, li_8200, li_9999, li_100000]
    exact sf k (by omega) (by omega) (by omega) (by omega) (by omega) (by omega) (by omega)
  · unfold RF at hk
    simp (disch := omega) only [↓reduceIte, Nat.reduceSub, Nat.reduceAdd, Nat.reduceMul, Nat.sub_zero, Nat.add_zero, Nat.zero_add, Nat.mul_zero, lq_s, br_s, bd_s, bv_s, gd_tt, inB_nI, nI_clamp, sk_s, sk_n, pk_us, pk_un, nI_add, pk_mul, pk_sub, nI_leI, nI_ltI, nI_eq, if_pos, if_neg, nn_neg, nn_ne, nn_ne2, nn_lt, nn_nlt, nn_nle, nn_le, nn_m1, li_0, li_1, li_2, li_3, li_4, li_5, li_9, li_10, li_19, li_20, li_26, li_40, li_60, li_64, li_97, li_48, li_100, li_199, li_200, li_1000, li_8200, li_9999, li_100000]
    exact rf3 k (by omega)
