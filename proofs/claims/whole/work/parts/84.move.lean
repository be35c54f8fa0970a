theorem Rel.built {c n : Nat} {pg kc : Nat → Nat} {kd : Nat → Nat → Nat} {pa ct : Nat → Int32} {ow : Nat → Nat → Int32} {σ ρ σ2 ρ2 : St} (h1 : WF n pg kc kd pa) (h2 : IV n pg kc kd pa ct ow σ2 26) (h3 : IV n pg kc kd pa ct ow ρ2 22) (h4 : FR n σ2) (h5 : LB σ ρ) (h6 : NX σ ρ) (h7 : TD σ ρ) (h8 : VS (c + 1) σ2) (h9 : ¬ σ2 29 0 = σ2 27 0) (hk : ∀ k, (k = 16 ∨ k = 17 ∨ k = 18 ∨ (19 < k ∧ k < 23) ∨ k = 24 ∨ k = 25 ∨ k = 31 ∨ k = 35 ∨ k = 37) → σ2 k = σ k) (hr : ∀ k, (12 < k ∧ k < 20) ∨ (24 < k ∧ k < 28) → ρ2 k = ρ k) : Rel (c + 1) σ2 ρ2 := by
  refine Rel.of h1 h2 h3 h4 (h5.keep (hk 35 (by omega)) (hk 20 (by omega)) (hk 21 (by omega)) (hk 22 (by omega)) (hr 26 (by omega)) (hr 15 (by omega)) (hr 16 (by omega)) (hr 17 (by omega))) (h6.keep (hk 37 (by omega)) (hk 24 (by omega)) (hk 25 (by omega)) (hr 27 (by omega)) (hr 18 (by omega)) (hr 19 (by omega))) (h7.keep (hk 18 (by omega)) (hk 31 (by omega)) (hk 16 (by omega)) (hk 17 (by omega)) (hr 25 (by omega)) (hr 13 (by omega)) (hr 14 (by omega))) h8 (fun q => absurd q h9)
set_option maxHeartbeats 2000000 in
/-- the move itself, beside the page at place e -/
theorem p_beside {c n : Nat} {pg kc : Nat → Nat} {kd : Nat → Nat → Nat} {pa ct : Nat → Int32} {ow : Nat → Nat → Int32} {σ ρ : St} (hc : c < 512) (a3 : oK n σ (wO n pg kc kd)) (a4 : oR ρ (wO n pg kc kd)) (a5 : σ 29 0 = σ 27 0) (w1 : WF n pg kc kd pa) (w2 : IV n pg kc kd pa ct ow σ 26) (w3 : IV n pg kc kd pa ct ow ρ 22) (w4 : FR n σ) (w5 : LB σ ρ) (w6 : NX σ ρ) (w7 : TD σ ρ) (w8 : VS c σ) {j e fl : Nat} {q q2 : Nat × Nat × Nat} (hj : (wO n pg kc kd)[j]? = some q) (he : (wO n pg kc kd)[e]? = some q2) (hne : e ≠ j) (hfl : fl ≤ 1) {to last : Int32} (htl : to = last ↔ fl = 1) : ∃ (r : Int32) (σ2 ρ2 : St), kJ_PT_move_81 σ (nI q.1) to last (nI e) = some (r, σ2) ∧ rJ_Md_move_101 ρ (nI q.1) to (nI fl) (nI e) = some (r, ρ2) ∧ Rel (c + 1) σ2 ρ2 := by
  have hn := w1.1
  have hl := wO_len w1.lf
  have hFU := FU_ge
  have hR := (Rel.of w1 w2 w3 w4 w5 w6 w7 w8 (fun _ => a3)).next
  obtain ⟨u1, u2, u3, u4, u5, u6⟩ := wO_good w1.lf hj
  obtain ⟨v1, v2, v3, v4, v5, v6⟩ := wO_good w1.lf he
  have hel := (List.getElem?_eq_some_iff.mp he).1
  have hpq : ¬ q2.1 = q.1 := fun z => hne (o_inj a3 (by omega) he hj z)
  have hre := k_again a5
  obtain ⟨l1, l2⟩ := k_where hre a3 hn hl he
  have hpa : kM_Order_pageAt σ (nI e) = some (nI q2.1, σ) := by
    unfold kM_Order_pageAt
    have k1 := a3.1
    have k9 := (a3.2.1 e q2 he).2.1
    rw [hre, bv_s]
    simp (disch := omega) only [↓reduceIte, Nat.reduceSub, Nat.reduceAdd, Nat.reduceMul, Nat.sub_zero, Nat.add_zero, Nat.zero_add, Nat.mul_zero, lq_s, br_s, bd_s, bv_s, gd_tt, inB_nI, nI_clamp, sk_s, sk_n, pk_us, pk_un, nI_add, pk_mul, pk_sub, nI_leI, nI_ltI, nI_eq, if_pos, if_neg, nn_neg, nn_ne, nn_ne2, nn_lt, nn_nlt, nn_nle, nn_le, nn_m1, li_0, li_1, li_2, li_3, li_4, li_5, li_9, li_10, li_19, li_20, li_26, li_40, li_60, li_64, li_97, li_48, li_100, li_199, li_200, li_1000, li_8200, li_9999, li_100000, k1, k9]
  obtain ⟨p, px, ps⟩ := q
  obtain ⟨y, x, s⟩ := q2
  have u1 : p < n := u1
  have u2 : pg p = 1 := u2
  have v1 : y < n := v1
  have v3 : x < n := v3
  have v4 : pg x = 0 := v4
  have v5 : s < kc x := v5
  have v6 : kd x s = y := v6
  have hpq : ¬ y = p := hpq
  have l1 : kM_Order_listerOf σ (nI y) = some (nI x, σ) := l1
  have hpa : kM_Order_pageAt σ (nI e) = some (nI y, σ) := hpa
  have h40 := w1.2.2.1 x v3
  have hcw := cw_le (kd x) p (kc x)
  have m1 : kM_Items_kidCountWithout σ (nI x) (nI p) = some (nI (cw (kd x) p (kc x))) := k_without w2.lv w1.lf v3 u1 (kc x) 0 FU (by omega) (by omega)
  have m2 : rM_Md_listed ρ (nI x) (nI p) = some (nI (kc x - cw (kd x) p (kc x))) := r_listed w3.lv w1.lf v3 u1 (kc x) 0 FU (by omega) (by omega)
  have r1 : ρ 9 e = nI y := (a4.2 e _ he).1
  have r2 : ρ 10 e = nI x := (a4.2 e _ he).2.1
  have r3 := w3.2.2.2.2.1 x v3
  show ∃ (r : Int32) (σ2 ρ2 : St), kJ_PT_move_81 σ (nI p) to last (nI e) = some (r, σ2) ∧ rJ_Md_move_101 ρ (nI p) to (nI fl) (nI e) = some (r, ρ2) ∧ Rel (c + 1) σ2 ρ2
  unfold kJ_PT_move_81 rJ_Md_move_101
  by_cases hroom : cw (kd x) p (kc x) < 40
  · obtain ⟨ow', σ1, ρ1, f1, f2, f3, f4, f5, f6, f7⟩ := own_all w1 (t := p) u1 4 0 FU FU ow σ ρ (by omega) (by omega) (by omega) w2 w3
    have z0 := kF_zero (kc := kc) (kd := kd) (p := p)
    obtain ⟨σ2, c1, c2, c3, c4, c5⟩ := k_dropAll (p := p) w1 u1 n 0 FU σ1 (by omega) (by omega) (by rw [z0.1, z0.2]; exact f3)
    obtain ⟨ρ2, d1, d2, d3⟩ := r_dropAll (p := p) w1 u1 n 0 FU ρ1 (by omega) (by omega) (by rw [z0.1, z0.2]; exact f4)
    have hW1 := w1.drop (p := p)
    have h27 : σ2 27 0 = σ 27 0 + nI 1 := by rw [c3, f5 27 (by decide)]
    have h29 : σ2 29 0 = σ 29 0 := by rw [c5 29 (by decide) (by decide) (by decide), f5 29 (by decide)]
    obtain ⟨σ3, g1, g2, g3, g4⟩ := k_refresh hW1.lf c2.lv (fun z => absurd z (w8.stale hc (b := 1) (by omega) (by omega) h27 h29))
    obtain ⟨ρ3, i1, i2, i3⟩ := r_walk0 hW1.lf d2.lv
    have hl1 := wO_len hW1.lf
    have hwd : wO n pg (kcF kc kd p n) (kdF kc kd p n) = dG kd p (wO n pg kc kd) := wO_drop w1.lf u2
    have hin : (y, x, cw (kd x) p s) ∈ wO n pg (kcF kc kd p n) (kdF kc kd p n) := by
      rw [hwd]
      exact dG_in (q := (y, x, s)) hpq _ (List.mem_of_getElem? he)
    obtain ⟨t, ht⟩ := List.getElem?_of_mem hin
    have htl2 := (List.getElem?_eq_some_iff.mp ht).1
    obtain ⟨-, -, -, -, b5, -⟩ := wO_good hW1.lf ht
    have b5 : cw (kd x) p s < kcF kc kd p n x := b5
    have hkc : kcF kc kd p n x = cw (kd x) p (kc x) := by unfold kcF; rw [if_pos v3]
    have n2 : kM_Order_slotOf σ2 (nI y) = some (nI (cw (kd x) p s), σ3) := (k_where g1 g2 hn hl1 ht).2
    have n3 : rM_Md_placeOf ρ2 (nI y) = some (nI t, ρ3) := by
      rcases p_place g1 g2 i1 i2 hn hl1 (nI y) with ⟨j', q', a1', a2', a3', a4'⟩ | ⟨a1', -⟩
      · have hq' := (g2.2.1 j' q' a1').1
        have e1 : y = q'.1 := (nI_eq (by omega) (by omega)).mp a2'
        have e2 : j' = t := o_inj g2 (by omega) a1' ht e1.symm
        rw [a4', e2]
      · exact absurd rfl (a1' t _ ht)
    have o1 : ρ3 10 t = nI x := (i2.2 t _ ht).2.1
    have o2 : ρ3 11 t = nI (cw (kd x) p s) := (i2.2 t _ ht).2.2
    have hI3 : IV n pg (kcF kc kd p n) (kdF kc kd p n) pa ct ow' σ3 26 := c2.keep (g4 26 (by omega)) (fun k hk => g4 k (by omega))
    have hJ3 : IV n pg (kcF kc kd p n) (kdF kc kd p n) pa ct ow' ρ3 22 := d2.keep (i3 22 (by omega)) (fun k hk => i3 k (by omega))
    obtain ⟨σ4, j1, j2, j3, j4, j5⟩ := k_insert (it := p) (s := cw (kd x) p s + fl) hI3 hW1 v3 v4 (by omega) (by omega)
    obtain ⟨ρ4, k1, k2, k3⟩ := r_insert (it := p) (s := cw (kd x) p s + fl) hJ3 hW1 v3 (by omega) (by omega) u1
    have hW2 := (hW1.ins (x := x) (sl := cw (kd x) p s + fl) (it := p) v3 (by omega) (by omega) u1 v4).par (i := p) (q := nI x) (Or.inr ⟨x, v3, rfl⟩)
    have hsp := k_setParent (q := nI x) j2.1 hn u1
    have hI5 := j2.par (i := p) (q := nI x) (by decide)
    refine ⟨to, sk σ4 1 (upd (σ4 1) p (nI x)), ρ4, ?_, ?_, ?_⟩
    · have ek1 : kM_Items_ownValuesOf σ (nI p) (nI p) = some σ1 := f1
      have ek2 : kM_Items_dropEverywhere σ1 (nI p) = some σ2 := c1
      rw [hpa, bd_s, l1, bd_s, m1, br_s, if_pos (show nI (cw (kd x) p (kc x)) < 40 from (nI_ltI (a := cw (kd x) p (kc x)) (b := 40) (by omega) (by omega)).mpr hroom), ek1, bv_s, ek2, bv_s, n2, bd_s]
      unfold kJ_PT_move_164
      rcases (show fl = 0 ∨ fl = 1 by omega) with h0 | h1
      · rw [if_neg (fun z => by have := htl.mp z; omega)]
        rw [h0, Nat.add_zero] at j1
        rw [j1, bv_s, hsp, bv_s]
      · rw [if_pos (htl.mpr h1)]
        rw [h1] at j1
        simp (disch := omega) only [↓reduceIte, Nat.reduceSub, Nat.reduceAdd, Nat.reduceMul, Nat.sub_zero, Nat.add_zero, Nat.zero_add, Nat.mul_zero, lq_s, br_s, bd_s, bv_s, gd_tt, inB_nI, nI_clamp, sk_s, sk_n, pk_us, pk_un, nI_add, pk_mul, pk_sub, nI_leI, nI_ltI, nI_eq, if_pos, if_neg, nn_neg, nn_ne, nn_ne2, nn_lt, nn_nlt, nn_nle, nn_le, nn_m1, li_0, li_1, li_2, li_3, li_4, li_5, li_9, li_10, li_19, li_20, li_26, li_40, li_60, li_64, li_97, li_48, li_100, li_199, li_200, li_1000, li_8200, li_9999, li_100000]
        rw [j1, bv_s, hsp, bv_s]
    · have ek1 : rM_Md_ownAll ρ (nI p) = some ρ1 := f2
      have ek2 : rM_Md_takeOffAll ρ1 (nI p) = some ρ2 := d1
      have hsub : kc x - (kc x - cw (kd x) p (kc x)) = cw (kd x) p (kc x) := by omega
      simp (disch := omega) only [↓reduceIte, Nat.reduceSub, Nat.reduceAdd, Nat.reduceMul, Nat.sub_zero, Nat.add_zero, Nat.zero_add, Nat.mul_zero, lq_s, br_s, bd_s, bv_s, gd_tt, inB_nI, nI_clamp, sk_s, sk_n, pk_us, pk_un, nI_add, pk_mul, pk_sub, nI_leI, nI_ltI, nI_eq, if_pos, if_neg, nn_neg, nn_ne, nn_ne2, nn_lt, nn_nlt, nn_nle, nn_le, nn_m1, li_0, li_1, li_2, li_3, li_4, li_5, li_9, li_10, li_19, li_20, li_26, li_40, li_60, li_64, li_97, li_48, li_100, li_199, li_200, li_1000, li_8200, li_9999, li_100000, r1, r2, m2, r3, hsub, ek1, ek2, n3]
      unfold rJ_Md_move_187
      rcases (show fl = 0 ∨ fl = 1 by omega) with h0 | h1
      · rw [h0] at k1 ⊢
        rw [Nat.add_zero] at k1
        simp (disch := omega) only [↓reduceIte, Nat.reduceSub, Nat.reduceAdd, Nat.reduceMul, Nat.sub_zero, Nat.add_zero, Nat.zero_add, Nat.mul_zero, lq_s, br_s, bd_s, bv_s, gd_tt, inB_nI, nI_clamp, sk_s, sk_n, pk_us, pk_un, nI_add, pk_mul, pk_sub, nI_leI, nI_ltI, nI_eq, if_pos, if_neg, nn_neg, nn_ne, nn_ne2, nn_lt, nn_nlt, nn_nle, nn_le, nn_m1, li_0, li_1, li_2, li_3, li_4, li_5, li_9, li_10, li_19, li_20, li_26, li_40, li_60, li_64, li_97, li_48, li_100, li_199, li_200, li_1000, li_8200, li_9999, li_100000, o1, o2, k1]
      · rw [h1] at k1 ⊢
        simp (disch := omega) only [↓reduceIte, Nat.reduceSub, Nat.reduceAdd, Nat.reduceMul, Nat.sub_zero, Nat.add_zero, Nat.zero_add, Nat.mul_zero, lq_s, br_s, bd_s, bv_s, gd_tt, inB_nI, nI_clamp, sk_s, sk_n, pk_us, pk_un, nI_add, pk_mul, pk_sub, nI_leI, nI_ltI, nI_eq, if_pos, if_neg, nn_neg, nn_ne, nn_ne2, nn_lt, nn_nlt, nn_nle, nn_le, nn_m1, li_0, li_1, li_2, li_3, li_4, li_5, li_9, li_10, li_19, li_20, li_26, li_40, li_60, li_64, li_97, li_48, li_100, li_199, li_200, li_1000, li_8200, li_9999, li_100000, o1, o2, k1]
    · obtain ⟨v, hv0, hv, -⟩ := w8
      have y27 : (sk σ4 1 (upd (σ4 1) p (nI x))) 27 0 = nI (v + 2) := by
        simp (disch := omega) only [↓reduceIte, Nat.reduceSub, Nat.reduceAdd, Nat.reduceMul, Nat.sub_zero, Nat.add_zero, Nat.zero_add, Nat.mul_zero, lq_s, br_s, bd_s, bv_s, gd_tt, inB_nI, nI_clamp, sk_s, sk_n, pk_us, pk_un, nI_add, pk_mul, pk_sub, nI_leI, nI_ltI, nI_eq, if_pos, if_neg, nn_neg, nn_ne, nn_ne2, nn_lt, nn_nlt, nn_nle, nn_le, nn_m1, li_0, li_1, li_2, li_3, li_4, li_5, li_9, li_10, li_19, li_20, li_26, li_40, li_60, li_64, li_97, li_48, li_100, li_199, li_200, li_1000, li_8200, li_9999, li_100000]
        rw [j3, g4 27 (by omega), h27, hv, nI_add, nI_add]
      have y29 : (sk σ4 1 (upd (σ4 1) p (nI x))) 29 0 = nI (v + 1) := by
        simp (disch := omega) only [↓reduceIte, Nat.reduceSub, Nat.reduceAdd, Nat.reduceMul, Nat.sub_zero, Nat.add_zero, Nat.zero_add, Nat.mul_zero, lq_s, br_s, bd_s, bv_s, gd_tt, inB_nI, nI_clamp, sk_s, sk_n, pk_us, pk_un, nI_add, pk_mul, pk_sub, nI_leI, nI_ltI, nI_eq, if_pos, if_neg, nn_neg, nn_ne, nn_ne2, nn_lt, nn_nlt, nn_nle, nn_le, nn_m1, li_0, li_1, li_2, li_3, li_4, li_5, li_9, li_10, li_19, li_20, li_26, li_40, li_60, li_64, li_97, li_48, li_100, li_199, li_200, li_1000, li_8200, li_9999, li_100000]
        rw [j5 29 (by decide) (by decide) (by decide), g3, h27, hv, nI_add]
      refine Rel.built (σ := σ) (ρ := ρ) hW2 hI5 k2 (fun i h1 h2 => ⟨?_, fun k hk => ?_⟩) w5 w6 w7 ⟨v + 2, by omega, y27, Or.inr ⟨v + 1, by omega, y29⟩⟩ ?_ (fun k hk => ?_) (fun k hk => ?_)
      · simp (disch := omega) only [↓reduceIte, Nat.reduceSub, Nat.reduceAdd, Nat.reduceMul, Nat.sub_zero, Nat.add_zero, Nat.zero_add, Nat.mul_zero, lq_s, br_s, bd_s, bv_s, gd_tt, inB_nI, nI_clamp, sk_s, sk_n, pk_us, pk_un, nI_add, pk_mul, pk_sub, nI_leI, nI_ltI, nI_eq, if_pos, if_neg, nn_neg, nn_ne, nn_ne2, nn_lt, nn_nlt, nn_nle, nn_le, nn_m1, li_0, li_1, li_2, li_3, li_4, li_5, li_9, li_10, li_19, li_20, li_26, li_40, li_60, li_64, li_97, li_48, li_100, li_199, li_200, li_1000, li_8200, li_9999, li_100000]
        rw [j4, pk_un (by omega), g4 3 (by omega), c4 i h1, f5 3 (by decide)]
        exact (w4 i h1 h2).1
      · simp (disch := omega) only [↓reduceIte, Nat.reduceSub, Nat.reduceAdd, Nat.reduceMul, Nat.sub_zero, Nat.add_zero, Nat.zero_add, Nat.mul_zero, lq_s, br_s, bd_s, bv_s, gd_tt, inB_nI, nI_clamp, sk_s, sk_n, pk_us, pk_un, nI_add, pk_mul, pk_sub, nI_leI, nI_ltI, nI_eq, if_pos, if_neg, nn_neg, nn_ne, nn_ne2, nn_lt, nn_nlt, nn_nle, nn_le, nn_m1, li_0, li_1, li_2, li_3, li_4, li_5, li_9, li_10, li_19, li_20, li_26, li_40, li_60, li_64, li_97, li_48, li_100, li_199, li_200, li_1000, li_8200, li_9999, li_100000]
        rw [j5 5 (by decide) (by decide) (by decide), g4 5 (by omega), c5 5 (by decide) (by decide) (by decide), f6 _ (by omega)]
        exact (w4 i h1 h2).2 k hk
      · rw [y27, y29]
        intro z
        have := (nI_eq (by omega) (by omega)).mp z
        omega
      · simp (disch := omega) only [↓reduceIte, Nat.reduceSub, Nat.reduceAdd, Nat.reduceMul, Nat.sub_zero, Nat.add_zero, Nat.zero_add, Nat.mul_zero, lq_s, br_s, bd_s, bv_s, gd_tt, inB_nI, nI_clamp, sk_s, sk_n, pk_us, pk_un, nI_add, pk_mul, pk_sub, nI_leI, nI_ltI, nI_eq, if_pos, if_neg, nn_neg, nn_ne, nn_ne2, nn_lt, nn_nlt, nn_nle, nn_le, nn_m1, li_0, li_1, li_2, li_3, li_4, li_5, li_9, li_10, li_19, li_20, li_26, li_40, li_60, li_64, li_97, li_48, li_100, li_199, li_200, li_1000, li_8200, li_9999, li_100000]
        rw [j5 k (by omega) (by omega) (by omega), g4 k (by omega), c5 k (by omega) (by omega) (by omega), f5 k (by omega)]
      · rw [k3 k (by omega) (by omega) (by omega), i3 k (by omega), d3 k (by omega) (by omega), f7 k (by omega)]
  · refine ⟨nM 4, σ, ρ, ?_, ?_, hR⟩
    · rw [hpa, bd_s, l1, bd_s, m1, br_s, if_neg (show ¬ nI (cw (kd x) p (kc x)) < 40 from fun z => hroom ((nI_ltI (a := cw (kd x) p (kc x)) (b := 40) (by omega) (by omega)).mp z))]
      rfl
    · have hsub : kc x - (kc x - cw (kd x) p (kc x)) = cw (kd x) p (kc x) := by omega
      simp (disch := omega) only [↓reduceIte, Nat.reduceSub, Nat.reduceAdd, Nat.reduceMul, Nat.sub_zero, Nat.add_zero, Nat.zero_add, Nat.mul_zero, lq_s, br_s, bd_s, bv_s, gd_tt, inB_nI, nI_clamp, sk_s, sk_n, pk_us, pk_un, nI_add, pk_mul, pk_sub, nI_leI, nI_ltI, nI_eq, if_pos, if_neg, nn_neg, nn_ne, nn_ne2, nn_lt, nn_nlt, nn_nle, nn_le, nn_m1, li_0, li_1, li_2, li_3, li_4, li_5, li_9, li_10, li_19, li_20, li_26, li_40, li_60, li_64, li_97, li_48, li_100, li_199, li_200, li_1000, li_8200, li_9999, li_100000, r1, r2, m2, r3, hsub]
theorem p_move : lF_move Rel := by
  intro c σ ρ x to hc h
  obtain ⟨σ', ρ', n, pg, kc, kd, pa, ct, ow, a1, a2, a3, a4, a5, w1, w2, w3, w4, w5, w6, w7, w8⟩ := h.walked
  have hR := (Rel.of w1 w2 w3 w4 w5 w6 w7 w8 (fun _ => a3)).next
  have hn := w1.1
  have hl := wO_len w1.lf
  have hFU := FU_ge
  unfold kM_PT_move rM_Md_move
  rcases p_place a1 a3 a2 a4 w1.1 hl x with ⟨j, q, b1, b2, b3, b4⟩ | ⟨b1, b2, b3⟩
  · have hj := (List.getElem?_eq_some_iff.mp b1).1
    have s1 : ¬ nI j = (-1 : Int32) := by
      rw [show (-1 : Int32) = nM 1 from rfl, nn_ne (by omega) (by omega) (by omega)]
      exact fun z => z
    have s2 : (0 : Int32) ≤ nI j := nI_pos' (by omega)
    have hre := k_again a5
    have hsz : kM_Order_size σ' = some (nI (wO n pg kc kd).length, σ') := by
      unfold kM_Order_size
      rw [hre, bv_s, a3.1]
    have hat : ∀ e, e < (wO n pg kc kd).length → ∃ q2, (wO n pg kc kd)[e]? = some q2 := fun e he => ⟨_, List.getElem?_eq_getElem he⟩
    have r24 := a4.1
    rw [b3, b4, bd_s, bd_s, if_neg s1, if_pos s2, hsz, bd_s, r24, b2]
    generalize hlen : (wO n pg kc kd).length = len at *
    have hcore := fun (e fl : Nat) (he : e < len) (hne : e ≠ j) (hfl : fl ≤ 1) (to last : Int32) (htl : to = last ↔ fl = 1) => p_beside hc a3 a4 a5 w1 w2 w3 w4 w5 w6 w7 w8 b1 (hat e he).choose_spec hne hfl htl
    rw [show (0 : Int32) = nI 0 from rfl, show (1 : Int32) = nI 1 from rfl]
    have hsub : nI len - nI 1 = nI (len - 1) := by simp (disch := omega) only [↓reduceIte, Nat.reduceSub, Nat.reduceAdd, Nat.reduceMul, Nat.sub_zero, Nat.add_zero, Nat.zero_add, Nat.mul_zero, lq_s, br_s, bd_s, bv_s, gd_tt, inB_nI, nI_clamp, sk_s, sk_n, pk_us, pk_un, nI_add, pk_mul, pk_sub, nI_leI, nI_ltI, nI_eq, if_pos, if_neg, nn_neg, nn_ne, nn_ne2, nn_lt, nn_nlt, nn_nle, nn_le, nn_m1, li_0, li_1, li_2, li_3, li_4, li_5, li_9, li_10, li_19, li_20, li_26, li_40, li_60, li_64, li_97, li_48, li_100, li_199, li_200, li_1000, li_8200, li_9999, li_100000]
    rw [hsub]
    rcases ix_cases to (n := len) (by omega) with hx | hx | ⟨i, hi, rfl⟩
    · rw [w_n (Or.inl hx)]
      refine ⟨nM 2, σ', ρ', ?_, by simp (disch := omega) only [↓reduceIte, Nat.reduceSub, Nat.reduceAdd, Nat.reduceMul, Nat.sub_zero, Nat.add_zero, Nat.zero_add, Nat.mul_zero, lq_s, br_s, bd_s, bv_s, gd_tt, inB_nI, nI_clamp, sk_s, sk_n, pk_us, pk_un, nI_add, pk_mul, pk_sub, nI_leI, nI_ltI, nI_eq, if_pos, if_neg, nn_neg, nn_ne, nn_ne2, nn_lt, nn_nlt, nn_nle, nn_le, nn_m1, li_0, li_1, li_2, li_3, li_4, li_5, li_9, li_10, li_19, li_20, li_26, li_40, li_60, li_64, li_97, li_48, li_100, li_199, li_200, li_1000, li_8200, li_9999, li_100000], hR⟩
      rw [lq_s, if_pos hx]
      rfl
    · have hx2 : ¬ to ≤ nI (len - 1) := fun z => by
        have y1 := Int32.le_iff_toInt_le.mp z
        have y2 := Int32.le_iff_toInt_le.mp hx.2
        rw [nI_toInt (by omega)] at y1 y2
        omega
      rw [w_n (Or.inr (Int32.not_le.mp hx2))]
      refine ⟨nM 2, σ', ρ', ?_, by simp (disch := omega) only [↓reduceIte, Nat.reduceSub, Nat.reduceAdd, Nat.reduceMul, Nat.sub_zero, Nat.add_zero, Nat.zero_add, Nat.mul_zero, lq_s, br_s, bd_s, bv_s, gd_tt, inB_nI, nI_clamp, sk_s, sk_n, pk_us, pk_un, nI_add, pk_mul, pk_sub, nI_leI, nI_ltI, nI_eq, if_pos, if_neg, nn_neg, nn_ne, nn_ne2, nn_lt, nn_nlt, nn_nle, nn_le, nn_m1, li_0, li_1, li_2, li_3, li_4, li_5, li_9, li_10, li_19, li_20, li_26, li_40, li_60, li_64, li_97, li_48, li_100, li_199, li_200, li_1000, li_8200, li_9999, li_100000], hR⟩
      rw [lq_s, if_neg hx.1, if_neg hx2]
      rfl
    · have hin1 : ¬ nI i < nI 0 := nI_pos (by omega)
      have hin2 : ¬ nI (len - 1) < nI i := fun z => by
        have := (nI_ltI (a := len - 1) (b := i) (by omega) (by omega)).mp z
        omega
      rw [w_y hin1 hin2]
      by_cases h1 : len = 1
      · have hj0 : j = 0 := by omega
        rw [h1, hj0]
        exact ⟨nI 0, σ', ρ', by simp (disch := omega) only [↓reduceIte, Nat.reduceSub, Nat.reduceAdd, Nat.reduceMul, Nat.sub_zero, Nat.add_zero, Nat.zero_add, Nat.mul_zero, lq_s, br_s, bd_s, bv_s, gd_tt, inB_nI, nI_clamp, sk_s, sk_n, pk_us, pk_un, nI_add, pk_mul, pk_sub, nI_leI, nI_ltI, nI_eq, if_pos, if_neg, nn_neg, nn_ne, nn_ne2, nn_lt, nn_nlt, nn_nle, nn_le, nn_m1, li_0, li_1, li_2, li_3, li_4, li_5, li_9, li_10, li_19, li_20, li_26, li_40, li_60, li_64, li_97, li_48, li_100, li_199, li_200, li_1000, li_8200, li_9999, li_100000], by simp (disch := omega) only [↓reduceIte, Nat.reduceSub, Nat.reduceAdd, Nat.reduceMul, Nat.sub_zero, Nat.add_zero, Nat.zero_add, Nat.mul_zero, lq_s, br_s, bd_s, bv_s, gd_tt, inB_nI, nI_clamp, sk_s, sk_n, pk_us, pk_un, nI_add, pk_mul, pk_sub, nI_leI, nI_ltI, nI_eq, if_pos, if_neg, nn_neg, nn_ne, nn_ne2, nn_lt, nn_nlt, nn_nle, nn_le, nn_m1, li_0, li_1, li_2, li_3, li_4, li_5, li_9, li_10, li_19, li_20, li_26, li_40, li_60, li_64, li_97, li_48, li_100, li_199, li_200, li_1000, li_8200, li_9999, li_100000], hR⟩
      · unfold kJ_PT_move_60 rJ_Md_move_54
        by_cases hlast : i = len - 1
        · subst hlast
          have hc2 : len - 1 - 1 = len - 2 := by omega
          by_cases hjl : j = len - 1
          · obtain ⟨r, σ2, ρ2, y1, y2, y3⟩ := hcore (len - 2) 1 (by omega) (by omega) (by omega) (nI (len - 1)) (nI (len - 1)) (by simp)
            refine ⟨r, σ2, ρ2, ?_, ?_, y3⟩
            · simp (disch := omega) only [↓reduceIte, Nat.reduceSub, Nat.reduceAdd, Nat.reduceMul, Nat.sub_zero, Nat.add_zero, Nat.zero_add, Nat.mul_zero, lq_s, br_s, bd_s, bv_s, gd_tt, inB_nI, nI_clamp, sk_s, sk_n, pk_us, pk_un, nI_add, pk_mul, pk_sub, nI_leI, nI_ltI, nI_eq, if_pos, if_neg, nn_neg, nn_ne, nn_ne2, nn_lt, nn_nlt, nn_nle, nn_le, nn_m1, li_0, li_1, li_2, li_3, li_4, li_5, li_9, li_10, li_19, li_20, li_26, li_40, li_60, li_64, li_97, li_48, li_100, li_199, li_200, li_1000, li_8200, li_9999, li_100000, hc2]; exact y1
            · simp (disch := omega) only [↓reduceIte, Nat.reduceSub, Nat.reduceAdd, Nat.reduceMul, Nat.sub_zero, Nat.add_zero, Nat.zero_add, Nat.mul_zero, lq_s, br_s, bd_s, bv_s, gd_tt, inB_nI, nI_clamp, sk_s, sk_n, pk_us, pk_un, nI_add, pk_mul, pk_sub, nI_leI, nI_ltI, nI_eq, if_pos, if_neg, nn_neg, nn_ne, nn_ne2, nn_lt, nn_nlt, nn_nle, nn_le, nn_m1, li_0, li_1, li_2, li_3, li_4, li_5, li_9, li_10, li_19, li_20, li_26, li_40, li_60, li_64, li_97, li_48, li_100, li_199, li_200, li_1000, li_8200, li_9999, li_100000, r24, hlen]; exact y2
          · obtain ⟨r, σ2, ρ2, y1, y2, y3⟩ := hcore (len - 1) 1 (by omega) (by omega) (by omega) (nI (len - 1)) (nI (len - 1)) (by simp)
            have hc3 : len - 2 + 1 = len - 1 := by omega
            refine ⟨r, σ2, ρ2, ?_, ?_, y3⟩
            · simp (disch := omega) only [↓reduceIte, Nat.reduceSub, Nat.reduceAdd, Nat.reduceMul, Nat.sub_zero, Nat.add_zero, Nat.zero_add, Nat.mul_zero, lq_s, br_s, bd_s, bv_s, gd_tt, inB_nI, nI_clamp, sk_s, sk_n, pk_us, pk_un, nI_add, pk_mul, pk_sub, nI_leI, nI_ltI, nI_eq, if_pos, if_neg, nn_neg, nn_ne, nn_ne2, nn_lt, nn_nlt, nn_nle, nn_le, nn_m1, li_0, li_1, li_2, li_3, li_4, li_5, li_9, li_10, li_19, li_20, li_26, li_40, li_60, li_64, li_97, li_48, li_100, li_199, li_200, li_1000, li_8200, li_9999, li_100000, hc2, hc3]; exact y1
            · simp (disch := omega) only [↓reduceIte, Nat.reduceSub, Nat.reduceAdd, Nat.reduceMul, Nat.sub_zero, Nat.add_zero, Nat.zero_add, Nat.mul_zero, lq_s, br_s, bd_s, bv_s, gd_tt, inB_nI, nI_clamp, sk_s, sk_n, pk_us, pk_un, nI_add, pk_mul, pk_sub, nI_leI, nI_ltI, nI_eq, if_pos, if_neg, nn_neg, nn_ne, nn_ne2, nn_lt, nn_nlt, nn_nle, nn_le, nn_m1, li_0, li_1, li_2, li_3, li_4, li_5, li_9, li_10, li_19, li_20, li_26, li_40, li_60, li_64, li_97, li_48, li_100, li_199, li_200, li_1000, li_8200, li_9999, li_100000, r24, hlen]; exact y2
        · have htl : nI i = nI (len - 1) ↔ 0 = 1 := ⟨fun z => by have := (nI_eq (by omega) (by omega)).mp z; omega, fun z => by omega⟩
          by_cases hji : j ≤ i
          · obtain ⟨r, σ2, ρ2, y1, y2, y3⟩ := hcore (i + 1) 0 (by omega) (by omega) (by omega) (nI i) (nI (len - 1)) htl
            refine ⟨r, σ2, ρ2, ?_, ?_, y3⟩
            · simp (disch := omega) only [↓reduceIte, Nat.reduceSub, Nat.reduceAdd, Nat.reduceMul, Nat.sub_zero, Nat.add_zero, Nat.zero_add, Nat.mul_zero, lq_s, br_s, bd_s, bv_s, gd_tt, inB_nI, nI_clamp, sk_s, sk_n, pk_us, pk_un, nI_add, pk_mul, pk_sub, nI_leI, nI_ltI, nI_eq, if_pos, if_neg, nn_neg, nn_ne, nn_ne2, nn_lt, nn_nlt, nn_nle, nn_le, nn_m1, li_0, li_1, li_2, li_3, li_4, li_5, li_9, li_10, li_19, li_20, li_26, li_40, li_60, li_64, li_97, li_48, li_100, li_199, li_200, li_1000, li_8200, li_9999, li_100000]; exact y1
            · simp (disch := omega) only [↓reduceIte, Nat.reduceSub, Nat.reduceAdd, Nat.reduceMul, Nat.sub_zero, Nat.add_zero, Nat.zero_add, Nat.mul_zero, lq_s, br_s, bd_s, bv_s, gd_tt, inB_nI, nI_clamp, sk_s, sk_n, pk_us, pk_un, nI_add, pk_mul, pk_sub, nI_leI, nI_ltI, nI_eq, if_pos, if_neg, nn_neg, nn_ne, nn_ne2, nn_lt, nn_nlt, nn_nle, nn_le, nn_m1, li_0, li_1, li_2, li_3, li_4, li_5, li_9, li_10, li_19, li_20, li_26, li_40, li_60, li_64, li_97, li_48, li_100, li_199, li_200, li_1000, li_8200, li_9999, li_100000, r24, hlen]; exact y2
          · obtain ⟨r, σ2, ρ2, y1, y2, y3⟩ := hcore i 0 (by omega) (by omega) (by omega) (nI i) (nI (len - 1)) htl
            refine ⟨r, σ2, ρ2, ?_, ?_, y3⟩
            · simp (disch := omega) only [↓reduceIte, Nat.reduceSub, Nat.reduceAdd, Nat.reduceMul, Nat.sub_zero, Nat.add_zero, Nat.zero_add, Nat.mul_zero, lq_s, br_s, bd_s, bv_s, gd_tt, inB_nI, nI_clamp, sk_s, sk_n, pk_us, pk_un, nI_add, pk_mul, pk_sub, nI_leI, nI_ltI, nI_eq, if_pos, if_neg, nn_neg, nn_ne, nn_ne2, nn_lt, nn_nlt, nn_nle, nn_le, nn_m1, li_0, li_1, li_2, li_3, li_4, li_5, li_9, li_10, li_19, li_20, li_26, li_40, li_60, li_64, li_97, li_48, li_100, li_199, li_200, li_1000, li_8200, li_9999, li_100000]; exact y1
            · simp (disch := omega) only [↓reduceIte, Nat.reduceSub, Nat.reduceAdd, Nat.reduceMul, Nat.sub_zero, Nat.add_zero, Nat.zero_add, Nat.mul_zero, lq_s, br_s, bd_s, bv_s, gd_tt, inB_nI, nI_clamp, sk_s, sk_n, pk_us, pk_un, nI_add, pk_mul, pk_sub, nI_leI, nI_ltI, nI_eq, if_pos, if_neg, nn_neg, nn_ne, nn_ne2, nn_lt, nn_nlt, nn_nle, nn_le, nn_m1, li_0, li_1, li_2, li_3, li_4, li_5, li_9, li_10, li_19, li_20, li_26, li_40, li_60, li_64, li_97, li_48, li_100, li_199, li_200, li_1000, li_8200, li_9999, li_100000, r24, hlen]; exact y2
  · rw [b2, b3]
    exact ⟨nM 1, σ', ρ', by simp (disch := omega) only [↓reduceIte, Nat.reduceSub, Nat.reduceAdd, Nat.reduceMul, Nat.sub_zero, Nat.add_zero, Nat.zero_add, Nat.mul_zero, lq_s, br_s, bd_s, bv_s, gd_tt, inB_nI, nI_clamp, sk_s, sk_n, pk_us, pk_un, nI_add, pk_mul, pk_sub, nI_leI, nI_ltI, nI_eq, if_pos, if_neg, nn_neg, nn_ne, nn_ne2, nn_lt, nn_nlt, nn_nle, nn_le, nn_m1, li_0, li_1, li_2, li_3, li_4, li_5, li_9, li_10, li_19, li_20, li_26, li_40, li_60, li_64, li_97, li_48, li_100, li_199, li_200, li_1000, li_8200, li_9999, li_100000], by simp (disch := omega) only [↓reduceIte, Nat.reduceSub, Nat.reduceAdd, Nat.reduceMul, Nat.sub_zero, Nat.add_zero, Nat.zero_add, Nat.mul_zero, lq_s, br_s, bd_s, bv_s, gd_tt, inB_nI, nI_clamp, sk_s, sk_n, pk_us, pk_un, nI_add, pk_mul, pk_sub, nI_leI, nI_ltI, nI_eq, if_pos, if_neg, nn_neg, nn_ne, nn_ne2, nn_lt, nn_nlt, nn_nle, nn_le, nn_m1, li_0, li_1, li_2, li_3, li_4, li_5, li_9, li_10, li_19, li_20, li_26, li_40, li_60, li_64, li_97, li_48, li_100, li_199, li_200, li_1000, li_8200, li_9999, li_100000], hR⟩
