/-- the class: one more item, the last of a list -/
theorem k_addLast {n : Nat} {pg kc : Nat → Nat} {kd : Nat → Nat → Nat} {pa ct : Nat → Int32} {ow : Nat → Nat → Int32} {σ : St} {x p : Nat} {co : Int32} (hI : IV n pg kc kd pa ct ow σ 26) (hFr : FR n σ) (hW : WF n pg kc kd pa) (hn : n < 200) (hp : p ≤ 1) (hx : x < n) (hpx : pg x = 0) (h40 : kc x < 40) : ∃ σ', kM_PT_addLast σ (nI x) (nI p) co = some (nI n, σ') ∧ IV (n + 1) (va_up pg n p) (va_up (va_up kc n 0) x (kc x + 1)) (insKd kd x (kc x) n) (va_up pa n (nI x)) (va_up ct n co) (fun i k => if i = n then nM 1 else ow i k) σ' 26 ∧ WF (n + 1) (va_up pg n p) (va_up (va_up kc n 0) x (kc x + 1)) (insKd kd x (kc x) n) (va_up pa n (nI x)) ∧ FR (n + 1) σ' ∧ σ' 27 0 = σ 27 0 + nI 1 ∧ ∀ k, 5 < k → k ≠ 26 → k ≠ 27 → σ' k = σ k := by
  obtain ⟨σ1, a1, a2, a3, a4⟩ := k_add (q := nI x) (co := co) hI hFr hn hp
  have hW1 := hW.more hn hp (q := nI x) (Or.inr ⟨x, hx, rfl⟩) (fun z => by omega)
  have hne : x ≠ n := by omega
  have hkx : va_up kc n 0 x = kc x := va_up_ne kc 0 hne
  have hpx1 : va_up pg n p x = 0 := by rw [va_up_ne pg p hne]; exact hpx
  obtain ⟨σ2, b1, b2, b3, b4, b5⟩ := k_insert (it := n) (s := kc x) a2 hW1 (by omega) hpx1 (by rw [hkx]; exact Nat.le_refl _) (by rw [hkx]; exact h40)
  have hW2 := hW1.ins (x := x) (sl := kc x) (it := n) (by omega) (by rw [hkx]; exact Nat.le_refl _) (by rw [hkx]; exact h40) (by omega) hpx1
  rw [hkx] at b2 hW2 b4
  refine ⟨σ2, ?_, b2, hW2, ?_, ?_, fun k h5 h26 h27 => ?_⟩
  · unfold kM_PT_addLast kM_Items_isFull kM_Items_appendKid
    have e1 := k_isNode_y hI.1 (by omega) hx (hI.2.1 x hx) (by omega)
    rw [hpx] at e1
    have e2 := k_noSlot_y hI.1 (by omega) hx (hI.2.2.2.2.1 x hx) (by omega)
    rw [if_pos h40] at e2
    have e3 := k_kidCountOf_y a2.1 (by omega) (show x < n + 1 by omega) (a2.2.2.2.2.1 x (by omega))
    rw [hkx] at e3
    have z := hI.1
    simp (disch := omega) only [↓reduceIte, Nat.reduceSub, Nat.reduceAdd, Nat.reduceMul, Nat.sub_zero, Nat.add_zero, Nat.zero_add, Nat.mul_zero, lq_s, br_s, bd_s, bv_s, gd_tt, inB_nI, nI_clamp, sk_s, sk_n, pk_us, pk_un, nI_add, pk_mul, pk_sub, nI_leI, nI_ltI, nI_eq, if_pos, if_neg, nn_neg, nn_ne, nn_ne2, nn_lt, nn_nlt, nn_nle, nn_le, nn_m1, li_0, li_1, li_2, li_3, li_4, li_5, li_9, li_10, li_19, li_20, li_26, li_40, li_60, li_64, li_97, li_48, li_100, li_199, li_200, li_1000, li_8200, li_9999, li_100000, e1, e2, z, a1, e3, b1]
  · intro i h1 h2
    have hF := a3 i h1 h2
    refine ⟨?_, fun k hk => ?_⟩
    · rw [b4, pk_un (by omega)]; exact hF.1
    · rw [b5 5 (by decide) (by decide) (by decide)]; exact hF.2 k hk
  · rw [b3, a4 27 (by decide) (by decide) (by decide) (by decide)]
  · rw [b5 k (by omega) (by omega) h27, a4 k (by omega) (by omega) (by omega) h26]
/-- the reference's -/
theorem r_addLast {n : Nat} {pg kc : Nat → Nat} {kd : Nat → Nat → Nat} {pa ct : Nat → Int32} {ow : Nat → Nat → Int32} {σ : St} {x p : Nat} {co : Int32} (hI : IV n pg kc kd pa ct ow σ 22) (hW : WF n pg kc kd pa) (hn : n < 200) (hp : p ≤ 1) (hco : p = 1 → co = nI 0) (hx : x < n) (h40 : kc x < 40) : ∃ σ1 σ', rM_Md_made σ (nI p) (nI x) co = some (nI n, σ1) ∧ rM_Md_append σ1 (nI x) (nI n) = some σ' ∧ IV (n + 1) (va_up pg n p) (va_up (va_up kc n 0) x (kc x + 1)) (insKd kd x (kc x) n) (va_up pa n (nI x)) (va_up ct n co) (fun i k => if i = n then nM 1 else ow i k) σ' 22 ∧ ∀ k, 5 < k → k ≠ 22 → σ' k = σ k := by
  obtain ⟨σ1, a1, a2, a3⟩ := r_made (q := nI x) (co := co) hI hn hp hco
  have hW1 := hW.more hn hp (q := nI x) (Or.inr ⟨x, hx, rfl⟩) (fun z => by omega)
  have hkx : va_up kc n 0 x = kc x := va_up_ne kc 0 (by omega)
  obtain ⟨σ2, b1, b2, b3⟩ := r_append (it := n) a2 hW1 (show x < n + 1 by omega) (by rw [hkx]; exact h40)
  rw [hkx] at b2
  exact ⟨σ1, σ2, a1, b1, b2, fun k h5 h22 => by rw [b3 k (by omega) (by omega), a3 k (Or.inl ⟨h5, h22⟩)]⟩
theorem p_page : lF_page Rel := by
  intro c σ ρ x hc h
  have h' := h
  obtain ⟨n, pg, kc, kd, pa, ct, ow, w1, w2, w3, w4, w5, w6, w7, w8, w9⟩ := h'
  have z1 := w2.1
  have z2 := w3.1
  have m2 := w1.1
  unfold kM_PT_page rM_Md_page
  have hbad : ∀ (hb : x < nI 0 ∨ (¬ x < nI 0 ∧ nI n ≤ x)), ∃ (r : Int32) (σ2 ρ2 : St), (bd (kM_PT_addLast σ x 1 0) fun r2 σ3 => some (r2, σ3)) = some (r, σ2) ∧ (br (rM_Md_isNode ρ x) fun r2 => if r2 = 0 then some ((-1), ρ) else if (ρ 22 0) = 200 then some ((-4), ρ) else gd (inB x 200) (if (ρ 3 x.toNatClampNeg) = 40 then some ((-4), ρ) else bd (rM_Md_made ρ 1 x 0) fun r8 σ9 => bv (rM_Md_append σ9 x r8) fun σ11 => some (r8, σ11))) = some (r, ρ2) ∧ Rel (c + 1) σ2 ρ2 := by
    intro hb
    unfold kM_PT_addLast
    rw [k_isNode_n z1 hb, r_isNode_n z2 hb]
    exact ⟨nM 1, σ, ρ, by simp (disch := omega) only [↓reduceIte, Nat.reduceSub, Nat.reduceAdd, Nat.reduceMul, Nat.sub_zero, Nat.add_zero, Nat.zero_add, Nat.mul_zero, lq_s, br_s, bd_s, bv_s, gd_tt, inB_nI, nI_clamp, sk_s, sk_n, pk_us, pk_un, nI_add, pk_mul, pk_sub, nI_leI, nI_ltI, nI_eq, if_pos, if_neg, nn_neg, nn_ne, nn_ne2, nn_lt, nn_nlt, nn_nle, nn_le, nn_m1, li_0, li_1, li_2, li_3, li_4, li_5, li_9, li_10, li_19, li_20, li_26, li_40, li_60, li_64, li_97, li_48, li_100, li_199, li_200, li_1000, li_8200, li_9999, li_100000], by simp (disch := omega) only [↓reduceIte, Nat.reduceSub, Nat.reduceAdd, Nat.reduceMul, Nat.sub_zero, Nat.add_zero, Nat.zero_add, Nat.mul_zero, lq_s, br_s, bd_s, bv_s, gd_tt, inB_nI, nI_clamp, sk_s, sk_n, pk_us, pk_un, nI_add, pk_mul, pk_sub, nI_leI, nI_ltI, nI_eq, if_pos, if_neg, nn_neg, nn_ne, nn_ne2, nn_lt, nn_nlt, nn_nle, nn_le, nn_m1, li_0, li_1, li_2, li_3, li_4, li_5, li_9, li_10, li_19, li_20, li_26, li_40, li_60, li_64, li_97, li_48, li_100, li_199, li_200, li_1000, li_8200, li_9999, li_100000], h.next⟩
  rcases ix_cases x (n := n) (by omega) with hx | hx | ⟨i, hi, rfl⟩
  · exact hbad (Or.inl hx)
  · exact hbad (Or.inr hx)
  · have hp1 := w1.2.1 i hi
    have hk1 := w1.2.2.1 i hi
    rw [r_isNode_y z2 m2 hi (w3.2.1 i hi) hp1]
    have e1 := k_isNode_y z1 m2 hi (w2.2.1 i hi) hp1
    by_cases hp : pg i = 0
    · rw [hp] at e1 ⊢
      have e3 := w3.2.2.2.2.1 i hi
      by_cases hn : n = 200
      · subst hn
        refine ⟨nM 4, σ, ρ, ?_, by simp (disch := omega) only [↓reduceIte, Nat.reduceSub, Nat.reduceAdd, Nat.reduceMul, Nat.sub_zero, Nat.add_zero, Nat.zero_add, Nat.mul_zero, lq_s, br_s, bd_s, bv_s, gd_tt, inB_nI, nI_clamp, sk_s, sk_n, pk_us, pk_un, nI_add, pk_mul, pk_sub, nI_leI, nI_ltI, nI_eq, if_pos, if_neg, nn_neg, nn_ne, nn_ne2, nn_lt, nn_nlt, nn_nle, nn_le, nn_m1, li_0, li_1, li_2, li_3, li_4, li_5, li_9, li_10, li_19, li_20, li_26, li_40, li_60, li_64, li_97, li_48, li_100, li_199, li_200, li_1000, li_8200, li_9999, li_100000, z2], h.next⟩
        unfold kM_PT_addLast kM_Items_isFull
        simp (disch := omega) only [↓reduceIte, Nat.reduceSub, Nat.reduceAdd, Nat.reduceMul, Nat.sub_zero, Nat.add_zero, Nat.zero_add, Nat.mul_zero, lq_s, br_s, bd_s, bv_s, gd_tt, inB_nI, nI_clamp, sk_s, sk_n, pk_us, pk_un, nI_add, pk_mul, pk_sub, nI_leI, nI_ltI, nI_eq, if_pos, if_neg, nn_neg, nn_ne, nn_ne2, nn_lt, nn_nlt, nn_nle, nn_le, nn_m1, li_0, li_1, li_2, li_3, li_4, li_5, li_9, li_10, li_19, li_20, li_26, li_40, li_60, li_64, li_97, li_48, li_100, li_199, li_200, li_1000, li_8200, li_9999, li_100000, e1, z1]
      · by_cases h40 : kc i < 40
        · obtain ⟨σ', a1, a2, a3, a4, a5, a6⟩ := k_addLast (p := 1) (co := nI 0) w2 w4 w1 (by omega) (by omega) hi hp h40
          obtain ⟨ρ1, ρ', b1, b2, b3, b4⟩ := r_addLast (p := 1) (co := nI 0) w3 w1 (by omega) (by omega) (fun _ => rfl) hi h40
          refine ⟨nI n, σ', ρ', ?_, by simp (disch := omega) only [↓reduceIte, Nat.reduceSub, Nat.reduceAdd, Nat.reduceMul, Nat.sub_zero, Nat.add_zero, Nat.zero_add, Nat.mul_zero, lq_s, br_s, bd_s, bv_s, gd_tt, inB_nI, nI_clamp, sk_s, sk_n, pk_us, pk_un, nI_add, pk_mul, pk_sub, nI_leI, nI_ltI, nI_eq, if_pos, if_neg, nn_neg, nn_ne, nn_ne2, nn_lt, nn_nlt, nn_nle, nn_le, nn_m1, li_0, li_1, li_2, li_3, li_4, li_5, li_9, li_10, li_19, li_20, li_26, li_40, li_60, li_64, li_97, li_48, li_100, li_199, li_200, li_1000, li_8200, li_9999, li_100000, z2, e3, b1, b2], ?_⟩
          · rw [show (1 : Int32) = nI 1 from rfl, show (0 : Int32) = nI 0 from rfl, a1]; rfl
          · exact Rel.of a3 a2 b3 a4 (w5.keep (a6 35 (by omega) (by omega) (by omega)) (a6 20 (by omega) (by omega) (by omega)) (a6 21 (by omega) (by omega) (by omega)) (a6 22 (by omega) (by omega) (by omega)) (b4 26 (by omega) (by omega)) (b4 15 (by omega) (by omega)) (b4 16 (by omega) (by omega)) (b4 17 (by omega) (by omega))) (w6.keep (a6 37 (by omega) (by omega) (by omega)) (a6 24 (by omega) (by omega) (by omega)) (a6 25 (by omega) (by omega) (by omega)) (b4 27 (by omega) (by omega)) (b4 18 (by omega) (by omega)) (b4 19 (by omega) (by omega))) (w7.keep (a6 18 (by omega) (by omega) (by omega)) (a6 31 (by omega) (by omega) (by omega)) (a6 16 (by omega) (by omega) (by omega)) (a6 17 (by omega) (by omega) (by omega)) (b4 25 (by omega) (by omega)) (b4 13 (by omega) (by omega)) (b4 14 (by omega) (by omega))) (w8.bump (by omega) a5 (by rw [a6 29 (by omega) (by omega) (by omega)])) (fun q => absurd q (w8.stale hc (by omega) (by omega) a5 (by rw [a6 29 (by omega) (by omega) (by omega)])))
        · have hk4 : kc i = 40 := by omega
          refine ⟨nM 4, σ, ρ, ?_, ?_, h.next⟩
          · have e2 := k_noSlot_y z1 m2 hi (w2.2.2.2.2.1 i hi) hk1
            rw [if_neg h40] at e2
            unfold kM_PT_addLast kM_Items_isFull
            simp (disch := omega) only [↓reduceIte, Nat.reduceSub, Nat.reduceAdd, Nat.reduceMul, Nat.sub_zero, Nat.add_zero, Nat.zero_add, Nat.mul_zero, lq_s, br_s, bd_s, bv_s, gd_tt, inB_nI, nI_clamp, sk_s, sk_n, pk_us, pk_un, nI_add, pk_mul, pk_sub, nI_leI, nI_ltI, nI_eq, if_pos, if_neg, nn_neg, nn_ne, nn_ne2, nn_lt, nn_nlt, nn_nle, nn_le, nn_m1, li_0, li_1, li_2, li_3, li_4, li_5, li_9, li_10, li_19, li_20, li_26, li_40, li_60, li_64, li_97, li_48, li_100, li_199, li_200, li_1000, li_8200, li_9999, li_100000, e1, z1, e2]
          · rw [hk4] at e3
            simp (disch := omega) only [↓reduceIte, Nat.reduceSub, Nat.reduceAdd, Nat.reduceMul, Nat.sub_zero, Nat.add_zero, Nat.zero_add, Nat.mul_zero, lq_s, br_s, bd_s, bv_s, gd_tt, inB_nI, nI_clamp, sk_s, sk_n, pk_us, pk_un, nI_add, pk_mul, pk_sub, nI_leI, nI_ltI, nI_eq, if_pos, if_neg, nn_neg, nn_ne, nn_ne2, nn_lt, nn_nlt, nn_nle, nn_le, nn_m1, li_0, li_1, li_2, li_3, li_4, li_5, li_9, li_10, li_19, li_20, li_26, li_40, li_60, li_64, li_97, li_48, li_100, li_199, li_200, li_1000, li_8200, li_9999, li_100000, z2, e3]
    · have hp : pg i = 1 := by omega
      rw [hp] at e1 ⊢
      refine ⟨nM 1, σ, ρ, ?_, by simp (disch := omega) only [↓reduceIte, Nat.reduceSub, Nat.reduceAdd, Nat.reduceMul, Nat.sub_zero, Nat.add_zero, Nat.zero_add, Nat.mul_zero, lq_s, br_s, bd_s, bv_s, gd_tt, inB_nI, nI_clamp, sk_s, sk_n, pk_us, pk_un, nI_add, pk_mul, pk_sub, nI_leI, nI_ltI, nI_eq, if_pos, if_neg, nn_neg, nn_ne, nn_ne2, nn_lt, nn_nlt, nn_nle, nn_le, nn_m1, li_0, li_1, li_2, li_3, li_4, li_5, li_9, li_10, li_19, li_20, li_26, li_40, li_60, li_64, li_97, li_48, li_100, li_199, li_200, li_1000, li_8200, li_9999, li_100000], h.next⟩
      unfold kM_PT_addLast
      simp (disch := omega) only [↓reduceIte, Nat.reduceSub, Nat.reduceAdd, Nat.reduceMul, Nat.sub_zero, Nat.add_zero, Nat.zero_add, Nat.mul_zero, lq_s, br_s, bd_s, bv_s, gd_tt, inB_nI, nI_clamp, sk_s, sk_n, pk_us, pk_un, nI_add, pk_mul, pk_sub, nI_leI, nI_ltI, nI_eq, if_pos, if_neg, nn_neg, nn_ne, nn_ne2, nn_lt, nn_nlt, nn_nle, nn_le, nn_m1, li_0, li_1, li_2, li_3, li_4, li_5, li_9, li_10, li_19, li_20, li_26, li_40, li_60, li_64, li_97, li_48, li_100, li_199, li_200, li_1000, li_8200, li_9999, li_100000, e1]
theorem p_list : lF_list Rel := by
  intro c σ ρ x y hc h
  have h' := h
  obtain ⟨n, pg, kc, kd, pa, ct, ow, w1, w2, w3, w4, w5, w6, w7, w8, w9⟩ := h'
  have z1 := w2.1
  have z2 := w3.1
  have m2 := w1.1
  unfold kM_PT_list rM_Md_list
  rcases ix_cases x (n := n) (by omega) with hx | hx | ⟨i, hi, rfl⟩
  · rw [k_isNode_n z1 (Or.inl hx), r_isNode_n z2 (Or.inl hx)]
    exact ⟨nM 1, σ, ρ, by simp (disch := omega) only [↓reduceIte, Nat.reduceSub, Nat.reduceAdd, Nat.reduceMul, Nat.sub_zero, Nat.add_zero, Nat.zero_add, Nat.mul_zero, lq_s, br_s, bd_s, bv_s, gd_tt, inB_nI, nI_clamp, sk_s, sk_n, pk_us, pk_un, nI_add, pk_mul, pk_sub, nI_leI, nI_ltI, nI_eq, if_pos, if_neg, nn_neg, nn_ne, nn_ne2, nn_lt, nn_nlt, nn_nle, nn_le, nn_m1, li_0, li_1, li_2, li_3, li_4, li_5, li_9, li_10, li_19, li_20, li_26, li_40, li_60, li_64, li_97, li_48, li_100, li_199, li_200, li_1000, li_8200, li_9999, li_100000], by simp (disch := omega) only [↓reduceIte, Nat.reduceSub, Nat.reduceAdd, Nat.reduceMul, Nat.sub_zero, Nat.add_zero, Nat.zero_add, Nat.mul_zero, lq_s, br_s, bd_s, bv_s, gd_tt, inB_nI, nI_clamp, sk_s, sk_n, pk_us, pk_un, nI_add, pk_mul, pk_sub, nI_leI, nI_ltI, nI_eq, if_pos, if_neg, nn_neg, nn_ne, nn_ne2, nn_lt, nn_nlt, nn_nle, nn_le, nn_m1, li_0, li_1, li_2, li_3, li_4, li_5, li_9, li_10, li_19, li_20, li_26, li_40, li_60, li_64, li_97, li_48, li_100, li_199, li_200, li_1000, li_8200, li_9999, li_100000], h.next⟩
  · rw [k_isNode_n z1 (Or.inr hx), r_isNode_n z2 (Or.inr hx)]
    exact ⟨nM 1, σ, ρ, by simp (disch := omega) only [↓reduceIte, Nat.reduceSub, Nat.reduceAdd, Nat.reduceMul, Nat.sub_zero, Nat.add_zero, Nat.zero_add, Nat.mul_zero, lq_s, br_s, bd_s, bv_s, gd_tt, inB_nI, nI_clamp, sk_s, sk_n, pk_us, pk_un, nI_add, pk_mul, pk_sub, nI_leI, nI_ltI, nI_eq, if_pos, if_neg, nn_neg, nn_ne, nn_ne2, nn_lt, nn_nlt, nn_nle, nn_le, nn_m1, li_0, li_1, li_2, li_3, li_4, li_5, li_9, li_10, li_19, li_20, li_26, li_40, li_60, li_64, li_97, li_48, li_100, li_199, li_200, li_1000, li_8200, li_9999, li_100000], by simp (disch := omega) only [↓reduceIte, Nat.reduceSub, Nat.reduceAdd, Nat.reduceMul, Nat.sub_zero, Nat.add_zero, Nat.zero_add, Nat.mul_zero, lq_s, br_s, bd_s, bv_s, gd_tt, inB_nI, nI_clamp, sk_s, sk_n, pk_us, pk_un, nI_add, pk_mul, pk_sub, nI_leI, nI_ltI, nI_eq, if_pos, if_neg, nn_neg, nn_ne, nn_ne2, nn_lt, nn_nlt, nn_nle, nn_le, nn_m1, li_0, li_1, li_2, li_3, li_4, li_5, li_9, li_10, li_19, li_20, li_26, li_40, li_60, li_64, li_97, li_48, li_100, li_199, li_200, li_1000, li_8200, li_9999, li_100000], h.next⟩
  · have hp1 := w1.2.1 i hi
    have hk1 := w1.2.2.1 i hi
    rw [r_isNode_y z2 m2 hi (w3.2.1 i hi) hp1, k_isNode_y z1 m2 hi (w2.2.1 i hi) hp1]
    by_cases hp : pg i = 0
    · rw [hp]
      have e3 := w3.2.2.2.2.1 i hi
      rcases ix_cases y (n := n) (by omega) with hy | hy | ⟨j, hj, rfl⟩
      · rw [k_isKnown_n z1 (Or.inl hy), r_isItem_n z2 (Or.inl hy)]
        exact ⟨nM 1, σ, ρ, by simp (disch := omega) only [↓reduceIte, Nat.reduceSub, Nat.reduceAdd, Nat.reduceMul, Nat.sub_zero, Nat.add_zero, Nat.zero_add, Nat.mul_zero, lq_s, br_s, bd_s, bv_s, gd_tt, inB_nI, nI_clamp, sk_s, sk_n, pk_us, pk_un, nI_add, pk_mul, pk_sub, nI_leI, nI_ltI, nI_eq, if_pos, if_neg, nn_neg, nn_ne, nn_ne2, nn_lt, nn_nlt, nn_nle, nn_le, nn_m1, li_0, li_1, li_2, li_3, li_4, li_5, li_9, li_10, li_19, li_20, li_26, li_40, li_60, li_64, li_97, li_48, li_100, li_199, li_200, li_1000, li_8200, li_9999, li_100000], by simp (disch := omega) only [↓reduceIte, Nat.reduceSub, Nat.reduceAdd, Nat.reduceMul, Nat.sub_zero, Nat.add_zero, Nat.zero_add, Nat.mul_zero, lq_s, br_s, bd_s, bv_s, gd_tt, inB_nI, nI_clamp, sk_s, sk_n, pk_us, pk_un, nI_add, pk_mul, pk_sub, nI_leI, nI_ltI, nI_eq, if_pos, if_neg, nn_neg, nn_ne, nn_ne2, nn_lt, nn_nlt, nn_nle, nn_le, nn_m1, li_0, li_1, li_2, li_3, li_4, li_5, li_9, li_10, li_19, li_20, li_26, li_40, li_60, li_64, li_97, li_48, li_100, li_199, li_200, li_1000, li_8200, li_9999, li_100000], h.next⟩
      · rw [k_isKnown_n z1 (Or.inr hy), r_isItem_n z2 (Or.inr hy)]
        exact ⟨nM 1, σ, ρ, by simp (disch := omega) only [↓reduceIte, Nat.reduceSub, Nat.reduceAdd, Nat.reduceMul, Nat.sub_zero, Nat.add_zero, Nat.zero_add, Nat.mul_zero, lq_s, br_s, bd_s, bv_s, gd_tt, inB_nI, nI_clamp, sk_s, sk_n, pk_us, pk_un, nI_add, pk_mul, pk_sub, nI_leI, nI_ltI, nI_eq, if_pos, if_neg, nn_neg, nn_ne, nn_ne2, nn_lt, nn_nlt, nn_nle, nn_le, nn_m1, li_0, li_1, li_2, li_3, li_4, li_5, li_9, li_10, li_19, li_20, li_26, li_40, li_60, li_64, li_97, li_48, li_100, li_199, li_200, li_1000, li_8200, li_9999, li_100000], by simp (disch := omega) only [↓reduceIte, Nat.reduceSub, Nat.reduceAdd, Nat.reduceMul, Nat.sub_zero, Nat.add_zero, Nat.zero_add, Nat.mul_zero, lq_s, br_s, bd_s, bv_s, gd_tt, inB_nI, nI_clamp, sk_s, sk_n, pk_us, pk_un, nI_add, pk_mul, pk_sub, nI_leI, nI_ltI, nI_eq, if_pos, if_neg, nn_neg, nn_ne, nn_ne2, nn_lt, nn_nlt, nn_nle, nn_le, nn_m1, li_0, li_1, li_2, li_3, li_4, li_5, li_9, li_10, li_19, li_20, li_26, li_40, li_60, li_64, li_97, li_48, li_100, li_199, li_200, li_1000, li_8200, li_9999, li_100000], h.next⟩
      · rw [k_isKnown_y z1 m2 hj, r_isItem_y z2 m2 hj]
        have e2 := k_noSlot_y z1 m2 hi (w2.2.2.2.2.1 i hi) hk1
        by_cases h40 : kc i < 40
        · rw [if_pos h40] at e2
          obtain ⟨σ', a1, a2, a3, a4, a5⟩ := k_insert (it := j) (s := kc i) w2 w1 hi hp (Nat.le_refl _) h40
          obtain ⟨ρ', b1, b2, b3⟩ := r_append (it := j) w3 w1 hi h40
          have hW := w1.ins (x := i) (sl := kc i) (it := j) hi (Nat.le_refl _) h40 hj hp
          have f1 := k_kidCountOf_y a2.1 m2 hi (a2.2.2.2.2.1 i hi)
          rw [va_up_self] at f1
          have f2 := b2.2.2.2.2.1 i hi
          rw [va_up_self] at f2
          have f3 := k_kidCountOf_y z1 m2 hi (w2.2.2.2.2.1 i hi)
          refine ⟨nI (kc i + 1), σ', ρ', ?_, by simp (disch := omega) only [↓reduceIte, Nat.reduceSub, Nat.reduceAdd, Nat.reduceMul, Nat.sub_zero, Nat.add_zero, Nat.zero_add, Nat.mul_zero, lq_s, br_s, bd_s, bv_s, gd_tt, inB_nI, nI_clamp, sk_s, sk_n, pk_us, pk_un, nI_add, pk_mul, pk_sub, nI_leI, nI_ltI, nI_eq, if_pos, if_neg, nn_neg, nn_ne, nn_ne2, nn_lt, nn_nlt, nn_nle, nn_le, nn_m1, li_0, li_1, li_2, li_3, li_4, li_5, li_9, li_10, li_19, li_20, li_26, li_40, li_60, li_64, li_97, li_48, li_100, li_199, li_200, li_1000, li_8200, li_9999, li_100000, e3, b1, f2], ?_⟩
          · unfold kM_Items_appendKid
            simp (disch := omega) only [↓reduceIte, Nat.reduceSub, Nat.reduceAdd, Nat.reduceMul, Nat.sub_zero, Nat.add_zero, Nat.zero_add, Nat.mul_zero, lq_s, br_s, bd_s, bv_s, gd_tt, inB_nI, nI_clamp, sk_s, sk_n, pk_us, pk_un, nI_add, pk_mul, pk_sub, nI_leI, nI_ltI, nI_eq, if_pos, if_neg, nn_neg, nn_ne, nn_ne2, nn_lt, nn_nlt, nn_nle, nn_le, nn_m1, li_0, li_1, li_2, li_3, li_4, li_5, li_9, li_10, li_19, li_20, li_26, li_40, li_60, li_64, li_97, li_48, li_100, li_199, li_200, li_1000, li_8200, li_9999, li_100000, e2, f3, a1, f1]
          · refine Rel.of hW a2 b2 (fun i2 h1 h2 => ⟨?_, fun k hk => ?_⟩) (w5.keep (a5 35 (by omega) (by omega) (by omega)) (a5 20 (by omega) (by omega) (by omega)) (a5 21 (by omega) (by omega) (by omega)) (a5 22 (by omega) (by omega) (by omega)) (b3 26 (by omega) (by omega)) (b3 15 (by omega) (by omega)) (b3 16 (by omega) (by omega)) (b3 17 (by omega) (by omega))) (w6.keep (a5 37 (by omega) (by omega) (by omega)) (a5 24 (by omega) (by omega) (by omega)) (a5 25 (by omega) (by omega) (by omega)) (b3 27 (by omega) (by omega)) (b3 18 (by omega) (by omega)) (b3 19 (by omega) (by omega))) (w7.keep (a5 18 (by omega) (by omega) (by omega)) (a5 31 (by omega) (by omega) (by omega)) (a5 16 (by omega) (by omega) (by omega)) (a5 17 (by omega) (by omega) (by omega)) (b3 25 (by omega) (by omega)) (b3 13 (by omega) (by omega)) (b3 14 (by omega) (by omega))) (w8.bump (by omega) a3 (by rw [a5 29 (by omega) (by omega) (by omega)])) (fun q => absurd q (w8.stale hc (by omega) (by omega) a3 (by rw [a5 29 (by omega) (by omega) (by omega)])))
            · rw [a4, pk_un (by omega)]; exact (w4 i2 h1 h2).1
            · rw [a5 5 (by decide) (by decide) (by decide)]; exact (w4 i2 h1 h2).2 k hk
        · rw [if_neg h40] at e2
          have hk4 : kc i = 40 := by omega
          rw [hk4] at e3
          exact ⟨nM 4, σ, ρ, by simp (disch := omega) only [↓reduceIte, Nat.reduceSub, Nat.reduceAdd, Nat.reduceMul, Nat.sub_zero, Nat.add_zero, Nat.zero_add, Nat.mul_zero, lq_s, br_s, bd_s, bv_s, gd_tt, inB_nI, nI_clamp, sk_s, sk_n, pk_us, pk_un, nI_add, pk_mul, pk_sub, nI_leI, nI_ltI, nI_eq, if_pos, if_neg, nn_neg, nn_ne, nn_ne2, nn_lt, nn_nlt, nn_nle, nn_le, nn_m1, li_0, li_1, li_2, li_3, li_4, li_5, li_9, li_10, li_19, li_20, li_26, li_40, li_60, li_64, li_97, li_48, li_100, li_199, li_200, li_1000, li_8200, li_9999, li_100000, e2], by simp (disch := omega) only [↓reduceIte, Nat.reduceSub, Nat.reduceAdd, Nat.reduceMul, Nat.sub_zero, Nat.add_zero, Nat.zero_add, Nat.mul_zero, lq_s, br_s, bd_s, bv_s, gd_tt, inB_nI, nI_clamp, sk_s, sk_n, pk_us, pk_un, nI_add, pk_mul, pk_sub, nI_leI, nI_ltI, nI_eq, if_pos, if_neg, nn_neg, nn_ne, nn_ne2, nn_lt, nn_nlt, nn_nle, nn_le, nn_m1, li_0, li_1, li_2, li_3, li_4, li_5, li_9, li_10, li_19, li_20, li_26, li_40, li_60, li_64, li_97, li_48, li_100, li_199, li_200, li_1000, li_8200, li_9999, li_100000, e3], h.next⟩
    · have hp : pg i = 1 := by omega
      rw [hp]
      exact ⟨nM 1, σ, ρ, by simp (disch := omega) only [↓reduceIte, Nat.reduceSub, Nat.reduceAdd, Nat.reduceMul, Nat.sub_zero, Nat.add_zero, Nat.zero_add, Nat.mul_zero, lq_s, br_s, bd_s, bv_s, gd_tt, inB_nI, nI_clamp, sk_s, sk_n, pk_us, pk_un, nI_add, pk_mul, pk_sub, nI_leI, nI_ltI, nI_eq, if_pos, if_neg, nn_neg, nn_ne, nn_ne2, nn_lt, nn_nlt, nn_nle, nn_le, nn_m1, li_0, li_1, li_2, li_3, li_4, li_5, li_9, li_10, li_19, li_20, li_26, li_40, li_60, li_64, li_97, li_48, li_100, li_199, li_200, li_1000, li_8200, li_9999, li_100000], by simp (disch := omega) only [↓reduceIte, Nat.reduceSub, Nat.reduceAdd, Nat.reduceMul, Nat.sub_zero, Nat.add_zero, Nat.zero_add, Nat.mul_zero, lq_s, br_s, bd_s, bv_s, gd_tt, inB_nI, nI_clamp, sk_s, sk_n, pk_us, pk_un, nI_add, pk_mul, pk_sub, nI_leI, nI_ltI, nI_eq, if_pos, if_neg, nn_neg, nn_ne, nn_ne2, nn_lt, nn_nlt, nn_nle, nn_le, nn_m1, li_0, li_1, li_2, li_3, li_4, li_5, li_9, li_10, li_19, li_20, li_26, li_40, li_60, li_64, li_97, li_48, li_100, li_199, li_200, li_1000, li_8200, li_9999, li_100000], h.next⟩
set_option maxHeartbeats 1000000 in
theorem p_node : lF_node Rel := by
  intro c σ ρ x co hc h
  have h' := h
  obtain ⟨n, pg, kc, kd, pa, ct, ow, w1, w2, w3, w4, w5, w6, w7, w8, w9⟩ := h'
  have z1 := w2.1
  have z2 := w3.1
  have m2 := w1.1
  unfold kM_PT_node rM_Md_node kM_Items_size
  by_cases h0 : n = 0
  · subst h0
    rw [z1, z2, br_s, if_pos (show nI 0 = 0 from rfl), if_pos (show nI 0 = 0 from rfl)]
    by_cases hx : x = -1
    · rw [if_pos hx, if_pos hx]
      obtain ⟨σ', a1, a2, a3, a4⟩ := k_add (p := 0) (q := nM 1) (co := co) w2 w4 (by omega) (by omega)
      obtain ⟨ρ', b1, b2, b3⟩ := r_made (p := 0) (q := nM 1) (co := co) w3 (by omega) (by omega) (fun z => by omega)
      have hW := w1.more (p := 0) (q := nM 1) (by omega) (by omega) (Or.inl rfl) (fun _ => rfl)
      have hxm : x = nM 1 := hx
      refine ⟨nI 0, σ', ρ', ?_, ?_, ?_⟩
      · rw [show (0 : Int32) = nI 0 from rfl, show (-1 : Int32) = nM 1 from rfl, a1]; rfl
      · unfold rJ_Md_node_25 rJ_Md_node_63
        simp (disch := omega) only [↓reduceIte, Nat.reduceSub, Nat.reduceAdd, Nat.reduceMul, Nat.sub_zero, Nat.add_zero, Nat.zero_add, Nat.mul_zero, lq_s, br_s, bd_s, bv_s, gd_tt, inB_nI, nI_clamp, sk_s, sk_n, pk_us, pk_un, nI_add, pk_mul, pk_sub, nI_leI, nI_ltI, nI_eq, if_pos, if_neg, nn_neg, nn_ne, nn_ne2, nn_lt, nn_nlt, nn_nle, nn_le, nn_m1, li_0, li_1, li_2, li_3, li_4, li_5, li_9, li_10, li_19, li_20, li_26, li_40, li_60, li_64, li_97, li_48, li_100, li_199, li_200, li_1000, li_8200, li_9999, li_100000, z2, hxm, b1]
      · refine Rel.of hW a2 b2 a3 (w5.keep (a4 35 (by omega) (by omega) (by omega) (by omega)) (a4 20 (by omega) (by omega) (by omega) (by omega)) (a4 21 (by omega) (by omega) (by omega) (by omega)) (a4 22 (by omega) (by omega) (by omega) (by omega)) (b3 26 (by omega)) (b3 15 (by omega)) (b3 16 (by omega)) (b3 17 (by omega))) (w6.keep (a4 37 (by omega) (by omega) (by omega) (by omega)) (a4 24 (by omega) (by omega) (by omega) (by omega)) (a4 25 (by omega) (by omega) (by omega) (by omega)) (b3 27 (by omega)) (b3 18 (by omega)) (b3 19 (by omega))) (w7.keep (a4 18 (by omega) (by omega) (by omega) (by omega)) (a4 31 (by omega) (by omega) (by omega) (by omega)) (a4 16 (by omega) (by omega) (by omega) (by omega)) (a4 17 (by omega) (by omega) (by omega) (by omega)) (b3 25 (by omega)) (b3 13 (by omega)) (b3 14 (by omega))) (w8.keep (a4 27 (by omega) (by omega) (by omega) (by omega)) (a4 29 (by omega) (by omega) (by omega) (by omega))) (fun q => ?_)
        rw [a4 27 (by omega) (by omega) (by omega) (by omega), a4 29 (by omega) (by omega) (by omega) (by omega)] at q
        have o := w9 q
        have e1 : wO 0 pg kc kd = [] := rfl
        have e2 : wO (0 + 1) (va_up pg 0 0) (va_up kc 0 0) kd = [] := by
          unfold wO
          rw [if_neg (by omega), wS]
          have : va_up kc 0 0 0 = 0 := va_up_self kc 0 0
          rw [if_neg (show ¬ ((0, 0) : Nat × Nat).2 < va_up kc 0 0 ((0, 0) : Nat × Nat).1 by rw [this]; exact Nat.lt_irrefl 0)]
          rw [wS_nil]
        rw [e1] at o
        rw [e2]
        obtain ⟨o1, o2, o3⟩ := o
        refine ⟨by rw [a4 28 (by omega) (by omega) (by omega) (by omega)]; exact o1, fun j q hq => by simp at hq, fun i hi => ?_⟩
        rw [a4 10 (by omega) (by omega) (by omega) (by omega)]
        exact o3 i hi
    · rw [if_neg hx, if_neg hx]
      refine ⟨nM 1, σ, ρ, rfl, ?_, h.next⟩
      unfold rJ_Md_node_25
      simp (disch := omega) only [↓reduceIte, Nat.reduceSub, Nat.reduceAdd, Nat.reduceMul, Nat.sub_zero, Nat.add_zero, Nat.zero_add, Nat.mul_zero, lq_s, br_s, bd_s, bv_s, gd_tt, inB_nI, nI_clamp, sk_s, sk_n, pk_us, pk_un, nI_add, pk_mul, pk_sub, nI_leI, nI_ltI, nI_eq, if_pos, if_neg, nn_neg, nn_ne, nn_ne2, nn_lt, nn_nlt, nn_nle, nn_le, nn_m1, li_0, li_1, li_2, li_3, li_4, li_5, li_9, li_10, li_19, li_20, li_26, li_40, li_60, li_64, li_97, li_48, li_100, li_199, li_200, li_1000, li_8200, li_9999, li_100000]
  · have hn0 : ¬ nI n = 0 := nI_ne0 (by omega) (by omega)
    rw [z1, z2, br_s, if_neg hn0, if_neg hn0]
    have hbad : ∀ (hb : x < nI 0 ∨ (¬ x < nI 0 ∧ nI n ≤ x)), ∃ (r : Int32) (σ2 ρ2 : St), (bd (kM_PT_addLast σ x 0 co) fun r5 σ6 => some (r5, σ6)) = some (r, σ2) ∧ (br (rM_Md_isNode ρ x) fun r3 => rJ_Md_node_25 ρ x co r3) = some (r, ρ2) ∧ Rel (c + 1) σ2 ρ2 := by
      intro hb
      unfold kM_PT_addLast
      rw [k_isNode_n z1 hb, r_isNode_n z2 hb]
      refine ⟨nM 1, σ, ρ, by simp (disch := omega) only [↓reduceIte, Nat.reduceSub, Nat.reduceAdd, Nat.reduceMul, Nat.sub_zero, Nat.add_zero, Nat.zero_add, Nat.mul_zero, lq_s, br_s, bd_s, bv_s, gd_tt, inB_nI, nI_clamp, sk_s, sk_n, pk_us, pk_un, nI_add, pk_mul, pk_sub, nI_leI, nI_ltI, nI_eq, if_pos, if_neg, nn_neg, nn_ne, nn_ne2, nn_lt, nn_nlt, nn_nle, nn_le, nn_m1, li_0, li_1, li_2, li_3, li_4, li_5, li_9, li_10, li_19, li_20, li_26, li_40, li_60, li_64, li_97, li_48, li_100, li_199, li_200, li_1000, li_8200, li_9999, li_100000], ?_, h.next⟩
      unfold rJ_Md_node_25
      simp (disch := omega) only [↓reduceIte, Nat.reduceSub, Nat.reduceAdd, Nat.reduceMul, Nat.sub_zero, Nat.add_zero, Nat.zero_add, Nat.mul_zero, lq_s, br_s, bd_s, bv_s, gd_tt, inB_nI, nI_clamp, sk_s, sk_n, pk_us, pk_un, nI_add, pk_mul, pk_sub, nI_leI, nI_ltI, nI_eq, if_pos, if_neg, nn_neg, nn_ne, nn_ne2, nn_lt, nn_nlt, nn_nle, nn_le, nn_m1, li_0, li_1, li_2, li_3, li_4, li_5, li_9, li_10, li_19, li_20, li_26, li_40, li_60, li_64, li_97, li_48, li_100, li_199, li_200, li_1000, li_8200, li_9999, li_100000]
    rcases ix_cases x (n := n) (by omega) with hx | hx | ⟨i, hi, rfl⟩
    · exact hbad (Or.inl hx)
    · exact hbad (Or.inr hx)
    · have hp1 := w1.2.1 i hi
      have hk1 := w1.2.2.1 i hi
      rw [r_isNode_y z2 m2 hi (w3.2.1 i hi) hp1]
      have e1 := k_isNode_y z1 m2 hi (w2.2.1 i hi) hp1
      by_cases hp : pg i = 0
      · rw [hp] at e1 ⊢
        have e3 := w3.2.2.2.2.1 i hi
        by_cases hn : n = 200
        · subst hn
          refine ⟨nM 4, σ, ρ, ?_, ?_, h.next⟩
          · unfold kM_PT_addLast kM_Items_isFull
            simp (disch := omega) only [↓reduceIte, Nat.reduceSub, Nat.reduceAdd, Nat.reduceMul, Nat.sub_zero, Nat.add_zero, Nat.zero_add, Nat.mul_zero, lq_s, br_s, bd_s, bv_s, gd_tt, inB_nI, nI_clamp, sk_s, sk_n, pk_us, pk_un, nI_add, pk_mul, pk_sub, nI_leI, nI_ltI, nI_eq, if_pos, if_neg, nn_neg, nn_ne, nn_ne2, nn_lt, nn_nlt, nn_nle, nn_le, nn_m1, li_0, li_1, li_2, li_3, li_4, li_5, li_9, li_10, li_19, li_20, li_26, li_40, li_60, li_64, li_97, li_48, li_100, li_199, li_200, li_1000, li_8200, li_9999, li_100000, e1, z1]
          · unfold rJ_Md_node_25
            simp (disch := omega) only [↓reduceIte, Nat.reduceSub, Nat.reduceAdd, Nat.reduceMul, Nat.sub_zero, Nat.add_zero, Nat.zero_add, Nat.mul_zero, lq_s, br_s, bd_s, bv_s, gd_tt, inB_nI, nI_clamp, sk_s, sk_n, pk_us, pk_un, nI_add, pk_mul, pk_sub, nI_leI, nI_ltI, nI_eq, if_pos, if_neg, nn_neg, nn_ne, nn_ne2, nn_lt, nn_nlt, nn_nle, nn_le, nn_m1, li_0, li_1, li_2, li_3, li_4, li_5, li_9, li_10, li_19, li_20, li_26, li_40, li_60, li_64, li_97, li_48, li_100, li_199, li_200, li_1000, li_8200, li_9999, li_100000, z2]
        · by_cases h40 : kc i < 40
          · obtain ⟨σ', a1, a2, a3, a4, a5, a6⟩ := k_addLast (p := 0) (co := co) w2 w4 w1 (by omega) (by omega) hi hp h40
            obtain ⟨ρ1, ρ', b1, b2, b3, b4⟩ := r_addLast (p := 0) (co := co) w3 w1 (by omega) (by omega) (fun z => by omega) hi h40
            refine ⟨nI n, σ', ρ', ?_, ?_, ?_⟩
            · rw [show (0 : Int32) = nI 0 from rfl, a1]; rfl
            · unfold rJ_Md_node_25 rJ_Md_node_63
              simp (disch := omega) only [↓reduceIte, Nat.reduceSub, Nat.reduceAdd, Nat.reduceMul, Nat.sub_zero, Nat.add_zero, Nat.zero_add, Nat.mul_zero, lq_s, br_s, bd_s, bv_s, gd_tt, inB_nI, nI_clamp, sk_s, sk_n, pk_us, pk_un, nI_add, pk_mul, pk_sub, nI_leI, nI_ltI, nI_eq, if_pos, if_neg, nn_neg, nn_ne, nn_ne2, nn_lt, nn_nlt, nn_nle, nn_le, nn_m1, li_0, li_1, li_2, li_3, li_4, li_5, li_9, li_10, li_19, li_20, li_26, li_40, li_60, li_64, li_97, li_48, li_100, li_199, li_200, li_1000, li_8200, li_9999, li_100000, z2, e3, b1, b2]
            · exact Rel.of a3 a2 b3 a4 (w5.keep (a6 35 (by omega) (by omega) (by omega)) (a6 20 (by omega) (by omega) (by omega)) (a6 21 (by omega) (by omega) (by omega)) (a6 22 (by omega) (by omega) (by omega)) (b4 26 (by omega) (by omega)) (b4 15 (by omega) (by omega)) (b4 16 (by omega) (by omega)) (b4 17 (by omega) (by omega))) (w6.keep (a6 37 (by omega) (by omega) (by omega)) (a6 24 (by omega) (by omega) (by omega)) (a6 25 (by omega) (by omega) (by omega)) (b4 27 (by omega) (by omega)) (b4 18 (by omega) (by omega)) (b4 19 (by omega) (by omega))) (w7.keep (a6 18 (by omega) (by omega) (by omega)) (a6 31 (by omega) (by omega) (by omega)) (a6 16 (by omega) (by omega) (by omega)) (a6 17 (by omega) (by omega) (by omega)) (b4 25 (by omega) (by omega)) (b4 13 (by omega) (by omega)) (b4 14 (by omega) (by omega))) (w8.bump (by omega) a5 (by rw [a6 29 (by omega) (by omega) (by omega)])) (fun q => absurd q (w8.stale hc (by omega) (by omega) a5 (by rw [a6 29 (by omega) (by omega) (by omega)])))
          · have hk4 : kc i = 40 := by omega
            refine ⟨nM 4, σ, ρ, ?_, ?_, h.next⟩
            · have e2 := k_noSlot_y z1 m2 hi (w2.2.2.2.2.1 i hi) hk1
              rw [if_neg h40] at e2
              unfold kM_PT_addLast kM_Items_isFull
              simp (disch := omega) only [↓reduceIte, Nat.reduceSub, Nat.reduceAdd, Nat.reduceMul, Nat.sub_zero, Nat.add_zero, Nat.zero_add, Nat.mul_zero, lq_s, br_s, bd_s, bv_s, gd_tt, inB_nI, nI_clamp, sk_s, sk_n, pk_us, pk_un, nI_add, pk_mul, pk_sub, nI_leI, nI_ltI, nI_eq, if_pos, if_neg, nn_neg, nn_ne, nn_ne2, nn_lt, nn_nlt, nn_nle, nn_le, nn_m1, li_0, li_1, li_2, li_3, li_4, li_5, li_9, li_10, li_19, li_20, li_26, li_40, li_60, li_64, li_97, li_48, li_100, li_199, li_200, li_1000, li_8200, li_9999, li_100000, e1, z1, e2]
            · rw [hk4] at e3
              unfold rJ_Md_node_25
              simp (disch := omega) only [↓reduceIte, Nat.reduceSub, Nat.reduceAdd, Nat.reduceMul, Nat.sub_zero, Nat.add_zero, Nat.zero_add, Nat.mul_zero, lq_s, br_s, bd_s, bv_s, gd_tt, inB_nI, nI_clamp, sk_s, sk_n, pk_us, pk_un, nI_add, pk_mul, pk_sub, nI_leI, nI_ltI, nI_eq, if_pos, if_neg, nn_neg, nn_ne, nn_ne2, nn_lt, nn_nlt, nn_nle, nn_le, nn_m1, li_0, li_1, li_2, li_3, li_4, li_5, li_9, li_10, li_19, li_20, li_26, li_40, li_60, li_64, li_97, li_48, li_100, li_199, li_200, li_1000, li_8200, li_9999, li_100000, z2, e3]
      · have hp : pg i = 1 := by omega
        rw [hp] at e1 ⊢
        refine ⟨nM 1, σ, ρ, ?_, ?_, h.next⟩
        · unfold kM_PT_addLast
          simp (disch := omega) only [↓reduceIte, Nat.reduceSub, Nat.reduceAdd, Nat.reduceMul, Nat.sub_zero, Nat.add_zero, Nat.zero_add, Nat.mul_zero, lq_s, br_s, bd_s, bv_s, gd_tt, inB_nI, nI_clamp, sk_s, sk_n, pk_us, pk_un, nI_add, pk_mul, pk_sub, nI_leI, nI_ltI, nI_eq, if_pos, if_neg, nn_neg, nn_ne, nn_ne2, nn_lt, nn_nlt, nn_nle, nn_le, nn_m1, li_0, li_1, li_2, li_3, li_4, li_5, li_9, li_10, li_19, li_20, li_26, li_40, li_60, li_64, li_97, li_48, li_100, li_199, li_200, li_1000, li_8200, li_9999, li_100000, e1]
        · unfold rJ_Md_node_25
          simp (disch := omega) only [↓reduceIte, Nat.reduceSub, Nat.reduceAdd, Nat.reduceMul, Nat.sub_zero, Nat.add_zero, Nat.zero_add, Nat.mul_zero, lq_s, br_s, bd_s, bv_s, gd_tt, inB_nI, nI_clamp, sk_s, sk_n, pk_us, pk_un, nI_add, pk_mul, pk_sub, nI_leI, nI_ltI, nI_eq, if_pos, if_neg, nn_neg, nn_ne, nn_ne2, nn_lt, nn_nlt, nn_nle, nn_le, nn_m1, li_0, li_1, li_2, li_3, li_4, li_5, li_9, li_10, li_19, li_20, li_26, li_40, li_60, li_64, li_97, li_48, li_100, li_199, li_200, li_1000, li_8200, li_9999, li_100000]
