/-! mending: both walks, step by step -/
def MS (n0 : Nat) (pg kc : Nat → Nat) (kd : Nat → Nat → Nat) (met : Nat → Nat) (σ ρ : St) : Nat → List (Nat × Nat) → Prop
  | _, [] => True
  | T, f :: t => σ 14 t.length = nI f.1 ∧ σ 15 t.length = nI f.2 ∧ ρ 6 t.length = nI f.1 ∧ ρ 7 t.length = nI f.2 ∧ f.1 < n0 ∧ f.2 ≤ kc f.1 ∧ pg f.1 = 0 ∧ met f.1 = 1 ∧ (∀ k, f.2 ≤ k → k < kc f.1 → kd f.1 k < n0) ∧ (∀ g ∈ t, g.1 ≠ f.1) ∧ ∃ P b, P + b = T ∧ σ 18 f.1 = nI P ∧ ρ 12 t.length = nI b ∧ MS n0 pg kc kd met σ ρ P t
theorem MS.keep {n0 : Nat} {pg kc pg' kc' : Nat → Nat} {kd kd' : Nat → Nat → Nat} {met met' : Nat → Nat} {σ ρ σ' ρ' : St} : ∀ (t : List (Nat × Nat)) (T : Nat), MS n0 pg kc kd met σ ρ T t → (∀ f ∈ t, pg' f.1 = pg f.1 ∧ kc' f.1 = kc f.1 ∧ kd' f.1 = kd f.1 ∧ met' f.1 = met f.1 ∧ σ' 18 f.1 = σ 18 f.1) → (∀ j, j < t.length → σ' 14 j = σ 14 j ∧ σ' 15 j = σ 15 j ∧ ρ' 6 j = ρ 6 j ∧ ρ' 7 j = ρ 7 j ∧ ρ' 12 j = ρ 12 j) → MS n0 pg' kc' kd' met' σ' ρ' T t := by
  intro t
  induction t with
  | nil => intro T _ _ _; trivial
  | cons f t ih =>
    intro T h h1 h2
    obtain ⟨q1, q2, q3, q4, q5, q6, q7, q8, q9, q10, P, b, p1, p2, p3, p4⟩ := h
    obtain ⟨a1, a2, a3, a4, a5⟩ := h1 f List.mem_cons_self
    obtain ⟨c1, c2, c3, c4, c5⟩ := h2 t.length (by simp)
    refine ⟨by rw [c1]; exact q1, by rw [c2]; exact q2, by rw [c3]; exact q3, by rw [c4]; exact q4, q5, by rw [a2]; exact q6, by rw [a1]; exact q7, by rw [a4]; exact q8, by rw [a2, a3]; exact q9, q10, P, b, p1, by rw [a5]; exact p2, by rw [c5]; exact p3, ih P p4 (fun g hg => h1 g (List.mem_cons_of_mem _ hg)) (fun j hj => h2 j (by simp; omega))⟩
theorem MS.mem {n0 : Nat} {pg kc : Nat → Nat} {kd : Nat → Nat → Nat} {met : Nat → Nat} {σ ρ : St} : ∀ (t : List (Nat × Nat)) (T : Nat), MS n0 pg kc kd met σ ρ T t → ∀ f ∈ t, f.1 < n0 ∧ met f.1 = 1 := by
  intro t
  induction t with
  | nil => intro T _ f hf; simp at hf
  | cons g t ih =>
    intro T h f hf
    obtain ⟨q1, q2, q3, q4, q5, q6, q7, q8, q9, q10, P, b, p1, p2, p3, p4⟩ := h
    rcases List.mem_cons.mp hf with rfl | hf
    · exact ⟨q5, q8⟩
    · exact ih P p4 f hf
theorem MS.way {n0 : Nat} {pg kc : Nat → Nat} {kd : Nat → Nat → Nat} {met : Nat → Nat} {σ ρ : St} : ∀ (t : List (Nat × Nat)) (T : Nat), MS n0 pg kc kd met σ ρ T t → ∀ j, j < t.length → ∃ x, x < n0 ∧ σ 14 j = nI x ∧ ρ 6 j = nI x := by
  intro t
  induction t with
  | nil => intro T _ j hj; simp at hj
  | cons g t ih =>
    intro T h j hj
    obtain ⟨q1, q2, q3, q4, q5, q6, q7, q8, q9, q10, P, b, p1, p2, p3, p4⟩ := h
    by_cases hjt : j = t.length
    · subst hjt
      exact ⟨g.1, q5, q1, q3⟩
    · exact ih P p4 j (by simp at hj; omega)
def frM (kc : Nat → Nat) : List (Nat × Nat) → Nat
  | [] => 0
  | f :: t => (kc f.1 + 1 - f.2) + frM kc t
theorem frM_keep {kc kc' : Nat → Nat} : ∀ t : List (Nat × Nat), (∀ f ∈ t, kc' f.1 = kc f.1) → frM kc' t = frM kc t := by
  intro t
  induction t with
  | nil => intro _; rfl
  | cons f t ih =>
    intro h
    rw [frM, frM, h f List.mem_cons_self, ih (fun g hg => h g (List.mem_cons_of_mem _ hg))]
def MM (n0 n : Nat) (pg kc : Nat → Nat) (kd : Nat → Nat → Nat) (pa ct : Nat → Int32) (ow : Nat → Nat → Int32) (met : Nat → Nat) (stk : List (Nat × Nat)) (T a : Nat) (σ ρ : St) : Prop :=
  WF n pg kc kd pa ∧ IV n pg kc kd pa ct ow σ 26 ∧ IV n pg kc kd pa ct ow ρ 22 ∧ FR n σ ∧ n0 ≤ n ∧ (σ 33 0 = nI stk.length ∧ ρ 23 0 = nI stk.length) ∧ MS n0 pg kc kd met σ ρ T stk ∧ (∀ i, i < n0 → σ 13 i = nI (met i) ∧ ρ 8 i = nI (met i) ∧ met i ≤ 1) ∧ (∀ x, x < n0 → met x = 0 → ∀ k, k < kc x → kd x k < n0) ∧ TL a σ ρ ∧ (σ 32 0 = nI T ∧ ρ 24 0 = nI T) ∧ stk.length + T + um met n0 ≤ n ∧ σ 18 0 = nI 0 ∧ met 0 = 1
def KF (k : Nat) : Prop := (5 < k ∧ k < 13) ∨ (18 < k ∧ k < 26) ∨ (27 < k ∧ k < 31) ∨ 33 < k
def RF (k : Nat) : Prop := (14 < k ∧ k < 22) ∨ 25 < k
/-- a step of both -/
def MX (n0 n : Nat) (pg kc : Nat → Nat) (kd : Nat → Nat → Nat) (a mu st : Nat) (σ ρ : St) : Prop := ∃ (n1 : Nat) (pg1 kc1 : Nat → Nat) (kd1 : Nat → Nat → Nat) (pa1 ct1 : Nat → Int32) (ow1 : Nat → Nat → Int32) (met1 : Nat → Nat) (stk1 : List (Nat × Nat)) (T1 a1 b : Nat) (σ1 ρ1 : St), (∀ g, kL_Walk_walkAll_Mender_51 (g + 1) σ (nI st) = kL_Walk_walkAll_Mender_51 g σ1 (nI (st + 1))) ∧ (∀ g, rL_Md_mend_9 (g + 1) ρ = rL_Md_mend_9 g ρ1) ∧ MM n0 n1 pg1 kc1 kd1 pa1 ct1 ow1 met1 stk1 T1 a1 σ1 ρ1 ∧ frM kc1 stk1 + 41 * um met1 n0 < mu ∧ a1 ≤ a + 1 ∧ b ≤ 1 ∧ σ1 27 0 = σ 27 0 + nI b ∧ (b = 0 → n1 = n ∧ pg1 = pg ∧ kc1 = kc ∧ kd1 = kd) ∧ (∀ k, KF k → σ1 k = σ k) ∧ ∀ k, RF k → ρ1 k = ρ k
theorem a_zero (v : Int32) : v = v + nI 0 := (Int32.add_zero v).symm
set_option maxHeartbeats 1000000 in
/-- a page met for the first time -/
theorem m_page {n0 n x s T a st y : Nat} {pg kc : Nat → Nat} {kd : Nat → Nat → Nat} {pa ct : Nat → Int32} {ow : Nat → Nat → Int32} {met : Nat → Nat} {t : List (Nat × Nat)} {σ ρ : St} (h : MM n0 n pg kc kd pa ct ow met ((x, s) :: t) T a σ ρ) (hst : st < 8200) (hs : s < kc x) (hy : kd x s = y) (hmet : met y = 0) (hp : pg y = 1) : MX n0 n pg kc kd a (frM kc ((x, s) :: t) + 41 * um met n0) st σ ρ := by
  obtain ⟨w1, w2, w3, w4, w5, ⟨w6, w6'⟩, w7, w8, w9, w10, ⟨w11, w11'⟩, w12, w13, w14⟩ := h
  obtain ⟨q1, q2, q3, q4, q5, q6, q7, q8, q9, q10, P, b, p1, p2, p3, p4⟩ := w7
  have q1 : σ 14 t.length = nI x := q1
  have q2 : σ 15 t.length = nI s := q2
  have q3 : ρ 6 t.length = nI x := q3
  have q4 : ρ 7 t.length = nI s := q4
  have q5 : x < n0 := q5
  have p2 : σ 18 x = nI P := p2
  have w6 : σ 33 0 = nI (t.length + 1) := w6
  have w6' : ρ 23 0 = nI (t.length + 1) := w6'
  have w12 : t.length + 1 + T + um met n0 ≤ n := w12
  have hn := w1.1
  have h40 := w1.2.2.1 x (by omega)
  have hyn : y < n0 := by rw [← hy]; exact q9 s (Nat.le_refl _) hs
  have k3 := w2.2.2.2.2.1 x (by omega)
  have r3 := w3.2.2.2.2.1 x (by omega)
  have k4 := w2.2.2.2.2.2.1 x s (by omega) hs
  have r4 := w3.2.2.2.2.2.1 x s (by omega) hs
  rw [hy] at k4 r4
  rw [show 40 * x + s = x * 40 + s by omega] at k4
  have k0 := w2.2.1 y (by omega)
  have r0 := w3.2.1 y (by omega)
  rw [hp] at k0 r0
  obtain ⟨k13, r8, -⟩ := w8 y hyn
  rw [hmet] at k13 r8
  have z1 := w2.1
  have z2 := w3.1
  have hum := um_up hmet n0 hyn
  have hmm : ∀ f ∈ t, f.1 ≠ y := fun f hf z => by have := (MS.mem t P p4 f hf).2; rw [z, hmet] at this; omega
  have hxy : x ≠ y := fun z => by have q8 : met x = 1 := q8; rw [z, hmet] at q8; omega
  have q8 : met x = 1 := q8
  refine ⟨n, pg, kc, kd, va_up pa y (nI x), ct, ow, va_up met y 1, (x, s + 1) :: t, T + 1, a, 0, sk (sk (sk (sk σ 1 (upd (σ 1) y (nI x))) 32 (fun _ => nI (T + 1))) 13 (upd (σ 13) y (nI 1))) 15 (upd (σ 15) t.length (nI (s + 1))), sk (sk (sk (sk (sk (sk (sk (sk ρ 1 (upd (ρ 1) y (nI x))) 8 (upd (ρ 8) y (nI 1))) 9 (upd (ρ 9) T (nI y))) 10 (upd (ρ 10) T (nI x))) 11 (upd (ρ 11) T (nI s))) 24 (fun _ => nI (T + 1))) 12 (upd (ρ 12) t.length (nI (b + 1)))) 7 (upd (ρ 7) t.length (nI (s + 1))), fun g => ?_, fun g => ?_, ⟨?_, ?_, ?_, ?_, w5, ⟨?_, ?_⟩, ⟨?_, ?_, ?_, ?_, q5, (by show s + 1 ≤ kc x; omega), q7, ?_, fun k h1 h2 => q9 k (by omega) h2, q10, P, b + 1, (by omega), ?_, ?_, ?_⟩, fun i hi => ?_, fun x' hx' hm' => ?_, ?_, ⟨?_, ?_⟩, ?_, ?_, ?_⟩, ?_, by omega, by omega, ?_, fun _ => ⟨rfl, rfl, rfl, rfl⟩, fun k hk => ?_, fun k hk => ?_⟩
  · rw [kL_Walk_walkAll_Mender_51]
    unfold kM_Items_kidAt kM_Items_hasSlot kM_Walk_meet_Mender kM_Mender_meetFirst kM_Items_setParent kM_Items_isKnown kM_Items_isPage kJ_Walk_walkAll_Mender_144
    simp (disch := omega) only [↓reduceIte, Nat.reduceSub, Nat.reduceAdd, Nat.reduceMul, Nat.sub_zero, Nat.add_zero, Nat.zero_add, Nat.mul_zero, lq_s, br_s, bd_s, bv_s, gd_tt, inB_nI, nI_clamp, sk_s, sk_n, pk_us, pk_un, nI_add, pk_mul, pk_sub, nI_leI, nI_ltI, nI_eq, if_pos, if_neg, nn_neg, nn_ne, nn_ne2, nn_lt, nn_nlt, nn_nle, nn_le, nn_m1, li_0, li_1, li_2, li_3, li_4, li_5, li_9, li_10, li_19, li_20, li_26, li_40, li_60, li_64, li_97, li_48, li_100, li_199, li_200, li_1000, li_8200, li_9999, li_100000, w6, q1, q2, z1, k3, k4, k0, k13, w11, nar_z1, Nat.add_sub_cancel]
  · rw [rL_Md_mend_9]
    unfold rJ_Md_mend_128 rM_Md_takePage rJ_Md_mend_174
    simp (disch := omega) only [↓reduceIte, Nat.reduceSub, Nat.reduceAdd, Nat.reduceMul, Nat.sub_zero, Nat.add_zero, Nat.zero_add, Nat.mul_zero, lq_s, br_s, bd_s, bv_s, gd_tt, inB_nI, nI_clamp, sk_s, sk_n, pk_us, pk_un, nI_add, pk_mul, pk_sub, nI_leI, nI_ltI, nI_eq, if_pos, if_neg, nn_neg, nn_ne, nn_ne2, nn_lt, nn_nlt, nn_nle, nn_le, nn_m1, li_0, li_1, li_2, li_3, li_4, li_5, li_9, li_10, li_19, li_20, li_26, li_40, li_60, li_64, li_97, li_48, li_100, li_199, li_200, li_1000, li_8200, li_9999, li_100000, w6', q3, q4, r3, r4, r0, r8, w11', p3, nar_z1, Nat.add_sub_cancel]
  · exact w1.par (Or.inr ⟨x, by omega, rfl⟩)
  · exact (w2.par (i := y) (q := nI x) (by decide)).keep (by simp (disch := omega) only [↓reduceIte, Nat.reduceSub, Nat.reduceAdd, Nat.reduceMul, Nat.sub_zero, Nat.add_zero, Nat.zero_add, Nat.mul_zero, lq_s, br_s, bd_s, bv_s, gd_tt, inB_nI, nI_clamp, sk_s, sk_n, pk_us, pk_un, nI_add, pk_mul, pk_sub, nI_leI, nI_ltI, nI_eq, if_pos, if_neg, nn_neg, nn_ne, nn_ne2, nn_lt, nn_nlt, nn_nle, nn_le, nn_m1, li_0, li_1, li_2, li_3, li_4, li_5, li_9, li_10, li_19, li_20, li_26, li_40, li_60, li_64, li_97, li_48, li_100, li_199, li_200, li_1000, li_8200, li_9999, li_100000]) (fun k hk => by simp (disch := omega) only [↓reduceIte, Nat.reduceSub, Nat.reduceAdd, Nat.reduceMul, Nat.sub_zero, Nat.add_zero, Nat.zero_add, Nat.mul_zero, lq_s, br_s, bd_s, bv_s, gd_tt, inB_nI, nI_clamp, sk_s, sk_n, pk_us, pk_un, nI_add, pk_mul, pk_sub, nI_leI, nI_ltI, nI_eq, if_pos, if_neg, nn_neg, nn_ne, nn_ne2, nn_lt, nn_nlt, nn_nle, nn_le, nn_m1, li_0, li_1, li_2, li_3, li_4, li_5, li_9, li_10, li_19, li_20, li_26, li_40, li_60, li_64, li_97, li_48, li_100, li_199, li_200, li_1000, li_8200, li_9999, li_100000])
  · exact (w3.par (i := y) (q := nI x) (by decide)).keep (by simp (disch := omega) only [↓reduceIte, Nat.reduceSub, Nat.reduceAdd, Nat.reduceMul, Nat.sub_zero, Nat.add_zero, Nat.zero_add, Nat.mul_zero, lq_s, br_s, bd_s, bv_s, gd_tt, inB_nI, nI_clamp, sk_s, sk_n, pk_us, pk_un, nI_add, pk_mul, pk_sub, nI_leI, nI_ltI, nI_eq, if_pos, if_neg, nn_neg, nn_ne, nn_ne2, nn_lt, nn_nlt, nn_nle, nn_le, nn_m1, li_0, li_1, li_2, li_3, li_4, li_5, li_9, li_10, li_19, li_20, li_26, li_40, li_60, li_64, li_97, li_48, li_100, li_199, li_200, li_1000, li_8200, li_9999, li_100000]) (fun k hk => by simp (disch := omega) only [↓reduceIte, Nat.reduceSub, Nat.reduceAdd, Nat.reduceMul, Nat.sub_zero, Nat.add_zero, Nat.zero_add, Nat.mul_zero, lq_s, br_s, bd_s, bv_s, gd_tt, inB_nI, nI_clamp, sk_s, sk_n, pk_us, pk_un, nI_add, pk_mul, pk_sub, nI_leI, nI_ltI, nI_eq, if_pos, if_neg, nn_neg, nn_ne, nn_ne2, nn_lt, nn_nlt, nn_nle, nn_le, nn_m1, li_0, li_1, li_2, li_3, li_4, li_5, li_9, li_10, li_19, li_20, li_26, li_40, li_60, li_64, li_97, li_48, li_100, li_199, li_200, li_1000, li_8200, li_9999, li_100000])
  · exact w4.keep (by simp (disch := omega) only [↓reduceIte, Nat.reduceSub, Nat.reduceAdd, Nat.reduceMul, Nat.sub_zero, Nat.add_zero, Nat.zero_add, Nat.mul_zero, lq_s, br_s, bd_s, bv_s, gd_tt, inB_nI, nI_clamp, sk_s, sk_n, pk_us, pk_un, nI_add, pk_mul, pk_sub, nI_leI, nI_ltI, nI_eq, if_pos, if_neg, nn_neg, nn_ne, nn_ne2, nn_lt, nn_nlt, nn_nle, nn_le, nn_m1, li_0, li_1, li_2, li_3, li_4, li_5, li_9, li_10, li_19, li_20, li_26, li_40, li_60, li_64, li_97, li_48, li_100, li_199, li_200, li_1000, li_8200, li_9999, li_100000]) (by simp (disch := omega) only [↓reduceIte, Nat.reduceSub, Nat.reduceAdd, Nat.reduceMul, Nat.sub_zero, Nat.add_zero, Nat.zero_add, Nat.mul_zero, lq_s, br_s, bd_s, bv_s, gd_tt, inB_nI, nI_clamp, sk_s, sk_n, pk_us, pk_un, nI_add, pk_mul, pk_sub, nI_leI, nI_ltI, nI_eq, if_pos, if_neg, nn_neg, nn_ne, nn_ne2, nn_lt, nn_nlt, nn_nle, nn_le, nn_m1, li_0, li_1, li_2, li_3, li_4, li_5, li_9, li_10, li_19, li_20, li_26, li_40, li_60, li_64, li_97, li_48, li_100, li_199, li_200, li_1000, li_8200, li_9999, li_100000])
  · simp (disch := omega) only [↓reduceIte, Nat.reduceSub, Nat.reduceAdd, Nat.reduceMul, Nat.sub_zero, Nat.add_zero, Nat.zero_add, Nat.mul_zero, lq_s, br_s, bd_s, bv_s, gd_tt, inB_nI, nI_clamp, sk_s, sk_n, pk_us, pk_un, nI_add, pk_mul, pk_sub, nI_leI, nI_ltI, nI_eq, if_pos, if_neg, nn_neg, nn_ne, nn_ne2, nn_lt, nn_nlt, nn_nle, nn_le, nn_m1, li_0, li_1, li_2, li_3, li_4, li_5, li_9, li_10, li_19, li_20, li_26, li_40, li_60, li_64, li_97, li_48, li_100, li_199, li_200, li_1000, li_8200, li_9999, li_100000]; exact w6
  · simp (disch := omega) only [↓reduceIte, Nat.reduceSub, Nat.reduceAdd, Nat.reduceMul, Nat.sub_zero, Nat.add_zero, Nat.zero_add, Nat.mul_zero, lq_s, br_s, bd_s, bv_s, gd_tt, inB_nI, nI_clamp, sk_s, sk_n, pk_us, pk_un, nI_add, pk_mul, pk_sub, nI_leI, nI_ltI, nI_eq, if_pos, if_neg, nn_neg, nn_ne, nn_ne2, nn_lt, nn_nlt, nn_nle, nn_le, nn_m1, li_0, li_1, li_2, li_3, li_4, li_5, li_9, li_10, li_19, li_20, li_26, li_40, li_60, li_64, li_97, li_48, li_100, li_199, li_200, li_1000, li_8200, li_9999, li_100000]; exact w6'
  · simp (disch := omega) only [↓reduceIte, Nat.reduceSub, Nat.reduceAdd, Nat.reduceMul, Nat.sub_zero, Nat.add_zero, Nat.zero_add, Nat.mul_zero, lq_s, br_s, bd_s, bv_s, gd_tt, inB_nI, nI_clamp, sk_s, sk_n, pk_us, pk_un, nI_add, pk_mul, pk_sub, nI_leI, nI_ltI, nI_eq, if_pos, if_neg, nn_neg, nn_ne, nn_ne2, nn_lt, nn_nlt, nn_nle, nn_le, nn_m1, li_0, li_1, li_2, li_3, li_4, li_5, li_9, li_10, li_19, li_20, li_26, li_40, li_60, li_64, li_97, li_48, li_100, li_199, li_200, li_1000, li_8200, li_9999, li_100000]; exact q1
  · simp (disch := omega) only [↓reduceIte, Nat.reduceSub, Nat.reduceAdd, Nat.reduceMul, Nat.sub_zero, Nat.add_zero, Nat.zero_add, Nat.mul_zero, lq_s, br_s, bd_s, bv_s, gd_tt, inB_nI, nI_clamp, sk_s, sk_n, pk_us, pk_un, nI_add, pk_mul, pk_sub, nI_leI, nI_ltI, nI_eq, if_pos, if_neg, nn_neg, nn_ne, nn_ne2, nn_lt, nn_nlt, nn_nle, nn_le, nn_m1, li_0, li_1, li_2, li_3, li_4, li_5, li_9, li_10, li_19, li_20, li_26, li_40, li_60, li_64, li_97, li_48, li_100, li_199, li_200, li_1000, li_8200, li_9999, li_100000]
  · simp (disch := omega) only [↓reduceIte, Nat.reduceSub, Nat.reduceAdd, Nat.reduceMul, Nat.sub_zero, Nat.add_zero, Nat.zero_add, Nat.mul_zero, lq_s, br_s, bd_s, bv_s, gd_tt, inB_nI, nI_clamp, sk_s, sk_n, pk_us, pk_un, nI_add, pk_mul, pk_sub, nI_leI, nI_ltI, nI_eq, if_pos, if_neg, nn_neg, nn_ne, nn_ne2, nn_lt, nn_nlt, nn_nle, nn_le, nn_m1, li_0, li_1, li_2, li_3, li_4, li_5, li_9, li_10, li_19, li_20, li_26, li_40, li_60, li_64, li_97, li_48, li_100, li_199, li_200, li_1000, li_8200, li_9999, li_100000]; exact q3
  · simp (disch := omega) only [↓reduceIte, Nat.reduceSub, Nat.reduceAdd, Nat.reduceMul, Nat.sub_zero, Nat.add_zero, Nat.zero_add, Nat.mul_zero, lq_s, br_s, bd_s, bv_s, gd_tt, inB_nI, nI_clamp, sk_s, sk_n, pk_us, pk_un, nI_add, pk_mul, pk_sub, nI_leI, nI_ltI, nI_eq, if_pos, if_neg, nn_neg, nn_ne, nn_ne2, nn_lt, nn_nlt, nn_nle, nn_le, nn_m1, li_0, li_1, li_2, li_3, li_4, li_5, li_9, li_10, li_19, li_20, li_26, li_40, li_60, li_64, li_97, li_48, li_100, li_199, li_200, li_1000, li_8200, li_9999, li_100000]
  · show va_up met y 1 x = 1
    rw [va_up_ne met 1 hxy]; exact q8
  · simp (disch := omega) only [↓reduceIte, Nat.reduceSub, Nat.reduceAdd, Nat.reduceMul, Nat.sub_zero, Nat.add_zero, Nat.zero_add, Nat.mul_zero, lq_s, br_s, bd_s, bv_s, gd_tt, inB_nI, nI_clamp, sk_s, sk_n, pk_us, pk_un, nI_add, pk_mul, pk_sub, nI_leI, nI_ltI, nI_eq, if_pos, if_neg, nn_neg, nn_ne, nn_ne2, nn_lt, nn_nlt, nn_nle, nn_le, nn_m1, li_0, li_1, li_2, li_3, li_4, li_5, li_9, li_10, li_19, li_20, li_26, li_40, li_60, li_64, li_97, li_48, li_100, li_199, li_200, li_1000, li_8200, li_9999, li_100000]; exact p2
  · simp (disch := omega) only [↓reduceIte, Nat.reduceSub, Nat.reduceAdd, Nat.reduceMul, Nat.sub_zero, Nat.add_zero, Nat.zero_add, Nat.mul_zero, lq_s, br_s, bd_s, bv_s, gd_tt, inB_nI, nI_clamp, sk_s, sk_n, pk_us, pk_un, nI_add, pk_mul, pk_sub, nI_leI, nI_ltI, nI_eq, if_pos, if_neg, nn_neg, nn_ne, nn_ne2, nn_lt, nn_nlt, nn_nle, nn_le, nn_m1, li_0, li_1, li_2, li_3, li_4, li_5, li_9, li_10, li_19, li_20, li_26, li_40, li_60, li_64, li_97, li_48, li_100, li_199, li_200, li_1000, li_8200, li_9999, li_100000]
  · refine MS.keep t P p4 (fun f hf => ⟨rfl, rfl, rfl, va_up_ne met 1 (hmm f hf), by simp (disch := omega) only [↓reduceIte, Nat.reduceSub, Nat.reduceAdd, Nat.reduceMul, Nat.sub_zero, Nat.add_zero, Nat.zero_add, Nat.mul_zero, lq_s, br_s, bd_s, bv_s, gd_tt, inB_nI, nI_clamp, sk_s, sk_n, pk_us, pk_un, nI_add, pk_mul, pk_sub, nI_leI, nI_ltI, nI_eq, if_pos, if_neg, nn_neg, nn_ne, nn_ne2, nn_lt, nn_nlt, nn_nle, nn_le, nn_m1, li_0, li_1, li_2, li_3, li_4, li_5, li_9, li_10, li_19, li_20, li_26, li_40, li_60, li_64, li_97, li_48, li_100, li_199, li_200, li_1000, li_8200, li_9999, li_100000]⟩) (fun j hj => ?_)
    simp (disch := omega) only [↓reduceIte, Nat.reduceSub, Nat.reduceAdd, Nat.reduceMul, Nat.sub_zero, Nat.add_zero, Nat.zero_add, Nat.mul_zero, lq_s, br_s, bd_s, bv_s, gd_tt, inB_nI, nI_clamp, sk_s, sk_n, pk_us, pk_un, nI_add, pk_mul, pk_sub, nI_leI, nI_ltI, nI_eq, if_pos, if_neg, nn_neg, nn_ne, nn_ne2, nn_lt, nn_nlt, nn_nle, nn_le, nn_m1, li_0, li_1, li_2, li_3, li_4, li_5, li_9, li_10, li_19, li_20, li_26, li_40, li_60, li_64, li_97, li_48, li_100, li_199, li_200, li_1000, li_8200, li_9999, li_100000, and_self]
  · by_cases hiy : i = y
    · subst hiy
      rw [va_up_self]
      simp (disch := omega) only [↓reduceIte, Nat.reduceSub, Nat.reduceAdd, Nat.reduceMul, Nat.sub_zero, Nat.add_zero, Nat.zero_add, Nat.mul_zero, lq_s, br_s, bd_s, bv_s, gd_tt, inB_nI, nI_clamp, sk_s, sk_n, pk_us, pk_un, nI_add, pk_mul, pk_sub, nI_leI, nI_ltI, nI_eq, if_pos, if_neg, nn_neg, nn_ne, nn_ne2, nn_lt, nn_nlt, nn_nle, nn_le, nn_m1, li_0, li_1, li_2, li_3, li_4, li_5, li_9, li_10, li_19, li_20, li_26, li_40, li_60, li_64, li_97, li_48, li_100, li_199, li_200, li_1000, li_8200, li_9999, li_100000]
      exact ⟨trivial, trivial, Nat.le_refl _⟩
    · rw [va_up_ne met 1 hiy]
      simp (disch := omega) only [↓reduceIte, Nat.reduceSub, Nat.reduceAdd, Nat.reduceMul, Nat.sub_zero, Nat.add_zero, Nat.zero_add, Nat.mul_zero, lq_s, br_s, bd_s, bv_s, gd_tt, inB_nI, nI_clamp, sk_s, sk_n, pk_us, pk_un, nI_add, pk_mul, pk_sub, nI_leI, nI_ltI, nI_eq, if_pos, if_neg, nn_neg, nn_ne, nn_ne2, nn_lt, nn_nlt, nn_nle, nn_le, nn_m1, li_0, li_1, li_2, li_3, li_4, li_5, li_9, li_10, li_19, li_20, li_26, li_40, li_60, li_64, li_97, li_48, li_100, li_199, li_200, li_1000, li_8200, li_9999, li_100000]
      exact w8 i hi
  · by_cases hxy' : x' = y
    · subst hxy'
      rw [va_up_self] at hm'
      omega
    · rw [va_up_ne met 1 hxy'] at hm'
      exact w9 x' hx' hm'
  · exact w10.keep (by simp (disch := omega) only [↓reduceIte, Nat.reduceSub, Nat.reduceAdd, Nat.reduceMul, Nat.sub_zero, Nat.add_zero, Nat.zero_add, Nat.mul_zero, lq_s, br_s, bd_s, bv_s, gd_tt, inB_nI, nI_clamp, sk_s, sk_n, pk_us, pk_un, nI_add, pk_mul, pk_sub, nI_leI, nI_ltI, nI_eq, if_pos, if_neg, nn_neg, nn_ne, nn_ne2, nn_lt, nn_nlt, nn_nle, nn_le, nn_m1, li_0, li_1, li_2, li_3, li_4, li_5, li_9, li_10, li_19, li_20, li_26, li_40, li_60, li_64, li_97, li_48, li_100, li_199, li_200, li_1000, li_8200, li_9999, li_100000]) (by simp (disch := omega) only [↓reduceIte, Nat.reduceSub, Nat.reduceAdd, Nat.reduceMul, Nat.sub_zero, Nat.add_zero, Nat.zero_add, Nat.mul_zero, lq_s, br_s, bd_s, bv_s, gd_tt, inB_nI, nI_clamp, sk_s, sk_n, pk_us, pk_un, nI_add, pk_mul, pk_sub, nI_leI, nI_ltI, nI_eq, if_pos, if_neg, nn_neg, nn_ne, nn_ne2, nn_lt, nn_nlt, nn_nle, nn_le, nn_m1, li_0, li_1, li_2, li_3, li_4, li_5, li_9, li_10, li_19, li_20, li_26, li_40, li_60, li_64, li_97, li_48, li_100, li_199, li_200, li_1000, li_8200, li_9999, li_100000]) (by simp (disch := omega) only [↓reduceIte, Nat.reduceSub, Nat.reduceAdd, Nat.reduceMul, Nat.sub_zero, Nat.add_zero, Nat.zero_add, Nat.mul_zero, lq_s, br_s, bd_s, bv_s, gd_tt, inB_nI, nI_clamp, sk_s, sk_n, pk_us, pk_un, nI_add, pk_mul, pk_sub, nI_leI, nI_ltI, nI_eq, if_pos, if_neg, nn_neg, nn_ne, nn_ne2, nn_lt, nn_nlt, nn_nle, nn_le, nn_m1, li_0, li_1, li_2, li_3, li_4, li_5, li_9, li_10, li_19, li_20, li_26, li_40, li_60, li_64, li_97, li_48, li_100, li_199, li_200, li_1000, li_8200, li_9999, li_100000]) (by simp (disch := omega) only [↓reduceIte, Nat.reduceSub, Nat.reduceAdd, Nat.reduceMul, Nat.sub_zero, Nat.add_zero, Nat.zero_add, Nat.mul_zero, lq_s, br_s, bd_s, bv_s, gd_tt, inB_nI, nI_clamp, sk_s, sk_n, pk_us, pk_un, nI_add, pk_mul, pk_sub, nI_leI, nI_ltI, nI_eq, if_pos, if_neg, nn_neg, nn_ne, nn_ne2, nn_lt, nn_nlt, nn_nle, nn_le, nn_m1, li_0, li_1, li_2, li_3, li_4, li_5, li_9, li_10, li_19, li_20, li_26, li_40, li_60, li_64, li_97, li_48, li_100, li_199, li_200, li_1000, li_8200, li_9999, li_100000]) (by simp (disch := omega) only [↓reduceIte, Nat.reduceSub, Nat.reduceAdd, Nat.reduceMul, Nat.sub_zero, Nat.add_zero, Nat.zero_add, Nat.mul_zero, lq_s, br_s, bd_s, bv_s, gd_tt, inB_nI, nI_clamp, sk_s, sk_n, pk_us, pk_un, nI_add, pk_mul, pk_sub, nI_leI, nI_ltI, nI_eq, if_pos, if_neg, nn_neg, nn_ne, nn_ne2, nn_lt, nn_nlt, nn_nle, nn_le, nn_m1, li_0, li_1, li_2, li_3, li_4, li_5, li_9, li_10, li_19, li_20, li_26, li_40, li_60, li_64, li_97, li_48, li_100, li_199, li_200, li_1000, li_8200, li_9999, li_100000]) (by simp (disch := omega) only [↓reduceIte, Nat.reduceSub, Nat.reduceAdd, Nat.reduceMul, Nat.sub_zero, Nat.add_zero, Nat.zero_add, Nat.mul_zero, lq_s, br_s, bd_s, bv_s, gd_tt, inB_nI, nI_clamp, sk_s, sk_n, pk_us, pk_un, nI_add, pk_mul, pk_sub, nI_leI, nI_ltI, nI_eq, if_pos, if_neg, nn_neg, nn_ne, nn_ne2, nn_lt, nn_nlt, nn_nle, nn_le, nn_m1, li_0, li_1, li_2, li_3, li_4, li_5, li_9, li_10, li_19, li_20, li_26, li_40, li_60, li_64, li_97, li_48, li_100, li_199, li_200, li_1000, li_8200, li_9999, li_100000])
  · simp (disch := omega) only [↓reduceIte, Nat.reduceSub, Nat.reduceAdd, Nat.reduceMul, Nat.sub_zero, Nat.add_zero, Nat.zero_add, Nat.mul_zero, lq_s, br_s, bd_s, bv_s, gd_tt, inB_nI, nI_clamp, sk_s, sk_n, pk_us, pk_un, nI_add, pk_mul, pk_sub, nI_leI, nI_ltI, nI_eq, if_pos, if_neg, nn_neg, nn_ne, nn_ne2, nn_lt, nn_nlt, nn_nle, nn_le, nn_m1, li_0, li_1, li_2, li_3, li_4, li_5, li_9, li_10, li_19, li_20, li_26, li_40, li_60, li_64, li_97, li_48, li_100, li_199, li_200, li_1000, li_8200, li_9999, li_100000]
  · simp (disch := omega) only [↓reduceIte, Nat.reduceSub, Nat.reduceAdd, Nat.reduceMul, Nat.sub_zero, Nat.add_zero, Nat.zero_add, Nat.mul_zero, lq_s, br_s, bd_s, bv_s, gd_tt, inB_nI, nI_clamp, sk_s, sk_n, pk_us, pk_un, nI_add, pk_mul, pk_sub, nI_leI, nI_ltI, nI_eq, if_pos, if_neg, nn_neg, nn_ne, nn_ne2, nn_lt, nn_nlt, nn_nle, nn_le, nn_m1, li_0, li_1, li_2, li_3, li_4, li_5, li_9, li_10, li_19, li_20, li_26, li_40, li_60, li_64, li_97, li_48, li_100, li_199, li_200, li_1000, li_8200, li_9999, li_100000]
  · show t.length + 1 + (T + 1) + um (va_up met y 1) n0 ≤ n
    omega
  · simp (disch := omega) only [↓reduceIte, Nat.reduceSub, Nat.reduceAdd, Nat.reduceMul, Nat.sub_zero, Nat.add_zero, Nat.zero_add, Nat.mul_zero, lq_s, br_s, bd_s, bv_s, gd_tt, inB_nI, nI_clamp, sk_s, sk_n, pk_us, pk_un, nI_add, pk_mul, pk_sub, nI_leI, nI_ltI, nI_eq, if_pos, if_neg, nn_neg, nn_ne, nn_ne2, nn_lt, nn_nlt, nn_nle, nn_le, nn_m1, li_0, li_1, li_2, li_3, li_4, li_5, li_9, li_10, li_19, li_20, li_26, li_40, li_60, li_64, li_97, li_48, li_100, li_199, li_200, li_1000, li_8200, li_9999, li_100000]; exact w13
  · rw [va_up_ne met 1 (fun z => by rw [← z, w14] at hmet; omega)]
    exact w14
  · show (kc x + 1 - (s + 1)) + frM kc t + 41 * um (va_up met y 1) n0 < (kc x + 1 - s) + frM kc t + 41 * um met n0
    omega
  · simp (disch := omega) only [↓reduceIte, Nat.reduceSub, Nat.reduceAdd, Nat.reduceMul, Nat.sub_zero, Nat.add_zero, Nat.zero_add, Nat.mul_zero, lq_s, br_s, bd_s, bv_s, gd_tt, inB_nI, nI_clamp, sk_s, sk_n, pk_us, pk_un, nI_add, pk_mul, pk_sub, nI_leI, nI_ltI, nI_eq, if_pos, if_neg, nn_neg, nn_ne, nn_ne2, nn_lt, nn_nlt, nn_nle, nn_le, nn_m1, li_0, li_1, li_2, li_3, li_4, li_5, li_9, li_10, li_19, li_20, li_26, li_40, li_60, li_64, li_97, li_48, li_100, li_199, li_200, li_1000, li_8200, li_9999, li_100000]; exact a_zero _
  · unfold KF at hk
    simp (disch := omega) only [↓reduceIte, Nat.reduceSub, Nat.reduceAdd, Nat.reduceMul, Nat.sub_zero, Nat.add_zero, Nat.zero_add, Nat.mul_zero, lq_s, br_s, bd_s, bv_s, gd_tt, inB_nI, nI_clamp, sk_s, sk_n, pk_us, pk_un, nI_add, pk_mul, pk_sub, nI_leI, nI_ltI, nI_eq, if_pos, if_neg, nn_neg, nn_ne, nn_ne2, nn_lt, nn_nlt, nn_nle, nn_le, nn_m1, li_0, li_1, li_2, li_3, li_4, li_5, li_9, li_10, li_19, li_20, li_26, li_40, li_60, li_64, li_97, li_48, li_100, li_199, li_200, li_1000, li_8200, li_9999, li_100000]
  · unfold RF at hk
    simp (disch := omega) only [↓reduceIte, Nat.reduceSub, Nat.reduceAdd, Nat.reduceMul, Nat.sub_zero, Nat.add_zero, Nat.zero_add, Nat.mul_zero, lq_s, br_s, bd_s, bv_s, gd_tt, inB_nI, nI_clamp, sk_s, sk_n, pk_us, pk_un, nI_add, pk_mul, pk_sub, nI_leI, nI_ltI, nI_eq, if_pos, if_neg, nn_neg, nn_ne, nn_ne2, nn_lt, nn_nlt, nn_nle, nn_le, nn_m1, li_0, li_1, li_2, li_3, li_4, li_5, li_9, li_10, li_19, li_20, li_26, li_40, li_60, li_64, li_97, li_48, li_100, li_199, li_200, li_1000, li_8200, li_9999, li_100000]
