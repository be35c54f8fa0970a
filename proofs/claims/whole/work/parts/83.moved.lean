/-! the order without a page -/
theorem cw_mono (f : Nat → Nat) (p a : Nat) : ∀ d, cw f p a ≤ cw f p (a + d) := by
  intro d
  induction d with
  | zero => exact Nat.le_refl _
  | succ d ih =>
    rw [show a + (d + 1) = (a + d) + 1 by omega, cw]
    omega
theorem fK_at {f : Nat → Nat} {p : Nat} {k : Nat} (hk : ¬ f k = p) : ∀ m, k < m → fK f p m (cw f p k) = f k := by
  intro m
  induction m with
  | zero => intro h; omega
  | succ m ih =>
    intro h
    by_cases hkm : k = m
    · subst hkm
      exact fK_new hk
    · have h1 := ih (by omega)
      have h2 : cw f p k < cw f p m := by
        have := cw_mono f p (k + 1) (m - (k + 1))
        rw [cw_n hk, show k + 1 + (m - (k + 1)) = m by omega] at this
        omega
      rw [fK_old h2]
      exact h1
def dF (kd : Nat → Nat → Nat) (p : Nat) (f : Nat × Nat) : Nat × Nat := (f.1, cw (kd f.1) p f.2)
def dG (kd : Nat → Nat → Nat) (p : Nat) : List (Nat × Nat × Nat) → List (Nat × Nat × Nat)
  | [] => []
  | q :: t => if q.1 = p then dG kd p t else (q.1, q.2.1, cw (kd q.2.1) p q.2.2) :: dG kd p t
theorem dG_app {kd : Nat → Nat → Nat} {p : Nat} {e : Nat × Nat × Nat} : ∀ o, dG kd p (o ++ [e]) = dG kd p o ++ (if e.1 = p then [] else [(e.1, e.2.1, cw (kd e.2.1) p e.2.2)]) := by
  intro o
  induction o with
  | nil =>
    show (if e.1 = p then dG kd p [] else (e.1, e.2.1, cw (kd e.2.1) p e.2.2) :: dG kd p []) = _
    by_cases h : e.1 = p
    · rw [if_pos h, if_pos h]; rfl
    · rw [if_neg h, if_neg h]; rfl
  | cons q t ih =>
    rw [List.cons_append, dG, dG, ih]
    by_cases h : q.1 = p
    · rw [if_pos h, if_pos h]
    · rw [if_neg h, if_neg h, List.cons_append]
theorem dG_in {kd : Nat → Nat → Nat} {p : Nat} {q : Nat × Nat × Nat} (hq : ¬ q.1 = p) : ∀ o, q ∈ o → (q.1, q.2.1, cw (kd q.2.1) p q.2.2) ∈ dG kd p o := by
  intro o
  induction o with
  | nil => intro h; simp at h
  | cons a t ih =>
    intro h
    rw [dG]
    rcases List.mem_cons.mp h with h | h
    · subst h
      rw [if_neg hq]
      exact List.mem_cons_self
    · by_cases ha : a.1 = p
      · rw [if_pos ha]; exact ih h
      · rw [if_neg ha]; exact List.mem_cons_of_mem _ (ih h)
set_option maxHeartbeats 1000000 in
theorem wS_drop {n p : Nat} {pg kc : Nat → Nat} {kd : Nat → Nat → Nat} (hF : LF n pg kc kd) (hpg : pg p = 1) : ∀ (m : Nat) (met met' : Nat → Nat) (stk : List (Nat × Nat)) (out : List (Nat × Nat × Nat)) (m' : Nat), (∀ f ∈ stk, f.1 < n ∧ f.2 ≤ kc f.1) → (∀ i, i < n → i ≠ p → met' i = met i) → fr stk + 41 * um met n ≤ m → fr (stk.map (dF kd p)) + 41 * um met' n ≤ m' → wS pg (kcF kc kd p n) (kdF kc kd p n) m' met' (stk.map (dF kd p)) (dG kd p out) = dG kd p (wS pg kc kd m met stk out) := by
  intro m
  induction m with
  | zero =>
    intro met met' stk out m' hs hm h1 h2
    cases stk with
    | nil => rw [List.map_nil, wS_nil, wS_nil]
    | cons f t =>
      have h := (hs f List.mem_cons_self)
      have := hF.2.2.1 f.1 h.1
      have : fr (f :: t) = (41 - f.2) + fr t := rfl
      omega
  | succ m ih =>
    intro met met' stk out m' hs hm h1 h2
    cases stk with
    | nil => rw [List.map_nil, wS_nil, wS_nil]
    | cons f t =>
      obtain ⟨x, k⟩ := f
      have hx := hs _ List.mem_cons_self
      have hx1 : x < n := hx.1
      have hx2 : k ≤ kc x := hx.2
      have ht : ∀ g ∈ t, g.1 < n ∧ g.2 ≤ kc g.1 := fun g hg => hs g (List.mem_cons_of_mem _ hg)
      have h40 := hF.2.2.1 x hx1
      have hcw := cw_le (kd x) p k
      have h1 : (41 - k) + fr t + 41 * um met n ≤ m + 1 := h1
      have h2 : (41 - cw (kd x) p k) + fr (t.map (dF kd p)) + 41 * um met' n ≤ m' := h2
      have hkc : kcF kc kd p n x = cw (kd x) p (kc x) := by unfold kcF; rw [if_pos hx1]
      have ht1 : k < kc x → ∀ g ∈ (x, k + 1) :: t, g.1 < n ∧ g.2 ≤ kc g.1 := fun hk g hg => (List.mem_cons.mp hg).elim (fun e => by rw [e]; exact ⟨hx1, hk⟩) (ht g)
      obtain ⟨m2, rfl⟩ : ∃ a, m' = a + 1 := ⟨m' - 1, by omega⟩
      rw [wS]
      show wS pg (kcF kc kd p n) (kdF kc kd p n) (m2 + 1) met' ((x, cw (kd x) p k) :: t.map (dF kd p)) (dG kd p out) = _
      by_cases hk : k < kc x
      · rw [if_pos hk]
        have hy := hF.2.2.2.1 x k hx1 hk
        by_cases hyp : kd x k = p
        · -- the page itself: the shorter list has no step for it
          have hcy := cw_y (f := kd x) (p := p) (k := k) hyp
          have hst : ((x, cw (kd x) p k) :: t.map (dF kd p)) = ((x, k + 1) :: t).map (dF kd p) := by
            show _ = (x, cw (kd x) p (k + 1)) :: t.map (dF kd p)
            rw [hcy]
          rw [hst]
          have hfr : fr (((x, k + 1) :: t).map (dF kd p)) + 41 * um met' n ≤ m2 + 1 := by rw [← hst]; exact h2
          have hpy : ¬ pg (kd x k) = 0 := by rw [hyp, hpg]; omega
          by_cases hmt : met (kd x k) = 0
          · have hum := um_up hmt n hy
            rw [if_pos hmt, if_neg hpy]
            have := ih (va_up met (kd x k) 1) met' ((x, k + 1) :: t) (out ++ [(kd x k, x, k)]) (m2 + 1) (ht1 hk) (fun i hi hip => by rw [va_up_ne met 1 (fun z => hip (z.trans hyp))]; exact hm i hi hip) (by show (41 - (k + 1)) + fr t + _ ≤ m; omega) hfr
            rw [dG_app, if_pos hyp, List.append_nil] at this
            exact this
          · rw [if_neg hmt]
            exact ih met met' ((x, k + 1) :: t) out (m2 + 1) (ht1 hk) hm (by show (41 - (k + 1)) + fr t + _ ≤ m; omega) hfr
        · have hcn := cw_n (f := kd x) (p := p) (k := k) hyp
          have hlt : cw (kd x) p k < cw (kd x) p (kc x) := by
            have := cw_mono (kd x) p (k + 1) (kc x - (k + 1))
            rw [hcn, show k + 1 + (kc x - (k + 1)) = kc x by omega] at this
            omega
          have hkd : kdF kc kd p n x (cw (kd x) p k) = kd x k := by
            unfold kdF
            rw [if_pos hx1]
            exact fK_at hyp _ hk
          rw [wS]
          show (if cw (kd x) p k < kcF kc kd p n x then (if met' (kdF kc kd p n x (cw (kd x) p k)) = 0 then (if pg (kdF kc kd p n x (cw (kd x) p k)) = 0 then wS pg (kcF kc kd p n) (kdF kc kd p n) m2 (va_up met' (kdF kc kd p n x (cw (kd x) p k)) 1) ((kdF kc kd p n x (cw (kd x) p k), 0) :: (x, cw (kd x) p k + 1) :: t.map (dF kd p)) (dG kd p out) else wS pg (kcF kc kd p n) (kdF kc kd p n) m2 (va_up met' (kdF kc kd p n x (cw (kd x) p k)) 1) ((x, cw (kd x) p k + 1) :: t.map (dF kd p)) (dG kd p out ++ [(kdF kc kd p n x (cw (kd x) p k), x, cw (kd x) p k)])) else wS pg (kcF kc kd p n) (kdF kc kd p n) m2 met' ((x, cw (kd x) p k + 1) :: t.map (dF kd p)) (dG kd p out)) else wS pg (kcF kc kd p n) (kdF kc kd p n) m2 met' (t.map (dF kd p)) (dG kd p out)) = _
          rw [hkd, hkc, if_pos hlt, hm _ hy hyp]
          have hst : ((x, cw (kd x) p k + 1) :: t.map (dF kd p)) = ((x, k + 1) :: t).map (dF kd p) := by
            show _ = (x, cw (kd x) p (k + 1)) :: t.map (dF kd p)
            rw [hcn]
          have hfr1 : fr (((x, k + 1) :: t).map (dF kd p)) = (41 - (cw (kd x) p k + 1)) + fr (t.map (dF kd p)) := by rw [← hst]; rfl
          have hmm : ∀ i, i < n → i ≠ p → va_up met' (kd x k) 1 i = va_up met (kd x k) 1 i := fun i hi hip => by
            by_cases hiy : i = kd x k
            · rw [hiy, va_up_self, va_up_self]
            · rw [va_up_ne _ _ hiy, va_up_ne _ _ hiy]; exact hm i hi hip
          by_cases hmt : met (kd x k) = 0
          · have hum := um_up hmt n hy
            have hum' := um_up (f := met') (y := kd x k) (by rw [hm _ hy hyp]; exact hmt) n hy
            rw [if_pos hmt, if_pos hmt]
            by_cases hpy : pg (kd x k) = 0
            · rw [if_pos hpy, if_pos hpy]
              have hst2 : ((kd x k, 0) :: (x, cw (kd x) p k + 1) :: t.map (dF kd p)) = ((kd x k, 0) :: (x, k + 1) :: t).map (dF kd p) := by
                rw [hst]; rfl
              rw [hst2]
              refine ih (va_up met (kd x k) 1) (va_up met' (kd x k) 1) ((kd x k, 0) :: (x, k + 1) :: t) out m2 (fun g hg => (List.mem_cons.mp hg).elim (fun e => by rw [e]; exact ⟨hy, Nat.zero_le _⟩) (ht1 hk g)) hmm ?_ ?_
              · show (41 - 0) + ((41 - (k + 1)) + fr t) + 41 * um (va_up met (kd x k) 1) n ≤ m
                omega
              · rw [← hst2]
                show (41 - 0) + ((41 - (cw (kd x) p k + 1)) + fr (t.map (dF kd p))) + 41 * um (va_up met' (kd x k) 1) n ≤ m2
                omega
            · rw [if_neg hpy, if_neg hpy, hst]
              have := ih (va_up met (kd x k) 1) (va_up met' (kd x k) 1) ((x, k + 1) :: t) (out ++ [(kd x k, x, k)]) m2 (ht1 hk) hmm (by show (41 - (k + 1)) + fr t + _ ≤ m; omega) (by rw [hfr1]; omega)
              rw [dG_app, if_neg (show ¬ (kd x k, x, k).1 = p from hyp)] at this
              exact this
          · rw [if_neg hmt, if_neg hmt, hst]
            exact ih met met' ((x, k + 1) :: t) out m2 (ht1 hk) hm (by show (41 - (k + 1)) + fr t + _ ≤ m; omega) (by rw [hfr1]; omega)
      · rw [if_neg hk]
        have hk : k = kc x := by omega
        rw [wS]
        show (if cw (kd x) p k < kcF kc kd p n x then _ else wS pg (kcF kc kd p n) (kdF kc kd p n) m2 met' (t.map (dF kd p)) (dG kd p out)) = _
        rw [hkc, if_neg (by rw [hk]; omega)]
        exact ih met met' t out m2 ht hm (by omega) (by omega)
theorem wO_drop {n p : Nat} {pg kc : Nat → Nat} {kd : Nat → Nat → Nat} (hF : LF n pg kc kd) (hpg : pg p = 1) : wO n pg (kcF kc kd p n) (kdF kc kd p n) = dG kd p (wO n pg kc kd) := by
  unfold wO
  by_cases h0 : n = 0
  · rw [if_pos h0, if_pos h0]; rfl
  · rw [if_neg h0, if_neg h0]
    have hm := mul_um (n := n) (by omega) hF.1
    have := wS_drop hF hpg 8200 (va_up (fun _ => 0) 0 1) (va_up (fun _ => 0) 0 1) [(0, 0)] [] 8200 (fun f hf => by rw [List.mem_singleton.mp hf]; exact ⟨by show 0 < n; omega, Nat.zero_le _⟩) (fun _ _ _ => rfl) (by show (41 - 0) + 0 + 41 * um (va_up (fun _ => 0) 0 1) n ≤ 8200; omega) (by show (41 - 0) + 0 + 41 * um (va_up (fun _ => 0) 0 1) n ≤ 8200; omega)
    exact this
/-- how many kids of a node aren't the page, by the class -/
theorem k_without {n p x : Nat} {pg kc : Nat → Nat} {kd : Nat → Nat → Nat} {σ : St} (hV : LV n pg kc kd σ 26) (hF : LF n pg kc kd) (hx : x < n) (hp : p < n) : ∀ (c k fuel : Nat), k + c = kc x → c < fuel → kL_Items_kidCountWithout_5 σ fuel (nI x) (nI p) (nI (cw (kd x) p k)) (nI k) = some (nI (cw (kd x) p (kc x))) := by
  have hn := hF.1
  have h40 := hF.2.2.1 x hx
  have e3 := k_kidCountOf_y hV.1 hn hx (hV.2.2.1 x hx)
  intro c
  induction c with
  | zero =>
    intro k fuel hk hf
    obtain ⟨g, rfl⟩ : ∃ g, fuel = g + 1 := ⟨fuel - 1, by omega⟩
    have hk : k = kc x := by omega
    subst hk
    rw [kL_Items_kidCountWithout_5]
    simp (disch := omega) only [↓reduceIte, Nat.reduceSub, Nat.reduceAdd, Nat.reduceMul, Nat.sub_zero, Nat.add_zero, Nat.zero_add, Nat.mul_zero, lq_s, br_s, bd_s, bv_s, gd_tt, inB_nI, nI_clamp, sk_s, sk_n, pk_us, pk_un, nI_add, pk_mul, pk_sub, nI_leI, nI_ltI, nI_eq, if_pos, if_neg, nn_neg, nn_ne, nn_ne2, nn_lt, nn_nlt, nn_nle, nn_le, nn_m1, li_0, li_1, li_2, li_3, li_4, li_5, li_9, li_10, li_19, li_20, li_26, li_40, li_60, li_64, li_97, li_48, li_100, li_199, li_200, li_1000, li_8200, li_9999, li_100000, e3]
  | succ c ih =>
    intro k fuel hk hf
    obtain ⟨g, rfl⟩ : ∃ g, fuel = g + 1 := ⟨fuel - 1, by omega⟩
    have hc := cw_le (kd x) p k
    have e4 := k_kidAt_y hV hF hx (show k < kc x by omega)
    have hy := hF.2.2.2.1 x k hx (by omega)
    have := ih (k + 1) g (by omega) (by omega)
    rw [kL_Items_kidCountWithout_5]
    unfold kJ_Items_kidCountWithout_29
    by_cases hyp : kd x k = p
    · rw [cw_y hyp] at this
      rw [hyp] at e4
      simp (disch := omega) only [↓reduceIte, Nat.reduceSub, Nat.reduceAdd, Nat.reduceMul, Nat.sub_zero, Nat.add_zero, Nat.zero_add, Nat.mul_zero, lq_s, br_s, bd_s, bv_s, gd_tt, inB_nI, nI_clamp, sk_s, sk_n, pk_us, pk_un, nI_add, pk_mul, pk_sub, nI_leI, nI_ltI, nI_eq, if_pos, if_neg, nn_neg, nn_ne, nn_ne2, nn_lt, nn_nlt, nn_nle, nn_le, nn_m1, li_0, li_1, li_2, li_3, li_4, li_5, li_9, li_10, li_19, li_20, li_26, li_40, li_60, li_64, li_97, li_48, li_100, li_199, li_200, li_1000, li_8200, li_9999, li_100000, e3, e4]
      exact this
    · rw [cw_n hyp] at this
      simp (disch := omega) only [↓reduceIte, Nat.reduceSub, Nat.reduceAdd, Nat.reduceMul, Nat.sub_zero, Nat.add_zero, Nat.zero_add, Nat.mul_zero, lq_s, br_s, bd_s, bv_s, gd_tt, inB_nI, nI_clamp, sk_s, sk_n, pk_us, pk_un, nI_add, pk_mul, pk_sub, nI_leI, nI_ltI, nI_eq, if_pos, if_neg, nn_neg, nn_ne, nn_ne2, nn_lt, nn_nlt, nn_nle, nn_le, nn_m1, li_0, li_1, li_2, li_3, li_4, li_5, li_9, li_10, li_19, li_20, li_26, li_40, li_60, li_64, li_97, li_48, li_100, li_199, li_200, li_1000, li_8200, li_9999, li_100000, e3, e4]
      exact this
/-- how many are, by the reference -/
theorem r_listed {n p x : Nat} {pg kc : Nat → Nat} {kd : Nat → Nat → Nat} {σ : St} (hV : LV n pg kc kd σ 22) (hF : LF n pg kc kd) (hx : x < n) (hp : p < n) : ∀ (c k fuel : Nat), k + c = kc x → c < fuel → rL_Md_listed_5 σ fuel (nI x) (nI p) (nI (k - cw (kd x) p k)) (nI k) = some (nI (kc x - cw (kd x) p (kc x))) := by
  have hn := hF.1
  have h40 := hF.2.2.1 x hx
  have e3 := hV.2.2.1 x hx
  intro c
  induction c with
  | zero =>
    intro k fuel hk hf
    obtain ⟨g, rfl⟩ : ∃ g, fuel = g + 1 := ⟨fuel - 1, by omega⟩
    have hk : k = kc x := by omega
    subst hk
    rw [rL_Md_listed_5]
    simp (disch := omega) only [↓reduceIte, Nat.reduceSub, Nat.reduceAdd, Nat.reduceMul, Nat.sub_zero, Nat.add_zero, Nat.zero_add, Nat.mul_zero, lq_s, br_s, bd_s, bv_s, gd_tt, inB_nI, nI_clamp, sk_s, sk_n, pk_us, pk_un, nI_add, pk_mul, pk_sub, nI_leI, nI_ltI, nI_eq, if_pos, if_neg, nn_neg, nn_ne, nn_ne2, nn_lt, nn_nlt, nn_nle, nn_le, nn_m1, li_0, li_1, li_2, li_3, li_4, li_5, li_9, li_10, li_19, li_20, li_26, li_40, li_60, li_64, li_97, li_48, li_100, li_199, li_200, li_1000, li_8200, li_9999, li_100000, e3]
  | succ c ih =>
    intro k fuel hk hf
    obtain ⟨g, rfl⟩ : ∃ g, fuel = g + 1 := ⟨fuel - 1, by omega⟩
    have hc := cw_le (kd x) p k
    have e4 := hV.2.2.2 x k hx (by omega)
    have hy := hF.2.2.2.1 x k hx (by omega)
    have := ih (k + 1) g (by omega) (by omega)
    rw [rL_Md_listed_5]
    unfold rJ_Md_listed_38
    by_cases hyp : kd x k = p
    · rw [cw_y hyp, show k + 1 - cw (kd x) p k = k - cw (kd x) p k + 1 by omega] at this
      rw [hyp] at e4
      simp (disch := omega) only [↓reduceIte, Nat.reduceSub, Nat.reduceAdd, Nat.reduceMul, Nat.sub_zero, Nat.add_zero, Nat.zero_add, Nat.mul_zero, lq_s, br_s, bd_s, bv_s, gd_tt, inB_nI, nI_clamp, sk_s, sk_n, pk_us, pk_un, nI_add, pk_mul, pk_sub, nI_leI, nI_ltI, nI_eq, if_pos, if_neg, nn_neg, nn_ne, nn_ne2, nn_lt, nn_nlt, nn_nle, nn_le, nn_m1, li_0, li_1, li_2, li_3, li_4, li_5, li_9, li_10, li_19, li_20, li_26, li_40, li_60, li_64, li_97, li_48, li_100, li_199, li_200, li_1000, li_8200, li_9999, li_100000, e3, e4]
      exact this
    · rw [cw_n hyp, show k + 1 - (cw (kd x) p k + 1) = k - cw (kd x) p k by omega] at this
      simp (disch := omega) only [↓reduceIte, Nat.reduceSub, Nat.reduceAdd, Nat.reduceMul, Nat.sub_zero, Nat.add_zero, Nat.zero_add, Nat.mul_zero, lq_s, br_s, bd_s, bv_s, gd_tt, inB_nI, nI_clamp, sk_s, sk_n, pk_us, pk_un, nI_add, pk_mul, pk_sub, nI_leI, nI_ltI, nI_eq, if_pos, if_neg, nn_neg, nn_ne, nn_ne2, nn_lt, nn_nlt, nn_nle, nn_le, nn_m1, li_0, li_1, li_2, li_3, li_4, li_5, li_9, li_10, li_19, li_20, li_26, li_40, li_60, li_64, li_97, li_48, li_100, li_199, li_200, li_1000, li_8200, li_9999, li_100000, e3, e4]
      exact this
