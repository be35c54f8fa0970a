theorem wS_len {n : Nat} {pg kc : Nat → Nat} {kd : Nat → Nat → Nat} (hF : LF n pg kc kd) : ∀ (m : Nat) (met : Nat → Nat) (stk : List (Nat × Nat)) (out : List (Nat × Nat × Nat)), (∀ f ∈ stk, f.1 < n) → out.length + um met n ≤ n → (wS pg kc kd m met stk out).length ≤ n := by
  intro m
  induction m with
  | zero => intro met stk out _ h; show out.length ≤ n; omega
  | succ m ih =>
    intro met stk out hs h
    cases stk with
    | nil => show out.length ≤ n; omega
    | cons f t =>
      have hx := hs f (List.mem_cons_self)
      have ht : ∀ g ∈ t, g.1 < n := fun g hg => hs g (List.mem_cons_of_mem _ hg)
      have ht1 : ∀ g ∈ (f.1, f.2 + 1) :: t, g.1 < n := fun g hg => (List.mem_cons.mp hg).elim (fun e => by rw [e]; exact hx) (ht g)
      rw [wS]
      by_cases hk : f.2 < kc f.1
      · rw [if_pos hk]
        have hy := hF.2.2.2.1 _ _ hx hk
        by_cases hm : met (kd f.1 f.2) = 0
        · have hu := um_up hm n hy
          rw [if_pos hm]
          by_cases hp : pg (kd f.1 f.2) = 0
          · rw [if_pos hp]
            exact ih _ _ _ (fun g hg => (List.mem_cons.mp hg).elim (fun e => by rw [e]; exact hy) (ht1 g)) (by omega)
          · rw [if_neg hp]
            exact ih _ _ _ ht1 (by rw [List.length_append]; show out.length + 1 + _ ≤ n; omega)
        · rw [if_neg hm]
          exact ih _ _ _ ht1 h
      · rw [if_neg hk]
        exact ih _ _ _ ht h
/-- what an entry of the order is -/
def gE (n : Nat) (pg kc : Nat → Nat) (kd : Nat → Nat → Nat) (q : Nat × Nat × Nat) : Prop := q.1 < n ∧ pg q.1 = 1 ∧ q.2.1 < n ∧ pg q.2.1 = 0 ∧ q.2.2 < kc q.2.1 ∧ kd q.2.1 q.2.2 = q.1
theorem wS_good {n : Nat} {pg kc : Nat → Nat} {kd : Nat → Nat → Nat} (hF : LF n pg kc kd) : ∀ (m : Nat) (met : Nat → Nat) (stk : List (Nat × Nat)) (out : List (Nat × Nat × Nat)), (∀ f ∈ stk, f.1 < n ∧ pg f.1 = 0) → (∀ q ∈ out, gE n pg kc kd q) → ∀ q ∈ wS pg kc kd m met stk out, gE n pg kc kd q := by
  intro m
  induction m with
  | zero => intro met stk out _ h; exact h
  | succ m ih =>
    intro met stk out hs h
    cases stk with
    | nil => exact h
    | cons f t =>
      have hx := hs f (List.mem_cons_self)
      have ht : ∀ g ∈ t, g.1 < n ∧ pg g.1 = 0 := fun g hg => hs g (List.mem_cons_of_mem _ hg)
      have ht1 : ∀ g ∈ (f.1, f.2 + 1) :: t, g.1 < n ∧ pg g.1 = 0 := fun g hg => (List.mem_cons.mp hg).elim (fun e => by rw [e]; exact hx) (ht g)
      rw [wS]
      by_cases hk : f.2 < kc f.1
      · rw [if_pos hk]
        have hy := hF.2.2.2.1 _ _ hx.1 hk
        have hpg := hF.2.1 _ hy
        by_cases hm : met (kd f.1 f.2) = 0
        · rw [if_pos hm]
          by_cases hp : pg (kd f.1 f.2) = 0
          · rw [if_pos hp]
            exact ih _ _ _ (fun g hg => (List.mem_cons.mp hg).elim (fun e => by rw [e]; exact ⟨hy, hp⟩) (ht1 g)) h
          · rw [if_neg hp]
            refine ih _ _ _ ht1 (fun q hq => ?_)
            rcases List.mem_append.mp hq with hq | hq
            · exact h q hq
            · rw [List.mem_singleton.mp hq]
              exact ⟨hy, by show pg (kd f.1 f.2) = 1; omega, hx.1, hx.2, hk, rfl⟩
        · rw [if_neg hm]
          exact ih _ _ _ ht1 h
      · rw [if_neg hk]
        exact ih _ _ _ ht h
theorem wO_len {n : Nat} {pg kc : Nat → Nat} {kd : Nat → Nat → Nat} (hF : LF n pg kc kd) : (wO n pg kc kd).length ≤ n := by
  unfold wO
  by_cases h0 : n = 0
  · rw [if_pos h0]; exact Nat.zero_le _
  · rw [if_neg h0]
    have := um_root (n := n) (by omega)
    exact wS_len hF _ _ _ _ (fun f hf => by rw [List.mem_singleton.mp hf]; show 0 < n; omega) (by show 0 + _ ≤ n; omega)
theorem wO_good {n : Nat} {pg kc : Nat → Nat} {kd : Nat → Nat → Nat} (hF : LF n pg kc kd) {j : Nat} {q : Nat × Nat × Nat} (h : (wO n pg kc kd)[j]? = some q) : gE n pg kc kd q := by
  unfold wO at h
  by_cases h0 : n = 0
  · rw [if_pos h0] at h; simp at h
  · rw [if_neg h0] at h
    exact wS_good hF _ _ _ _ (fun f hf => by rw [List.mem_singleton.mp hf]; exact ⟨by show 0 < n; omega, hF.2.2.2.2 (by omega)⟩) (fun q hq => by simp at hq) q (List.mem_of_getElem? h)
/-- the class's place of an item -/
theorem k_place {n : Nat} {σ σ' : St} {o : List (Nat × Nat × Nat)} (h : kM_Order_refresh σ = some σ') (ho : oK n σ' o) (hn : n ≤ 200) (hl : o.length ≤ n) (x : Int32) : (∃ (j : Nat) (q : Nat × Nat × Nat), o[j]? = some q ∧ x = nI q.1 ∧ kM_Order_placeOf σ x = some (nI j, σ')) ∨ ((∀ (j : Nat) (q : Nat × Nat × Nat), o[j]? = some q → x ≠ nI q.1) ∧ kM_Order_placeOf σ x = some (nM 1, σ')) := by
  obtain ⟨o1, o2, o3⟩ := ho
  unfold kM_Order_placeOf kM_Order_isTaken
  rw [h, bv_s]
  have hno : ∀ (hx : ∀ i, i < 200 → x ≠ nI i) (j : Nat) (q : Nat × Nat × Nat), o[j]? = some q → x ≠ nI q.1 := fun hx j q hq => hx q.1 (by have := (o2 j q hq).1; omega)
  rcases ix_cases x (n := 200) (by omega) with hx | hx | ⟨i, hi, rfl⟩
  · refine Or.inr ⟨hno (fun i hi e => ?_), ?_⟩
    · rw [e] at hx
      exact nI_pos (by omega) hx
    · rw [li_0, if_pos hx]; simp (disch := omega) only [↓reduceIte, Nat.reduceSub, Nat.reduceAdd, Nat.reduceMul, Nat.sub_zero, Nat.add_zero, Nat.zero_add, Nat.mul_zero, lq_s, br_s, bd_s, bv_s, gd_tt, inB_nI, nI_clamp, sk_s, sk_n, pk_us, pk_un, nI_add, pk_mul, pk_sub, nI_leI, nI_ltI, nI_eq, if_pos, if_neg, nn_neg, nn_ne, nn_ne2, nn_lt, nn_nlt, nn_nle, nn_le, nn_m1, li_0, li_1, li_2, li_3, li_4, li_5, li_9, li_10, li_19, li_20, li_26, li_40, li_60, li_64, li_97, li_48, li_100, li_199, li_200, li_1000, li_8200, li_9999, li_100000]
  · refine Or.inr ⟨hno (fun i hi e => ?_), ?_⟩
    · have h2 := hx.2
      rw [e] at h2
      have := (nI_leI (by omega) (by omega)).mp h2
      omega
    · rw [li_0, if_neg hx.1, li_200, if_pos hx.2]; simp (disch := omega) only [↓reduceIte, Nat.reduceSub, Nat.reduceAdd, Nat.reduceMul, Nat.sub_zero, Nat.add_zero, Nat.zero_add, Nat.mul_zero, lq_s, br_s, bd_s, bv_s, gd_tt, inB_nI, nI_clamp, sk_s, sk_n, pk_us, pk_un, nI_add, pk_mul, pk_sub, nI_leI, nI_ltI, nI_eq, if_pos, if_neg, nn_neg, nn_ne, nn_ne2, nn_lt, nn_nlt, nn_nle, nn_le, nn_m1, li_0, li_1, li_2, li_3, li_4, li_5, li_9, li_10, li_19, li_20, li_26, li_40, li_60, li_64, li_97, li_48, li_100, li_199, li_200, li_1000, li_8200, li_9999, li_100000]
  · rcases o3 i hi with q | ⟨j, q, h1, h2⟩
    · refine Or.inr ⟨fun j q' hq e => ?_, by simp (disch := omega) only [↓reduceIte, Nat.reduceSub, Nat.reduceAdd, Nat.reduceMul, Nat.sub_zero, Nat.add_zero, Nat.zero_add, Nat.mul_zero, lq_s, br_s, bd_s, bv_s, gd_tt, inB_nI, nI_clamp, sk_s, sk_n, pk_us, pk_un, nI_add, pk_mul, pk_sub, nI_leI, nI_ltI, nI_eq, if_pos, if_neg, nn_neg, nn_ne, nn_ne2, nn_lt, nn_nlt, nn_nle, nn_le, nn_m1, li_0, li_1, li_2, li_3, li_4, li_5, li_9, li_10, li_19, li_20, li_26, li_40, li_60, li_64, li_97, li_48, li_100, li_199, li_200, li_1000, li_8200, li_9999, li_100000, q]⟩
      have h3 := o2 j q' hq
      have e2 : i = q'.1 := (nI_eq (by omega) (by omega)).mp e
      have h4 := h3.2.2.1
      rw [← e2, q] at h4
      have hj := (List.getElem?_eq_some_iff.mp hq).1
      have := (nn_ne2 (a := j) (b := 1) (by omega) (by omega) (by omega)).mp h4
      exact this
    · refine Or.inl ⟨j, q, h1, by rw [h2], ?_⟩
      have h3 := (o2 j q h1).2.2.1
      rw [h2] at h3
      have hj := (List.getElem?_eq_some_iff.mp h1).1
      simp (disch := omega) only [↓reduceIte, Nat.reduceSub, Nat.reduceAdd, Nat.reduceMul, Nat.sub_zero, Nat.add_zero, Nat.zero_add, Nat.mul_zero, lq_s, br_s, bd_s, bv_s, gd_tt, inB_nI, nI_clamp, sk_s, sk_n, pk_us, pk_un, nI_add, pk_mul, pk_sub, nI_leI, nI_ltI, nI_eq, if_pos, if_neg, nn_neg, nn_ne, nn_ne2, nn_lt, nn_nlt, nn_nle, nn_le, nn_m1, li_0, li_1, li_2, li_3, li_4, li_5, li_9, li_10, li_19, li_20, li_26, li_40, li_60, li_64, li_97, li_48, li_100, li_199, li_200, li_1000, li_8200, li_9999, li_100000, h3]
theorem o_inj {n : Nat} {s : St} {o : List (Nat × Nat × Nat)} (ho : oK n s o) (hl : o.length ≤ 200) {i j : Nat} {p q : Nat × Nat × Nat} (hi : o[i]? = some p) (hj : o[j]? = some q) (h : p.1 = q.1) : i = j := by
  have a := (ho.2.1 i p hi).2.2.1
  have b := (ho.2.1 j q hj).2.2.1
  rw [h, b] at a
  have h1 := (List.getElem?_eq_some_iff.mp hi).1
  have h2 := (List.getElem?_eq_some_iff.mp hj).1
  exact ((nI_eq (by omega) (by omega)).mp a).symm
theorem r_place_loop {ρ : St} {o : List (Nat × Nat × Nat)} (ho : oR ρ o) (hl : o.length ≤ 200) (x : Int32) : ∀ (c i fuel : Nat) (v : Int32), i + c = o.length → c < fuel → (∃ (j : Nat) (q : Nat × Nat × Nat), i ≤ j ∧ o[j]? = some q ∧ x = nI q.1 ∧ (∀ (l : Nat) (p : Nat × Nat × Nat), o[l]? = some p → p.1 = q.1 → l = j) ∧ rL_Md_placeOf_8 fuel ρ x v (nI i) = some (nI j, ρ)) ∨ ((∀ (j : Nat) (q : Nat × Nat × Nat), i ≤ j → o[j]? = some q → x ≠ nI q.1) ∧ rL_Md_placeOf_8 fuel ρ x v (nI i) = some (v, ρ)) ∨ ∃ (i j : Nat) (p q : Nat × Nat × Nat), o[i]? = some p ∧ o[j]? = some q ∧ nI p.1 = nI q.1 ∧ i ≠ j := by
  intro c
  induction c with
  | zero =>
    intro i fuel v hi hf
    obtain ⟨g, rfl⟩ : ∃ g, fuel = g + 1 := ⟨fuel - 1, by omega⟩
    refine Or.inr (Or.inl ⟨fun j q hj hq => ?_, ?_⟩)
    · have := (List.getElem?_eq_some_iff.mp hq).1
      omega
    · rw [rL_Md_placeOf_8]
      have o1 := ho.1
      simp (disch := omega) only [↓reduceIte, Nat.reduceSub, Nat.reduceAdd, Nat.reduceMul, Nat.sub_zero, Nat.add_zero, Nat.zero_add, Nat.mul_zero, lq_s, br_s, bd_s, bv_s, gd_tt, inB_nI, nI_clamp, sk_s, sk_n, pk_us, pk_un, nI_add, pk_mul, pk_sub, nI_leI, nI_ltI, nI_eq, if_pos, if_neg, nn_neg, nn_ne, nn_ne2, nn_lt, nn_nlt, nn_nle, nn_le, nn_m1, li_0, li_1, li_2, li_3, li_4, li_5, li_9, li_10, li_19, li_20, li_26, li_40, li_60, li_64, li_97, li_48, li_100, li_199, li_200, li_1000, li_8200, li_9999, li_100000, o1]
  | succ c ih =>
    intro i fuel v hi hf
    obtain ⟨g, rfl⟩ : ∃ g, fuel = g + 1 := ⟨fuel - 1, by omega⟩
    rw [rL_Md_placeOf_8]
    have o1 := ho.1
    obtain ⟨p, hp⟩ : ∃ p, o[i]? = some p := ⟨o[i]'(by omega), List.getElem?_eq_getElem (by omega)⟩
    have hp9 := (ho.2 i p hp).1
    unfold rJ_Md_placeOf_31
    by_cases hx : nI p.1 = x
    · have e : (if (ρ 24 0) ≤ nI i then some (v, ρ) else gd (inB (nI i) 200) (if (ρ 9 (nI i).toNatClampNeg) = x then (lq ((nI i) + 1) fun y1 => (fun σ z0 z1 z2 => rL_Md_placeOf_8 g σ z0 z1 z2) ρ x (nI i) y1) else (lq ((nI i) + 1) fun y1 => (fun σ z0 z1 z2 => rL_Md_placeOf_8 g σ z0 z1 z2) ρ x v y1))) = rL_Md_placeOf_8 g ρ x (nI i) (nI (i + 1)) := by
        simp (disch := omega) only [↓reduceIte, Nat.reduceSub, Nat.reduceAdd, Nat.reduceMul, Nat.sub_zero, Nat.add_zero, Nat.zero_add, Nat.mul_zero, lq_s, br_s, bd_s, bv_s, gd_tt, inB_nI, nI_clamp, sk_s, sk_n, pk_us, pk_un, nI_add, pk_mul, pk_sub, nI_leI, nI_ltI, nI_eq, if_pos, if_neg, nn_neg, nn_ne, nn_ne2, nn_lt, nn_nlt, nn_nle, nn_le, nn_m1, li_0, li_1, li_2, li_3, li_4, li_5, li_9, li_10, li_19, li_20, li_26, li_40, li_60, li_64, li_97, li_48, li_100, li_199, li_200, li_1000, li_8200, li_9999, li_100000, o1, hp9]
      rw [e]
      by_cases hother : ∃ (l : Nat) (p' : Nat × Nat × Nat), o[l]? = some p' ∧ nI p'.1 = nI p.1 ∧ l ≠ i
      · obtain ⟨l, p', h1, h2, h3⟩ := hother
        exact Or.inr (Or.inr ⟨l, i, p', p, h1, hp, h2, h3⟩)
      · rcases ih (i + 1) g (nI i) (by omega) (by omega) with ⟨j, q, h1, h2, h3, h4, h5⟩ | ⟨h1, h2⟩ | h
        · exact absurd ⟨j, q, h2, by rw [← h3, hx], by omega⟩ hother
        · refine Or.inl ⟨i, p, Nat.le_refl _, hp, hx.symm, fun l p' hl' he => ?_, h2⟩
          by_cases hli : l = i
          · exact hli
          · exact absurd ⟨l, p', hl', by rw [he], hli⟩ hother
        · exact Or.inr (Or.inr h)
    · have e : (if (ρ 24 0) ≤ nI i then some (v, ρ) else gd (inB (nI i) 200) (if (ρ 9 (nI i).toNatClampNeg) = x then (lq ((nI i) + 1) fun y1 => (fun σ z0 z1 z2 => rL_Md_placeOf_8 g σ z0 z1 z2) ρ x (nI i) y1) else (lq ((nI i) + 1) fun y1 => (fun σ z0 z1 z2 => rL_Md_placeOf_8 g σ z0 z1 z2) ρ x v y1))) = rL_Md_placeOf_8 g ρ x v (nI (i + 1)) := by
        simp (disch := omega) only [↓reduceIte, Nat.reduceSub, Nat.reduceAdd, Nat.reduceMul, Nat.sub_zero, Nat.add_zero, Nat.zero_add, Nat.mul_zero, lq_s, br_s, bd_s, bv_s, gd_tt, inB_nI, nI_clamp, sk_s, sk_n, pk_us, pk_un, nI_add, pk_mul, pk_sub, nI_leI, nI_ltI, nI_eq, if_pos, if_neg, nn_neg, nn_ne, nn_ne2, nn_lt, nn_nlt, nn_nle, nn_le, nn_m1, li_0, li_1, li_2, li_3, li_4, li_5, li_9, li_10, li_19, li_20, li_26, li_40, li_60, li_64, li_97, li_48, li_100, li_199, li_200, li_1000, li_8200, li_9999, li_100000, o1, hp9]
      rw [e]
      rcases ih (i + 1) g v (by omega) (by omega) with ⟨j, q, h1, h2, h3, h4, h5⟩ | ⟨h1, h2⟩ | h
      · exact Or.inl ⟨j, q, by omega, h2, h3, h4, h5⟩
      · refine Or.inr (Or.inl ⟨fun j q hj hq => ?_, h2⟩)
        by_cases hji : j = i
        · subst hji
          rw [hp] at hq
          cases hq
          exact fun z => hx z.symm
        · exact h1 j q (by omega) hq
      · exact Or.inr (Or.inr h)
/-- both find an item at the same place -/
theorem p_place {n : Nat} {σ σ' ρ ρ' : St} {o : List (Nat × Nat × Nat)} (hk : kM_Order_refresh σ = some σ') (ho : oK n σ' o) (hr : rM_Md_walk ρ = some ρ') (hor : oR ρ' o) (hn : n ≤ 200) (hl : o.length ≤ n) (x : Int32) : (∃ (j : Nat) (q : Nat × Nat × Nat), o[j]? = some q ∧ x = nI q.1 ∧ kM_Order_placeOf σ x = some (nI j, σ') ∧ rM_Md_placeOf ρ x = some (nI j, ρ')) ∨ ((∀ (j : Nat) (q : Nat × Nat × Nat), o[j]? = some q → x ≠ nI q.1) ∧ kM_Order_placeOf σ x = some (nM 1, σ') ∧ rM_Md_placeOf ρ x = some (nM 1, ρ')) := by
  have hFU := FU_ge
  have key := r_place_loop hor (by omega) x o.length 0 FU (nM 1) (by omega) (by omega)
  have e : rM_Md_placeOf ρ x = rL_Md_placeOf_8 FU ρ' x (nM 1) (nI 0) := by
    unfold rM_Md_placeOf
    rw [hr, bv_s]
    rfl
  have ninj : ¬ ∃ (i j : Nat) (p q : Nat × Nat × Nat), o[i]? = some p ∧ o[j]? = some q ∧ nI p.1 = nI q.1 ∧ i ≠ j := by
    rintro ⟨i, j, p, q, h1, h2, h3, h4⟩
    have a1 := (ho.2.1 i p h1).1
    have a2 := (ho.2.1 j q h2).1
    exact h4 (o_inj ho (by omega) h1 h2 ((nI_eq (by omega) (by omega)).mp h3))
  rcases k_place hk ho hn hl x with ⟨j, q, h1, h2, h3⟩ | ⟨h1, h2⟩
  · rcases key with ⟨j', q', a1, a2, a3, a4, a5⟩ | ⟨a1, a2⟩ | a
    · have hq := (ho.2.1 j q h1).1
      have hq' := (ho.2.1 j' q' a2).1
      have hj := a4 j q h1 ((nI_eq (by omega) (by omega)).mp (h2.symm.trans a3))
      exact Or.inl ⟨j, q, h1, h2, h3, by rw [e, a5, hj]⟩
    · exact absurd h2 (a1 j q (Nat.zero_le _) h1)
    · exact absurd a ninj
  · rcases key with ⟨j', q', a1, a2, a3, a4, a5⟩ | ⟨a1, a2⟩ | a
    · exact absurd a3 (h1 j' q' a2)
    · exact Or.inr ⟨h1, h2, by rw [e, a2]⟩
    · exact absurd a ninj
theorem p_pages : lF_pages Rel := by
  intro c σ ρ hc h
  obtain ⟨σ', ρ', n, pg, kc, kd, pa, ct, ow, a1, a2, a3, a4, a5, w1, w2, w3, w4, w5, w6, w7, w8⟩ := h.walked
  unfold kM_PT_pages kM_Order_size rM_Md_pages
  rw [a1, a2]
  refine ⟨nI (wO n pg kc kd).length, σ', ρ', ?_, ?_, (Rel.of w1 w2 w3 w4 w5 w6 w7 w8 (fun _ => a3)).next⟩
  · rw [bv_s, a3.1]; rfl
  · rw [bv_s, a4.1]
theorem p_at : lF_at Rel := by
  intro c σ ρ x hc h
  obtain ⟨σ', ρ', n, pg, kc, kd, pa, ct, ow, a1, a2, a3, a4, a5, w1, w2, w3, w4, w5, w6, w7, w8⟩ := h.walked
  have hl := wO_len w1.lf
  have hn := w1.1
  have hR := (Rel.of w1 w2 w3 w4 w5 w6 w7 w8 (fun _ => a3)).next
  have k1 := a3.1
  have r1 := a4.1
  unfold kM_PT_at kM_Order_pageAt rM_Md_at
  rw [a1, a2, bv_s, bv_s, r1, k1, li_0, li_1]
  rcases w_ix (σ := ρ') (x := x) (a := (wO n pg kc kd).length) (by omega) with ⟨j, hj, rfl, hw⟩ | ⟨hk, hw⟩
  · obtain ⟨q, hq⟩ : ∃ q, (wO n pg kc kd)[j]? = some q := ⟨_, List.getElem?_eq_getElem hj⟩
    have e1 := (a3.2.1 j q hq).2.1
    have e2 := (a4.2 j q hq).1
    rw [hw]
    refine ⟨nI q.1, σ', ρ', ?_, ?_, hR⟩
    · simp (disch := omega) only [↓reduceIte, Nat.reduceSub, Nat.reduceAdd, Nat.reduceMul, Nat.sub_zero, Nat.add_zero, Nat.zero_add, Nat.mul_zero, lq_s, br_s, bd_s, bv_s, gd_tt, inB_nI, nI_clamp, sk_s, sk_n, pk_us, pk_un, nI_add, pk_mul, pk_sub, nI_leI, nI_ltI, nI_eq, if_pos, if_neg, nn_neg, nn_ne, nn_ne2, nn_lt, nn_nlt, nn_nle, nn_le, nn_m1, li_0, li_1, li_2, li_3, li_4, li_5, li_9, li_10, li_19, li_20, li_26, li_40, li_60, li_64, li_97, li_48, li_100, li_199, li_200, li_1000, li_8200, li_9999, li_100000, e1]
    · simp (disch := omega) only [↓reduceIte, Nat.reduceSub, Nat.reduceAdd, Nat.reduceMul, Nat.sub_zero, Nat.add_zero, Nat.zero_add, Nat.mul_zero, lq_s, br_s, bd_s, bv_s, gd_tt, inB_nI, nI_clamp, sk_s, sk_n, pk_us, pk_un, nI_add, pk_mul, pk_sub, nI_leI, nI_ltI, nI_eq, if_pos, if_neg, nn_neg, nn_ne, nn_ne2, nn_lt, nn_nlt, nn_nle, nn_le, nn_m1, li_0, li_1, li_2, li_3, li_4, li_5, li_9, li_10, li_19, li_20, li_26, li_40, li_60, li_64, li_97, li_48, li_100, li_199, li_200, li_1000, li_8200, li_9999, li_100000, e2]
  · rw [hw]
    refine ⟨nM 1, σ', ρ', ?_, by simp (disch := omega) only [↓reduceIte, Nat.reduceSub, Nat.reduceAdd, Nat.reduceMul, Nat.sub_zero, Nat.add_zero, Nat.zero_add, Nat.mul_zero, lq_s, br_s, bd_s, bv_s, gd_tt, inB_nI, nI_clamp, sk_s, sk_n, pk_us, pk_un, nI_add, pk_mul, pk_sub, nI_leI, nI_ltI, nI_eq, if_pos, if_neg, nn_neg, nn_ne, nn_ne2, nn_lt, nn_nlt, nn_nle, nn_le, nn_m1, li_0, li_1, li_2, li_3, li_4, li_5, li_9, li_10, li_19, li_20, li_26, li_40, li_60, li_64, li_97, li_48, li_100, li_199, li_200, li_1000, li_8200, li_9999, li_100000], hR⟩
    rcases hk with hk | hk
    · rw [if_pos hk]; simp (disch := omega) only [↓reduceIte, Nat.reduceSub, Nat.reduceAdd, Nat.reduceMul, Nat.sub_zero, Nat.add_zero, Nat.zero_add, Nat.mul_zero, lq_s, br_s, bd_s, bv_s, gd_tt, inB_nI, nI_clamp, sk_s, sk_n, pk_us, pk_un, nI_add, pk_mul, pk_sub, nI_leI, nI_ltI, nI_eq, if_pos, if_neg, nn_neg, nn_ne, nn_ne2, nn_lt, nn_nlt, nn_nle, nn_le, nn_m1, li_0, li_1, li_2, li_3, li_4, li_5, li_9, li_10, li_19, li_20, li_26, li_40, li_60, li_64, li_97, li_48, li_100, li_199, li_200, li_1000, li_8200, li_9999, li_100000]
    · rw [if_neg hk.1, if_pos hk.2]; simp (disch := omega) only [↓reduceIte, Nat.reduceSub, Nat.reduceAdd, Nat.reduceMul, Nat.sub_zero, Nat.add_zero, Nat.zero_add, Nat.mul_zero, lq_s, br_s, bd_s, bv_s, gd_tt, inB_nI, nI_clamp, sk_s, sk_n, pk_us, pk_un, nI_add, pk_mul, pk_sub, nI_leI, nI_ltI, nI_eq, if_pos, if_neg, nn_neg, nn_ne, nn_ne2, nn_lt, nn_nlt, nn_nle, nn_le, nn_m1, li_0, li_1, li_2, li_3, li_4, li_5, li_9, li_10, li_19, li_20, li_26, li_40, li_60, li_64, li_97, li_48, li_100, li_199, li_200, li_1000, li_8200, li_9999, li_100000]
theorem p_about : lF_about Rel := by
  intro c σ ρ x w hc h
  have h' := h
  obtain ⟨m, pg0, kc0, kd0, pa0, ct0, ow0, h1, h2, h3, -⟩ := h'
  have z1 := h2.1
  have z2 := h3.1
  have m2 := h1.1
  unfold kM_PT_about rM_Md_about
  rcases ix_cases x (n := m) (by omega) with hx | hx | ⟨i, hi, rfl⟩
  · rw [k_isKnown_n z1 (Or.inl hx), r_isItem_n z2 (Or.inl hx)]
    exact ⟨nM 1, σ, ρ, by simp (disch := omega) only [↓reduceIte, Nat.reduceSub, Nat.reduceAdd, Nat.reduceMul, Nat.sub_zero, Nat.add_zero, Nat.zero_add, Nat.mul_zero, lq_s, br_s, bd_s, bv_s, gd_tt, inB_nI, nI_clamp, sk_s, sk_n, pk_us, pk_un, nI_add, pk_mul, pk_sub, nI_leI, nI_ltI, nI_eq, if_pos, if_neg, nn_neg, nn_ne, nn_ne2, nn_lt, nn_nlt, nn_nle, nn_le, nn_m1, li_0, li_1, li_2, li_3, li_4, li_5, li_9, li_10, li_19, li_20, li_26, li_40, li_60, li_64, li_97, li_48, li_100, li_199, li_200, li_1000, li_8200, li_9999, li_100000], by simp (disch := omega) only [↓reduceIte, Nat.reduceSub, Nat.reduceAdd, Nat.reduceMul, Nat.sub_zero, Nat.add_zero, Nat.zero_add, Nat.mul_zero, lq_s, br_s, bd_s, bv_s, gd_tt, inB_nI, nI_clamp, sk_s, sk_n, pk_us, pk_un, nI_add, pk_mul, pk_sub, nI_leI, nI_ltI, nI_eq, if_pos, if_neg, nn_neg, nn_ne, nn_ne2, nn_lt, nn_nlt, nn_nle, nn_le, nn_m1, li_0, li_1, li_2, li_3, li_4, li_5, li_9, li_10, li_19, li_20, li_26, li_40, li_60, li_64, li_97, li_48, li_100, li_199, li_200, li_1000, li_8200, li_9999, li_100000], h.next⟩
  · rw [k_isKnown_n z1 (Or.inr hx), r_isItem_n z2 (Or.inr hx)]
    exact ⟨nM 1, σ, ρ, by simp (disch := omega) only [↓reduceIte, Nat.reduceSub, Nat.reduceAdd, Nat.reduceMul, Nat.sub_zero, Nat.add_zero, Nat.zero_add, Nat.mul_zero, lq_s, br_s, bd_s, bv_s, gd_tt, inB_nI, nI_clamp, sk_s, sk_n, pk_us, pk_un, nI_add, pk_mul, pk_sub, nI_leI, nI_ltI, nI_eq, if_pos, if_neg, nn_neg, nn_ne, nn_ne2, nn_lt, nn_nlt, nn_nle, nn_le, nn_m1, li_0, li_1, li_2, li_3, li_4, li_5, li_9, li_10, li_19, li_20, li_26, li_40, li_60, li_64, li_97, li_48, li_100, li_199, li_200, li_1000, li_8200, li_9999, li_100000], by simp (disch := omega) only [↓reduceIte, Nat.reduceSub, Nat.reduceAdd, Nat.reduceMul, Nat.sub_zero, Nat.add_zero, Nat.zero_add, Nat.mul_zero, lq_s, br_s, bd_s, bv_s, gd_tt, inB_nI, nI_clamp, sk_s, sk_n, pk_us, pk_un, nI_add, pk_mul, pk_sub, nI_leI, nI_ltI, nI_eq, if_pos, if_neg, nn_neg, nn_ne, nn_ne2, nn_lt, nn_nlt, nn_nle, nn_le, nn_m1, li_0, li_1, li_2, li_3, li_4, li_5, li_9, li_10, li_19, li_20, li_26, li_40, li_60, li_64, li_97, li_48, li_100, li_199, li_200, li_1000, li_8200, li_9999, li_100000], h.next⟩
  · rw [k_isKnown_y z1 m2 hi, r_isItem_y z2 m2 hi, br_s, br_s, if_neg (show ¬ nI 1 = 0 by decide), if_neg (show ¬ nI 1 = 0 by decide)]
    by_cases c0 : w = 0
    · rw [if_pos c0, if_pos c0, k_isPage_y z1 m2 hi (h2.2.1 i hi) (h1.2.1 i hi)]
      have e := h3.2.1 i hi
      refine ⟨if pg0 i = 0 then 0 else 1, σ, ρ, ?_, ?_, h.next⟩
      · by_cases hp : pg0 i = 0
        · simp (disch := omega) only [↓reduceIte, Nat.reduceSub, Nat.reduceAdd, Nat.reduceMul, Nat.sub_zero, Nat.add_zero, Nat.zero_add, Nat.mul_zero, lq_s, br_s, bd_s, bv_s, gd_tt, inB_nI, nI_clamp, sk_s, sk_n, pk_us, pk_un, nI_add, pk_mul, pk_sub, nI_leI, nI_ltI, nI_eq, if_pos, if_neg, nn_neg, nn_ne, nn_ne2, nn_lt, nn_nlt, nn_nle, nn_le, nn_m1, li_0, li_1, li_2, li_3, li_4, li_5, li_9, li_10, li_19, li_20, li_26, li_40, li_60, li_64, li_97, li_48, li_100, li_199, li_200, li_1000, li_8200, li_9999, li_100000, hp]
        · have hp1 : pg0 i = 1 := by have := h1.2.1 i hi; omega
          simp (disch := omega) only [↓reduceIte, Nat.reduceSub, Nat.reduceAdd, Nat.reduceMul, Nat.sub_zero, Nat.add_zero, Nat.zero_add, Nat.mul_zero, lq_s, br_s, bd_s, bv_s, gd_tt, inB_nI, nI_clamp, sk_s, sk_n, pk_us, pk_un, nI_add, pk_mul, pk_sub, nI_leI, nI_ltI, nI_eq, if_pos, if_neg, nn_neg, nn_ne, nn_ne2, nn_lt, nn_nlt, nn_nle, nn_le, nn_m1, li_0, li_1, li_2, li_3, li_4, li_5, li_9, li_10, li_19, li_20, li_26, li_40, li_60, li_64, li_97, li_48, li_100, li_199, li_200, li_1000, li_8200, li_9999, li_100000, hp1]
      · by_cases hp : pg0 i = 0
        · rw [hp] at e
          simp (disch := omega) only [↓reduceIte, Nat.reduceSub, Nat.reduceAdd, Nat.reduceMul, Nat.sub_zero, Nat.add_zero, Nat.zero_add, Nat.mul_zero, lq_s, br_s, bd_s, bv_s, gd_tt, inB_nI, nI_clamp, sk_s, sk_n, pk_us, pk_un, nI_add, pk_mul, pk_sub, nI_leI, nI_ltI, nI_eq, if_pos, if_neg, nn_neg, nn_ne, nn_ne2, nn_lt, nn_nlt, nn_nle, nn_le, nn_m1, li_0, li_1, li_2, li_3, li_4, li_5, li_9, li_10, li_19, li_20, li_26, li_40, li_60, li_64, li_97, li_48, li_100, li_199, li_200, li_1000, li_8200, li_9999, li_100000, e, hp]
        · have hp1 : pg0 i = 1 := by have := h1.2.1 i hi; omega
          rw [hp1] at e
          simp (disch := omega) only [↓reduceIte, Nat.reduceSub, Nat.reduceAdd, Nat.reduceMul, Nat.sub_zero, Nat.add_zero, Nat.zero_add, Nat.mul_zero, lq_s, br_s, bd_s, bv_s, gd_tt, inB_nI, nI_clamp, sk_s, sk_n, pk_us, pk_un, nI_add, pk_mul, pk_sub, nI_leI, nI_ltI, nI_eq, if_pos, if_neg, nn_neg, nn_ne, nn_ne2, nn_lt, nn_nlt, nn_nle, nn_le, nn_m1, li_0, li_1, li_2, li_3, li_4, li_5, li_9, li_10, li_19, li_20, li_26, li_40, li_60, li_64, li_97, li_48, li_100, li_199, li_200, li_1000, li_8200, li_9999, li_100000, e, hp1]
    · rw [if_neg c0, if_neg c0]
      by_cases c1 : w = 1
      · rw [if_pos c1, if_pos c1]
        refine ⟨pa0 i, σ, ρ, ?_, ?_, h.next⟩
        · unfold kM_Items_parentOf
          simp (disch := omega) only [↓reduceIte, Nat.reduceSub, Nat.reduceAdd, Nat.reduceMul, Nat.sub_zero, Nat.add_zero, Nat.zero_add, Nat.mul_zero, lq_s, br_s, bd_s, bv_s, gd_tt, inB_nI, nI_clamp, sk_s, sk_n, pk_us, pk_un, nI_add, pk_mul, pk_sub, nI_leI, nI_ltI, nI_eq, if_pos, if_neg, nn_neg, nn_ne, nn_ne2, nn_lt, nn_nlt, nn_nle, nn_le, nn_m1, li_0, li_1, li_2, li_3, li_4, li_5, li_9, li_10, li_19, li_20, li_26, li_40, li_60, li_64, li_97, li_48, li_100, li_199, li_200, li_1000, li_8200, li_9999, li_100000, k_isKnown_y z1 m2 hi, h2.2.2.1 i hi]
        · simp (disch := omega) only [↓reduceIte, Nat.reduceSub, Nat.reduceAdd, Nat.reduceMul, Nat.sub_zero, Nat.add_zero, Nat.zero_add, Nat.mul_zero, lq_s, br_s, bd_s, bv_s, gd_tt, inB_nI, nI_clamp, sk_s, sk_n, pk_us, pk_un, nI_add, pk_mul, pk_sub, nI_leI, nI_ltI, nI_eq, if_pos, if_neg, nn_neg, nn_ne, nn_ne2, nn_lt, nn_nlt, nn_nle, nn_le, nn_m1, li_0, li_1, li_2, li_3, li_4, li_5, li_9, li_10, li_19, li_20, li_26, li_40, li_60, li_64, li_97, li_48, li_100, li_199, li_200, li_1000, li_8200, li_9999, li_100000, h3.2.2.1 i hi]
      · rw [if_neg c1, if_neg c1]
        by_cases c2 : w = 2
        · rw [if_pos c2, if_pos c2]
          refine ⟨nI (kc0 i), σ, ρ, ?_, ?_, h.next⟩
          · simp (disch := omega) only [↓reduceIte, Nat.reduceSub, Nat.reduceAdd, Nat.reduceMul, Nat.sub_zero, Nat.add_zero, Nat.zero_add, Nat.mul_zero, lq_s, br_s, bd_s, bv_s, gd_tt, inB_nI, nI_clamp, sk_s, sk_n, pk_us, pk_un, nI_add, pk_mul, pk_sub, nI_leI, nI_ltI, nI_eq, if_pos, if_neg, nn_neg, nn_ne, nn_ne2, nn_lt, nn_nlt, nn_nle, nn_le, nn_m1, li_0, li_1, li_2, li_3, li_4, li_5, li_9, li_10, li_19, li_20, li_26, li_40, li_60, li_64, li_97, li_48, li_100, li_199, li_200, li_1000, li_8200, li_9999, li_100000, k_kidCountOf_y z1 m2 hi (h2.2.2.2.2.1 i hi)]
          · simp (disch := omega) only [↓reduceIte, Nat.reduceSub, Nat.reduceAdd, Nat.reduceMul, Nat.sub_zero, Nat.add_zero, Nat.zero_add, Nat.mul_zero, lq_s, br_s, bd_s, bv_s, gd_tt, inB_nI, nI_clamp, sk_s, sk_n, pk_us, pk_un, nI_add, pk_mul, pk_sub, nI_leI, nI_ltI, nI_eq, if_pos, if_neg, nn_neg, nn_ne, nn_ne2, nn_lt, nn_nlt, nn_nle, nn_le, nn_m1, li_0, li_1, li_2, li_3, li_4, li_5, li_9, li_10, li_19, li_20, li_26, li_40, li_60, li_64, li_97, li_48, li_100, li_199, li_200, li_1000, li_8200, li_9999, li_100000, h3.2.2.2.2.1 i hi]
        · rw [if_neg c2, if_neg c2]
          by_cases c3 : w = 3
          · rw [if_pos c3, if_pos c3]
            refine ⟨ct0 i, σ, ρ, ?_, ?_, h.next⟩
            · unfold kM_Items_countOf
              simp (disch := omega) only [↓reduceIte, Nat.reduceSub, Nat.reduceAdd, Nat.reduceMul, Nat.sub_zero, Nat.add_zero, Nat.zero_add, Nat.mul_zero, lq_s, br_s, bd_s, bv_s, gd_tt, inB_nI, nI_clamp, sk_s, sk_n, pk_us, pk_un, nI_add, pk_mul, pk_sub, nI_leI, nI_ltI, nI_eq, if_pos, if_neg, nn_neg, nn_ne, nn_ne2, nn_lt, nn_nlt, nn_nle, nn_le, nn_m1, li_0, li_1, li_2, li_3, li_4, li_5, li_9, li_10, li_19, li_20, li_26, li_40, li_60, li_64, li_97, li_48, li_100, li_199, li_200, li_1000, li_8200, li_9999, li_100000, k_isKnown_y z1 m2 hi, h2.2.2.2.1 i hi]
            · simp (disch := omega) only [↓reduceIte, Nat.reduceSub, Nat.reduceAdd, Nat.reduceMul, Nat.sub_zero, Nat.add_zero, Nat.zero_add, Nat.mul_zero, lq_s, br_s, bd_s, bv_s, gd_tt, inB_nI, nI_clamp, sk_s, sk_n, pk_us, pk_un, nI_add, pk_mul, pk_sub, nI_leI, nI_ltI, nI_eq, if_pos, if_neg, nn_neg, nn_ne, nn_ne2, nn_lt, nn_nlt, nn_nle, nn_le, nn_m1, li_0, li_1, li_2, li_3, li_4, li_5, li_9, li_10, li_19, li_20, li_26, li_40, li_60, li_64, li_97, li_48, li_100, li_199, li_200, li_1000, li_8200, li_9999, li_100000, h3.2.2.2.1 i hi]
          · rw [if_neg c3, if_neg c3]
            by_cases c4 : w = 4
            · rw [if_pos c4, if_pos c4]
              obtain ⟨σ', ρ', n, pg, kc, kd, pa, ct, ow, a1, a2, a3, a4, a5, w1, w2, w3, w4, w5, w6, w7, w8⟩ := h.walked
              have hR := (Rel.of w1 w2 w3 w4 w5 w6 w7 w8 (fun _ => a3)).next
              rcases p_place a1 a3 a2 a4 w1.1 (wO_len w1.lf) (nI i) with ⟨j, q, b1, b2, b3, b4⟩ | ⟨b1, b2, b3⟩
              · exact ⟨nI j, σ', ρ', by rw [b3]; rfl, by rw [b4]; rfl, hR⟩
              · exact ⟨nM 1, σ', ρ', by rw [b2]; rfl, by rw [b3]; rfl, hR⟩
            · rw [if_neg c4, if_neg c4]
              exact ⟨_, σ, ρ, rfl, rfl, h.next⟩
