/-! PURE: rows over St, numbers as nI k (k small) or nM k (minus k) -/
theorem sk_s {σ : St} {k : Nat} {f : Nat → Int32} : sk σ k f k = f := by
  unfold sk
  rw [if_pos rfl]
theorem sk_n {σ : St} {k j : Nat} {f : Nat → Int32} (h : j ≠ k) : sk σ k f j = σ j := by
  unfold sk
  rw [if_neg h]
theorem gd_tt {β : Type} {k : Option β} : gd true k = k := rfl
def nM (k : Nat) : Int32 := -nI k
theorem nn_neg {k : Nat} : -nI k = nM k := rfl
theorem nM_toInt {k : Nat} (h : k < 2 ^ 31) : (nM k).toInt = -(k : Int) := sb_negT h
theorem nn_lt {a b : Nat} (ha : a < 2 ^ 31) (hb : b < 2 ^ 31) (h0 : 0 < b) : (nM b < nI a) = True := by
  rw [eq_iff_iff, Int32.lt_iff_toInt_lt, nM_toInt hb, nI_toInt ha]
  constructor
  · intro _; trivial
  · intro _; omega
theorem nn_nlt {a b : Nat} (ha : a < 2 ^ 31) (hb : b < 2 ^ 31) : (nI a < nM b) = False := by
  rw [eq_iff_iff, Int32.lt_iff_toInt_lt, nM_toInt hb, nI_toInt ha]
  constructor
  · intro h; omega
  · intro h; exact h.elim
theorem nn_nle {a b : Nat} (ha : a < 2 ^ 31) (hb : b < 2 ^ 31) (h0 : 0 < b) : (nI a ≤ nM b) = False := by
  rw [eq_iff_iff, Int32.le_iff_toInt_le, nM_toInt hb, nI_toInt ha]
  constructor
  · intro h; omega
  · intro h; exact h.elim
theorem nn_le {a b : Nat} (ha : a < 2 ^ 31) (hb : b < 2 ^ 31) : (nM b ≤ nI a) = True := by
  rw [eq_iff_iff, Int32.le_iff_toInt_le, nM_toInt hb, nI_toInt ha]
  constructor
  · intro _; trivial
  · intro _; omega
theorem nn_ne {a b : Nat} (ha : a < 2 ^ 31) (hb : b < 2 ^ 31) (h0 : 0 < b) : (nI a = nM b) = False := by
  rw [eq_iff_iff, ← Int32.toInt_inj, nM_toInt hb, nI_toInt ha]
  constructor
  · intro h; omega
  · intro h; exact h.elim
theorem nn_ne2 {a b : Nat} (ha : a < 2 ^ 31) (hb : b < 2 ^ 31) (h0 : 0 < b) : (nM b = nI a) = False := by
  rw [eq_iff_iff, ← Int32.toInt_inj, nM_toInt hb, nI_toInt ha]
  constructor
  · intro h; omega
  · intro h; exact h.elim
theorem nn_m1 {a : Nat} (h : 0 < a) : nI a + nM 1 = nI (a - 1) := by
  obtain ⟨b, rfl⟩ : ∃ b, a = b + 1 := ⟨a - 1, by omega⟩
  exact pk_m1 b
theorem li_0 : (0 : Int32) = nI 0 := rfl
theorem li_1 : (1 : Int32) = nI 1 := rfl
theorem li_2 : (2 : Int32) = nI 2 := rfl
theorem li_3 : (3 : Int32) = nI 3 := rfl
theorem li_4 : (4 : Int32) = nI 4 := rfl
theorem li_5 : (5 : Int32) = nI 5 := rfl
theorem li_9 : (9 : Int32) = nI 9 := rfl
theorem li_10 : (10 : Int32) = nI 10 := rfl
theorem li_19 : (19 : Int32) = nI 19 := rfl
theorem li_20 : (20 : Int32) = nI 20 := rfl
theorem li_26 : (26 : Int32) = nI 26 := rfl
theorem li_40 : (40 : Int32) = nI 40 := rfl
theorem li_48 : (48 : Int32) = nI 48 := rfl
theorem li_60 : (60 : Int32) = nI 60 := rfl
theorem li_64 : (64 : Int32) = nI 64 := rfl
theorem li_97 : (97 : Int32) = nI 97 := rfl
theorem li_100 : (100 : Int32) = nI 100 := rfl
theorem li_199 : (199 : Int32) = nI 199 := rfl
theorem li_200 : (200 : Int32) = nI 200 := rfl
theorem li_1000 : (1000 : Int32) = nI 1000 := rfl
theorem li_8200 : (8200 : Int32) = nI 8200 := rfl
theorem li_9999 : (9999 : Int32) = nI 9999 := rfl
theorem li_100000 : (100000 : Int32) = nI 100000 := rfl
theorem nar_z0 : vp_nar .boolean (nI 0) = nI 0 := rfl
theorem nar_z1 : vp_nar .boolean (nI 1) = nI 1 := rfl
/-- a comparison of any int with a small number -/
theorem ix_cases (x : Int32) {n : Nat} (hn : n < 2 ^ 31) : (x < nI 0) ∨ (¬ x < nI 0 ∧ nI n ≤ x) ∨ ∃ j : Nat, j < n ∧ x = nI j := by
  rcases pk_ix x hn with h | h | h
  · exact Or.inl h
  · refine Or.inr (Or.inl ⟨fun q => ?_, h⟩)
    have h1 := Int32.le_iff_toInt_le.mp h
    have h2 := Int32.lt_iff_toInt_lt.mp q
    rw [nI_toInt hn] at h1
    rw [nI_toInt (by omega)] at h2
    omega
  · exact Or.inr (Or.inr h)
/-! the items, as both hold them: n items, whether page, parent, count, number of kids, kids, own values; z is the place of the number of items -/
def IV (n : Nat) (pg kc : Nat → Nat) (kd : Nat → Nat → Nat) (pa ct : Nat → Int32) (ow : Nat → Nat → Int32) (s : St) (z : Nat) : Prop :=
  s z 0 = nI n ∧ (∀ i, i < n → s 0 i = nI (pg i)) ∧ (∀ i, i < n → s 1 i = pa i) ∧ (∀ i, i < n → s 2 i = ct i) ∧ (∀ i, i < n → s 3 i = nI (kc i)) ∧ (∀ i k, i < n → k < kc i → s 4 (40 * i + k) = nI (kd i k)) ∧ (∀ i k, i < n → k < 4 → s 5 (4 * i + k) = ow i k)
def WF (n : Nat) (pg kc : Nat → Nat) (kd : Nat → Nat → Nat) (pa : Nat → Int32) : Prop :=
  n ≤ 200 ∧ (∀ i, i < n → pg i ≤ 1) ∧ (∀ i, i < n → kc i ≤ 40) ∧ (∀ i k, i < n → k < kc i → kd i k < n) ∧ (∀ i, i < n → pg i = 1 → kc i = 0) ∧ (∀ i, i < n → pa i = nM 1 ∨ ∃ p, p < n ∧ pa i = nI p) ∧ (0 < n → pg 0 = 0)
/-- the class's places that are not used yet -/
def FR (n : Nat) (s : St) : Prop := ∀ i, n ≤ i → i < 200 → s 3 i = nI 0 ∧ ∀ k, k < 4 → s 5 (4 * i + k) = nM 1
-- the class's small questions
theorem k_isKnown_y {σ : St} {n j : Nat} (h : σ 26 0 = nI n) (hn : n ≤ 200) (hj : j < n) : kM_Items_isKnown σ (nI j) = some (nI 1) := by
  unfold kM_Items_isKnown
  simp (disch := omega) only [↓reduceIte, Nat.reduceSub, Nat.reduceAdd, Nat.reduceMul, Nat.sub_zero, Nat.add_zero, Nat.zero_add, Nat.mul_zero, lq_s, br_s, bd_s, bv_s, gd_tt, inB_nI, nI_clamp, sk_s, sk_n, pk_us, pk_un, nI_add, pk_mul, pk_sub, nI_leI, nI_ltI, nI_eq, if_pos, if_neg, nn_neg, nn_ne, nn_ne2, nn_lt, nn_nlt, nn_nle, nn_le, nn_m1, li_0, li_1, li_2, li_3, li_4, li_5, li_9, li_10, li_19, li_20, li_26, li_40, li_60, li_64, li_97, li_48, li_100, li_199, li_200, li_1000, li_8200, li_9999, li_100000, h]
theorem k_isKnown_n {σ : St} {n : Nat} {x : Int32} (h : σ 26 0 = nI n) (hx : x < nI 0 ∨ (¬ x < nI 0 ∧ nI n ≤ x)) : kM_Items_isKnown σ x = some (nI 0) := by
  unfold kM_Items_isKnown
  rcases hx with hx | ⟨hx, hy⟩
  · rw [li_0, if_pos hx]
  · rw [li_0, h, if_neg hx, if_pos hy]
theorem r_isItem_y {σ : St} {n j : Nat} (h : σ 22 0 = nI n) (hn : n ≤ 200) (hj : j < n) : rM_Md_isItem σ (nI j) = some (nI 1) := by
  unfold rM_Md_isItem
  simp (disch := omega) only [↓reduceIte, Nat.reduceSub, Nat.reduceAdd, Nat.reduceMul, Nat.sub_zero, Nat.add_zero, Nat.zero_add, Nat.mul_zero, lq_s, br_s, bd_s, bv_s, gd_tt, inB_nI, nI_clamp, sk_s, sk_n, pk_us, pk_un, nI_add, pk_mul, pk_sub, nI_leI, nI_ltI, nI_eq, if_pos, if_neg, nn_neg, nn_ne, nn_ne2, nn_lt, nn_nlt, nn_nle, nn_le, nn_m1, li_0, li_1, li_2, li_3, li_4, li_5, li_9, li_10, li_19, li_20, li_26, li_40, li_60, li_64, li_97, li_48, li_100, li_199, li_200, li_1000, li_8200, li_9999, li_100000, h]
theorem r_isItem_n {σ : St} {n : Nat} {x : Int32} (h : σ 22 0 = nI n) (hx : x < nI 0 ∨ (¬ x < nI 0 ∧ nI n ≤ x)) : rM_Md_isItem σ x = some (nI 0) := by
  unfold rM_Md_isItem
  rcases hx with hx | ⟨hx, hy⟩
  · rw [li_0, if_pos hx]
  · rw [li_0, h, if_neg hx, if_pos hy]
theorem k_isNode_y {σ : St} {n j : Nat} {p : Nat} (h : σ 26 0 = nI n) (hn : n ≤ 200) (hj : j < n) (hp : σ 0 j = nI p) (hp1 : p ≤ 1) : kM_Items_isNode σ (nI j) = some (nI (1 - p)) := by
  unfold kM_Items_isNode
  simp (disch := omega) only [↓reduceIte, Nat.reduceSub, Nat.reduceAdd, Nat.reduceMul, Nat.sub_zero, Nat.add_zero, Nat.zero_add, Nat.mul_zero, lq_s, br_s, bd_s, bv_s, gd_tt, inB_nI, nI_clamp, sk_s, sk_n, pk_us, pk_un, nI_add, pk_mul, pk_sub, nI_leI, nI_ltI, nI_eq, if_pos, if_neg, nn_neg, nn_ne, nn_ne2, nn_lt, nn_nlt, nn_nle, nn_le, nn_m1, li_0, li_1, li_2, li_3, li_4, li_5, li_9, li_10, li_19, li_20, li_26, li_40, li_60, li_64, li_97, li_48, li_100, li_199, li_200, li_1000, li_8200, li_9999, li_100000, h, hp]
  rcases (show p = 0 ∨ p = 1 by omega) with rfl | rfl <;> simp (disch := omega) only [↓reduceIte, Nat.reduceSub, Nat.reduceAdd, Nat.reduceMul, Nat.sub_zero, Nat.add_zero, Nat.zero_add, Nat.mul_zero, lq_s, br_s, bd_s, bv_s, gd_tt, inB_nI, nI_clamp, sk_s, sk_n, pk_us, pk_un, nI_add, pk_mul, pk_sub, nI_leI, nI_ltI, nI_eq, if_pos, if_neg, nn_neg, nn_ne, nn_ne2, nn_lt, nn_nlt, nn_nle, nn_le, nn_m1, li_0, li_1, li_2, li_3, li_4, li_5, li_9, li_10, li_19, li_20, li_26, li_40, li_60, li_64, li_97, li_48, li_100, li_199, li_200, li_1000, li_8200, li_9999, li_100000]
theorem k_isNode_n {σ : St} {n : Nat} {x : Int32} (h : σ 26 0 = nI n) (hx : x < nI 0 ∨ (¬ x < nI 0 ∧ nI n ≤ x)) : kM_Items_isNode σ x = some (nI 0) := by
  unfold kM_Items_isNode
  rcases hx with hx | ⟨hx, hy⟩
  · rw [li_0, if_pos hx]
  · rw [li_0, h, if_neg hx, if_pos hy]
theorem k_isPage_y {σ : St} {n j : Nat} {p : Nat} (h : σ 26 0 = nI n) (hn : n ≤ 200) (hj : j < n) (hp : σ 0 j = nI p) (hp1 : p ≤ 1) : kM_Items_isPage σ (nI j) = some (nI p) := by
  unfold kM_Items_isPage
  simp (disch := omega) only [↓reduceIte, Nat.reduceSub, Nat.reduceAdd, Nat.reduceMul, Nat.sub_zero, Nat.add_zero, Nat.zero_add, Nat.mul_zero, lq_s, br_s, bd_s, bv_s, gd_tt, inB_nI, nI_clamp, sk_s, sk_n, pk_us, pk_un, nI_add, pk_mul, pk_sub, nI_leI, nI_ltI, nI_eq, if_pos, if_neg, nn_neg, nn_ne, nn_ne2, nn_lt, nn_nlt, nn_nle, nn_le, nn_m1, li_0, li_1, li_2, li_3, li_4, li_5, li_9, li_10, li_19, li_20, li_26, li_40, li_60, li_64, li_97, li_48, li_100, li_199, li_200, li_1000, li_8200, li_9999, li_100000, h, hp]
  rcases (show p = 0 ∨ p = 1 by omega) with rfl | rfl <;> simp (disch := omega) only [↓reduceIte, Nat.reduceSub, Nat.reduceAdd, Nat.reduceMul, Nat.sub_zero, Nat.add_zero, Nat.zero_add, Nat.mul_zero, lq_s, br_s, bd_s, bv_s, gd_tt, inB_nI, nI_clamp, sk_s, sk_n, pk_us, pk_un, nI_add, pk_mul, pk_sub, nI_leI, nI_ltI, nI_eq, if_pos, if_neg, nn_neg, nn_ne, nn_ne2, nn_lt, nn_nlt, nn_nle, nn_le, nn_m1, li_0, li_1, li_2, li_3, li_4, li_5, li_9, li_10, li_19, li_20, li_26, li_40, li_60, li_64, li_97, li_48, li_100, li_199, li_200, li_1000, li_8200, li_9999, li_100000]
theorem k_isPage_n {σ : St} {n : Nat} {x : Int32} (h : σ 26 0 = nI n) (hx : x < nI 0 ∨ (¬ x < nI 0 ∧ nI n ≤ x)) : kM_Items_isPage σ x = some (nI 0) := by
  unfold kM_Items_isPage
  rcases hx with hx | ⟨hx, hy⟩
  · rw [li_0, if_pos hx]
  · rw [li_0, h, if_neg hx, if_pos hy]
theorem r_isNode_y {σ : St} {n j : Nat} {p : Nat} (h : σ 22 0 = nI n) (hn : n ≤ 200) (hj : j < n) (hp : σ 0 j = nI p) (hp1 : p ≤ 1) : rM_Md_isNode σ (nI j) = some (nI (1 - p)) := by
  unfold rM_Md_isNode
  simp (disch := omega) only [↓reduceIte, Nat.reduceSub, Nat.reduceAdd, Nat.reduceMul, Nat.sub_zero, Nat.add_zero, Nat.zero_add, Nat.mul_zero, lq_s, br_s, bd_s, bv_s, gd_tt, inB_nI, nI_clamp, sk_s, sk_n, pk_us, pk_un, nI_add, pk_mul, pk_sub, nI_leI, nI_ltI, nI_eq, if_pos, if_neg, nn_neg, nn_ne, nn_ne2, nn_lt, nn_nlt, nn_nle, nn_le, nn_m1, li_0, li_1, li_2, li_3, li_4, li_5, li_9, li_10, li_19, li_20, li_26, li_40, li_60, li_64, li_97, li_48, li_100, li_199, li_200, li_1000, li_8200, li_9999, li_100000, r_isItem_y h hn hj, hp]
  rcases (show p = 0 ∨ p = 1 by omega) with rfl | rfl <;> simp (disch := omega) only [↓reduceIte, Nat.reduceSub, Nat.reduceAdd, Nat.reduceMul, Nat.sub_zero, Nat.add_zero, Nat.zero_add, Nat.mul_zero, lq_s, br_s, bd_s, bv_s, gd_tt, inB_nI, nI_clamp, sk_s, sk_n, pk_us, pk_un, nI_add, pk_mul, pk_sub, nI_leI, nI_ltI, nI_eq, if_pos, if_neg, nn_neg, nn_ne, nn_ne2, nn_lt, nn_nlt, nn_nle, nn_le, nn_m1, li_0, li_1, li_2, li_3, li_4, li_5, li_9, li_10, li_19, li_20, li_26, li_40, li_60, li_64, li_97, li_48, li_100, li_199, li_200, li_1000, li_8200, li_9999, li_100000]
theorem r_isNode_n {σ : St} {n : Nat} {x : Int32} (h : σ 22 0 = nI n) (hx : x < nI 0 ∨ (¬ x < nI 0 ∧ nI n ≤ x)) : rM_Md_isNode σ x = some (nI 0) := by
  unfold rM_Md_isNode
  simp (disch := omega) only [↓reduceIte, Nat.reduceSub, Nat.reduceAdd, Nat.reduceMul, Nat.sub_zero, Nat.add_zero, Nat.zero_add, Nat.mul_zero, lq_s, br_s, bd_s, bv_s, gd_tt, inB_nI, nI_clamp, sk_s, sk_n, pk_us, pk_un, nI_add, pk_mul, pk_sub, nI_leI, nI_ltI, nI_eq, if_pos, if_neg, nn_neg, nn_ne, nn_ne2, nn_lt, nn_nlt, nn_nle, nn_le, nn_m1, li_0, li_1, li_2, li_3, li_4, li_5, li_9, li_10, li_19, li_20, li_26, li_40, li_60, li_64, li_97, li_48, li_100, li_199, li_200, li_1000, li_8200, li_9999, li_100000, r_isItem_n h hx]
theorem k_kidCountOf_y {σ : St} {n j c : Nat} (h : σ 26 0 = nI n) (hn : n ≤ 200) (hj : j < n) (hc : σ 3 j = nI c) : kM_Items_kidCountOf σ (nI j) = some (nI c) := by
  unfold kM_Items_kidCountOf
  simp (disch := omega) only [↓reduceIte, Nat.reduceSub, Nat.reduceAdd, Nat.reduceMul, Nat.sub_zero, Nat.add_zero, Nat.zero_add, Nat.mul_zero, lq_s, br_s, bd_s, bv_s, gd_tt, inB_nI, nI_clamp, sk_s, sk_n, pk_us, pk_un, nI_add, pk_mul, pk_sub, nI_leI, nI_ltI, nI_eq, if_pos, if_neg, nn_neg, nn_ne, nn_ne2, nn_lt, nn_nlt, nn_nle, nn_le, nn_m1, li_0, li_1, li_2, li_3, li_4, li_5, li_9, li_10, li_19, li_20, li_26, li_40, li_60, li_64, li_97, li_48, li_100, li_199, li_200, li_1000, li_8200, li_9999, li_100000, k_isKnown_y h hn hj, hc]
theorem k_noSlot_y {σ : St} {n j c : Nat} (h : σ 26 0 = nI n) (hn : n ≤ 200) (hj : j < n) (hc : σ 3 j = nI c) (hc4 : c ≤ 40) : kM_Items_hasNoSlotLeft σ (nI j) = some (nI (if c < 40 then 0 else 1)) := by
  unfold kM_Items_hasNoSlotLeft
  by_cases h4 : c < 40
  · simp (disch := omega) only [↓reduceIte, Nat.reduceSub, Nat.reduceAdd, Nat.reduceMul, Nat.sub_zero, Nat.add_zero, Nat.zero_add, Nat.mul_zero, lq_s, br_s, bd_s, bv_s, gd_tt, inB_nI, nI_clamp, sk_s, sk_n, pk_us, pk_un, nI_add, pk_mul, pk_sub, nI_leI, nI_ltI, nI_eq, if_pos, if_neg, nn_neg, nn_ne, nn_ne2, nn_lt, nn_nlt, nn_nle, nn_le, nn_m1, li_0, li_1, li_2, li_3, li_4, li_5, li_9, li_10, li_19, li_20, li_26, li_40, li_60, li_64, li_97, li_48, li_100, li_199, li_200, li_1000, li_8200, li_9999, li_100000, k_kidCountOf_y h hn hj hc]
  · simp (disch := omega) only [↓reduceIte, Nat.reduceSub, Nat.reduceAdd, Nat.reduceMul, Nat.sub_zero, Nat.add_zero, Nat.zero_add, Nat.mul_zero, lq_s, br_s, bd_s, bv_s, gd_tt, inB_nI, nI_clamp, sk_s, sk_n, pk_us, pk_un, nI_add, pk_mul, pk_sub, nI_leI, nI_ltI, nI_eq, if_pos, if_neg, nn_neg, nn_ne, nn_ne2, nn_lt, nn_nlt, nn_nle, nn_le, nn_m1, li_0, li_1, li_2, li_3, li_4, li_5, li_9, li_10, li_19, li_20, li_26, li_40, li_60, li_64, li_97, li_48, li_100, li_199, li_200, li_1000, li_8200, li_9999, li_100000, k_kidCountOf_y h hn hj hc]
