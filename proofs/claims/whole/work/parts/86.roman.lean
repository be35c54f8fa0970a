/-! roman signs -/
def rV (i : Nat) : Nat := [1000, 900, 500, 400, 100, 90, 50, 40, 10, 9, 5, 4, 1].getD i 1
def rS (i : Nat) : List Nat := [[109], [99, 109], [100], [99, 100], [99], [120, 99], [108], [120, 108], [120], [105, 120], [118], [105, 118], [105]].getD i []
theorem rS_ok : ∀ i : Nat, i < 13 → kLN (nI i) = (rS i).length ∧ (rS i).length ≤ 2 ∧ (∀ k : Nat, k < (rS i).length → kSC (nI i) (nI k) = nI ((rS i).getD k 0) ∧ (rS i).getD k 0 < 128) ∧ kRom.getD i 0 = nI (rV i) ∧ 0 < rV i ∧ rV i ≤ 1000 := by decide +kernel
theorem rS_sign {σ : St} : ∀ i : Nat, i < 13 → kM_Labels_romanSigns σ (nI (rV i)) = some (nI i) := by
  unfold kM_Labels_romanSigns
  decide +kernel
def reps : Nat → List Nat → List Nat
  | 0, _ => []
  | c + 1, s => s ++ reps c s
def gs : Nat → Nat → List Nat
  | 0, _ => []
  | c + 1, rest => reps (rest / rV (12 - c)) (rS (12 - c)) ++ gs c (rest % rV (12 - c))
theorem k_signs {i : Nat} (hi : i < 13) : ∀ (c k fuel : Nat) (σ : St) (L : List Nat), k + c = (rS i).length → c < fuel → SK σ L → L.length + c ≤ 64 → ∃ σ', kL_Labels_writeSigns_2 fuel σ (nI i) (nI k) = some σ' ∧ SK σ' (L ++ (rS i).drop k) ∧ ∀ k, k ≠ 23 → k ≠ 36 → σ' k = σ k := by
  obtain ⟨o1, o2, o3, -⟩ := rS_ok i hi
  have e1 : kSL (nI i) = nI (rS i).length := by unfold kSL; rw [o1]
  intro c
  induction c with
  | zero =>
    intro k fuel σ L hk hf hS hl
    obtain ⟨g, rfl⟩ : ∃ g, fuel = g + 1 := ⟨fuel - 1, by omega⟩
    refine ⟨σ, ?_, by rw [List.drop_eq_nil_of_le (by omega), List.append_nil]; exact hS, fun _ _ _ => rfl⟩
    rw [kL_Labels_writeSigns_2]
    simp (disch := omega) only [↓reduceIte, Nat.reduceSub, Nat.reduceAdd, Nat.reduceMul, Nat.sub_zero, Nat.add_zero, Nat.zero_add, Nat.mul_zero, lq_s, br_s, bd_s, bv_s, gd_tt, inB_nI, nI_clamp, sk_s, sk_n, pk_us, pk_un, nI_add, pk_mul, pk_sub, nI_leI, nI_ltI, nI_eq, if_pos, if_neg, nn_neg, nn_ne, nn_ne2, nn_lt, nn_nlt, nn_nle, nn_le, nn_m1, li_0, li_1, li_2, li_3, li_4, li_5, li_9, li_10, li_19, li_20, li_26, li_40, li_60, li_64, li_97, li_48, li_100, li_199, li_200, li_1000, li_8200, li_9999, li_100000, e1]
  | succ c ih =>
    intro k fuel σ L hk hf hS hl
    obtain ⟨g, rfl⟩ : ∃ g, fuel = g + 1 := ⟨fuel - 1, by omega⟩
    obtain ⟨p1, p2⟩ := o3 k (by omega)
    have hkl : k < (rS i).length := by omega
    obtain ⟨σ1, a1, a2, a3⟩ := k_sign hS (by omega) p2
    obtain ⟨σ2, b1, b2, b3⟩ := ih (k + 1) g σ1 (L ++ [(rS i).getD k 0]) (by omega) (by omega) a2 (by rw [List.length_append]; show L.length + 1 + c ≤ 64; omega)
    have hd : (rS i).drop k = (rS i).getD k 0 :: (rS i).drop (k + 1) := by
      rw [List.drop_eq_getElem_cons hkl, List.getD_eq_getElem?_getD, List.getElem?_eq_getElem hkl]
      rfl
    rw [List.append_assoc] at b2
    refine ⟨σ2, ?_, by rw [hd]; exact b2, fun k h1 h2 => by rw [b3 k h1 h2, a3 k h1 h2]⟩
    rw [kL_Labels_writeSigns_2]
    simp (disch := omega) only [↓reduceIte, Nat.reduceSub, Nat.reduceAdd, Nat.reduceMul, Nat.sub_zero, Nat.add_zero, Nat.zero_add, Nat.mul_zero, lq_s, br_s, bd_s, bv_s, gd_tt, inB_nI, nI_clamp, sk_s, sk_n, pk_us, pk_un, nI_add, pk_mul, pk_sub, nI_leI, nI_ltI, nI_eq, if_pos, if_neg, nn_neg, nn_ne, nn_ne2, nn_lt, nn_nlt, nn_nle, nn_le, nn_m1, li_0, li_1, li_2, li_3, li_4, li_5, li_9, li_10, li_19, li_20, li_26, li_40, li_60, li_64, li_97, li_48, li_100, li_199, li_200, li_1000, li_8200, li_9999, li_100000, e1, o1, p1, a1]
    exact b1
theorem k_inner (K : St → Int32 → Int32 → Int32 → Option St) {i : Nat} (hi : i < 13) (v4 : Int32) : ∀ (c fuel : Nat) (σ : St) (L : List Nat) (rest : Nat), rest / rV i = c → rest < 1200 → c < fuel → SK σ L → L.length + (reps c (rS i)).length ≤ 64 → ∃ σ', kL_Labels_writeRoman_26 K fuel σ (nI rest) v4 (nI i) (nI (rV i)) = kJ_Labels_writeRoman_49 K σ' (nI (rest % rV i)) v4 (nI i) ∧ SK σ' (L ++ reps c (rS i)) ∧ ∀ k, k ≠ 23 → k ≠ 36 → σ' k = σ k := by
  obtain ⟨o1, o2, o3, o4, o5, o6⟩ := rS_ok i hi
  have hFU := FU_ge
  intro c
  induction c with
  | zero =>
    intro fuel σ L rest hr hm hf hS hl
    obtain ⟨g, rfl⟩ : ∃ g, fuel = g + 1 := ⟨fuel - 1, by omega⟩
    have hlt : rest < rV i := by
      rcases Nat.lt_or_ge rest (rV i) with h | h
      · exact h
      · have := Nat.div_pos h o5
        omega
    refine ⟨σ, ?_, by rw [reps, List.append_nil]; exact hS, fun _ _ _ => rfl⟩
    rw [kL_Labels_writeRoman_26, Nat.mod_eq_of_lt hlt]
    simp (disch := omega) only [↓reduceIte, Nat.reduceSub, Nat.reduceAdd, Nat.reduceMul, Nat.sub_zero, Nat.add_zero, Nat.zero_add, Nat.mul_zero, lq_s, br_s, bd_s, bv_s, gd_tt, inB_nI, nI_clamp, sk_s, sk_n, pk_us, pk_un, nI_add, pk_mul, pk_sub, nI_leI, nI_ltI, nI_eq, if_pos, if_neg, nn_neg, nn_ne, nn_ne2, nn_lt, nn_nlt, nn_nle, nn_le, nn_m1, li_0, li_1, li_2, li_3, li_4, li_5, li_9, li_10, li_19, li_20, li_26, li_40, li_60, li_64, li_97, li_48, li_100, li_199, li_200, li_1000, li_8200, li_9999, li_100000]
  | succ c ih =>
    intro fuel σ L rest hr hm hf hS hl
    obtain ⟨g, rfl⟩ : ∃ g, fuel = g + 1 := ⟨fuel - 1, by omega⟩
    have hge : rV i ≤ rest := by
      rcases Nat.lt_or_ge rest (rV i) with h | h
      · rw [Nat.div_eq_of_lt h] at hr; omega
      · exact h
    rw [reps, List.length_append] at hl
    have hd := Nat.div_eq_sub_div o5 hge
    have hs := rS_sign (σ := σ) i hi
    obtain ⟨σ1, a1, a2, a3⟩ := k_signs hi (rS i).length 0 FU σ L (by omega) (by omega) hS (by omega)
    rw [List.drop_zero] at a2
    have a1' : kM_Labels_writeSigns σ (nI i) = some σ1 := a1
    obtain ⟨σ2, b1, b2, b3⟩ := ih g σ1 (L ++ rS i) (rest - rV i) (by omega) (by omega) (by omega) a2 (by rw [List.length_append]; omega)
    rw [List.append_assoc] at b2
    refine ⟨σ2, ?_, b2, fun k h1 h2 => by rw [b3 k h1 h2, a3 k h1 h2]⟩
    rw [kL_Labels_writeRoman_26, Nat.mod_eq_sub_mod hge]
    simp (disch := omega) only [↓reduceIte, Nat.reduceSub, Nat.reduceAdd, Nat.reduceMul, Nat.sub_zero, Nat.add_zero, Nat.zero_add, Nat.mul_zero, lq_s, br_s, bd_s, bv_s, gd_tt, inB_nI, nI_clamp, sk_s, sk_n, pk_us, pk_un, nI_add, pk_mul, pk_sub, nI_leI, nI_ltI, nI_eq, if_pos, if_neg, nn_neg, nn_ne, nn_ne2, nn_lt, nn_nlt, nn_nle, nn_le, nn_m1, li_0, li_1, li_2, li_3, li_4, li_5, li_9, li_10, li_19, li_20, li_26, li_40, li_60, li_64, li_97, li_48, li_100, li_199, li_200, li_1000, li_8200, li_9999, li_100000, hs, a1']
    exact b1
theorem k_outer : ∀ (c i fuel : Nat) (σ : St) (L : List Nat) (rest : Nat), i + c = 13 → c < fuel → rest < 1200 → SK σ L → L.length + (gs c rest).length ≤ 64 → ∃ σ', kL_Labels_writeRoman_13 fuel σ (nI rest) (nI 13) (nI i) = some σ' ∧ SK σ' (L ++ gs c rest) ∧ ∀ k, k ≠ 23 → k ≠ 36 → σ' k = σ k := by
  have hFU := FU_ge
  intro c
  induction c with
  | zero =>
    intro i fuel σ L rest hi hf hm hS hl
    obtain ⟨g, rfl⟩ : ∃ g, fuel = g + 1 := ⟨fuel - 1, by omega⟩
    refine ⟨σ, ?_, by rw [gs, List.append_nil]; exact hS, fun _ _ _ => rfl⟩
    rw [kL_Labels_writeRoman_13]
    simp (disch := omega) only [↓reduceIte, Nat.reduceSub, Nat.reduceAdd, Nat.reduceMul, Nat.sub_zero, Nat.add_zero, Nat.zero_add, Nat.mul_zero, lq_s, br_s, bd_s, bv_s, gd_tt, inB_nI, nI_clamp, sk_s, sk_n, pk_us, pk_un, nI_add, pk_mul, pk_sub, nI_leI, nI_ltI, nI_eq, if_pos, if_neg, nn_neg, nn_ne, nn_ne2, nn_lt, nn_nlt, nn_nle, nn_le, nn_m1, li_0, li_1, li_2, li_3, li_4, li_5, li_9, li_10, li_19, li_20, li_26, li_40, li_60, li_64, li_97, li_48, li_100, li_199, li_200, li_1000, li_8200, li_9999, li_100000]
  | succ c ih =>
    intro i fuel σ L rest hi hf hm hS hl
    obtain ⟨g, rfl⟩ : ∃ g, fuel = g + 1 := ⟨fuel - 1, by omega⟩
    have hic : i = 12 - c := by omega
    rw [gs, ← hic] at hl ⊢
    rw [List.length_append] at hl
    obtain ⟨o1, o2, o3, o4, o5, o6⟩ := rS_ok i (by omega)
    have hdl : rest / rV i < 1200 := Nat.lt_of_le_of_lt (Nat.div_le_self _ _) hm
    obtain ⟨σ1, a1, a2, a3⟩ := k_inner (fun σ z0 z1 z2 => kL_Labels_writeRoman_13 g σ z0 z1 z2) (show i < 13 by omega) (nI 13) (rest / rV i) FU σ L rest rfl hm (by omega) hS (by omega)
    obtain ⟨σ2, b1, b2, b3⟩ := ih (i + 1) g σ1 (L ++ reps (rest / rV i) (rS i)) (rest % rV i) (by omega) (by omega) (Nat.lt_of_le_of_lt (Nat.mod_le _ _) hm) a2 (by rw [List.length_append]; omega)
    rw [List.append_assoc] at b2
    refine ⟨σ2, ?_, b2, fun k h1 h2 => by rw [b3 k h1 h2, a3 k h1 h2]⟩
    rw [kL_Labels_writeRoman_13]
    have o4' : kRom.getD i (nI 0) = nI (rV i) := o4
    simp (disch := omega) only [↓reduceIte, Nat.reduceSub, Nat.reduceAdd, Nat.reduceMul, Nat.sub_zero, Nat.add_zero, Nat.zero_add, Nat.mul_zero, lq_s, br_s, bd_s, bv_s, gd_tt, inB_nI, nI_clamp, sk_s, sk_n, pk_us, pk_un, nI_add, pk_mul, pk_sub, nI_leI, nI_ltI, nI_eq, if_pos, if_neg, nn_neg, nn_ne, nn_ne2, nn_lt, nn_nlt, nn_nle, nn_le, nn_m1, li_0, li_1, li_2, li_3, li_4, li_5, li_9, li_10, li_19, li_20, li_26, li_40, li_60, li_64, li_97, li_48, li_100, li_199, li_200, li_1000, li_8200, li_9999, li_100000, o4', a1]
    unfold kJ_Labels_writeRoman_49
    simp (disch := omega) only [↓reduceIte, Nat.reduceSub, Nat.reduceAdd, Nat.reduceMul, Nat.sub_zero, Nat.add_zero, Nat.zero_add, Nat.mul_zero, lq_s, br_s, bd_s, bv_s, gd_tt, inB_nI, nI_clamp, sk_s, sk_n, pk_us, pk_un, nI_add, pk_mul, pk_sub, nI_leI, nI_ltI, nI_eq, if_pos, if_neg, nn_neg, nn_ne, nn_ne2, nn_lt, nn_nlt, nn_nle, nn_le, nn_m1, li_0, li_1, li_2, li_3, li_4, li_5, li_9, li_10, li_19, li_20, li_26, li_40, li_60, li_64, li_97, li_48, li_100, li_199, li_200, li_1000, li_8200, li_9999, li_100000]
    exact b1
def spS (d a b e : Nat) : List Nat := if d = 9 then [a, e] else if d = 4 then [a, b] else if d ≤ 4 then List.replicate (d - d / 5 * 5) a else b :: List.replicate (d - d / 5 * 5) a
theorem r_sp47 {d a : Nat} (hd : d ≤ 9) : ∀ (c i fuel : Nat) (ρ : St) (L : List Nat), i + c = d - d / 5 * 5 → c < fuel → SR ρ L → L.length + c ≤ 60 → ∃ ρ', rL_Md_sayPlace_47 fuel ρ (nI d) (nI a) (nI i) = some ρ' ∧ SR ρ' (L ++ List.replicate c a) ∧ ∀ k, k ≠ 20 → k ≠ 28 → ρ' k = ρ k := by
  intro c
  induction c with
  | zero =>
    intro i fuel ρ L hi hf hS hl
    obtain ⟨g, rfl⟩ : ∃ g, fuel = g + 1 := ⟨fuel - 1, by omega⟩
    refine ⟨ρ, ?_, by rw [show List.replicate 0 a = [] from rfl, List.append_nil]; exact hS, fun _ _ _ => rfl⟩
    rw [rL_Md_sayPlace_47]
    simp (disch := omega) only [↓reduceIte, Nat.reduceSub, Nat.reduceAdd, Nat.reduceMul, Nat.sub_zero, Nat.add_zero, Nat.zero_add, Nat.mul_zero, lq_s, br_s, bd_s, bv_s, gd_tt, inB_nI, nI_clamp, sk_s, sk_n, pk_us, pk_un, nI_add, pk_mul, pk_sub, nI_leI, nI_ltI, nI_eq, if_pos, if_neg, nn_neg, nn_ne, nn_ne2, nn_lt, nn_nlt, nn_nle, nn_le, nn_m1, li_0, li_1, li_2, li_3, li_4, li_5, li_9, li_10, li_19, li_20, li_26, li_40, li_60, li_64, li_97, li_48, li_100, li_199, li_200, li_1000, li_8200, li_9999, li_100000, pk_div]
  | succ c ih =>
    intro i fuel ρ L hi hf hS hl
    obtain ⟨g, rfl⟩ : ∃ g, fuel = g + 1 := ⟨fuel - 1, by omega⟩
    obtain ⟨σ1, a1, a2, a3⟩ := r_say (c := a) hS (by omega)
    obtain ⟨σ2, b1, b2, b3⟩ := ih (i + 1) g σ1 (L ++ [a]) (by omega) (by omega) a2 (by rw [List.length_append]; show L.length + 1 + c ≤ 60; omega)
    rw [rep_one] at b2
    refine ⟨σ2, ?_, b2, fun k h1 h2 => by rw [b3 k h1 h2, a3 k h1 h2]⟩
    rw [rL_Md_sayPlace_47]
    simp (disch := omega) only [↓reduceIte, Nat.reduceSub, Nat.reduceAdd, Nat.reduceMul, Nat.sub_zero, Nat.add_zero, Nat.zero_add, Nat.mul_zero, lq_s, br_s, bd_s, bv_s, gd_tt, inB_nI, nI_clamp, sk_s, sk_n, pk_us, pk_un, nI_add, pk_mul, pk_sub, nI_leI, nI_ltI, nI_eq, if_pos, if_neg, nn_neg, nn_ne, nn_ne2, nn_lt, nn_nlt, nn_nle, nn_le, nn_m1, li_0, li_1, li_2, li_3, li_4, li_5, li_9, li_10, li_19, li_20, li_26, li_40, li_60, li_64, li_97, li_48, li_100, li_199, li_200, li_1000, li_8200, li_9999, li_100000, pk_div, a1]
    exact b1
theorem spS_len {d a b e : Nat} (hd : d ≤ 9) : (spS d a b e).length ≤ 5 := by
  unfold spS
  by_cases h9 : d = 9
  · rw [if_pos h9]; show 2 ≤ 5; omega
  · rw [if_neg h9]
    by_cases h4 : d = 4
    · rw [if_pos h4]; show 2 ≤ 5; omega
    · rw [if_neg h4]
      by_cases hl : d ≤ 4
      · rw [if_pos hl, List.length_replicate]; omega
      · rw [if_neg hl, List.length_cons, List.length_replicate]; omega
theorem r_sp {d a b e : Nat} {ρ : St} {L : List Nat} (hd : d ≤ 9) (hS : SR ρ L) (hl : L.length ≤ 50) : ∃ ρ', rM_Md_sayPlace ρ (nI d) (nI a) (nI b) (nI e) = some ρ' ∧ SR ρ' (L ++ spS d a b e) ∧ ∀ k, k ≠ 20 → k ≠ 28 → ρ' k = ρ k := by
  have hFU := FU_ge
  unfold rM_Md_sayPlace spS rJ_Md_sayPlace_44
  by_cases h9 : d = 9
  · rw [if_pos h9]
    subst h9
    obtain ⟨σ1, a1, a2, a3⟩ := r_say (c := a) hS (by omega)
    obtain ⟨σ2, b1, b2, b3⟩ := r_say (c := e) a2 (by rw [List.length_append]; show L.length + 1 < 60; omega)
    rw [List.append_assoc] at b2
    exact ⟨σ2, by simp (disch := omega) only [↓reduceIte, Nat.reduceSub, Nat.reduceAdd, Nat.reduceMul, Nat.sub_zero, Nat.add_zero, Nat.zero_add, Nat.mul_zero, lq_s, br_s, bd_s, bv_s, gd_tt, inB_nI, nI_clamp, sk_s, sk_n, pk_us, pk_un, nI_add, pk_mul, pk_sub, nI_leI, nI_ltI, nI_eq, if_pos, if_neg, nn_neg, nn_ne, nn_ne2, nn_lt, nn_nlt, nn_nle, nn_le, nn_m1, li_0, li_1, li_2, li_3, li_4, li_5, li_9, li_10, li_19, li_20, li_26, li_40, li_60, li_64, li_97, li_48, li_100, li_199, li_200, li_1000, li_8200, li_9999, li_100000, a1, b1], b2, fun k h1 h2 => by rw [b3 k h1 h2, a3 k h1 h2]⟩
  · rw [if_neg h9]
    by_cases h4 : d = 4
    · rw [if_pos h4]
      subst h4
      obtain ⟨σ1, a1, a2, a3⟩ := r_say (c := a) hS (by omega)
      obtain ⟨σ2, b1, b2, b3⟩ := r_say (c := b) a2 (by rw [List.length_append]; show L.length + 1 < 60; omega)
      rw [List.append_assoc] at b2
      exact ⟨σ2, by simp (disch := omega) only [↓reduceIte, Nat.reduceSub, Nat.reduceAdd, Nat.reduceMul, Nat.sub_zero, Nat.add_zero, Nat.zero_add, Nat.mul_zero, lq_s, br_s, bd_s, bv_s, gd_tt, inB_nI, nI_clamp, sk_s, sk_n, pk_us, pk_un, nI_add, pk_mul, pk_sub, nI_leI, nI_ltI, nI_eq, if_pos, if_neg, nn_neg, nn_ne, nn_ne2, nn_lt, nn_nlt, nn_nle, nn_le, nn_m1, li_0, li_1, li_2, li_3, li_4, li_5, li_9, li_10, li_19, li_20, li_26, li_40, li_60, li_64, li_97, li_48, li_100, li_199, li_200, li_1000, li_8200, li_9999, li_100000, a1, b1], b2, fun k h1 h2 => by rw [b3 k h1 h2, a3 k h1 h2]⟩
    · rw [if_neg h4]
      by_cases hlt : d ≤ 4
      · rw [if_pos hlt]
        obtain ⟨σ1, a1, a2, a3⟩ := r_sp47 (a := a) hd (d - d / 5 * 5) 0 FU ρ L (by omega) (by omega) hS (by omega)
        exact ⟨σ1, by simp (disch := omega) only [↓reduceIte, Nat.reduceSub, Nat.reduceAdd, Nat.reduceMul, Nat.sub_zero, Nat.add_zero, Nat.zero_add, Nat.mul_zero, lq_s, br_s, bd_s, bv_s, gd_tt, inB_nI, nI_clamp, sk_s, sk_n, pk_us, pk_un, nI_add, pk_mul, pk_sub, nI_leI, nI_ltI, nI_eq, if_pos, if_neg, nn_neg, nn_ne, nn_ne2, nn_lt, nn_nlt, nn_nle, nn_le, nn_m1, li_0, li_1, li_2, li_3, li_4, li_5, li_9, li_10, li_19, li_20, li_26, li_40, li_60, li_64, li_97, li_48, li_100, li_199, li_200, li_1000, li_8200, li_9999, li_100000, a1], a2, a3⟩
      · rw [if_neg hlt]
        obtain ⟨σ0, c1, c2, c3⟩ := r_say (c := b) hS (by omega)
        obtain ⟨σ1, a1, a2, a3⟩ := r_sp47 (a := a) hd (d - d / 5 * 5) 0 FU σ0 (L ++ [b]) (by omega) (by omega) c2 (by rw [List.length_append]; show L.length + 1 + _ ≤ 60; omega)
        rw [List.append_assoc] at a2
        exact ⟨σ1, by simp (disch := omega) only [↓reduceIte, Nat.reduceSub, Nat.reduceAdd, Nat.reduceMul, Nat.sub_zero, Nat.add_zero, Nat.zero_add, Nat.mul_zero, lq_s, br_s, bd_s, bv_s, gd_tt, inB_nI, nI_clamp, sk_s, sk_n, pk_us, pk_un, nI_add, pk_mul, pk_sub, nI_leI, nI_ltI, nI_eq, if_pos, if_neg, nn_neg, nn_ne, nn_ne2, nn_lt, nn_nlt, nn_nle, nn_le, nn_m1, li_0, li_1, li_2, li_3, li_4, li_5, li_9, li_10, li_19, li_20, li_26, li_40, li_60, li_64, li_97, li_48, li_100, li_199, li_200, li_1000, li_8200, li_9999, li_100000, c1, a1], a2, fun k h1 h2 => by rw [a3 k h1 h2, c3 k h1 h2]⟩
def rs (m : Nat) : List Nat := (if 1000 ≤ m then [109] else []) ++ spS (m / 100 - m / 100 / 10 * 10) 99 100 109 ++ spS (m / 10 - m / 10 / 10 * 10) 120 108 99 ++ spS (m - m / 10 * 10) 105 118 120
theorem rom_ok : ∀ m : Nat, m < 1200 → gs 13 m = rs m ∧ (rs m).length ≤ 20 := by decide +kernel
theorem r_roman {m : Nat} {ρ : St} (hm : m < 1200) (hT : SR ρ []) : ∃ ρ', rM_Md_sayRoman ρ (nI m) = some ρ' ∧ SR ρ' (rs m) ∧ ∀ k, k ≠ 20 → k ≠ 28 → ρ' k = ρ k := by
  have hFU := FU_ge
  obtain ⟨g, hg⟩ : ∃ g, FU = g + 2 := ⟨FU - 2, by omega⟩
  have key : ∀ (s : St) (L : List Nat), L.length ≤ 1 → SR s L → ∃ ρ', rJ_Md_sayRoman_23 s (nI m) = some ρ' ∧ SR ρ' (L ++ spS (m / 100 - m / 100 / 10 * 10) 99 100 109 ++ spS (m / 10 - m / 10 / 10 * 10) 120 108 99 ++ spS (m - m / 10 * 10) 105 118 120) ∧ ∀ k, k ≠ 20 → k ≠ 28 → ρ' k = s k := by
    intro s L hL hs
    have q1 := spS_len (d := m / 100 - m / 100 / 10 * 10) (a := 99) (b := 100) (e := 109) (by omega)
    have q2 := spS_len (d := m / 10 - m / 10 / 10 * 10) (a := 120) (b := 108) (e := 99) (by omega)
    obtain ⟨s1, a1, a2, a3⟩ := r_sp (d := m / 100 - m / 100 / 10 * 10) (a := 99) (b := 100) (e := 109) (by omega) hs (by omega)
    obtain ⟨s2, b1, b2, b3⟩ := r_sp (d := m / 10 - m / 10 / 10 * 10) (a := 120) (b := 108) (e := 99) (by omega) a2 (by rw [List.length_append]; omega)
    obtain ⟨s3, c1, c2, c3⟩ := r_sp (d := m - m / 10 * 10) (a := 105) (b := 118) (e := 120) (by omega) b2 (by rw [List.length_append, List.length_append]; omega)
    refine ⟨s3, ?_, c2, fun k h1 h2 => by rw [c3 k h1 h2, b3 k h1 h2, a3 k h1 h2]⟩
    unfold rJ_Md_sayRoman_23
    simp (disch := omega) only [↓reduceIte, Nat.reduceSub, Nat.reduceAdd, Nat.reduceMul, Nat.sub_zero, Nat.add_zero, Nat.zero_add, Nat.mul_zero, lq_s, br_s, bd_s, bv_s, gd_tt, inB_nI, nI_clamp, sk_s, sk_n, pk_us, pk_un, nI_add, pk_mul, pk_sub, nI_leI, nI_ltI, nI_eq, if_pos, if_neg, nn_neg, nn_ne, nn_ne2, nn_lt, nn_nlt, nn_nle, nn_le, nn_m1, li_0, li_1, li_2, li_3, li_4, li_5, li_9, li_10, li_19, li_20, li_26, li_40, li_60, li_64, li_97, li_48, li_100, li_199, li_200, li_1000, li_8200, li_9999, li_100000, pk_div, li_99, li_105, li_108, li_109, li_118, li_120, a1, b1, c1]
  unfold rM_Md_sayRoman rs
  rw [hg]
  by_cases h : 1000 ≤ m
  · rw [if_pos h]
    obtain ⟨s1, a1, a2, a3⟩ := r_say (c := 109) hT (by show 0 < 60; omega)
    obtain ⟨s2, b1, b2, b3⟩ := key s1 _ (by show 1 ≤ 1; omega) a2
    refine ⟨s2, ?_, b2, fun k h1 h2 => by rw [b3 k h1 h2, a3 k h1 h2]⟩
    rw [rL_Md_sayRoman_2]
    simp (disch := omega) only [↓reduceIte, Nat.reduceSub, Nat.reduceAdd, Nat.reduceMul, Nat.sub_zero, Nat.add_zero, Nat.zero_add, Nat.mul_zero, lq_s, br_s, bd_s, bv_s, gd_tt, inB_nI, nI_clamp, sk_s, sk_n, pk_us, pk_un, nI_add, pk_mul, pk_sub, nI_leI, nI_ltI, nI_eq, if_pos, if_neg, nn_neg, nn_ne, nn_ne2, nn_lt, nn_nlt, nn_nle, nn_le, nn_m1, li_0, li_1, li_2, li_3, li_4, li_5, li_9, li_10, li_19, li_20, li_26, li_40, li_60, li_64, li_97, li_48, li_100, li_199, li_200, li_1000, li_8200, li_9999, li_100000, pk_div, li_109, a1]
    rw [rL_Md_sayRoman_2]
    simp (disch := omega) only [↓reduceIte, Nat.reduceSub, Nat.reduceAdd, Nat.reduceMul, Nat.sub_zero, Nat.add_zero, Nat.zero_add, Nat.mul_zero, lq_s, br_s, bd_s, bv_s, gd_tt, inB_nI, nI_clamp, sk_s, sk_n, pk_us, pk_un, nI_add, pk_mul, pk_sub, nI_leI, nI_ltI, nI_eq, if_pos, if_neg, nn_neg, nn_ne, nn_ne2, nn_lt, nn_nlt, nn_nle, nn_le, nn_m1, li_0, li_1, li_2, li_3, li_4, li_5, li_9, li_10, li_19, li_20, li_26, li_40, li_60, li_64, li_97, li_48, li_100, li_199, li_200, li_1000, li_8200, li_9999, li_100000, pk_div]
    exact b1
  · rw [if_neg h]
    obtain ⟨s2, b1, b2, b3⟩ := key ρ [] (by show 0 ≤ 1; omega) hT
    refine ⟨s2, ?_, b2, b3⟩
    rw [rL_Md_sayRoman_2]
    simp (disch := omega) only [↓reduceIte, Nat.reduceSub, Nat.reduceAdd, Nat.reduceMul, Nat.sub_zero, Nat.add_zero, Nat.zero_add, Nat.mul_zero, lq_s, br_s, bd_s, bv_s, gd_tt, inB_nI, nI_clamp, sk_s, sk_n, pk_us, pk_un, nI_add, pk_mul, pk_sub, nI_leI, nI_ltI, nI_eq, if_pos, if_neg, nn_neg, nn_ne, nn_ne2, nn_lt, nn_nlt, nn_nle, nn_le, nn_m1, li_0, li_1, li_2, li_3, li_4, li_5, li_9, li_10, li_19, li_20, li_26, li_40, li_60, li_64, li_97, li_48, li_100, li_199, li_200, li_1000, li_8200, li_9999, li_100000, pk_div]
    exact b1
/-- a number in a style, by both -/
theorem p_say {m s : Nat} {σ ρ : St} (hm : m < 1200) (hm1 : 1 ≤ m) (hs : s ≤ 2) (hS : SK σ []) (hT : SR ρ []) : ∃ (L : List Nat) (σ' ρ' : St), L.length ≤ 60 ∧ kM_Labels_write σ (nI s) (nI m) = some σ' ∧ rJ_Md_sayLabel_110 ρ (nI m) (nI s) = some ρ' ∧ SK σ' L ∧ SR ρ' L ∧ (∀ k, k ≠ 23 → k ≠ 36 → σ' k = σ k) ∧ ∀ k, k ≠ 20 → k ≠ 28 → ρ' k = ρ k := by
  have hFU := FU_ge
  unfold kM_Labels_write rJ_Md_sayLabel_110
  rcases (show s = 0 ∨ s = 1 ∨ s = 2 by omega) with rfl | rfl | rfl
  · obtain ⟨L, σ', ρ', q1, q2, q3, q4, q5, q6, q7⟩ := p_digits hm hm1 hS hT
    exact ⟨L, σ', ρ', q1, by simp (disch := omega) only [↓reduceIte, Nat.reduceSub, Nat.reduceAdd, Nat.reduceMul, Nat.sub_zero, Nat.add_zero, Nat.zero_add, Nat.mul_zero, lq_s, br_s, bd_s, bv_s, gd_tt, inB_nI, nI_clamp, sk_s, sk_n, pk_us, pk_un, nI_add, pk_mul, pk_sub, nI_leI, nI_ltI, nI_eq, if_pos, if_neg, nn_neg, nn_ne, nn_ne2, nn_lt, nn_nlt, nn_nle, nn_le, nn_m1, li_0, li_1, li_2, li_3, li_4, li_5, li_9, li_10, li_19, li_20, li_26, li_40, li_60, li_64, li_97, li_48, li_100, li_199, li_200, li_1000, li_8200, li_9999, li_100000, q2], by simp (disch := omega) only [↓reduceIte, Nat.reduceSub, Nat.reduceAdd, Nat.reduceMul, Nat.sub_zero, Nat.add_zero, Nat.zero_add, Nat.mul_zero, lq_s, br_s, bd_s, bv_s, gd_tt, inB_nI, nI_clamp, sk_s, sk_n, pk_us, pk_un, nI_add, pk_mul, pk_sub, nI_leI, nI_ltI, nI_eq, if_pos, if_neg, nn_neg, nn_ne, nn_ne2, nn_lt, nn_nlt, nn_nle, nn_le, nn_m1, li_0, li_1, li_2, li_3, li_4, li_5, li_9, li_10, li_19, li_20, li_26, li_40, li_60, li_64, li_97, li_48, li_100, li_199, li_200, li_1000, li_8200, li_9999, li_100000, q3], q4, q5, q6, q7⟩
  · obtain ⟨o1, o2⟩ := rom_ok m hm
    obtain ⟨ρ', b1, b2, b3⟩ := r_roman hm hT
    obtain ⟨σ', a1, a2, a3⟩ := k_outer 13 0 FU σ [] m (by omega) (by omega) hm hS (by rw [o1]; show 0 + _ ≤ 64; omega)
    rw [List.nil_append, o1] at a2
    have a1' : kM_Labels_writeRoman σ (nI m) = some σ' := a1
    exact ⟨rs m, σ', ρ', by omega, by simp (disch := omega) only [↓reduceIte, Nat.reduceSub, Nat.reduceAdd, Nat.reduceMul, Nat.sub_zero, Nat.add_zero, Nat.zero_add, Nat.mul_zero, lq_s, br_s, bd_s, bv_s, gd_tt, inB_nI, nI_clamp, sk_s, sk_n, pk_us, pk_un, nI_add, pk_mul, pk_sub, nI_leI, nI_ltI, nI_eq, if_pos, if_neg, nn_neg, nn_ne, nn_ne2, nn_lt, nn_nlt, nn_nle, nn_le, nn_m1, li_0, li_1, li_2, li_3, li_4, li_5, li_9, li_10, li_19, li_20, li_26, li_40, li_60, li_64, li_97, li_48, li_100, li_199, li_200, li_1000, li_8200, li_9999, li_100000, a1'], by simp (disch := omega) only [↓reduceIte, Nat.reduceSub, Nat.reduceAdd, Nat.reduceMul, Nat.sub_zero, Nat.add_zero, Nat.zero_add, Nat.mul_zero, lq_s, br_s, bd_s, bv_s, gd_tt, inB_nI, nI_clamp, sk_s, sk_n, pk_us, pk_un, nI_add, pk_mul, pk_sub, nI_leI, nI_ltI, nI_eq, if_pos, if_neg, nn_neg, nn_ne, nn_ne2, nn_lt, nn_nlt, nn_nle, nn_le, nn_m1, li_0, li_1, li_2, li_3, li_4, li_5, li_9, li_10, li_19, li_20, li_26, li_40, li_60, li_64, li_97, li_48, li_100, li_199, li_200, li_1000, li_8200, li_9999, li_100000, b1], a2, b2, a3, b3⟩
  · have hch : 97 + (m - 1 - (m - 1) / 26 * 26) < 128 := by omega
    obtain ⟨σ', a1, a2, a3⟩ := k_letters (ch := 97 + (m - 1 - (m - 1) / 26 * 26)) (times := (m - 1) / 26 + 1) hch (by omega) ((m - 1) / 26 + 1) 0 FU σ [] (by omega) (by omega) hS (by show 0 + _ ≤ 64; omega)
    obtain ⟨ρ', b1, b2, b3⟩ := r_letters hm hm1 ((m - 1) / 26 + 1) 0 FU ρ [] (by omega) (by omega) hT (by show 0 + _ ≤ 60; omega)
    rw [List.nil_append] at a2 b2
    have hc := ch_y _ hch
    refine ⟨_, σ', ρ', ?_, ?_, ?_, a2, b2, a3, b3⟩
    · rw [List.length_replicate]; omega
    · unfold kM_Labels_writeLetters
      simp (disch := omega) only [↓reduceIte, Nat.reduceSub, Nat.reduceAdd, Nat.reduceMul, Nat.sub_zero, Nat.add_zero, Nat.zero_add, Nat.mul_zero, lq_s, br_s, bd_s, bv_s, gd_tt, inB_nI, nI_clamp, sk_s, sk_n, pk_us, pk_un, nI_add, pk_mul, pk_sub, nI_leI, nI_ltI, nI_eq, if_pos, if_neg, nn_neg, nn_ne, nn_ne2, nn_lt, nn_nlt, nn_nle, nn_le, nn_m1, li_0, li_1, li_2, li_3, li_4, li_5, li_9, li_10, li_19, li_20, li_26, li_40, li_60, li_64, li_97, li_48, li_100, li_199, li_200, li_1000, li_8200, li_9999, li_100000, pk_div, hc, a1]
    · simp (disch := omega) only [↓reduceIte, Nat.reduceSub, Nat.reduceAdd, Nat.reduceMul, Nat.sub_zero, Nat.add_zero, Nat.zero_add, Nat.mul_zero, lq_s, br_s, bd_s, bv_s, gd_tt, inB_nI, nI_clamp, sk_s, sk_n, pk_us, pk_un, nI_add, pk_mul, pk_sub, nI_leI, nI_ltI, nI_eq, if_pos, if_neg, nn_neg, nn_ne, nn_ne2, nn_lt, nn_nlt, nn_nle, nn_le, nn_m1, li_0, li_1, li_2, li_3, li_4, li_5, li_9, li_10, li_19, li_20, li_26, li_40, li_60, li_64, li_97, li_48, li_100, li_199, li_200, li_1000, li_8200, li_9999, li_100000, b1]
theorem p_range {a place : Nat} {f : Nat → Nat} {σ ρ : St} (ha : a ≤ 20) (hp : place < 200) (h1 : σ 35 0 = nI a) (h2 : ρ 26 0 = nI a) (hf : ∀ j, j < a → f j ≤ 199 ∧ σ 20 j = nI (f j) ∧ ρ 15 j = nI (f j)) : ∀ (c k fk fr : Nat) (v : Int32), k + c = a → c < fk → c < fr → (v = nM 1 ∨ ∃ r, r < a ∧ v = nI r ∧ f r ≤ place) → ∃ v', (v' = nM 1 ∨ ∃ r, r < a ∧ v' = nI r ∧ f r ≤ place) ∧ kL_Labels_rangeAround_4 σ fk (nI place) v (nI k) = some v' ∧ rL_Md_sayLabel_9 fr ρ (nI place) v (nI k) = rJ_Md_sayLabel_70 ρ (nI place) v' := by
  intro c
  induction c with
  | zero =>
    intro k fk fr v hk hf1 hf2 hv
    obtain ⟨g, rfl⟩ : ∃ g, fk = g + 1 := ⟨fk - 1, by omega⟩
    obtain ⟨g2, rfl⟩ : ∃ g, fr = g + 1 := ⟨fr - 1, by omega⟩
    refine ⟨v, hv, ?_, ?_⟩
    · rw [kL_Labels_rangeAround_4]
      simp (disch := omega) only [↓reduceIte, Nat.reduceSub, Nat.reduceAdd, Nat.reduceMul, Nat.sub_zero, Nat.add_zero, Nat.zero_add, Nat.mul_zero, lq_s, br_s, bd_s, bv_s, gd_tt, inB_nI, nI_clamp, sk_s, sk_n, pk_us, pk_un, nI_add, pk_mul, pk_sub, nI_leI, nI_ltI, nI_eq, if_pos, if_neg, nn_neg, nn_ne, nn_ne2, nn_lt, nn_nlt, nn_nle, nn_le, nn_m1, li_0, li_1, li_2, li_3, li_4, li_5, li_9, li_10, li_19, li_20, li_26, li_40, li_60, li_64, li_97, li_48, li_100, li_199, li_200, li_1000, li_8200, li_9999, li_100000, h1]
    · rw [rL_Md_sayLabel_9]
      simp (disch := omega) only [↓reduceIte, Nat.reduceSub, Nat.reduceAdd, Nat.reduceMul, Nat.sub_zero, Nat.add_zero, Nat.zero_add, Nat.mul_zero, lq_s, br_s, bd_s, bv_s, gd_tt, inB_nI, nI_clamp, sk_s, sk_n, pk_us, pk_un, nI_add, pk_mul, pk_sub, nI_leI, nI_ltI, nI_eq, if_pos, if_neg, nn_neg, nn_ne, nn_ne2, nn_lt, nn_nlt, nn_nle, nn_le, nn_m1, li_0, li_1, li_2, li_3, li_4, li_5, li_9, li_10, li_19, li_20, li_26, li_40, li_60, li_64, li_97, li_48, li_100, li_199, li_200, li_1000, li_8200, li_9999, li_100000, h2]
  | succ c ih =>
    intro k fk fr v hk hf1 hf2 hv
    obtain ⟨g, rfl⟩ : ∃ g, fk = g + 1 := ⟨fk - 1, by omega⟩
    obtain ⟨g2, rfl⟩ : ∃ g, fr = g + 1 := ⟨fr - 1, by omega⟩
    obtain ⟨e1, e2, e3⟩ := hf k (by omega)
    rw [kL_Labels_rangeAround_4, rL_Md_sayLabel_9]
    unfold kJ_Labels_rangeAround_27 kJ_Labels_rangeAround_54 kJ_Labels_rangeAround_56 rJ_Md_sayLabel_50 rJ_Md_sayLabel_46 rJ_Md_sayLabel_51 rJ_Md_sayLabel_63
    by_cases hfit : f k ≤ place
    · rcases hv with rfl | ⟨r, r1, rfl, r3⟩
      · have := ih (k + 1) g g2 (nI k) (by omega) (by omega) (by omega) (Or.inr ⟨k, by omega, rfl, hfit⟩)
        simp (disch := omega) only [↓reduceIte, Nat.reduceSub, Nat.reduceAdd, Nat.reduceMul, Nat.sub_zero, Nat.add_zero, Nat.zero_add, Nat.mul_zero, lq_s, br_s, bd_s, bv_s, gd_tt, inB_nI, nI_clamp, sk_s, sk_n, pk_us, pk_un, nI_add, pk_mul, pk_sub, nI_leI, nI_ltI, nI_eq, if_pos, if_neg, nn_neg, nn_ne, nn_ne2, nn_lt, nn_nlt, nn_nle, nn_le, nn_m1, li_0, li_1, li_2, li_3, li_4, li_5, li_9, li_10, li_19, li_20, li_26, li_40, li_60, li_64, li_97, li_48, li_100, li_199, li_200, li_1000, li_8200, li_9999, li_100000, h1, h2, e2, e3, nM_lt0]
        exact this
      · obtain ⟨d1, d2, d3⟩ := hf r r1
        by_cases hlt : f k ≤ f r
        · have := ih (k + 1) g g2 (nI r) (by omega) (by omega) (by omega) (Or.inr ⟨r, r1, rfl, r3⟩)
          simp (disch := omega) only [↓reduceIte, Nat.reduceSub, Nat.reduceAdd, Nat.reduceMul, Nat.sub_zero, Nat.add_zero, Nat.zero_add, Nat.mul_zero, lq_s, br_s, bd_s, bv_s, gd_tt, inB_nI, nI_clamp, sk_s, sk_n, pk_us, pk_un, nI_add, pk_mul, pk_sub, nI_leI, nI_ltI, nI_eq, if_pos, if_neg, nn_neg, nn_ne, nn_ne2, nn_lt, nn_nlt, nn_nle, nn_le, nn_m1, li_0, li_1, li_2, li_3, li_4, li_5, li_9, li_10, li_19, li_20, li_26, li_40, li_60, li_64, li_97, li_48, li_100, li_199, li_200, li_1000, li_8200, li_9999, li_100000, h1, h2, e2, e3, d2, d3]
          exact this
        · have := ih (k + 1) g g2 (nI k) (by omega) (by omega) (by omega) (Or.inr ⟨k, by omega, rfl, hfit⟩)
          simp (disch := omega) only [↓reduceIte, Nat.reduceSub, Nat.reduceAdd, Nat.reduceMul, Nat.sub_zero, Nat.add_zero, Nat.zero_add, Nat.mul_zero, lq_s, br_s, bd_s, bv_s, gd_tt, inB_nI, nI_clamp, sk_s, sk_n, pk_us, pk_un, nI_add, pk_mul, pk_sub, nI_leI, nI_ltI, nI_eq, if_pos, if_neg, nn_neg, nn_ne, nn_ne2, nn_lt, nn_nlt, nn_nle, nn_le, nn_m1, li_0, li_1, li_2, li_3, li_4, li_5, li_9, li_10, li_19, li_20, li_26, li_40, li_60, li_64, li_97, li_48, li_100, li_199, li_200, li_1000, li_8200, li_9999, li_100000, h1, h2, e2, e3, d2, d3]
          exact this
    · have := ih (k + 1) g g2 v (by omega) (by omega) (by omega) hv
      simp (disch := omega) only [↓reduceIte, Nat.reduceSub, Nat.reduceAdd, Nat.reduceMul, Nat.sub_zero, Nat.add_zero, Nat.zero_add, Nat.mul_zero, lq_s, br_s, bd_s, bv_s, gd_tt, inB_nI, nI_clamp, sk_s, sk_n, pk_us, pk_un, nI_add, pk_mul, pk_sub, nI_leI, nI_ltI, nI_eq, if_pos, if_neg, nn_neg, nn_ne, nn_ne2, nn_lt, nn_nlt, nn_nle, nn_le, nn_m1, li_0, li_1, li_2, li_3, li_4, li_5, li_9, li_10, li_19, li_20, li_26, li_40, li_60, li_64, li_97, li_48, li_100, li_199, li_200, li_1000, li_8200, li_9999, li_100000, h1, h2, e2, e3]
      exact this
set_option maxHeartbeats 1000000 in
theorem p_text : lF_text Rel := by
  intro c σ ρ x y hc h
  obtain ⟨σ', ρ', n, pg, kc, kd, pa, ct, ow, a1, a2, a3, a4, a5, w1, w2, w3, w4, w5, w6, w7, w8⟩ := h.walked
  have hR := (Rel.of w1 w2 w3 w4 w5 w6 w7 w8 (fun _ => a3)).next
  have hn := w1.1
  have hl := wO_len w1.lf
  have hFU := FU_ge
  have k1 := a3.1
  have r1 := a4.1
  unfold kM_PT_text kM_Order_pageAt rM_Md_text
  rw [a1, a2, bv_s, bv_s, r1, k1, li_0, li_1]
  rcases w_ix (σ := ρ') (x := x) (a := (wO n pg kc kd).length) (by omega) with ⟨i, hi, rfl, hw⟩ | ⟨hk, hw⟩
  · obtain ⟨q, hq⟩ : ∃ q, (wO n pg kc kd)[i]? = some q := ⟨_, List.getElem?_eq_getElem hi⟩
    have hqn := (a3.2.1 i q hq).1
    have e1 := (a3.2.1 i q hq).2.1
    rw [hw]
    have w5' := w5
    obtain ⟨a, b1, b2, b3, b4, b5⟩ := w5'
    obtain ⟨f, hf⟩ : ∃ f : Nat → Nat, ∀ j, j < a → f j ≤ 199 ∧ σ' 20 j = nI (f j) ∧ ρ' 15 j = nI (f j) := by
      refine ⟨fun j => (σ' 20 j).toNatClampNeg, fun j hj => ?_⟩
      obtain ⟨f, s, t, p1, p2, p3, p4, p5, p6, -⟩ := b4 j hj
      have : (σ' 20 j).toNatClampNeg = f := by rw [p5]; exact nI_clamp (by omega)
      show (σ' 20 j).toNatClampNeg ≤ 199 ∧ σ' 20 j = nI (σ' 20 j).toNatClampNeg ∧ ρ' 15 j = nI (σ' 20 j).toNatClampNeg
      rw [this]
      exact ⟨p1, p5, p6⟩
    obtain ⟨v, v1, v2, v3⟩ := p_range (σ := σ') (ρ := sk ρ' 28 (fun _ => nI 0)) (f := f) (place := i) b1 (by omega) b2 (by simp (disch := omega) only [↓reduceIte, Nat.reduceSub, Nat.reduceAdd, Nat.reduceMul, Nat.sub_zero, Nat.add_zero, Nat.zero_add, Nat.mul_zero, lq_s, br_s, bd_s, bv_s, gd_tt, inB_nI, nI_clamp, sk_s, sk_n, pk_us, pk_un, nI_add, pk_mul, pk_sub, nI_leI, nI_ltI, nI_eq, if_pos, if_neg, nn_neg, nn_ne, nn_ne2, nn_lt, nn_nlt, nn_nle, nn_le, nn_m1, li_0, li_1, li_2, li_3, li_4, li_5, li_9, li_10, li_19, li_20, li_26, li_40, li_60, li_64, li_97, li_48, li_100, li_199, li_200, li_1000, li_8200, li_9999, li_100000]; exact b3) (fun j hj => by simp (disch := omega) only [↓reduceIte, Nat.reduceSub, Nat.reduceAdd, Nat.reduceMul, Nat.sub_zero, Nat.add_zero, Nat.zero_add, Nat.mul_zero, lq_s, br_s, bd_s, bv_s, gd_tt, inB_nI, nI_clamp, sk_s, sk_n, pk_us, pk_un, nI_add, pk_mul, pk_sub, nI_leI, nI_ltI, nI_eq, if_pos, if_neg, nn_neg, nn_ne, nn_ne2, nn_lt, nn_nlt, nn_nle, nn_le, nn_m1, li_0, li_1, li_2, li_3, li_4, li_5, li_9, li_10, li_19, li_20, li_26, li_40, li_60, li_64, li_97, li_48, li_100, li_199, li_200, li_1000, li_8200, li_9999, li_100000]; exact hf j hj) a 0 FU FU (nM 1) (by omega) (by omega) (by omega) (Or.inl rfl)
    have v2' : kM_Labels_rangeAround σ' (nI i) = some v := v2
    have v3' : rM_Md_sayLabel ρ' (nI i) = rJ_Md_sayLabel_70 (sk ρ' 28 (fun _ => nI 0)) (nI i) v := v3
    have hSK : SK (sk σ' 36 (fun _ => nI 0)) [] := ⟨by simp (disch := omega) only [↓reduceIte, Nat.reduceSub, Nat.reduceAdd, Nat.reduceMul, Nat.sub_zero, Nat.add_zero, Nat.zero_add, Nat.mul_zero, lq_s, br_s, bd_s, bv_s, gd_tt, inB_nI, nI_clamp, sk_s, sk_n, pk_us, pk_un, nI_add, pk_mul, pk_sub, nI_leI, nI_ltI, nI_eq, if_pos, if_neg, nn_neg, nn_ne, nn_ne2, nn_lt, nn_nlt, nn_nle, nn_le, nn_m1, li_0, li_1, li_2, li_3, li_4, li_5, li_9, li_10, li_19, li_20, li_26, li_40, li_60, li_64, li_97, li_48, li_100, li_199, li_200, li_1000, li_8200, li_9999, li_100000]; rfl, fun j e hj => by simp at hj⟩
    have hSR : SR (sk ρ' 28 (fun _ => nI 0)) [] := ⟨by simp (disch := omega) only [↓reduceIte, Nat.reduceSub, Nat.reduceAdd, Nat.reduceMul, Nat.sub_zero, Nat.add_zero, Nat.zero_add, Nat.mul_zero, lq_s, br_s, bd_s, bv_s, gd_tt, inB_nI, nI_clamp, sk_s, sk_n, pk_us, pk_un, nI_add, pk_mul, pk_sub, nI_leI, nI_ltI, nI_eq, if_pos, if_neg, nn_neg, nn_ne, nn_ne2, nn_lt, nn_nlt, nn_nle, nn_le, nn_m1, li_0, li_1, li_2, li_3, li_4, li_5, li_9, li_10, li_19, li_20, li_26, li_40, li_60, li_64, li_97, li_48, li_100, li_199, li_200, li_1000, li_8200, li_9999, li_100000]; rfl, fun j e hj => by simp at hj⟩
    have key : ∃ (L : List Nat) (σ2 ρ2 : St), L.length ≤ 60 ∧ kM_Labels_signOf σ' (nI i) y = kJ_Labels_signOf_51 σ2 y ∧ rM_Md_sayLabel ρ' (nI i) = some ρ2 ∧ SK σ2 L ∧ SR ρ2 L ∧ (∀ k, k ≠ 23 → k ≠ 36 → σ2 k = σ' k) ∧ ∀ k, k ≠ 20 → k ≠ 28 → ρ2 k = ρ' k := by
      unfold kM_Labels_signOf
      rw [v2', v3', br_s, lq_s]
      unfold rJ_Md_sayLabel_70 rJ_Md_sayLabel_95
      rcases v1 with rfl | ⟨r, r1', rfl, r3'⟩
      · obtain ⟨L, σ2, ρ2, q1, q2, q3, q4, q5, q6, q7⟩ := p_digits (m := i + 1) (by omega) (by omega) hSK hSR
        have hneg : ¬ nI 0 ≤ nM 1 := by decide
        refine ⟨L, σ2, ρ2, q1, ?_, ?_, q4, q5, fun k h1 h2 => by rw [q6 k h1 h2]; simp (disch := omega) only [↓reduceIte, Nat.reduceSub, Nat.reduceAdd, Nat.reduceMul, Nat.sub_zero, Nat.add_zero, Nat.zero_add, Nat.mul_zero, lq_s, br_s, bd_s, bv_s, gd_tt, inB_nI, nI_clamp, sk_s, sk_n, pk_us, pk_un, nI_add, pk_mul, pk_sub, nI_leI, nI_ltI, nI_eq, if_pos, if_neg, nn_neg, nn_ne, nn_ne2, nn_lt, nn_nlt, nn_nle, nn_le, nn_m1, li_0, li_1, li_2, li_3, li_4, li_5, li_9, li_10, li_19, li_20, li_26, li_40, li_60, li_64, li_97, li_48, li_100, li_199, li_200, li_1000, li_8200, li_9999, li_100000], fun k h1 h2 => by rw [q7 k h1 h2]; simp (disch := omega) only [↓reduceIte, Nat.reduceSub, Nat.reduceAdd, Nat.reduceMul, Nat.sub_zero, Nat.add_zero, Nat.zero_add, Nat.mul_zero, lq_s, br_s, bd_s, bv_s, gd_tt, inB_nI, nI_clamp, sk_s, sk_n, pk_us, pk_un, nI_add, pk_mul, pk_sub, nI_leI, nI_ltI, nI_eq, if_pos, if_neg, nn_neg, nn_ne, nn_ne2, nn_lt, nn_nlt, nn_nle, nn_le, nn_m1, li_0, li_1, li_2, li_3, li_4, li_5, li_9, li_10, li_19, li_20, li_26, li_40, li_60, li_64, li_97, li_48, li_100, li_199, li_200, li_1000, li_8200, li_9999, li_100000]⟩
        · simp (disch := omega) only [↓reduceIte, Nat.reduceSub, Nat.reduceAdd, Nat.reduceMul, Nat.sub_zero, Nat.add_zero, Nat.zero_add, Nat.mul_zero, lq_s, br_s, bd_s, bv_s, gd_tt, inB_nI, nI_clamp, sk_s, sk_n, pk_us, pk_un, nI_add, pk_mul, pk_sub, nI_leI, nI_ltI, nI_eq, if_pos, if_neg, nn_neg, nn_ne, nn_ne2, nn_lt, nn_nlt, nn_nle, nn_le, nn_m1, li_0, li_1, li_2, li_3, li_4, li_5, li_9, li_10, li_19, li_20, li_26, li_40, li_60, li_64, li_97, li_48, li_100, li_199, li_200, li_1000, li_8200, li_9999, li_100000, q2]
        · unfold rJ_Md_sayLabel_110
          simp (disch := omega) only [↓reduceIte, Nat.reduceSub, Nat.reduceAdd, Nat.reduceMul, Nat.sub_zero, Nat.add_zero, Nat.zero_add, Nat.mul_zero, lq_s, br_s, bd_s, bv_s, gd_tt, inB_nI, nI_clamp, sk_s, sk_n, pk_us, pk_un, nI_add, pk_mul, pk_sub, nI_leI, nI_ltI, nI_eq, if_pos, if_neg, nn_neg, nn_ne, nn_ne2, nn_lt, nn_nlt, nn_nle, nn_le, nn_m1, li_0, li_1, li_2, li_3, li_4, li_5, li_9, li_10, li_19, li_20, li_26, li_40, li_60, li_64, li_97, li_48, li_100, li_199, li_200, li_1000, li_8200, li_9999, li_100000, q3]
      · obtain ⟨f', s', t', p1, p2, p3, p4, p5, p6, p7, p8, p9, p10⟩ := b4 r r1'
        have hff : f r = f' := (nI_eq (by have := (hf r r1').1; omega) (by omega)).mp ((hf r r1').2.1.symm.trans p5)
        obtain ⟨L, σ2, ρ2, q1, q2, q3, q4, q5, q6, q7⟩ := p_say (m := t' + i - f') (s := s') (by omega) (by omega) p2 hSK hSR
        refine ⟨L, σ2, ρ2, q1, ?_, ?_, q4, q5, fun k h1 h2 => by rw [q6 k h1 h2]; simp (disch := omega) only [↓reduceIte, Nat.reduceSub, Nat.reduceAdd, Nat.reduceMul, Nat.sub_zero, Nat.add_zero, Nat.zero_add, Nat.mul_zero, lq_s, br_s, bd_s, bv_s, gd_tt, inB_nI, nI_clamp, sk_s, sk_n, pk_us, pk_un, nI_add, pk_mul, pk_sub, nI_leI, nI_ltI, nI_eq, if_pos, if_neg, nn_neg, nn_ne, nn_ne2, nn_lt, nn_nlt, nn_nle, nn_le, nn_m1, li_0, li_1, li_2, li_3, li_4, li_5, li_9, li_10, li_19, li_20, li_26, li_40, li_60, li_64, li_97, li_48, li_100, li_199, li_200, li_1000, li_8200, li_9999, li_100000], fun k h1 h2 => by rw [q7 k h1 h2]; simp (disch := omega) only [↓reduceIte, Nat.reduceSub, Nat.reduceAdd, Nat.reduceMul, Nat.sub_zero, Nat.add_zero, Nat.zero_add, Nat.mul_zero, lq_s, br_s, bd_s, bv_s, gd_tt, inB_nI, nI_clamp, sk_s, sk_n, pk_us, pk_un, nI_add, pk_mul, pk_sub, nI_leI, nI_ltI, nI_eq, if_pos, if_neg, nn_neg, nn_ne, nn_ne2, nn_lt, nn_nlt, nn_nle, nn_le, nn_m1, li_0, li_1, li_2, li_3, li_4, li_5, li_9, li_10, li_19, li_20, li_26, li_40, li_60, li_64, li_97, li_48, li_100, li_199, li_200, li_1000, li_8200, li_9999, li_100000]⟩
        · simp (disch := omega) only [↓reduceIte, Nat.reduceSub, Nat.reduceAdd, Nat.reduceMul, Nat.sub_zero, Nat.add_zero, Nat.zero_add, Nat.mul_zero, lq_s, br_s, bd_s, bv_s, gd_tt, inB_nI, nI_clamp, sk_s, sk_n, pk_us, pk_un, nI_add, pk_mul, pk_sub, nI_leI, nI_ltI, nI_eq, if_pos, if_neg, nn_neg, nn_ne, nn_ne2, nn_lt, nn_nlt, nn_nle, nn_le, nn_m1, li_0, li_1, li_2, li_3, li_4, li_5, li_9, li_10, li_19, li_20, li_26, li_40, li_60, li_64, li_97, li_48, li_100, li_199, li_200, li_1000, li_8200, li_9999, li_100000, p5, p7, p9, q2]
        · simp (disch := omega) only [↓reduceIte, Nat.reduceSub, Nat.reduceAdd, Nat.reduceMul, Nat.sub_zero, Nat.add_zero, Nat.zero_add, Nat.mul_zero, lq_s, br_s, bd_s, bv_s, gd_tt, inB_nI, nI_clamp, sk_s, sk_n, pk_us, pk_un, nI_add, pk_mul, pk_sub, nI_leI, nI_ltI, nI_eq, if_pos, if_neg, nn_neg, nn_ne, nn_ne2, nn_lt, nn_nlt, nn_nle, nn_le, nn_m1, li_0, li_1, li_2, li_3, li_4, li_5, li_9, li_10, li_19, li_20, li_26, li_40, li_60, li_64, li_97, li_48, li_100, li_199, li_200, li_1000, li_8200, li_9999, li_100000, p6, p8, p10, q3]
    obtain ⟨L, σ2, ρ2, q1, q2, q3, q4, q5, q6, q7⟩ := key
    have hR2 : Rel (c + 1) σ2 ρ2 := by
      refine (Rel.of w1 (w2.keep (q6 26 (by decide) (by decide)) (fun k hk => q6 k (by omega) (by omega))) (w3.keep (q7 22 (by decide) (by decide)) (fun k hk => q7 k (by omega) (by omega))) (w4.keep (q6 3 (by decide) (by decide)) (q6 5 (by decide) (by decide))) ?_ ?_ ?_ ?_ (fun _ => ?_)).next
      · exact w5.keep (q6 35 (by decide) (by decide)) (q6 20 (by decide) (by decide)) (q6 21 (by decide) (by decide)) (q6 22 (by decide) (by decide)) (q7 26 (by decide) (by decide)) (q7 15 (by decide) (by decide)) (q7 16 (by decide) (by decide)) (q7 17 (by decide) (by decide))
      · exact w6.keep (q6 37 (by decide) (by decide)) (q6 24 (by decide) (by decide)) (q6 25 (by decide) (by decide)) (q7 27 (by decide) (by decide)) (q7 18 (by decide) (by decide)) (q7 19 (by decide) (by decide))
      · exact w7.keep (q6 18 (by decide) (by decide)) (q6 31 (by decide) (by decide)) (q6 16 (by decide) (by decide)) (q6 17 (by decide) (by decide)) (q7 25 (by decide) (by decide)) (q7 13 (by decide) (by decide)) (q7 14 (by decide) (by decide))
      · obtain ⟨v, g1, g2⟩ := w8
        exact ⟨v, g1, by rw [q6 27 (by decide) (by decide), q6 29 (by decide) (by decide)]; exact g2⟩
      · exact a3.keep (q6 28 (by decide) (by decide)) (q6 9 (by decide) (by decide)) (q6 10 (by decide) (by decide)) (q6 11 (by decide) (by decide)) (q6 12 (by decide) (by decide))
    have s36 := q4.1
    have s28 := q5.1
    unfold kJ_Labels_signOf_51 at q2
    rw [s36, li_0] at q2
    rcases w_ix (σ := ρ2) (x := y) (a := L.length) (by omega) with ⟨k, hk, rfl, hw2⟩ | ⟨hk, hw2⟩
    · obtain ⟨e, he⟩ : ∃ e, L[k]? = some e := ⟨_, List.getElem?_eq_getElem hk⟩
      have u1 := q4.2 k e he
      have u2 := q5.2 k e he
      rw [show nI L.length - nI 1 = nI (L.length - 1) by simp (disch := omega) only [↓reduceIte, Nat.reduceSub, Nat.reduceAdd, Nat.reduceMul, Nat.sub_zero, Nat.add_zero, Nat.zero_add, Nat.mul_zero, lq_s, br_s, bd_s, bv_s, gd_tt, inB_nI, nI_clamp, sk_s, sk_n, pk_us, pk_un, nI_add, pk_mul, pk_sub, nI_leI, nI_ltI, nI_eq, if_pos, if_neg, nn_neg, nn_ne, nn_ne2, nn_lt, nn_nlt, nn_nle, nn_le, nn_m1, li_0, li_1, li_2, li_3, li_4, li_5, li_9, li_10, li_19, li_20, li_26, li_40, li_60, li_64, li_97, li_48, li_100, li_199, li_200, li_1000, li_8200, li_9999, li_100000]] at hw2
      refine ⟨nI e, σ2, ρ2, ?_, ?_, hR2⟩
      · have q2' : kM_Labels_signOf σ' (nI i) (nI k) = some (nI e, σ2) := by rw [q2]; simp (disch := omega) only [↓reduceIte, Nat.reduceSub, Nat.reduceAdd, Nat.reduceMul, Nat.sub_zero, Nat.add_zero, Nat.zero_add, Nat.mul_zero, lq_s, br_s, bd_s, bv_s, gd_tt, inB_nI, nI_clamp, sk_s, sk_n, pk_us, pk_un, nI_add, pk_mul, pk_sub, nI_leI, nI_ltI, nI_eq, if_pos, if_neg, nn_neg, nn_ne, nn_ne2, nn_lt, nn_nlt, nn_nle, nn_le, nn_m1, li_0, li_1, li_2, li_3, li_4, li_5, li_9, li_10, li_19, li_20, li_26, li_40, li_60, li_64, li_97, li_48, li_100, li_199, li_200, li_1000, li_8200, li_9999, li_100000, u1]
        simp (disch := omega) only [↓reduceIte, Nat.reduceSub, Nat.reduceAdd, Nat.reduceMul, Nat.sub_zero, Nat.add_zero, Nat.zero_add, Nat.mul_zero, lq_s, br_s, bd_s, bv_s, gd_tt, inB_nI, nI_clamp, sk_s, sk_n, pk_us, pk_un, nI_add, pk_mul, pk_sub, nI_leI, nI_ltI, nI_eq, if_pos, if_neg, nn_neg, nn_ne, nn_ne2, nn_lt, nn_nlt, nn_nle, nn_le, nn_m1, li_0, li_1, li_2, li_3, li_4, li_5, li_9, li_10, li_19, li_20, li_26, li_40, li_60, li_64, li_97, li_48, li_100, li_199, li_200, li_1000, li_8200, li_9999, li_100000, e1, q2']
      · simp (disch := omega) only [↓reduceIte, Nat.reduceSub, Nat.reduceAdd, Nat.reduceMul, Nat.sub_zero, Nat.add_zero, Nat.zero_add, Nat.mul_zero, lq_s, br_s, bd_s, bv_s, gd_tt, inB_nI, nI_clamp, sk_s, sk_n, pk_us, pk_un, nI_add, pk_mul, pk_sub, nI_leI, nI_ltI, nI_eq, if_pos, if_neg, nn_neg, nn_ne, nn_ne2, nn_lt, nn_nlt, nn_nle, nn_le, nn_m1, li_0, li_1, li_2, li_3, li_4, li_5, li_9, li_10, li_19, li_20, li_26, li_40, li_60, li_64, li_97, li_48, li_100, li_199, li_200, li_1000, li_8200, li_9999, li_100000, q3, s28, hw2, u2]
    · refine ⟨nM 1, σ2, ρ2, ?_, ?_, hR2⟩
      · have q2' : kM_Labels_signOf σ' (nI i) y = some (nM 1, σ2) := by
          rw [q2]
          rcases hk with hk | hk
          · rw [if_pos hk]; rfl
          · rw [if_neg hk.1, if_pos hk.2]; rfl
        simp (disch := omega) only [↓reduceIte, Nat.reduceSub, Nat.reduceAdd, Nat.reduceMul, Nat.sub_zero, Nat.add_zero, Nat.zero_add, Nat.mul_zero, lq_s, br_s, bd_s, bv_s, gd_tt, inB_nI, nI_clamp, sk_s, sk_n, pk_us, pk_un, nI_add, pk_mul, pk_sub, nI_leI, nI_ltI, nI_eq, if_pos, if_neg, nn_neg, nn_ne, nn_ne2, nn_lt, nn_nlt, nn_nle, nn_le, nn_m1, li_0, li_1, li_2, li_3, li_4, li_5, li_9, li_10, li_19, li_20, li_26, li_40, li_60, li_64, li_97, li_48, li_100, li_199, li_200, li_1000, li_8200, li_9999, li_100000, e1, q2']
      · simp (disch := omega) only [↓reduceIte, Nat.reduceSub, Nat.reduceAdd, Nat.reduceMul, Nat.sub_zero, Nat.add_zero, Nat.zero_add, Nat.mul_zero, lq_s, br_s, bd_s, bv_s, gd_tt, inB_nI, nI_clamp, sk_s, sk_n, pk_us, pk_un, nI_add, pk_mul, pk_sub, nI_leI, nI_ltI, nI_eq, if_pos, if_neg, nn_neg, nn_ne, nn_ne2, nn_lt, nn_nlt, nn_nle, nn_le, nn_m1, li_0, li_1, li_2, li_3, li_4, li_5, li_9, li_10, li_19, li_20, li_26, li_40, li_60, li_64, li_97, li_48, li_100, li_199, li_200, li_1000, li_8200, li_9999, li_100000, q3, s28, hw2]
  · rw [hw]
    refine ⟨nM 1, σ', ρ', ?_, by simp (disch := omega) only [↓reduceIte, Nat.reduceSub, Nat.reduceAdd, Nat.reduceMul, Nat.sub_zero, Nat.add_zero, Nat.zero_add, Nat.mul_zero, lq_s, br_s, bd_s, bv_s, gd_tt, inB_nI, nI_clamp, sk_s, sk_n, pk_us, pk_un, nI_add, pk_mul, pk_sub, nI_leI, nI_ltI, nI_eq, if_pos, if_neg, nn_neg, nn_ne, nn_ne2, nn_lt, nn_nlt, nn_nle, nn_le, nn_m1, li_0, li_1, li_2, li_3, li_4, li_5, li_9, li_10, li_19, li_20, li_26, li_40, li_60, li_64, li_97, li_48, li_100, li_199, li_200, li_1000, li_8200, li_9999, li_100000], hR⟩
    rcases hk with hk | hk
    · rw [if_pos hk]; simp (disch := omega) only [↓reduceIte, Nat.reduceSub, Nat.reduceAdd, Nat.reduceMul, Nat.sub_zero, Nat.add_zero, Nat.zero_add, Nat.mul_zero, lq_s, br_s, bd_s, bv_s, gd_tt, inB_nI, nI_clamp, sk_s, sk_n, pk_us, pk_un, nI_add, pk_mul, pk_sub, nI_leI, nI_ltI, nI_eq, if_pos, if_neg, nn_neg, nn_ne, nn_ne2, nn_lt, nn_nlt, nn_nle, nn_le, nn_m1, li_0, li_1, li_2, li_3, li_4, li_5, li_9, li_10, li_19, li_20, li_26, li_40, li_60, li_64, li_97, li_48, li_100, li_199, li_200, li_1000, li_8200, li_9999, li_100000]
    · rw [if_neg hk.1, if_pos hk.2]; simp (disch := omega) only [↓reduceIte, Nat.reduceSub, Nat.reduceAdd, Nat.reduceMul, Nat.sub_zero, Nat.add_zero, Nat.zero_add, Nat.mul_zero, lq_s, br_s, bd_s, bv_s, gd_tt, inB_nI, nI_clamp, sk_s, sk_n, pk_us, pk_un, nI_add, pk_mul, pk_sub, nI_leI, nI_ltI, nI_eq, if_pos, if_neg, nn_neg, nn_ne, nn_ne2, nn_lt, nn_nlt, nn_nle, nn_le, nn_m1, li_0, li_1, li_2, li_3, li_4, li_5, li_9, li_10, li_19, li_20, li_26, li_40, li_60, li_64, li_97, li_48, li_100, li_199, li_200, li_1000, li_8200, li_9999, li_100000]
