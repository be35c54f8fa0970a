/-! all calls -/
theorem p_all : lF Rel := ⟨p_skip, p_node, p_page, p_list, p_inherit, p_of, p_pages, p_at, p_about, p_kid, p_mend, p_told, p_move, p_copy, p_remove, p_label, p_text, p_name, p_look, p_balance, p_count⟩
theorem rel0 : Rel 0 ks0 rs0 := by
  refine ⟨0, fun _ => 0, fun _ => 0, fun _ _ => 0, fun _ => nM 1, fun _ => nI 0, fun _ _ => nM 1, ?_, ?_, ?_, ?_, ?_, ?_, ?_, ?_, ?_⟩
  · exact ⟨by omega, fun i hi => absurd hi (Nat.not_lt_zero _), fun i hi => absurd hi (Nat.not_lt_zero _), fun i k hi => absurd hi (Nat.not_lt_zero _), fun i hi => absurd hi (Nat.not_lt_zero _), fun i hi => absurd hi (Nat.not_lt_zero _), fun h => absurd h (Nat.lt_irrefl _)⟩
  · exact ⟨rfl, fun i hi => absurd hi (Nat.not_lt_zero _), fun i hi => absurd hi (Nat.not_lt_zero _), fun i hi => absurd hi (Nat.not_lt_zero _), fun i hi => absurd hi (Nat.not_lt_zero _), fun i k hi => absurd hi (Nat.not_lt_zero _), fun i k hi => absurd hi (Nat.not_lt_zero _)⟩
  · exact ⟨rfl, fun i hi => absurd hi (Nat.not_lt_zero _), fun i hi => absurd hi (Nat.not_lt_zero _), fun i hi => absurd hi (Nat.not_lt_zero _), fun i hi => absurd hi (Nat.not_lt_zero _), fun i k hi => absurd hi (Nat.not_lt_zero _), fun i k hi => absurd hi (Nat.not_lt_zero _)⟩
  · intro i h1 h2
    refine ⟨rfl, fun k hk => ?_⟩
    show (if 4 * i + k < 800 then (-1 : Int32) else 0) = nM 1
    rw [if_pos (by omega)]
    rfl
  · exact ⟨0, by omega, rfl, rfl, fun j hj => absurd hj (Nat.not_lt_zero _), fun i j hi => absurd hi (Nat.not_lt_zero _)⟩
  · exact ⟨0, by omega, rfl, rfl, fun j hj => absurd hj (Nat.not_lt_zero _), fun i j hi => absurd hi (Nat.not_lt_zero _)⟩
  · exact ⟨⟨0, by omega, rfl, rfl, fun j hj => absurd hj (Nat.not_lt_zero _)⟩, rfl⟩
  · exact ⟨0, by omega, rfl, Or.inl rfl⟩
  · intro z
    have z : nM 1 = nI 0 := z
    exact absurd z (by decide)
