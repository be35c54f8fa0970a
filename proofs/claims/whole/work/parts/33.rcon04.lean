set_option maxHeartbeats 4000000 in
set_option maxRecDepth 100000 in
theorem rB_Md_sayPlace_47 {p : Program} {l : Launch} {e : Env} {s : State} {m : MethodId} {args : Array Value} {below : List Frame} {meth : Method} {c : Code} {D : va_G} {a : Nat → Nat} {cA : Nat → ClassId} {A : Nat → Prop} {g : Nat → Nat} {σ2 : St} (S : CallFix p m c prog_10_method_40_code 6 s args AW R_Md) (hr : meth.sig.returnType = none) (hlk : meth.locks = false) (hK : rKX D cA A g s s.heap) : ∀ (n : Nat) (σ : St) (v1 : Int32) (v2 : Int32) (v5 : Int32) (H : Heap) (locs : List Loc) (ls : Array Slot), rEx D a cA A σ s.heap H locs → lv_has ls 6 [(0, .ref (a 0)), (1, .int v1), (2, .int v2), (5, .int v5)] → rL_Md_sayPlace_47 n σ v1 v2 v5 = some σ2 → W p l e rrm_Md_sayPlace s m args below meth c H locs 0 0 (MQ below (rqv D a cA A g σ2) args s 0 0 A) (F0 m 47 ls []) := by
  intro n
  induction n with
  | zero =>
    intro σ v1 v2 v5 H locs ls E hl hM
    rw [rL_Md_sayPlace_47] at hM
    cases hM
  | succ n ih =>
    intro σ v1 v2 v5 H locs ls E hl hM
    rw [rL_Md_sayPlace_47] at hM
    refine lv_iload S.1 S.2.1 d_Md_sayPlace_47 (lv_at hl 3 rfl) ?_
    refine lv_iload_n S.1 S.2.1 d_Md_sayPlace_49 rfl (lv_at hl 1 rfl) ?_
    refine lv_iconst (v := 5) S.1 S.2.1 d_Md_sayPlace_50 (by decide) ?_
    refine lv_irem S.1 S.2.1 d_Md_sayPlace_51 (by decide) ?_
    refine lv_icmp_ge (tgt := 66) S.1 S.2.1 d_Md_sayPlace_52 (by decide) (fun c1 => ?_) (fun c1 => ?_)
    · have hM := ifP hM c1
      obtain rfl := Option.some.inj hM
      exact rretv S hr hlk hK E d_Md_sayPlace_66
    · have hM := ifN hM c1
      refine lv_aload_n S.1 S.2.1 d_Md_sayPlace_55 rfl (lv_at hl 0 rfl) ?_
      refine lv_iload_n S.1 S.2.1 d_Md_sayPlace_56 rfl (lv_at hl 2 rfl) ?_
      obtain ⟨σ3, h2, hM⟩ := bv_inv hM
      refine rcr_20 (As := [.int v2]) (rest := []) S hK E (rC_Md_say h2) ⟨Nat.le_of_ble_eq_true rfl, Nat.le_of_ble_eq_true rfl⟩ rfl rfl hl.1 (lv_room (Nat.le_of_ble_eq_true rfl)) d_Md_sayPlace_57 (fun H locs E => ?_)
      obtain ⟨y4, ey4⟩ : ∃ z : Int32, z = v5 + 1 := ⟨_, rfl⟩
      have hM := lq_inv hM y4 ey4
      refine lv_iinc (v := y4) (lv' := [(5, .int y4), (0, .ref (a 0)), (1, .int v1), (2, .int v2)]) S.1 S.2.1 d_Md_sayPlace_60 hl (k := 3) rfl (by rw [ey4]; rfl) (by decide) rfl (fun ls hl => ?_)
      refine lv_goto (tgt := 47) S.1 S.2.1 d_Md_sayPlace_63 (by decide) ?_
      exact ih _ _ _ _ _ _ _ E (lv_sub hl [1, 2, 3, 0] rfl) hM
set_option maxHeartbeats 4000000 in
set_option maxRecDepth 100000 in
theorem rB_Md_sayPlace_44 {p : Program} {l : Launch} {e : Env} {s : State} {m : MethodId} {args : Array Value} {below : List Frame} {meth : Method} {c : Code} {D : va_G} {a : Nat → Nat} {cA : Nat → ClassId} {A : Nat → Prop} {g : Nat → Nat} {σ2 : St} (S : CallFix p m c prog_10_method_40_code 6 s args AW R_Md) (hr : meth.sig.returnType = none) (hlk : meth.locks = false) (hK : rKX D cA A g s s.heap) : ∀ (σ : St) (v1 : Int32) (v2 : Int32) (H : Heap) (locs : List Loc) (ls : Array Slot), rEx D a cA A σ s.heap H locs → lv_has ls 6 [(0, .ref (a 0)), (1, .int v1), (2, .int v2)] → rJ_Md_sayPlace_44 σ v1 v2 = some σ2 → W p l e rrm_Md_sayPlace s m args below meth c H locs 0 0 (MQ below (rqv D a cA A g σ2) args s 0 0 A) (F0 m 44 ls []) := by
  intro σ v1 v2 H locs ls E hl hM
  unfold rJ_Md_sayPlace_44 at hM
  refine lv_iconst (v := 0) S.1 S.2.1 d_Md_sayPlace_44 (by decide) ?_
  refine lv_istore (lv' := [(5, .int 0), (0, .ref (a 0)), (1, .int v1), (2, .int v2)]) S.1 S.2.1 d_Md_sayPlace_45 hl (by decide) rfl (fun ls hl => ?_)
  exact rB_Md_sayPlace_47 S hr hlk hK _ _ _ _ _ _ _ _ E (lv_sub hl [1, 2, 3, 0] rfl) hM
set_option maxHeartbeats 4000000 in
set_option maxRecDepth 100000 in
theorem rC_Md_sayPlace {l : Launch} {D : va_G} {a : Nat → Nat} {cA : Nat → ClassId} {A : Nat → Prop} {g : Nat → Nat} {σ σ2 : St} {x1 : Int32} {x2 : Int32} {x3 : Int32} {x4 : Int32} (hM : rM_Md_sayPlace σ x1 x2 x3 x4 = some σ2) : Met l y_Md_sayPlace (.code y_Md_sayPlace prog_10_method_40_code 6 none :: AW) rrm_Md_sayPlace (va_Pc [.ref (a 0), .int x1, .int x2, .int x3, .int x4] (rCP D a cA A g σ)) (rqv D a cA A g σ2) 0 0 A := by
  refine rmet (nL := 6) (by decide) (Nat.le_of_ble_eq_true rfl) (fun S hr hlk hK E ls hl => ?_)
  have hl : lv_has ls 6 [(0, .ref (a 0)), (1, .int x1), (2, .int x2), (3, .int x3), (4, .int x4)] := hl
  unfold rM_Md_sayPlace at hM
  refine lv_iload_n S.1 S.2.1 d_Md_sayPlace_0 rfl (lv_at hl 1 rfl) ?_
  refine lv_bipush (v := 9) S.1 S.2.1 d_Md_sayPlace_1 (by decide) ?_
  refine lv_icmp_ne (tgt := 18) S.1 S.2.1 d_Md_sayPlace_3 (by decide) (fun c1 => ?_) (fun c1 => ?_)
  · have hM := ifN hM c1
    refine lv_iload_n S.1 S.2.1 d_Md_sayPlace_18 rfl (lv_at hl 1 rfl) ?_
    refine lv_iconst (v := 4) S.1 S.2.1 d_Md_sayPlace_19 (by decide) ?_
    refine lv_icmp_ne (tgt := 34) S.1 S.2.1 d_Md_sayPlace_20 (by decide) (fun c2 => ?_) (fun c2 => ?_)
    · have hM := ifN hM c2
      refine lv_iload_n S.1 S.2.1 d_Md_sayPlace_34 rfl (lv_at hl 1 rfl) ?_
      refine lv_iconst (v := 4) S.1 S.2.1 d_Md_sayPlace_35 (by decide) ?_
      refine lv_icmp_le (tgt := 44) S.1 S.2.1 d_Md_sayPlace_36 (by decide) (fun c3 => ?_) (fun c3 => ?_)
      · have hM := ifP hM c3
        exact rB_Md_sayPlace_44 S hr hlk hK _ _ _ _ _ _ E (lv_sub hl [0, 1, 2] rfl) hM
      · have hM := ifN hM c3
        refine lv_aload_n S.1 S.2.1 d_Md_sayPlace_39 rfl (lv_at hl 0 rfl) ?_
        refine lv_iload_n S.1 S.2.1 d_Md_sayPlace_40 rfl (lv_at hl 3 rfl) ?_
        obtain ⟨σ5, h4, hM⟩ := bv_inv hM
        refine rcr_20 (As := [.int x3]) (rest := []) S hK E (rC_Md_say h4) ⟨Nat.le_of_ble_eq_true rfl, Nat.le_of_ble_eq_true rfl⟩ rfl rfl hl.1 (lv_room (Nat.le_of_ble_eq_true rfl)) d_Md_sayPlace_41 (fun H locs E => ?_)
        exact rB_Md_sayPlace_44 S hr hlk hK _ _ _ _ _ _ E (lv_sub hl [0, 1, 2] rfl) hM
    · have hM := ifP hM c2
      refine lv_aload_n S.1 S.2.1 d_Md_sayPlace_23 rfl (lv_at hl 0 rfl) ?_
      refine lv_iload_n S.1 S.2.1 d_Md_sayPlace_24 rfl (lv_at hl 2 rfl) ?_
      obtain ⟨σ7, h6, hM⟩ := bv_inv hM
      refine rcr_20 (As := [.int x2]) (rest := []) S hK E (rC_Md_say h6) ⟨Nat.le_of_ble_eq_true rfl, Nat.le_of_ble_eq_true rfl⟩ rfl rfl hl.1 (lv_room (Nat.le_of_ble_eq_true rfl)) d_Md_sayPlace_25 (fun H locs E => ?_)
      refine lv_aload_n S.1 S.2.1 d_Md_sayPlace_28 rfl (lv_at hl 0 rfl) ?_
      refine lv_iload_n S.1 S.2.1 d_Md_sayPlace_29 rfl (lv_at hl 3 rfl) ?_
      obtain ⟨σ9, h8, hM⟩ := bv_inv hM
      refine rcr_20 (As := [.int x3]) (rest := []) S hK E (rC_Md_say h8) ⟨Nat.le_of_ble_eq_true rfl, Nat.le_of_ble_eq_true rfl⟩ rfl rfl hl.1 (lv_room (Nat.le_of_ble_eq_true rfl)) d_Md_sayPlace_30 (fun H locs E => ?_)
      obtain rfl := Option.some.inj hM
      exact rretv S hr hlk hK E d_Md_sayPlace_33
  · have hM := ifP hM c1
    refine lv_aload_n S.1 S.2.1 d_Md_sayPlace_6 rfl (lv_at hl 0 rfl) ?_
    refine lv_iload_n S.1 S.2.1 d_Md_sayPlace_7 rfl (lv_at hl 2 rfl) ?_
    obtain ⟨σ11, h10, hM⟩ := bv_inv hM
    refine rcr_20 (As := [.int x2]) (rest := []) S hK E (rC_Md_say h10) ⟨Nat.le_of_ble_eq_true rfl, Nat.le_of_ble_eq_true rfl⟩ rfl rfl hl.1 (lv_room (Nat.le_of_ble_eq_true rfl)) d_Md_sayPlace_8 (fun H locs E => ?_)
    refine lv_aload_n S.1 S.2.1 d_Md_sayPlace_11 rfl (lv_at hl 0 rfl) ?_
    refine lv_iload S.1 S.2.1 d_Md_sayPlace_12 (lv_at hl 4 rfl) ?_
    obtain ⟨σ13, h12, hM⟩ := bv_inv hM
    refine rcr_20 (As := [.int x4]) (rest := []) S hK E (rC_Md_say h12) ⟨Nat.le_of_ble_eq_true rfl, Nat.le_of_ble_eq_true rfl⟩ rfl rfl hl.1 (lv_room (Nat.le_of_ble_eq_true rfl)) d_Md_sayPlace_14 (fun H locs E => ?_)
    obtain rfl := Option.some.inj hM
    exact rretv S hr hlk hK E d_Md_sayPlace_17
set_option maxHeartbeats 4000000 in
set_option maxRecDepth 100000 in
theorem rB_Md_sayRoman_23 {p : Program} {l : Launch} {e : Env} {s : State} {m : MethodId} {args : Array Value} {below : List Frame} {meth : Method} {c : Code} {D : va_G} {a : Nat → Nat} {cA : Nat → ClassId} {A : Nat → Prop} {g : Nat → Nat} {σ2 : St} (S : CallFix p m c prog_10_method_41_code 3 s args AW R_Md) (hr : meth.sig.returnType = none) (hlk : meth.locks = false) (hK : rKX D cA A g s s.heap) : ∀ (σ : St) (v1 : Int32) (H : Heap) (locs : List Loc) (ls : Array Slot), rEx D a cA A σ s.heap H locs → lv_has ls 3 [(0, .ref (a 0)), (1, .int v1)] → rJ_Md_sayRoman_23 σ v1 = some σ2 → W p l e rrm_Md_sayRoman s m args below meth c H locs 0 0 (MQ below (rqv D a cA A g σ2) args s 0 0 A) (F0 m 23 ls []) := by
  intro σ v1 H locs ls E hl hM
  unfold rJ_Md_sayRoman_23 at hM
  refine lv_aload_n S.1 S.2.1 d_Md_sayRoman_23 rfl (lv_at hl 0 rfl) ?_
  refine lv_iload_n S.1 S.2.1 d_Md_sayRoman_24 rfl (lv_at hl 1 rfl) ?_
  refine lv_bipush (v := 100) S.1 S.2.1 d_Md_sayRoman_25 (by decide) ?_
  refine lv_idiv S.1 S.2.1 d_Md_sayRoman_27 (by decide) ?_
  refine lv_bipush (v := 10) S.1 S.2.1 d_Md_sayRoman_28 (by decide) ?_
  refine lv_irem S.1 S.2.1 d_Md_sayRoman_30 (by decide) ?_
  refine lv_bipush (v := 99) S.1 S.2.1 d_Md_sayRoman_31 (by decide) ?_
  refine lv_bipush (v := 100) S.1 S.2.1 d_Md_sayRoman_33 (by decide) ?_
  refine lv_bipush (v := 109) S.1 S.2.1 d_Md_sayRoman_35 (by decide) ?_
  obtain ⟨σ2, h1, hM⟩ := bv_inv hM
  refine rcr_21 (As := [.int ((v1 / 100) - (v1 / 100) / 10 * 10), .int 99, .int 100, .int 109]) (rest := []) S hK E (rC_Md_sayPlace h1) ⟨Nat.le_of_ble_eq_true rfl, Nat.le_of_ble_eq_true rfl⟩ rfl rfl hl.1 (lv_room (Nat.le_of_ble_eq_true rfl)) d_Md_sayRoman_37 (fun H locs E => ?_)
  refine lv_aload_n S.1 S.2.1 d_Md_sayRoman_40 rfl (lv_at hl 0 rfl) ?_
  refine lv_iload_n S.1 S.2.1 d_Md_sayRoman_41 rfl (lv_at hl 1 rfl) ?_
  refine lv_bipush (v := 10) S.1 S.2.1 d_Md_sayRoman_42 (by decide) ?_
  refine lv_idiv S.1 S.2.1 d_Md_sayRoman_44 (by decide) ?_
  refine lv_bipush (v := 10) S.1 S.2.1 d_Md_sayRoman_45 (by decide) ?_
  refine lv_irem S.1 S.2.1 d_Md_sayRoman_47 (by decide) ?_
  refine lv_bipush (v := 120) S.1 S.2.1 d_Md_sayRoman_48 (by decide) ?_
  refine lv_bipush (v := 108) S.1 S.2.1 d_Md_sayRoman_50 (by decide) ?_
  refine lv_bipush (v := 99) S.1 S.2.1 d_Md_sayRoman_52 (by decide) ?_
  obtain ⟨σ4, h3, hM⟩ := bv_inv hM
  refine rcr_21 (As := [.int ((v1 / 10) - (v1 / 10) / 10 * 10), .int 120, .int 108, .int 99]) (rest := []) S hK E (rC_Md_sayPlace h3) ⟨Nat.le_of_ble_eq_true rfl, Nat.le_of_ble_eq_true rfl⟩ rfl rfl hl.1 (lv_room (Nat.le_of_ble_eq_true rfl)) d_Md_sayRoman_54 (fun H locs E => ?_)
  refine lv_aload_n S.1 S.2.1 d_Md_sayRoman_57 rfl (lv_at hl 0 rfl) ?_
  refine lv_iload_n S.1 S.2.1 d_Md_sayRoman_58 rfl (lv_at hl 1 rfl) ?_
  refine lv_bipush (v := 10) S.1 S.2.1 d_Md_sayRoman_59 (by decide) ?_
  refine lv_irem S.1 S.2.1 d_Md_sayRoman_61 (by decide) ?_
  refine lv_bipush (v := 105) S.1 S.2.1 d_Md_sayRoman_62 (by decide) ?_
  refine lv_bipush (v := 118) S.1 S.2.1 d_Md_sayRoman_64 (by decide) ?_
  refine lv_bipush (v := 120) S.1 S.2.1 d_Md_sayRoman_66 (by decide) ?_
  obtain ⟨σ6, h5, hM⟩ := bv_inv hM
  refine rcr_21 (As := [.int (v1 - v1 / 10 * 10), .int 105, .int 118, .int 120]) (rest := []) S hK E (rC_Md_sayPlace h5) ⟨Nat.le_of_ble_eq_true rfl, Nat.le_of_ble_eq_true rfl⟩ rfl rfl hl.1 (lv_room (Nat.le_of_ble_eq_true rfl)) d_Md_sayRoman_68 (fun H locs E => ?_)
  obtain rfl := Option.some.inj hM
  exact rretv S hr hlk hK E d_Md_sayRoman_71
set_option maxHeartbeats 4000000 in
set_option maxRecDepth 100000 in
theorem rB_Md_sayRoman_2 {p : Program} {l : Launch} {e : Env} {s : State} {m : MethodId} {args : Array Value} {below : List Frame} {meth : Method} {c : Code} {D : va_G} {a : Nat → Nat} {cA : Nat → ClassId} {A : Nat → Prop} {g : Nat → Nat} {σ2 : St} (S : CallFix p m c prog_10_method_41_code 3 s args AW R_Md) (hr : meth.sig.returnType = none) (hlk : meth.locks = false) (hK : rKX D cA A g s s.heap) : ∀ (n : Nat) (σ : St) (v1 : Int32) (v2 : Int32) (H : Heap) (locs : List Loc) (ls : Array Slot), rEx D a cA A σ s.heap H locs → lv_has ls 3 [(0, .ref (a 0)), (1, .int v1), (2, .int v2)] → rL_Md_sayRoman_2 n σ v1 v2 = some σ2 → W p l e rrm_Md_sayRoman s m args below meth c H locs 0 0 (MQ below (rqv D a cA A g σ2) args s 0 0 A) (F0 m 2 ls []) := by
  intro n
  induction n with
  | zero =>
    intro σ v1 v2 H locs ls E hl hM
    rw [rL_Md_sayRoman_2] at hM
    cases hM
  | succ n ih =>
    intro σ v1 v2 H locs ls E hl hM
    rw [rL_Md_sayRoman_2] at hM
    refine lv_iload_n S.1 S.2.1 d_Md_sayRoman_2 rfl (lv_at hl 2 rfl) ?_
    refine lv_iload_n S.1 S.2.1 d_Md_sayRoman_3 rfl (lv_at hl 1 rfl) ?_
    refine lv_sipush (v := 1000) S.1 S.2.1 d_Md_sayRoman_4 (by decide) ?_
    refine lv_idiv S.1 S.2.1 d_Md_sayRoman_7 (by decide) ?_
    refine lv_icmp_ge (tgt := 23) S.1 S.2.1 d_Md_sayRoman_8 (by decide) (fun c1 => ?_) (fun c1 => ?_)
    · have hM := ifP hM c1
      exact rB_Md_sayRoman_23 S hr hlk hK _ _ _ _ _ E (lv_sub hl [0, 1] rfl) hM
    · have hM := ifN hM c1
      refine lv_aload_n S.1 S.2.1 d_Md_sayRoman_11 rfl (lv_at hl 0 rfl) ?_
      refine lv_bipush (v := 109) S.1 S.2.1 d_Md_sayRoman_12 (by decide) ?_
      obtain ⟨σ3, h2, hM⟩ := bv_inv hM
      refine rcr_20 (As := [.int 109]) (rest := []) S hK E (rC_Md_say h2) ⟨Nat.le_of_ble_eq_true rfl, Nat.le_of_ble_eq_true rfl⟩ rfl rfl hl.1 (lv_room (Nat.le_of_ble_eq_true rfl)) d_Md_sayRoman_14 (fun H locs E => ?_)
      obtain ⟨y4, ey4⟩ : ∃ z : Int32, z = v2 + 1 := ⟨_, rfl⟩
      have hM := lq_inv hM y4 ey4
      refine lv_iinc (v := y4) (lv' := [(2, .int y4), (0, .ref (a 0)), (1, .int v1)]) S.1 S.2.1 d_Md_sayRoman_17 hl (k := 2) rfl (by rw [ey4]; rfl) (by decide) rfl (fun ls hl => ?_)
      refine lv_goto (tgt := 2) S.1 S.2.1 d_Md_sayRoman_20 (by decide) ?_
      exact ih _ _ _ _ _ _ E (lv_sub hl [1, 2, 0] rfl) hM
set_option maxHeartbeats 4000000 in
set_option maxRecDepth 100000 in
theorem rC_Md_sayRoman {l : Launch} {D : va_G} {a : Nat → Nat} {cA : Nat → ClassId} {A : Nat → Prop} {g : Nat → Nat} {σ σ2 : St} {x1 : Int32} (hM : rM_Md_sayRoman σ x1 = some σ2) : Met l y_Md_sayRoman (.code y_Md_sayRoman prog_10_method_41_code 3 none :: AW) rrm_Md_sayRoman (va_Pc [.ref (a 0), .int x1] (rCP D a cA A g σ)) (rqv D a cA A g σ2) 0 0 A := by
  refine rmet (nL := 3) (by decide) (Nat.le_of_ble_eq_true rfl) (fun S hr hlk hK E ls hl => ?_)
  have hl : lv_has ls 3 [(0, .ref (a 0)), (1, .int x1)] := hl
  unfold rM_Md_sayRoman at hM
  refine lv_iconst (v := 0) S.1 S.2.1 d_Md_sayRoman_0 (by decide) ?_
  refine lv_istore_n (lv' := [(2, .int 0), (0, .ref (a 0)), (1, .int x1)]) S.1 S.2.1 d_Md_sayRoman_1 rfl hl (by decide) rfl (fun ls hl => ?_)
  exact rB_Md_sayRoman_2 S hr hlk hK _ _ _ _ _ _ _ E (lv_sub hl [1, 2, 0] rfl) hM
set_option maxHeartbeats 4000000 in
set_option maxRecDepth 100000 in
theorem rB_Md_sayLabel_63 {p : Program} {l : Launch} {e : Env} {s : State} {m : MethodId} {args : Array Value} {below : List Frame} {meth : Method} {c : Code} {D : va_G} {a : Nat → Nat} {cA : Nat → ClassId} {A : Nat → Prop} {g : Nat → Nat} {σ2 : St} (S : CallFix p m c prog_10_method_42_code 6 s args AW R_Md) (hr : meth.sig.returnType = none) (hlk : meth.locks = false) (hK : rKX D cA A g s s.heap) {k9 : St → Int32 → Int32 → Int32 → Option (St)} (hk9 : ∀ (σ : St) (v1 : Int32) (v2 : Int32) (v3 : Int32) (H : Heap) (locs : List Loc) (ls : Array Slot), rEx D a cA A σ s.heap H locs → lv_has ls 6 [(0, .ref (a 0)), (1, .int v1), (2, .int v2), (3, .int v3)] → k9 σ v1 v2 v3 = some σ2 → W p l e rrm_Md_sayLabel s m args below meth c H locs 0 0 (MQ below (rqv D a cA A g σ2) args s 0 0 A) (F0 m 9 ls [])) : ∀ (σ : St) (v1 : Int32) (v3 : Int32) (t0 : Int32) (H : Heap) (locs : List Loc) (ls : Array Slot), rEx D a cA A σ s.heap H locs → lv_has ls 6 [(0, .ref (a 0)), (1, .int v1), (3, .int v3)] → rJ_Md_sayLabel_63 k9 σ v1 v3 t0 = some σ2 → W p l e rrm_Md_sayLabel s m args below meth c H locs 0 0 (MQ below (rqv D a cA A g σ2) args s 0 0 A) (F0 m 63 ls [.int t0]) := by
  intro σ v1 v3 t0 H locs ls E hl hM
  unfold rJ_Md_sayLabel_63 at hM
  refine lv_istore_n (lv' := [(2, .int t0), (0, .ref (a 0)), (1, .int v1), (3, .int v3)]) S.1 S.2.1 d_Md_sayLabel_63 rfl hl (by decide) rfl (fun ls hl => ?_)
  obtain ⟨y1, ey1⟩ : ∃ z : Int32, z = v3 + 1 := ⟨_, rfl⟩
  have hM := lq_inv hM y1 ey1
  refine lv_iinc (v := y1) (lv' := [(3, .int y1), (2, .int t0), (0, .ref (a 0)), (1, .int v1)]) S.1 S.2.1 d_Md_sayLabel_64 hl (k := 3) rfl (by rw [ey1]; rfl) (by decide) rfl (fun ls hl => ?_)
  refine lv_goto (tgt := 9) S.1 S.2.1 d_Md_sayLabel_67 (by decide) ?_
  exact hk9 _ _ _ _ _ _ _ E (lv_sub hl [2, 3, 1, 0] rfl) hM
set_option maxHeartbeats 4000000 in
set_option maxRecDepth 100000 in
theorem rB_Md_sayLabel_51 {p : Program} {l : Launch} {e : Env} {s : State} {m : MethodId} {args : Array Value} {below : List Frame} {meth : Method} {c : Code} {D : va_G} {a : Nat → Nat} {cA : Nat → ClassId} {A : Nat → Prop} {g : Nat → Nat} {σ2 : St} (S : CallFix p m c prog_10_method_42_code 6 s args AW R_Md) (hr : meth.sig.returnType = none) (hlk : meth.locks = false) (hK : rKX D cA A g s s.heap) {k9 : St → Int32 → Int32 → Int32 → Option (St)} (hk9 : ∀ (σ : St) (v1 : Int32) (v2 : Int32) (v3 : Int32) (H : Heap) (locs : List Loc) (ls : Array Slot), rEx D a cA A σ s.heap H locs → lv_has ls 6 [(0, .ref (a 0)), (1, .int v1), (2, .int v2), (3, .int v3)] → k9 σ v1 v2 v3 = some σ2 → W p l e rrm_Md_sayLabel s m args below meth c H locs 0 0 (MQ below (rqv D a cA A g σ2) args s 0 0 A) (F0 m 9 ls [])) : ∀ (σ : St) (v1 : Int32) (v2 : Int32) (v3 : Int32) (t0 : Int32) (H : Heap) (locs : List Loc) (ls : Array Slot), rEx D a cA A σ s.heap H locs → lv_has ls 6 [(0, .ref (a 0)), (1, .int v1), (2, .int v2), (3, .int v3)] → rJ_Md_sayLabel_51 k9 σ v1 v2 v3 t0 = some σ2 → W p l e rrm_Md_sayLabel s m args below meth c H locs 0 0 (MQ below (rqv D a cA A g σ2) args s 0 0 A) (F0 m 51 ls [.int t0]) := by
  intro σ v1 v2 v3 t0 H locs ls E hl hM
  unfold rJ_Md_sayLabel_51 at hM
  refine lv_istore (lv' := [(4, .int t0), (0, .ref (a 0)), (1, .int v1), (2, .int v2), (3, .int v3)]) S.1 S.2.1 d_Md_sayLabel_51 hl (by decide) rfl (fun ls hl => ?_)
  refine lv_iload S.1 S.2.1 d_Md_sayLabel_53 (lv_at hl 0 rfl) ?_
  refine lv_if_eq (tgt := 62) S.1 S.2.1 d_Md_sayLabel_55 (by decide) (fun c1 => ?_) (fun c1 => ?_)
  · have hM := ifP hM c1
    refine lv_iload_n S.1 S.2.1 d_Md_sayLabel_62 rfl (lv_at hl 3 rfl) ?_
    exact rB_Md_sayLabel_63 S hr hlk hK hk9 _ _ _ _ _ _ _ E (lv_sub hl [1, 2, 4] rfl) hM
  · have hM := ifN hM c1
    refine lv_iload_n S.1 S.2.1 d_Md_sayLabel_58 rfl (lv_at hl 4 rfl) ?_
    refine lv_goto (tgt := 63) S.1 S.2.1 d_Md_sayLabel_59 (by decide) ?_
    exact rB_Md_sayLabel_63 S hr hlk hK hk9 _ _ _ _ _ _ _ E (lv_sub hl [1, 2, 4] rfl) hM
set_option maxHeartbeats 4000000 in
set_option maxRecDepth 100000 in
theorem rB_Md_sayLabel_46 {p : Program} {l : Launch} {e : Env} {s : State} {m : MethodId} {args : Array Value} {below : List Frame} {meth : Method} {c : Code} {D : va_G} {a : Nat → Nat} {cA : Nat → ClassId} {A : Nat → Prop} {g : Nat → Nat} {σ2 : St} (S : CallFix p m c prog_10_method_42_code 6 s args AW R_Md) (hr : meth.sig.returnType = none) (hlk : meth.locks = false) (hK : rKX D cA A g s s.heap) {k9 : St → Int32 → Int32 → Int32 → Option (St)} (hk9 : ∀ (σ : St) (v1 : Int32) (v2 : Int32) (v3 : Int32) (H : Heap) (locs : List Loc) (ls : Array Slot), rEx D a cA A σ s.heap H locs → lv_has ls 6 [(0, .ref (a 0)), (1, .int v1), (2, .int v2), (3, .int v3)] → k9 σ v1 v2 v3 = some σ2 → W p l e rrm_Md_sayLabel s m args below meth c H locs 0 0 (MQ below (rqv D a cA A g σ2) args s 0 0 A) (F0 m 9 ls [])) : ∀ (σ : St) (v1 : Int32) (v2 : Int32) (v3 : Int32) (H : Heap) (locs : List Loc) (ls : Array Slot), rEx D a cA A σ s.heap H locs → lv_has ls 6 [(0, .ref (a 0)), (1, .int v1), (2, .int v2), (3, .int v3)] → rJ_Md_sayLabel_46 k9 σ v1 v2 v3 = some σ2 → W p l e rrm_Md_sayLabel s m args below meth c H locs 0 0 (MQ below (rqv D a cA A g σ2) args s 0 0 A) (F0 m 46 ls []) := by
  intro σ v1 v2 v3 H locs ls E hl hM
  unfold rJ_Md_sayLabel_46 at hM
  refine lv_iconst (v := 1) S.1 S.2.1 d_Md_sayLabel_46 (by decide) ?_
  refine lv_goto (tgt := 51) S.1 S.2.1 d_Md_sayLabel_47 (by decide) ?_
  exact rB_Md_sayLabel_51 S hr hlk hK hk9 _ _ _ _ _ _ _ _ E (lv_sub hl [0, 1, 2, 3] rfl) hM
set_option maxHeartbeats 4000000 in
set_option maxRecDepth 100000 in
theorem rB_Md_sayLabel_50 {p : Program} {l : Launch} {e : Env} {s : State} {m : MethodId} {args : Array Value} {below : List Frame} {meth : Method} {c : Code} {D : va_G} {a : Nat → Nat} {cA : Nat → ClassId} {A : Nat → Prop} {g : Nat → Nat} {σ2 : St} (S : CallFix p m c prog_10_method_42_code 6 s args AW R_Md) (hr : meth.sig.returnType = none) (hlk : meth.locks = false) (hK : rKX D cA A g s s.heap) {k9 : St → Int32 → Int32 → Int32 → Option (St)} (hk9 : ∀ (σ : St) (v1 : Int32) (v2 : Int32) (v3 : Int32) (H : Heap) (locs : List Loc) (ls : Array Slot), rEx D a cA A σ s.heap H locs → lv_has ls 6 [(0, .ref (a 0)), (1, .int v1), (2, .int v2), (3, .int v3)] → k9 σ v1 v2 v3 = some σ2 → W p l e rrm_Md_sayLabel s m args below meth c H locs 0 0 (MQ below (rqv D a cA A g σ2) args s 0 0 A) (F0 m 9 ls [])) : ∀ (σ : St) (v1 : Int32) (v2 : Int32) (v3 : Int32) (H : Heap) (locs : List Loc) (ls : Array Slot), rEx D a cA A σ s.heap H locs → lv_has ls 6 [(0, .ref (a 0)), (1, .int v1), (2, .int v2), (3, .int v3)] → rJ_Md_sayLabel_50 k9 σ v1 v2 v3 = some σ2 → W p l e rrm_Md_sayLabel s m args below meth c H locs 0 0 (MQ below (rqv D a cA A g σ2) args s 0 0 A) (F0 m 50 ls []) := by
  intro σ v1 v2 v3 H locs ls E hl hM
  unfold rJ_Md_sayLabel_50 at hM
  refine lv_iconst (v := 0) S.1 S.2.1 d_Md_sayLabel_50 (by decide) ?_
  exact rB_Md_sayLabel_51 S hr hlk hK hk9 _ _ _ _ _ _ _ _ E (lv_sub hl [0, 1, 2, 3] rfl) hM
set_option maxHeartbeats 4000000 in
set_option maxRecDepth 100000 in
theorem rB_Md_sayLabel_142 {p : Program} {l : Launch} {e : Env} {s : State} {m : MethodId} {args : Array Value} {below : List Frame} {meth : Method} {c : Code} {D : va_G} {a : Nat → Nat} {cA : Nat → ClassId} {A : Nat → Prop} {g : Nat → Nat} {σ2 : St} (S : CallFix p m c prog_10_method_42_code 6 s args AW R_Md) (hr : meth.sig.returnType = none) (hlk : meth.locks = false) (hK : rKX D cA A g s s.heap) : ∀ (n : Nat) (σ : St) (v3 : Int32) (v5 : Int32) (H : Heap) (locs : List Loc) (ls : Array Slot), rEx D a cA A σ s.heap H locs → lv_has ls 6 [(0, .ref (a 0)), (3, .int v3), (5, .int v5)] → rL_Md_sayLabel_142 n σ v3 v5 = some σ2 → W p l e rrm_Md_sayLabel s m args below meth c H locs 0 0 (MQ below (rqv D a cA A g σ2) args s 0 0 A) (F0 m 142 ls []) := by
  intro n
  induction n with
  | zero =>
    intro σ v3 v5 H locs ls E hl hM
    rw [rL_Md_sayLabel_142] at hM
    cases hM
  | succ n ih =>
    intro σ v3 v5 H locs ls E hl hM
    rw [rL_Md_sayLabel_142] at hM
    refine lv_iload S.1 S.2.1 d_Md_sayLabel_142 (lv_at hl 2 rfl) ?_
    refine lv_iload_n S.1 S.2.1 d_Md_sayLabel_144 rfl (lv_at hl 1 rfl) ?_
    refine lv_iconst (v := 1) S.1 S.2.1 d_Md_sayLabel_145 (by decide) ?_
    refine lv_isub S.1 S.2.1 d_Md_sayLabel_146 ?_
    refine lv_bipush (v := 26) S.1 S.2.1 d_Md_sayLabel_147 (by decide) ?_
    refine lv_idiv S.1 S.2.1 d_Md_sayLabel_149 (by decide) ?_
    refine lv_icmp_gt (tgt := 172) S.1 S.2.1 d_Md_sayLabel_150 (by decide) (fun c1 => ?_) (fun c1 => ?_)
    · have hM := ifP hM c1
      obtain rfl := Option.some.inj hM
      exact rretv S hr hlk hK E d_Md_sayLabel_172
    · have hM := ifN hM c1
      refine lv_aload_n S.1 S.2.1 d_Md_sayLabel_153 rfl (lv_at hl 0 rfl) ?_
      refine lv_bipush (v := 97) S.1 S.2.1 d_Md_sayLabel_154 (by decide) ?_
      refine lv_iload_n S.1 S.2.1 d_Md_sayLabel_156 rfl (lv_at hl 1 rfl) ?_
      refine lv_iconst (v := 1) S.1 S.2.1 d_Md_sayLabel_157 (by decide) ?_
      refine lv_isub S.1 S.2.1 d_Md_sayLabel_158 ?_
      refine lv_bipush (v := 26) S.1 S.2.1 d_Md_sayLabel_159 (by decide) ?_
      refine lv_irem S.1 S.2.1 d_Md_sayLabel_161 (by decide) ?_
      refine lv_iadd S.1 S.2.1 d_Md_sayLabel_162 ?_
      obtain ⟨σ3, h2, hM⟩ := bv_inv hM
      refine rcr_20 (As := [.int (97 + ((v3 - 1) - (v3 - 1) / 26 * 26))]) (rest := []) S hK E (rC_Md_say h2) ⟨Nat.le_of_ble_eq_true rfl, Nat.le_of_ble_eq_true rfl⟩ rfl rfl hl.1 (lv_room (Nat.le_of_ble_eq_true rfl)) d_Md_sayLabel_163 (fun H locs E => ?_)
      obtain ⟨y4, ey4⟩ : ∃ z : Int32, z = v5 + 1 := ⟨_, rfl⟩
      have hM := lq_inv hM y4 ey4
      refine lv_iinc (v := y4) (lv' := [(5, .int y4), (0, .ref (a 0)), (3, .int v3)]) S.1 S.2.1 d_Md_sayLabel_166 hl (k := 2) rfl (by rw [ey4]; rfl) (by decide) rfl (fun ls hl => ?_)
      refine lv_goto (tgt := 142) S.1 S.2.1 d_Md_sayLabel_169 (by decide) ?_
      exact ih _ _ _ _ _ _ E (lv_sub hl [1, 2, 0] rfl) hM
set_option maxHeartbeats 4000000 in
set_option maxRecDepth 100000 in
theorem rB_Md_sayLabel_110 {p : Program} {l : Launch} {e : Env} {s : State} {m : MethodId} {args : Array Value} {below : List Frame} {meth : Method} {c : Code} {D : va_G} {a : Nat → Nat} {cA : Nat → ClassId} {A : Nat → Prop} {g : Nat → Nat} {σ2 : St} (S : CallFix p m c prog_10_method_42_code 6 s args AW R_Md) (hr : meth.sig.returnType = none) (hlk : meth.locks = false) (hK : rKX D cA A g s s.heap) : ∀ (σ : St) (v3 : Int32) (t0 : Int32) (H : Heap) (locs : List Loc) (ls : Array Slot), rEx D a cA A σ s.heap H locs → lv_has ls 6 [(0, .ref (a 0)), (3, .int v3)] → rJ_Md_sayLabel_110 σ v3 t0 = some σ2 → W p l e rrm_Md_sayLabel s m args below meth c H locs 0 0 (MQ below (rqv D a cA A g σ2) args s 0 0 A) (F0 m 110 ls [.int t0]) := by
  intro σ v3 t0 H locs ls E hl hM
  unfold rJ_Md_sayLabel_110 at hM
  refine lv_istore (lv' := [(4, .int t0), (0, .ref (a 0)), (3, .int v3)]) S.1 S.2.1 d_Md_sayLabel_110 hl (by decide) rfl (fun ls hl => ?_)
  refine lv_iload S.1 S.2.1 d_Md_sayLabel_112 (lv_at hl 0 rfl) ?_
  refine lv_if_ne (tgt := 125) S.1 S.2.1 d_Md_sayLabel_114 (by decide) (fun c1 => ?_) (fun c1 => ?_)
  · have hM := ifN hM c1
    refine lv_iload S.1 S.2.1 d_Md_sayLabel_125 (lv_at hl 0 rfl) ?_
    refine lv_iconst (v := 1) S.1 S.2.1 d_Md_sayLabel_127 (by decide) ?_
    refine lv_icmp_ne (tgt := 139) S.1 S.2.1 d_Md_sayLabel_128 (by decide) (fun c2 => ?_) (fun c2 => ?_)
    · have hM := ifN hM c2
      refine lv_iconst (v := 0) S.1 S.2.1 d_Md_sayLabel_139 (by decide) ?_
      refine lv_istore (lv' := [(5, .int 0), (4, .int t0), (0, .ref (a 0)), (3, .int v3)]) S.1 S.2.1 d_Md_sayLabel_140 hl (by decide) rfl (fun ls hl => ?_)
      exact rB_Md_sayLabel_142 S hr hlk hK _ _ _ _ _ _ _ E (lv_sub hl [2, 3, 0] rfl) hM
    · have hM := ifP hM c2
      refine lv_aload_n S.1 S.2.1 d_Md_sayLabel_131 rfl (lv_at hl 1 rfl) ?_
      refine lv_iload_n S.1 S.2.1 d_Md_sayLabel_132 rfl (lv_at hl 2 rfl) ?_
      obtain ⟨σ4, h3, hM⟩ := bv_inv hM
      refine rcr_22 (As := [.int v3]) (rest := []) S hK E (rC_Md_sayRoman h3) ⟨Nat.le_of_ble_eq_true rfl, Nat.le_of_ble_eq_true rfl⟩ rfl rfl hl.1 (lv_room (Nat.le_of_ble_eq_true rfl)) d_Md_sayLabel_133 (fun H locs E => ?_)
      refine lv_goto (tgt := 172) S.1 S.2.1 d_Md_sayLabel_136 (by decide) ?_
      obtain rfl := Option.some.inj hM
      exact rretv S hr hlk hK E d_Md_sayLabel_172
  · have hM := ifP hM c1
    refine lv_aload_n S.1 S.2.1 d_Md_sayLabel_117 rfl (lv_at hl 1 rfl) ?_
    refine lv_iload_n S.1 S.2.1 d_Md_sayLabel_118 rfl (lv_at hl 2 rfl) ?_
    obtain ⟨σ6, h5, hM⟩ := bv_inv hM
    refine rcr_23 (As := [.int v3]) (rest := []) S hK E (rC_Md_sayDigits h5) ⟨Nat.le_of_ble_eq_true rfl, Nat.le_of_ble_eq_true rfl⟩ rfl rfl hl.1 (lv_room (Nat.le_of_ble_eq_true rfl)) d_Md_sayLabel_119 (fun H locs E => ?_)
    refine lv_goto (tgt := 172) S.1 S.2.1 d_Md_sayLabel_122 (by decide) ?_
    obtain rfl := Option.some.inj hM
    exact rretv S hr hlk hK E d_Md_sayLabel_172
set_option maxHeartbeats 4000000 in
set_option maxRecDepth 100000 in
theorem rB_Md_sayLabel_95 {p : Program} {l : Launch} {e : Env} {s : State} {m : MethodId} {args : Array Value} {below : List Frame} {meth : Method} {c : Code} {D : va_G} {a : Nat → Nat} {cA : Nat → ClassId} {A : Nat → Prop} {g : Nat → Nat} {σ2 : St} (S : CallFix p m c prog_10_method_42_code 6 s args AW R_Md) (hr : meth.sig.returnType = none) (hlk : meth.locks = false) (hK : rKX D cA A g s s.heap) : ∀ (σ : St) (v2 : Int32) (t0 : Int32) (H : Heap) (locs : List Loc) (ls : Array Slot), rEx D a cA A σ s.heap H locs → lv_has ls 6 [(0, .ref (a 0)), (2, .int v2)] → rJ_Md_sayLabel_95 σ v2 t0 = some σ2 → W p l e rrm_Md_sayLabel s m args below meth c H locs 0 0 (MQ below (rqv D a cA A g σ2) args s 0 0 A) (F0 m 95 ls [.int t0]) := by
  intro σ v2 t0 H locs ls E hl hM
  unfold rJ_Md_sayLabel_95 at hM
  refine lv_istore_n (lv' := [(3, .int t0), (0, .ref (a 0)), (2, .int v2)]) S.1 S.2.1 d_Md_sayLabel_95 rfl hl (by decide) rfl (fun ls hl => ?_)
  refine lv_iload_n S.1 S.2.1 d_Md_sayLabel_96 rfl (lv_at hl 2 rfl) ?_
  refine lv_if_ge (tgt := 104) S.1 S.2.1 d_Md_sayLabel_97 (by decide) (fun c1 => ?_) (fun c1 => ?_)
  · have hM := ifP hM c1
    refine lv_aload_n S.1 S.2.1 d_Md_sayLabel_104 rfl (lv_at hl 1 rfl) ?_
    refine rgf_Md_59_0 S hK E d_Md_sayLabel_105 ?_
    refine lv_iload_n S.1 S.2.1 d_Md_sayLabel_108 rfl (lv_at hl 2 rfl) ?_
    obtain ⟨h2, hM⟩ := gd_inv hM
    refine ral_17 S hK E h2 d_Md_sayLabel_109 ?_
    exact rB_Md_sayLabel_110 S hr hlk hK _ _ _ _ _ _ E (lv_sub hl [1, 0] rfl) hM
  · have hM := ifN hM c1
    refine lv_iconst (v := 0) S.1 S.2.1 d_Md_sayLabel_100 (by decide) ?_
    refine lv_goto (tgt := 110) S.1 S.2.1 d_Md_sayLabel_101 (by decide) ?_
    exact rB_Md_sayLabel_110 S hr hlk hK _ _ _ _ _ _ E (lv_sub hl [1, 0] rfl) hM
set_option maxHeartbeats 4000000 in
set_option maxRecDepth 100000 in
theorem rB_Md_sayLabel_70 {p : Program} {l : Launch} {e : Env} {s : State} {m : MethodId} {args : Array Value} {below : List Frame} {meth : Method} {c : Code} {D : va_G} {a : Nat → Nat} {cA : Nat → ClassId} {A : Nat → Prop} {g : Nat → Nat} {σ2 : St} (S : CallFix p m c prog_10_method_42_code 6 s args AW R_Md) (hr : meth.sig.returnType = none) (hlk : meth.locks = false) (hK : rKX D cA A g s s.heap) : ∀ (σ : St) (v1 : Int32) (v2 : Int32) (H : Heap) (locs : List Loc) (ls : Array Slot), rEx D a cA A σ s.heap H locs → lv_has ls 6 [(0, .ref (a 0)), (1, .int v1), (2, .int v2)] → rJ_Md_sayLabel_70 σ v1 v2 = some σ2 → W p l e rrm_Md_sayLabel s m args below meth c H locs 0 0 (MQ below (rqv D a cA A g σ2) args s 0 0 A) (F0 m 70 ls []) := by
  intro σ v1 v2 H locs ls E hl hM
  unfold rJ_Md_sayLabel_70 at hM
  refine lv_iload_n S.1 S.2.1 d_Md_sayLabel_70 rfl (lv_at hl 2 rfl) ?_
  refine lv_if_ge (tgt := 80) S.1 S.2.1 d_Md_sayLabel_71 (by decide) (fun c1 => ?_) (fun c1 => ?_)
  · have hM := ifP hM c1
    refine lv_aload_n S.1 S.2.1 d_Md_sayLabel_80 rfl (lv_at hl 0 rfl) ?_
    refine rgf_Md_62_0 S hK E d_Md_sayLabel_81 ?_
    refine lv_iload_n S.1 S.2.1 d_Md_sayLabel_84 rfl (lv_at hl 2 rfl) ?_
    obtain ⟨h2, hM⟩ := gd_inv hM
    refine ral_18 S hK E h2 d_Md_sayLabel_85 ?_
    refine lv_iload_n S.1 S.2.1 d_Md_sayLabel_86 rfl (lv_at hl 1 rfl) ?_
    refine lv_iadd S.1 S.2.1 d_Md_sayLabel_87 ?_
    refine lv_aload_n S.1 S.2.1 d_Md_sayLabel_88 rfl (lv_at hl 0 rfl) ?_
    refine rgf_Md_56_0 S hK E d_Md_sayLabel_89 ?_
    refine lv_iload_n S.1 S.2.1 d_Md_sayLabel_92 rfl (lv_at hl 2 rfl) ?_
    obtain ⟨h3, hM⟩ := gd_inv hM
    refine ral_16 S hK E h3 d_Md_sayLabel_93 ?_
    refine lv_isub S.1 S.2.1 d_Md_sayLabel_94 ?_
    exact rB_Md_sayLabel_95 S hr hlk hK _ _ _ _ _ _ E (lv_sub hl [0, 2] rfl) hM
  · have hM := ifN hM c1
    refine lv_iload_n S.1 S.2.1 d_Md_sayLabel_74 rfl (lv_at hl 1 rfl) ?_
    refine lv_iconst (v := 1) S.1 S.2.1 d_Md_sayLabel_75 (by decide) ?_
    refine lv_iadd S.1 S.2.1 d_Md_sayLabel_76 ?_
    refine lv_goto (tgt := 95) S.1 S.2.1 d_Md_sayLabel_77 (by decide) ?_
    exact rB_Md_sayLabel_95 S hr hlk hK _ _ _ _ _ _ E (lv_sub hl [0, 2] rfl) hM
set_option maxHeartbeats 4000000 in
set_option maxRecDepth 100000 in
theorem rB_Md_sayLabel_9 {p : Program} {l : Launch} {e : Env} {s : State} {m : MethodId} {args : Array Value} {below : List Frame} {meth : Method} {c : Code} {D : va_G} {a : Nat → Nat} {cA : Nat → ClassId} {A : Nat → Prop} {g : Nat → Nat} {σ2 : St} (S : CallFix p m c prog_10_method_42_code 6 s args AW R_Md) (hr : meth.sig.returnType = none) (hlk : meth.locks = false) (hK : rKX D cA A g s s.heap) : ∀ (n : Nat) (σ : St) (v1 : Int32) (v2 : Int32) (v3 : Int32) (H : Heap) (locs : List Loc) (ls : Array Slot), rEx D a cA A σ s.heap H locs → lv_has ls 6 [(0, .ref (a 0)), (1, .int v1), (2, .int v2), (3, .int v3)] → rL_Md_sayLabel_9 n σ v1 v2 v3 = some σ2 → W p l e rrm_Md_sayLabel s m args below meth c H locs 0 0 (MQ below (rqv D a cA A g σ2) args s 0 0 A) (F0 m 9 ls []) := by
  intro n
  induction n with
  | zero =>
    intro σ v1 v2 v3 H locs ls E hl hM
    rw [rL_Md_sayLabel_9] at hM
    cases hM
  | succ n ih =>
    intro σ v1 v2 v3 H locs ls E hl hM
    rw [rL_Md_sayLabel_9] at hM
    refine lv_iload_n S.1 S.2.1 d_Md_sayLabel_9 rfl (lv_at hl 3 rfl) ?_
    refine lv_aload_n S.1 S.2.1 d_Md_sayLabel_10 rfl (lv_at hl 0 rfl) ?_
    refine rgf_Md_163_0 S hK E d_Md_sayLabel_11 ?_
    refine lv_icmp_ge (tgt := 70) S.1 S.2.1 d_Md_sayLabel_14 (by decide) (fun c1 => ?_) (fun c1 => ?_)
    · have hM := ifP hM c1
      exact rB_Md_sayLabel_70 S hr hlk hK _ _ _ _ _ _ E (lv_sub hl [0, 1, 2] rfl) hM
    · have hM := ifN hM c1
      refine lv_aload_n S.1 S.2.1 d_Md_sayLabel_17 rfl (lv_at hl 0 rfl) ?_
      refine rgf_Md_56_0 S hK E d_Md_sayLabel_18 ?_
      refine lv_iload_n S.1 S.2.1 d_Md_sayLabel_21 rfl (lv_at hl 3 rfl) ?_
      obtain ⟨h2, hM⟩ := gd_inv hM
      refine ral_16 S hK E h2 d_Md_sayLabel_22 ?_
      refine lv_iload_n S.1 S.2.1 d_Md_sayLabel_23 rfl (lv_at hl 1 rfl) ?_
      refine lv_icmp_gt (tgt := 50) S.1 S.2.1 d_Md_sayLabel_24 (by decide) (fun c3 => ?_) (fun c3 => ?_)
      · have hM := ifP hM c3
        exact rB_Md_sayLabel_50 S hr hlk hK ih _ _ _ _ _ _ _ E (lv_sub hl [0, 1, 2, 3] rfl) hM
      · have hM := ifN hM c3
        refine lv_iload_n S.1 S.2.1 d_Md_sayLabel_27 rfl (lv_at hl 2 rfl) ?_
        refine lv_if_lt (tgt := 46) S.1 S.2.1 d_Md_sayLabel_28 (by decide) (fun c4 => ?_) (fun c4 => ?_)
        · have hM := ifP hM c4
          exact rB_Md_sayLabel_46 S hr hlk hK ih _ _ _ _ _ _ _ E (lv_sub hl [0, 1, 2, 3] rfl) hM
        · have hM := ifN hM c4
          refine lv_aload_n S.1 S.2.1 d_Md_sayLabel_31 rfl (lv_at hl 0 rfl) ?_
          refine rgf_Md_56_0 S hK E d_Md_sayLabel_32 ?_
          refine lv_iload_n S.1 S.2.1 d_Md_sayLabel_35 rfl (lv_at hl 3 rfl) ?_
          obtain ⟨h5, hM⟩ := gd_inv hM
          refine ral_16 S hK E h5 d_Md_sayLabel_36 ?_
          refine lv_aload_n S.1 S.2.1 d_Md_sayLabel_37 rfl (lv_at hl 0 rfl) ?_
          refine rgf_Md_56_0 S hK E d_Md_sayLabel_38 ?_
          refine lv_iload_n S.1 S.2.1 d_Md_sayLabel_41 rfl (lv_at hl 2 rfl) ?_
          obtain ⟨h6, hM⟩ := gd_inv hM
          refine ral_16 S hK E h6 d_Md_sayLabel_42 ?_
          refine lv_icmp_le (tgt := 50) S.1 S.2.1 d_Md_sayLabel_43 (by decide) (fun c7 => ?_) (fun c7 => ?_)
          · have hM := ifP hM c7
            exact rB_Md_sayLabel_50 S hr hlk hK ih _ _ _ _ _ _ _ E (lv_sub hl [0, 1, 2, 3] rfl) hM
          · have hM := ifN hM c7
            exact rB_Md_sayLabel_46 S hr hlk hK ih _ _ _ _ _ _ _ E (lv_sub hl [0, 1, 2, 3] rfl) hM
set_option maxHeartbeats 4000000 in
set_option maxRecDepth 100000 in
theorem rC_Md_sayLabel {l : Launch} {D : va_G} {a : Nat → Nat} {cA : Nat → ClassId} {A : Nat → Prop} {g : Nat → Nat} {σ σ2 : St} {x1 : Int32} (hM : rM_Md_sayLabel σ x1 = some σ2) : Met l y_Md_sayLabel (.code y_Md_sayLabel prog_10_method_42_code 6 none :: AW) rrm_Md_sayLabel (va_Pc [.ref (a 0), .int x1] (rCP D a cA A g σ)) (rqv D a cA A g σ2) 0 0 A := by
  refine rmet (nL := 6) (by decide) (Nat.le_of_ble_eq_true rfl) (fun S hr hlk hK E ls hl => ?_)
  have hl : lv_has ls 6 [(0, .ref (a 0)), (1, .int x1)] := hl
  unfold rM_Md_sayLabel at hM
  refine lv_aload_n S.1 S.2.1 d_Md_sayLabel_0 rfl (lv_at hl 0 rfl) ?_
  refine lv_iconst (v := 0) S.1 S.2.1 d_Md_sayLabel_1 (by decide) ?_
  refine rpf_Md_166_0 S hK E d_Md_sayLabel_2 (fun σ1 eσ1 H locs E => ?_)
  have hM := lq_inv hM σ1 eσ1
  refine lv_iconst (v := (-1)) S.1 S.2.1 d_Md_sayLabel_5 (by decide) ?_
  refine lv_istore_n (lv' := [(2, .int (-1)), (0, .ref (a 0)), (1, .int x1)]) S.1 S.2.1 d_Md_sayLabel_6 rfl hl (by decide) rfl (fun ls hl => ?_)
  refine lv_iconst (v := 0) S.1 S.2.1 d_Md_sayLabel_7 (by decide) ?_
  refine lv_istore_n (lv' := [(3, .int 0), (2, .int (-1)), (0, .ref (a 0)), (1, .int x1)]) S.1 S.2.1 d_Md_sayLabel_8 rfl hl (by decide) rfl (fun ls hl => ?_)
  exact rB_Md_sayLabel_9 S hr hlk hK _ _ _ _ _ _ _ _ E (lv_sub hl [2, 3, 1, 0] rfl) hM
set_option maxHeartbeats 4000000 in
set_option maxRecDepth 100000 in
theorem rC_Md_text {l : Launch} {D : va_G} {a : Nat → Nat} {cA : Nat → ClassId} {A : Nat → Prop} {g : Nat → Nat} {σ σ2 : St} {x1 : Int32} {x2 : Int32} {r : Int32} (hM : rM_Md_text σ x1 x2 = some (r, σ2)) : Met l y_Md_text (.code y_Md_text prog_10_method_43_code 3 (some .int) :: AW) rrm_Md_text (va_Pc [.ref (a 0), .int x1, .int x2] (rCP D a cA A g σ)) (rqi D a cA A g r σ2) 0 0 A := by
  refine rmet (nL := 3) (by decide) (Nat.le_of_ble_eq_true rfl) (fun S hr hlk hK E ls hl => ?_)
  have hl : lv_has ls 3 [(0, .ref (a 0)), (1, .int x1), (2, .int x2)] := hl
  unfold rM_Md_text at hM
  refine lv_aload_n S.1 S.2.1 d_Md_text_0 rfl (lv_at hl 0 rfl) ?_
  obtain ⟨σ2, h1, hM⟩ := bv_inv hM
  refine rcr_10 (As := []) (rest := []) S hK E (rC_Md_walk h1) ⟨Nat.le_of_ble_eq_true rfl, Nat.le_of_ble_eq_true rfl⟩ rfl rfl hl.1 (lv_room (Nat.le_of_ble_eq_true rfl)) d_Md_text_1 (fun H locs E => ?_)
  refine lv_iload_n S.1 S.2.1 d_Md_text_4 rfl (lv_at hl 1 rfl) ?_
  refine lv_iconst (v := 0) S.1 S.2.1 d_Md_text_5 (by decide) ?_
  refine lv_aload_n S.1 S.2.1 d_Md_text_6 rfl (lv_at hl 0 rfl) ?_
  refine rgf_Md_105_0 S hK E d_Md_text_7 ?_
  refine lv_iconst (v := 1) S.1 S.2.1 d_Md_text_10 (by decide) ?_
  refine lv_isub S.1 S.2.1 d_Md_text_11 ?_
  obtain ⟨r4, h3, hM⟩ := br_inv hM
  refine rcr_4 (As := [.int x1, .int 0, .int ((σ2 24 0) - 1)]) (rest := []) S hK E (rC_Md_within h3) ⟨Nat.le_of_ble_eq_true rfl, Nat.le_of_ble_eq_true rfl⟩ rfl rfl hl.1 (lv_room (Nat.le_of_ble_eq_true rfl)) d_Md_text_12 (fun H locs E => ?_)
  refine lv_if_ne (tgt := 20) S.1 S.2.1 d_Md_text_15 (by decide) (fun c5 => ?_) (fun c5 => ?_)
  · have hM := ifN hM c5
    refine lv_aload_n S.1 S.2.1 d_Md_text_20 rfl (lv_at hl 0 rfl) ?_
    refine lv_iload_n S.1 S.2.1 d_Md_text_21 rfl (lv_at hl 1 rfl) ?_
    obtain ⟨σ7, h6, hM⟩ := bv_inv hM
    refine rcr_24 (As := [.int x1]) (rest := []) S hK E (rC_Md_sayLabel h6) ⟨Nat.le_of_ble_eq_true rfl, Nat.le_of_ble_eq_true rfl⟩ rfl rfl hl.1 (lv_room (Nat.le_of_ble_eq_true rfl)) d_Md_text_22 (fun H locs E => ?_)
    refine lv_iload_n S.1 S.2.1 d_Md_text_25 rfl (lv_at hl 2 rfl) ?_
    refine lv_iconst (v := 0) S.1 S.2.1 d_Md_text_26 (by decide) ?_
    refine lv_aload_n S.1 S.2.1 d_Md_text_27 rfl (lv_at hl 0 rfl) ?_
    refine rgf_Md_166_0 S hK E d_Md_text_28 ?_
    refine lv_iconst (v := 1) S.1 S.2.1 d_Md_text_31 (by decide) ?_
    refine lv_isub S.1 S.2.1 d_Md_text_32 ?_
    obtain ⟨r9, h8, hM⟩ := br_inv hM
    refine rcr_4 (As := [.int x2, .int 0, .int ((σ7 28 0) - 1)]) (rest := []) S hK E (rC_Md_within h8) ⟨Nat.le_of_ble_eq_true rfl, Nat.le_of_ble_eq_true rfl⟩ rfl rfl hl.1 (lv_room (Nat.le_of_ble_eq_true rfl)) d_Md_text_33 (fun H locs E => ?_)
    refine lv_if_eq (tgt := 48) S.1 S.2.1 d_Md_text_36 (by decide) (fun c10 => ?_) (fun c10 => ?_)
    · have hM := ifP hM c10
      refine lv_iconst (v := (-1)) S.1 S.2.1 d_Md_text_48 (by decide) ?_
      obtain ⟨rfl, rfl⟩ := pr_inj hM
      exact rreti S hr hlk hK E d_Md_text_49
    · have hM := ifN hM c10
      refine lv_aload_n S.1 S.2.1 d_Md_text_39 rfl (lv_at hl 0 rfl) ?_
      refine rgf_Md_71_0 S hK E d_Md_text_40 ?_
      refine lv_iload_n S.1 S.2.1 d_Md_text_43 rfl (lv_at hl 2 rfl) ?_
      obtain ⟨h11, hM⟩ := gd_inv hM
      refine ral_21 S hK E h11 d_Md_text_44 ?_
      refine lv_goto (tgt := 49) S.1 S.2.1 d_Md_text_45 (by decide) ?_
      obtain ⟨rfl, rfl⟩ := pr_inj hM
      exact rreti S hr hlk hK E d_Md_text_49
  · have hM := ifP hM c5
    refine lv_iconst (v := (-1)) S.1 S.2.1 d_Md_text_18 (by decide) ?_
    obtain ⟨rfl, rfl⟩ := pr_inj hM
    exact rreti S hr hlk hK E d_Md_text_19
set_option maxHeartbeats 4000000 in
set_option maxRecDepth 100000 in
theorem rB_Md_named_27 {p : Program} {l : Launch} {e : Env} {s : State} {m : MethodId} {args : Array Value} {below : List Frame} {meth : Method} {c : Code} {D : va_G} {a : Nat → Nat} {cA : Nat → ClassId} {A : Nat → Prop} {g : Nat → Nat} {σ : St} {r : Int32} (S : CallFix p m c prog_10_method_44_code 4 s args AW R_Md) (hr : meth.sig.returnType = (some .int)) (hlk : meth.locks = false) (hK : rKX D cA A g s s.heap) {k4 : Int32 → Int32 → Int32 → Option (Int32)} (hk4 : ∀ (v1 : Int32) (v2 : Int32) (v3 : Int32) (H : Heap) (locs : List Loc) (ls : Array Slot), rEx D a cA A σ s.heap H locs → lv_has ls 4 [(0, .ref (a 0)), (1, .int v1), (2, .int v2), (3, .int v3)] → k4 v1 v2 v3 = some r → W p l e rrm_Md_named s m args below meth c H locs 0 0 (MQ below (rqi D a cA A g r σ) args s 0 0 A) (F0 m 4 ls [])) : ∀ (v1 : Int32) (v3 : Int32) (t0 : Int32) (H : Heap) (locs : List Loc) (ls : Array Slot), rEx D a cA A σ s.heap H locs → lv_has ls 4 [(0, .ref (a 0)), (1, .int v1), (3, .int v3)] → rJ_Md_named_27 k4 σ v1 v3 t0 = some r → W p l e rrm_Md_named s m args below meth c H locs 0 0 (MQ below (rqi D a cA A g r σ) args s 0 0 A) (F0 m 27 ls [.int t0]) := by
  intro v1 v3 t0 H locs ls E hl hM
  unfold rJ_Md_named_27 at hM
  refine lv_istore_n (lv' := [(2, .int t0), (0, .ref (a 0)), (1, .int v1), (3, .int v3)]) S.1 S.2.1 d_Md_named_27 rfl hl (by decide) rfl (fun ls hl => ?_)
  obtain ⟨y1, ey1⟩ : ∃ z : Int32, z = v3 + 1 := ⟨_, rfl⟩
  have hM := lq_inv hM y1 ey1
  refine lv_iinc (v := y1) (lv' := [(3, .int y1), (2, .int t0), (0, .ref (a 0)), (1, .int v1)]) S.1 S.2.1 d_Md_named_28 hl (k := 3) rfl (by rw [ey1]; rfl) (by decide) rfl (fun ls hl => ?_)
  refine lv_goto (tgt := 4) S.1 S.2.1 d_Md_named_31 (by decide) ?_
  exact hk4 _ _ _ _ _ _ E (lv_sub hl [2, 3, 1, 0] rfl) hM
set_option maxHeartbeats 4000000 in
set_option maxRecDepth 100000 in
theorem rB_Md_named_4 {p : Program} {l : Launch} {e : Env} {s : State} {m : MethodId} {args : Array Value} {below : List Frame} {meth : Method} {c : Code} {D : va_G} {a : Nat → Nat} {cA : Nat → ClassId} {A : Nat → Prop} {g : Nat → Nat} {σ : St} {r : Int32} (S : CallFix p m c prog_10_method_44_code 4 s args AW R_Md) (hr : meth.sig.returnType = (some .int)) (hlk : meth.locks = false) (hK : rKX D cA A g s s.heap) : ∀ (n : Nat) (v1 : Int32) (v2 : Int32) (v3 : Int32) (H : Heap) (locs : List Loc) (ls : Array Slot), rEx D a cA A σ s.heap H locs → lv_has ls 4 [(0, .ref (a 0)), (1, .int v1), (2, .int v2), (3, .int v3)] → rL_Md_named_4 σ n v1 v2 v3 = some r → W p l e rrm_Md_named s m args below meth c H locs 0 0 (MQ below (rqi D a cA A g r σ) args s 0 0 A) (F0 m 4 ls []) := by
  intro n
  induction n with
  | zero =>
    intro v1 v2 v3 H locs ls E hl hM
    rw [rL_Md_named_4] at hM
    cases hM
  | succ n ih =>
    intro v1 v2 v3 H locs ls E hl hM
    rw [rL_Md_named_4] at hM
    refine lv_iload_n S.1 S.2.1 d_Md_named_4 rfl (lv_at hl 3 rfl) ?_
    refine lv_aload_n S.1 S.2.1 d_Md_named_5 rfl (lv_at hl 0 rfl) ?_
    refine rgf_Md_160_0 S hK E d_Md_named_6 ?_
    refine lv_icmp_ge (tgt := 34) S.1 S.2.1 d_Md_named_9 (by decide) (fun c1 => ?_) (fun c1 => ?_)
    · have hM := ifP hM c1
      refine lv_iload_n S.1 S.2.1 d_Md_named_34 rfl (lv_at hl 2 rfl) ?_
      obtain rfl := Option.some.inj hM
      exact rreti S hr hlk hK E d_Md_named_35
    · have hM := ifN hM c1
      refine lv_aload_n S.1 S.2.1 d_Md_named_12 rfl (lv_at hl 0 rfl) ?_
      refine rgf_Md_65_0 S hK E d_Md_named_13 ?_
      refine lv_iload_n S.1 S.2.1 d_Md_named_16 rfl (lv_at hl 3 rfl) ?_
      obtain ⟨h2, hM⟩ := gd_inv hM
      refine ral_19 S hK E h2 d_Md_named_17 ?_
      refine lv_iload_n S.1 S.2.1 d_Md_named_18 rfl (lv_at hl 1 rfl) ?_
      refine lv_icmp_ne (tgt := 26) S.1 S.2.1 d_Md_named_19 (by decide) (fun c3 => ?_) (fun c3 => ?_)
      · have hM := ifN hM c3
        refine lv_iload_n S.1 S.2.1 d_Md_named_26 rfl (lv_at hl 2 rfl) ?_
        exact rB_Md_named_27 S hr hlk hK ih _ _ _ _ _ _ E (lv_sub hl [0, 1, 3] rfl) hM
      · have hM := ifP hM c3
        refine lv_iload_n S.1 S.2.1 d_Md_named_22 rfl (lv_at hl 3 rfl) ?_
        refine lv_goto (tgt := 27) S.1 S.2.1 d_Md_named_23 (by decide) ?_
        exact rB_Md_named_27 S hr hlk hK ih _ _ _ _ _ _ E (lv_sub hl [0, 1, 3] rfl) hM
set_option maxHeartbeats 4000000 in
set_option maxRecDepth 100000 in
theorem rC_Md_named {l : Launch} {D : va_G} {a : Nat → Nat} {cA : Nat → ClassId} {A : Nat → Prop} {g : Nat → Nat} {σ : St} {x1 : Int32} {r : Int32} (hM : rM_Md_named σ x1 = some r) : Met l y_Md_named (.code y_Md_named prog_10_method_44_code 4 (some .int) :: AW) rrm_Md_named (va_Pc [.ref (a 0), .int x1] (rCP D a cA A g σ)) (rqi D a cA A g r σ) 0 0 A := by
  refine rmet (nL := 4) (by decide) (Nat.le_of_ble_eq_true rfl) (fun S hr hlk hK E ls hl => ?_)
  have hl : lv_has ls 4 [(0, .ref (a 0)), (1, .int x1)] := hl
  unfold rM_Md_named at hM
  refine lv_iconst (v := (-1)) S.1 S.2.1 d_Md_named_0 (by decide) ?_
  refine lv_istore_n (lv' := [(2, .int (-1)), (0, .ref (a 0)), (1, .int x1)]) S.1 S.2.1 d_Md_named_1 rfl hl (by decide) rfl (fun ls hl => ?_)
  refine lv_iconst (v := 0) S.1 S.2.1 d_Md_named_2 (by decide) ?_
  refine lv_istore_n (lv' := [(3, .int 0), (2, .int (-1)), (0, .ref (a 0)), (1, .int x1)]) S.1 S.2.1 d_Md_named_3 rfl hl (by decide) rfl (fun ls hl => ?_)
  exact rB_Md_named_4 S hr hlk hK _ _ _ _ _ _ _ E (lv_sub hl [2, 3, 1, 0] rfl) hM
set_option maxHeartbeats 4000000 in
set_option maxRecDepth 100000 in
theorem rC_Md_name {l : Launch} {D : va_G} {a : Nat → Nat} {cA : Nat → ClassId} {A : Nat → Prop} {g : Nat → Nat} {σ σ2 : St} {x1 : Int32} {x2 : Int32} {r : Int32} (hM : rM_Md_name σ x1 x2 = some (r, σ2)) : Met l y_Md_name (.code y_Md_name prog_10_method_45_code 3 (some .int) :: AW) rrm_Md_name (va_Pc [.ref (a 0), .int x1, .int x2] (rCP D a cA A g σ)) (rqi D a cA A g r σ2) 0 0 A := by
  refine rmet (nL := 3) (by decide) (Nat.le_of_ble_eq_true rfl) (fun S hr hlk hK E ls hl => ?_)
  have hl : lv_has ls 3 [(0, .ref (a 0)), (1, .int x1), (2, .int x2)] := hl
  unfold rM_Md_name at hM
  refine lv_aload_n S.1 S.2.1 d_Md_name_0 rfl (lv_at hl 0 rfl) ?_
  refine lv_iload_n S.1 S.2.1 d_Md_name_1 rfl (lv_at hl 2 rfl) ?_
  obtain ⟨r2, σ3, h1, hM⟩ := bd_inv hM
  refine rcr_11 (As := [.int x2]) (rest := []) S hK E (rC_Md_placeOf h1) ⟨Nat.le_of_ble_eq_true rfl, Nat.le_of_ble_eq_true rfl⟩ rfl rfl hl.1 (lv_room (Nat.le_of_ble_eq_true rfl)) d_Md_name_2 (fun H locs E => ?_)
  refine lv_if_ge (tgt := 10) S.1 S.2.1 d_Md_name_5 (by decide) (fun c4 => ?_) (fun c4 => ?_)
  · have hM := ifP hM c4
    refine lv_iload_n S.1 S.2.1 d_Md_name_10 rfl (lv_at hl 1 rfl) ?_
    refine lv_iconst (v := 0) S.1 S.2.1 d_Md_name_11 (by decide) ?_
    refine lv_sipush (v := 9999) S.1 S.2.1 d_Md_name_12 (by decide) ?_
    obtain ⟨r6, h5, hM⟩ := br_inv hM
    refine rcr_4 (As := [.int x1, .int 0, .int 9999]) (rest := []) S hK E (rC_Md_within h5) ⟨Nat.le_of_ble_eq_true rfl, Nat.le_of_ble_eq_true rfl⟩ rfl rfl hl.1 (lv_room (Nat.le_of_ble_eq_true rfl)) d_Md_name_15 (fun H locs E => ?_)
    refine lv_if_ne (tgt := 24) S.1 S.2.1 d_Md_name_18 (by decide) (fun c7 => ?_) (fun c7 => ?_)
    · have hM := ifN hM c7
      refine lv_aload_n S.1 S.2.1 d_Md_name_24 rfl (lv_at hl 0 rfl) ?_
      refine lv_iload_n S.1 S.2.1 d_Md_name_25 rfl (lv_at hl 1 rfl) ?_
      obtain ⟨r9, h8, hM⟩ := br_inv hM
      refine rcr_25 (As := [.int x1]) (rest := []) S hK E (rC_Md_named h8) ⟨Nat.le_of_ble_eq_true rfl, Nat.le_of_ble_eq_true rfl⟩ rfl rfl hl.1 (lv_room (Nat.le_of_ble_eq_true rfl)) d_Md_name_26 (fun H locs E => ?_)
      refine lv_if_lt (tgt := 35) S.1 S.2.1 d_Md_name_29 (by decide) (fun c10 => ?_) (fun c10 => ?_)
      · have hM := ifP hM c10
        refine lv_aload_n S.1 S.2.1 d_Md_name_35 rfl (lv_at hl 0 rfl) ?_
        refine rgf_Md_160_0 S hK E d_Md_name_36 ?_
        refine lv_bipush (v := 60) S.1 S.2.1 d_Md_name_39 (by decide) ?_
        refine lv_icmp_ne (tgt := 47) S.1 S.2.1 d_Md_name_41 (by decide) (fun c11 => ?_) (fun c11 => ?_)
        · have hM := ifN hM c11
          refine lv_aload_n S.1 S.2.1 d_Md_name_47 rfl (lv_at hl 0 rfl) ?_
          refine rgf_Md_65_0 S hK E d_Md_name_48 ?_
          refine lv_aload_n S.1 S.2.1 d_Md_name_51 rfl (lv_at hl 0 rfl) ?_
          refine rgf_Md_160_0 S hK E d_Md_name_52 ?_
          refine lv_iload_n S.1 S.2.1 d_Md_name_55 rfl (lv_at hl 1 rfl) ?_
          obtain ⟨h12, hM⟩ := gd_inv hM
          refine ras_19 S hK E h12 d_Md_name_56 (fun σ13 eσ13 H locs E => ?_)
          have hM := lq_inv hM σ13 eσ13
          refine lv_aload_n S.1 S.2.1 d_Md_name_57 rfl (lv_at hl 0 rfl) ?_
          refine rgf_Md_68_0 S hK E d_Md_name_58 ?_
          refine lv_aload_n S.1 S.2.1 d_Md_name_61 rfl (lv_at hl 0 rfl) ?_
          refine rgf_Md_160_0 S hK E d_Md_name_62 ?_
          refine lv_iload_n S.1 S.2.1 d_Md_name_65 rfl (lv_at hl 2 rfl) ?_
          obtain ⟨h14, hM⟩ := gd_inv hM
          refine ras_20 S hK E h14 d_Md_name_66 (fun σ15 eσ15 H locs E => ?_)
          have hM := lq_inv hM σ15 eσ15
          refine lv_aload_n S.1 S.2.1 d_Md_name_67 rfl (lv_at hl 0 rfl) ?_
          refine lv_dup S.1 S.2.1 d_Md_name_68 rfl ?_
          refine rgf_Md_160_0 S hK E d_Md_name_69 ?_
          refine lv_iconst (v := 1) S.1 S.2.1 d_Md_name_72 (by decide) ?_
          refine lv_iadd S.1 S.2.1 d_Md_name_73 ?_
          refine rpf_Md_160_0 S hK E d_Md_name_74 (fun σ16 eσ16 H locs E => ?_)
          have hM := lq_inv hM σ16 eσ16
          refine lv_aload_n S.1 S.2.1 d_Md_name_77 rfl (lv_at hl 0 rfl) ?_
          refine rgf_Md_160_0 S hK E d_Md_name_78 ?_
          obtain ⟨rfl, rfl⟩ := pr_inj hM
          exact rreti S hr hlk hK E d_Md_name_81
        · have hM := ifP hM c11
          refine lv_bipush (v := (-4)) S.1 S.2.1 d_Md_name_44 (by decide) ?_
          obtain ⟨rfl, rfl⟩ := pr_inj hM
          exact rreti S hr hlk hK E d_Md_name_46
      · have hM := ifN hM c10
        refine lv_bipush (v := (-3)) S.1 S.2.1 d_Md_name_32 (by decide) ?_
        obtain ⟨rfl, rfl⟩ := pr_inj hM
        exact rreti S hr hlk hK E d_Md_name_34
    · have hM := ifP hM c7
      refine lv_bipush (v := (-2)) S.1 S.2.1 d_Md_name_21 (by decide) ?_
      obtain ⟨rfl, rfl⟩ := pr_inj hM
      exact rreti S hr hlk hK E d_Md_name_23
  · have hM := ifN hM c4
    refine lv_iconst (v := (-1)) S.1 S.2.1 d_Md_name_8 (by decide) ?_
    obtain ⟨rfl, rfl⟩ := pr_inj hM
    exact rreti S hr hlk hK E d_Md_name_9
set_option maxHeartbeats 4000000 in
set_option maxRecDepth 100000 in
theorem rC_Md_look {l : Launch} {D : va_G} {a : Nat → Nat} {cA : Nat → ClassId} {A : Nat → Prop} {g : Nat → Nat} {σ : St} {x1 : Int32} {r : Int32} (hM : rM_Md_look σ x1 = some r) : Met l y_Md_look (.code y_Md_look prog_10_method_46_code 3 (some .int) :: AW) rrm_Md_look (va_Pc [.ref (a 0), .int x1] (rCP D a cA A g σ)) (rqi D a cA A g r σ) 0 0 A := by
  refine rmet (nL := 3) (by decide) (Nat.le_of_ble_eq_true rfl) (fun S hr hlk hK E ls hl => ?_)
  have hl : lv_has ls 3 [(0, .ref (a 0)), (1, .int x1)] := hl
  unfold rM_Md_look at hM
  refine lv_aload_n S.1 S.2.1 d_Md_look_0 rfl (lv_at hl 0 rfl) ?_
  refine lv_iload_n S.1 S.2.1 d_Md_look_1 rfl (lv_at hl 1 rfl) ?_
  obtain ⟨r2, h1, hM⟩ := br_inv hM
  refine rcr_25 (As := [.int x1]) (rest := []) S hK E (rC_Md_named h1) ⟨Nat.le_of_ble_eq_true rfl, Nat.le_of_ble_eq_true rfl⟩ rfl rfl hl.1 (lv_room (Nat.le_of_ble_eq_true rfl)) d_Md_look_2 (fun H locs E => ?_)
  refine lv_istore_n (lv' := [(2, .int r2), (0, .ref (a 0)), (1, .int x1)]) S.1 S.2.1 d_Md_look_5 rfl hl (by decide) rfl (fun ls hl => ?_)
  refine lv_iload_n S.1 S.2.1 d_Md_look_6 rfl (lv_at hl 0 rfl) ?_
  refine lv_if_ge (tgt := 14) S.1 S.2.1 d_Md_look_7 (by decide) (fun c3 => ?_) (fun c3 => ?_)
  · have hM := ifP hM c3
    refine lv_aload_n S.1 S.2.1 d_Md_look_14 rfl (lv_at hl 1 rfl) ?_
    refine rgf_Md_68_0 S hK E d_Md_look_15 ?_
    refine lv_iload_n S.1 S.2.1 d_Md_look_18 rfl (lv_at hl 0 rfl) ?_
    obtain ⟨h4, hM⟩ := gd_inv hM
    refine ral_20 S hK E h4 d_Md_look_19 ?_
    obtain rfl := Option.some.inj hM
    exact rreti S hr hlk hK E d_Md_look_20
  · have hM := ifN hM c3
    refine lv_iconst (v := (-1)) S.1 S.2.1 d_Md_look_10 (by decide) ?_
    refine lv_goto (tgt := 20) S.1 S.2.1 d_Md_look_11 (by decide) ?_
    obtain rfl := Option.some.inj hM
    exact rreti S hr hlk hK E d_Md_look_20
set_option maxHeartbeats 4000000 in
set_option maxRecDepth 100000 in
theorem rB_Md_needed_4 {p : Program} {l : Launch} {e : Env} {s : State} {m : MethodId} {args : Array Value} {below : List Frame} {meth : Method} {c : Code} {D : va_G} {a : Nat → Nat} {cA : Nat → ClassId} {A : Nat → Prop} {g : Nat → Nat} {σ : St} {r : Int32} (S : CallFix p m c prog_10_method_47_code 3 s args AW R_Md) (hr : meth.sig.returnType = (some .int)) (hlk : meth.locks = false) (hK : rKX D cA A g s s.heap) : ∀ (n : Nat) (v1 : Int32) (v2 : Int32) (H : Heap) (locs : List Loc) (ls : Array Slot), rEx D a cA A σ s.heap H locs → lv_has ls 3 [(1, .int v1), (2, .int v2)] → rL_Md_needed_4 σ n v1 v2 = some r → W p l e rrm_Md_needed s m args below meth c H locs 0 0 (MQ below (rqi D a cA A g r σ) args s 0 0 A) (F0 m 4 ls []) := by
  intro n
  induction n with
  | zero =>
    intro v1 v2 H locs ls E hl hM
    rw [rL_Md_needed_4] at hM
    cases hM
  | succ n ih =>
    intro v1 v2 H locs ls E hl hM
    rw [rL_Md_needed_4] at hM
    refine lv_iload_n S.1 S.2.1 d_Md_needed_4 rfl (lv_at hl 1 rfl) ?_
    refine lv_iconst (v := 4) S.1 S.2.1 d_Md_needed_5 (by decide) ?_
    refine lv_icmp_le (tgt := 22) S.1 S.2.1 d_Md_needed_6 (by decide) (fun c1 => ?_) (fun c1 => ?_)
    · have hM := ifP hM c1
      refine lv_iload_n S.1 S.2.1 d_Md_needed_22 rfl (lv_at hl 0 rfl) ?_
      obtain rfl := Option.some.inj hM
      exact rreti S hr hlk hK E d_Md_needed_23
    · have hM := ifN hM c1
      refine lv_iload_n S.1 S.2.1 d_Md_needed_9 rfl (lv_at hl 1 rfl) ?_
      refine lv_iconst (v := 3) S.1 S.2.1 d_Md_needed_10 (by decide) ?_
      refine lv_iadd S.1 S.2.1 d_Md_needed_11 ?_
      refine lv_iconst (v := 4) S.1 S.2.1 d_Md_needed_12 (by decide) ?_
      refine lv_idiv S.1 S.2.1 d_Md_needed_13 (by decide) ?_
      refine lv_topi (fun y2 ey2 => ?_)
      have hM := lq_inv hM y2 ey2
      refine lv_istore_n (lv' := [(2, .int y2), (1, .int v1)]) S.1 S.2.1 d_Md_needed_14 rfl hl (by decide) rfl (fun ls hl => ?_)
      refine lv_iload_n S.1 S.2.1 d_Md_needed_15 rfl (lv_at hl 1 rfl) ?_
      refine lv_iload_n S.1 S.2.1 d_Md_needed_16 rfl (lv_at hl 0 rfl) ?_
      refine lv_iadd S.1 S.2.1 d_Md_needed_17 ?_
      refine lv_topi (fun y3 ey3 => ?_)
      have hM := lq_inv hM y3 ey3
      refine lv_istore_n (lv' := [(1, .int y3), (2, .int y2)]) S.1 S.2.1 d_Md_needed_18 rfl hl (by decide) rfl (fun ls hl => ?_)
      refine lv_goto (tgt := 4) S.1 S.2.1 d_Md_needed_19 (by decide) ?_
      exact ih _ _ _ _ _ E (lv_sub hl [0, 1] rfl) hM
set_option maxHeartbeats 4000000 in
set_option maxRecDepth 100000 in
theorem rC_Md_needed {l : Launch} {D : va_G} {a : Nat → Nat} {cA : Nat → ClassId} {A : Nat → Prop} {g : Nat → Nat} {σ : St} {x0 : Int32} {r : Int32} (hM : rM_Md_needed σ x0 = some r) : Met l y_Md_needed (.code y_Md_needed prog_10_method_47_code 3 (some .int) :: AW) rrm_Md_needed (va_Pc [.int x0] (rCP D a cA A g σ)) (rqi D a cA A g r σ) 0 0 A := by
  refine rmet (nL := 3) (by decide) (Nat.le_of_ble_eq_true rfl) (fun S hr hlk hK E ls hl => ?_)
  have hl : lv_has ls 3 [(0, .int x0)] := hl
  unfold rM_Md_needed at hM
  refine lv_iconst (v := 0) S.1 S.2.1 d_Md_needed_0 (by decide) ?_
  refine lv_istore_n (lv' := [(1, .int 0), (0, .int x0)]) S.1 S.2.1 d_Md_needed_1 rfl hl (by decide) rfl (fun ls hl => ?_)
  refine lv_iload_n S.1 S.2.1 d_Md_needed_2 rfl (lv_at hl 1 rfl) ?_
  refine lv_istore_n (lv' := [(2, .int x0), (1, .int 0), (0, .int x0)]) S.1 S.2.1 d_Md_needed_3 rfl hl (by decide) rfl (fun ls hl => ?_)
  exact rB_Md_needed_4 S hr hlk hK _ _ _ _ _ _ E (lv_sub hl [1, 0] rfl) hM
set_option maxHeartbeats 4000000 in
set_option maxRecDepth 100000 in
theorem rB_Md_hang_39 {p : Program} {l : Launch} {e : Env} {s : State} {m : MethodId} {args : Array Value} {below : List Frame} {meth : Method} {c : Code} {D : va_G} {a : Nat → Nat} {cA : Nat → ClassId} {A : Nat → Prop} {g : Nat → Nat} {σ2 : St} (S : CallFix p m c prog_10_method_48_code 3 s args AW R_Md) (hr : meth.sig.returnType = none) (hlk : meth.locks = false) (hK : rKX D cA A g s s.heap) : ∀ (σ : St) (t1 : Int32) (t2 : Int32) (t3 : Int32) (H : Heap) (locs : List Loc) (ls : Array Slot), rEx D a cA A σ s.heap H locs → lv_has ls 3 [] → rJ_Md_hang_39 σ t1 t2 t3 = some σ2 → W p l e rrm_Md_hang s m args below meth c H locs 0 0 (MQ below (rqv D a cA A g σ2) args s 0 0 A) (F0 m 39 ls [.int t3, .int t2, .int t1, .ref (a 3)]) := by
  intro σ t1 t2 t3 H locs ls E hl hM
  unfold rJ_Md_hang_39 at hM
  refine lv_iadd S.1 S.2.1 d_Md_hang_39 ?_
  obtain ⟨h1, hM⟩ := gd_inv hM
  refine ras_3 S hK E h1 d_Md_hang_40 (fun σ2 eσ2 H locs E => ?_)
  have hM := lq_inv hM σ2 eσ2
  obtain rfl := Option.some.inj hM
  exact rretv S hr hlk hK E d_Md_hang_41
set_option maxHeartbeats 4000000 in
set_option maxRecDepth 100000 in
theorem rC_Md_hang {l : Launch} {D : va_G} {a : Nat → Nat} {cA : Nat → ClassId} {A : Nat → Prop} {g : Nat → Nat} {σ σ2 : St} {x1 : Int32} {x2 : Int32} (hM : rM_Md_hang σ x1 x2 = some σ2) : Met l y_Md_hang (.code y_Md_hang prog_10_method_48_code 3 none :: AW) rrm_Md_hang (va_Pc [.ref (a 0), .int x1, .int x2] (rCP D a cA A g σ)) (rqv D a cA A g σ2) 0 0 A := by
  refine rmet (nL := 3) (by decide) (Nat.le_of_ble_eq_true rfl) (fun S hr hlk hK E ls hl => ?_)
  have hl : lv_has ls 3 [(0, .ref (a 0)), (1, .int x1), (2, .int x2)] := hl
  unfold rM_Md_hang at hM
  refine lv_aload_n S.1 S.2.1 d_Md_hang_0 rfl (lv_at hl 0 rfl) ?_
  refine lv_iload_n S.1 S.2.1 d_Md_hang_1 rfl (lv_at hl 1 rfl) ?_
  refine lv_iload_n S.1 S.2.1 d_Md_hang_2 rfl (lv_at hl 2 rfl) ?_
  obtain ⟨σ2, h1, hM⟩ := bv_inv hM
  refine rcr_2 (As := [.int x1, .int x2]) (rest := []) S hK E (rC_Md_append h1) ⟨Nat.le_of_ble_eq_true rfl, Nat.le_of_ble_eq_true rfl⟩ rfl rfl hl.1 (lv_room (Nat.le_of_ble_eq_true rfl)) d_Md_hang_3 (fun H locs E => ?_)
  refine lv_aload_n S.1 S.2.1 d_Md_hang_6 rfl (lv_at hl 0 rfl) ?_
  refine rgf_Md_13_0 S hK E d_Md_hang_7 ?_
  refine lv_iload_n S.1 S.2.1 d_Md_hang_10 rfl (lv_at hl 2 rfl) ?_
  refine lv_iload_n S.1 S.2.1 d_Md_hang_11 rfl (lv_at hl 1 rfl) ?_
  obtain ⟨h3, hM⟩ := gd_inv hM
  refine ras_2 S hK E h3 d_Md_hang_12 (fun σ4 eσ4 H locs E => ?_)
  have hM := lq_inv hM σ4 eσ4
  refine lv_aload_n S.1 S.2.1 d_Md_hang_13 rfl (lv_at hl 0 rfl) ?_
  refine rgf_Md_17_0 S hK E d_Md_hang_14 ?_
  refine lv_iload_n S.1 S.2.1 d_Md_hang_17 rfl (lv_at hl 1 rfl) ?_
  refine lv_dup2_11 S.1 S.2.1 d_Md_hang_18 rfl rfl ?_
  obtain ⟨h5, hM⟩ := gd_inv hM
  refine ral_3 S hK E h5 d_Md_hang_19 ?_
  refine lv_aload_n S.1 S.2.1 d_Md_hang_20 rfl (lv_at hl 0 rfl) ?_
  refine rgf_Md_7_0 S hK E d_Md_hang_21 ?_
  refine lv_iload_n S.1 S.2.1 d_Md_hang_24 rfl (lv_at hl 2 rfl) ?_
  obtain ⟨h6, hM⟩ := gd_inv hM
  refine ral_1 S hK E h6 d_Md_hang_25 ?_
  refine lv_if_eq (tgt := 33) S.1 S.2.1 d_Md_hang_26 (by decide) (fun c7 => ?_) (fun c7 => ?_)
  · have hM := ifP hM c7
    refine lv_aload_n S.1 S.2.1 d_Md_hang_33 rfl (lv_at hl 0 rfl) ?_
    refine rgf_Md_17_0 S hK E d_Md_hang_34 ?_
    refine lv_iload_n S.1 S.2.1 d_Md_hang_37 rfl (lv_at hl 2 rfl) ?_
    obtain ⟨h8, hM⟩ := gd_inv hM
    refine ral_3 S hK E h8 d_Md_hang_38 ?_
    exact rB_Md_hang_39 S hr hlk hK _ _ _ _ _ _ _ E (lv_sub hl [] rfl) hM
  · have hM := ifN hM c7
    refine lv_iconst (v := 1) S.1 S.2.1 d_Md_hang_29 (by decide) ?_
    refine lv_goto (tgt := 39) S.1 S.2.1 d_Md_hang_30 (by decide) ?_
    exact rB_Md_hang_39 S hr hlk hK _ _ _ _ _ _ _ E (lv_sub hl [] rfl) hM
