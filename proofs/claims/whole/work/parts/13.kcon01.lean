set_option maxHeartbeats 4000000 in
set_option maxRecDepth 100000 in
theorem kB_Arr_fill_17_5 {p : Program} {l : Launch} {e : Env} {s : State} {m : MethodId} {args : Array Value} {below : List Frame} {meth : Method} {c : Code} {D : va_G} {a : Nat → Nat} {cA : Nat → ClassId} {A : Nat → Prop} {g : Nat → Nat} {σ2 : St} (S : CallFix p m c prog_15_method_103_code 4 s args AW R_Arr) (hr : meth.sig.returnType = none) (hlk : meth.locks = false) (hK : kKX D cA A g s s.heap) : ∀ (n : Nat) (σ : St) (v1 : Int32) (v2 : Int32) (v3 : Int32) (H : Heap) (locs : List Loc) (ls : Array Slot), kEx D a cA A σ s.heap H locs → lv_has ls 4 [(0, .ref (a 17)), (1, .int v1), (2, .int v2), (3, .int v3)] → kL_Arr_fill_17_5 n σ v1 v2 v3 = some σ2 → W p l e krm_Arr_fill_17 s m args below meth c H locs 0 0 (MQ below (kqv D a cA A g σ2) args s 0 0 A) (F0 m 5 ls []) := by
  intro n
  induction n with
  | zero =>
    intro σ v1 v2 v3 H locs ls E hl hM
    rw [kL_Arr_fill_17_5] at hM
    cases hM
  | succ n ih =>
    intro σ v1 v2 v3 H locs ls E hl hM
    rw [kL_Arr_fill_17_5] at hM
    refine lv_iload_n S.1 S.2.1 d_Arr_fill_5 rfl (lv_at hl 2 rfl) ?_
    refine lv_iload_n S.1 S.2.1 d_Arr_fill_6 rfl (lv_at hl 3 rfl) ?_
    refine lv_icmp_ge (tgt := 20) S.1 S.2.1 d_Arr_fill_7 (by decide) (fun c1 => ?_) (fun c1 => ?_)
    · have hM := ifP hM c1
      obtain rfl := Option.some.inj hM
      exact kretv S hr hlk hK E d_Arr_fill_20
    · have hM := ifN hM c1
      refine lv_aload_n S.1 S.2.1 d_Arr_fill_10 rfl (lv_at hl 0 rfl) ?_
      refine lv_iload_n S.1 S.2.1 d_Arr_fill_11 rfl (lv_at hl 2 rfl) ?_
      refine lv_iload_n S.1 S.2.1 d_Arr_fill_12 rfl (lv_at hl 1 rfl) ?_
      obtain ⟨h2, hM⟩ := gd_inv hM
      refine kas_17 S hK E h2 d_Arr_fill_13 (fun σ3 eσ3 H locs E => ?_)
      have hM := lq_inv hM σ3 eσ3
      obtain ⟨y4, ey4⟩ : ∃ z : Int32, z = v2 + 1 := ⟨_, rfl⟩
      have hM := lq_inv hM y4 ey4
      refine lv_iinc (v := y4) (lv' := [(2, .int y4), (0, .ref (a 17)), (1, .int v1), (3, .int v3)]) S.1 S.2.1 d_Arr_fill_14 hl (k := 2) rfl (by rw [ey4]; rfl) (by decide) rfl (fun ls hl => ?_)
      refine lv_goto (tgt := 5) S.1 S.2.1 d_Arr_fill_17 (by decide) ?_
      exact ih _ _ _ _ _ _ _ E (lv_sub hl [1, 2, 0, 3] rfl) hM
set_option maxHeartbeats 4000000 in
set_option maxRecDepth 100000 in
theorem kC_Arr_fill_17 {l : Launch} {D : va_G} {a : Nat → Nat} {cA : Nat → ClassId} {A : Nat → Prop} {g : Nat → Nat} {σ σ2 : St} {x1 : Int32} (hM : kM_Arr_fill_17 σ x1 = some σ2) : Met l y_Arr_fill (.code y_Arr_fill prog_15_method_103_code 4 none :: AW) krm_Arr_fill_17 (va_Pc [.ref (a 17), .int x1] (kCP D a cA A g σ)) (kqv D a cA A g σ2) 0 0 A := by
  refine kmet (nL := 4) (by decide) (Nat.le_of_ble_eq_true rfl) (fun S hr hlk hK E ls hl => ?_)
  have hl : lv_has ls 4 [(0, .ref (a 17)), (1, .int x1)] := hl
  unfold kM_Arr_fill_17 at hM
  refine lv_iconst (v := 0) S.1 S.2.1 d_Arr_fill_0 (by decide) ?_
  refine lv_istore_n (lv' := [(2, .int 0), (0, .ref (a 17)), (1, .int x1)]) S.1 S.2.1 d_Arr_fill_1 rfl hl (by decide) rfl (fun ls hl => ?_)
  refine lv_aload_n S.1 S.2.1 d_Arr_fill_2 rfl (lv_at hl 1 rfl) ?_
  refine kln_17 S hK E d_Arr_fill_3 ?_
  refine lv_istore_n (lv' := [(3, .int 200), (2, .int 0), (0, .ref (a 17)), (1, .int x1)]) S.1 S.2.1 d_Arr_fill_4 rfl hl (by decide) rfl (fun ls hl => ?_)
  exact kB_Arr_fill_17_5 S hr hlk hK _ _ _ _ _ _ _ _ E (lv_sub hl [2, 3, 1, 0] rfl) hM
set_option maxHeartbeats 4000000 in
set_option maxRecDepth 100000 in
theorem kC_Walk_enter_Order {l : Launch} {D : va_G} {a : Nat → Nat} {cA : Nat → ClassId} {A : Nat → Prop} {g : Nat → Nat} {σ σ2 : St} {x1 : Int32} (hM : kM_Walk_enter_Order σ x1 = some σ2) : Met l y_Walk_enter (.code y_Walk_enter prog_8_method_8_code 2 none :: AW) krm_Walk_enter_Order (va_Pc [.ref (a 2), .int x1] (kCP D a cA A g σ)) (kqv D a cA A g σ2) 0 0 A := by
  refine kmet (nL := 2) (by decide) (Nat.le_of_ble_eq_true rfl) (fun S hr hlk hK E ls hl => ?_)
  have hl : lv_has ls 2 [(0, .ref (a 2)), (1, .int x1)] := hl
  unfold kM_Walk_enter_Order at hM
  refine lv_aload_n S.1 S.2.1 d_Walk_enter_0 rfl (lv_at hl 0 rfl) ?_
  refine kgf_Walk_26_2 S hK E d_Walk_enter_1 ?_
  refine lv_sipush (v := 200) S.1 S.2.1 d_Walk_enter_4 (by decide) ?_
  refine lv_icmp_ge (tgt := 40) S.1 S.2.1 d_Walk_enter_7 (by decide) (fun c1 => ?_) (fun c1 => ?_)
  · have hM := ifP hM c1
    obtain rfl := Option.some.inj hM
    exact kretv S hr hlk hK E d_Walk_enter_40
  · have hM := ifN hM c1
    refine lv_aload_n S.1 S.2.1 d_Walk_enter_10 rfl (lv_at hl 0 rfl) ?_
    refine kgf_Walk_15_2 S hK E d_Walk_enter_11 ?_
    refine lv_aload_n S.1 S.2.1 d_Walk_enter_14 rfl (lv_at hl 0 rfl) ?_
    refine kgf_Walk_26_2 S hK E d_Walk_enter_15 ?_
    refine lv_iload_n S.1 S.2.1 d_Walk_enter_18 rfl (lv_at hl 1 rfl) ?_
    obtain ⟨h2, hM⟩ := gd_inv hM
    refine kas_14 S hK E h2 d_Walk_enter_19 (fun σ3 eσ3 H locs E => ?_)
    have hM := lq_inv hM σ3 eσ3
    refine lv_aload_n S.1 S.2.1 d_Walk_enter_20 rfl (lv_at hl 0 rfl) ?_
    refine kgf_Walk_19_2 S hK E d_Walk_enter_21 ?_
    refine lv_aload_n S.1 S.2.1 d_Walk_enter_24 rfl (lv_at hl 0 rfl) ?_
    refine kgf_Walk_26_2 S hK E d_Walk_enter_25 ?_
    refine lv_iconst (v := 0) S.1 S.2.1 d_Walk_enter_28 (by decide) ?_
    obtain ⟨h4, hM⟩ := gd_inv hM
    refine kas_15 S hK E h4 d_Walk_enter_29 (fun σ5 eσ5 H locs E => ?_)
    have hM := lq_inv hM σ5 eσ5
    refine lv_aload_n S.1 S.2.1 d_Walk_enter_30 rfl (lv_at hl 0 rfl) ?_
    refine lv_dup S.1 S.2.1 d_Walk_enter_31 rfl ?_
    refine kgf_Walk_26_2 S hK E d_Walk_enter_32 ?_
    refine lv_iconst (v := 1) S.1 S.2.1 d_Walk_enter_35 (by decide) ?_
    refine lv_iadd S.1 S.2.1 d_Walk_enter_36 ?_
    refine kpf_Walk_26_2 S hK E d_Walk_enter_37 (fun σ6 eσ6 H locs E => ?_)
    have hM := lq_inv hM σ6 eσ6
    obtain rfl := Option.some.inj hM
    exact kretv S hr hlk hK E d_Walk_enter_40
set_option maxHeartbeats 4000000 in
set_option maxRecDepth 100000 in
theorem kC_Items_hasSlot {l : Launch} {D : va_G} {a : Nat → Nat} {cA : Nat → ClassId} {A : Nat → Prop} {g : Nat → Nat} {σ : St} {x1 : Int32} {x2 : Int32} {r : Int32} (hM : kM_Items_hasSlot σ x1 x2 = some r) : Met l y_Items_hasSlot (.code y_Items_hasSlot prog_3_method_16_code 3 (some .boolean) :: AW) krm_Items_hasSlot (va_Pc [.ref (a 1), .int x1, .int x2] (kCP D a cA A g σ)) (kqi D a cA A g r σ) 0 0 A := by
  refine kmet (nL := 3) (by decide) (Nat.le_of_ble_eq_true rfl) (fun S hr hlk hK E ls hl => ?_)
  have hl : lv_has ls 3 [(0, .ref (a 1)), (1, .int x1), (2, .int x2)] := hl
  unfold kM_Items_hasSlot at hM
  refine lv_iload_n S.1 S.2.1 d_Items_hasSlot_0 rfl (lv_at hl 1 rfl) ?_
  refine lv_if_lt (tgt := 30) S.1 S.2.1 d_Items_hasSlot_1 (by decide) (fun c1 => ?_) (fun c1 => ?_)
  · have hM := ifP hM c1
    refine lv_iconst (v := 0) S.1 S.2.1 d_Items_hasSlot_30 (by decide) ?_
    obtain rfl := Option.some.inj hM
    exact kretz S hr hlk hK E d_Items_hasSlot_31 rfl
  · have hM := ifN hM c1
    refine lv_iload_n S.1 S.2.1 d_Items_hasSlot_4 rfl (lv_at hl 1 rfl) ?_
    refine lv_aload_n S.1 S.2.1 d_Items_hasSlot_5 rfl (lv_at hl 0 rfl) ?_
    refine kgf_Items_37_1 S hK E d_Items_hasSlot_6 ?_
    refine lv_icmp_ge (tgt := 30) S.1 S.2.1 d_Items_hasSlot_9 (by decide) (fun c2 => ?_) (fun c2 => ?_)
    · have hM := ifP hM c2
      refine lv_iconst (v := 0) S.1 S.2.1 d_Items_hasSlot_30 (by decide) ?_
      obtain rfl := Option.some.inj hM
      exact kretz S hr hlk hK E d_Items_hasSlot_31 rfl
    · have hM := ifN hM c2
      refine lv_iload_n S.1 S.2.1 d_Items_hasSlot_12 rfl (lv_at hl 2 rfl) ?_
      refine lv_if_lt (tgt := 30) S.1 S.2.1 d_Items_hasSlot_13 (by decide) (fun c3 => ?_) (fun c3 => ?_)
      · have hM := ifP hM c3
        refine lv_iconst (v := 0) S.1 S.2.1 d_Items_hasSlot_30 (by decide) ?_
        obtain rfl := Option.some.inj hM
        exact kretz S hr hlk hK E d_Items_hasSlot_31 rfl
      · have hM := ifN hM c3
        refine lv_iload_n S.1 S.2.1 d_Items_hasSlot_16 rfl (lv_at hl 2 rfl) ?_
        refine lv_aload_n S.1 S.2.1 d_Items_hasSlot_17 rfl (lv_at hl 0 rfl) ?_
        refine kgf_Items_22_1 S hK E d_Items_hasSlot_18 ?_
        refine lv_iload_n S.1 S.2.1 d_Items_hasSlot_21 rfl (lv_at hl 1 rfl) ?_
        obtain ⟨h4, hM⟩ := gd_inv hM
        refine kal_10 S hK E h4 d_Items_hasSlot_22 ?_
        refine lv_icmp_ge (tgt := 30) S.1 S.2.1 d_Items_hasSlot_23 (by decide) (fun c5 => ?_) (fun c5 => ?_)
        · have hM := ifP hM c5
          refine lv_iconst (v := 0) S.1 S.2.1 d_Items_hasSlot_30 (by decide) ?_
          obtain rfl := Option.some.inj hM
          exact kretz S hr hlk hK E d_Items_hasSlot_31 rfl
        · have hM := ifN hM c5
          refine lv_iconst (v := 1) S.1 S.2.1 d_Items_hasSlot_26 (by decide) ?_
          refine lv_goto (tgt := 31) S.1 S.2.1 d_Items_hasSlot_27 (by decide) ?_
          obtain rfl := Option.some.inj hM
          exact kretz S hr hlk hK E d_Items_hasSlot_31 rfl
set_option maxHeartbeats 4000000 in
set_option maxRecDepth 100000 in
theorem kC_Items_kidAt {l : Launch} {D : va_G} {a : Nat → Nat} {cA : Nat → ClassId} {A : Nat → Prop} {g : Nat → Nat} {σ : St} {x1 : Int32} {x2 : Int32} {r : Int32} (hM : kM_Items_kidAt σ x1 x2 = some r) : Met l y_Items_kidAt (.code y_Items_kidAt prog_3_method_15_code 3 (some .int) :: AW) krm_Items_kidAt (va_Pc [.ref (a 1), .int x1, .int x2] (kCP D a cA A g σ)) (kqi D a cA A g r σ) 0 0 A := by
  refine kmet (nL := 3) (by decide) (Nat.le_of_ble_eq_true rfl) (fun S hr hlk hK E ls hl => ?_)
  have hl : lv_has ls 3 [(0, .ref (a 1)), (1, .int x1), (2, .int x2)] := hl
  unfold kM_Items_kidAt at hM
  refine lv_aload_n S.1 S.2.1 d_Items_kidAt_0 rfl (lv_at hl 0 rfl) ?_
  refine lv_iload_n S.1 S.2.1 d_Items_kidAt_1 rfl (lv_at hl 1 rfl) ?_
  refine lv_iload_n S.1 S.2.1 d_Items_kidAt_2 rfl (lv_at hl 2 rfl) ?_
  obtain ⟨r2, h1, hM⟩ := br_inv hM
  refine kcr_18 (As := [.int x1, .int x2]) (rest := []) S hK E (kC_Items_hasSlot h1) ⟨Nat.le_of_ble_eq_true rfl, Nat.le_of_ble_eq_true rfl⟩ rfl rfl hl.1 (lv_room (Nat.le_of_ble_eq_true rfl)) d_Items_kidAt_3 (fun H locs E => ?_)
  refine lv_if_eq (tgt := 23) S.1 S.2.1 d_Items_kidAt_6 (by decide) (fun c3 => ?_) (fun c3 => ?_)
  · have hM := ifP hM c3
    refine lv_iconst (v := (-1)) S.1 S.2.1 d_Items_kidAt_23 (by decide) ?_
    obtain rfl := Option.some.inj hM
    exact kreti S hr hlk hK E d_Items_kidAt_24
  · have hM := ifN hM c3
    refine lv_aload_n S.1 S.2.1 d_Items_kidAt_9 rfl (lv_at hl 0 rfl) ?_
    refine kgf_Items_25_1 S hK E d_Items_kidAt_10 ?_
    refine lv_iload_n S.1 S.2.1 d_Items_kidAt_13 rfl (lv_at hl 1 rfl) ?_
    refine lv_bipush (v := 40) S.1 S.2.1 d_Items_kidAt_14 (by decide) ?_
    refine lv_imul S.1 S.2.1 d_Items_kidAt_16 ?_
    refine lv_iload_n S.1 S.2.1 d_Items_kidAt_17 rfl (lv_at hl 2 rfl) ?_
    refine lv_iadd S.1 S.2.1 d_Items_kidAt_18 ?_
    obtain ⟨h4, hM⟩ := gd_inv hM
    refine kal_11 S hK E h4 d_Items_kidAt_19 ?_
    refine lv_goto (tgt := 24) S.1 S.2.1 d_Items_kidAt_20 (by decide) ?_
    obtain rfl := Option.some.inj hM
    exact kreti S hr hlk hK E d_Items_kidAt_24
set_option maxHeartbeats 4000000 in
set_option maxRecDepth 100000 in
theorem kC_Walk_meetPageAgain_Order {l : Launch} {D : va_G} {a : Nat → Nat} {cA : Nat → ClassId} {A : Nat → Prop} {g : Nat → Nat} {σ : St} {x1 : Int32} {x2 : Int32} {x3 : Int32} {r : Int32} (hM : kM_Walk_meetPageAgain_Order σ x1 x2 x3 = some r) : Met l y_Walk_meetPageAgain (.code y_Walk_meetPageAgain prog_8_method_4_code 4 (some .boolean) :: AW) krm_Walk_meetPageAgain_Order (va_Pc [.ref (a 2), .int x1, .int x2, .int x3] (kCP D a cA A g σ)) (kqi D a cA A g r σ) 0 0 A := by
  refine kmet (nL := 4) (by decide) (Nat.le_of_ble_eq_true rfl) (fun S hr hlk hK E ls hl => ?_)
  have hl : lv_has ls 4 [(0, .ref (a 2)), (1, .int x1), (2, .int x2), (3, .int x3)] := hl
  unfold kM_Walk_meetPageAgain_Order at hM
  refine lv_iconst (v := 1) S.1 S.2.1 d_Walk_meetPageAgain_0 (by decide) ?_
  obtain rfl := Option.some.inj hM
  exact kretz S hr hlk hK E d_Walk_meetPageAgain_1 rfl
set_option maxHeartbeats 4000000 in
set_option maxRecDepth 100000 in
theorem kC_Walk_meetNodeAgain_Order {l : Launch} {D : va_G} {a : Nat → Nat} {cA : Nat → ClassId} {A : Nat → Prop} {g : Nat → Nat} {σ : St} {x1 : Int32} {x2 : Int32} {x3 : Int32} {r : Int32} (hM : kM_Walk_meetNodeAgain_Order σ x1 x2 x3 = some r) : Met l y_Walk_meetNodeAgain (.code y_Walk_meetNodeAgain prog_8_method_3_code 4 (some .boolean) :: AW) krm_Walk_meetNodeAgain_Order (va_Pc [.ref (a 2), .int x1, .int x2, .int x3] (kCP D a cA A g σ)) (kqi D a cA A g r σ) 0 0 A := by
  refine kmet (nL := 4) (by decide) (Nat.le_of_ble_eq_true rfl) (fun S hr hlk hK E ls hl => ?_)
  have hl : lv_has ls 4 [(0, .ref (a 2)), (1, .int x1), (2, .int x2), (3, .int x3)] := hl
  unfold kM_Walk_meetNodeAgain_Order at hM
  refine lv_iconst (v := 1) S.1 S.2.1 d_Walk_meetNodeAgain_0 (by decide) ?_
  obtain rfl := Option.some.inj hM
  exact kretz S hr hlk hK E d_Walk_meetNodeAgain_1 rfl
set_option maxHeartbeats 4000000 in
set_option maxRecDepth 100000 in
theorem kC_Order_meetFirst {l : Launch} {D : va_G} {a : Nat → Nat} {cA : Nat → ClassId} {A : Nat → Prop} {g : Nat → Nat} {σ σ2 : St} {x1 : Int32} {x2 : Int32} {x3 : Int32} (hM : kM_Order_meetFirst σ x1 x2 x3 = some σ2) : Met l y_Order_meetFirst (.code y_Order_meetFirst prog_7_method_3_code 4 none :: AW) krm_Order_meetFirst (va_Pc [.ref (a 2), .int x1, .int x2, .int x3] (kCP D a cA A g σ)) (kqv D a cA A g σ2) 0 0 A := by
  refine kmet (nL := 4) (by decide) (Nat.le_of_ble_eq_true rfl) (fun S hr hlk hK E ls hl => ?_)
  have hl : lv_has ls 4 [(0, .ref (a 2)), (1, .int x1), (2, .int x2), (3, .int x3)] := hl
  unfold kM_Order_meetFirst at hM
  refine lv_aload_n S.1 S.2.1 d_Order_meetFirst_0 rfl (lv_at hl 0 rfl) ?_
  refine kgf_Order_28_2 S hK E d_Order_meetFirst_1 ?_
  refine lv_iload_n S.1 S.2.1 d_Order_meetFirst_4 rfl (lv_at hl 3 rfl) ?_
  obtain ⟨r2, h1, hM⟩ := br_inv hM
  refine kcr_19 (As := [.int x3]) (rest := []) S hK E (kC_Items_isPage h1) ⟨Nat.le_of_ble_eq_true rfl, Nat.le_of_ble_eq_true rfl⟩ rfl rfl hl.1 (lv_room (Nat.le_of_ble_eq_true rfl)) d_Order_meetFirst_5 (fun H locs E => ?_)
  refine lv_if_eq (tgt := 65) S.1 S.2.1 d_Order_meetFirst_8 (by decide) (fun c3 => ?_) (fun c3 => ?_)
  · have hM := ifP hM c3
    obtain rfl := Option.some.inj hM
    exact kretv S hr hlk hK E d_Order_meetFirst_65
  · have hM := ifN hM c3
    refine lv_aload_n S.1 S.2.1 d_Order_meetFirst_11 rfl (lv_at hl 0 rfl) ?_
    refine kgf_Order_38_2 S hK E d_Order_meetFirst_12 ?_
    refine lv_sipush (v := 200) S.1 S.2.1 d_Order_meetFirst_15 (by decide) ?_
    refine lv_icmp_ge (tgt := 65) S.1 S.2.1 d_Order_meetFirst_18 (by decide) (fun c4 => ?_) (fun c4 => ?_)
    · have hM := ifP hM c4
      obtain rfl := Option.some.inj hM
      exact kretv S hr hlk hK E d_Order_meetFirst_65
    · have hM := ifN hM c4
      refine lv_aload_n S.1 S.2.1 d_Order_meetFirst_21 rfl (lv_at hl 0 rfl) ?_
      refine kgf_Order_9_2 S hK E d_Order_meetFirst_22 ?_
      refine lv_aload_n S.1 S.2.1 d_Order_meetFirst_25 rfl (lv_at hl 0 rfl) ?_
      refine kgf_Order_38_2 S hK E d_Order_meetFirst_26 ?_
      refine lv_iload_n S.1 S.2.1 d_Order_meetFirst_29 rfl (lv_at hl 3 rfl) ?_
      obtain ⟨h5, hM⟩ := gd_inv hM
      refine kas_16 S hK E h5 d_Order_meetFirst_30 (fun σ6 eσ6 H locs E => ?_)
      have hM := lq_inv hM σ6 eσ6
      refine lv_aload_n S.1 S.2.1 d_Order_meetFirst_31 rfl (lv_at hl 0 rfl) ?_
      refine kgf_Order_15_2 S hK E d_Order_meetFirst_32 ?_
      refine lv_iload_n S.1 S.2.1 d_Order_meetFirst_35 rfl (lv_at hl 3 rfl) ?_
      refine lv_aload_n S.1 S.2.1 d_Order_meetFirst_36 rfl (lv_at hl 0 rfl) ?_
      refine kgf_Order_38_2 S hK E d_Order_meetFirst_37 ?_
      obtain ⟨h7, hM⟩ := gd_inv hM
      refine kas_17 S hK E h7 d_Order_meetFirst_40 (fun σ8 eσ8 H locs E => ?_)
      have hM := lq_inv hM σ8 eσ8
      refine lv_aload_n S.1 S.2.1 d_Order_meetFirst_41 rfl (lv_at hl 0 rfl) ?_
      refine kgf_Order_18_2 S hK E d_Order_meetFirst_42 ?_
      refine lv_iload_n S.1 S.2.1 d_Order_meetFirst_45 rfl (lv_at hl 3 rfl) ?_
      refine lv_iload_n S.1 S.2.1 d_Order_meetFirst_46 rfl (lv_at hl 1 rfl) ?_
      obtain ⟨h9, hM⟩ := gd_inv hM
      refine kas_18 S hK E h9 d_Order_meetFirst_47 (fun σ10 eσ10 H locs E => ?_)
      have hM := lq_inv hM σ10 eσ10
      refine lv_aload_n S.1 S.2.1 d_Order_meetFirst_48 rfl (lv_at hl 0 rfl) ?_
      refine kgf_Order_21_2 S hK E d_Order_meetFirst_49 ?_
      refine lv_iload_n S.1 S.2.1 d_Order_meetFirst_52 rfl (lv_at hl 3 rfl) ?_
      refine lv_iload_n S.1 S.2.1 d_Order_meetFirst_53 rfl (lv_at hl 2 rfl) ?_
      obtain ⟨h11, hM⟩ := gd_inv hM
      refine kas_19 S hK E h11 d_Order_meetFirst_54 (fun σ12 eσ12 H locs E => ?_)
      have hM := lq_inv hM σ12 eσ12
      refine lv_aload_n S.1 S.2.1 d_Order_meetFirst_55 rfl (lv_at hl 0 rfl) ?_
      refine lv_dup S.1 S.2.1 d_Order_meetFirst_56 rfl ?_
      refine kgf_Order_38_2 S hK E d_Order_meetFirst_57 ?_
      refine lv_iconst (v := 1) S.1 S.2.1 d_Order_meetFirst_60 (by decide) ?_
      refine lv_iadd S.1 S.2.1 d_Order_meetFirst_61 ?_
      refine kpf_Order_38_2 S hK E d_Order_meetFirst_62 (fun σ13 eσ13 H locs E => ?_)
      have hM := lq_inv hM σ13 eσ13
      obtain rfl := Option.some.inj hM
      exact kretv S hr hlk hK E d_Order_meetFirst_65
set_option maxHeartbeats 4000000 in
set_option maxRecDepth 100000 in
theorem kB_Walk_meet_Order_41 {p : Program} {l : Launch} {e : Env} {s : State} {m : MethodId} {args : Array Value} {below : List Frame} {meth : Method} {c : Code} {D : va_G} {a : Nat → Nat} {cA : Nat → ClassId} {A : Nat → Prop} {g : Nat → Nat} {σ2 : St} {r : Int32} (S : CallFix p m c prog_8_method_7_code 6 s args AW R_Walk) (hr : meth.sig.returnType = (some .int)) (hlk : meth.locks = false) (hK : kKX D cA A g s s.heap) : ∀ (σ : St) (v2 : Int32) (t0 : Int32) (H : Heap) (locs : List Loc) (ls : Array Slot), kEx D a cA A σ s.heap H locs → lv_has ls 6 [(2, .int v2)] → kJ_Walk_meet_Order_41 σ v2 t0 = some (r, σ2) → W p l e krm_Walk_meet_Order s m args below meth c H locs 0 0 (MQ below (kqi D a cA A g r σ2) args s 0 0 A) (F0 m 41 ls [.int t0]) := by
  intro σ v2 t0 H locs ls E hl hM
  unfold kJ_Walk_meet_Order_41 at hM
  refine lv_istore (lv' := [(5, .int t0), (2, .int v2)]) S.1 S.2.1 d_Walk_meet_41 hl (by decide) rfl (fun ls hl => ?_)
  refine lv_iload S.1 S.2.1 d_Walk_meet_43 (lv_at hl 0 rfl) ?_
  refine lv_if_eq (tgt := 54) S.1 S.2.1 d_Walk_meet_45 (by decide) (fun c1 => ?_) (fun c1 => ?_)
  · have hM := ifP hM c1
    refine lv_iload_n S.1 S.2.1 d_Walk_meet_54 rfl (lv_at hl 1 rfl) ?_
    obtain ⟨rfl, rfl⟩ := pr_inj hM
    exact kreti S hr hlk hK E d_Walk_meet_55
  · have hM := ifN hM c1
    refine lv_iload_n S.1 S.2.1 d_Walk_meet_48 rfl (lv_at hl 1 rfl) ?_
    refine lv_iconst (v := 1) S.1 S.2.1 d_Walk_meet_49 (by decide) ?_
    refine lv_iadd S.1 S.2.1 d_Walk_meet_50 ?_
    refine lv_goto (tgt := 55) S.1 S.2.1 d_Walk_meet_51 (by decide) ?_
    obtain ⟨rfl, rfl⟩ := pr_inj hM
    exact kreti S hr hlk hK E d_Walk_meet_55
set_option maxHeartbeats 4000000 in
set_option maxRecDepth 100000 in
theorem kC_Walk_meet_Order {l : Launch} {D : va_G} {a : Nat → Nat} {cA : Nat → ClassId} {A : Nat → Prop} {g : Nat → Nat} {σ σ2 : St} {x1 : Int32} {x2 : Int32} {x3 : Int32} {r : Int32} (hM : kM_Walk_meet_Order σ x1 x2 x3 = some (r, σ2)) : Met l y_Walk_meet (.code y_Walk_meet prog_8_method_7_code 6 (some .int) :: AW) krm_Walk_meet_Order (va_Pc [.ref (a 2), .int x1, .int x2, .int x3] (kCP D a cA A g σ)) (kqi D a cA A g r σ2) 0 0 A := by
  refine kmet (nL := 6) (by decide) (Nat.le_of_ble_eq_true rfl) (fun S hr hlk hK E ls hl => ?_)
  have hl : lv_has ls 6 [(0, .ref (a 2)), (1, .int x1), (2, .int x2), (3, .int x3)] := hl
  unfold kM_Walk_meet_Order at hM
  refine lv_aload_n S.1 S.2.1 d_Walk_meet_0 rfl (lv_at hl 0 rfl) ?_
  refine kgf_Walk_22_2 S hK E d_Walk_meet_1 ?_
  refine lv_iload_n S.1 S.2.1 d_Walk_meet_4 rfl (lv_at hl 3 rfl) ?_
  obtain ⟨r2, h1, hM⟩ := br_inv hM
  refine kcr_20 (As := [.int x3]) (rest := []) S hK E (kC_Items_isPage h1) ⟨Nat.le_of_ble_eq_true rfl, Nat.le_of_ble_eq_true rfl⟩ rfl rfl hl.1 (lv_room (Nat.le_of_ble_eq_true rfl)) d_Walk_meet_5 (fun H locs E => ?_)
  refine lv_istore (lv' := [(4, .int r2), (0, .ref (a 2)), (1, .int x1), (2, .int x2), (3, .int x3)]) S.1 S.2.1 d_Walk_meet_8 hl (by decide) rfl (fun ls hl => ?_)
  refine lv_aload_n S.1 S.2.1 d_Walk_meet_10 rfl (lv_at hl 1 rfl) ?_
  refine kgf_Walk_9_2 S hK E d_Walk_meet_11 ?_
  refine lv_iload_n S.1 S.2.1 d_Walk_meet_14 rfl (lv_at hl 4 rfl) ?_
  obtain ⟨h3, hM⟩ := gd_inv hM
  refine kal_13 S hK E h3 d_Walk_meet_15 ?_
  refine lv_if_eq (tgt := 56) S.1 S.2.1 d_Walk_meet_16 (by decide) (fun c4 => ?_) (fun c4 => ?_)
  · have hM := ifP hM c4
    refine lv_aload_n S.1 S.2.1 d_Walk_meet_56 rfl (lv_at hl 1 rfl) ?_
    refine lv_iload_n S.1 S.2.1 d_Walk_meet_57 rfl (lv_at hl 2 rfl) ?_
    refine lv_iload_n S.1 S.2.1 d_Walk_meet_58 rfl (lv_at hl 3 rfl) ?_
    refine lv_iload_n S.1 S.2.1 d_Walk_meet_59 rfl (lv_at hl 4 rfl) ?_
    obtain ⟨σ6, h5, hM⟩ := bv_inv hM
    refine kcr_21 (As := [.int x1, .int x2, .int x3]) (rest := []) S hK E (kC_Order_meetFirst h5) ⟨Nat.le_of_ble_eq_true rfl, Nat.le_of_ble_eq_true rfl⟩ rfl rfl hl.1 (lv_room (Nat.le_of_ble_eq_true rfl)) d_Walk_meet_60 (fun H locs E => ?_)
    refine lv_aload_n S.1 S.2.1 d_Walk_meet_63 rfl (lv_at hl 1 rfl) ?_
    refine kgf_Walk_9_2 S hK E d_Walk_meet_64 ?_
    refine lv_iload_n S.1 S.2.1 d_Walk_meet_67 rfl (lv_at hl 4 rfl) ?_
    refine lv_iconst (v := 1) S.1 S.2.1 d_Walk_meet_68 (by decide) ?_
    obtain ⟨h7, hM⟩ := gd_inv hM
    refine kas_13 S hK E h7 d_Walk_meet_69 (fun σ8 eσ8 H locs E => ?_)
    have hM := lq_inv hM σ8 eσ8
    refine lv_iload S.1 S.2.1 d_Walk_meet_70 (lv_at hl 0 rfl) ?_
    refine lv_if_ne (tgt := 80) S.1 S.2.1 d_Walk_meet_72 (by decide) (fun c9 => ?_) (fun c9 => ?_)
    · have hM := ifN hM c9
      refine lv_iload_n S.1 S.2.1 d_Walk_meet_80 rfl (lv_at hl 3 rfl) ?_
      refine lv_iconst (v := 1) S.1 S.2.1 d_Walk_meet_81 (by decide) ?_
      refine lv_iadd S.1 S.2.1 d_Walk_meet_82 ?_
      obtain ⟨rfl, rfl⟩ := pr_inj hM
      exact kreti S hr hlk hK E d_Walk_meet_83
    · have hM := ifP hM c9
      refine lv_aload_n S.1 S.2.1 d_Walk_meet_75 rfl (lv_at hl 1 rfl) ?_
      refine lv_iload_n S.1 S.2.1 d_Walk_meet_76 rfl (lv_at hl 4 rfl) ?_
      obtain ⟨σ11, h10, hM⟩ := bv_inv hM
      refine kcr_22 (As := [.int x3]) (rest := []) S hK E (kC_Walk_enter_Order h10) ⟨Nat.le_of_ble_eq_true rfl, Nat.le_of_ble_eq_true rfl⟩ rfl rfl hl.1 (lv_room (Nat.le_of_ble_eq_true rfl)) d_Walk_meet_77 (fun H locs E => ?_)
      refine lv_iload_n S.1 S.2.1 d_Walk_meet_80 rfl (lv_at hl 3 rfl) ?_
      refine lv_iconst (v := 1) S.1 S.2.1 d_Walk_meet_81 (by decide) ?_
      refine lv_iadd S.1 S.2.1 d_Walk_meet_82 ?_
      obtain ⟨rfl, rfl⟩ := pr_inj hM
      exact kreti S hr hlk hK E d_Walk_meet_83
  · have hM := ifN hM c4
    refine lv_iload S.1 S.2.1 d_Walk_meet_19 (lv_at hl 0 rfl) ?_
    refine lv_if_eq (tgt := 34) S.1 S.2.1 d_Walk_meet_21 (by decide) (fun c12 => ?_) (fun c12 => ?_)
    · have hM := ifP hM c12
      refine lv_aload_n S.1 S.2.1 d_Walk_meet_34 rfl (lv_at hl 1 rfl) ?_
      refine lv_iload_n S.1 S.2.1 d_Walk_meet_35 rfl (lv_at hl 2 rfl) ?_
      refine lv_iload_n S.1 S.2.1 d_Walk_meet_36 rfl (lv_at hl 3 rfl) ?_
      refine lv_iload_n S.1 S.2.1 d_Walk_meet_37 rfl (lv_at hl 4 rfl) ?_
      obtain ⟨r14, h13, hM⟩ := br_inv hM
      refine kcr_23 (As := [.int x1, .int x2, .int x3]) (rest := []) S hK E (kC_Walk_meetNodeAgain_Order h13) ⟨Nat.le_of_ble_eq_true rfl, Nat.le_of_ble_eq_true rfl⟩ rfl rfl hl.1 (lv_room (Nat.le_of_ble_eq_true rfl)) d_Walk_meet_38 (fun H locs E => ?_)
      exact kB_Walk_meet_Order_41 S hr hlk hK _ _ _ _ _ _ E (lv_sub hl [3] rfl) hM
    · have hM := ifN hM c12
      refine lv_aload_n S.1 S.2.1 d_Walk_meet_24 rfl (lv_at hl 1 rfl) ?_
      refine lv_iload_n S.1 S.2.1 d_Walk_meet_25 rfl (lv_at hl 2 rfl) ?_
      refine lv_iload_n S.1 S.2.1 d_Walk_meet_26 rfl (lv_at hl 3 rfl) ?_
      refine lv_iload_n S.1 S.2.1 d_Walk_meet_27 rfl (lv_at hl 4 rfl) ?_
      obtain ⟨r16, h15, hM⟩ := br_inv hM
      refine kcr_24 (As := [.int x1, .int x2, .int x3]) (rest := []) S hK E (kC_Walk_meetPageAgain_Order h15) ⟨Nat.le_of_ble_eq_true rfl, Nat.le_of_ble_eq_true rfl⟩ rfl rfl hl.1 (lv_room (Nat.le_of_ble_eq_true rfl)) d_Walk_meet_28 (fun H locs E => ?_)
      refine lv_goto (tgt := 41) S.1 S.2.1 d_Walk_meet_31 (by decide) ?_
      exact kB_Walk_meet_Order_41 S hr hlk hK _ _ _ _ _ _ E (lv_sub hl [3] rfl) hM
set_option maxHeartbeats 4000000 in
set_option maxRecDepth 100000 in
theorem kC_Walk_leave_Order {l : Launch} {D : va_G} {a : Nat → Nat} {cA : Nat → ClassId} {A : Nat → Prop} {g : Nat → Nat} {σ σ2 : St} {x1 : Int32} (hM : kM_Walk_leave_Order σ x1 = some σ2) : Met l y_Walk_leave (.code y_Walk_leave prog_8_method_5_code 2 none :: AW) krm_Walk_leave_Order (va_Pc [.ref (a 2), .int x1] (kCP D a cA A g σ)) (kqv D a cA A g σ2) 0 0 A := by
  refine kmet (nL := 2) (by decide) (Nat.le_of_ble_eq_true rfl) (fun S hr hlk hK E ls hl => ?_)
  have hl : lv_has ls 2 [(0, .ref (a 2)), (1, .int x1)] := hl
  unfold kM_Walk_leave_Order at hM
  obtain rfl := Option.some.inj hM
  exact kretv S hr hlk hK E d_Walk_leave_0
set_option maxHeartbeats 4000000 in
set_option maxRecDepth 100000 in
theorem kB_Walk_walkAll_Order_144 {p : Program} {l : Launch} {e : Env} {s : State} {m : MethodId} {args : Array Value} {below : List Frame} {meth : Method} {c : Code} {D : va_G} {a : Nat → Nat} {cA : Nat → ClassId} {A : Nat → Prop} {g : Nat → Nat} {σ2 : St} (S : CallFix p m c prog_8_method_6_code 6 s args AW R_Walk) (hr : meth.sig.returnType = none) (hlk : meth.locks = false) (hK : kKX D cA A g s s.heap) {k51 : St → Int32 → Option (St)} (hk51 : ∀ (σ : St) (v1 : Int32) (H : Heap) (locs : List Loc) (ls : Array Slot), kEx D a cA A σ s.heap H locs → lv_has ls 6 [(0, .ref (a 2)), (1, .int v1)] → k51 σ v1 = some σ2 → W p l e krm_Walk_walkAll_Order s m args below meth c H locs 0 0 (MQ below (kqv D a cA A g σ2) args s 0 0 A) (F0 m 51 ls [])) : ∀ (σ : St) (v1 : Int32) (H : Heap) (locs : List Loc) (ls : Array Slot), kEx D a cA A σ s.heap H locs → lv_has ls 6 [(0, .ref (a 2)), (1, .int v1)] → kJ_Walk_walkAll_Order_144 k51 σ v1 = some σ2 → W p l e krm_Walk_walkAll_Order s m args below meth c H locs 0 0 (MQ below (kqv D a cA A g σ2) args s 0 0 A) (F0 m 144 ls []) := by
  intro σ v1 H locs ls E hl hM
  unfold kJ_Walk_walkAll_Order_144 at hM
  obtain ⟨y1, ey1⟩ : ∃ z : Int32, z = v1 + 1 := ⟨_, rfl⟩
  have hM := lq_inv hM y1 ey1
  refine lv_iinc (v := y1) (lv' := [(1, .int y1), (0, .ref (a 2))]) S.1 S.2.1 d_Walk_walkAll_144 hl (k := 1) rfl (by rw [ey1]; rfl) (by decide) rfl (fun ls hl => ?_)
  refine lv_goto (tgt := 51) S.1 S.2.1 d_Walk_walkAll_147 (by decide) ?_
  exact hk51 _ _ _ _ _ E (lv_sub hl [1, 0] rfl) hM
set_option maxHeartbeats 4000000 in
set_option maxRecDepth 100000 in
theorem kB_Walk_walkAll_Order_51 {p : Program} {l : Launch} {e : Env} {s : State} {m : MethodId} {args : Array Value} {below : List Frame} {meth : Method} {c : Code} {D : va_G} {a : Nat → Nat} {cA : Nat → ClassId} {A : Nat → Prop} {g : Nat → Nat} {σ2 : St} (S : CallFix p m c prog_8_method_6_code 6 s args AW R_Walk) (hr : meth.sig.returnType = none) (hlk : meth.locks = false) (hK : kKX D cA A g s s.heap) : ∀ (n : Nat) (σ : St) (v1 : Int32) (H : Heap) (locs : List Loc) (ls : Array Slot), kEx D a cA A σ s.heap H locs → lv_has ls 6 [(0, .ref (a 2)), (1, .int v1)] → kL_Walk_walkAll_Order_51 n σ v1 = some σ2 → W p l e krm_Walk_walkAll_Order s m args below meth c H locs 0 0 (MQ below (kqv D a cA A g σ2) args s 0 0 A) (F0 m 51 ls []) := by
  intro n
  induction n with
  | zero =>
    intro σ v1 H locs ls E hl hM
    rw [kL_Walk_walkAll_Order_51] at hM
    cases hM
  | succ n ih =>
    intro σ v1 H locs ls E hl hM
    rw [kL_Walk_walkAll_Order_51] at hM
    refine lv_iload_n S.1 S.2.1 d_Walk_walkAll_51 rfl (lv_at hl 1 rfl) ?_
    refine lv_sipush (v := 8200) S.1 S.2.1 d_Walk_walkAll_52 (by decide) ?_
    refine lv_icmp_ge (tgt := 150) S.1 S.2.1 d_Walk_walkAll_55 (by decide) (fun c1 => ?_) (fun c1 => ?_)
    · have hM := ifP hM c1
      obtain rfl := Option.some.inj hM
      exact kretv S hr hlk hK E d_Walk_walkAll_150
    · have hM := ifN hM c1
      refine lv_aload_n S.1 S.2.1 d_Walk_walkAll_58 rfl (lv_at hl 0 rfl) ?_
      refine kgf_Walk_26_2 S hK E d_Walk_walkAll_59 ?_
      refine lv_if_le (tgt := 150) S.1 S.2.1 d_Walk_walkAll_62 (by decide) (fun c2 => ?_) (fun c2 => ?_)
      · have hM := ifP hM c2
        obtain rfl := Option.some.inj hM
        exact kretv S hr hlk hK E d_Walk_walkAll_150
      · have hM := ifN hM c2
        refine lv_aload_n S.1 S.2.1 d_Walk_walkAll_65 rfl (lv_at hl 0 rfl) ?_
        refine kgf_Walk_26_2 S hK E d_Walk_walkAll_66 ?_
        refine lv_iconst (v := 1) S.1 S.2.1 d_Walk_walkAll_69 (by decide) ?_
        refine lv_isub S.1 S.2.1 d_Walk_walkAll_70 ?_
        refine lv_topi (fun y3 ey3 => ?_)
        have hM := lq_inv hM y3 ey3
        refine lv_istore_n (lv' := [(2, .int y3), (0, .ref (a 2)), (1, .int v1)]) S.1 S.2.1 d_Walk_walkAll_71 rfl hl (by decide) rfl (fun ls hl => ?_)
        refine lv_aload_n S.1 S.2.1 d_Walk_walkAll_72 rfl (lv_at hl 1 rfl) ?_
        refine kgf_Walk_15_2 S hK E d_Walk_walkAll_73 ?_
        refine lv_iload_n S.1 S.2.1 d_Walk_walkAll_76 rfl (lv_at hl 0 rfl) ?_
        obtain ⟨h4, hM⟩ := gd_inv hM
        refine kal_14 S hK E h4 d_Walk_walkAll_77 ?_
        refine lv_topi (fun y5 ey5 => ?_)
        have hM := lq_inv hM y5 ey5
        refine lv_istore_n (lv' := [(3, .int y5), (2, .int y3), (0, .ref (a 2)), (1, .int v1)]) S.1 S.2.1 d_Walk_walkAll_78 rfl hl (by decide) rfl (fun ls hl => ?_)
        refine lv_aload_n S.1 S.2.1 d_Walk_walkAll_79 rfl (lv_at hl 2 rfl) ?_
        refine kgf_Walk_19_2 S hK E d_Walk_walkAll_80 ?_
        refine lv_iload_n S.1 S.2.1 d_Walk_walkAll_83 rfl (lv_at hl 1 rfl) ?_
        obtain ⟨h6, hM⟩ := gd_inv hM
        refine kal_15 S hK E h6 d_Walk_walkAll_84 ?_
        refine lv_topi (fun y7 ey7 => ?_)
        have hM := lq_inv hM y7 ey7
        refine lv_istore (lv' := [(4, .int y7), (3, .int y5), (2, .int y3), (0, .ref (a 2)), (1, .int v1)]) S.1 S.2.1 d_Walk_walkAll_85 hl (by decide) rfl (fun ls hl => ?_)
        refine lv_aload_n S.1 S.2.1 d_Walk_walkAll_87 rfl (lv_at hl 3 rfl) ?_
        refine kgf_Walk_22_2 S hK E d_Walk_walkAll_88 ?_
        refine lv_iload_n S.1 S.2.1 d_Walk_walkAll_91 rfl (lv_at hl 1 rfl) ?_
        refine lv_iload S.1 S.2.1 d_Walk_walkAll_92 (lv_at hl 0 rfl) ?_
        obtain ⟨r9, h8, hM⟩ := br_inv hM
        refine kcr_25 (As := [.int y5, .int y7]) (rest := []) S hK E (kC_Items_kidAt h8) ⟨Nat.le_of_ble_eq_true rfl, Nat.le_of_ble_eq_true rfl⟩ rfl rfl hl.1 (lv_room (Nat.le_of_ble_eq_true rfl)) d_Walk_walkAll_94 (fun H locs E => ?_)
        refine lv_istore (lv' := [(5, .int r9), (4, .int y7), (3, .int y5), (2, .int y3), (0, .ref (a 2)), (1, .int v1)]) S.1 S.2.1 d_Walk_walkAll_97 hl (by decide) rfl (fun ls hl => ?_)
        refine lv_aload_n S.1 S.2.1 d_Walk_walkAll_99 rfl (lv_at hl 4 rfl) ?_
        refine kgf_Walk_22_2 S hK E d_Walk_walkAll_100 ?_
        refine lv_iload S.1 S.2.1 d_Walk_walkAll_103 (lv_at hl 0 rfl) ?_
        obtain ⟨r11, h10, hM⟩ := br_inv hM
        refine kcr_26 (As := [.int r9]) (rest := []) S hK E (kC_Items_isKnown h10) ⟨Nat.le_of_ble_eq_true rfl, Nat.le_of_ble_eq_true rfl⟩ rfl rfl hl.1 (lv_room (Nat.le_of_ble_eq_true rfl)) d_Walk_walkAll_105 (fun H locs E => ?_)
        refine lv_if_eq (tgt := 129) S.1 S.2.1 d_Walk_walkAll_108 (by decide) (fun c12 => ?_) (fun c12 => ?_)
        · have hM := ifP hM c12
          refine lv_aload_n S.1 S.2.1 d_Walk_walkAll_129 rfl (lv_at hl 4 rfl) ?_
          refine lv_iload_n S.1 S.2.1 d_Walk_walkAll_130 rfl (lv_at hl 2 rfl) ?_
          obtain ⟨σ14, h13, hM⟩ := bv_inv hM
          refine kcr_27 (As := [.int y5]) (rest := []) S hK E (kC_Walk_leave_Order h13) ⟨Nat.le_of_ble_eq_true rfl, Nat.le_of_ble_eq_true rfl⟩ rfl rfl hl.1 (lv_room (Nat.le_of_ble_eq_true rfl)) d_Walk_walkAll_131 (fun H locs E => ?_)
          refine lv_aload_n S.1 S.2.1 d_Walk_walkAll_134 rfl (lv_at hl 4 rfl) ?_
          refine lv_dup S.1 S.2.1 d_Walk_walkAll_135 rfl ?_
          refine kgf_Walk_26_2 S hK E d_Walk_walkAll_136 ?_
          refine lv_iconst (v := 1) S.1 S.2.1 d_Walk_walkAll_139 (by decide) ?_
          refine lv_isub S.1 S.2.1 d_Walk_walkAll_140 ?_
          refine kpf_Walk_26_2 S hK E d_Walk_walkAll_141 (fun σ15 eσ15 H locs E => ?_)
          have hM := lq_inv hM σ15 eσ15
          exact kB_Walk_walkAll_Order_144 S hr hlk hK ih _ _ _ _ _ E (lv_sub hl [4, 5] rfl) hM
        · have hM := ifN hM c12
          refine lv_aload_n S.1 S.2.1 d_Walk_walkAll_111 rfl (lv_at hl 4 rfl) ?_
          refine kgf_Walk_19_2 S hK E d_Walk_walkAll_112 ?_
          refine lv_iload_n S.1 S.2.1 d_Walk_walkAll_115 rfl (lv_at hl 3 rfl) ?_
          refine lv_aload_n S.1 S.2.1 d_Walk_walkAll_116 rfl (lv_at hl 4 rfl) ?_
          refine lv_iload_n S.1 S.2.1 d_Walk_walkAll_117 rfl (lv_at hl 2 rfl) ?_
          refine lv_iload S.1 S.2.1 d_Walk_walkAll_118 (lv_at hl 1 rfl) ?_
          refine lv_iload S.1 S.2.1 d_Walk_walkAll_120 (lv_at hl 0 rfl) ?_
          obtain ⟨r17, σ18, h16, hM⟩ := bd_inv hM
          refine kcr_28 (As := [.int y5, .int y7, .int r9]) (rest := [.int y3, .ref (a 15)]) S hK E (kC_Walk_meet_Order h16) ⟨Nat.le_of_ble_eq_true rfl, Nat.le_of_ble_eq_true rfl⟩ rfl rfl hl.1 (lv_room (Nat.le_of_ble_eq_true rfl)) d_Walk_walkAll_122 (fun H locs E => ?_)
          obtain ⟨h19, hM⟩ := gd_inv hM
          refine kas_15 S hK E h19 d_Walk_walkAll_125 (fun σ20 eσ20 H locs E => ?_)
          have hM := lq_inv hM σ20 eσ20
          refine lv_goto (tgt := 144) S.1 S.2.1 d_Walk_walkAll_126 (by decide) ?_
          exact kB_Walk_walkAll_Order_144 S hr hlk hK ih _ _ _ _ _ E (lv_sub hl [4, 5] rfl) hM
set_option maxHeartbeats 4000000 in
set_option maxRecDepth 100000 in
theorem kB_Walk_walkAll_Order_49 {p : Program} {l : Launch} {e : Env} {s : State} {m : MethodId} {args : Array Value} {below : List Frame} {meth : Method} {c : Code} {D : va_G} {a : Nat → Nat} {cA : Nat → ClassId} {A : Nat → Prop} {g : Nat → Nat} {σ2 : St} (S : CallFix p m c prog_8_method_6_code 6 s args AW R_Walk) (hr : meth.sig.returnType = none) (hlk : meth.locks = false) (hK : kKX D cA A g s s.heap) : ∀ (σ : St) (H : Heap) (locs : List Loc) (ls : Array Slot), kEx D a cA A σ s.heap H locs → lv_has ls 6 [(0, .ref (a 2))] → kJ_Walk_walkAll_Order_49 σ = some σ2 → W p l e krm_Walk_walkAll_Order s m args below meth c H locs 0 0 (MQ below (kqv D a cA A g σ2) args s 0 0 A) (F0 m 49 ls []) := by
  intro σ H locs ls E hl hM
  unfold kJ_Walk_walkAll_Order_49 at hM
  refine lv_iconst (v := 0) S.1 S.2.1 d_Walk_walkAll_49 (by decide) ?_
  refine lv_istore_n (lv' := [(1, .int 0), (0, .ref (a 2))]) S.1 S.2.1 d_Walk_walkAll_50 rfl hl (by decide) rfl (fun ls hl => ?_)
  exact kB_Walk_walkAll_Order_51 S hr hlk hK _ _ _ _ _ _ E (lv_sub hl [1, 0] rfl) hM
set_option maxHeartbeats 4000000 in
set_option maxRecDepth 100000 in
theorem kB_Walk_walkAll_Order_22 {p : Program} {l : Launch} {e : Env} {s : State} {m : MethodId} {args : Array Value} {below : List Frame} {meth : Method} {c : Code} {D : va_G} {a : Nat → Nat} {cA : Nat → ClassId} {A : Nat → Prop} {g : Nat → Nat} {σ2 : St} (S : CallFix p m c prog_8_method_6_code 6 s args AW R_Walk) (hr : meth.sig.returnType = none) (hlk : meth.locks = false) (hK : kKX D cA A g s s.heap) : ∀ (σ : St) (H : Heap) (locs : List Loc) (ls : Array Slot), kEx D a cA A σ s.heap H locs → lv_has ls 6 [(0, .ref (a 2))] → kJ_Walk_walkAll_Order_22 σ = some σ2 → W p l e krm_Walk_walkAll_Order s m args below meth c H locs 0 0 (MQ below (kqv D a cA A g σ2) args s 0 0 A) (F0 m 22 ls []) := by
  intro σ H locs ls E hl hM
  unfold kJ_Walk_walkAll_Order_22 at hM
  refine lv_aload_n S.1 S.2.1 d_Walk_walkAll_22 rfl (lv_at hl 0 rfl) ?_
  refine lv_iconst (v := 0) S.1 S.2.1 d_Walk_walkAll_23 (by decide) ?_
  refine kpf_Walk_26_2 S hK E d_Walk_walkAll_24 (fun σ1 eσ1 H locs E => ?_)
  have hM := lq_inv hM σ1 eσ1
  refine lv_aload_n S.1 S.2.1 d_Walk_walkAll_27 rfl (lv_at hl 0 rfl) ?_
  refine kgf_Walk_22_2 S hK E d_Walk_walkAll_28 ?_
  obtain ⟨r3, h2, hM⟩ := br_inv hM
  refine kcr_29 (As := []) (rest := []) S hK E (kC_Items_size h2) ⟨Nat.le_of_ble_eq_true rfl, Nat.le_of_ble_eq_true rfl⟩ rfl rfl hl.1 (lv_room (Nat.le_of_ble_eq_true rfl)) d_Walk_walkAll_31 (fun H locs E => ?_)
  refine lv_if_le (tgt := 49) S.1 S.2.1 d_Walk_walkAll_34 (by decide) (fun c4 => ?_) (fun c4 => ?_)
  · have hM := ifP hM c4
    exact kB_Walk_walkAll_Order_49 S hr hlk hK _ _ _ _ E (lv_sub hl [0] rfl) hM
  · have hM := ifN hM c4
    refine lv_aload_n S.1 S.2.1 d_Walk_walkAll_37 rfl (lv_at hl 0 rfl) ?_
    refine kgf_Walk_9_2 S hK E d_Walk_walkAll_38 ?_
    refine lv_iconst (v := 0) S.1 S.2.1 d_Walk_walkAll_41 (by decide) ?_
    refine lv_iconst (v := 1) S.1 S.2.1 d_Walk_walkAll_42 (by decide) ?_
    obtain ⟨h5, hM⟩ := gd_inv hM
    refine kas_13 S hK E h5 d_Walk_walkAll_43 (fun σ6 eσ6 H locs E => ?_)
    have hM := lq_inv hM σ6 eσ6
    refine lv_aload_n S.1 S.2.1 d_Walk_walkAll_44 rfl (lv_at hl 0 rfl) ?_
    refine lv_iconst (v := 0) S.1 S.2.1 d_Walk_walkAll_45 (by decide) ?_
    obtain ⟨σ8, h7, hM⟩ := bv_inv hM
    refine kcr_22 (As := [.int 0]) (rest := []) S hK E (kC_Walk_enter_Order h7) ⟨Nat.le_of_ble_eq_true rfl, Nat.le_of_ble_eq_true rfl⟩ rfl rfl hl.1 (lv_room (Nat.le_of_ble_eq_true rfl)) d_Walk_walkAll_46 (fun H locs E => ?_)
    exact kB_Walk_walkAll_Order_49 S hr hlk hK _ _ _ _ E (lv_sub hl [0] rfl) hM
set_option maxHeartbeats 4000000 in
set_option maxRecDepth 100000 in
theorem kB_Walk_walkAll_Order_2 {p : Program} {l : Launch} {e : Env} {s : State} {m : MethodId} {args : Array Value} {below : List Frame} {meth : Method} {c : Code} {D : va_G} {a : Nat → Nat} {cA : Nat → ClassId} {A : Nat → Prop} {g : Nat → Nat} {σ2 : St} (S : CallFix p m c prog_8_method_6_code 6 s args AW R_Walk) (hr : meth.sig.returnType = none) (hlk : meth.locks = false) (hK : kKX D cA A g s s.heap) : ∀ (n : Nat) (σ : St) (v1 : Int32) (H : Heap) (locs : List Loc) (ls : Array Slot), kEx D a cA A σ s.heap H locs → lv_has ls 6 [(0, .ref (a 2)), (1, .int v1)] → kL_Walk_walkAll_Order_2 n σ v1 = some σ2 → W p l e krm_Walk_walkAll_Order s m args below meth c H locs 0 0 (MQ below (kqv D a cA A g σ2) args s 0 0 A) (F0 m 2 ls []) := by
  intro n
  induction n with
  | zero =>
    intro σ v1 H locs ls E hl hM
    rw [kL_Walk_walkAll_Order_2] at hM
    cases hM
  | succ n ih =>
    intro σ v1 H locs ls E hl hM
    rw [kL_Walk_walkAll_Order_2] at hM
    refine lv_iload_n S.1 S.2.1 d_Walk_walkAll_2 rfl (lv_at hl 1 rfl) ?_
    refine lv_sipush (v := 200) S.1 S.2.1 d_Walk_walkAll_3 (by decide) ?_
    refine lv_icmp_ge (tgt := 22) S.1 S.2.1 d_Walk_walkAll_6 (by decide) (fun c1 => ?_) (fun c1 => ?_)
    · have hM := ifP hM c1
      exact kB_Walk_walkAll_Order_22 S hr hlk hK _ _ _ _ E (lv_sub hl [0] rfl) hM
    · have hM := ifN hM c1
      refine lv_aload_n S.1 S.2.1 d_Walk_walkAll_9 rfl (lv_at hl 0 rfl) ?_
      refine kgf_Walk_9_2 S hK E d_Walk_walkAll_10 ?_
      refine lv_iload_n S.1 S.2.1 d_Walk_walkAll_13 rfl (lv_at hl 1 rfl) ?_
      refine lv_iconst (v := 0) S.1 S.2.1 d_Walk_walkAll_14 (by decide) ?_
      obtain ⟨h2, hM⟩ := gd_inv hM
      refine kas_13 S hK E h2 d_Walk_walkAll_15 (fun σ3 eσ3 H locs E => ?_)
      have hM := lq_inv hM σ3 eσ3
      obtain ⟨y4, ey4⟩ : ∃ z : Int32, z = v1 + 1 := ⟨_, rfl⟩
      have hM := lq_inv hM y4 ey4
      refine lv_iinc (v := y4) (lv' := [(1, .int y4), (0, .ref (a 2))]) S.1 S.2.1 d_Walk_walkAll_16 hl (k := 1) rfl (by rw [ey4]; rfl) (by decide) rfl (fun ls hl => ?_)
      refine lv_goto (tgt := 2) S.1 S.2.1 d_Walk_walkAll_19 (by decide) ?_
      exact ih _ _ _ _ _ E (lv_sub hl [1, 0] rfl) hM
set_option maxHeartbeats 4000000 in
set_option maxRecDepth 100000 in
theorem kC_Walk_walkAll_Order {l : Launch} {D : va_G} {a : Nat → Nat} {cA : Nat → ClassId} {A : Nat → Prop} {g : Nat → Nat} {σ σ2 : St} (hM : kM_Walk_walkAll_Order σ = some σ2) : Met l y_Walk_walkAll (.code y_Walk_walkAll prog_8_method_6_code 6 none :: AW) krm_Walk_walkAll_Order (va_Pc [.ref (a 2)] (kCP D a cA A g σ)) (kqv D a cA A g σ2) 0 0 A := by
  refine kmet (nL := 6) (by decide) (Nat.le_of_ble_eq_true rfl) (fun S hr hlk hK E ls hl => ?_)
  have hl : lv_has ls 6 [(0, .ref (a 2))] := hl
  unfold kM_Walk_walkAll_Order at hM
  refine lv_iconst (v := 0) S.1 S.2.1 d_Walk_walkAll_0 (by decide) ?_
  refine lv_istore_n (lv' := [(1, .int 0), (0, .ref (a 2))]) S.1 S.2.1 d_Walk_walkAll_1 rfl hl (by decide) rfl (fun ls hl => ?_)
  exact kB_Walk_walkAll_Order_2 S hr hlk hK _ _ _ _ _ _ E (lv_sub hl [1, 0] rfl) hM
set_option maxHeartbeats 4000000 in
set_option maxRecDepth 100000 in
theorem kC_Order_refresh {l : Launch} {D : va_G} {a : Nat → Nat} {cA : Nat → ClassId} {A : Nat → Prop} {g : Nat → Nat} {σ σ2 : St} (hM : kM_Order_refresh σ = some σ2) : Met l y_Order_refresh (.code y_Order_refresh prog_7_method_2_code 1 none :: AW) krm_Order_refresh (va_Pc [.ref (a 2)] (kCP D a cA A g σ)) (kqv D a cA A g σ2) 0 0 A := by
  refine kmet (nL := 1) (by decide) (Nat.le_of_ble_eq_true rfl) (fun S hr hlk hK E ls hl => ?_)
  have hl : lv_has ls 1 [(0, .ref (a 2))] := hl
  unfold kM_Order_refresh at hM
  refine lv_aload_n S.1 S.2.1 d_Order_refresh_0 rfl (lv_at hl 0 rfl) ?_
  refine kgf_Order_24_2 S hK E d_Order_refresh_1 ?_
  refine lv_aload_n S.1 S.2.1 d_Order_refresh_4 rfl (lv_at hl 0 rfl) ?_
  refine kgf_Order_28_2 S hK E d_Order_refresh_5 ?_
  obtain ⟨r2, h1, hM⟩ := br_inv hM
  refine kcr_30 (As := []) (rest := [.int (σ 29 0)]) S hK E (kC_Items_version h1) ⟨Nat.le_of_ble_eq_true rfl, Nat.le_of_ble_eq_true rfl⟩ rfl rfl hl.1 (lv_room (Nat.le_of_ble_eq_true rfl)) d_Order_refresh_8 (fun H locs E => ?_)
  refine lv_icmp_ne (tgt := 15) S.1 S.2.1 d_Order_refresh_11 (by decide) (fun c3 => ?_) (fun c3 => ?_)
  · have hM := ifN hM c3
    refine lv_aload_n S.1 S.2.1 d_Order_refresh_15 rfl (lv_at hl 0 rfl) ?_
    refine lv_iconst (v := 0) S.1 S.2.1 d_Order_refresh_16 (by decide) ?_
    refine kpf_Order_38_2 S hK E d_Order_refresh_17 (fun σ4 eσ4 H locs E => ?_)
    have hM := lq_inv hM σ4 eσ4
    refine lv_aload_n S.1 S.2.1 d_Order_refresh_20 rfl (lv_at hl 0 rfl) ?_
    refine kgf_Order_15_2 S hK E d_Order_refresh_21 ?_
    refine lv_iconst (v := (-1)) S.1 S.2.1 d_Order_refresh_24 (by decide) ?_
    obtain ⟨σ6, h5, hM⟩ := bv_inv hM
    refine kcr_31 (As := [.ref (a 17), .int (-1)]) (rest := []) S hK E (kC_Arr_fill_17 h5) ⟨Nat.le_of_ble_eq_true rfl, Nat.le_of_ble_eq_true rfl⟩ rfl rfl hl.1 (lv_room (Nat.le_of_ble_eq_true rfl)) d_Order_refresh_25 (fun H locs E => ?_)
    refine lv_aload_n S.1 S.2.1 d_Order_refresh_28 rfl (lv_at hl 0 rfl) ?_
    obtain ⟨σ8, h7, hM⟩ := bv_inv hM
    refine kcr_32 (As := []) (rest := []) S hK E (kC_Walk_walkAll_Order h7) ⟨Nat.le_of_ble_eq_true rfl, Nat.le_of_ble_eq_true rfl⟩ rfl rfl hl.1 (lv_room (Nat.le_of_ble_eq_true rfl)) d_Order_refresh_29 (fun H locs E => ?_)
    refine lv_aload_n S.1 S.2.1 d_Order_refresh_32 rfl (lv_at hl 0 rfl) ?_
    refine lv_aload_n S.1 S.2.1 d_Order_refresh_33 rfl (lv_at hl 0 rfl) ?_
    refine kgf_Order_28_2 S hK E d_Order_refresh_34 ?_
    obtain ⟨r10, h9, hM⟩ := br_inv hM
    refine kcr_30 (As := []) (rest := [.ref (a 2)]) S hK E (kC_Items_version h9) ⟨Nat.le_of_ble_eq_true rfl, Nat.le_of_ble_eq_true rfl⟩ rfl rfl hl.1 (lv_room (Nat.le_of_ble_eq_true rfl)) d_Order_refresh_37 (fun H locs E => ?_)
    refine kpf_Order_24_2 S hK E d_Order_refresh_40 (fun σ11 eσ11 H locs E => ?_)
    have hM := lq_inv hM σ11 eσ11
    obtain rfl := Option.some.inj hM
    exact kretv S hr hlk hK E d_Order_refresh_43
  · have hM := ifP hM c3
    obtain rfl := Option.some.inj hM
    exact kretv S hr hlk hK E d_Order_refresh_14
set_option maxHeartbeats 4000000 in
set_option maxRecDepth 100000 in
theorem kC_Order_size {l : Launch} {D : va_G} {a : Nat → Nat} {cA : Nat → ClassId} {A : Nat → Prop} {g : Nat → Nat} {σ σ2 : St} {r : Int32} (hM : kM_Order_size σ = some (r, σ2)) : Met l y_Order_size (.code y_Order_size prog_7_method_4_code 1 (some .int) :: AW) krm_Order_size (va_Pc [.ref (a 2)] (kCP D a cA A g σ)) (kqi D a cA A g r σ2) 0 0 A := by
  refine kmet (nL := 1) (by decide) (Nat.le_of_ble_eq_true rfl) (fun S hr hlk hK E ls hl => ?_)
  have hl : lv_has ls 1 [(0, .ref (a 2))] := hl
  unfold kM_Order_size at hM
  refine lv_aload_n S.1 S.2.1 d_Order_size_0 rfl (lv_at hl 0 rfl) ?_
  obtain ⟨σ2, h1, hM⟩ := bv_inv hM
  refine kcr_33 (As := []) (rest := []) S hK E (kC_Order_refresh h1) ⟨Nat.le_of_ble_eq_true rfl, Nat.le_of_ble_eq_true rfl⟩ rfl rfl hl.1 (lv_room (Nat.le_of_ble_eq_true rfl)) d_Order_size_1 (fun H locs E => ?_)
  refine lv_aload_n S.1 S.2.1 d_Order_size_4 rfl (lv_at hl 0 rfl) ?_
  refine kgf_Order_38_2 S hK E d_Order_size_5 ?_
  obtain ⟨rfl, rfl⟩ := pr_inj hM
  exact kreti S hr hlk hK E d_Order_size_8
set_option maxHeartbeats 4000000 in
set_option maxRecDepth 100000 in
theorem kC_PT_pages {l : Launch} {D : va_G} {a : Nat → Nat} {cA : Nat → ClassId} {A : Nat → Prop} {g : Nat → Nat} {σ σ2 : St} {r : Int32} (hM : kM_PT_pages σ = some (r, σ2)) : Met l y_PT_pages (.code y_PT_pages prog_1_method_9_code 1 (some .int) :: AW) krm_PT_pages (va_Pc [.ref (a 0)] (kCP D a cA A g σ)) (kqi D a cA A g r σ2) 0 0 A := by
  refine kmet (nL := 1) (by decide) (Nat.le_of_ble_eq_true rfl) (fun S hr hlk hK E ls hl => ?_)
  have hl : lv_has ls 1 [(0, .ref (a 0))] := hl
  unfold kM_PT_pages at hM
  refine lv_aload_n S.1 S.2.1 d_PT_pages_0 rfl (lv_at hl 0 rfl) ?_
  refine kgf_PT_21_0 S hK E d_PT_pages_1 ?_
  obtain ⟨r2, σ3, h1, hM⟩ := bd_inv hM
  refine kcr_34 (As := []) (rest := []) S hK E (kC_Order_size h1) ⟨Nat.le_of_ble_eq_true rfl, Nat.le_of_ble_eq_true rfl⟩ rfl rfl hl.1 (lv_room (Nat.le_of_ble_eq_true rfl)) d_PT_pages_4 (fun H locs E => ?_)
  obtain ⟨rfl, rfl⟩ := pr_inj hM
  exact kreti S hr hlk hK E d_PT_pages_7
set_option maxHeartbeats 4000000 in
set_option maxRecDepth 100000 in
theorem kC_Order_pageAt {l : Launch} {D : va_G} {a : Nat → Nat} {cA : Nat → ClassId} {A : Nat → Prop} {g : Nat → Nat} {σ σ2 : St} {x1 : Int32} {r : Int32} (hM : kM_Order_pageAt σ x1 = some (r, σ2)) : Met l y_Order_pageAt (.code y_Order_pageAt prog_7_method_5_code 2 (some .int) :: AW) krm_Order_pageAt (va_Pc [.ref (a 2), .int x1] (kCP D a cA A g σ)) (kqi D a cA A g r σ2) 0 0 A := by
  refine kmet (nL := 2) (by decide) (Nat.le_of_ble_eq_true rfl) (fun S hr hlk hK E ls hl => ?_)
  have hl : lv_has ls 2 [(0, .ref (a 2)), (1, .int x1)] := hl
  unfold kM_Order_pageAt at hM
  refine lv_aload_n S.1 S.2.1 d_Order_pageAt_0 rfl (lv_at hl 0 rfl) ?_
  obtain ⟨σ2, h1, hM⟩ := bv_inv hM
  refine kcr_33 (As := []) (rest := []) S hK E (kC_Order_refresh h1) ⟨Nat.le_of_ble_eq_true rfl, Nat.le_of_ble_eq_true rfl⟩ rfl rfl hl.1 (lv_room (Nat.le_of_ble_eq_true rfl)) d_Order_pageAt_1 (fun H locs E => ?_)
  refine lv_iload_n S.1 S.2.1 d_Order_pageAt_4 rfl (lv_at hl 1 rfl) ?_
  refine lv_if_lt (tgt := 25) S.1 S.2.1 d_Order_pageAt_5 (by decide) (fun c3 => ?_) (fun c3 => ?_)
  · have hM := ifP hM c3
    refine lv_iconst (v := (-1)) S.1 S.2.1 d_Order_pageAt_25 (by decide) ?_
    obtain ⟨rfl, rfl⟩ := pr_inj hM
    exact kreti S hr hlk hK E d_Order_pageAt_26
  · have hM := ifN hM c3
    refine lv_iload_n S.1 S.2.1 d_Order_pageAt_8 rfl (lv_at hl 1 rfl) ?_
    refine lv_aload_n S.1 S.2.1 d_Order_pageAt_9 rfl (lv_at hl 0 rfl) ?_
    refine kgf_Order_38_2 S hK E d_Order_pageAt_10 ?_
    refine lv_icmp_ge (tgt := 25) S.1 S.2.1 d_Order_pageAt_13 (by decide) (fun c4 => ?_) (fun c4 => ?_)
    · have hM := ifP hM c4
      refine lv_iconst (v := (-1)) S.1 S.2.1 d_Order_pageAt_25 (by decide) ?_
      obtain ⟨rfl, rfl⟩ := pr_inj hM
      exact kreti S hr hlk hK E d_Order_pageAt_26
    · have hM := ifN hM c4
      refine lv_aload_n S.1 S.2.1 d_Order_pageAt_16 rfl (lv_at hl 0 rfl) ?_
      refine kgf_Order_9_2 S hK E d_Order_pageAt_17 ?_
      refine lv_iload_n S.1 S.2.1 d_Order_pageAt_20 rfl (lv_at hl 1 rfl) ?_
      obtain ⟨h5, hM⟩ := gd_inv hM
      refine kal_16 S hK E h5 d_Order_pageAt_21 ?_
      refine lv_goto (tgt := 26) S.1 S.2.1 d_Order_pageAt_22 (by decide) ?_
      obtain ⟨rfl, rfl⟩ := pr_inj hM
      exact kreti S hr hlk hK E d_Order_pageAt_26
set_option maxHeartbeats 4000000 in
set_option maxRecDepth 100000 in
theorem kC_PT_at {l : Launch} {D : va_G} {a : Nat → Nat} {cA : Nat → ClassId} {A : Nat → Prop} {g : Nat → Nat} {σ σ2 : St} {x1 : Int32} {r : Int32} (hM : kM_PT_at σ x1 = some (r, σ2)) : Met l y_PT_at (.code y_PT_at prog_1_method_10_code 2 (some .int) :: AW) krm_PT_at (va_Pc [.ref (a 0), .int x1] (kCP D a cA A g σ)) (kqi D a cA A g r σ2) 0 0 A := by
  refine kmet (nL := 2) (by decide) (Nat.le_of_ble_eq_true rfl) (fun S hr hlk hK E ls hl => ?_)
  have hl : lv_has ls 2 [(0, .ref (a 0)), (1, .int x1)] := hl
  unfold kM_PT_at at hM
  refine lv_aload_n S.1 S.2.1 d_PT_at_0 rfl (lv_at hl 0 rfl) ?_
  refine kgf_PT_21_0 S hK E d_PT_at_1 ?_
  refine lv_iload_n S.1 S.2.1 d_PT_at_4 rfl (lv_at hl 1 rfl) ?_
  obtain ⟨r2, σ3, h1, hM⟩ := bd_inv hM
  refine kcr_35 (As := [.int x1]) (rest := []) S hK E (kC_Order_pageAt h1) ⟨Nat.le_of_ble_eq_true rfl, Nat.le_of_ble_eq_true rfl⟩ rfl rfl hl.1 (lv_room (Nat.le_of_ble_eq_true rfl)) d_PT_at_5 (fun H locs E => ?_)
  obtain ⟨rfl, rfl⟩ := pr_inj hM
  exact kreti S hr hlk hK E d_PT_at_8
set_option maxHeartbeats 4000000 in
set_option maxRecDepth 100000 in
theorem kC_Items_parentOf {l : Launch} {D : va_G} {a : Nat → Nat} {cA : Nat → ClassId} {A : Nat → Prop} {g : Nat → Nat} {σ : St} {x1 : Int32} {r : Int32} (hM : kM_Items_parentOf σ x1 = some r) : Met l y_Items_parentOf (.code y_Items_parentOf prog_3_method_9_code 2 (some .int) :: AW) krm_Items_parentOf (va_Pc [.ref (a 1), .int x1] (kCP D a cA A g σ)) (kqi D a cA A g r σ) 0 0 A := by
  refine kmet (nL := 2) (by decide) (Nat.le_of_ble_eq_true rfl) (fun S hr hlk hK E ls hl => ?_)
  have hl : lv_has ls 2 [(0, .ref (a 1)), (1, .int x1)] := hl
  unfold kM_Items_parentOf at hM
  refine lv_aload_n S.1 S.2.1 d_Items_parentOf_0 rfl (lv_at hl 0 rfl) ?_
  refine lv_iload_n S.1 S.2.1 d_Items_parentOf_1 rfl (lv_at hl 1 rfl) ?_
  obtain ⟨r2, h1, hM⟩ := br_inv hM
  refine kcr_0 (As := [.int x1]) (rest := []) S hK E (kC_Items_isKnown h1) ⟨Nat.le_of_ble_eq_true rfl, Nat.le_of_ble_eq_true rfl⟩ rfl rfl hl.1 (lv_room (Nat.le_of_ble_eq_true rfl)) d_Items_parentOf_2 (fun H locs E => ?_)
  refine lv_if_eq (tgt := 17) S.1 S.2.1 d_Items_parentOf_5 (by decide) (fun c3 => ?_) (fun c3 => ?_)
  · have hM := ifP hM c3
    refine lv_iconst (v := (-1)) S.1 S.2.1 d_Items_parentOf_17 (by decide) ?_
    obtain rfl := Option.some.inj hM
    exact kreti S hr hlk hK E d_Items_parentOf_18
  · have hM := ifN hM c3
    refine lv_aload_n S.1 S.2.1 d_Items_parentOf_8 rfl (lv_at hl 0 rfl) ?_
    refine kgf_Items_15_1 S hK E d_Items_parentOf_9 ?_
    refine lv_iload_n S.1 S.2.1 d_Items_parentOf_12 rfl (lv_at hl 1 rfl) ?_
    obtain ⟨h4, hM⟩ := gd_inv hM
    refine kal_8 S hK E h4 d_Items_parentOf_13 ?_
    refine lv_goto (tgt := 18) S.1 S.2.1 d_Items_parentOf_14 (by decide) ?_
    obtain rfl := Option.some.inj hM
    exact kreti S hr hlk hK E d_Items_parentOf_18
set_option maxHeartbeats 4000000 in
set_option maxRecDepth 100000 in
theorem kC_Items_countOf {l : Launch} {D : va_G} {a : Nat → Nat} {cA : Nat → ClassId} {A : Nat → Prop} {g : Nat → Nat} {σ : St} {x1 : Int32} {r : Int32} (hM : kM_Items_countOf σ x1 = some r) : Met l y_Items_countOf (.code y_Items_countOf prog_3_method_11_code 2 (some .int) :: AW) krm_Items_countOf (va_Pc [.ref (a 1), .int x1] (kCP D a cA A g σ)) (kqi D a cA A g r σ) 0 0 A := by
  refine kmet (nL := 2) (by decide) (Nat.le_of_ble_eq_true rfl) (fun S hr hlk hK E ls hl => ?_)
  have hl : lv_has ls 2 [(0, .ref (a 1)), (1, .int x1)] := hl
  unfold kM_Items_countOf at hM
  refine lv_aload_n S.1 S.2.1 d_Items_countOf_0 rfl (lv_at hl 0 rfl) ?_
  refine lv_iload_n S.1 S.2.1 d_Items_countOf_1 rfl (lv_at hl 1 rfl) ?_
  obtain ⟨r2, h1, hM⟩ := br_inv hM
  refine kcr_0 (As := [.int x1]) (rest := []) S hK E (kC_Items_isKnown h1) ⟨Nat.le_of_ble_eq_true rfl, Nat.le_of_ble_eq_true rfl⟩ rfl rfl hl.1 (lv_room (Nat.le_of_ble_eq_true rfl)) d_Items_countOf_2 (fun H locs E => ?_)
  refine lv_if_eq (tgt := 17) S.1 S.2.1 d_Items_countOf_5 (by decide) (fun c3 => ?_) (fun c3 => ?_)
  · have hM := ifP hM c3
    refine lv_iconst (v := 0) S.1 S.2.1 d_Items_countOf_17 (by decide) ?_
    obtain rfl := Option.some.inj hM
    exact kreti S hr hlk hK E d_Items_countOf_18
  · have hM := ifN hM c3
    refine lv_aload_n S.1 S.2.1 d_Items_countOf_8 rfl (lv_at hl 0 rfl) ?_
    refine kgf_Items_19_1 S hK E d_Items_countOf_9 ?_
    refine lv_iload_n S.1 S.2.1 d_Items_countOf_12 rfl (lv_at hl 1 rfl) ?_
    obtain ⟨h4, hM⟩ := gd_inv hM
    refine kal_9 S hK E h4 d_Items_countOf_13 ?_
    refine lv_goto (tgt := 18) S.1 S.2.1 d_Items_countOf_14 (by decide) ?_
    obtain rfl := Option.some.inj hM
    exact kreti S hr hlk hK E d_Items_countOf_18
set_option maxHeartbeats 4000000 in
set_option maxRecDepth 100000 in
theorem kC_Order_isTaken {l : Launch} {D : va_G} {a : Nat → Nat} {cA : Nat → ClassId} {A : Nat → Prop} {g : Nat → Nat} {σ : St} {x1 : Int32} {r : Int32} (hM : kM_Order_isTaken σ x1 = some r) : Met l y_Order_isTaken (.code y_Order_isTaken prog_7_method_10_code 2 (some .boolean) :: AW) krm_Order_isTaken (va_Pc [.ref (a 2), .int x1] (kCP D a cA A g σ)) (kqi D a cA A g r σ) 0 0 A := by
  refine kmet (nL := 2) (by decide) (Nat.le_of_ble_eq_true rfl) (fun S hr hlk hK E ls hl => ?_)
  have hl : lv_has ls 2 [(0, .ref (a 2)), (1, .int x1)] := hl
  unfold kM_Order_isTaken at hM
  refine lv_iload_n S.1 S.2.1 d_Order_isTaken_0 rfl (lv_at hl 1 rfl) ?_
  refine lv_if_lt (tgt := 25) S.1 S.2.1 d_Order_isTaken_1 (by decide) (fun c1 => ?_) (fun c1 => ?_)
  · have hM := ifP hM c1
    refine lv_iconst (v := 0) S.1 S.2.1 d_Order_isTaken_25 (by decide) ?_
    obtain rfl := Option.some.inj hM
    exact kretz S hr hlk hK E d_Order_isTaken_26 rfl
  · have hM := ifN hM c1
    refine lv_iload_n S.1 S.2.1 d_Order_isTaken_4 rfl (lv_at hl 1 rfl) ?_
    refine lv_sipush (v := 200) S.1 S.2.1 d_Order_isTaken_5 (by decide) ?_
    refine lv_icmp_ge (tgt := 25) S.1 S.2.1 d_Order_isTaken_8 (by decide) (fun c2 => ?_) (fun c2 => ?_)
    · have hM := ifP hM c2
      refine lv_iconst (v := 0) S.1 S.2.1 d_Order_isTaken_25 (by decide) ?_
      obtain rfl := Option.some.inj hM
      exact kretz S hr hlk hK E d_Order_isTaken_26 rfl
    · have hM := ifN hM c2
      refine lv_aload_n S.1 S.2.1 d_Order_isTaken_11 rfl (lv_at hl 0 rfl) ?_
      refine kgf_Order_15_2 S hK E d_Order_isTaken_12 ?_
      refine lv_iload_n S.1 S.2.1 d_Order_isTaken_15 rfl (lv_at hl 1 rfl) ?_
      obtain ⟨h3, hM⟩ := gd_inv hM
      refine kal_17 S hK E h3 d_Order_isTaken_16 ?_
      refine lv_iconst (v := (-1)) S.1 S.2.1 d_Order_isTaken_17 (by decide) ?_
      refine lv_icmp_eq (tgt := 25) S.1 S.2.1 d_Order_isTaken_18 (by decide) (fun c4 => ?_) (fun c4 => ?_)
      · have hM := ifP hM c4
        refine lv_iconst (v := 0) S.1 S.2.1 d_Order_isTaken_25 (by decide) ?_
        obtain rfl := Option.some.inj hM
        exact kretz S hr hlk hK E d_Order_isTaken_26 rfl
      · have hM := ifN hM c4
        refine lv_iconst (v := 1) S.1 S.2.1 d_Order_isTaken_21 (by decide) ?_
        refine lv_goto (tgt := 26) S.1 S.2.1 d_Order_isTaken_22 (by decide) ?_
        obtain rfl := Option.some.inj hM
        exact kretz S hr hlk hK E d_Order_isTaken_26 rfl
set_option maxHeartbeats 4000000 in
set_option maxRecDepth 100000 in
theorem kC_Order_placeOf {l : Launch} {D : va_G} {a : Nat → Nat} {cA : Nat → ClassId} {A : Nat → Prop} {g : Nat → Nat} {σ σ2 : St} {x1 : Int32} {r : Int32} (hM : kM_Order_placeOf σ x1 = some (r, σ2)) : Met l y_Order_placeOf (.code y_Order_placeOf prog_7_method_7_code 2 (some .int) :: AW) krm_Order_placeOf (va_Pc [.ref (a 2), .int x1] (kCP D a cA A g σ)) (kqi D a cA A g r σ2) 0 0 A := by
  refine kmet (nL := 2) (by decide) (Nat.le_of_ble_eq_true rfl) (fun S hr hlk hK E ls hl => ?_)
  have hl : lv_has ls 2 [(0, .ref (a 2)), (1, .int x1)] := hl
  unfold kM_Order_placeOf at hM
  refine lv_aload_n S.1 S.2.1 d_Order_placeOf_0 rfl (lv_at hl 0 rfl) ?_
  obtain ⟨σ2, h1, hM⟩ := bv_inv hM
  refine kcr_33 (As := []) (rest := []) S hK E (kC_Order_refresh h1) ⟨Nat.le_of_ble_eq_true rfl, Nat.le_of_ble_eq_true rfl⟩ rfl rfl hl.1 (lv_room (Nat.le_of_ble_eq_true rfl)) d_Order_placeOf_1 (fun H locs E => ?_)
  refine lv_aload_n S.1 S.2.1 d_Order_placeOf_4 rfl (lv_at hl 0 rfl) ?_
  refine lv_iload_n S.1 S.2.1 d_Order_placeOf_5 rfl (lv_at hl 1 rfl) ?_
  obtain ⟨r4, h3, hM⟩ := br_inv hM
  refine kcr_36 (As := [.int x1]) (rest := []) S hK E (kC_Order_isTaken h3) ⟨Nat.le_of_ble_eq_true rfl, Nat.le_of_ble_eq_true rfl⟩ rfl rfl hl.1 (lv_room (Nat.le_of_ble_eq_true rfl)) d_Order_placeOf_6 (fun H locs E => ?_)
  refine lv_if_eq (tgt := 21) S.1 S.2.1 d_Order_placeOf_9 (by decide) (fun c5 => ?_) (fun c5 => ?_)
  · have hM := ifP hM c5
    refine lv_iconst (v := (-1)) S.1 S.2.1 d_Order_placeOf_21 (by decide) ?_
    obtain ⟨rfl, rfl⟩ := pr_inj hM
    exact kreti S hr hlk hK E d_Order_placeOf_22
  · have hM := ifN hM c5
    refine lv_aload_n S.1 S.2.1 d_Order_placeOf_12 rfl (lv_at hl 0 rfl) ?_
    refine kgf_Order_15_2 S hK E d_Order_placeOf_13 ?_
    refine lv_iload_n S.1 S.2.1 d_Order_placeOf_16 rfl (lv_at hl 1 rfl) ?_
    obtain ⟨h6, hM⟩ := gd_inv hM
    refine kal_17 S hK E h6 d_Order_placeOf_17 ?_
    refine lv_goto (tgt := 22) S.1 S.2.1 d_Order_placeOf_18 (by decide) ?_
    obtain ⟨rfl, rfl⟩ := pr_inj hM
    exact kreti S hr hlk hK E d_Order_placeOf_22
