set_option maxHeartbeats 4000000 in
set_option maxRecDepth 100000 in
theorem kC_Items_size {l : Launch} {D : va_G} {a : Nat → Nat} {cA : Nat → ClassId} {A : Nat → Prop} {g : Nat → Nat} {σ : St} {r : Int32} (hM : kM_Items_size σ = some r) : Met l y_Items_size (.code y_Items_size prog_3_method_2_code 1 (some .int) :: AW) krm_Items_size (va_Pc [.ref (a 1)] (kCP D a cA A g σ)) (kqi D a cA A g r σ) 0 0 A := by
  refine kmet (nL := 1) (by decide) (Nat.le_of_ble_eq_true rfl) (fun S hr hlk hK E ls hl => ?_)
  have hl : lv_has ls 1 [(0, .ref (a 1))] := hl
  unfold kM_Items_size at hM
  refine lv_aload_n S.1 S.2.1 d_Items_size_0 rfl (lv_at hl 0 rfl) ?_
  refine kgf_Items_37_1 S hK E d_Items_size_1 ?_
  obtain rfl := Option.some.inj hM
  exact kreti S hr hlk hK E d_Items_size_4
set_option maxHeartbeats 4000000 in
set_option maxRecDepth 100000 in
theorem kC_Items_add {l : Launch} {D : va_G} {a : Nat → Nat} {cA : Nat → ClassId} {A : Nat → Prop} {g : Nat → Nat} {σ σ2 : St} {x1 : Int32} {x2 : Int32} {x3 : Int32} {r : Int32} (hM : kM_Items_add σ x1 x2 x3 = some (r, σ2)) : Met l y_Items_add (.code y_Items_add prog_3_method_8_code 5 (some .int) :: AW) krm_Items_add (va_Pc [.ref (a 1), .int x1, .int x2, .int x3] (kCP D a cA A g σ)) (kqi D a cA A g r σ2) 0 0 A := by
  refine kmet (nL := 5) (by decide) (Nat.le_of_ble_eq_true rfl) (fun S hr hlk hK E ls hl => ?_)
  have hl : lv_has ls 5 [(0, .ref (a 1)), (1, .int x1), (2, .int x2), (3, .int x3)] := hl
  unfold kM_Items_add at hM
  refine lv_aload_n S.1 S.2.1 d_Items_add_0 rfl (lv_at hl 0 rfl) ?_
  refine kgf_Items_37_1 S hK E d_Items_add_1 ?_
  refine lv_sipush (v := 200) S.1 S.2.1 d_Items_add_4 (by decide) ?_
  refine lv_icmp_lt (tgt := 12) S.1 S.2.1 d_Items_add_7 (by decide) (fun c1 => ?_) (fun c1 => ?_)
  · have hM := ifP hM c1
    refine lv_aload_n S.1 S.2.1 d_Items_add_12 rfl (lv_at hl 0 rfl) ?_
    refine kgf_Items_37_1 S hK E d_Items_add_13 ?_
    refine lv_topi (fun y2 ey2 => ?_)
    have hM := lq_inv hM y2 ey2
    refine lv_istore (lv' := [(4, .int y2), (0, .ref (a 1)), (1, .int x1), (2, .int x2), (3, .int x3)]) S.1 S.2.1 d_Items_add_16 hl (by decide) rfl (fun ls hl => ?_)
    refine lv_aload_n S.1 S.2.1 d_Items_add_18 rfl (lv_at hl 1 rfl) ?_
    refine lv_dup S.1 S.2.1 d_Items_add_19 rfl ?_
    refine kgf_Items_37_1 S hK E d_Items_add_20 ?_
    refine lv_iconst (v := 1) S.1 S.2.1 d_Items_add_23 (by decide) ?_
    refine lv_iadd S.1 S.2.1 d_Items_add_24 ?_
    refine kpf_Items_37_1 S hK E d_Items_add_25 (fun σ3 eσ3 H locs E => ?_)
    have hM := lq_inv hM σ3 eσ3
    refine lv_aload_n S.1 S.2.1 d_Items_add_28 rfl (lv_at hl 1 rfl) ?_
    refine kgf_Items_9_1 S hK E d_Items_add_29 ?_
    refine lv_iload S.1 S.2.1 d_Items_add_32 (lv_at hl 0 rfl) ?_
    refine lv_iload_n S.1 S.2.1 d_Items_add_34 rfl (lv_at hl 2 rfl) ?_
    obtain ⟨h4, hM⟩ := gd_inv hM
    refine kas_7 S hK E h4 d_Items_add_35 (fun σ5 eσ5 H locs E => ?_)
    have hM := lq_inv hM σ5 eσ5
    refine lv_aload_n S.1 S.2.1 d_Items_add_36 rfl (lv_at hl 1 rfl) ?_
    refine kgf_Items_15_1 S hK E d_Items_add_37 ?_
    refine lv_iload S.1 S.2.1 d_Items_add_40 (lv_at hl 0 rfl) ?_
    refine lv_iload_n S.1 S.2.1 d_Items_add_42 rfl (lv_at hl 3 rfl) ?_
    obtain ⟨h6, hM⟩ := gd_inv hM
    refine kas_8 S hK E h6 d_Items_add_43 (fun σ7 eσ7 H locs E => ?_)
    have hM := lq_inv hM σ7 eσ7
    refine lv_aload_n S.1 S.2.1 d_Items_add_44 rfl (lv_at hl 1 rfl) ?_
    refine kgf_Items_19_1 S hK E d_Items_add_45 ?_
    refine lv_iload S.1 S.2.1 d_Items_add_48 (lv_at hl 0 rfl) ?_
    refine lv_iload_n S.1 S.2.1 d_Items_add_50 rfl (lv_at hl 4 rfl) ?_
    obtain ⟨h8, hM⟩ := gd_inv hM
    refine kas_9 S hK E h8 d_Items_add_51 (fun σ9 eσ9 H locs E => ?_)
    have hM := lq_inv hM σ9 eσ9
    refine lv_iload S.1 S.2.1 d_Items_add_52 (lv_at hl 0 rfl) ?_
    obtain ⟨rfl, rfl⟩ := pr_inj hM
    exact kreti S hr hlk hK E d_Items_add_54
  · have hM := ifN hM c1
    refine lv_iconst (v := (-1)) S.1 S.2.1 d_Items_add_10 (by decide) ?_
    obtain ⟨rfl, rfl⟩ := pr_inj hM
    exact kreti S hr hlk hK E d_Items_add_11
set_option maxHeartbeats 4000000 in
set_option maxRecDepth 100000 in
theorem kC_Items_isNode {l : Launch} {D : va_G} {a : Nat → Nat} {cA : Nat → ClassId} {A : Nat → Prop} {g : Nat → Nat} {σ : St} {x1 : Int32} {r : Int32} (hM : kM_Items_isNode σ x1 = some r) : Met l y_Items_isNode (.code y_Items_isNode prog_3_method_7_code 2 (some .boolean) :: AW) krm_Items_isNode (va_Pc [.ref (a 1), .int x1] (kCP D a cA A g σ)) (kqi D a cA A g r σ) 0 0 A := by
  refine kmet (nL := 2) (by decide) (Nat.le_of_ble_eq_true rfl) (fun S hr hlk hK E ls hl => ?_)
  have hl : lv_has ls 2 [(0, .ref (a 1)), (1, .int x1)] := hl
  unfold kM_Items_isNode at hM
  refine lv_iload_n S.1 S.2.1 d_Items_isNode_0 rfl (lv_at hl 1 rfl) ?_
  refine lv_if_lt (tgt := 25) S.1 S.2.1 d_Items_isNode_1 (by decide) (fun c1 => ?_) (fun c1 => ?_)
  · have hM := ifP hM c1
    refine lv_iconst (v := 0) S.1 S.2.1 d_Items_isNode_25 (by decide) ?_
    obtain rfl := Option.some.inj hM
    exact kretz S hr hlk hK E d_Items_isNode_26 rfl
  · have hM := ifN hM c1
    refine lv_iload_n S.1 S.2.1 d_Items_isNode_4 rfl (lv_at hl 1 rfl) ?_
    refine lv_aload_n S.1 S.2.1 d_Items_isNode_5 rfl (lv_at hl 0 rfl) ?_
    refine kgf_Items_37_1 S hK E d_Items_isNode_6 ?_
    refine lv_icmp_ge (tgt := 25) S.1 S.2.1 d_Items_isNode_9 (by decide) (fun c2 => ?_) (fun c2 => ?_)
    · have hM := ifP hM c2
      refine lv_iconst (v := 0) S.1 S.2.1 d_Items_isNode_25 (by decide) ?_
      obtain rfl := Option.some.inj hM
      exact kretz S hr hlk hK E d_Items_isNode_26 rfl
    · have hM := ifN hM c2
      refine lv_aload_n S.1 S.2.1 d_Items_isNode_12 rfl (lv_at hl 0 rfl) ?_
      refine kgf_Items_9_1 S hK E d_Items_isNode_13 ?_
      refine lv_iload_n S.1 S.2.1 d_Items_isNode_16 rfl (lv_at hl 1 rfl) ?_
      obtain ⟨h3, hM⟩ := gd_inv hM
      refine kal_7 S hK E h3 d_Items_isNode_17 ?_
      refine lv_if_ne (tgt := 25) S.1 S.2.1 d_Items_isNode_18 (by decide) (fun c4 => ?_) (fun c4 => ?_)
      · have hM := ifN hM c4
        refine lv_iconst (v := 0) S.1 S.2.1 d_Items_isNode_25 (by decide) ?_
        obtain rfl := Option.some.inj hM
        exact kretz S hr hlk hK E d_Items_isNode_26 rfl
      · have hM := ifP hM c4
        refine lv_iconst (v := 1) S.1 S.2.1 d_Items_isNode_21 (by decide) ?_
        refine lv_goto (tgt := 26) S.1 S.2.1 d_Items_isNode_22 (by decide) ?_
        obtain rfl := Option.some.inj hM
        exact kretz S hr hlk hK E d_Items_isNode_26 rfl
set_option maxHeartbeats 4000000 in
set_option maxRecDepth 100000 in
theorem kC_Items_isFull {l : Launch} {D : va_G} {a : Nat → Nat} {cA : Nat → ClassId} {A : Nat → Prop} {g : Nat → Nat} {σ : St} {r : Int32} (hM : kM_Items_isFull σ = some r) : Met l y_Items_isFull (.code y_Items_isFull prog_3_method_4_code 1 (some .boolean) :: AW) krm_Items_isFull (va_Pc [.ref (a 1)] (kCP D a cA A g σ)) (kqi D a cA A g r σ) 0 0 A := by
  refine kmet (nL := 1) (by decide) (Nat.le_of_ble_eq_true rfl) (fun S hr hlk hK E ls hl => ?_)
  have hl : lv_has ls 1 [(0, .ref (a 1))] := hl
  unfold kM_Items_isFull at hM
  refine lv_aload_n S.1 S.2.1 d_Items_isFull_0 rfl (lv_at hl 0 rfl) ?_
  refine kgf_Items_37_1 S hK E d_Items_isFull_1 ?_
  refine lv_sipush (v := 200) S.1 S.2.1 d_Items_isFull_4 (by decide) ?_
  refine lv_icmp_lt (tgt := 14) S.1 S.2.1 d_Items_isFull_7 (by decide) (fun c1 => ?_) (fun c1 => ?_)
  · have hM := ifP hM c1
    refine lv_iconst (v := 0) S.1 S.2.1 d_Items_isFull_14 (by decide) ?_
    obtain rfl := Option.some.inj hM
    exact kretz S hr hlk hK E d_Items_isFull_15 rfl
  · have hM := ifN hM c1
    refine lv_iconst (v := 1) S.1 S.2.1 d_Items_isFull_10 (by decide) ?_
    refine lv_goto (tgt := 15) S.1 S.2.1 d_Items_isFull_11 (by decide) ?_
    obtain rfl := Option.some.inj hM
    exact kretz S hr hlk hK E d_Items_isFull_15 rfl
set_option maxHeartbeats 4000000 in
set_option maxRecDepth 100000 in
theorem kC_Items_isKnown {l : Launch} {D : va_G} {a : Nat → Nat} {cA : Nat → ClassId} {A : Nat → Prop} {g : Nat → Nat} {σ : St} {x1 : Int32} {r : Int32} (hM : kM_Items_isKnown σ x1 = some r) : Met l y_Items_isKnown (.code y_Items_isKnown prog_3_method_5_code 2 (some .boolean) :: AW) krm_Items_isKnown (va_Pc [.ref (a 1), .int x1] (kCP D a cA A g σ)) (kqi D a cA A g r σ) 0 0 A := by
  refine kmet (nL := 2) (by decide) (Nat.le_of_ble_eq_true rfl) (fun S hr hlk hK E ls hl => ?_)
  have hl : lv_has ls 2 [(0, .ref (a 1)), (1, .int x1)] := hl
  unfold kM_Items_isKnown at hM
  refine lv_iload_n S.1 S.2.1 d_Items_isKnown_0 rfl (lv_at hl 1 rfl) ?_
  refine lv_if_lt (tgt := 16) S.1 S.2.1 d_Items_isKnown_1 (by decide) (fun c1 => ?_) (fun c1 => ?_)
  · have hM := ifP hM c1
    refine lv_iconst (v := 0) S.1 S.2.1 d_Items_isKnown_16 (by decide) ?_
    obtain rfl := Option.some.inj hM
    exact kretz S hr hlk hK E d_Items_isKnown_17 rfl
  · have hM := ifN hM c1
    refine lv_iload_n S.1 S.2.1 d_Items_isKnown_4 rfl (lv_at hl 1 rfl) ?_
    refine lv_aload_n S.1 S.2.1 d_Items_isKnown_5 rfl (lv_at hl 0 rfl) ?_
    refine kgf_Items_37_1 S hK E d_Items_isKnown_6 ?_
    refine lv_icmp_ge (tgt := 16) S.1 S.2.1 d_Items_isKnown_9 (by decide) (fun c2 => ?_) (fun c2 => ?_)
    · have hM := ifP hM c2
      refine lv_iconst (v := 0) S.1 S.2.1 d_Items_isKnown_16 (by decide) ?_
      obtain rfl := Option.some.inj hM
      exact kretz S hr hlk hK E d_Items_isKnown_17 rfl
    · have hM := ifN hM c2
      refine lv_iconst (v := 1) S.1 S.2.1 d_Items_isKnown_12 (by decide) ?_
      refine lv_goto (tgt := 17) S.1 S.2.1 d_Items_isKnown_13 (by decide) ?_
      obtain rfl := Option.some.inj hM
      exact kretz S hr hlk hK E d_Items_isKnown_17 rfl
set_option maxHeartbeats 4000000 in
set_option maxRecDepth 100000 in
theorem kC_Items_kidCountOf {l : Launch} {D : va_G} {a : Nat → Nat} {cA : Nat → ClassId} {A : Nat → Prop} {g : Nat → Nat} {σ : St} {x1 : Int32} {r : Int32} (hM : kM_Items_kidCountOf σ x1 = some r) : Met l y_Items_kidCountOf (.code y_Items_kidCountOf prog_3_method_13_code 2 (some .int) :: AW) krm_Items_kidCountOf (va_Pc [.ref (a 1), .int x1] (kCP D a cA A g σ)) (kqi D a cA A g r σ) 0 0 A := by
  refine kmet (nL := 2) (by decide) (Nat.le_of_ble_eq_true rfl) (fun S hr hlk hK E ls hl => ?_)
  have hl : lv_has ls 2 [(0, .ref (a 1)), (1, .int x1)] := hl
  unfold kM_Items_kidCountOf at hM
  refine lv_aload_n S.1 S.2.1 d_Items_kidCountOf_0 rfl (lv_at hl 0 rfl) ?_
  refine lv_iload_n S.1 S.2.1 d_Items_kidCountOf_1 rfl (lv_at hl 1 rfl) ?_
  obtain ⟨r2, h1, hM⟩ := br_inv hM
  refine kcr_0 (As := [.int x1]) (rest := []) S hK E (kC_Items_isKnown h1) ⟨Nat.le_of_ble_eq_true rfl, Nat.le_of_ble_eq_true rfl⟩ rfl rfl hl.1 (lv_room (Nat.le_of_ble_eq_true rfl)) d_Items_kidCountOf_2 (fun H locs E => ?_)
  refine lv_if_eq (tgt := 17) S.1 S.2.1 d_Items_kidCountOf_5 (by decide) (fun c3 => ?_) (fun c3 => ?_)
  · have hM := ifP hM c3
    refine lv_iconst (v := 0) S.1 S.2.1 d_Items_kidCountOf_17 (by decide) ?_
    obtain rfl := Option.some.inj hM
    exact kreti S hr hlk hK E d_Items_kidCountOf_18
  · have hM := ifN hM c3
    refine lv_aload_n S.1 S.2.1 d_Items_kidCountOf_8 rfl (lv_at hl 0 rfl) ?_
    refine kgf_Items_22_1 S hK E d_Items_kidCountOf_9 ?_
    refine lv_iload_n S.1 S.2.1 d_Items_kidCountOf_12 rfl (lv_at hl 1 rfl) ?_
    obtain ⟨h4, hM⟩ := gd_inv hM
    refine kal_10 S hK E h4 d_Items_kidCountOf_13 ?_
    refine lv_goto (tgt := 18) S.1 S.2.1 d_Items_kidCountOf_14 (by decide) ?_
    obtain rfl := Option.some.inj hM
    exact kreti S hr hlk hK E d_Items_kidCountOf_18
set_option maxHeartbeats 4000000 in
set_option maxRecDepth 100000 in
theorem kC_Items_hasNoSlotLeft {l : Launch} {D : va_G} {a : Nat → Nat} {cA : Nat → ClassId} {A : Nat → Prop} {g : Nat → Nat} {σ : St} {x1 : Int32} {r : Int32} (hM : kM_Items_hasNoSlotLeft σ x1 = some r) : Met l y_Items_hasNoSlotLeft (.code y_Items_hasNoSlotLeft prog_3_method_14_code 2 (some .boolean) :: AW) krm_Items_hasNoSlotLeft (va_Pc [.ref (a 1), .int x1] (kCP D a cA A g σ)) (kqi D a cA A g r σ) 0 0 A := by
  refine kmet (nL := 2) (by decide) (Nat.le_of_ble_eq_true rfl) (fun S hr hlk hK E ls hl => ?_)
  have hl : lv_has ls 2 [(0, .ref (a 1)), (1, .int x1)] := hl
  unfold kM_Items_hasNoSlotLeft at hM
  refine lv_aload_n S.1 S.2.1 d_Items_hasNoSlotLeft_0 rfl (lv_at hl 0 rfl) ?_
  refine lv_iload_n S.1 S.2.1 d_Items_hasNoSlotLeft_1 rfl (lv_at hl 1 rfl) ?_
  obtain ⟨r2, h1, hM⟩ := br_inv hM
  refine kcr_1 (As := [.int x1]) (rest := []) S hK E (kC_Items_kidCountOf h1) ⟨Nat.le_of_ble_eq_true rfl, Nat.le_of_ble_eq_true rfl⟩ rfl rfl hl.1 (lv_room (Nat.le_of_ble_eq_true rfl)) d_Items_hasNoSlotLeft_2 (fun H locs E => ?_)
  refine lv_bipush (v := 40) S.1 S.2.1 d_Items_hasNoSlotLeft_5 (by decide) ?_
  refine lv_icmp_lt (tgt := 14) S.1 S.2.1 d_Items_hasNoSlotLeft_7 (by decide) (fun c3 => ?_) (fun c3 => ?_)
  · have hM := ifP hM c3
    refine lv_iconst (v := 0) S.1 S.2.1 d_Items_hasNoSlotLeft_14 (by decide) ?_
    obtain rfl := Option.some.inj hM
    exact kretz S hr hlk hK E d_Items_hasNoSlotLeft_15 rfl
  · have hM := ifN hM c3
    refine lv_iconst (v := 1) S.1 S.2.1 d_Items_hasNoSlotLeft_10 (by decide) ?_
    refine lv_goto (tgt := 15) S.1 S.2.1 d_Items_hasNoSlotLeft_11 (by decide) ?_
    obtain rfl := Option.some.inj hM
    exact kretz S hr hlk hK E d_Items_hasNoSlotLeft_15 rfl
set_option maxHeartbeats 4000000 in
set_option maxRecDepth 100000 in
theorem kB_Items_insertKid_82 {p : Program} {l : Launch} {e : Env} {s : State} {m : MethodId} {args : Array Value} {below : List Frame} {meth : Method} {c : Code} {D : va_G} {a : Nat → Nat} {cA : Nat → ClassId} {A : Nat → Prop} {g : Nat → Nat} {σ2 : St} (S : CallFix p m c prog_3_method_19_code 6 s args AW R_Items) (hr : meth.sig.returnType = none) (hlk : meth.locks = false) (hK : kKX D cA A g s s.heap) : ∀ (σ : St) (v1 : Int32) (v2 : Int32) (v3 : Int32) (v4 : Int32) (H : Heap) (locs : List Loc) (ls : Array Slot), kEx D a cA A σ s.heap H locs → lv_has ls 6 [(0, .ref (a 1)), (1, .int v1), (2, .int v2), (3, .int v3), (4, .int v4)] → kJ_Items_insertKid_82 σ v1 v2 v3 v4 = some σ2 → W p l e krm_Items_insertKid s m args below meth c H locs 0 0 (MQ below (kqv D a cA A g σ2) args s 0 0 A) (F0 m 82 ls []) := by
  intro σ v1 v2 v3 v4 H locs ls E hl hM
  unfold kJ_Items_insertKid_82 at hM
  refine lv_aload_n S.1 S.2.1 d_Items_insertKid_82 rfl (lv_at hl 0 rfl) ?_
  refine kgf_Items_25_1 S hK E d_Items_insertKid_83 ?_
  refine lv_iload S.1 S.2.1 d_Items_insertKid_86 (lv_at hl 4 rfl) ?_
  refine lv_iload_n S.1 S.2.1 d_Items_insertKid_88 rfl (lv_at hl 2 rfl) ?_
  refine lv_iadd S.1 S.2.1 d_Items_insertKid_89 ?_
  refine lv_iload_n S.1 S.2.1 d_Items_insertKid_90 rfl (lv_at hl 3 rfl) ?_
  obtain ⟨h1, hM⟩ := gd_inv hM
  refine kas_11 S hK E h1 d_Items_insertKid_91 (fun σ2 eσ2 H locs E => ?_)
  have hM := lq_inv hM σ2 eσ2
  refine lv_aload_n S.1 S.2.1 d_Items_insertKid_92 rfl (lv_at hl 0 rfl) ?_
  refine kgf_Items_22_1 S hK E d_Items_insertKid_93 ?_
  refine lv_iload_n S.1 S.2.1 d_Items_insertKid_96 rfl (lv_at hl 1 rfl) ?_
  refine lv_dup2_11 S.1 S.2.1 d_Items_insertKid_97 rfl rfl ?_
  obtain ⟨h3, hM⟩ := gd_inv hM
  refine kal_10 S hK E h3 d_Items_insertKid_98 ?_
  refine lv_iconst (v := 1) S.1 S.2.1 d_Items_insertKid_99 (by decide) ?_
  refine lv_iadd S.1 S.2.1 d_Items_insertKid_100 ?_
  obtain ⟨h4, hM⟩ := gd_inv hM
  refine kas_10 S hK E h4 d_Items_insertKid_101 (fun σ5 eσ5 H locs E => ?_)
  have hM := lq_inv hM σ5 eσ5
  refine lv_aload_n S.1 S.2.1 d_Items_insertKid_102 rfl (lv_at hl 0 rfl) ?_
  refine lv_dup S.1 S.2.1 d_Items_insertKid_103 rfl ?_
  refine kgf_Items_41_1 S hK E d_Items_insertKid_104 ?_
  refine lv_iconst (v := 1) S.1 S.2.1 d_Items_insertKid_107 (by decide) ?_
  refine lv_iadd S.1 S.2.1 d_Items_insertKid_108 ?_
  refine kpf_Items_41_1 S hK E d_Items_insertKid_109 (fun σ6 eσ6 H locs E => ?_)
  have hM := lq_inv hM σ6 eσ6
  obtain rfl := Option.some.inj hM
  exact kretv S hr hlk hK E d_Items_insertKid_112
set_option maxHeartbeats 4000000 in
set_option maxRecDepth 100000 in
theorem kB_Items_insertKid_48 {p : Program} {l : Launch} {e : Env} {s : State} {m : MethodId} {args : Array Value} {below : List Frame} {meth : Method} {c : Code} {D : va_G} {a : Nat → Nat} {cA : Nat → ClassId} {A : Nat → Prop} {g : Nat → Nat} {σ2 : St} (S : CallFix p m c prog_3_method_19_code 6 s args AW R_Items) (hr : meth.sig.returnType = none) (hlk : meth.locks = false) (hK : kKX D cA A g s s.heap) : ∀ (n : Nat) (σ : St) (v1 : Int32) (v2 : Int32) (v3 : Int32) (v4 : Int32) (v5 : Int32) (H : Heap) (locs : List Loc) (ls : Array Slot), kEx D a cA A σ s.heap H locs → lv_has ls 6 [(0, .ref (a 1)), (1, .int v1), (2, .int v2), (3, .int v3), (4, .int v4), (5, .int v5)] → kL_Items_insertKid_48 n σ v1 v2 v3 v4 v5 = some σ2 → W p l e krm_Items_insertKid s m args below meth c H locs 0 0 (MQ below (kqv D a cA A g σ2) args s 0 0 A) (F0 m 48 ls []) := by
  intro n
  induction n with
  | zero =>
    intro σ v1 v2 v3 v4 v5 H locs ls E hl hM
    rw [kL_Items_insertKid_48] at hM
    cases hM
  | succ n ih =>
    intro σ v1 v2 v3 v4 v5 H locs ls E hl hM
    rw [kL_Items_insertKid_48] at hM
    refine lv_iload S.1 S.2.1 d_Items_insertKid_48 (lv_at hl 5 rfl) ?_
    refine lv_iload_n S.1 S.2.1 d_Items_insertKid_50 rfl (lv_at hl 2 rfl) ?_
    refine lv_icmp_le (tgt := 82) S.1 S.2.1 d_Items_insertKid_51 (by decide) (fun c1 => ?_) (fun c1 => ?_)
    · have hM := ifP hM c1
      exact kB_Items_insertKid_82 S hr hlk hK _ _ _ _ _ _ _ _ E (lv_sub hl [0, 1, 2, 3, 4] rfl) hM
    · have hM := ifN hM c1
      refine lv_aload_n S.1 S.2.1 d_Items_insertKid_54 rfl (lv_at hl 0 rfl) ?_
      refine kgf_Items_25_1 S hK E d_Items_insertKid_55 ?_
      refine lv_iload S.1 S.2.1 d_Items_insertKid_58 (lv_at hl 4 rfl) ?_
      refine lv_iload S.1 S.2.1 d_Items_insertKid_60 (lv_at hl 5 rfl) ?_
      refine lv_iadd S.1 S.2.1 d_Items_insertKid_62 ?_
      refine lv_aload_n S.1 S.2.1 d_Items_insertKid_63 rfl (lv_at hl 0 rfl) ?_
      refine kgf_Items_25_1 S hK E d_Items_insertKid_64 ?_
      refine lv_iload S.1 S.2.1 d_Items_insertKid_67 (lv_at hl 4 rfl) ?_
      refine lv_iload S.1 S.2.1 d_Items_insertKid_69 (lv_at hl 5 rfl) ?_
      refine lv_iadd S.1 S.2.1 d_Items_insertKid_71 ?_
      refine lv_iconst (v := 1) S.1 S.2.1 d_Items_insertKid_72 (by decide) ?_
      refine lv_isub S.1 S.2.1 d_Items_insertKid_73 ?_
      obtain ⟨h2, hM⟩ := gd_inv hM
      refine kal_11 S hK E h2 d_Items_insertKid_74 ?_
      obtain ⟨h3, hM⟩ := gd_inv hM
      refine kas_11 S hK E h3 d_Items_insertKid_75 (fun σ4 eσ4 H locs E => ?_)
      have hM := lq_inv hM σ4 eσ4
      obtain ⟨y5, ey5⟩ : ∃ z : Int32, z = v5 + (-1) := ⟨_, rfl⟩
      have hM := lq_inv hM y5 ey5
      refine lv_iinc (v := y5) (lv' := [(5, .int y5), (0, .ref (a 1)), (1, .int v1), (2, .int v2), (3, .int v3), (4, .int v4)]) S.1 S.2.1 d_Items_insertKid_76 hl (k := 5) rfl (by rw [ey5]; rfl) (by decide) rfl (fun ls hl => ?_)
      refine lv_goto (tgt := 48) S.1 S.2.1 d_Items_insertKid_79 (by decide) ?_
      exact ih _ _ _ _ _ _ _ _ _ E (lv_sub hl [1, 2, 3, 4, 5, 0] rfl) hM
set_option maxHeartbeats 4000000 in
set_option maxRecDepth 100000 in
theorem kC_Items_insertKid {l : Launch} {D : va_G} {a : Nat → Nat} {cA : Nat → ClassId} {A : Nat → Prop} {g : Nat → Nat} {σ σ2 : St} {x1 : Int32} {x2 : Int32} {x3 : Int32} (hM : kM_Items_insertKid σ x1 x2 x3 = some σ2) : Met l y_Items_insertKid (.code y_Items_insertKid prog_3_method_19_code 6 none :: AW) krm_Items_insertKid (va_Pc [.ref (a 1), .int x1, .int x2, .int x3] (kCP D a cA A g σ)) (kqv D a cA A g σ2) 0 0 A := by
  refine kmet (nL := 6) (by decide) (Nat.le_of_ble_eq_true rfl) (fun S hr hlk hK E ls hl => ?_)
  have hl : lv_has ls 6 [(0, .ref (a 1)), (1, .int x1), (2, .int x2), (3, .int x3)] := hl
  unfold kM_Items_insertKid at hM
  refine lv_aload_n S.1 S.2.1 d_Items_insertKid_0 rfl (lv_at hl 0 rfl) ?_
  refine lv_iload_n S.1 S.2.1 d_Items_insertKid_1 rfl (lv_at hl 1 rfl) ?_
  obtain ⟨r2, h1, hM⟩ := br_inv hM
  refine kcr_2 (As := [.int x1]) (rest := []) S hK E (kC_Items_isNode h1) ⟨Nat.le_of_ble_eq_true rfl, Nat.le_of_ble_eq_true rfl⟩ rfl rfl hl.1 (lv_room (Nat.le_of_ble_eq_true rfl)) d_Items_insertKid_2 (fun H locs E => ?_)
  refine lv_if_eq (tgt := 33) S.1 S.2.1 d_Items_insertKid_5 (by decide) (fun c3 => ?_) (fun c3 => ?_)
  · have hM := ifP hM c3
    obtain rfl := Option.some.inj hM
    exact kretv S hr hlk hK E d_Items_insertKid_33
  · have hM := ifN hM c3
    refine lv_iload_n S.1 S.2.1 d_Items_insertKid_8 rfl (lv_at hl 2 rfl) ?_
    refine lv_if_lt (tgt := 33) S.1 S.2.1 d_Items_insertKid_9 (by decide) (fun c4 => ?_) (fun c4 => ?_)
    · have hM := ifP hM c4
      obtain rfl := Option.some.inj hM
      exact kretv S hr hlk hK E d_Items_insertKid_33
    · have hM := ifN hM c4
      refine lv_iload_n S.1 S.2.1 d_Items_insertKid_12 rfl (lv_at hl 2 rfl) ?_
      refine lv_aload_n S.1 S.2.1 d_Items_insertKid_13 rfl (lv_at hl 0 rfl) ?_
      refine kgf_Items_22_1 S hK E d_Items_insertKid_14 ?_
      refine lv_iload_n S.1 S.2.1 d_Items_insertKid_17 rfl (lv_at hl 1 rfl) ?_
      obtain ⟨h5, hM⟩ := gd_inv hM
      refine kal_10 S hK E h5 d_Items_insertKid_18 ?_
      refine lv_icmp_gt (tgt := 33) S.1 S.2.1 d_Items_insertKid_19 (by decide) (fun c6 => ?_) (fun c6 => ?_)
      · have hM := ifP hM c6
        obtain rfl := Option.some.inj hM
        exact kretv S hr hlk hK E d_Items_insertKid_33
      · have hM := ifN hM c6
        refine lv_aload_n S.1 S.2.1 d_Items_insertKid_22 rfl (lv_at hl 0 rfl) ?_
        refine kgf_Items_22_1 S hK E d_Items_insertKid_23 ?_
        refine lv_iload_n S.1 S.2.1 d_Items_insertKid_26 rfl (lv_at hl 1 rfl) ?_
        obtain ⟨h7, hM⟩ := gd_inv hM
        refine kal_10 S hK E h7 d_Items_insertKid_27 ?_
        refine lv_bipush (v := 40) S.1 S.2.1 d_Items_insertKid_28 (by decide) ?_
        refine lv_icmp_lt (tgt := 34) S.1 S.2.1 d_Items_insertKid_30 (by decide) (fun c8 => ?_) (fun c8 => ?_)
        · have hM := ifP hM c8
          refine lv_iload_n S.1 S.2.1 d_Items_insertKid_34 rfl (lv_at hl 1 rfl) ?_
          refine lv_bipush (v := 40) S.1 S.2.1 d_Items_insertKid_35 (by decide) ?_
          refine lv_imul S.1 S.2.1 d_Items_insertKid_37 ?_
          refine lv_topi (fun y9 ey9 => ?_)
          have hM := lq_inv hM y9 ey9
          refine lv_istore (lv' := [(4, .int y9), (0, .ref (a 1)), (1, .int x1), (2, .int x2), (3, .int x3)]) S.1 S.2.1 d_Items_insertKid_38 hl (by decide) rfl (fun ls hl => ?_)
          refine lv_aload_n S.1 S.2.1 d_Items_insertKid_40 rfl (lv_at hl 1 rfl) ?_
          refine kgf_Items_22_1 S hK E d_Items_insertKid_41 ?_
          refine lv_iload_n S.1 S.2.1 d_Items_insertKid_44 rfl (lv_at hl 2 rfl) ?_
          obtain ⟨h10, hM⟩ := gd_inv hM
          refine kal_10 S hK E h10 d_Items_insertKid_45 ?_
          refine lv_topi (fun y11 ey11 => ?_)
          have hM := lq_inv hM y11 ey11
          refine lv_istore (lv' := [(5, .int y11), (4, .int y9), (0, .ref (a 1)), (1, .int x1), (2, .int x2), (3, .int x3)]) S.1 S.2.1 d_Items_insertKid_46 hl (by decide) rfl (fun ls hl => ?_)
          exact kB_Items_insertKid_48 S hr hlk hK _ _ _ _ _ _ _ _ _ _ E (lv_sub hl [2, 3, 4, 5, 1, 0] rfl) hM
        · have hM := ifN hM c8
          obtain rfl := Option.some.inj hM
          exact kretv S hr hlk hK E d_Items_insertKid_33
set_option maxHeartbeats 4000000 in
set_option maxRecDepth 100000 in
theorem kC_Items_appendKid {l : Launch} {D : va_G} {a : Nat → Nat} {cA : Nat → ClassId} {A : Nat → Prop} {g : Nat → Nat} {σ σ2 : St} {x1 : Int32} {x2 : Int32} (hM : kM_Items_appendKid σ x1 x2 = some σ2) : Met l y_Items_appendKid (.code y_Items_appendKid prog_3_method_18_code 3 none :: AW) krm_Items_appendKid (va_Pc [.ref (a 1), .int x1, .int x2] (kCP D a cA A g σ)) (kqv D a cA A g σ2) 0 0 A := by
  refine kmet (nL := 3) (by decide) (Nat.le_of_ble_eq_true rfl) (fun S hr hlk hK E ls hl => ?_)
  have hl : lv_has ls 3 [(0, .ref (a 1)), (1, .int x1), (2, .int x2)] := hl
  unfold kM_Items_appendKid at hM
  refine lv_aload_n S.1 S.2.1 d_Items_appendKid_0 rfl (lv_at hl 0 rfl) ?_
  refine lv_iload_n S.1 S.2.1 d_Items_appendKid_1 rfl (lv_at hl 1 rfl) ?_
  refine lv_aload_n S.1 S.2.1 d_Items_appendKid_2 rfl (lv_at hl 0 rfl) ?_
  refine lv_iload_n S.1 S.2.1 d_Items_appendKid_3 rfl (lv_at hl 1 rfl) ?_
  obtain ⟨r2, h1, hM⟩ := br_inv hM
  refine kcr_1 (As := [.int x1]) (rest := [.int x1, .ref (a 1)]) S hK E (kC_Items_kidCountOf h1) ⟨Nat.le_of_ble_eq_true rfl, Nat.le_of_ble_eq_true rfl⟩ rfl rfl hl.1 (lv_room (Nat.le_of_ble_eq_true rfl)) d_Items_appendKid_4 (fun H locs E => ?_)
  refine lv_iload_n S.1 S.2.1 d_Items_appendKid_7 rfl (lv_at hl 2 rfl) ?_
  obtain ⟨σ4, h3, hM⟩ := bv_inv hM
  refine kcr_3 (As := [.int x1, .int r2, .int x2]) (rest := []) S hK E (kC_Items_insertKid h3) ⟨Nat.le_of_ble_eq_true rfl, Nat.le_of_ble_eq_true rfl⟩ rfl rfl hl.1 (lv_room (Nat.le_of_ble_eq_true rfl)) d_Items_appendKid_8 (fun H locs E => ?_)
  obtain rfl := Option.some.inj hM
  exact kretv S hr hlk hK E d_Items_appendKid_11
set_option maxHeartbeats 4000000 in
set_option maxRecDepth 100000 in
theorem kC_PT_addLast {l : Launch} {D : va_G} {a : Nat → Nat} {cA : Nat → ClassId} {A : Nat → Prop} {g : Nat → Nat} {σ σ2 : St} {x1 : Int32} {x2 : Int32} {x3 : Int32} {r : Int32} (hM : kM_PT_addLast σ x1 x2 x3 = some (r, σ2)) : Met l y_PT_addLast (.code y_PT_addLast prog_1_method_4_code 5 (some .int) :: AW) krm_PT_addLast (va_Pc [.ref (a 0), .int x1, .int x2, .int x3] (kCP D a cA A g σ)) (kqi D a cA A g r σ2) 0 0 A := by
  refine kmet (nL := 5) (by decide) (Nat.le_of_ble_eq_true rfl) (fun S hr hlk hK E ls hl => ?_)
  have hl : lv_has ls 5 [(0, .ref (a 0)), (1, .int x1), (2, .int x2), (3, .int x3)] := hl
  unfold kM_PT_addLast at hM
  refine lv_aload_n S.1 S.2.1 d_PT_addLast_0 rfl (lv_at hl 0 rfl) ?_
  refine kgf_PT_10_0 S hK E d_PT_addLast_1 ?_
  refine lv_iload_n S.1 S.2.1 d_PT_addLast_4 rfl (lv_at hl 1 rfl) ?_
  obtain ⟨r2, h1, hM⟩ := br_inv hM
  refine kcr_4 (As := [.int x1]) (rest := []) S hK E (kC_Items_isNode h1) ⟨Nat.le_of_ble_eq_true rfl, Nat.le_of_ble_eq_true rfl⟩ rfl rfl hl.1 (lv_room (Nat.le_of_ble_eq_true rfl)) d_PT_addLast_5 (fun H locs E => ?_)
  refine lv_if_ne (tgt := 13) S.1 S.2.1 d_PT_addLast_8 (by decide) (fun c3 => ?_) (fun c3 => ?_)
  · have hM := ifN hM c3
    refine lv_aload_n S.1 S.2.1 d_PT_addLast_13 rfl (lv_at hl 0 rfl) ?_
    refine kgf_PT_10_0 S hK E d_PT_addLast_14 ?_
    obtain ⟨r5, h4, hM⟩ := br_inv hM
    refine kcr_5 (As := []) (rest := []) S hK E (kC_Items_isFull h4) ⟨Nat.le_of_ble_eq_true rfl, Nat.le_of_ble_eq_true rfl⟩ rfl rfl hl.1 (lv_room (Nat.le_of_ble_eq_true rfl)) d_PT_addLast_17 (fun H locs E => ?_)
    refine lv_if_ne (tgt := 34) S.1 S.2.1 d_PT_addLast_20 (by decide) (fun c6 => ?_) (fun c6 => ?_)
    · have hM := ifN hM c6
      refine lv_bipush (v := (-4)) S.1 S.2.1 d_PT_addLast_34 (by decide) ?_
      obtain ⟨rfl, rfl⟩ := pr_inj hM
      exact kreti S hr hlk hK E d_PT_addLast_36
    · have hM := ifP hM c6
      refine lv_aload_n S.1 S.2.1 d_PT_addLast_23 rfl (lv_at hl 0 rfl) ?_
      refine kgf_PT_10_0 S hK E d_PT_addLast_24 ?_
      refine lv_iload_n S.1 S.2.1 d_PT_addLast_27 rfl (lv_at hl 1 rfl) ?_
      obtain ⟨r8, h7, hM⟩ := br_inv hM
      refine kcr_6 (As := [.int x1]) (rest := []) S hK E (kC_Items_hasNoSlotLeft h7) ⟨Nat.le_of_ble_eq_true rfl, Nat.le_of_ble_eq_true rfl⟩ rfl rfl hl.1 (lv_room (Nat.le_of_ble_eq_true rfl)) d_PT_addLast_28 (fun H locs E => ?_)
      refine lv_if_eq (tgt := 37) S.1 S.2.1 d_PT_addLast_31 (by decide) (fun c9 => ?_) (fun c9 => ?_)
      · have hM := ifP hM c9
        refine lv_aload_n S.1 S.2.1 d_PT_addLast_37 rfl (lv_at hl 0 rfl) ?_
        refine kgf_PT_10_0 S hK E d_PT_addLast_38 ?_
        refine lv_iload_n S.1 S.2.1 d_PT_addLast_41 rfl (lv_at hl 2 rfl) ?_
        refine lv_iload_n S.1 S.2.1 d_PT_addLast_42 rfl (lv_at hl 1 rfl) ?_
        refine lv_iload_n S.1 S.2.1 d_PT_addLast_43 rfl (lv_at hl 3 rfl) ?_
        obtain ⟨r11, σ12, h10, hM⟩ := bd_inv hM
        refine kcr_7 (As := [.int x2, .int x1, .int x3]) (rest := []) S hK E (kC_Items_add h10) ⟨Nat.le_of_ble_eq_true rfl, Nat.le_of_ble_eq_true rfl⟩ rfl rfl hl.1 (lv_room (Nat.le_of_ble_eq_true rfl)) d_PT_addLast_44 (fun H locs E => ?_)
        refine lv_istore (lv' := [(4, .int r11), (0, .ref (a 0)), (1, .int x1), (2, .int x2), (3, .int x3)]) S.1 S.2.1 d_PT_addLast_47 hl (by decide) rfl (fun ls hl => ?_)
        refine lv_aload_n S.1 S.2.1 d_PT_addLast_49 rfl (lv_at hl 1 rfl) ?_
        refine kgf_PT_10_0 S hK E d_PT_addLast_50 ?_
        refine lv_iload_n S.1 S.2.1 d_PT_addLast_53 rfl (lv_at hl 2 rfl) ?_
        refine lv_iload S.1 S.2.1 d_PT_addLast_54 (lv_at hl 0 rfl) ?_
        obtain ⟨σ14, h13, hM⟩ := bv_inv hM
        refine kcr_8 (As := [.int x1, .int r11]) (rest := []) S hK E (kC_Items_appendKid h13) ⟨Nat.le_of_ble_eq_true rfl, Nat.le_of_ble_eq_true rfl⟩ rfl rfl hl.1 (lv_room (Nat.le_of_ble_eq_true rfl)) d_PT_addLast_56 (fun H locs E => ?_)
        refine lv_iload S.1 S.2.1 d_PT_addLast_59 (lv_at hl 0 rfl) ?_
        obtain ⟨rfl, rfl⟩ := pr_inj hM
        exact kreti S hr hlk hK E d_PT_addLast_61
      · have hM := ifN hM c9
        refine lv_bipush (v := (-4)) S.1 S.2.1 d_PT_addLast_34 (by decide) ?_
        obtain ⟨rfl, rfl⟩ := pr_inj hM
        exact kreti S hr hlk hK E d_PT_addLast_36
  · have hM := ifP hM c3
    refine lv_iconst (v := (-1)) S.1 S.2.1 d_PT_addLast_11 (by decide) ?_
    obtain ⟨rfl, rfl⟩ := pr_inj hM
    exact kreti S hr hlk hK E d_PT_addLast_12
set_option maxHeartbeats 4000000 in
set_option maxRecDepth 100000 in
theorem kC_PT_node {l : Launch} {D : va_G} {a : Nat → Nat} {cA : Nat → ClassId} {A : Nat → Prop} {g : Nat → Nat} {σ σ2 : St} {x1 : Int32} {x2 : Int32} {r : Int32} (hM : kM_PT_node σ x1 x2 = some (r, σ2)) : Met l y_PT_node (.code y_PT_node prog_1_method_2_code 3 (some .int) :: AW) krm_PT_node (va_Pc [.ref (a 0), .int x1, .int x2] (kCP D a cA A g σ)) (kqi D a cA A g r σ2) 0 0 A := by
  refine kmet (nL := 3) (by decide) (Nat.le_of_ble_eq_true rfl) (fun S hr hlk hK E ls hl => ?_)
  have hl : lv_has ls 3 [(0, .ref (a 0)), (1, .int x1), (2, .int x2)] := hl
  unfold kM_PT_node at hM
  refine lv_aload_n S.1 S.2.1 d_PT_node_0 rfl (lv_at hl 0 rfl) ?_
  refine kgf_PT_10_0 S hK E d_PT_node_1 ?_
  obtain ⟨r2, h1, hM⟩ := br_inv hM
  refine kcr_9 (As := []) (rest := []) S hK E (kC_Items_size h1) ⟨Nat.le_of_ble_eq_true rfl, Nat.le_of_ble_eq_true rfl⟩ rfl rfl hl.1 (lv_room (Nat.le_of_ble_eq_true rfl)) d_PT_node_4 (fun H locs E => ?_)
  refine lv_if_ne (tgt := 30) S.1 S.2.1 d_PT_node_7 (by decide) (fun c3 => ?_) (fun c3 => ?_)
  · have hM := ifN hM c3
    refine lv_aload_n S.1 S.2.1 d_PT_node_30 rfl (lv_at hl 0 rfl) ?_
    refine lv_iload_n S.1 S.2.1 d_PT_node_31 rfl (lv_at hl 1 rfl) ?_
    refine lv_iconst (v := 0) S.1 S.2.1 d_PT_node_32 (by decide) ?_
    refine lv_iload_n S.1 S.2.1 d_PT_node_33 rfl (lv_at hl 2 rfl) ?_
    obtain ⟨r5, σ6, h4, hM⟩ := bd_inv hM
    refine kcr_10 (As := [.int x1, .int 0, .int x2]) (rest := []) S hK E (kC_PT_addLast h4) ⟨Nat.le_of_ble_eq_true rfl, Nat.le_of_ble_eq_true rfl⟩ rfl rfl hl.1 (lv_room (Nat.le_of_ble_eq_true rfl)) d_PT_node_34 (fun H locs E => ?_)
    obtain ⟨rfl, rfl⟩ := pr_inj hM
    exact kreti S hr hlk hK E d_PT_node_37
  · have hM := ifP hM c3
    refine lv_iload_n S.1 S.2.1 d_PT_node_10 rfl (lv_at hl 1 rfl) ?_
    refine lv_iconst (v := (-1)) S.1 S.2.1 d_PT_node_11 (by decide) ?_
    refine lv_icmp_ne (tgt := 28) S.1 S.2.1 d_PT_node_12 (by decide) (fun c7 => ?_) (fun c7 => ?_)
    · have hM := ifN hM c7
      refine lv_iconst (v := (-1)) S.1 S.2.1 d_PT_node_28 (by decide) ?_
      obtain ⟨rfl, rfl⟩ := pr_inj hM
      exact kreti S hr hlk hK E d_PT_node_29
    · have hM := ifP hM c7
      refine lv_aload_n S.1 S.2.1 d_PT_node_15 rfl (lv_at hl 0 rfl) ?_
      refine kgf_PT_10_0 S hK E d_PT_node_16 ?_
      refine lv_iconst (v := 0) S.1 S.2.1 d_PT_node_19 (by decide) ?_
      refine lv_iconst (v := (-1)) S.1 S.2.1 d_PT_node_20 (by decide) ?_
      refine lv_iload_n S.1 S.2.1 d_PT_node_21 rfl (lv_at hl 2 rfl) ?_
      obtain ⟨r9, σ10, h8, hM⟩ := bd_inv hM
      refine kcr_7 (As := [.int 0, .int (-1), .int x2]) (rest := []) S hK E (kC_Items_add h8) ⟨Nat.le_of_ble_eq_true rfl, Nat.le_of_ble_eq_true rfl⟩ rfl rfl hl.1 (lv_room (Nat.le_of_ble_eq_true rfl)) d_PT_node_22 (fun H locs E => ?_)
      refine lv_goto (tgt := 29) S.1 S.2.1 d_PT_node_25 (by decide) ?_
      obtain ⟨rfl, rfl⟩ := pr_inj hM
      exact kreti S hr hlk hK E d_PT_node_29
set_option maxHeartbeats 4000000 in
set_option maxRecDepth 100000 in
theorem kC_PT_page {l : Launch} {D : va_G} {a : Nat → Nat} {cA : Nat → ClassId} {A : Nat → Prop} {g : Nat → Nat} {σ σ2 : St} {x1 : Int32} {r : Int32} (hM : kM_PT_page σ x1 = some (r, σ2)) : Met l y_PT_page (.code y_PT_page prog_1_method_3_code 2 (some .int) :: AW) krm_PT_page (va_Pc [.ref (a 0), .int x1] (kCP D a cA A g σ)) (kqi D a cA A g r σ2) 0 0 A := by
  refine kmet (nL := 2) (by decide) (Nat.le_of_ble_eq_true rfl) (fun S hr hlk hK E ls hl => ?_)
  have hl : lv_has ls 2 [(0, .ref (a 0)), (1, .int x1)] := hl
  unfold kM_PT_page at hM
  refine lv_aload_n S.1 S.2.1 d_PT_page_0 rfl (lv_at hl 0 rfl) ?_
  refine lv_iload_n S.1 S.2.1 d_PT_page_1 rfl (lv_at hl 1 rfl) ?_
  refine lv_iconst (v := 1) S.1 S.2.1 d_PT_page_2 (by decide) ?_
  refine lv_iconst (v := 0) S.1 S.2.1 d_PT_page_3 (by decide) ?_
  obtain ⟨r2, σ3, h1, hM⟩ := bd_inv hM
  refine kcr_10 (As := [.int x1, .int 1, .int 0]) (rest := []) S hK E (kC_PT_addLast h1) ⟨Nat.le_of_ble_eq_true rfl, Nat.le_of_ble_eq_true rfl⟩ rfl rfl hl.1 (lv_room (Nat.le_of_ble_eq_true rfl)) d_PT_page_4 (fun H locs E => ?_)
  obtain ⟨rfl, rfl⟩ := pr_inj hM
  exact kreti S hr hlk hK E d_PT_page_7
set_option maxHeartbeats 4000000 in
set_option maxRecDepth 100000 in
theorem kC_PT_list {l : Launch} {D : va_G} {a : Nat → Nat} {cA : Nat → ClassId} {A : Nat → Prop} {g : Nat → Nat} {σ σ2 : St} {x1 : Int32} {x2 : Int32} {r : Int32} (hM : kM_PT_list σ x1 x2 = some (r, σ2)) : Met l y_PT_list (.code y_PT_list prog_1_method_5_code 3 (some .int) :: AW) krm_PT_list (va_Pc [.ref (a 0), .int x1, .int x2] (kCP D a cA A g σ)) (kqi D a cA A g r σ2) 0 0 A := by
  refine kmet (nL := 3) (by decide) (Nat.le_of_ble_eq_true rfl) (fun S hr hlk hK E ls hl => ?_)
  have hl : lv_has ls 3 [(0, .ref (a 0)), (1, .int x1), (2, .int x2)] := hl
  unfold kM_PT_list at hM
  refine lv_aload_n S.1 S.2.1 d_PT_list_0 rfl (lv_at hl 0 rfl) ?_
  refine kgf_PT_10_0 S hK E d_PT_list_1 ?_
  refine lv_iload_n S.1 S.2.1 d_PT_list_4 rfl (lv_at hl 1 rfl) ?_
  obtain ⟨r2, h1, hM⟩ := br_inv hM
  refine kcr_4 (As := [.int x1]) (rest := []) S hK E (kC_Items_isNode h1) ⟨Nat.le_of_ble_eq_true rfl, Nat.le_of_ble_eq_true rfl⟩ rfl rfl hl.1 (lv_room (Nat.le_of_ble_eq_true rfl)) d_PT_list_5 (fun H locs E => ?_)
  refine lv_if_eq (tgt := 22) S.1 S.2.1 d_PT_list_8 (by decide) (fun c3 => ?_) (fun c3 => ?_)
  · have hM := ifP hM c3
    refine lv_iconst (v := (-1)) S.1 S.2.1 d_PT_list_22 (by decide) ?_
    obtain ⟨rfl, rfl⟩ := pr_inj hM
    exact kreti S hr hlk hK E d_PT_list_23
  · have hM := ifN hM c3
    refine lv_aload_n S.1 S.2.1 d_PT_list_11 rfl (lv_at hl 0 rfl) ?_
    refine kgf_PT_10_0 S hK E d_PT_list_12 ?_
    refine lv_iload_n S.1 S.2.1 d_PT_list_15 rfl (lv_at hl 2 rfl) ?_
    obtain ⟨r5, h4, hM⟩ := br_inv hM
    refine kcr_11 (As := [.int x2]) (rest := []) S hK E (kC_Items_isKnown h4) ⟨Nat.le_of_ble_eq_true rfl, Nat.le_of_ble_eq_true rfl⟩ rfl rfl hl.1 (lv_room (Nat.le_of_ble_eq_true rfl)) d_PT_list_16 (fun H locs E => ?_)
    refine lv_if_ne (tgt := 24) S.1 S.2.1 d_PT_list_19 (by decide) (fun c6 => ?_) (fun c6 => ?_)
    · have hM := ifN hM c6
      refine lv_aload_n S.1 S.2.1 d_PT_list_24 rfl (lv_at hl 0 rfl) ?_
      refine kgf_PT_10_0 S hK E d_PT_list_25 ?_
      refine lv_iload_n S.1 S.2.1 d_PT_list_28 rfl (lv_at hl 1 rfl) ?_
      obtain ⟨r8, h7, hM⟩ := br_inv hM
      refine kcr_6 (As := [.int x1]) (rest := []) S hK E (kC_Items_hasNoSlotLeft h7) ⟨Nat.le_of_ble_eq_true rfl, Nat.le_of_ble_eq_true rfl⟩ rfl rfl hl.1 (lv_room (Nat.le_of_ble_eq_true rfl)) d_PT_list_29 (fun H locs E => ?_)
      refine lv_if_eq (tgt := 38) S.1 S.2.1 d_PT_list_32 (by decide) (fun c9 => ?_) (fun c9 => ?_)
      · have hM := ifP hM c9
        refine lv_aload_n S.1 S.2.1 d_PT_list_38 rfl (lv_at hl 0 rfl) ?_
        refine kgf_PT_10_0 S hK E d_PT_list_39 ?_
        refine lv_iload_n S.1 S.2.1 d_PT_list_42 rfl (lv_at hl 1 rfl) ?_
        refine lv_iload_n S.1 S.2.1 d_PT_list_43 rfl (lv_at hl 2 rfl) ?_
        obtain ⟨σ11, h10, hM⟩ := bv_inv hM
        refine kcr_8 (As := [.int x1, .int x2]) (rest := []) S hK E (kC_Items_appendKid h10) ⟨Nat.le_of_ble_eq_true rfl, Nat.le_of_ble_eq_true rfl⟩ rfl rfl hl.1 (lv_room (Nat.le_of_ble_eq_true rfl)) d_PT_list_44 (fun H locs E => ?_)
        refine lv_aload_n S.1 S.2.1 d_PT_list_47 rfl (lv_at hl 0 rfl) ?_
        refine kgf_PT_10_0 S hK E d_PT_list_48 ?_
        refine lv_iload_n S.1 S.2.1 d_PT_list_51 rfl (lv_at hl 1 rfl) ?_
        obtain ⟨r13, h12, hM⟩ := br_inv hM
        refine kcr_12 (As := [.int x1]) (rest := []) S hK E (kC_Items_kidCountOf h12) ⟨Nat.le_of_ble_eq_true rfl, Nat.le_of_ble_eq_true rfl⟩ rfl rfl hl.1 (lv_room (Nat.le_of_ble_eq_true rfl)) d_PT_list_52 (fun H locs E => ?_)
        obtain ⟨rfl, rfl⟩ := pr_inj hM
        exact kreti S hr hlk hK E d_PT_list_55
      · have hM := ifN hM c9
        refine lv_bipush (v := (-4)) S.1 S.2.1 d_PT_list_35 (by decide) ?_
        obtain ⟨rfl, rfl⟩ := pr_inj hM
        exact kreti S hr hlk hK E d_PT_list_37
    · have hM := ifP hM c6
      refine lv_iconst (v := (-1)) S.1 S.2.1 d_PT_list_22 (by decide) ?_
      obtain ⟨rfl, rfl⟩ := pr_inj hM
      exact kreti S hr hlk hK E d_PT_list_23
set_option maxHeartbeats 4000000 in
set_option maxRecDepth 100000 in
theorem kC_PT_isKey {l : Launch} {D : va_G} {a : Nat → Nat} {cA : Nat → ClassId} {A : Nat → Prop} {g : Nat → Nat} {σ : St} {x0 : Int32} {r : Int32} (hM : kM_PT_isKey σ x0 = some r) : Met l y_PT_isKey (.code y_PT_isKey prog_1_method_8_code 1 (some .boolean) :: AW) krm_PT_isKey (va_Pc [.int x0] (kCP D a cA A g σ)) (kqi D a cA A g r σ) 0 0 A := by
  refine kmet (nL := 1) (by decide) (Nat.le_of_ble_eq_true rfl) (fun S hr hlk hK E ls hl => ?_)
  have hl : lv_has ls 1 [(0, .int x0)] := hl
  unfold kM_PT_isKey at hM
  refine lv_iload_n S.1 S.2.1 d_PT_isKey_0 rfl (lv_at hl 0 rfl) ?_
  refine lv_if_lt (tgt := 13) S.1 S.2.1 d_PT_isKey_1 (by decide) (fun c1 => ?_) (fun c1 => ?_)
  · have hM := ifP hM c1
    refine lv_iconst (v := 0) S.1 S.2.1 d_PT_isKey_13 (by decide) ?_
    obtain rfl := Option.some.inj hM
    exact kretz S hr hlk hK E d_PT_isKey_14 rfl
  · have hM := ifN hM c1
    refine lv_iload_n S.1 S.2.1 d_PT_isKey_4 rfl (lv_at hl 0 rfl) ?_
    refine lv_iconst (v := 4) S.1 S.2.1 d_PT_isKey_5 (by decide) ?_
    refine lv_icmp_ge (tgt := 13) S.1 S.2.1 d_PT_isKey_6 (by decide) (fun c2 => ?_) (fun c2 => ?_)
    · have hM := ifP hM c2
      refine lv_iconst (v := 0) S.1 S.2.1 d_PT_isKey_13 (by decide) ?_
      obtain rfl := Option.some.inj hM
      exact kretz S hr hlk hK E d_PT_isKey_14 rfl
    · have hM := ifN hM c2
      refine lv_iconst (v := 1) S.1 S.2.1 d_PT_isKey_9 (by decide) ?_
      refine lv_goto (tgt := 14) S.1 S.2.1 d_PT_isKey_10 (by decide) ?_
      obtain rfl := Option.some.inj hM
      exact kretz S hr hlk hK E d_PT_isKey_14 rfl
set_option maxHeartbeats 4000000 in
set_option maxRecDepth 100000 in
theorem kC_Items_setOwnValue {l : Launch} {D : va_G} {a : Nat → Nat} {cA : Nat → ClassId} {A : Nat → Prop} {g : Nat → Nat} {σ σ2 : St} {x1 : Int32} {x2 : Int32} {x3 : Int32} (hM : kM_Items_setOwnValue σ x1 x2 x3 = some σ2) : Met l y_Items_setOwnValue (.code y_Items_setOwnValue prog_3_method_25_code 4 none :: AW) krm_Items_setOwnValue (va_Pc [.ref (a 1), .int x1, .int x2, .int x3] (kCP D a cA A g σ)) (kqv D a cA A g σ2) 0 0 A := by
  refine kmet (nL := 4) (by decide) (Nat.le_of_ble_eq_true rfl) (fun S hr hlk hK E ls hl => ?_)
  have hl : lv_has ls 4 [(0, .ref (a 1)), (1, .int x1), (2, .int x2), (3, .int x3)] := hl
  unfold kM_Items_setOwnValue at hM
  refine lv_aload_n S.1 S.2.1 d_Items_setOwnValue_0 rfl (lv_at hl 0 rfl) ?_
  refine lv_iload_n S.1 S.2.1 d_Items_setOwnValue_1 rfl (lv_at hl 1 rfl) ?_
  obtain ⟨r2, h1, hM⟩ := br_inv hM
  refine kcr_0 (As := [.int x1]) (rest := []) S hK E (kC_Items_isKnown h1) ⟨Nat.le_of_ble_eq_true rfl, Nat.le_of_ble_eq_true rfl⟩ rfl rfl hl.1 (lv_room (Nat.le_of_ble_eq_true rfl)) d_Items_setOwnValue_2 (fun H locs E => ?_)
  refine lv_if_eq (tgt := 26) S.1 S.2.1 d_Items_setOwnValue_5 (by decide) (fun c3 => ?_) (fun c3 => ?_)
  · have hM := ifP hM c3
    obtain rfl := Option.some.inj hM
    exact kretv S hr hlk hK E d_Items_setOwnValue_26
  · have hM := ifN hM c3
    refine lv_iload_n S.1 S.2.1 d_Items_setOwnValue_8 rfl (lv_at hl 2 rfl) ?_
    obtain ⟨r5, h4, hM⟩ := br_inv hM
    refine kcr_13 (As := [.int x2]) (rest := []) S hK E (kC_PT_isKey h4) ⟨Nat.le_of_ble_eq_true rfl, Nat.le_of_ble_eq_true rfl⟩ rfl rfl hl.1 (lv_room (Nat.le_of_ble_eq_true rfl)) d_Items_setOwnValue_9 (fun H locs E => ?_)
    refine lv_if_eq (tgt := 26) S.1 S.2.1 d_Items_setOwnValue_12 (by decide) (fun c6 => ?_) (fun c6 => ?_)
    · have hM := ifP hM c6
      obtain rfl := Option.some.inj hM
      exact kretv S hr hlk hK E d_Items_setOwnValue_26
    · have hM := ifN hM c6
      refine lv_aload_n S.1 S.2.1 d_Items_setOwnValue_15 rfl (lv_at hl 0 rfl) ?_
      refine kgf_Items_28_1 S hK E d_Items_setOwnValue_16 ?_
      refine lv_iload_n S.1 S.2.1 d_Items_setOwnValue_19 rfl (lv_at hl 1 rfl) ?_
      refine lv_iconst (v := 4) S.1 S.2.1 d_Items_setOwnValue_20 (by decide) ?_
      refine lv_imul S.1 S.2.1 d_Items_setOwnValue_21 ?_
      refine lv_iload_n S.1 S.2.1 d_Items_setOwnValue_22 rfl (lv_at hl 2 rfl) ?_
      refine lv_iadd S.1 S.2.1 d_Items_setOwnValue_23 ?_
      refine lv_iload_n S.1 S.2.1 d_Items_setOwnValue_24 rfl (lv_at hl 3 rfl) ?_
      obtain ⟨h7, hM⟩ := gd_inv hM
      refine kas_12 S hK E h7 d_Items_setOwnValue_25 (fun σ8 eσ8 H locs E => ?_)
      have hM := lq_inv hM σ8 eσ8
      obtain rfl := Option.some.inj hM
      exact kretv S hr hlk hK E d_Items_setOwnValue_26
set_option maxHeartbeats 4000000 in
set_option maxRecDepth 100000 in
theorem kC_PT_inherit {l : Launch} {D : va_G} {a : Nat → Nat} {cA : Nat → ClassId} {A : Nat → Prop} {g : Nat → Nat} {σ σ2 : St} {x1 : Int32} {x2 : Int32} {x3 : Int32} {r : Int32} (hM : kM_PT_inherit σ x1 x2 x3 = some (r, σ2)) : Met l y_PT_inherit (.code y_PT_inherit prog_1_method_6_code 4 (some .int) :: AW) krm_PT_inherit (va_Pc [.ref (a 0), .int x1, .int x2, .int x3] (kCP D a cA A g σ)) (kqi D a cA A g r σ2) 0 0 A := by
  refine kmet (nL := 4) (by decide) (Nat.le_of_ble_eq_true rfl) (fun S hr hlk hK E ls hl => ?_)
  have hl : lv_has ls 4 [(0, .ref (a 0)), (1, .int x1), (2, .int x2), (3, .int x3)] := hl
  unfold kM_PT_inherit at hM
  refine lv_aload_n S.1 S.2.1 d_PT_inherit_0 rfl (lv_at hl 0 rfl) ?_
  refine kgf_PT_10_0 S hK E d_PT_inherit_1 ?_
  refine lv_iload_n S.1 S.2.1 d_PT_inherit_4 rfl (lv_at hl 1 rfl) ?_
  obtain ⟨r2, h1, hM⟩ := br_inv hM
  refine kcr_11 (As := [.int x1]) (rest := []) S hK E (kC_Items_isKnown h1) ⟨Nat.le_of_ble_eq_true rfl, Nat.le_of_ble_eq_true rfl⟩ rfl rfl hl.1 (lv_room (Nat.le_of_ble_eq_true rfl)) d_PT_inherit_5 (fun H locs E => ?_)
  refine lv_if_ne (tgt := 13) S.1 S.2.1 d_PT_inherit_8 (by decide) (fun c3 => ?_) (fun c3 => ?_)
  · have hM := ifN hM c3
    refine lv_iload_n S.1 S.2.1 d_PT_inherit_13 rfl (lv_at hl 2 rfl) ?_
    obtain ⟨r5, h4, hM⟩ := br_inv hM
    refine kcr_14 (As := [.int x2]) (rest := []) S hK E (kC_PT_isKey h4) ⟨Nat.le_of_ble_eq_true rfl, Nat.le_of_ble_eq_true rfl⟩ rfl rfl hl.1 (lv_room (Nat.le_of_ble_eq_true rfl)) d_PT_inherit_14 (fun H locs E => ?_)
    refine lv_if_eq (tgt := 31) S.1 S.2.1 d_PT_inherit_17 (by decide) (fun c6 => ?_) (fun c6 => ?_)
    · have hM := ifP hM c6
      refine lv_bipush (v := (-2)) S.1 S.2.1 d_PT_inherit_31 (by decide) ?_
      obtain ⟨rfl, rfl⟩ := pr_inj hM
      exact kreti S hr hlk hK E d_PT_inherit_33
    · have hM := ifN hM c6
      refine lv_iload_n S.1 S.2.1 d_PT_inherit_20 rfl (lv_at hl 3 rfl) ?_
      refine lv_iconst (v := (-1)) S.1 S.2.1 d_PT_inherit_21 (by decide) ?_
      refine lv_icmp_lt (tgt := 31) S.1 S.2.1 d_PT_inherit_22 (by decide) (fun c7 => ?_) (fun c7 => ?_)
      · have hM := ifP hM c7
        refine lv_bipush (v := (-2)) S.1 S.2.1 d_PT_inherit_31 (by decide) ?_
        obtain ⟨rfl, rfl⟩ := pr_inj hM
        exact kreti S hr hlk hK E d_PT_inherit_33
      · have hM := ifN hM c7
        refine lv_iload_n S.1 S.2.1 d_PT_inherit_25 rfl (lv_at hl 3 rfl) ?_
        refine lv_ldc (v := 100000) S.1 S.2.1 S.2.2.2.1 (S.2.2.2.2 _ aw273) d_PT_inherit_26 ?_
        refine lv_icmp_le (tgt := 34) S.1 S.2.1 d_PT_inherit_28 (by decide) (fun c8 => ?_) (fun c8 => ?_)
        · have hM := ifP hM c8
          refine lv_aload_n S.1 S.2.1 d_PT_inherit_34 rfl (lv_at hl 0 rfl) ?_
          refine kgf_PT_10_0 S hK E d_PT_inherit_35 ?_
          refine lv_iload_n S.1 S.2.1 d_PT_inherit_38 rfl (lv_at hl 1 rfl) ?_
          refine lv_iload_n S.1 S.2.1 d_PT_inherit_39 rfl (lv_at hl 2 rfl) ?_
          refine lv_iload_n S.1 S.2.1 d_PT_inherit_40 rfl (lv_at hl 3 rfl) ?_
          obtain ⟨σ10, h9, hM⟩ := bv_inv hM
          refine kcr_15 (As := [.int x1, .int x2, .int x3]) (rest := []) S hK E (kC_Items_setOwnValue h9) ⟨Nat.le_of_ble_eq_true rfl, Nat.le_of_ble_eq_true rfl⟩ rfl rfl hl.1 (lv_room (Nat.le_of_ble_eq_true rfl)) d_PT_inherit_41 (fun H locs E => ?_)
          refine lv_iconst (v := 1) S.1 S.2.1 d_PT_inherit_44 (by decide) ?_
          obtain ⟨rfl, rfl⟩ := pr_inj hM
          exact kreti S hr hlk hK E d_PT_inherit_45
        · have hM := ifN hM c8
          refine lv_bipush (v := (-2)) S.1 S.2.1 d_PT_inherit_31 (by decide) ?_
          obtain ⟨rfl, rfl⟩ := pr_inj hM
          exact kreti S hr hlk hK E d_PT_inherit_33
  · have hM := ifP hM c3
    refine lv_iconst (v := (-1)) S.1 S.2.1 d_PT_inherit_11 (by decide) ?_
    obtain ⟨rfl, rfl⟩ := pr_inj hM
    exact kreti S hr hlk hK E d_PT_inherit_12
set_option maxHeartbeats 4000000 in
set_option maxRecDepth 100000 in
theorem kC_Items_isPage {l : Launch} {D : va_G} {a : Nat → Nat} {cA : Nat → ClassId} {A : Nat → Prop} {g : Nat → Nat} {σ : St} {x1 : Int32} {r : Int32} (hM : kM_Items_isPage σ x1 = some r) : Met l y_Items_isPage (.code y_Items_isPage prog_3_method_6_code 2 (some .boolean) :: AW) krm_Items_isPage (va_Pc [.ref (a 1), .int x1] (kCP D a cA A g σ)) (kqi D a cA A g r σ) 0 0 A := by
  refine kmet (nL := 2) (by decide) (Nat.le_of_ble_eq_true rfl) (fun S hr hlk hK E ls hl => ?_)
  have hl : lv_has ls 2 [(0, .ref (a 1)), (1, .int x1)] := hl
  unfold kM_Items_isPage at hM
  refine lv_iload_n S.1 S.2.1 d_Items_isPage_0 rfl (lv_at hl 1 rfl) ?_
  refine lv_if_lt (tgt := 25) S.1 S.2.1 d_Items_isPage_1 (by decide) (fun c1 => ?_) (fun c1 => ?_)
  · have hM := ifP hM c1
    refine lv_iconst (v := 0) S.1 S.2.1 d_Items_isPage_25 (by decide) ?_
    obtain rfl := Option.some.inj hM
    exact kretz S hr hlk hK E d_Items_isPage_26 rfl
  · have hM := ifN hM c1
    refine lv_iload_n S.1 S.2.1 d_Items_isPage_4 rfl (lv_at hl 1 rfl) ?_
    refine lv_aload_n S.1 S.2.1 d_Items_isPage_5 rfl (lv_at hl 0 rfl) ?_
    refine kgf_Items_37_1 S hK E d_Items_isPage_6 ?_
    refine lv_icmp_ge (tgt := 25) S.1 S.2.1 d_Items_isPage_9 (by decide) (fun c2 => ?_) (fun c2 => ?_)
    · have hM := ifP hM c2
      refine lv_iconst (v := 0) S.1 S.2.1 d_Items_isPage_25 (by decide) ?_
      obtain rfl := Option.some.inj hM
      exact kretz S hr hlk hK E d_Items_isPage_26 rfl
    · have hM := ifN hM c2
      refine lv_aload_n S.1 S.2.1 d_Items_isPage_12 rfl (lv_at hl 0 rfl) ?_
      refine kgf_Items_9_1 S hK E d_Items_isPage_13 ?_
      refine lv_iload_n S.1 S.2.1 d_Items_isPage_16 rfl (lv_at hl 1 rfl) ?_
      obtain ⟨h3, hM⟩ := gd_inv hM
      refine kal_7 S hK E h3 d_Items_isPage_17 ?_
      refine lv_if_eq (tgt := 25) S.1 S.2.1 d_Items_isPage_18 (by decide) (fun c4 => ?_) (fun c4 => ?_)
      · have hM := ifP hM c4
        refine lv_iconst (v := 0) S.1 S.2.1 d_Items_isPage_25 (by decide) ?_
        obtain rfl := Option.some.inj hM
        exact kretz S hr hlk hK E d_Items_isPage_26 rfl
      · have hM := ifN hM c4
        refine lv_iconst (v := 1) S.1 S.2.1 d_Items_isPage_21 (by decide) ?_
        refine lv_goto (tgt := 26) S.1 S.2.1 d_Items_isPage_22 (by decide) ?_
        obtain rfl := Option.some.inj hM
        exact kretz S hr hlk hK E d_Items_isPage_26 rfl
set_option maxHeartbeats 4000000 in
set_option maxRecDepth 100000 in
theorem kB_Items_valueOf_14 {p : Program} {l : Launch} {e : Env} {s : State} {m : MethodId} {args : Array Value} {below : List Frame} {meth : Method} {c : Code} {D : va_G} {a : Nat → Nat} {cA : Nat → ClassId} {A : Nat → Prop} {g : Nat → Nat} {σ : St} {r : Int32} (S : CallFix p m c prog_3_method_26_code 6 s args AW R_Items) (hr : meth.sig.returnType = (some .int)) (hlk : meth.locks = false) (hK : kKX D cA A g s s.heap) : ∀ (n : Nat) (v2 : Int32) (v3 : Int32) (v4 : Int32) (H : Heap) (locs : List Loc) (ls : Array Slot), kEx D a cA A σ s.heap H locs → lv_has ls 6 [(0, .ref (a 1)), (2, .int v2), (3, .int v3), (4, .int v4)] → kL_Items_valueOf_14 σ n v2 v3 v4 = some r → W p l e krm_Items_valueOf s m args below meth c H locs 0 0 (MQ below (kqi D a cA A g r σ) args s 0 0 A) (F0 m 14 ls []) := by
  intro n
  induction n with
  | zero =>
    intro v2 v3 v4 H locs ls E hl hM
    rw [kL_Items_valueOf_14] at hM
    cases hM
  | succ n ih =>
    intro v2 v3 v4 H locs ls E hl hM
    rw [kL_Items_valueOf_14] at hM
    refine lv_iload S.1 S.2.1 d_Items_valueOf_14 (lv_at hl 3 rfl) ?_
    refine lv_sipush (v := 200) S.1 S.2.1 d_Items_valueOf_16 (by decide) ?_
    refine lv_icmp_ge (tgt := 64) S.1 S.2.1 d_Items_valueOf_19 (by decide) (fun c1 => ?_) (fun c1 => ?_)
    · have hM := ifP hM c1
      refine lv_iconst (v := (-1)) S.1 S.2.1 d_Items_valueOf_64 (by decide) ?_
      obtain rfl := Option.some.inj hM
      exact kreti S hr hlk hK E d_Items_valueOf_65
    · have hM := ifN hM c1
      refine lv_aload_n S.1 S.2.1 d_Items_valueOf_22 rfl (lv_at hl 0 rfl) ?_
      refine lv_iload_n S.1 S.2.1 d_Items_valueOf_23 rfl (lv_at hl 2 rfl) ?_
      obtain ⟨r3, h2, hM⟩ := br_inv hM
      refine kcr_0 (As := [.int v3]) (rest := []) S hK E (kC_Items_isKnown h2) ⟨Nat.le_of_ble_eq_true rfl, Nat.le_of_ble_eq_true rfl⟩ rfl rfl hl.1 (lv_room (Nat.le_of_ble_eq_true rfl)) d_Items_valueOf_24 (fun H locs E => ?_)
      refine lv_if_eq (tgt := 64) S.1 S.2.1 d_Items_valueOf_27 (by decide) (fun c4 => ?_) (fun c4 => ?_)
      · have hM := ifP hM c4
        refine lv_iconst (v := (-1)) S.1 S.2.1 d_Items_valueOf_64 (by decide) ?_
        obtain rfl := Option.some.inj hM
        exact kreti S hr hlk hK E d_Items_valueOf_65
      · have hM := ifN hM c4
        refine lv_aload_n S.1 S.2.1 d_Items_valueOf_30 rfl (lv_at hl 0 rfl) ?_
        refine kgf_Items_28_1 S hK E d_Items_valueOf_31 ?_
        refine lv_iload_n S.1 S.2.1 d_Items_valueOf_34 rfl (lv_at hl 2 rfl) ?_
        refine lv_iconst (v := 4) S.1 S.2.1 d_Items_valueOf_35 (by decide) ?_
        refine lv_imul S.1 S.2.1 d_Items_valueOf_36 ?_
        refine lv_iload_n S.1 S.2.1 d_Items_valueOf_37 rfl (lv_at hl 1 rfl) ?_
        refine lv_iadd S.1 S.2.1 d_Items_valueOf_38 ?_
        obtain ⟨h5, hM⟩ := gd_inv hM
        refine kal_12 S hK E h5 d_Items_valueOf_39 ?_
        refine lv_topi (fun y6 ey6 => ?_)
        have hM := lq_inv hM y6 ey6
        refine lv_istore (lv' := [(5, .int y6), (0, .ref (a 1)), (2, .int v2), (3, .int v3), (4, .int v4)]) S.1 S.2.1 d_Items_valueOf_40 hl (by decide) rfl (fun ls hl => ?_)
        refine lv_iload S.1 S.2.1 d_Items_valueOf_42 (lv_at hl 0 rfl) ?_
        refine lv_iconst (v := (-1)) S.1 S.2.1 d_Items_valueOf_44 (by decide) ?_
        refine lv_icmp_eq (tgt := 51) S.1 S.2.1 d_Items_valueOf_45 (by decide) (fun c7 => ?_) (fun c7 => ?_)
        · have hM := ifP hM c7
          refine lv_aload_n S.1 S.2.1 d_Items_valueOf_51 rfl (lv_at hl 1 rfl) ?_
          refine kgf_Items_15_1 S hK E d_Items_valueOf_52 ?_
          refine lv_iload_n S.1 S.2.1 d_Items_valueOf_55 rfl (lv_at hl 3 rfl) ?_
          obtain ⟨h8, hM⟩ := gd_inv hM
          refine kal_8 S hK E h8 d_Items_valueOf_56 ?_
          refine lv_topi (fun y9 ey9 => ?_)
          have hM := lq_inv hM y9 ey9
          refine lv_istore_n (lv' := [(3, .int y9), (5, .int y6), (0, .ref (a 1)), (2, .int v2), (4, .int v4)]) S.1 S.2.1 d_Items_valueOf_57 rfl hl (by decide) rfl (fun ls hl => ?_)
          obtain ⟨y10, ey10⟩ : ∃ z : Int32, z = v4 + 1 := ⟨_, rfl⟩
          have hM := lq_inv hM y10 ey10
          refine lv_iinc (v := y10) (lv' := [(4, .int y10), (3, .int y9), (5, .int y6), (0, .ref (a 1)), (2, .int v2)]) S.1 S.2.1 d_Items_valueOf_58 hl (k := 4) rfl (by rw [ey10]; rfl) (by decide) rfl (fun ls hl => ?_)
          refine lv_goto (tgt := 14) S.1 S.2.1 d_Items_valueOf_61 (by decide) ?_
          exact ih _ _ _ _ _ _ E (lv_sub hl [3, 4, 1, 0] rfl) hM
        · have hM := ifN hM c7
          refine lv_iload S.1 S.2.1 d_Items_valueOf_48 (lv_at hl 0 rfl) ?_
          obtain rfl := Option.some.inj hM
          exact kreti S hr hlk hK E d_Items_valueOf_50
set_option maxHeartbeats 4000000 in
set_option maxRecDepth 100000 in
theorem kC_Items_valueOf {l : Launch} {D : va_G} {a : Nat → Nat} {cA : Nat → ClassId} {A : Nat → Prop} {g : Nat → Nat} {σ : St} {x1 : Int32} {x2 : Int32} {r : Int32} (hM : kM_Items_valueOf σ x1 x2 = some r) : Met l y_Items_valueOf (.code y_Items_valueOf prog_3_method_26_code 6 (some .int) :: AW) krm_Items_valueOf (va_Pc [.ref (a 1), .int x1, .int x2] (kCP D a cA A g σ)) (kqi D a cA A g r σ) 0 0 A := by
  refine kmet (nL := 6) (by decide) (Nat.le_of_ble_eq_true rfl) (fun S hr hlk hK E ls hl => ?_)
  have hl : lv_has ls 6 [(0, .ref (a 1)), (1, .int x1), (2, .int x2)] := hl
  unfold kM_Items_valueOf at hM
  refine lv_iload_n S.1 S.2.1 d_Items_valueOf_0 rfl (lv_at hl 2 rfl) ?_
  obtain ⟨r2, h1, hM⟩ := br_inv hM
  refine kcr_13 (As := [.int x2]) (rest := []) S hK E (kC_PT_isKey h1) ⟨Nat.le_of_ble_eq_true rfl, Nat.le_of_ble_eq_true rfl⟩ rfl rfl hl.1 (lv_room (Nat.le_of_ble_eq_true rfl)) d_Items_valueOf_1 (fun H locs E => ?_)
  refine lv_if_ne (tgt := 9) S.1 S.2.1 d_Items_valueOf_4 (by decide) (fun c3 => ?_) (fun c3 => ?_)
  · have hM := ifN hM c3
    refine lv_iload_n S.1 S.2.1 d_Items_valueOf_9 rfl (lv_at hl 1 rfl) ?_
    refine lv_istore_n (lv' := [(3, .int x1), (0, .ref (a 1)), (1, .int x1), (2, .int x2)]) S.1 S.2.1 d_Items_valueOf_10 rfl hl (by decide) rfl (fun ls hl => ?_)
    refine lv_iconst (v := 0) S.1 S.2.1 d_Items_valueOf_11 (by decide) ?_
    refine lv_istore (lv' := [(4, .int 0), (3, .int x1), (0, .ref (a 1)), (1, .int x1), (2, .int x2)]) S.1 S.2.1 d_Items_valueOf_12 hl (by decide) rfl (fun ls hl => ?_)
    exact kB_Items_valueOf_14 S hr hlk hK _ _ _ _ _ _ _ E (lv_sub hl [2, 4, 1, 0] rfl) hM
  · have hM := ifP hM c3
    refine lv_iconst (v := (-1)) S.1 S.2.1 d_Items_valueOf_7 (by decide) ?_
    obtain rfl := Option.some.inj hM
    exact kreti S hr hlk hK E d_Items_valueOf_8
set_option maxHeartbeats 4000000 in
set_option maxRecDepth 100000 in
theorem kC_PT_of {l : Launch} {D : va_G} {a : Nat → Nat} {cA : Nat → ClassId} {A : Nat → Prop} {g : Nat → Nat} {σ : St} {x1 : Int32} {x2 : Int32} {r : Int32} (hM : kM_PT_of σ x1 x2 = some r) : Met l y_PT_of (.code y_PT_of prog_1_method_7_code 3 (some .int) :: AW) krm_PT_of (va_Pc [.ref (a 0), .int x1, .int x2] (kCP D a cA A g σ)) (kqi D a cA A g r σ) 0 0 A := by
  refine kmet (nL := 3) (by decide) (Nat.le_of_ble_eq_true rfl) (fun S hr hlk hK E ls hl => ?_)
  have hl : lv_has ls 3 [(0, .ref (a 0)), (1, .int x1), (2, .int x2)] := hl
  unfold kM_PT_of at hM
  refine lv_aload_n S.1 S.2.1 d_PT_of_0 rfl (lv_at hl 0 rfl) ?_
  refine kgf_PT_10_0 S hK E d_PT_of_1 ?_
  refine lv_iload_n S.1 S.2.1 d_PT_of_4 rfl (lv_at hl 1 rfl) ?_
  obtain ⟨r2, h1, hM⟩ := br_inv hM
  refine kcr_16 (As := [.int x1]) (rest := []) S hK E (kC_Items_isPage h1) ⟨Nat.le_of_ble_eq_true rfl, Nat.le_of_ble_eq_true rfl⟩ rfl rfl hl.1 (lv_room (Nat.le_of_ble_eq_true rfl)) d_PT_of_5 (fun H locs E => ?_)
  refine lv_if_ne (tgt := 13) S.1 S.2.1 d_PT_of_8 (by decide) (fun c3 => ?_) (fun c3 => ?_)
  · have hM := ifN hM c3
    refine lv_iload_n S.1 S.2.1 d_PT_of_13 rfl (lv_at hl 2 rfl) ?_
    obtain ⟨r5, h4, hM⟩ := br_inv hM
    refine kcr_14 (As := [.int x2]) (rest := []) S hK E (kC_PT_isKey h4) ⟨Nat.le_of_ble_eq_true rfl, Nat.le_of_ble_eq_true rfl⟩ rfl rfl hl.1 (lv_room (Nat.le_of_ble_eq_true rfl)) d_PT_of_14 (fun H locs E => ?_)
    refine lv_if_eq (tgt := 32) S.1 S.2.1 d_PT_of_17 (by decide) (fun c6 => ?_) (fun c6 => ?_)
    · have hM := ifP hM c6
      refine lv_bipush (v := (-2)) S.1 S.2.1 d_PT_of_32 (by decide) ?_
      obtain rfl := Option.some.inj hM
      exact kreti S hr hlk hK E d_PT_of_34
    · have hM := ifN hM c6
      refine lv_aload_n S.1 S.2.1 d_PT_of_20 rfl (lv_at hl 0 rfl) ?_
      refine kgf_PT_10_0 S hK E d_PT_of_21 ?_
      refine lv_iload_n S.1 S.2.1 d_PT_of_24 rfl (lv_at hl 1 rfl) ?_
      refine lv_iload_n S.1 S.2.1 d_PT_of_25 rfl (lv_at hl 2 rfl) ?_
      obtain ⟨r8, h7, hM⟩ := br_inv hM
      refine kcr_17 (As := [.int x1, .int x2]) (rest := []) S hK E (kC_Items_valueOf h7) ⟨Nat.le_of_ble_eq_true rfl, Nat.le_of_ble_eq_true rfl⟩ rfl rfl hl.1 (lv_room (Nat.le_of_ble_eq_true rfl)) d_PT_of_26 (fun H locs E => ?_)
      refine lv_goto (tgt := 34) S.1 S.2.1 d_PT_of_29 (by decide) ?_
      obtain rfl := Option.some.inj hM
      exact kreti S hr hlk hK E d_PT_of_34
  · have hM := ifP hM c3
    refine lv_iconst (v := (-1)) S.1 S.2.1 d_PT_of_11 (by decide) ?_
    obtain rfl := Option.some.inj hM
    exact kreti S hr hlk hK E d_PT_of_12
set_option maxHeartbeats 4000000 in
set_option maxRecDepth 100000 in
theorem kC_Items_version {l : Launch} {D : va_G} {a : Nat → Nat} {cA : Nat → ClassId} {A : Nat → Prop} {g : Nat → Nat} {σ : St} {r : Int32} (hM : kM_Items_version σ = some r) : Met l y_Items_version (.code y_Items_version prog_3_method_3_code 1 (some .int) :: AW) krm_Items_version (va_Pc [.ref (a 1)] (kCP D a cA A g σ)) (kqi D a cA A g r σ) 0 0 A := by
  refine kmet (nL := 1) (by decide) (Nat.le_of_ble_eq_true rfl) (fun S hr hlk hK E ls hl => ?_)
  have hl : lv_has ls 1 [(0, .ref (a 1))] := hl
  unfold kM_Items_version at hM
  refine lv_aload_n S.1 S.2.1 d_Items_version_0 rfl (lv_at hl 0 rfl) ?_
  refine kgf_Items_41_1 S hK E d_Items_version_1 ?_
  obtain rfl := Option.some.inj hM
  exact kreti S hr hlk hK E d_Items_version_4
