set_option maxHeartbeats 4000000 in
set_option maxRecDepth 100000 in
theorem kC_PT_about {l : Launch} {D : va_G} {a : Nat → Nat} {cA : Nat → ClassId} {A : Nat → Prop} {g : Nat → Nat} {σ σ2 : St} {x1 : Int32} {x2 : Int32} {r : Int32} (hM : kM_PT_about σ x1 x2 = some (r, σ2)) : Met l y_PT_about (.code y_PT_about prog_1_method_11_code 3 (some .int) :: AW) krm_PT_about (va_Pc [.ref (a 0), .int x1, .int x2] (kCP D a cA A g σ)) (kqi D a cA A g r σ2) 0 0 A := by
  refine kmet (nL := 3) (by decide) (Nat.le_of_ble_eq_true rfl) (fun S hr hlk hK E ls hl => ?_)
  have hl : lv_has ls 3 [(0, .ref (a 0)), (1, .int x1), (2, .int x2)] := hl
  unfold kM_PT_about at hM
  refine lv_aload_n S.1 S.2.1 d_PT_about_0 rfl (lv_at hl 0 rfl) ?_
  refine kgf_PT_10_0 S hK E d_PT_about_1 ?_
  refine lv_iload_n S.1 S.2.1 d_PT_about_4 rfl (lv_at hl 1 rfl) ?_
  obtain ⟨r2, h1, hM⟩ := br_inv hM
  refine kcr_11 (As := [.int x1]) (rest := []) S hK E (kC_Items_isKnown h1) ⟨Nat.le_of_ble_eq_true rfl, Nat.le_of_ble_eq_true rfl⟩ rfl rfl hl.1 (lv_room (Nat.le_of_ble_eq_true rfl)) d_PT_about_5 (fun H locs E => ?_)
  refine lv_if_ne (tgt := 13) S.1 S.2.1 d_PT_about_8 (by decide) (fun c3 => ?_) (fun c3 => ?_)
  · have hM := ifN hM c3
    refine lv_iload_n S.1 S.2.1 d_PT_about_13 rfl (lv_at hl 2 rfl) ?_
    by_cases c4 : x2 = 0
    · have hM := ifP hM c4
      refine lv_tableIn (tgt := 48) S.1 S.2.1 d_PT_about_14 (by rw [c4]; decide) (by rw [c4]; decide) (by rw [c4]; rfl) (by decide) ?_
      refine lv_aload_n S.1 S.2.1 d_PT_about_48 rfl (lv_at hl 0 rfl) ?_
      refine kgf_PT_10_0 S hK E d_PT_about_49 ?_
      refine lv_iload_n S.1 S.2.1 d_PT_about_52 rfl (lv_at hl 1 rfl) ?_
      obtain ⟨r6, h5, hM⟩ := br_inv hM
      refine kcr_16 (As := [.int x1]) (rest := []) S hK E (kC_Items_isPage h5) ⟨Nat.le_of_ble_eq_true rfl, Nat.le_of_ble_eq_true rfl⟩ rfl rfl hl.1 (lv_room (Nat.le_of_ble_eq_true rfl)) d_PT_about_53 (fun H locs E => ?_)
      refine lv_if_eq (tgt := 63) S.1 S.2.1 d_PT_about_56 (by decide) (fun c7 => ?_) (fun c7 => ?_)
      · have hM := ifP hM c7
        refine lv_iconst (v := 0) S.1 S.2.1 d_PT_about_63 (by decide) ?_
        obtain ⟨rfl, rfl⟩ := pr_inj hM
        exact kreti S hr hlk hK E d_PT_about_64
      · have hM := ifN hM c7
        refine lv_iconst (v := 1) S.1 S.2.1 d_PT_about_59 (by decide) ?_
        refine lv_goto (tgt := 64) S.1 S.2.1 d_PT_about_60 (by decide) ?_
        obtain ⟨rfl, rfl⟩ := pr_inj hM
        exact kreti S hr hlk hK E d_PT_about_64
    have hM := ifN hM c4
    by_cases c8 : x2 = 1
    · have hM := ifP hM c8
      refine lv_tableIn (tgt := 65) S.1 S.2.1 d_PT_about_14 (by rw [c8]; decide) (by rw [c8]; decide) (by rw [c8]; rfl) (by decide) ?_
      refine lv_aload_n S.1 S.2.1 d_PT_about_65 rfl (lv_at hl 0 rfl) ?_
      refine kgf_PT_10_0 S hK E d_PT_about_66 ?_
      refine lv_iload_n S.1 S.2.1 d_PT_about_69 rfl (lv_at hl 1 rfl) ?_
      obtain ⟨r10, h9, hM⟩ := br_inv hM
      refine kcr_37 (As := [.int x1]) (rest := []) S hK E (kC_Items_parentOf h9) ⟨Nat.le_of_ble_eq_true rfl, Nat.le_of_ble_eq_true rfl⟩ rfl rfl hl.1 (lv_room (Nat.le_of_ble_eq_true rfl)) d_PT_about_70 (fun H locs E => ?_)
      obtain ⟨rfl, rfl⟩ := pr_inj hM
      exact kreti S hr hlk hK E d_PT_about_73
    have hM := ifN hM c8
    by_cases c11 : x2 = 2
    · have hM := ifP hM c11
      refine lv_tableIn (tgt := 74) S.1 S.2.1 d_PT_about_14 (by rw [c11]; decide) (by rw [c11]; decide) (by rw [c11]; rfl) (by decide) ?_
      refine lv_aload_n S.1 S.2.1 d_PT_about_74 rfl (lv_at hl 0 rfl) ?_
      refine kgf_PT_10_0 S hK E d_PT_about_75 ?_
      refine lv_iload_n S.1 S.2.1 d_PT_about_78 rfl (lv_at hl 1 rfl) ?_
      obtain ⟨r13, h12, hM⟩ := br_inv hM
      refine kcr_12 (As := [.int x1]) (rest := []) S hK E (kC_Items_kidCountOf h12) ⟨Nat.le_of_ble_eq_true rfl, Nat.le_of_ble_eq_true rfl⟩ rfl rfl hl.1 (lv_room (Nat.le_of_ble_eq_true rfl)) d_PT_about_79 (fun H locs E => ?_)
      obtain ⟨rfl, rfl⟩ := pr_inj hM
      exact kreti S hr hlk hK E d_PT_about_82
    have hM := ifN hM c11
    by_cases c14 : x2 = 3
    · have hM := ifP hM c14
      refine lv_tableIn (tgt := 83) S.1 S.2.1 d_PT_about_14 (by rw [c14]; decide) (by rw [c14]; decide) (by rw [c14]; rfl) (by decide) ?_
      refine lv_aload_n S.1 S.2.1 d_PT_about_83 rfl (lv_at hl 0 rfl) ?_
      refine kgf_PT_10_0 S hK E d_PT_about_84 ?_
      refine lv_iload_n S.1 S.2.1 d_PT_about_87 rfl (lv_at hl 1 rfl) ?_
      obtain ⟨r16, h15, hM⟩ := br_inv hM
      refine kcr_38 (As := [.int x1]) (rest := []) S hK E (kC_Items_countOf h15) ⟨Nat.le_of_ble_eq_true rfl, Nat.le_of_ble_eq_true rfl⟩ rfl rfl hl.1 (lv_room (Nat.le_of_ble_eq_true rfl)) d_PT_about_88 (fun H locs E => ?_)
      obtain ⟨rfl, rfl⟩ := pr_inj hM
      exact kreti S hr hlk hK E d_PT_about_91
    have hM := ifN hM c14
    by_cases c17 : x2 = 4
    · have hM := ifP hM c17
      refine lv_tableIn (tgt := 92) S.1 S.2.1 d_PT_about_14 (by rw [c17]; decide) (by rw [c17]; decide) (by rw [c17]; rfl) (by decide) ?_
      refine lv_aload_n S.1 S.2.1 d_PT_about_92 rfl (lv_at hl 0 rfl) ?_
      refine kgf_PT_21_0 S hK E d_PT_about_93 ?_
      refine lv_iload_n S.1 S.2.1 d_PT_about_96 rfl (lv_at hl 1 rfl) ?_
      obtain ⟨r19, σ20, h18, hM⟩ := bd_inv hM
      refine kcr_39 (As := [.int x1]) (rest := []) S hK E (kC_Order_placeOf h18) ⟨Nat.le_of_ble_eq_true rfl, Nat.le_of_ble_eq_true rfl⟩ rfl rfl hl.1 (lv_room (Nat.le_of_ble_eq_true rfl)) d_PT_about_97 (fun H locs E => ?_)
      obtain ⟨rfl, rfl⟩ := pr_inj hM
      exact kreti S hr hlk hK E d_PT_about_100
    have hM := ifN hM c17
    refine lv_tableOut (tgt := 101) S.1 S.2.1 d_PT_about_14 (by have qc4 := lv_neT c4 (a := 0) (by decide); have qc8 := lv_neT c8 (a := 1) (by decide); have qc11 := lv_neT c11 (a := 2) (by decide); have qc14 := lv_neT c14 (a := 3) (by decide); have qc17 := lv_neT c17 (a := 4) (by decide); omega) (by decide) ?_
    refine lv_bipush (v := (-2)) S.1 S.2.1 d_PT_about_101 (by decide) ?_
    obtain ⟨rfl, rfl⟩ := pr_inj hM
    exact kreti S hr hlk hK E d_PT_about_103
  · have hM := ifP hM c3
    refine lv_iconst (v := (-1)) S.1 S.2.1 d_PT_about_11 (by decide) ?_
    obtain ⟨rfl, rfl⟩ := pr_inj hM
    exact kreti S hr hlk hK E d_PT_about_12
set_option maxHeartbeats 4000000 in
set_option maxRecDepth 100000 in
theorem kC_PT_kid {l : Launch} {D : va_G} {a : Nat → Nat} {cA : Nat → ClassId} {A : Nat → Prop} {g : Nat → Nat} {σ : St} {x1 : Int32} {x2 : Int32} {r : Int32} (hM : kM_PT_kid σ x1 x2 = some r) : Met l y_PT_kid (.code y_PT_kid prog_1_method_12_code 3 (some .int) :: AW) krm_PT_kid (va_Pc [.ref (a 0), .int x1, .int x2] (kCP D a cA A g σ)) (kqi D a cA A g r σ) 0 0 A := by
  refine kmet (nL := 3) (by decide) (Nat.le_of_ble_eq_true rfl) (fun S hr hlk hK E ls hl => ?_)
  have hl : lv_has ls 3 [(0, .ref (a 0)), (1, .int x1), (2, .int x2)] := hl
  unfold kM_PT_kid at hM
  refine lv_aload_n S.1 S.2.1 d_PT_kid_0 rfl (lv_at hl 0 rfl) ?_
  refine kgf_PT_10_0 S hK E d_PT_kid_1 ?_
  refine lv_iload_n S.1 S.2.1 d_PT_kid_4 rfl (lv_at hl 1 rfl) ?_
  refine lv_iload_n S.1 S.2.1 d_PT_kid_5 rfl (lv_at hl 2 rfl) ?_
  obtain ⟨r2, h1, hM⟩ := br_inv hM
  refine kcr_40 (As := [.int x1, .int x2]) (rest := []) S hK E (kC_Items_kidAt h1) ⟨Nat.le_of_ble_eq_true rfl, Nat.le_of_ble_eq_true rfl⟩ rfl rfl hl.1 (lv_room (Nat.le_of_ble_eq_true rfl)) d_PT_kid_6 (fun H locs E => ?_)
  obtain rfl := Option.some.inj hM
  exact kreti S hr hlk hK E d_PT_kid_9
set_option maxHeartbeats 4000000 in
set_option maxRecDepth 100000 in
theorem kC_Walk_enter_Mender {l : Launch} {D : va_G} {a : Nat → Nat} {cA : Nat → ClassId} {A : Nat → Prop} {g : Nat → Nat} {σ σ2 : St} {x1 : Int32} (hM : kM_Walk_enter_Mender σ x1 = some σ2) : Met l y_Walk_enter (.code y_Walk_enter prog_8_method_8_code 2 none :: AW) krm_Walk_enter_Mender (va_Pc [.ref (a 3), .int x1] (kCP D a cA A g σ)) (kqv D a cA A g σ2) 0 0 A := by
  refine kmet (nL := 2) (by decide) (Nat.le_of_ble_eq_true rfl) (fun S hr hlk hK E ls hl => ?_)
  have hl : lv_has ls 2 [(0, .ref (a 3)), (1, .int x1)] := hl
  unfold kM_Walk_enter_Mender at hM
  refine lv_aload_n S.1 S.2.1 d_Walk_enter_0 rfl (lv_at hl 0 rfl) ?_
  refine kgf_Walk_26_3 S hK E d_Walk_enter_1 ?_
  refine lv_sipush (v := 200) S.1 S.2.1 d_Walk_enter_4 (by decide) ?_
  refine lv_icmp_ge (tgt := 40) S.1 S.2.1 d_Walk_enter_7 (by decide) (fun c1 => ?_) (fun c1 => ?_)
  · have hM := ifP hM c1
    obtain rfl := Option.some.inj hM
    exact kretv S hr hlk hK E d_Walk_enter_40
  · have hM := ifN hM c1
    refine lv_aload_n S.1 S.2.1 d_Walk_enter_10 rfl (lv_at hl 0 rfl) ?_
    refine kgf_Walk_15_3 S hK E d_Walk_enter_11 ?_
    refine lv_aload_n S.1 S.2.1 d_Walk_enter_14 rfl (lv_at hl 0 rfl) ?_
    refine kgf_Walk_26_3 S hK E d_Walk_enter_15 ?_
    refine lv_iload_n S.1 S.2.1 d_Walk_enter_18 rfl (lv_at hl 1 rfl) ?_
    obtain ⟨h2, hM⟩ := gd_inv hM
    refine kas_21 S hK E h2 d_Walk_enter_19 (fun σ3 eσ3 H locs E => ?_)
    have hM := lq_inv hM σ3 eσ3
    refine lv_aload_n S.1 S.2.1 d_Walk_enter_20 rfl (lv_at hl 0 rfl) ?_
    refine kgf_Walk_19_3 S hK E d_Walk_enter_21 ?_
    refine lv_aload_n S.1 S.2.1 d_Walk_enter_24 rfl (lv_at hl 0 rfl) ?_
    refine kgf_Walk_26_3 S hK E d_Walk_enter_25 ?_
    refine lv_iconst (v := 0) S.1 S.2.1 d_Walk_enter_28 (by decide) ?_
    obtain ⟨h4, hM⟩ := gd_inv hM
    refine kas_22 S hK E h4 d_Walk_enter_29 (fun σ5 eσ5 H locs E => ?_)
    have hM := lq_inv hM σ5 eσ5
    refine lv_aload_n S.1 S.2.1 d_Walk_enter_30 rfl (lv_at hl 0 rfl) ?_
    refine lv_dup S.1 S.2.1 d_Walk_enter_31 rfl ?_
    refine kgf_Walk_26_3 S hK E d_Walk_enter_32 ?_
    refine lv_iconst (v := 1) S.1 S.2.1 d_Walk_enter_35 (by decide) ?_
    refine lv_iadd S.1 S.2.1 d_Walk_enter_36 ?_
    refine kpf_Walk_26_3 S hK E d_Walk_enter_37 (fun σ6 eσ6 H locs E => ?_)
    have hM := lq_inv hM σ6 eσ6
    obtain rfl := Option.some.inj hM
    exact kretv S hr hlk hK E d_Walk_enter_40
set_option maxHeartbeats 4000000 in
set_option maxRecDepth 100000 in
theorem kB_Items_dropKid_65 {p : Program} {l : Launch} {e : Env} {s : State} {m : MethodId} {args : Array Value} {below : List Frame} {meth : Method} {c : Code} {D : va_G} {a : Nat → Nat} {cA : Nat → ClassId} {A : Nat → Prop} {g : Nat → Nat} {σ2 : St} (S : CallFix p m c prog_3_method_20_code 5 s args AW R_Items) (hr : meth.sig.returnType = none) (hlk : meth.locks = false) (hK : kKX D cA A g s s.heap) : ∀ (σ : St) (H : Heap) (locs : List Loc) (ls : Array Slot), kEx D a cA A σ s.heap H locs → lv_has ls 5 [(0, .ref (a 1))] → kJ_Items_dropKid_65 σ = some σ2 → W p l e krm_Items_dropKid s m args below meth c H locs 0 0 (MQ below (kqv D a cA A g σ2) args s 0 0 A) (F0 m 65 ls []) := by
  intro σ H locs ls E hl hM
  unfold kJ_Items_dropKid_65 at hM
  refine lv_aload_n S.1 S.2.1 d_Items_dropKid_65 rfl (lv_at hl 0 rfl) ?_
  refine lv_dup S.1 S.2.1 d_Items_dropKid_66 rfl ?_
  refine kgf_Items_41_1 S hK E d_Items_dropKid_67 ?_
  refine lv_iconst (v := 1) S.1 S.2.1 d_Items_dropKid_70 (by decide) ?_
  refine lv_iadd S.1 S.2.1 d_Items_dropKid_71 ?_
  refine kpf_Items_41_1 S hK E d_Items_dropKid_72 (fun σ1 eσ1 H locs E => ?_)
  have hM := lq_inv hM σ1 eσ1
  obtain rfl := Option.some.inj hM
  exact kretv S hr hlk hK E d_Items_dropKid_75
set_option maxHeartbeats 4000000 in
set_option maxRecDepth 100000 in
theorem kB_Items_dropKid_28 {p : Program} {l : Launch} {e : Env} {s : State} {m : MethodId} {args : Array Value} {below : List Frame} {meth : Method} {c : Code} {D : va_G} {a : Nat → Nat} {cA : Nat → ClassId} {A : Nat → Prop} {g : Nat → Nat} {σ2 : St} (S : CallFix p m c prog_3_method_20_code 5 s args AW R_Items) (hr : meth.sig.returnType = none) (hlk : meth.locks = false) (hK : kKX D cA A g s s.heap) : ∀ (n : Nat) (σ : St) (v1 : Int32) (v3 : Int32) (v4 : Int32) (H : Heap) (locs : List Loc) (ls : Array Slot), kEx D a cA A σ s.heap H locs → lv_has ls 5 [(0, .ref (a 1)), (1, .int v1), (3, .int v3), (4, .int v4)] → kL_Items_dropKid_28 n σ v1 v3 v4 = some σ2 → W p l e krm_Items_dropKid s m args below meth c H locs 0 0 (MQ below (kqv D a cA A g σ2) args s 0 0 A) (F0 m 28 ls []) := by
  intro n
  induction n with
  | zero =>
    intro σ v1 v3 v4 H locs ls E hl hM
    rw [kL_Items_dropKid_28] at hM
    cases hM
  | succ n ih =>
    intro σ v1 v3 v4 H locs ls E hl hM
    rw [kL_Items_dropKid_28] at hM
    refine lv_iload S.1 S.2.1 d_Items_dropKid_28 (lv_at hl 3 rfl) ?_
    refine lv_aload_n S.1 S.2.1 d_Items_dropKid_30 rfl (lv_at hl 0 rfl) ?_
    refine kgf_Items_22_1 S hK E d_Items_dropKid_31 ?_
    refine lv_iload_n S.1 S.2.1 d_Items_dropKid_34 rfl (lv_at hl 1 rfl) ?_
    obtain ⟨h1, hM⟩ := gd_inv hM
    refine kal_10 S hK E h1 d_Items_dropKid_35 ?_
    refine lv_icmp_ge (tgt := 65) S.1 S.2.1 d_Items_dropKid_36 (by decide) (fun c2 => ?_) (fun c2 => ?_)
    · have hM := ifP hM c2
      exact kB_Items_dropKid_65 S hr hlk hK _ _ _ _ E (lv_sub hl [0] rfl) hM
    · have hM := ifN hM c2
      refine lv_aload_n S.1 S.2.1 d_Items_dropKid_39 rfl (lv_at hl 0 rfl) ?_
      refine kgf_Items_25_1 S hK E d_Items_dropKid_40 ?_
      refine lv_iload_n S.1 S.2.1 d_Items_dropKid_43 rfl (lv_at hl 2 rfl) ?_
      refine lv_iload S.1 S.2.1 d_Items_dropKid_44 (lv_at hl 3 rfl) ?_
      refine lv_iadd S.1 S.2.1 d_Items_dropKid_46 ?_
      refine lv_aload_n S.1 S.2.1 d_Items_dropKid_47 rfl (lv_at hl 0 rfl) ?_
      refine kgf_Items_25_1 S hK E d_Items_dropKid_48 ?_
      refine lv_iload_n S.1 S.2.1 d_Items_dropKid_51 rfl (lv_at hl 2 rfl) ?_
      refine lv_iload S.1 S.2.1 d_Items_dropKid_52 (lv_at hl 3 rfl) ?_
      refine lv_iadd S.1 S.2.1 d_Items_dropKid_54 ?_
      refine lv_iconst (v := 1) S.1 S.2.1 d_Items_dropKid_55 (by decide) ?_
      refine lv_iadd S.1 S.2.1 d_Items_dropKid_56 ?_
      obtain ⟨h3, hM⟩ := gd_inv hM
      refine kal_11 S hK E h3 d_Items_dropKid_57 ?_
      obtain ⟨h4, hM⟩ := gd_inv hM
      refine kas_11 S hK E h4 d_Items_dropKid_58 (fun σ5 eσ5 H locs E => ?_)
      have hM := lq_inv hM σ5 eσ5
      obtain ⟨y6, ey6⟩ : ∃ z : Int32, z = v4 + 1 := ⟨_, rfl⟩
      have hM := lq_inv hM y6 ey6
      refine lv_iinc (v := y6) (lv' := [(4, .int y6), (0, .ref (a 1)), (1, .int v1), (3, .int v3)]) S.1 S.2.1 d_Items_dropKid_59 hl (k := 3) rfl (by rw [ey6]; rfl) (by decide) rfl (fun ls hl => ?_)
      refine lv_goto (tgt := 28) S.1 S.2.1 d_Items_dropKid_62 (by decide) ?_
      exact ih _ _ _ _ _ _ _ E (lv_sub hl [1, 2, 3, 0] rfl) hM
set_option maxHeartbeats 4000000 in
set_option maxRecDepth 100000 in
theorem kC_Items_dropKid {l : Launch} {D : va_G} {a : Nat → Nat} {cA : Nat → ClassId} {A : Nat → Prop} {g : Nat → Nat} {σ σ2 : St} {x1 : Int32} {x2 : Int32} (hM : kM_Items_dropKid σ x1 x2 = some σ2) : Met l y_Items_dropKid (.code y_Items_dropKid prog_3_method_20_code 5 none :: AW) krm_Items_dropKid (va_Pc [.ref (a 1), .int x1, .int x2] (kCP D a cA A g σ)) (kqv D a cA A g σ2) 0 0 A := by
  refine kmet (nL := 5) (by decide) (Nat.le_of_ble_eq_true rfl) (fun S hr hlk hK E ls hl => ?_)
  have hl : lv_has ls 5 [(0, .ref (a 1)), (1, .int x1), (2, .int x2)] := hl
  unfold kM_Items_dropKid at hM
  refine lv_aload_n S.1 S.2.1 d_Items_dropKid_0 rfl (lv_at hl 0 rfl) ?_
  refine lv_iload_n S.1 S.2.1 d_Items_dropKid_1 rfl (lv_at hl 1 rfl) ?_
  refine lv_iload_n S.1 S.2.1 d_Items_dropKid_2 rfl (lv_at hl 2 rfl) ?_
  obtain ⟨r2, h1, hM⟩ := br_inv hM
  refine kcr_18 (As := [.int x1, .int x2]) (rest := []) S hK E (kC_Items_hasSlot h1) ⟨Nat.le_of_ble_eq_true rfl, Nat.le_of_ble_eq_true rfl⟩ rfl rfl hl.1 (lv_room (Nat.le_of_ble_eq_true rfl)) d_Items_dropKid_3 (fun H locs E => ?_)
  refine lv_if_ne (tgt := 10) S.1 S.2.1 d_Items_dropKid_6 (by decide) (fun c3 => ?_) (fun c3 => ?_)
  · have hM := ifN hM c3
    refine lv_iload_n S.1 S.2.1 d_Items_dropKid_10 rfl (lv_at hl 1 rfl) ?_
    refine lv_bipush (v := 40) S.1 S.2.1 d_Items_dropKid_11 (by decide) ?_
    refine lv_imul S.1 S.2.1 d_Items_dropKid_13 ?_
    refine lv_topi (fun y4 ey4 => ?_)
    have hM := lq_inv hM y4 ey4
    refine lv_istore_n (lv' := [(3, .int y4), (0, .ref (a 1)), (1, .int x1), (2, .int x2)]) S.1 S.2.1 d_Items_dropKid_14 rfl hl (by decide) rfl (fun ls hl => ?_)
    refine lv_aload_n S.1 S.2.1 d_Items_dropKid_15 rfl (lv_at hl 1 rfl) ?_
    refine kgf_Items_22_1 S hK E d_Items_dropKid_16 ?_
    refine lv_iload_n S.1 S.2.1 d_Items_dropKid_19 rfl (lv_at hl 2 rfl) ?_
    refine lv_dup2_11 S.1 S.2.1 d_Items_dropKid_20 rfl rfl ?_
    obtain ⟨h5, hM⟩ := gd_inv hM
    refine kal_10 S hK E h5 d_Items_dropKid_21 ?_
    refine lv_iconst (v := 1) S.1 S.2.1 d_Items_dropKid_22 (by decide) ?_
    refine lv_isub S.1 S.2.1 d_Items_dropKid_23 ?_
    obtain ⟨h6, hM⟩ := gd_inv hM
    refine kas_10 S hK E h6 d_Items_dropKid_24 (fun σ7 eσ7 H locs E => ?_)
    have hM := lq_inv hM σ7 eσ7
    refine lv_iload_n S.1 S.2.1 d_Items_dropKid_25 rfl (lv_at hl 3 rfl) ?_
    refine lv_istore (lv' := [(4, .int x2), (3, .int y4), (0, .ref (a 1)), (1, .int x1), (2, .int x2)]) S.1 S.2.1 d_Items_dropKid_26 hl (by decide) rfl (fun ls hl => ?_)
    exact kB_Items_dropKid_28 S hr hlk hK _ _ _ _ _ _ _ _ E (lv_sub hl [2, 3, 1, 0] rfl) hM
  · have hM := ifP hM c3
    obtain rfl := Option.some.inj hM
    exact kretv S hr hlk hK E d_Items_dropKid_9
set_option maxHeartbeats 4000000 in
set_option maxRecDepth 100000 in
theorem kB_Mender_tell_29 {p : Program} {l : Launch} {e : Env} {s : State} {m : MethodId} {args : Array Value} {below : List Frame} {meth : Method} {c : Code} {D : va_G} {a : Nat → Nat} {cA : Nat → ClassId} {A : Nat → Prop} {g : Nat → Nat} {σ2 : St} (S : CallFix p m c prog_5_method_4_code 3 s args AW R_Mender) (hr : meth.sig.returnType = none) (hlk : meth.locks = false) (hK : kKX D cA A g s s.heap) : ∀ (σ : St) (H : Heap) (locs : List Loc) (ls : Array Slot), kEx D a cA A σ s.heap H locs → lv_has ls 3 [(0, .ref (a 3))] → kJ_Mender_tell_29 σ = some σ2 → W p l e krm_Mender_tell s m args below meth c H locs 0 0 (MQ below (kqv D a cA A g σ2) args s 0 0 A) (F0 m 29 ls []) := by
  intro σ H locs ls E hl hM
  unfold kJ_Mender_tell_29 at hM
  refine lv_aload_n S.1 S.2.1 d_Mender_tell_29 rfl (lv_at hl 0 rfl) ?_
  refine lv_dup S.1 S.2.1 d_Mender_tell_30 rfl ?_
  refine kgf_Mender_21_3 S hK E d_Mender_tell_31 ?_
  refine lv_iconst (v := 1) S.1 S.2.1 d_Mender_tell_34 (by decide) ?_
  refine lv_iadd S.1 S.2.1 d_Mender_tell_35 ?_
  refine kpf_Mender_21_3 S hK E d_Mender_tell_36 (fun σ1 eσ1 H locs E => ?_)
  have hM := lq_inv hM σ1 eσ1
  obtain rfl := Option.some.inj hM
  exact kretv S hr hlk hK E d_Mender_tell_39
set_option maxHeartbeats 4000000 in
set_option maxRecDepth 100000 in
theorem kC_Mender_tell {l : Launch} {D : va_G} {a : Nat → Nat} {cA : Nat → ClassId} {A : Nat → Prop} {g : Nat → Nat} {σ σ2 : St} {x1 : Int32} {x2 : Int32} (hM : kM_Mender_tell σ x1 x2 = some σ2) : Met l y_Mender_tell (.code y_Mender_tell prog_5_method_4_code 3 none :: AW) krm_Mender_tell (va_Pc [.ref (a 3), .int x1, .int x2] (kCP D a cA A g σ)) (kqv D a cA A g σ2) 0 0 A := by
  refine kmet (nL := 3) (by decide) (Nat.le_of_ble_eq_true rfl) (fun S hr hlk hK E ls hl => ?_)
  have hl : lv_has ls 3 [(0, .ref (a 3)), (1, .int x1), (2, .int x2)] := hl
  unfold kM_Mender_tell at hM
  refine lv_aload_n S.1 S.2.1 d_Mender_tell_0 rfl (lv_at hl 0 rfl) ?_
  refine kgf_Mender_21_3 S hK E d_Mender_tell_1 ?_
  refine lv_bipush (v := 100) S.1 S.2.1 d_Mender_tell_4 (by decide) ?_
  refine lv_icmp_ge (tgt := 29) S.1 S.2.1 d_Mender_tell_6 (by decide) (fun c1 => ?_) (fun c1 => ?_)
  · have hM := ifP hM c1
    exact kB_Mender_tell_29 S hr hlk hK _ _ _ _ E (lv_sub hl [0] rfl) hM
  · have hM := ifN hM c1
    refine lv_aload_n S.1 S.2.1 d_Mender_tell_9 rfl (lv_at hl 0 rfl) ?_
    refine kgf_Mender_11_3 S hK E d_Mender_tell_10 ?_
    refine lv_aload_n S.1 S.2.1 d_Mender_tell_13 rfl (lv_at hl 0 rfl) ?_
    refine kgf_Mender_21_3 S hK E d_Mender_tell_14 ?_
    refine lv_iload_n S.1 S.2.1 d_Mender_tell_17 rfl (lv_at hl 1 rfl) ?_
    obtain ⟨h2, hM⟩ := gd_inv hM
    refine kas_23 S hK E h2 d_Mender_tell_18 (fun σ3 eσ3 H locs E => ?_)
    have hM := lq_inv hM σ3 eσ3
    refine lv_aload_n S.1 S.2.1 d_Mender_tell_19 rfl (lv_at hl 0 rfl) ?_
    refine kgf_Mender_15_3 S hK E d_Mender_tell_20 ?_
    refine lv_aload_n S.1 S.2.1 d_Mender_tell_23 rfl (lv_at hl 0 rfl) ?_
    refine kgf_Mender_21_3 S hK E d_Mender_tell_24 ?_
    refine lv_iload_n S.1 S.2.1 d_Mender_tell_27 rfl (lv_at hl 2 rfl) ?_
    obtain ⟨h4, hM⟩ := gd_inv hM
    refine kas_24 S hK E h4 d_Mender_tell_28 (fun σ5 eσ5 H locs E => ?_)
    have hM := lq_inv hM σ5 eσ5
    exact kB_Mender_tell_29 S hr hlk hK _ _ _ _ E (lv_sub hl [0] rfl) hM
set_option maxHeartbeats 4000000 in
set_option maxRecDepth 100000 in
theorem kB_Items_copyOwnValues_19 {p : Program} {l : Launch} {e : Env} {s : State} {m : MethodId} {args : Array Value} {below : List Frame} {meth : Method} {c : Code} {D : va_G} {a : Nat → Nat} {cA : Nat → ClassId} {A : Nat → Prop} {g : Nat → Nat} {σ2 : St} (S : CallFix p m c prog_3_method_28_code 4 s args AW R_Items) (hr : meth.sig.returnType = none) (hlk : meth.locks = false) (hK : kKX D cA A g s s.heap) : ∀ (n : Nat) (σ : St) (v1 : Int32) (v2 : Int32) (v3 : Int32) (H : Heap) (locs : List Loc) (ls : Array Slot), kEx D a cA A σ s.heap H locs → lv_has ls 4 [(0, .ref (a 1)), (1, .int v1), (2, .int v2), (3, .int v3)] → kL_Items_copyOwnValues_19 n σ v1 v2 v3 = some σ2 → W p l e krm_Items_copyOwnValues s m args below meth c H locs 0 0 (MQ below (kqv D a cA A g σ2) args s 0 0 A) (F0 m 19 ls []) := by
  intro n
  induction n with
  | zero =>
    intro σ v1 v2 v3 H locs ls E hl hM
    rw [kL_Items_copyOwnValues_19] at hM
    cases hM
  | succ n ih =>
    intro σ v1 v2 v3 H locs ls E hl hM
    rw [kL_Items_copyOwnValues_19] at hM
    refine lv_iload_n S.1 S.2.1 d_Items_copyOwnValues_19 rfl (lv_at hl 3 rfl) ?_
    refine lv_iconst (v := 4) S.1 S.2.1 d_Items_copyOwnValues_20 (by decide) ?_
    refine lv_icmp_ge (tgt := 50) S.1 S.2.1 d_Items_copyOwnValues_21 (by decide) (fun c1 => ?_) (fun c1 => ?_)
    · have hM := ifP hM c1
      obtain rfl := Option.some.inj hM
      exact kretv S hr hlk hK E d_Items_copyOwnValues_50
    · have hM := ifN hM c1
      refine lv_aload_n S.1 S.2.1 d_Items_copyOwnValues_24 rfl (lv_at hl 0 rfl) ?_
      refine kgf_Items_28_1 S hK E d_Items_copyOwnValues_25 ?_
      refine lv_iload_n S.1 S.2.1 d_Items_copyOwnValues_28 rfl (lv_at hl 2 rfl) ?_
      refine lv_iconst (v := 4) S.1 S.2.1 d_Items_copyOwnValues_29 (by decide) ?_
      refine lv_imul S.1 S.2.1 d_Items_copyOwnValues_30 ?_
      refine lv_iload_n S.1 S.2.1 d_Items_copyOwnValues_31 rfl (lv_at hl 3 rfl) ?_
      refine lv_iadd S.1 S.2.1 d_Items_copyOwnValues_32 ?_
      refine lv_aload_n S.1 S.2.1 d_Items_copyOwnValues_33 rfl (lv_at hl 0 rfl) ?_
      refine kgf_Items_28_1 S hK E d_Items_copyOwnValues_34 ?_
      refine lv_iload_n S.1 S.2.1 d_Items_copyOwnValues_37 rfl (lv_at hl 1 rfl) ?_
      refine lv_iconst (v := 4) S.1 S.2.1 d_Items_copyOwnValues_38 (by decide) ?_
      refine lv_imul S.1 S.2.1 d_Items_copyOwnValues_39 ?_
      refine lv_iload_n S.1 S.2.1 d_Items_copyOwnValues_40 rfl (lv_at hl 3 rfl) ?_
      refine lv_iadd S.1 S.2.1 d_Items_copyOwnValues_41 ?_
      obtain ⟨h2, hM⟩ := gd_inv hM
      refine kal_12 S hK E h2 d_Items_copyOwnValues_42 ?_
      obtain ⟨h3, hM⟩ := gd_inv hM
      refine kas_12 S hK E h3 d_Items_copyOwnValues_43 (fun σ4 eσ4 H locs E => ?_)
      have hM := lq_inv hM σ4 eσ4
      obtain ⟨y5, ey5⟩ : ∃ z : Int32, z = v3 + 1 := ⟨_, rfl⟩
      have hM := lq_inv hM y5 ey5
      refine lv_iinc (v := y5) (lv' := [(3, .int y5), (0, .ref (a 1)), (1, .int v1), (2, .int v2)]) S.1 S.2.1 d_Items_copyOwnValues_44 hl (k := 3) rfl (by rw [ey5]; rfl) (by decide) rfl (fun ls hl => ?_)
      refine lv_goto (tgt := 19) S.1 S.2.1 d_Items_copyOwnValues_47 (by decide) ?_
      exact ih _ _ _ _ _ _ _ E (lv_sub hl [1, 2, 3, 0] rfl) hM
set_option maxHeartbeats 4000000 in
set_option maxRecDepth 100000 in
theorem kC_Items_copyOwnValues {l : Launch} {D : va_G} {a : Nat → Nat} {cA : Nat → ClassId} {A : Nat → Prop} {g : Nat → Nat} {σ σ2 : St} {x1 : Int32} {x2 : Int32} (hM : kM_Items_copyOwnValues σ x1 x2 = some σ2) : Met l y_Items_copyOwnValues (.code y_Items_copyOwnValues prog_3_method_28_code 4 none :: AW) krm_Items_copyOwnValues (va_Pc [.ref (a 1), .int x1, .int x2] (kCP D a cA A g σ)) (kqv D a cA A g σ2) 0 0 A := by
  refine kmet (nL := 4) (by decide) (Nat.le_of_ble_eq_true rfl) (fun S hr hlk hK E ls hl => ?_)
  have hl : lv_has ls 4 [(0, .ref (a 1)), (1, .int x1), (2, .int x2)] := hl
  unfold kM_Items_copyOwnValues at hM
  refine lv_aload_n S.1 S.2.1 d_Items_copyOwnValues_0 rfl (lv_at hl 0 rfl) ?_
  refine lv_iload_n S.1 S.2.1 d_Items_copyOwnValues_1 rfl (lv_at hl 1 rfl) ?_
  obtain ⟨r2, h1, hM⟩ := br_inv hM
  refine kcr_0 (As := [.int x1]) (rest := []) S hK E (kC_Items_isKnown h1) ⟨Nat.le_of_ble_eq_true rfl, Nat.le_of_ble_eq_true rfl⟩ rfl rfl hl.1 (lv_room (Nat.le_of_ble_eq_true rfl)) d_Items_copyOwnValues_2 (fun H locs E => ?_)
  refine lv_if_eq (tgt := 16) S.1 S.2.1 d_Items_copyOwnValues_5 (by decide) (fun c3 => ?_) (fun c3 => ?_)
  · have hM := ifP hM c3
    obtain rfl := Option.some.inj hM
    exact kretv S hr hlk hK E d_Items_copyOwnValues_16
  · have hM := ifN hM c3
    refine lv_aload_n S.1 S.2.1 d_Items_copyOwnValues_8 rfl (lv_at hl 0 rfl) ?_
    refine lv_iload_n S.1 S.2.1 d_Items_copyOwnValues_9 rfl (lv_at hl 2 rfl) ?_
    obtain ⟨r5, h4, hM⟩ := br_inv hM
    refine kcr_0 (As := [.int x2]) (rest := []) S hK E (kC_Items_isKnown h4) ⟨Nat.le_of_ble_eq_true rfl, Nat.le_of_ble_eq_true rfl⟩ rfl rfl hl.1 (lv_room (Nat.le_of_ble_eq_true rfl)) d_Items_copyOwnValues_10 (fun H locs E => ?_)
    refine lv_if_ne (tgt := 17) S.1 S.2.1 d_Items_copyOwnValues_13 (by decide) (fun c6 => ?_) (fun c6 => ?_)
    · have hM := ifN hM c6
      refine lv_iconst (v := 0) S.1 S.2.1 d_Items_copyOwnValues_17 (by decide) ?_
      refine lv_istore_n (lv' := [(3, .int 0), (0, .ref (a 1)), (1, .int x1), (2, .int x2)]) S.1 S.2.1 d_Items_copyOwnValues_18 rfl hl (by decide) rfl (fun ls hl => ?_)
      exact kB_Items_copyOwnValues_19 S hr hlk hK _ _ _ _ _ _ _ _ E (lv_sub hl [1, 2, 3, 0] rfl) hM
    · have hM := ifP hM c6
      obtain rfl := Option.some.inj hM
      exact kretv S hr hlk hK E d_Items_copyOwnValues_16
set_option maxHeartbeats 4000000 in
set_option maxRecDepth 100000 in
theorem kC_Items_replaceKid {l : Launch} {D : va_G} {a : Nat → Nat} {cA : Nat → ClassId} {A : Nat → Prop} {g : Nat → Nat} {σ σ2 : St} {x1 : Int32} {x2 : Int32} {x3 : Int32} (hM : kM_Items_replaceKid σ x1 x2 x3 = some σ2) : Met l y_Items_replaceKid (.code y_Items_replaceKid prog_3_method_17_code 4 none :: AW) krm_Items_replaceKid (va_Pc [.ref (a 1), .int x1, .int x2, .int x3] (kCP D a cA A g σ)) (kqv D a cA A g σ2) 0 0 A := by
  refine kmet (nL := 4) (by decide) (Nat.le_of_ble_eq_true rfl) (fun S hr hlk hK E ls hl => ?_)
  have hl : lv_has ls 4 [(0, .ref (a 1)), (1, .int x1), (2, .int x2), (3, .int x3)] := hl
  unfold kM_Items_replaceKid at hM
  refine lv_aload_n S.1 S.2.1 d_Items_replaceKid_0 rfl (lv_at hl 0 rfl) ?_
  refine lv_iload_n S.1 S.2.1 d_Items_replaceKid_1 rfl (lv_at hl 1 rfl) ?_
  refine lv_iload_n S.1 S.2.1 d_Items_replaceKid_2 rfl (lv_at hl 2 rfl) ?_
  obtain ⟨r2, h1, hM⟩ := br_inv hM
  refine kcr_18 (As := [.int x1, .int x2]) (rest := []) S hK E (kC_Items_hasSlot h1) ⟨Nat.le_of_ble_eq_true rfl, Nat.le_of_ble_eq_true rfl⟩ rfl rfl hl.1 (lv_room (Nat.le_of_ble_eq_true rfl)) d_Items_replaceKid_3 (fun H locs E => ?_)
  refine lv_if_eq (tgt := 31) S.1 S.2.1 d_Items_replaceKid_6 (by decide) (fun c3 => ?_) (fun c3 => ?_)
  · have hM := ifP hM c3
    obtain rfl := Option.some.inj hM
    exact kretv S hr hlk hK E d_Items_replaceKid_31
  · have hM := ifN hM c3
    refine lv_aload_n S.1 S.2.1 d_Items_replaceKid_9 rfl (lv_at hl 0 rfl) ?_
    refine kgf_Items_25_1 S hK E d_Items_replaceKid_10 ?_
    refine lv_iload_n S.1 S.2.1 d_Items_replaceKid_13 rfl (lv_at hl 1 rfl) ?_
    refine lv_bipush (v := 40) S.1 S.2.1 d_Items_replaceKid_14 (by decide) ?_
    refine lv_imul S.1 S.2.1 d_Items_replaceKid_16 ?_
    refine lv_iload_n S.1 S.2.1 d_Items_replaceKid_17 rfl (lv_at hl 2 rfl) ?_
    refine lv_iadd S.1 S.2.1 d_Items_replaceKid_18 ?_
    refine lv_iload_n S.1 S.2.1 d_Items_replaceKid_19 rfl (lv_at hl 3 rfl) ?_
    obtain ⟨h4, hM⟩ := gd_inv hM
    refine kas_11 S hK E h4 d_Items_replaceKid_20 (fun σ5 eσ5 H locs E => ?_)
    have hM := lq_inv hM σ5 eσ5
    refine lv_aload_n S.1 S.2.1 d_Items_replaceKid_21 rfl (lv_at hl 0 rfl) ?_
    refine lv_dup S.1 S.2.1 d_Items_replaceKid_22 rfl ?_
    refine kgf_Items_41_1 S hK E d_Items_replaceKid_23 ?_
    refine lv_iconst (v := 1) S.1 S.2.1 d_Items_replaceKid_26 (by decide) ?_
    refine lv_iadd S.1 S.2.1 d_Items_replaceKid_27 ?_
    refine kpf_Items_41_1 S hK E d_Items_replaceKid_28 (fun σ6 eσ6 H locs E => ?_)
    have hM := lq_inv hM σ6 eσ6
    obtain rfl := Option.some.inj hM
    exact kretv S hr hlk hK E d_Items_replaceKid_31
set_option maxHeartbeats 4000000 in
set_option maxRecDepth 100000 in
theorem kC_Mender_meetPageAgain {l : Launch} {D : va_G} {a : Nat → Nat} {cA : Nat → ClassId} {A : Nat → Prop} {g : Nat → Nat} {σ σ2 : St} {x1 : Int32} {x2 : Int32} {x3 : Int32} {r : Int32} (hM : kM_Mender_meetPageAgain σ x1 x2 x3 = some (r, σ2)) : Met l y_Mender_meetPageAgain (.code y_Mender_meetPageAgain prog_5_method_7_code 5 (some .boolean) :: AW) krm_Mender_meetPageAgain (va_Pc [.ref (a 3), .int x1, .int x2, .int x3] (kCP D a cA A g σ)) (kqi D a cA A g r σ2) 0 0 A := by
  refine kmet (nL := 5) (by decide) (Nat.le_of_ble_eq_true rfl) (fun S hr hlk hK E ls hl => ?_)
  have hl : lv_has ls 5 [(0, .ref (a 3)), (1, .int x1), (2, .int x2), (3, .int x3)] := hl
  unfold kM_Mender_meetPageAgain at hM
  refine lv_aload_n S.1 S.2.1 d_Mender_meetPageAgain_0 rfl (lv_at hl 0 rfl) ?_
  refine kgf_Mender_32_3 S hK E d_Mender_meetPageAgain_1 ?_
  obtain ⟨r2, h1, hM⟩ := br_inv hM
  refine kcr_41 (As := []) (rest := []) S hK E (kC_Items_isFull h1) ⟨Nat.le_of_ble_eq_true rfl, Nat.le_of_ble_eq_true rfl⟩ rfl rfl hl.1 (lv_room (Nat.le_of_ble_eq_true rfl)) d_Mender_meetPageAgain_4 (fun H locs E => ?_)
  refine lv_if_eq (tgt := 27) S.1 S.2.1 d_Mender_meetPageAgain_7 (by decide) (fun c3 => ?_) (fun c3 => ?_)
  · have hM := ifP hM c3
    refine lv_aload_n S.1 S.2.1 d_Mender_meetPageAgain_27 rfl (lv_at hl 0 rfl) ?_
    refine kgf_Mender_32_3 S hK E d_Mender_meetPageAgain_28 ?_
    refine lv_iconst (v := 1) S.1 S.2.1 d_Mender_meetPageAgain_31 (by decide) ?_
    refine lv_iload_n S.1 S.2.1 d_Mender_meetPageAgain_32 rfl (lv_at hl 1 rfl) ?_
    refine lv_iconst (v := 0) S.1 S.2.1 d_Mender_meetPageAgain_33 (by decide) ?_
    obtain ⟨r5, σ6, h4, hM⟩ := bd_inv hM
    refine kcr_42 (As := [.int 1, .int x1, .int 0]) (rest := []) S hK E (kC_Items_add h4) ⟨Nat.le_of_ble_eq_true rfl, Nat.le_of_ble_eq_true rfl⟩ rfl rfl hl.1 (lv_room (Nat.le_of_ble_eq_true rfl)) d_Mender_meetPageAgain_34 (fun H locs E => ?_)
    refine lv_istore (lv' := [(4, .int r5), (0, .ref (a 3)), (1, .int x1), (2, .int x2), (3, .int x3)]) S.1 S.2.1 d_Mender_meetPageAgain_37 hl (by decide) rfl (fun ls hl => ?_)
    refine lv_aload_n S.1 S.2.1 d_Mender_meetPageAgain_39 rfl (lv_at hl 1 rfl) ?_
    refine kgf_Mender_32_3 S hK E d_Mender_meetPageAgain_40 ?_
    refine lv_iload_n S.1 S.2.1 d_Mender_meetPageAgain_43 rfl (lv_at hl 4 rfl) ?_
    refine lv_iload S.1 S.2.1 d_Mender_meetPageAgain_44 (lv_at hl 0 rfl) ?_
    obtain ⟨σ8, h7, hM⟩ := bv_inv hM
    refine kcr_43 (As := [.int x3, .int r5]) (rest := []) S hK E (kC_Items_copyOwnValues h7) ⟨Nat.le_of_ble_eq_true rfl, Nat.le_of_ble_eq_true rfl⟩ rfl rfl hl.1 (lv_room (Nat.le_of_ble_eq_true rfl)) d_Mender_meetPageAgain_46 (fun H locs E => ?_)
    refine lv_aload_n S.1 S.2.1 d_Mender_meetPageAgain_49 rfl (lv_at hl 1 rfl) ?_
    refine kgf_Mender_32_3 S hK E d_Mender_meetPageAgain_50 ?_
    refine lv_iload_n S.1 S.2.1 d_Mender_meetPageAgain_53 rfl (lv_at hl 2 rfl) ?_
    refine lv_iload_n S.1 S.2.1 d_Mender_meetPageAgain_54 rfl (lv_at hl 3 rfl) ?_
    refine lv_iload S.1 S.2.1 d_Mender_meetPageAgain_55 (lv_at hl 0 rfl) ?_
    obtain ⟨σ10, h9, hM⟩ := bv_inv hM
    refine kcr_44 (As := [.int x1, .int x2, .int r5]) (rest := []) S hK E (kC_Items_replaceKid h9) ⟨Nat.le_of_ble_eq_true rfl, Nat.le_of_ble_eq_true rfl⟩ rfl rfl hl.1 (lv_room (Nat.le_of_ble_eq_true rfl)) d_Mender_meetPageAgain_57 (fun H locs E => ?_)
    refine lv_aload_n S.1 S.2.1 d_Mender_meetPageAgain_60 rfl (lv_at hl 1 rfl) ?_
    refine lv_dup S.1 S.2.1 d_Mender_meetPageAgain_61 rfl ?_
    refine kgf_Mender_25_3 S hK E d_Mender_meetPageAgain_62 ?_
    refine lv_iconst (v := 1) S.1 S.2.1 d_Mender_meetPageAgain_65 (by decide) ?_
    refine lv_iadd S.1 S.2.1 d_Mender_meetPageAgain_66 ?_
    refine kpf_Mender_25_3 S hK E d_Mender_meetPageAgain_67 (fun σ11 eσ11 H locs E => ?_)
    have hM := lq_inv hM σ11 eσ11
    refine lv_aload_n S.1 S.2.1 d_Mender_meetPageAgain_70 rfl (lv_at hl 1 rfl) ?_
    refine lv_iconst (v := 3) S.1 S.2.1 d_Mender_meetPageAgain_71 (by decide) ?_
    refine lv_iload_n S.1 S.2.1 d_Mender_meetPageAgain_72 rfl (lv_at hl 4 rfl) ?_
    obtain ⟨σ13, h12, hM⟩ := bv_inv hM
    refine kcr_45 (As := [.int 3, .int x3]) (rest := []) S hK E (kC_Mender_tell h12) ⟨Nat.le_of_ble_eq_true rfl, Nat.le_of_ble_eq_true rfl⟩ rfl rfl hl.1 (lv_room (Nat.le_of_ble_eq_true rfl)) d_Mender_meetPageAgain_73 (fun H locs E => ?_)
    refine lv_iconst (v := 1) S.1 S.2.1 d_Mender_meetPageAgain_76 (by decide) ?_
    obtain ⟨rfl, rfl⟩ := pr_inj hM
    exact kretz S hr hlk hK E d_Mender_meetPageAgain_77 rfl
  · have hM := ifN hM c3
    refine lv_aload_n S.1 S.2.1 d_Mender_meetPageAgain_10 rfl (lv_at hl 0 rfl) ?_
    refine kgf_Mender_32_3 S hK E d_Mender_meetPageAgain_11 ?_
    refine lv_iload_n S.1 S.2.1 d_Mender_meetPageAgain_14 rfl (lv_at hl 1 rfl) ?_
    refine lv_iload_n S.1 S.2.1 d_Mender_meetPageAgain_15 rfl (lv_at hl 2 rfl) ?_
    obtain ⟨σ15, h14, hM⟩ := bv_inv hM
    refine kcr_46 (As := [.int x1, .int x2]) (rest := []) S hK E (kC_Items_dropKid h14) ⟨Nat.le_of_ble_eq_true rfl, Nat.le_of_ble_eq_true rfl⟩ rfl rfl hl.1 (lv_room (Nat.le_of_ble_eq_true rfl)) d_Mender_meetPageAgain_16 (fun H locs E => ?_)
    refine lv_aload_n S.1 S.2.1 d_Mender_meetPageAgain_19 rfl (lv_at hl 0 rfl) ?_
    refine lv_iconst (v := 5) S.1 S.2.1 d_Mender_meetPageAgain_20 (by decide) ?_
    refine lv_iload_n S.1 S.2.1 d_Mender_meetPageAgain_21 rfl (lv_at hl 3 rfl) ?_
    obtain ⟨σ17, h16, hM⟩ := bv_inv hM
    refine kcr_45 (As := [.int 5, .int x3]) (rest := []) S hK E (kC_Mender_tell h16) ⟨Nat.le_of_ble_eq_true rfl, Nat.le_of_ble_eq_true rfl⟩ rfl rfl hl.1 (lv_room (Nat.le_of_ble_eq_true rfl)) d_Mender_meetPageAgain_22 (fun H locs E => ?_)
    refine lv_iconst (v := 0) S.1 S.2.1 d_Mender_meetPageAgain_25 (by decide) ?_
    obtain ⟨rfl, rfl⟩ := pr_inj hM
    exact kretz S hr hlk hK E d_Mender_meetPageAgain_26 rfl
set_option maxHeartbeats 4000000 in
set_option maxRecDepth 100000 in
theorem kB_Walk_isOnTheWay_Mender_2 {p : Program} {l : Launch} {e : Env} {s : State} {m : MethodId} {args : Array Value} {below : List Frame} {meth : Method} {c : Code} {D : va_G} {a : Nat → Nat} {cA : Nat → ClassId} {A : Nat → Prop} {g : Nat → Nat} {σ : St} {r : Int32} (S : CallFix p m c prog_8_method_9_code 3 s args AW R_Walk) (hr : meth.sig.returnType = (some .boolean)) (hlk : meth.locks = false) (hK : kKX D cA A g s s.heap) : ∀ (n : Nat) (v1 : Int32) (v2 : Int32) (H : Heap) (locs : List Loc) (ls : Array Slot), kEx D a cA A σ s.heap H locs → lv_has ls 3 [(0, .ref (a 3)), (1, .int v1), (2, .int v2)] → kL_Walk_isOnTheWay_Mender_2 σ n v1 v2 = some r → W p l e krm_Walk_isOnTheWay_Mender s m args below meth c H locs 0 0 (MQ below (kqi D a cA A g r σ) args s 0 0 A) (F0 m 2 ls []) := by
  intro n
  induction n with
  | zero =>
    intro v1 v2 H locs ls E hl hM
    rw [kL_Walk_isOnTheWay_Mender_2] at hM
    cases hM
  | succ n ih =>
    intro v1 v2 H locs ls E hl hM
    rw [kL_Walk_isOnTheWay_Mender_2] at hM
    refine lv_iload_n S.1 S.2.1 d_Walk_isOnTheWay_2 rfl (lv_at hl 2 rfl) ?_
    refine lv_aload_n S.1 S.2.1 d_Walk_isOnTheWay_3 rfl (lv_at hl 0 rfl) ?_
    refine kgf_Walk_26_3 S hK E d_Walk_isOnTheWay_4 ?_
    refine lv_icmp_ge (tgt := 28) S.1 S.2.1 d_Walk_isOnTheWay_7 (by decide) (fun c1 => ?_) (fun c1 => ?_)
    · have hM := ifP hM c1
      refine lv_iconst (v := 0) S.1 S.2.1 d_Walk_isOnTheWay_28 (by decide) ?_
      obtain rfl := Option.some.inj hM
      exact kretz S hr hlk hK E d_Walk_isOnTheWay_29 rfl
    · have hM := ifN hM c1
      refine lv_aload_n S.1 S.2.1 d_Walk_isOnTheWay_10 rfl (lv_at hl 0 rfl) ?_
      refine kgf_Walk_15_3 S hK E d_Walk_isOnTheWay_11 ?_
      refine lv_iload_n S.1 S.2.1 d_Walk_isOnTheWay_14 rfl (lv_at hl 2 rfl) ?_
      obtain ⟨h2, hM⟩ := gd_inv hM
      refine kal_21 S hK E h2 d_Walk_isOnTheWay_15 ?_
      refine lv_iload_n S.1 S.2.1 d_Walk_isOnTheWay_16 rfl (lv_at hl 1 rfl) ?_
      refine lv_icmp_ne (tgt := 22) S.1 S.2.1 d_Walk_isOnTheWay_17 (by decide) (fun c3 => ?_) (fun c3 => ?_)
      · have hM := ifN hM c3
        obtain ⟨y4, ey4⟩ : ∃ z : Int32, z = v2 + 1 := ⟨_, rfl⟩
        have hM := lq_inv hM y4 ey4
        refine lv_iinc (v := y4) (lv' := [(2, .int y4), (0, .ref (a 3)), (1, .int v1)]) S.1 S.2.1 d_Walk_isOnTheWay_22 hl (k := 2) rfl (by rw [ey4]; rfl) (by decide) rfl (fun ls hl => ?_)
        refine lv_goto (tgt := 2) S.1 S.2.1 d_Walk_isOnTheWay_25 (by decide) ?_
        exact ih _ _ _ _ _ E (lv_sub hl [1, 2, 0] rfl) hM
      · have hM := ifP hM c3
        refine lv_iconst (v := 1) S.1 S.2.1 d_Walk_isOnTheWay_20 (by decide) ?_
        obtain rfl := Option.some.inj hM
        exact kretz S hr hlk hK E d_Walk_isOnTheWay_21 rfl
set_option maxHeartbeats 4000000 in
set_option maxRecDepth 100000 in
theorem kC_Walk_isOnTheWay_Mender {l : Launch} {D : va_G} {a : Nat → Nat} {cA : Nat → ClassId} {A : Nat → Prop} {g : Nat → Nat} {σ : St} {x1 : Int32} {r : Int32} (hM : kM_Walk_isOnTheWay_Mender σ x1 = some r) : Met l y_Walk_isOnTheWay (.code y_Walk_isOnTheWay prog_8_method_9_code 3 (some .boolean) :: AW) krm_Walk_isOnTheWay_Mender (va_Pc [.ref (a 3), .int x1] (kCP D a cA A g σ)) (kqi D a cA A g r σ) 0 0 A := by
  refine kmet (nL := 3) (by decide) (Nat.le_of_ble_eq_true rfl) (fun S hr hlk hK E ls hl => ?_)
  have hl : lv_has ls 3 [(0, .ref (a 3)), (1, .int x1)] := hl
  unfold kM_Walk_isOnTheWay_Mender at hM
  refine lv_iconst (v := 0) S.1 S.2.1 d_Walk_isOnTheWay_0 (by decide) ?_
  refine lv_istore_n (lv' := [(2, .int 0), (0, .ref (a 3)), (1, .int x1)]) S.1 S.2.1 d_Walk_isOnTheWay_1 rfl hl (by decide) rfl (fun ls hl => ?_)
  exact kB_Walk_isOnTheWay_Mender_2 S hr hlk hK _ _ _ _ _ _ E (lv_sub hl [1, 2, 0] rfl) hM
set_option maxHeartbeats 4000000 in
set_option maxRecDepth 100000 in
theorem kB_Mender_meetNodeAgain_23 {p : Program} {l : Launch} {e : Env} {s : State} {m : MethodId} {args : Array Value} {below : List Frame} {meth : Method} {c : Code} {D : va_G} {a : Nat → Nat} {cA : Nat → ClassId} {A : Nat → Prop} {g : Nat → Nat} {σ2 : St} {r : Int32} (S : CallFix p m c prog_5_method_6_code 4 s args AW R_Mender) (hr : meth.sig.returnType = (some .boolean)) (hlk : meth.locks = false) (hK : kKX D cA A g s s.heap) : ∀ (σ : St) (v3 : Int32) (t1 : Int32) (H : Heap) (locs : List Loc) (ls : Array Slot), kEx D a cA A σ s.heap H locs → lv_has ls 4 [(3, .int v3)] → kJ_Mender_meetNodeAgain_23 σ v3 t1 = some (r, σ2) → W p l e krm_Mender_meetNodeAgain s m args below meth c H locs 0 0 (MQ below (kqi D a cA A g r σ2) args s 0 0 A) (F0 m 23 ls [.int t1, .ref (a 3)]) := by
  intro σ v3 t1 H locs ls E hl hM
  unfold kJ_Mender_meetNodeAgain_23 at hM
  refine lv_iload_n S.1 S.2.1 d_Mender_meetNodeAgain_23 rfl (lv_at hl 0 rfl) ?_
  obtain ⟨σ2, h1, hM⟩ := bv_inv hM
  refine kcr_45 (As := [.int t1, .int v3]) (rest := []) S hK E (kC_Mender_tell h1) ⟨Nat.le_of_ble_eq_true rfl, Nat.le_of_ble_eq_true rfl⟩ rfl rfl hl.1 (lv_room (Nat.le_of_ble_eq_true rfl)) d_Mender_meetNodeAgain_24 (fun H locs E => ?_)
  refine lv_iconst (v := 0) S.1 S.2.1 d_Mender_meetNodeAgain_27 (by decide) ?_
  obtain ⟨rfl, rfl⟩ := pr_inj hM
  exact kretz S hr hlk hK E d_Mender_meetNodeAgain_28 rfl
set_option maxHeartbeats 4000000 in
set_option maxRecDepth 100000 in
theorem kC_Mender_meetNodeAgain {l : Launch} {D : va_G} {a : Nat → Nat} {cA : Nat → ClassId} {A : Nat → Prop} {g : Nat → Nat} {σ σ2 : St} {x1 : Int32} {x2 : Int32} {x3 : Int32} {r : Int32} (hM : kM_Mender_meetNodeAgain σ x1 x2 x3 = some (r, σ2)) : Met l y_Mender_meetNodeAgain (.code y_Mender_meetNodeAgain prog_5_method_6_code 4 (some .boolean) :: AW) krm_Mender_meetNodeAgain (va_Pc [.ref (a 3), .int x1, .int x2, .int x3] (kCP D a cA A g σ)) (kqi D a cA A g r σ2) 0 0 A := by
  refine kmet (nL := 4) (by decide) (Nat.le_of_ble_eq_true rfl) (fun S hr hlk hK E ls hl => ?_)
  have hl : lv_has ls 4 [(0, .ref (a 3)), (1, .int x1), (2, .int x2), (3, .int x3)] := hl
  unfold kM_Mender_meetNodeAgain at hM
  refine lv_aload_n S.1 S.2.1 d_Mender_meetNodeAgain_0 rfl (lv_at hl 0 rfl) ?_
  refine kgf_Mender_32_3 S hK E d_Mender_meetNodeAgain_1 ?_
  refine lv_iload_n S.1 S.2.1 d_Mender_meetNodeAgain_4 rfl (lv_at hl 1 rfl) ?_
  refine lv_iload_n S.1 S.2.1 d_Mender_meetNodeAgain_5 rfl (lv_at hl 2 rfl) ?_
  obtain ⟨σ2, h1, hM⟩ := bv_inv hM
  refine kcr_46 (As := [.int x1, .int x2]) (rest := []) S hK E (kC_Items_dropKid h1) ⟨Nat.le_of_ble_eq_true rfl, Nat.le_of_ble_eq_true rfl⟩ rfl rfl hl.1 (lv_room (Nat.le_of_ble_eq_true rfl)) d_Mender_meetNodeAgain_6 (fun H locs E => ?_)
  refine lv_aload_n S.1 S.2.1 d_Mender_meetNodeAgain_9 rfl (lv_at hl 0 rfl) ?_
  refine lv_aload_n S.1 S.2.1 d_Mender_meetNodeAgain_10 rfl (lv_at hl 0 rfl) ?_
  refine lv_iload_n S.1 S.2.1 d_Mender_meetNodeAgain_11 rfl (lv_at hl 3 rfl) ?_
  obtain ⟨r4, h3, hM⟩ := br_inv hM
  refine kcr_47 (As := [.int x3]) (rest := [.ref (a 3)]) S hK E (kC_Walk_isOnTheWay_Mender h3) ⟨Nat.le_of_ble_eq_true rfl, Nat.le_of_ble_eq_true rfl⟩ rfl rfl hl.1 (lv_room (Nat.le_of_ble_eq_true rfl)) d_Mender_meetNodeAgain_12 (fun H locs E => ?_)
  refine lv_if_eq (tgt := 22) S.1 S.2.1 d_Mender_meetNodeAgain_15 (by decide) (fun c5 => ?_) (fun c5 => ?_)
  · have hM := ifP hM c5
    refine lv_iconst (v := 2) S.1 S.2.1 d_Mender_meetNodeAgain_22 (by decide) ?_
    exact kB_Mender_meetNodeAgain_23 S hr hlk hK _ _ _ _ _ _ E (lv_sub hl [3] rfl) hM
  · have hM := ifN hM c5
    refine lv_iconst (v := 1) S.1 S.2.1 d_Mender_meetNodeAgain_18 (by decide) ?_
    refine lv_goto (tgt := 23) S.1 S.2.1 d_Mender_meetNodeAgain_19 (by decide) ?_
    exact kB_Mender_meetNodeAgain_23 S hr hlk hK _ _ _ _ _ _ E (lv_sub hl [3] rfl) hM
set_option maxHeartbeats 4000000 in
set_option maxRecDepth 100000 in
theorem kC_Items_setParent {l : Launch} {D : va_G} {a : Nat → Nat} {cA : Nat → ClassId} {A : Nat → Prop} {g : Nat → Nat} {σ σ2 : St} {x1 : Int32} {x2 : Int32} (hM : kM_Items_setParent σ x1 x2 = some σ2) : Met l y_Items_setParent (.code y_Items_setParent prog_3_method_10_code 3 none :: AW) krm_Items_setParent (va_Pc [.ref (a 1), .int x1, .int x2] (kCP D a cA A g σ)) (kqv D a cA A g σ2) 0 0 A := by
  refine kmet (nL := 3) (by decide) (Nat.le_of_ble_eq_true rfl) (fun S hr hlk hK E ls hl => ?_)
  have hl : lv_has ls 3 [(0, .ref (a 1)), (1, .int x1), (2, .int x2)] := hl
  unfold kM_Items_setParent at hM
  refine lv_aload_n S.1 S.2.1 d_Items_setParent_0 rfl (lv_at hl 0 rfl) ?_
  refine lv_iload_n S.1 S.2.1 d_Items_setParent_1 rfl (lv_at hl 1 rfl) ?_
  obtain ⟨r2, h1, hM⟩ := br_inv hM
  refine kcr_0 (As := [.int x1]) (rest := []) S hK E (kC_Items_isKnown h1) ⟨Nat.le_of_ble_eq_true rfl, Nat.le_of_ble_eq_true rfl⟩ rfl rfl hl.1 (lv_room (Nat.le_of_ble_eq_true rfl)) d_Items_setParent_2 (fun H locs E => ?_)
  refine lv_if_eq (tgt := 15) S.1 S.2.1 d_Items_setParent_5 (by decide) (fun c3 => ?_) (fun c3 => ?_)
  · have hM := ifP hM c3
    obtain rfl := Option.some.inj hM
    exact kretv S hr hlk hK E d_Items_setParent_15
  · have hM := ifN hM c3
    refine lv_aload_n S.1 S.2.1 d_Items_setParent_8 rfl (lv_at hl 0 rfl) ?_
    refine kgf_Items_15_1 S hK E d_Items_setParent_9 ?_
    refine lv_iload_n S.1 S.2.1 d_Items_setParent_12 rfl (lv_at hl 1 rfl) ?_
    refine lv_iload_n S.1 S.2.1 d_Items_setParent_13 rfl (lv_at hl 2 rfl) ?_
    obtain ⟨h4, hM⟩ := gd_inv hM
    refine kas_8 S hK E h4 d_Items_setParent_14 (fun σ5 eσ5 H locs E => ?_)
    have hM := lq_inv hM σ5 eσ5
    obtain rfl := Option.some.inj hM
    exact kretv S hr hlk hK E d_Items_setParent_15
set_option maxHeartbeats 4000000 in
set_option maxRecDepth 100000 in
theorem kC_Mender_meetFirst {l : Launch} {D : va_G} {a : Nat → Nat} {cA : Nat → ClassId} {A : Nat → Prop} {g : Nat → Nat} {σ σ2 : St} {x1 : Int32} {x2 : Int32} {x3 : Int32} (hM : kM_Mender_meetFirst σ x1 x2 x3 = some σ2) : Met l y_Mender_meetFirst (.code y_Mender_meetFirst prog_5_method_5_code 4 none :: AW) krm_Mender_meetFirst (va_Pc [.ref (a 3), .int x1, .int x2, .int x3] (kCP D a cA A g σ)) (kqv D a cA A g σ2) 0 0 A := by
  refine kmet (nL := 4) (by decide) (Nat.le_of_ble_eq_true rfl) (fun S hr hlk hK E ls hl => ?_)
  have hl : lv_has ls 4 [(0, .ref (a 3)), (1, .int x1), (2, .int x2), (3, .int x3)] := hl
  unfold kM_Mender_meetFirst at hM
  refine lv_aload_n S.1 S.2.1 d_Mender_meetFirst_0 rfl (lv_at hl 0 rfl) ?_
  refine kgf_Mender_32_3 S hK E d_Mender_meetFirst_1 ?_
  refine lv_iload_n S.1 S.2.1 d_Mender_meetFirst_4 rfl (lv_at hl 3 rfl) ?_
  refine lv_iload_n S.1 S.2.1 d_Mender_meetFirst_5 rfl (lv_at hl 1 rfl) ?_
  obtain ⟨σ2, h1, hM⟩ := bv_inv hM
  refine kcr_48 (As := [.int x3, .int x1]) (rest := []) S hK E (kC_Items_setParent h1) ⟨Nat.le_of_ble_eq_true rfl, Nat.le_of_ble_eq_true rfl⟩ rfl rfl hl.1 (lv_room (Nat.le_of_ble_eq_true rfl)) d_Mender_meetFirst_6 (fun H locs E => ?_)
  refine lv_aload_n S.1 S.2.1 d_Mender_meetFirst_9 rfl (lv_at hl 0 rfl) ?_
  refine kgf_Mender_32_3 S hK E d_Mender_meetFirst_10 ?_
  refine lv_iload_n S.1 S.2.1 d_Mender_meetFirst_13 rfl (lv_at hl 3 rfl) ?_
  obtain ⟨r4, h3, hM⟩ := br_inv hM
  refine kcr_49 (As := [.int x3]) (rest := []) S hK E (kC_Items_isPage h3) ⟨Nat.le_of_ble_eq_true rfl, Nat.le_of_ble_eq_true rfl⟩ rfl rfl hl.1 (lv_room (Nat.le_of_ble_eq_true rfl)) d_Mender_meetFirst_14 (fun H locs E => ?_)
  refine lv_if_eq (tgt := 33) S.1 S.2.1 d_Mender_meetFirst_17 (by decide) (fun c5 => ?_) (fun c5 => ?_)
  · have hM := ifP hM c5
    refine lv_aload_n S.1 S.2.1 d_Mender_meetFirst_33 rfl (lv_at hl 0 rfl) ?_
    refine kgf_Mender_18_3 S hK E d_Mender_meetFirst_34 ?_
    refine lv_iload_n S.1 S.2.1 d_Mender_meetFirst_37 rfl (lv_at hl 3 rfl) ?_
    refine lv_aload_n S.1 S.2.1 d_Mender_meetFirst_38 rfl (lv_at hl 0 rfl) ?_
    refine kgf_Mender_25_3 S hK E d_Mender_meetFirst_39 ?_
    obtain ⟨h6, hM⟩ := gd_inv hM
    refine kas_25 S hK E h6 d_Mender_meetFirst_42 (fun σ7 eσ7 H locs E => ?_)
    have hM := lq_inv hM σ7 eσ7
    obtain rfl := Option.some.inj hM
    exact kretv S hr hlk hK E d_Mender_meetFirst_43
  · have hM := ifN hM c5
    refine lv_aload_n S.1 S.2.1 d_Mender_meetFirst_20 rfl (lv_at hl 0 rfl) ?_
    refine lv_dup S.1 S.2.1 d_Mender_meetFirst_21 rfl ?_
    refine kgf_Mender_25_3 S hK E d_Mender_meetFirst_22 ?_
    refine lv_iconst (v := 1) S.1 S.2.1 d_Mender_meetFirst_25 (by decide) ?_
    refine lv_iadd S.1 S.2.1 d_Mender_meetFirst_26 ?_
    refine kpf_Mender_25_3 S hK E d_Mender_meetFirst_27 (fun σ8 eσ8 H locs E => ?_)
    have hM := lq_inv hM σ8 eσ8
    refine lv_goto (tgt := 43) S.1 S.2.1 d_Mender_meetFirst_30 (by decide) ?_
    obtain rfl := Option.some.inj hM
    exact kretv S hr hlk hK E d_Mender_meetFirst_43
set_option maxHeartbeats 4000000 in
set_option maxRecDepth 100000 in
theorem kB_Walk_meet_Mender_41 {p : Program} {l : Launch} {e : Env} {s : State} {m : MethodId} {args : Array Value} {below : List Frame} {meth : Method} {c : Code} {D : va_G} {a : Nat → Nat} {cA : Nat → ClassId} {A : Nat → Prop} {g : Nat → Nat} {σ2 : St} {r : Int32} (S : CallFix p m c prog_8_method_7_code 6 s args AW R_Walk) (hr : meth.sig.returnType = (some .int)) (hlk : meth.locks = false) (hK : kKX D cA A g s s.heap) : ∀ (σ : St) (v2 : Int32) (t0 : Int32) (H : Heap) (locs : List Loc) (ls : Array Slot), kEx D a cA A σ s.heap H locs → lv_has ls 6 [(2, .int v2)] → kJ_Walk_meet_Mender_41 σ v2 t0 = some (r, σ2) → W p l e krm_Walk_meet_Mender s m args below meth c H locs 0 0 (MQ below (kqi D a cA A g r σ2) args s 0 0 A) (F0 m 41 ls [.int t0]) := by
  intro σ v2 t0 H locs ls E hl hM
  unfold kJ_Walk_meet_Mender_41 at hM
  refine lv_istore (lv' := [(5, .int t0), (2, .int v2)]) S.1 S.2.1 d_Walk_meet_41 hl (by decide) rfl (fun ls hl => ?_)
  refine lv_iload S.1 S.2.1 d_Walk_meet_43 (lv_at hl 0 rfl) ?_
  refine lv_if_eq (tgt := 54) S.1 S.2.1 d_Walk_meet_45 (by decide) (fun c1 => ?_) (fun c1 => ?_)
  · have hM := ifP hM c1
    refine lv_iload_n S.1 S.2.1 d_Walk_meet_54 rfl (lv_at hl 1 rfl) ?_
    obtain ⟨rfl, rfl⟩ := pr_inj hM
    exact kreti S hr hlk hK E d_Walk_meet_55
  · have hM := ifN hM c1
    refine lv_iload_n S.1 S.2.1 d_Walk_meet_48 rfl (lv_at hl 1 rfl) ?_
    refine lv_iconst (v := 1) S.1 S.2.1 d_Walk_meet_49 (by decide) ?_
    refine lv_iadd S.1 S.2.1 d_Walk_meet_50 ?_
    refine lv_goto (tgt := 55) S.1 S.2.1 d_Walk_meet_51 (by decide) ?_
    obtain ⟨rfl, rfl⟩ := pr_inj hM
    exact kreti S hr hlk hK E d_Walk_meet_55
set_option maxHeartbeats 4000000 in
set_option maxRecDepth 100000 in
theorem kC_Walk_meet_Mender {l : Launch} {D : va_G} {a : Nat → Nat} {cA : Nat → ClassId} {A : Nat → Prop} {g : Nat → Nat} {σ σ2 : St} {x1 : Int32} {x2 : Int32} {x3 : Int32} {r : Int32} (hM : kM_Walk_meet_Mender σ x1 x2 x3 = some (r, σ2)) : Met l y_Walk_meet (.code y_Walk_meet prog_8_method_7_code 6 (some .int) :: AW) krm_Walk_meet_Mender (va_Pc [.ref (a 3), .int x1, .int x2, .int x3] (kCP D a cA A g σ)) (kqi D a cA A g r σ2) 0 0 A := by
  refine kmet (nL := 6) (by decide) (Nat.le_of_ble_eq_true rfl) (fun S hr hlk hK E ls hl => ?_)
  have hl : lv_has ls 6 [(0, .ref (a 3)), (1, .int x1), (2, .int x2), (3, .int x3)] := hl
  unfold kM_Walk_meet_Mender at hM
  refine lv_aload_n S.1 S.2.1 d_Walk_meet_0 rfl (lv_at hl 0 rfl) ?_
  refine kgf_Walk_22_3 S hK E d_Walk_meet_1 ?_
  refine lv_iload_n S.1 S.2.1 d_Walk_meet_4 rfl (lv_at hl 3 rfl) ?_
  obtain ⟨r2, h1, hM⟩ := br_inv hM
  refine kcr_20 (As := [.int x3]) (rest := []) S hK E (kC_Items_isPage h1) ⟨Nat.le_of_ble_eq_true rfl, Nat.le_of_ble_eq_true rfl⟩ rfl rfl hl.1 (lv_room (Nat.le_of_ble_eq_true rfl)) d_Walk_meet_5 (fun H locs E => ?_)
  refine lv_istore (lv' := [(4, .int r2), (0, .ref (a 3)), (1, .int x1), (2, .int x2), (3, .int x3)]) S.1 S.2.1 d_Walk_meet_8 hl (by decide) rfl (fun ls hl => ?_)
  refine lv_aload_n S.1 S.2.1 d_Walk_meet_10 rfl (lv_at hl 1 rfl) ?_
  refine kgf_Walk_9_3 S hK E d_Walk_meet_11 ?_
  refine lv_iload_n S.1 S.2.1 d_Walk_meet_14 rfl (lv_at hl 4 rfl) ?_
  obtain ⟨h3, hM⟩ := gd_inv hM
  refine kal_20 S hK E h3 d_Walk_meet_15 ?_
  refine lv_if_eq (tgt := 56) S.1 S.2.1 d_Walk_meet_16 (by decide) (fun c4 => ?_) (fun c4 => ?_)
  · have hM := ifP hM c4
    refine lv_aload_n S.1 S.2.1 d_Walk_meet_56 rfl (lv_at hl 1 rfl) ?_
    refine lv_iload_n S.1 S.2.1 d_Walk_meet_57 rfl (lv_at hl 2 rfl) ?_
    refine lv_iload_n S.1 S.2.1 d_Walk_meet_58 rfl (lv_at hl 3 rfl) ?_
    refine lv_iload_n S.1 S.2.1 d_Walk_meet_59 rfl (lv_at hl 4 rfl) ?_
    obtain ⟨σ6, h5, hM⟩ := bv_inv hM
    refine kcr_50 (As := [.int x1, .int x2, .int x3]) (rest := []) S hK E (kC_Mender_meetFirst h5) ⟨Nat.le_of_ble_eq_true rfl, Nat.le_of_ble_eq_true rfl⟩ rfl rfl hl.1 (lv_room (Nat.le_of_ble_eq_true rfl)) d_Walk_meet_60 (fun H locs E => ?_)
    refine lv_aload_n S.1 S.2.1 d_Walk_meet_63 rfl (lv_at hl 1 rfl) ?_
    refine kgf_Walk_9_3 S hK E d_Walk_meet_64 ?_
    refine lv_iload_n S.1 S.2.1 d_Walk_meet_67 rfl (lv_at hl 4 rfl) ?_
    refine lv_iconst (v := 1) S.1 S.2.1 d_Walk_meet_68 (by decide) ?_
    obtain ⟨h7, hM⟩ := gd_inv hM
    refine kas_20 S hK E h7 d_Walk_meet_69 (fun σ8 eσ8 H locs E => ?_)
    have hM := lq_inv hM σ8 eσ8
    refine lv_iload S.1 S.2.1 d_Walk_meet_70 (lv_at hl 0 rfl) ?_
    refine lv_if_ne (tgt := 80) S.1 S.2.1 d_Walk_meet_72 (by decide) (fun c9 => ?_) (fun c9 => ?_)
    · have hM := ifN hM c9
      refine lv_iload_n S.1 S.2.1 d_Walk_meet_80 rfl (lv_at hl 3 rfl) ?_
      refine lv_iconst (v := 1) S.1 S.2.1 d_Walk_meet_81 (by decide) ?_
      refine lv_iadd S.1 S.2.1 d_Walk_meet_82 ?_
      obtain ⟨rfl, rfl⟩ := pr_inj hM
      exact kreti S hr hlk hK E d_Walk_meet_83
    · have hM := ifP hM c9
      refine lv_aload_n S.1 S.2.1 d_Walk_meet_75 rfl (lv_at hl 1 rfl) ?_
      refine lv_iload_n S.1 S.2.1 d_Walk_meet_76 rfl (lv_at hl 4 rfl) ?_
      obtain ⟨σ11, h10, hM⟩ := bv_inv hM
      refine kcr_51 (As := [.int x3]) (rest := []) S hK E (kC_Walk_enter_Mender h10) ⟨Nat.le_of_ble_eq_true rfl, Nat.le_of_ble_eq_true rfl⟩ rfl rfl hl.1 (lv_room (Nat.le_of_ble_eq_true rfl)) d_Walk_meet_77 (fun H locs E => ?_)
      refine lv_iload_n S.1 S.2.1 d_Walk_meet_80 rfl (lv_at hl 3 rfl) ?_
      refine lv_iconst (v := 1) S.1 S.2.1 d_Walk_meet_81 (by decide) ?_
      refine lv_iadd S.1 S.2.1 d_Walk_meet_82 ?_
      obtain ⟨rfl, rfl⟩ := pr_inj hM
      exact kreti S hr hlk hK E d_Walk_meet_83
  · have hM := ifN hM c4
    refine lv_iload S.1 S.2.1 d_Walk_meet_19 (lv_at hl 0 rfl) ?_
    refine lv_if_eq (tgt := 34) S.1 S.2.1 d_Walk_meet_21 (by decide) (fun c12 => ?_) (fun c12 => ?_)
    · have hM := ifP hM c12
      refine lv_aload_n S.1 S.2.1 d_Walk_meet_34 rfl (lv_at hl 1 rfl) ?_
      refine lv_iload_n S.1 S.2.1 d_Walk_meet_35 rfl (lv_at hl 2 rfl) ?_
      refine lv_iload_n S.1 S.2.1 d_Walk_meet_36 rfl (lv_at hl 3 rfl) ?_
      refine lv_iload_n S.1 S.2.1 d_Walk_meet_37 rfl (lv_at hl 4 rfl) ?_
      obtain ⟨r14, σ15, h13, hM⟩ := bd_inv hM
      refine kcr_52 (As := [.int x1, .int x2, .int x3]) (rest := []) S hK E (kC_Mender_meetNodeAgain h13) ⟨Nat.le_of_ble_eq_true rfl, Nat.le_of_ble_eq_true rfl⟩ rfl rfl hl.1 (lv_room (Nat.le_of_ble_eq_true rfl)) d_Walk_meet_38 (fun H locs E => ?_)
      exact kB_Walk_meet_Mender_41 S hr hlk hK _ _ _ _ _ _ E (lv_sub hl [3] rfl) hM
    · have hM := ifN hM c12
      refine lv_aload_n S.1 S.2.1 d_Walk_meet_24 rfl (lv_at hl 1 rfl) ?_
      refine lv_iload_n S.1 S.2.1 d_Walk_meet_25 rfl (lv_at hl 2 rfl) ?_
      refine lv_iload_n S.1 S.2.1 d_Walk_meet_26 rfl (lv_at hl 3 rfl) ?_
      refine lv_iload_n S.1 S.2.1 d_Walk_meet_27 rfl (lv_at hl 4 rfl) ?_
      obtain ⟨r17, σ18, h16, hM⟩ := bd_inv hM
      refine kcr_53 (As := [.int x1, .int x2, .int x3]) (rest := []) S hK E (kC_Mender_meetPageAgain h16) ⟨Nat.le_of_ble_eq_true rfl, Nat.le_of_ble_eq_true rfl⟩ rfl rfl hl.1 (lv_room (Nat.le_of_ble_eq_true rfl)) d_Walk_meet_28 (fun H locs E => ?_)
      refine lv_goto (tgt := 41) S.1 S.2.1 d_Walk_meet_31 (by decide) ?_
      exact kB_Walk_meet_Mender_41 S hr hlk hK _ _ _ _ _ _ E (lv_sub hl [3] rfl) hM
set_option maxHeartbeats 4000000 in
set_option maxRecDepth 100000 in
theorem kC_Items_setCount {l : Launch} {D : va_G} {a : Nat → Nat} {cA : Nat → ClassId} {A : Nat → Prop} {g : Nat → Nat} {σ σ2 : St} {x1 : Int32} {x2 : Int32} (hM : kM_Items_setCount σ x1 x2 = some σ2) : Met l y_Items_setCount (.code y_Items_setCount prog_3_method_12_code 3 none :: AW) krm_Items_setCount (va_Pc [.ref (a 1), .int x1, .int x2] (kCP D a cA A g σ)) (kqv D a cA A g σ2) 0 0 A := by
  refine kmet (nL := 3) (by decide) (Nat.le_of_ble_eq_true rfl) (fun S hr hlk hK E ls hl => ?_)
  have hl : lv_has ls 3 [(0, .ref (a 1)), (1, .int x1), (2, .int x2)] := hl
  unfold kM_Items_setCount at hM
  refine lv_aload_n S.1 S.2.1 d_Items_setCount_0 rfl (lv_at hl 0 rfl) ?_
  refine lv_iload_n S.1 S.2.1 d_Items_setCount_1 rfl (lv_at hl 1 rfl) ?_
  obtain ⟨r2, h1, hM⟩ := br_inv hM
  refine kcr_0 (As := [.int x1]) (rest := []) S hK E (kC_Items_isKnown h1) ⟨Nat.le_of_ble_eq_true rfl, Nat.le_of_ble_eq_true rfl⟩ rfl rfl hl.1 (lv_room (Nat.le_of_ble_eq_true rfl)) d_Items_setCount_2 (fun H locs E => ?_)
  refine lv_if_eq (tgt := 15) S.1 S.2.1 d_Items_setCount_5 (by decide) (fun c3 => ?_) (fun c3 => ?_)
  · have hM := ifP hM c3
    obtain rfl := Option.some.inj hM
    exact kretv S hr hlk hK E d_Items_setCount_15
  · have hM := ifN hM c3
    refine lv_aload_n S.1 S.2.1 d_Items_setCount_8 rfl (lv_at hl 0 rfl) ?_
    refine kgf_Items_19_1 S hK E d_Items_setCount_9 ?_
    refine lv_iload_n S.1 S.2.1 d_Items_setCount_12 rfl (lv_at hl 1 rfl) ?_
    refine lv_iload_n S.1 S.2.1 d_Items_setCount_13 rfl (lv_at hl 2 rfl) ?_
    obtain ⟨h4, hM⟩ := gd_inv hM
    refine kas_9 S hK E h4 d_Items_setCount_14 (fun σ5 eσ5 H locs E => ?_)
    have hM := lq_inv hM σ5 eσ5
    obtain rfl := Option.some.inj hM
    exact kretv S hr hlk hK E d_Items_setCount_15
set_option maxHeartbeats 4000000 in
set_option maxRecDepth 100000 in
theorem kC_Mender_leave {l : Launch} {D : va_G} {a : Nat → Nat} {cA : Nat → ClassId} {A : Nat → Prop} {g : Nat → Nat} {σ σ2 : St} {x1 : Int32} (hM : kM_Mender_leave σ x1 = some σ2) : Met l y_Mender_leave (.code y_Mender_leave prog_5_method_8_code 3 none :: AW) krm_Mender_leave (va_Pc [.ref (a 3), .int x1] (kCP D a cA A g σ)) (kqv D a cA A g σ2) 0 0 A := by
  refine kmet (nL := 3) (by decide) (Nat.le_of_ble_eq_true rfl) (fun S hr hlk hK E ls hl => ?_)
  have hl : lv_has ls 3 [(0, .ref (a 3)), (1, .int x1)] := hl
  unfold kM_Mender_leave at hM
  refine lv_aload_n S.1 S.2.1 d_Mender_leave_0 rfl (lv_at hl 0 rfl) ?_
  refine kgf_Mender_25_3 S hK E d_Mender_leave_1 ?_
  refine lv_aload_n S.1 S.2.1 d_Mender_leave_4 rfl (lv_at hl 0 rfl) ?_
  refine kgf_Mender_18_3 S hK E d_Mender_leave_5 ?_
  refine lv_iload_n S.1 S.2.1 d_Mender_leave_8 rfl (lv_at hl 1 rfl) ?_
  obtain ⟨h1, hM⟩ := gd_inv hM
  refine kal_25 S hK E h1 d_Mender_leave_9 ?_
  refine lv_isub S.1 S.2.1 d_Mender_leave_10 ?_
  refine lv_topi (fun y2 ey2 => ?_)
  have hM := lq_inv hM y2 ey2
  refine lv_istore_n (lv' := [(2, .int y2), (0, .ref (a 3)), (1, .int x1)]) S.1 S.2.1 d_Mender_leave_11 rfl hl (by decide) rfl (fun ls hl => ?_)
  refine lv_aload_n S.1 S.2.1 d_Mender_leave_12 rfl (lv_at hl 1 rfl) ?_
  refine kgf_Mender_32_3 S hK E d_Mender_leave_13 ?_
  refine lv_iload_n S.1 S.2.1 d_Mender_leave_16 rfl (lv_at hl 2 rfl) ?_
  obtain ⟨r4, h3, hM⟩ := br_inv hM
  refine kcr_54 (As := [.int x1]) (rest := []) S hK E (kC_Items_countOf h3) ⟨Nat.le_of_ble_eq_true rfl, Nat.le_of_ble_eq_true rfl⟩ rfl rfl hl.1 (lv_room (Nat.le_of_ble_eq_true rfl)) d_Mender_leave_17 (fun H locs E => ?_)
  refine lv_iload_n S.1 S.2.1 d_Mender_leave_20 rfl (lv_at hl 0 rfl) ?_
  refine lv_icmp_eq (tgt := 39) S.1 S.2.1 d_Mender_leave_21 (by decide) (fun c5 => ?_) (fun c5 => ?_)
  · have hM := ifP hM c5
    obtain rfl := Option.some.inj hM
    exact kretv S hr hlk hK E d_Mender_leave_39
  · have hM := ifN hM c5
    refine lv_aload_n S.1 S.2.1 d_Mender_leave_24 rfl (lv_at hl 1 rfl) ?_
    refine kgf_Mender_32_3 S hK E d_Mender_leave_25 ?_
    refine lv_iload_n S.1 S.2.1 d_Mender_leave_28 rfl (lv_at hl 2 rfl) ?_
    refine lv_iload_n S.1 S.2.1 d_Mender_leave_29 rfl (lv_at hl 0 rfl) ?_
    obtain ⟨σ7, h6, hM⟩ := bv_inv hM
    refine kcr_55 (As := [.int x1, .int y2]) (rest := []) S hK E (kC_Items_setCount h6) ⟨Nat.le_of_ble_eq_true rfl, Nat.le_of_ble_eq_true rfl⟩ rfl rfl hl.1 (lv_room (Nat.le_of_ble_eq_true rfl)) d_Mender_leave_30 (fun H locs E => ?_)
    refine lv_aload_n S.1 S.2.1 d_Mender_leave_33 rfl (lv_at hl 1 rfl) ?_
    refine lv_iconst (v := 4) S.1 S.2.1 d_Mender_leave_34 (by decide) ?_
    refine lv_iload_n S.1 S.2.1 d_Mender_leave_35 rfl (lv_at hl 2 rfl) ?_
    obtain ⟨σ9, h8, hM⟩ := bv_inv hM
    refine kcr_45 (As := [.int 4, .int x1]) (rest := []) S hK E (kC_Mender_tell h8) ⟨Nat.le_of_ble_eq_true rfl, Nat.le_of_ble_eq_true rfl⟩ rfl rfl hl.1 (lv_room (Nat.le_of_ble_eq_true rfl)) d_Mender_leave_36 (fun H locs E => ?_)
    obtain rfl := Option.some.inj hM
    exact kretv S hr hlk hK E d_Mender_leave_39
