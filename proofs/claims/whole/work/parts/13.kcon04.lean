set_option maxHeartbeats 4000000 in
set_option maxRecDepth 100000 in
theorem kB_PT_move_164 {p : Program} {l : Launch} {e : Env} {s : State} {m : MethodId} {args : Array Value} {below : List Frame} {meth : Method} {c : Code} {D : va_G} {a : Nat → Nat} {cA : Nat → ClassId} {A : Nat → Prop} {g : Nat → Nat} {σ2 : St} {r : Int32} (S : CallFix p m c prog_1_method_15_code 9 s args AW R_PT) (hr : meth.sig.returnType = (some .int)) (hlk : meth.locks = false) (hK : kKX D cA A g s s.heap) : ∀ (σ : St) (v1 : Int32) (v2 : Int32) (v7 : Int32) (t1 : Int32) (t2 : Int32) (H : Heap) (locs : List Loc) (ls : Array Slot), kEx D a cA A σ s.heap H locs → lv_has ls 9 [(0, .ref (a 0)), (1, .int v1), (2, .int v2), (7, .int v7)] → kJ_PT_move_164 σ v1 v2 v7 t1 t2 = some (r, σ2) → W p l e krm_PT_move s m args below meth c H locs 0 0 (MQ below (kqi D a cA A g r σ2) args s 0 0 A) (F0 m 164 ls [.int t2, .int t1, .ref (a 1)]) := by
  intro σ v1 v2 v7 t1 t2 H locs ls E hl hM
  unfold kJ_PT_move_164 at hM
  refine lv_iload_n S.1 S.2.1 d_PT_move_164 rfl (lv_at hl 1 rfl) ?_
  obtain ⟨σ2, h1, hM⟩ := bv_inv hM
  refine kcr_65 (As := [.int t1, .int t2, .int v1]) (rest := []) S hK E (kC_Items_insertKid h1) ⟨Nat.le_of_ble_eq_true rfl, Nat.le_of_ble_eq_true rfl⟩ rfl rfl hl.1 (lv_room (Nat.le_of_ble_eq_true rfl)) d_PT_move_165 (fun H locs E => ?_)
  refine lv_aload_n S.1 S.2.1 d_PT_move_168 rfl (lv_at hl 0 rfl) ?_
  refine kgf_PT_10_0 S hK E d_PT_move_169 ?_
  refine lv_iload_n S.1 S.2.1 d_PT_move_172 rfl (lv_at hl 1 rfl) ?_
  refine lv_iload S.1 S.2.1 d_PT_move_173 (lv_at hl 3 rfl) ?_
  obtain ⟨σ4, h3, hM⟩ := bv_inv hM
  refine kcr_66 (As := [.int v1, .int v7]) (rest := []) S hK E (kC_Items_setParent h3) ⟨Nat.le_of_ble_eq_true rfl, Nat.le_of_ble_eq_true rfl⟩ rfl rfl hl.1 (lv_room (Nat.le_of_ble_eq_true rfl)) d_PT_move_175 (fun H locs E => ?_)
  refine lv_iload_n S.1 S.2.1 d_PT_move_178 rfl (lv_at hl 2 rfl) ?_
  obtain ⟨rfl, rfl⟩ := pr_inj hM
  exact kreti S hr hlk hK E d_PT_move_179
set_option maxHeartbeats 4000000 in
set_option maxRecDepth 100000 in
theorem kB_PT_move_81 {p : Program} {l : Launch} {e : Env} {s : State} {m : MethodId} {args : Array Value} {below : List Frame} {meth : Method} {c : Code} {D : va_G} {a : Nat → Nat} {cA : Nat → ClassId} {A : Nat → Prop} {g : Nat → Nat} {σ2 : St} {r : Int32} (S : CallFix p m c prog_1_method_15_code 9 s args AW R_PT) (hr : meth.sig.returnType = (some .int)) (hlk : meth.locks = false) (hK : kKX D cA A g s s.heap) : ∀ (σ : St) (v1 : Int32) (v2 : Int32) (v4 : Int32) (t1 : Int32) (H : Heap) (locs : List Loc) (ls : Array Slot), kEx D a cA A σ s.heap H locs → lv_has ls 9 [(0, .ref (a 0)), (1, .int v1), (2, .int v2), (4, .int v4)] → kJ_PT_move_81 σ v1 v2 v4 t1 = some (r, σ2) → W p l e krm_PT_move s m args below meth c H locs 0 0 (MQ below (kqi D a cA A g r σ2) args s 0 0 A) (F0 m 81 ls [.int t1, .ref (a 2)]) := by
  intro σ v1 v2 v4 t1 H locs ls E hl hM
  unfold kJ_PT_move_81 at hM
  obtain ⟨r2, σ3, h1, hM⟩ := bd_inv hM
  refine kcr_35 (As := [.int t1]) (rest := []) S hK E (kC_Order_pageAt h1) ⟨Nat.le_of_ble_eq_true rfl, Nat.le_of_ble_eq_true rfl⟩ rfl rfl hl.1 (lv_room (Nat.le_of_ble_eq_true rfl)) d_PT_move_81 (fun H locs E => ?_)
  refine lv_istore (lv' := [(6, .int r2), (0, .ref (a 0)), (1, .int v1), (2, .int v2), (4, .int v4)]) S.1 S.2.1 d_PT_move_84 hl (by decide) rfl (fun ls hl => ?_)
  refine lv_aload_n S.1 S.2.1 d_PT_move_86 rfl (lv_at hl 1 rfl) ?_
  refine kgf_PT_21_0 S hK E d_PT_move_87 ?_
  refine lv_iload S.1 S.2.1 d_PT_move_90 (lv_at hl 0 rfl) ?_
  obtain ⟨r5, σ6, h4, hM⟩ := bd_inv hM
  refine kcr_67 (As := [.int r2]) (rest := []) S hK E (kC_Order_listerOf h4) ⟨Nat.le_of_ble_eq_true rfl, Nat.le_of_ble_eq_true rfl⟩ rfl rfl hl.1 (lv_room (Nat.le_of_ble_eq_true rfl)) d_PT_move_92 (fun H locs E => ?_)
  refine lv_istore (lv' := [(7, .int r5), (6, .int r2), (0, .ref (a 0)), (1, .int v1), (2, .int v2), (4, .int v4)]) S.1 S.2.1 d_PT_move_95 hl (by decide) rfl (fun ls hl => ?_)
  refine lv_aload_n S.1 S.2.1 d_PT_move_97 rfl (lv_at hl 2 rfl) ?_
  refine kgf_PT_10_0 S hK E d_PT_move_98 ?_
  refine lv_iload S.1 S.2.1 d_PT_move_101 (lv_at hl 0 rfl) ?_
  refine lv_iload_n S.1 S.2.1 d_PT_move_103 rfl (lv_at hl 3 rfl) ?_
  obtain ⟨r8, h7, hM⟩ := br_inv hM
  refine kcr_68 (As := [.int r5, .int v1]) (rest := []) S hK E (kC_Items_kidCountWithout h7) ⟨Nat.le_of_ble_eq_true rfl, Nat.le_of_ble_eq_true rfl⟩ rfl rfl hl.1 (lv_room (Nat.le_of_ble_eq_true rfl)) d_PT_move_104 (fun H locs E => ?_)
  refine lv_bipush (v := 40) S.1 S.2.1 d_PT_move_107 (by decide) ?_
  refine lv_icmp_lt (tgt := 115) S.1 S.2.1 d_PT_move_109 (by decide) (fun c9 => ?_) (fun c9 => ?_)
  · have hM := ifP hM c9
    refine lv_aload_n S.1 S.2.1 d_PT_move_115 rfl (lv_at hl 2 rfl) ?_
    refine kgf_PT_10_0 S hK E d_PT_move_116 ?_
    refine lv_iload_n S.1 S.2.1 d_PT_move_119 rfl (lv_at hl 3 rfl) ?_
    refine lv_iload_n S.1 S.2.1 d_PT_move_120 rfl (lv_at hl 3 rfl) ?_
    obtain ⟨σ11, h10, hM⟩ := bv_inv hM
    refine kcr_69 (As := [.int v1, .int v1]) (rest := []) S hK E (kC_Items_ownValuesOf h10) ⟨Nat.le_of_ble_eq_true rfl, Nat.le_of_ble_eq_true rfl⟩ rfl rfl hl.1 (lv_room (Nat.le_of_ble_eq_true rfl)) d_PT_move_121 (fun H locs E => ?_)
    refine lv_aload_n S.1 S.2.1 d_PT_move_124 rfl (lv_at hl 2 rfl) ?_
    refine kgf_PT_10_0 S hK E d_PT_move_125 ?_
    refine lv_iload_n S.1 S.2.1 d_PT_move_128 rfl (lv_at hl 3 rfl) ?_
    obtain ⟨σ13, h12, hM⟩ := bv_inv hM
    refine kcr_70 (As := [.int v1]) (rest := []) S hK E (kC_Items_dropEverywhere h12) ⟨Nat.le_of_ble_eq_true rfl, Nat.le_of_ble_eq_true rfl⟩ rfl rfl hl.1 (lv_room (Nat.le_of_ble_eq_true rfl)) d_PT_move_129 (fun H locs E => ?_)
    refine lv_aload_n S.1 S.2.1 d_PT_move_132 rfl (lv_at hl 2 rfl) ?_
    refine kgf_PT_21_0 S hK E d_PT_move_133 ?_
    refine lv_iload S.1 S.2.1 d_PT_move_136 (lv_at hl 1 rfl) ?_
    obtain ⟨r15, σ16, h14, hM⟩ := bd_inv hM
    refine kcr_71 (As := [.int r2]) (rest := []) S hK E (kC_Order_slotOf h14) ⟨Nat.le_of_ble_eq_true rfl, Nat.le_of_ble_eq_true rfl⟩ rfl rfl hl.1 (lv_room (Nat.le_of_ble_eq_true rfl)) d_PT_move_138 (fun H locs E => ?_)
    refine lv_istore (lv' := [(8, .int r15), (7, .int r5), (6, .int r2), (0, .ref (a 0)), (1, .int v1), (2, .int v2), (4, .int v4)]) S.1 S.2.1 d_PT_move_141 hl (by decide) rfl (fun ls hl => ?_)
    refine lv_aload_n S.1 S.2.1 d_PT_move_143 rfl (lv_at hl 3 rfl) ?_
    refine kgf_PT_10_0 S hK E d_PT_move_144 ?_
    refine lv_iload S.1 S.2.1 d_PT_move_147 (lv_at hl 1 rfl) ?_
    refine lv_iload_n S.1 S.2.1 d_PT_move_149 rfl (lv_at hl 5 rfl) ?_
    refine lv_iload S.1 S.2.1 d_PT_move_150 (lv_at hl 6 rfl) ?_
    refine lv_icmp_ne (tgt := 162) S.1 S.2.1 d_PT_move_152 (by decide) (fun c17 => ?_) (fun c17 => ?_)
    · have hM := ifN hM c17
      refine lv_iload S.1 S.2.1 d_PT_move_162 (lv_at hl 0 rfl) ?_
      exact kB_PT_move_164 S hr hlk hK _ _ _ _ _ _ _ _ _ E (lv_sub hl [3, 4, 5, 1] rfl) hM
    · have hM := ifP hM c17
      refine lv_iload S.1 S.2.1 d_PT_move_155 (lv_at hl 0 rfl) ?_
      refine lv_iconst (v := 1) S.1 S.2.1 d_PT_move_157 (by decide) ?_
      refine lv_iadd S.1 S.2.1 d_PT_move_158 ?_
      refine lv_goto (tgt := 164) S.1 S.2.1 d_PT_move_159 (by decide) ?_
      exact kB_PT_move_164 S hr hlk hK _ _ _ _ _ _ _ _ _ E (lv_sub hl [3, 4, 5, 1] rfl) hM
  · have hM := ifN hM c9
    refine lv_bipush (v := (-4)) S.1 S.2.1 d_PT_move_112 (by decide) ?_
    obtain ⟨rfl, rfl⟩ := pr_inj hM
    exact kreti S hr hlk hK E d_PT_move_114
set_option maxHeartbeats 4000000 in
set_option maxRecDepth 100000 in
theorem kB_PT_move_60 {p : Program} {l : Launch} {e : Env} {s : State} {m : MethodId} {args : Array Value} {below : List Frame} {meth : Method} {c : Code} {D : va_G} {a : Nat → Nat} {cA : Nat → ClassId} {A : Nat → Prop} {g : Nat → Nat} {σ2 : St} {r : Int32} (S : CallFix p m c prog_1_method_15_code 9 s args AW R_PT) (hr : meth.sig.returnType = (some .int)) (hlk : meth.locks = false) (hK : kKX D cA A g s s.heap) : ∀ (σ : St) (v1 : Int32) (v2 : Int32) (v3 : Int32) (v4 : Int32) (t0 : Int32) (H : Heap) (locs : List Loc) (ls : Array Slot), kEx D a cA A σ s.heap H locs → lv_has ls 9 [(0, .ref (a 0)), (1, .int v1), (2, .int v2), (3, .int v3), (4, .int v4)] → kJ_PT_move_60 σ v1 v2 v3 v4 t0 = some (r, σ2) → W p l e krm_PT_move s m args below meth c H locs 0 0 (MQ below (kqi D a cA A g r σ2) args s 0 0 A) (F0 m 60 ls [.int t0]) := by
  intro σ v1 v2 v3 v4 t0 H locs ls E hl hM
  unfold kJ_PT_move_60 at hM
  refine lv_istore (lv' := [(5, .int t0), (0, .ref (a 0)), (1, .int v1), (2, .int v2), (3, .int v3), (4, .int v4)]) S.1 S.2.1 d_PT_move_60 hl (by decide) rfl (fun ls hl => ?_)
  refine lv_aload_n S.1 S.2.1 d_PT_move_62 rfl (lv_at hl 1 rfl) ?_
  refine kgf_PT_21_0 S hK E d_PT_move_63 ?_
  refine lv_iload S.1 S.2.1 d_PT_move_66 (lv_at hl 0 rfl) ?_
  refine lv_iload_n S.1 S.2.1 d_PT_move_68 rfl (lv_at hl 4 rfl) ?_
  refine lv_icmp_ge (tgt := 77) S.1 S.2.1 d_PT_move_69 (by decide) (fun c1 => ?_) (fun c1 => ?_)
  · have hM := ifP hM c1
    refine lv_iload S.1 S.2.1 d_PT_move_77 (lv_at hl 0 rfl) ?_
    refine lv_iconst (v := 1) S.1 S.2.1 d_PT_move_79 (by decide) ?_
    refine lv_iadd S.1 S.2.1 d_PT_move_80 ?_
    exact kB_PT_move_81 S hr hlk hK _ _ _ _ _ _ _ _ E (lv_sub hl [1, 2, 3, 5] rfl) hM
  · have hM := ifN hM c1
    refine lv_iload S.1 S.2.1 d_PT_move_72 (lv_at hl 0 rfl) ?_
    refine lv_goto (tgt := 81) S.1 S.2.1 d_PT_move_74 (by decide) ?_
    exact kB_PT_move_81 S hr hlk hK _ _ _ _ _ _ _ _ E (lv_sub hl [1, 2, 3, 5] rfl) hM
set_option maxHeartbeats 4000000 in
set_option maxRecDepth 100000 in
theorem kC_PT_move {l : Launch} {D : va_G} {a : Nat → Nat} {cA : Nat → ClassId} {A : Nat → Prop} {g : Nat → Nat} {σ σ2 : St} {x1 : Int32} {x2 : Int32} {r : Int32} (hM : kM_PT_move σ x1 x2 = some (r, σ2)) : Met l y_PT_move (.code y_PT_move prog_1_method_15_code 9 (some .int) :: AW) krm_PT_move (va_Pc [.ref (a 0), .int x1, .int x2] (kCP D a cA A g σ)) (kqi D a cA A g r σ2) 0 0 A := by
  refine kmet (nL := 9) (by decide) (Nat.le_of_ble_eq_true rfl) (fun S hr hlk hK E ls hl => ?_)
  have hl : lv_has ls 9 [(0, .ref (a 0)), (1, .int x1), (2, .int x2)] := hl
  unfold kM_PT_move at hM
  refine lv_aload_n S.1 S.2.1 d_PT_move_0 rfl (lv_at hl 0 rfl) ?_
  refine kgf_PT_21_0 S hK E d_PT_move_1 ?_
  refine lv_iload_n S.1 S.2.1 d_PT_move_4 rfl (lv_at hl 1 rfl) ?_
  obtain ⟨r2, σ3, h1, hM⟩ := bd_inv hM
  refine kcr_39 (As := [.int x1]) (rest := []) S hK E (kC_Order_placeOf h1) ⟨Nat.le_of_ble_eq_true rfl, Nat.le_of_ble_eq_true rfl⟩ rfl rfl hl.1 (lv_room (Nat.le_of_ble_eq_true rfl)) d_PT_move_5 (fun H locs E => ?_)
  refine lv_istore_n (lv' := [(3, .int r2), (0, .ref (a 0)), (1, .int x1), (2, .int x2)]) S.1 S.2.1 d_PT_move_8 rfl hl (by decide) rfl (fun ls hl => ?_)
  refine lv_iload_n S.1 S.2.1 d_PT_move_9 rfl (lv_at hl 0 rfl) ?_
  refine lv_iconst (v := (-1)) S.1 S.2.1 d_PT_move_10 (by decide) ?_
  refine lv_icmp_ne (tgt := 16) S.1 S.2.1 d_PT_move_11 (by decide) (fun c4 => ?_) (fun c4 => ?_)
  · have hM := ifN hM c4
    refine lv_aload_n S.1 S.2.1 d_PT_move_16 rfl (lv_at hl 1 rfl) ?_
    refine kgf_PT_21_0 S hK E d_PT_move_17 ?_
    obtain ⟨r6, σ7, h5, hM⟩ := bd_inv hM
    refine kcr_34 (As := []) (rest := []) S hK E (kC_Order_size h5) ⟨Nat.le_of_ble_eq_true rfl, Nat.le_of_ble_eq_true rfl⟩ rfl rfl hl.1 (lv_room (Nat.le_of_ble_eq_true rfl)) d_PT_move_20 (fun H locs E => ?_)
    refine lv_iconst (v := 1) S.1 S.2.1 d_PT_move_23 (by decide) ?_
    refine lv_isub S.1 S.2.1 d_PT_move_24 ?_
    refine lv_topi (fun y8 ey8 => ?_)
    have hM := lq_inv hM y8 ey8
    refine lv_istore (lv' := [(4, .int y8), (3, .int r2), (0, .ref (a 0)), (1, .int x1), (2, .int x2)]) S.1 S.2.1 d_PT_move_25 hl (by decide) rfl (fun ls hl => ?_)
    refine lv_iload_n S.1 S.2.1 d_PT_move_27 rfl (lv_at hl 4 rfl) ?_
    refine lv_if_lt (tgt := 37) S.1 S.2.1 d_PT_move_28 (by decide) (fun c9 => ?_) (fun c9 => ?_)
    · have hM := ifP hM c9
      refine lv_bipush (v := (-2)) S.1 S.2.1 d_PT_move_37 (by decide) ?_
      obtain ⟨rfl, rfl⟩ := pr_inj hM
      exact kreti S hr hlk hK E d_PT_move_39
    · have hM := ifN hM c9
      refine lv_iload_n S.1 S.2.1 d_PT_move_31 rfl (lv_at hl 4 rfl) ?_
      refine lv_iload S.1 S.2.1 d_PT_move_32 (lv_at hl 0 rfl) ?_
      refine lv_icmp_le (tgt := 40) S.1 S.2.1 d_PT_move_34 (by decide) (fun c10 => ?_) (fun c10 => ?_)
      · have hM := ifP hM c10
        refine lv_iload S.1 S.2.1 d_PT_move_40 (lv_at hl 0 rfl) ?_
        refine lv_if_ne (tgt := 47) S.1 S.2.1 d_PT_move_42 (by decide) (fun c11 => ?_) (fun c11 => ?_)
        · have hM := ifN hM c11
          refine lv_iload_n S.1 S.2.1 d_PT_move_47 rfl (lv_at hl 4 rfl) ?_
          refine lv_iload S.1 S.2.1 d_PT_move_48 (lv_at hl 0 rfl) ?_
          refine lv_icmp_ne (tgt := 59) S.1 S.2.1 d_PT_move_50 (by decide) (fun c12 => ?_) (fun c12 => ?_)
          · have hM := ifN hM c12
            refine lv_iload_n S.1 S.2.1 d_PT_move_59 rfl (lv_at hl 4 rfl) ?_
            exact kB_PT_move_60 S hr hlk hK _ _ _ _ _ _ _ _ _ E (lv_sub hl [2, 3, 4, 1, 0] rfl) hM
          · have hM := ifP hM c12
            refine lv_iload_n S.1 S.2.1 d_PT_move_53 rfl (lv_at hl 4 rfl) ?_
            refine lv_iconst (v := 1) S.1 S.2.1 d_PT_move_54 (by decide) ?_
            refine lv_isub S.1 S.2.1 d_PT_move_55 ?_
            refine lv_goto (tgt := 60) S.1 S.2.1 d_PT_move_56 (by decide) ?_
            exact kB_PT_move_60 S hr hlk hK _ _ _ _ _ _ _ _ _ E (lv_sub hl [2, 3, 4, 1, 0] rfl) hM
        · have hM := ifP hM c11
          refine lv_iload_n S.1 S.2.1 d_PT_move_45 rfl (lv_at hl 1 rfl) ?_
          obtain ⟨rfl, rfl⟩ := pr_inj hM
          exact kreti S hr hlk hK E d_PT_move_46
      · have hM := ifN hM c10
        refine lv_bipush (v := (-2)) S.1 S.2.1 d_PT_move_37 (by decide) ?_
        obtain ⟨rfl, rfl⟩ := pr_inj hM
        exact kreti S hr hlk hK E d_PT_move_39
  · have hM := ifP hM c4
    refine lv_iconst (v := (-1)) S.1 S.2.1 d_PT_move_14 (by decide) ?_
    obtain ⟨rfl, rfl⟩ := pr_inj hM
    exact kreti S hr hlk hK E d_PT_move_15
set_option maxHeartbeats 4000000 in
set_option maxRecDepth 100000 in
theorem kC_PT_copy {l : Launch} {D : va_G} {a : Nat → Nat} {cA : Nat → ClassId} {A : Nat → Prop} {g : Nat → Nat} {σ σ2 : St} {x1 : Int32} {r : Int32} (hM : kM_PT_copy σ x1 = some (r, σ2)) : Met l y_PT_copy (.code y_PT_copy prog_1_method_16_code 5 (some .int) :: AW) krm_PT_copy (va_Pc [.ref (a 0), .int x1] (kCP D a cA A g σ)) (kqi D a cA A g r σ2) 0 0 A := by
  refine kmet (nL := 5) (by decide) (Nat.le_of_ble_eq_true rfl) (fun S hr hlk hK E ls hl => ?_)
  have hl : lv_has ls 5 [(0, .ref (a 0)), (1, .int x1)] := hl
  unfold kM_PT_copy at hM
  refine lv_aload_n S.1 S.2.1 d_PT_copy_0 rfl (lv_at hl 0 rfl) ?_
  refine kgf_PT_21_0 S hK E d_PT_copy_1 ?_
  refine lv_iload_n S.1 S.2.1 d_PT_copy_4 rfl (lv_at hl 1 rfl) ?_
  obtain ⟨r2, σ3, h1, hM⟩ := bd_inv hM
  refine kcr_39 (As := [.int x1]) (rest := []) S hK E (kC_Order_placeOf h1) ⟨Nat.le_of_ble_eq_true rfl, Nat.le_of_ble_eq_true rfl⟩ rfl rfl hl.1 (lv_room (Nat.le_of_ble_eq_true rfl)) d_PT_copy_5 (fun H locs E => ?_)
  refine lv_iconst (v := (-1)) S.1 S.2.1 d_PT_copy_8 (by decide) ?_
  refine lv_icmp_ne (tgt := 14) S.1 S.2.1 d_PT_copy_9 (by decide) (fun c4 => ?_) (fun c4 => ?_)
  · have hM := ifN hM c4
    refine lv_aload_n S.1 S.2.1 d_PT_copy_14 rfl (lv_at hl 0 rfl) ?_
    refine kgf_PT_21_0 S hK E d_PT_copy_15 ?_
    refine lv_iload_n S.1 S.2.1 d_PT_copy_18 rfl (lv_at hl 1 rfl) ?_
    obtain ⟨r6, σ7, h5, hM⟩ := bd_inv hM
    refine kcr_67 (As := [.int x1]) (rest := []) S hK E (kC_Order_listerOf h5) ⟨Nat.le_of_ble_eq_true rfl, Nat.le_of_ble_eq_true rfl⟩ rfl rfl hl.1 (lv_room (Nat.le_of_ble_eq_true rfl)) d_PT_copy_19 (fun H locs E => ?_)
    refine lv_istore_n (lv' := [(2, .int r6), (0, .ref (a 0)), (1, .int x1)]) S.1 S.2.1 d_PT_copy_22 rfl hl (by decide) rfl (fun ls hl => ?_)
    refine lv_aload_n S.1 S.2.1 d_PT_copy_23 rfl (lv_at hl 1 rfl) ?_
    refine kgf_PT_21_0 S hK E d_PT_copy_24 ?_
    refine lv_iload_n S.1 S.2.1 d_PT_copy_27 rfl (lv_at hl 2 rfl) ?_
    obtain ⟨r9, σ10, h8, hM⟩ := bd_inv hM
    refine kcr_71 (As := [.int x1]) (rest := []) S hK E (kC_Order_slotOf h8) ⟨Nat.le_of_ble_eq_true rfl, Nat.le_of_ble_eq_true rfl⟩ rfl rfl hl.1 (lv_room (Nat.le_of_ble_eq_true rfl)) d_PT_copy_28 (fun H locs E => ?_)
    refine lv_istore_n (lv' := [(3, .int r9), (2, .int r6), (0, .ref (a 0)), (1, .int x1)]) S.1 S.2.1 d_PT_copy_31 rfl hl (by decide) rfl (fun ls hl => ?_)
    refine lv_aload_n S.1 S.2.1 d_PT_copy_32 rfl (lv_at hl 2 rfl) ?_
    refine kgf_PT_10_0 S hK E d_PT_copy_33 ?_
    obtain ⟨r12, h11, hM⟩ := br_inv hM
    refine kcr_5 (As := []) (rest := []) S hK E (kC_Items_isFull h11) ⟨Nat.le_of_ble_eq_true rfl, Nat.le_of_ble_eq_true rfl⟩ rfl rfl hl.1 (lv_room (Nat.le_of_ble_eq_true rfl)) d_PT_copy_36 (fun H locs E => ?_)
    refine lv_if_ne (tgt := 53) S.1 S.2.1 d_PT_copy_39 (by decide) (fun c13 => ?_) (fun c13 => ?_)
    · have hM := ifN hM c13
      refine lv_bipush (v := (-4)) S.1 S.2.1 d_PT_copy_53 (by decide) ?_
      obtain ⟨rfl, rfl⟩ := pr_inj hM
      exact kreti S hr hlk hK E d_PT_copy_55
    · have hM := ifP hM c13
      refine lv_aload_n S.1 S.2.1 d_PT_copy_42 rfl (lv_at hl 2 rfl) ?_
      refine kgf_PT_10_0 S hK E d_PT_copy_43 ?_
      refine lv_iload_n S.1 S.2.1 d_PT_copy_46 rfl (lv_at hl 1 rfl) ?_
      obtain ⟨r15, h14, hM⟩ := br_inv hM
      refine kcr_6 (As := [.int r6]) (rest := []) S hK E (kC_Items_hasNoSlotLeft h14) ⟨Nat.le_of_ble_eq_true rfl, Nat.le_of_ble_eq_true rfl⟩ rfl rfl hl.1 (lv_room (Nat.le_of_ble_eq_true rfl)) d_PT_copy_47 (fun H locs E => ?_)
      refine lv_if_eq (tgt := 56) S.1 S.2.1 d_PT_copy_50 (by decide) (fun c16 => ?_) (fun c16 => ?_)
      · have hM := ifP hM c16
        refine lv_aload_n S.1 S.2.1 d_PT_copy_56 rfl (lv_at hl 2 rfl) ?_
        refine kgf_PT_10_0 S hK E d_PT_copy_57 ?_
        refine lv_iconst (v := 1) S.1 S.2.1 d_PT_copy_60 (by decide) ?_
        refine lv_iload_n S.1 S.2.1 d_PT_copy_61 rfl (lv_at hl 1 rfl) ?_
        refine lv_iconst (v := 0) S.1 S.2.1 d_PT_copy_62 (by decide) ?_
        obtain ⟨r18, σ19, h17, hM⟩ := bd_inv hM
        refine kcr_7 (As := [.int 1, .int r6, .int 0]) (rest := []) S hK E (kC_Items_add h17) ⟨Nat.le_of_ble_eq_true rfl, Nat.le_of_ble_eq_true rfl⟩ rfl rfl hl.1 (lv_room (Nat.le_of_ble_eq_true rfl)) d_PT_copy_63 (fun H locs E => ?_)
        refine lv_istore (lv' := [(4, .int r18), (3, .int r9), (2, .int r6), (0, .ref (a 0)), (1, .int x1)]) S.1 S.2.1 d_PT_copy_66 hl (by decide) rfl (fun ls hl => ?_)
        refine lv_aload_n S.1 S.2.1 d_PT_copy_68 rfl (lv_at hl 3 rfl) ?_
        refine kgf_PT_10_0 S hK E d_PT_copy_69 ?_
        refine lv_iload_n S.1 S.2.1 d_PT_copy_72 rfl (lv_at hl 4 rfl) ?_
        refine lv_iload S.1 S.2.1 d_PT_copy_73 (lv_at hl 0 rfl) ?_
        obtain ⟨σ21, h20, hM⟩ := bv_inv hM
        refine kcr_69 (As := [.int x1, .int r18]) (rest := []) S hK E (kC_Items_ownValuesOf h20) ⟨Nat.le_of_ble_eq_true rfl, Nat.le_of_ble_eq_true rfl⟩ rfl rfl hl.1 (lv_room (Nat.le_of_ble_eq_true rfl)) d_PT_copy_75 (fun H locs E => ?_)
        refine lv_aload_n S.1 S.2.1 d_PT_copy_78 rfl (lv_at hl 3 rfl) ?_
        refine kgf_PT_10_0 S hK E d_PT_copy_79 ?_
        refine lv_iload_n S.1 S.2.1 d_PT_copy_82 rfl (lv_at hl 2 rfl) ?_
        refine lv_iload_n S.1 S.2.1 d_PT_copy_83 rfl (lv_at hl 1 rfl) ?_
        refine lv_iconst (v := 1) S.1 S.2.1 d_PT_copy_84 (by decide) ?_
        refine lv_iadd S.1 S.2.1 d_PT_copy_85 ?_
        refine lv_iload S.1 S.2.1 d_PT_copy_86 (lv_at hl 0 rfl) ?_
        obtain ⟨σ23, h22, hM⟩ := bv_inv hM
        refine kcr_65 (As := [.int r6, .int (r9 + 1), .int r18]) (rest := []) S hK E (kC_Items_insertKid h22) ⟨Nat.le_of_ble_eq_true rfl, Nat.le_of_ble_eq_true rfl⟩ rfl rfl hl.1 (lv_room (Nat.le_of_ble_eq_true rfl)) d_PT_copy_88 (fun H locs E => ?_)
        refine lv_iload S.1 S.2.1 d_PT_copy_91 (lv_at hl 0 rfl) ?_
        obtain ⟨rfl, rfl⟩ := pr_inj hM
        exact kreti S hr hlk hK E d_PT_copy_93
      · have hM := ifN hM c16
        refine lv_bipush (v := (-4)) S.1 S.2.1 d_PT_copy_53 (by decide) ?_
        obtain ⟨rfl, rfl⟩ := pr_inj hM
        exact kreti S hr hlk hK E d_PT_copy_55
  · have hM := ifP hM c4
    refine lv_iconst (v := (-1)) S.1 S.2.1 d_PT_copy_12 (by decide) ?_
    obtain ⟨rfl, rfl⟩ := pr_inj hM
    exact kreti S hr hlk hK E d_PT_copy_13
set_option maxHeartbeats 4000000 in
set_option maxRecDepth 100000 in
theorem kB_Names_forget_49 {p : Program} {l : Launch} {e : Env} {s : State} {m : MethodId} {args : Array Value} {below : List Frame} {meth : Method} {c : Code} {D : va_G} {a : Nat → Nat} {cA : Nat → ClassId} {A : Nat → Prop} {g : Nat → Nat} {σ2 : St} {r : Int32} (S : CallFix p m c prog_6_method_6_code 4 s args AW R_Names) (hr : meth.sig.returnType = (some .int)) (hlk : meth.locks = false) (hK : kKX D cA A g s s.heap) {k4 : St → Int32 → Int32 → Int32 → Option (Int32 × St)} (hk4 : ∀ (σ : St) (v1 : Int32) (v2 : Int32) (v3 : Int32) (H : Heap) (locs : List Loc) (ls : Array Slot), kEx D a cA A σ s.heap H locs → lv_has ls 4 [(0, .ref (a 6)), (1, .int v1), (2, .int v2), (3, .int v3)] → k4 σ v1 v2 v3 = some (r, σ2) → W p l e krm_Names_forget s m args below meth c H locs 0 0 (MQ below (kqi D a cA A g r σ2) args s 0 0 A) (F0 m 4 ls [])) : ∀ (σ : St) (v1 : Int32) (v2 : Int32) (v3 : Int32) (H : Heap) (locs : List Loc) (ls : Array Slot), kEx D a cA A σ s.heap H locs → lv_has ls 4 [(0, .ref (a 6)), (1, .int v1), (2, .int v2), (3, .int v3)] → kJ_Names_forget_49 k4 σ v1 v2 v3 = some (r, σ2) → W p l e krm_Names_forget s m args below meth c H locs 0 0 (MQ below (kqi D a cA A g r σ2) args s 0 0 A) (F0 m 49 ls []) := by
  intro σ v1 v2 v3 H locs ls E hl hM
  unfold kJ_Names_forget_49 at hM
  obtain ⟨y1, ey1⟩ : ∃ z : Int32, z = v3 + 1 := ⟨_, rfl⟩
  have hM := lq_inv hM y1 ey1
  refine lv_iinc (v := y1) (lv' := [(3, .int y1), (0, .ref (a 6)), (1, .int v1), (2, .int v2)]) S.1 S.2.1 d_Names_forget_49 hl (k := 3) rfl (by rw [ey1]; rfl) (by decide) rfl (fun ls hl => ?_)
  refine lv_goto (tgt := 4) S.1 S.2.1 d_Names_forget_52 (by decide) ?_
  exact hk4 _ _ _ _ _ _ _ E (lv_sub hl [1, 2, 3, 0] rfl) hM
set_option maxHeartbeats 4000000 in
set_option maxRecDepth 100000 in
theorem kB_Names_forget_55 {p : Program} {l : Launch} {e : Env} {s : State} {m : MethodId} {args : Array Value} {below : List Frame} {meth : Method} {c : Code} {D : va_G} {a : Nat → Nat} {cA : Nat → ClassId} {A : Nat → Prop} {g : Nat → Nat} {σ2 : St} {r : Int32} (S : CallFix p m c prog_6_method_6_code 4 s args AW R_Names) (hr : meth.sig.returnType = (some .int)) (hlk : meth.locks = false) (hK : kKX D cA A g s s.heap) : ∀ (σ : St) (v2 : Int32) (H : Heap) (locs : List Loc) (ls : Array Slot), kEx D a cA A σ s.heap H locs → lv_has ls 4 [(0, .ref (a 6)), (2, .int v2)] → kJ_Names_forget_55 σ v2 = some (r, σ2) → W p l e krm_Names_forget s m args below meth c H locs 0 0 (MQ below (kqi D a cA A g r σ2) args s 0 0 A) (F0 m 55 ls []) := by
  intro σ v2 H locs ls E hl hM
  unfold kJ_Names_forget_55 at hM
  refine lv_aload_n S.1 S.2.1 d_Names_forget_55 rfl (lv_at hl 0 rfl) ?_
  refine kgf_Names_18_6 S hK E d_Names_forget_56 ?_
  refine lv_iload_n S.1 S.2.1 d_Names_forget_59 rfl (lv_at hl 1 rfl) ?_
  refine lv_isub S.1 S.2.1 d_Names_forget_60 ?_
  refine lv_topi (fun y1 ey1 => ?_)
  have hM := lq_inv hM y1 ey1
  refine lv_istore_n (lv' := [(3, .int y1), (0, .ref (a 6)), (2, .int v2)]) S.1 S.2.1 d_Names_forget_61 rfl hl (by decide) rfl (fun ls hl => ?_)
  refine lv_aload_n S.1 S.2.1 d_Names_forget_62 rfl (lv_at hl 1 rfl) ?_
  refine lv_iload_n S.1 S.2.1 d_Names_forget_63 rfl (lv_at hl 2 rfl) ?_
  refine kpf_Names_18_6 S hK E d_Names_forget_64 (fun σ2 eσ2 H locs E => ?_)
  have hM := lq_inv hM σ2 eσ2
  refine lv_iload_n S.1 S.2.1 d_Names_forget_67 rfl (lv_at hl 0 rfl) ?_
  obtain ⟨rfl, rfl⟩ := pr_inj hM
  exact kreti S hr hlk hK E d_Names_forget_68
set_option maxHeartbeats 4000000 in
set_option maxRecDepth 100000 in
theorem kB_Names_forget_4 {p : Program} {l : Launch} {e : Env} {s : State} {m : MethodId} {args : Array Value} {below : List Frame} {meth : Method} {c : Code} {D : va_G} {a : Nat → Nat} {cA : Nat → ClassId} {A : Nat → Prop} {g : Nat → Nat} {σ2 : St} {r : Int32} (S : CallFix p m c prog_6_method_6_code 4 s args AW R_Names) (hr : meth.sig.returnType = (some .int)) (hlk : meth.locks = false) (hK : kKX D cA A g s s.heap) : ∀ (n : Nat) (σ : St) (v1 : Int32) (v2 : Int32) (v3 : Int32) (H : Heap) (locs : List Loc) (ls : Array Slot), kEx D a cA A σ s.heap H locs → lv_has ls 4 [(0, .ref (a 6)), (1, .int v1), (2, .int v2), (3, .int v3)] → kL_Names_forget_4 n σ v1 v2 v3 = some (r, σ2) → W p l e krm_Names_forget s m args below meth c H locs 0 0 (MQ below (kqi D a cA A g r σ2) args s 0 0 A) (F0 m 4 ls []) := by
  intro n
  induction n with
  | zero =>
    intro σ v1 v2 v3 H locs ls E hl hM
    rw [kL_Names_forget_4] at hM
    cases hM
  | succ n ih =>
    intro σ v1 v2 v3 H locs ls E hl hM
    rw [kL_Names_forget_4] at hM
    refine lv_iload_n S.1 S.2.1 d_Names_forget_4 rfl (lv_at hl 3 rfl) ?_
    refine lv_aload_n S.1 S.2.1 d_Names_forget_5 rfl (lv_at hl 0 rfl) ?_
    refine kgf_Names_18_6 S hK E d_Names_forget_6 ?_
    refine lv_icmp_ge (tgt := 55) S.1 S.2.1 d_Names_forget_9 (by decide) (fun c1 => ?_) (fun c1 => ?_)
    · have hM := ifP hM c1
      exact kB_Names_forget_55 S hr hlk hK _ _ _ _ _ E (lv_sub hl [0, 2] rfl) hM
    · have hM := ifN hM c1
      refine lv_aload_n S.1 S.2.1 d_Names_forget_12 rfl (lv_at hl 0 rfl) ?_
      refine kgf_Names_15_6 S hK E d_Names_forget_13 ?_
      refine lv_iload_n S.1 S.2.1 d_Names_forget_16 rfl (lv_at hl 3 rfl) ?_
      obtain ⟨h2, hM⟩ := gd_inv hM
      refine kal_32 S hK E h2 d_Names_forget_17 ?_
      refine lv_iload_n S.1 S.2.1 d_Names_forget_18 rfl (lv_at hl 1 rfl) ?_
      refine lv_icmp_eq (tgt := 49) S.1 S.2.1 d_Names_forget_19 (by decide) (fun c3 => ?_) (fun c3 => ?_)
      · have hM := ifP hM c3
        exact kB_Names_forget_49 S hr hlk hK ih _ _ _ _ _ _ _ E (lv_sub hl [0, 1, 2, 3] rfl) hM
      · have hM := ifN hM c3
        refine lv_aload_n S.1 S.2.1 d_Names_forget_22 rfl (lv_at hl 0 rfl) ?_
        refine kgf_Names_11_6 S hK E d_Names_forget_23 ?_
        refine lv_iload_n S.1 S.2.1 d_Names_forget_26 rfl (lv_at hl 2 rfl) ?_
        refine lv_aload_n S.1 S.2.1 d_Names_forget_27 rfl (lv_at hl 0 rfl) ?_
        refine kgf_Names_11_6 S hK E d_Names_forget_28 ?_
        refine lv_iload_n S.1 S.2.1 d_Names_forget_31 rfl (lv_at hl 3 rfl) ?_
        obtain ⟨h4, hM⟩ := gd_inv hM
        refine kal_31 S hK E h4 d_Names_forget_32 ?_
        obtain ⟨h5, hM⟩ := gd_inv hM
        refine kas_31 S hK E h5 d_Names_forget_33 (fun σ6 eσ6 H locs E => ?_)
        have hM := lq_inv hM σ6 eσ6
        refine lv_aload_n S.1 S.2.1 d_Names_forget_34 rfl (lv_at hl 0 rfl) ?_
        refine kgf_Names_15_6 S hK E d_Names_forget_35 ?_
        refine lv_iload_n S.1 S.2.1 d_Names_forget_38 rfl (lv_at hl 2 rfl) ?_
        refine lv_aload_n S.1 S.2.1 d_Names_forget_39 rfl (lv_at hl 0 rfl) ?_
        refine kgf_Names_15_6 S hK E d_Names_forget_40 ?_
        refine lv_iload_n S.1 S.2.1 d_Names_forget_43 rfl (lv_at hl 3 rfl) ?_
        obtain ⟨h7, hM⟩ := gd_inv hM
        refine kal_32 S hK E h7 d_Names_forget_44 ?_
        obtain ⟨h8, hM⟩ := gd_inv hM
        refine kas_32 S hK E h8 d_Names_forget_45 (fun σ9 eσ9 H locs E => ?_)
        have hM := lq_inv hM σ9 eσ9
        obtain ⟨y10, ey10⟩ : ∃ z : Int32, z = v2 + 1 := ⟨_, rfl⟩
        have hM := lq_inv hM y10 ey10
        refine lv_iinc (v := y10) (lv' := [(2, .int y10), (0, .ref (a 6)), (1, .int v1), (3, .int v3)]) S.1 S.2.1 d_Names_forget_46 hl (k := 2) rfl (by rw [ey10]; rfl) (by decide) rfl (fun ls hl => ?_)
        exact kB_Names_forget_49 S hr hlk hK ih _ _ _ _ _ _ _ E (lv_sub hl [1, 2, 0, 3] rfl) hM
set_option maxHeartbeats 4000000 in
set_option maxRecDepth 100000 in
theorem kC_Names_forget {l : Launch} {D : va_G} {a : Nat → Nat} {cA : Nat → ClassId} {A : Nat → Prop} {g : Nat → Nat} {σ σ2 : St} {x1 : Int32} {r : Int32} (hM : kM_Names_forget σ x1 = some (r, σ2)) : Met l y_Names_forget (.code y_Names_forget prog_6_method_6_code 4 (some .int) :: AW) krm_Names_forget (va_Pc [.ref (a 6), .int x1] (kCP D a cA A g σ)) (kqi D a cA A g r σ2) 0 0 A := by
  refine kmet (nL := 4) (by decide) (Nat.le_of_ble_eq_true rfl) (fun S hr hlk hK E ls hl => ?_)
  have hl : lv_has ls 4 [(0, .ref (a 6)), (1, .int x1)] := hl
  unfold kM_Names_forget at hM
  refine lv_iconst (v := 0) S.1 S.2.1 d_Names_forget_0 (by decide) ?_
  refine lv_istore_n (lv' := [(2, .int 0), (0, .ref (a 6)), (1, .int x1)]) S.1 S.2.1 d_Names_forget_1 rfl hl (by decide) rfl (fun ls hl => ?_)
  refine lv_iconst (v := 0) S.1 S.2.1 d_Names_forget_2 (by decide) ?_
  refine lv_istore_n (lv' := [(3, .int 0), (2, .int 0), (0, .ref (a 6)), (1, .int x1)]) S.1 S.2.1 d_Names_forget_3 rfl hl (by decide) rfl (fun ls hl => ?_)
  exact kB_Names_forget_4 S hr hlk hK _ _ _ _ _ _ _ _ E (lv_sub hl [2, 3, 1, 0] rfl) hM
set_option maxHeartbeats 4000000 in
set_option maxRecDepth 100000 in
theorem kC_PT_remove {l : Launch} {D : va_G} {a : Nat → Nat} {cA : Nat → ClassId} {A : Nat → Prop} {g : Nat → Nat} {σ σ2 : St} {x1 : Int32} {r : Int32} (hM : kM_PT_remove σ x1 = some (r, σ2)) : Met l y_PT_remove (.code y_PT_remove prog_1_method_17_code 2 (some .int) :: AW) krm_PT_remove (va_Pc [.ref (a 0), .int x1] (kCP D a cA A g σ)) (kqi D a cA A g r σ2) 0 0 A := by
  refine kmet (nL := 2) (by decide) (Nat.le_of_ble_eq_true rfl) (fun S hr hlk hK E ls hl => ?_)
  have hl : lv_has ls 2 [(0, .ref (a 0)), (1, .int x1)] := hl
  unfold kM_PT_remove at hM
  refine lv_aload_n S.1 S.2.1 d_PT_remove_0 rfl (lv_at hl 0 rfl) ?_
  refine kgf_PT_21_0 S hK E d_PT_remove_1 ?_
  refine lv_iload_n S.1 S.2.1 d_PT_remove_4 rfl (lv_at hl 1 rfl) ?_
  obtain ⟨r2, σ3, h1, hM⟩ := bd_inv hM
  refine kcr_39 (As := [.int x1]) (rest := []) S hK E (kC_Order_placeOf h1) ⟨Nat.le_of_ble_eq_true rfl, Nat.le_of_ble_eq_true rfl⟩ rfl rfl hl.1 (lv_room (Nat.le_of_ble_eq_true rfl)) d_PT_remove_5 (fun H locs E => ?_)
  refine lv_iconst (v := (-1)) S.1 S.2.1 d_PT_remove_8 (by decide) ?_
  refine lv_icmp_ne (tgt := 14) S.1 S.2.1 d_PT_remove_9 (by decide) (fun c4 => ?_) (fun c4 => ?_)
  · have hM := ifN hM c4
    refine lv_aload_n S.1 S.2.1 d_PT_remove_14 rfl (lv_at hl 0 rfl) ?_
    refine kgf_PT_21_0 S hK E d_PT_remove_15 ?_
    obtain ⟨r6, σ7, h5, hM⟩ := bd_inv hM
    refine kcr_34 (As := []) (rest := []) S hK E (kC_Order_size h5) ⟨Nat.le_of_ble_eq_true rfl, Nat.le_of_ble_eq_true rfl⟩ rfl rfl hl.1 (lv_room (Nat.le_of_ble_eq_true rfl)) d_PT_remove_18 (fun H locs E => ?_)
    refine lv_iconst (v := 1) S.1 S.2.1 d_PT_remove_21 (by decide) ?_
    refine lv_icmp_ne (tgt := 28) S.1 S.2.1 d_PT_remove_22 (by decide) (fun c8 => ?_) (fun c8 => ?_)
    · have hM := ifN hM c8
      refine lv_aload_n S.1 S.2.1 d_PT_remove_28 rfl (lv_at hl 0 rfl) ?_
      refine kgf_PT_10_0 S hK E d_PT_remove_29 ?_
      refine lv_iload_n S.1 S.2.1 d_PT_remove_32 rfl (lv_at hl 1 rfl) ?_
      obtain ⟨σ10, h9, hM⟩ := bv_inv hM
      refine kcr_70 (As := [.int x1]) (rest := []) S hK E (kC_Items_dropEverywhere h9) ⟨Nat.le_of_ble_eq_true rfl, Nat.le_of_ble_eq_true rfl⟩ rfl rfl hl.1 (lv_room (Nat.le_of_ble_eq_true rfl)) d_PT_remove_33 (fun H locs E => ?_)
      refine lv_aload_n S.1 S.2.1 d_PT_remove_36 rfl (lv_at hl 0 rfl) ?_
      refine kgf_PT_10_0 S hK E d_PT_remove_37 ?_
      refine lv_iload_n S.1 S.2.1 d_PT_remove_40 rfl (lv_at hl 1 rfl) ?_
      refine lv_iconst (v := (-1)) S.1 S.2.1 d_PT_remove_41 (by decide) ?_
      obtain ⟨σ12, h11, hM⟩ := bv_inv hM
      refine kcr_66 (As := [.int x1, .int (-1)]) (rest := []) S hK E (kC_Items_setParent h11) ⟨Nat.le_of_ble_eq_true rfl, Nat.le_of_ble_eq_true rfl⟩ rfl rfl hl.1 (lv_room (Nat.le_of_ble_eq_true rfl)) d_PT_remove_42 (fun H locs E => ?_)
      refine lv_aload_n S.1 S.2.1 d_PT_remove_45 rfl (lv_at hl 0 rfl) ?_
      refine kgf_PT_49_0 S hK E d_PT_remove_46 ?_
      refine lv_iload_n S.1 S.2.1 d_PT_remove_49 rfl (lv_at hl 1 rfl) ?_
      obtain ⟨r14, σ15, h13, hM⟩ := bd_inv hM
      refine kcr_72 (As := [.int x1]) (rest := []) S hK E (kC_Names_forget h13) ⟨Nat.le_of_ble_eq_true rfl, Nat.le_of_ble_eq_true rfl⟩ rfl rfl hl.1 (lv_room (Nat.le_of_ble_eq_true rfl)) d_PT_remove_50 (fun H locs E => ?_)
      obtain ⟨rfl, rfl⟩ := pr_inj hM
      exact kreti S hr hlk hK E d_PT_remove_53
    · have hM := ifP hM c8
      refine lv_bipush (v := (-3)) S.1 S.2.1 d_PT_remove_25 (by decide) ?_
      obtain ⟨rfl, rfl⟩ := pr_inj hM
      exact kreti S hr hlk hK E d_PT_remove_27
  · have hM := ifP hM c4
    refine lv_iconst (v := (-1)) S.1 S.2.1 d_PT_remove_12 (by decide) ?_
    obtain ⟨rfl, rfl⟩ := pr_inj hM
    exact kreti S hr hlk hK E d_PT_remove_13
set_option maxHeartbeats 4000000 in
set_option maxRecDepth 100000 in
theorem kC_Labels_isRange {l : Launch} {D : va_G} {a : Nat → Nat} {cA : Nat → ClassId} {A : Nat → Prop} {g : Nat → Nat} {σ : St} {x0 : Int32} {x1 : Int32} {x2 : Int32} {r : Int32} (hM : kM_Labels_isRange σ x0 x1 x2 = some r) : Met l y_Labels_isRange (.code y_Labels_isRange prog_4_method_2_code 3 (some .boolean) :: AW) krm_Labels_isRange (va_Pc [.int x0, .int x1, .int x2] (kCP D a cA A g σ)) (kqi D a cA A g r σ) 0 0 A := by
  refine kmet (nL := 3) (by decide) (Nat.le_of_ble_eq_true rfl) (fun S hr hlk hK E ls hl => ?_)
  have hl : lv_has ls 3 [(0, .int x0), (1, .int x1), (2, .int x2)] := hl
  unfold kM_Labels_isRange at hM
  refine lv_iload_n S.1 S.2.1 d_Labels_isRange_0 rfl (lv_at hl 0 rfl) ?_
  refine lv_if_lt (tgt := 36) S.1 S.2.1 d_Labels_isRange_1 (by decide) (fun c1 => ?_) (fun c1 => ?_)
  · have hM := ifP hM c1
    refine lv_iconst (v := 0) S.1 S.2.1 d_Labels_isRange_36 (by decide) ?_
    obtain rfl := Option.some.inj hM
    exact kretz S hr hlk hK E d_Labels_isRange_37 rfl
  · have hM := ifN hM c1
    refine lv_iload_n S.1 S.2.1 d_Labels_isRange_4 rfl (lv_at hl 0 rfl) ?_
    refine lv_sipush (v := 199) S.1 S.2.1 d_Labels_isRange_5 (by decide) ?_
    refine lv_icmp_gt (tgt := 36) S.1 S.2.1 d_Labels_isRange_8 (by decide) (fun c2 => ?_) (fun c2 => ?_)
    · have hM := ifP hM c2
      refine lv_iconst (v := 0) S.1 S.2.1 d_Labels_isRange_36 (by decide) ?_
      obtain rfl := Option.some.inj hM
      exact kretz S hr hlk hK E d_Labels_isRange_37 rfl
    · have hM := ifN hM c2
      refine lv_iload_n S.1 S.2.1 d_Labels_isRange_11 rfl (lv_at hl 1 rfl) ?_
      refine lv_if_lt (tgt := 36) S.1 S.2.1 d_Labels_isRange_12 (by decide) (fun c3 => ?_) (fun c3 => ?_)
      · have hM := ifP hM c3
        refine lv_iconst (v := 0) S.1 S.2.1 d_Labels_isRange_36 (by decide) ?_
        obtain rfl := Option.some.inj hM
        exact kretz S hr hlk hK E d_Labels_isRange_37 rfl
      · have hM := ifN hM c3
        refine lv_iload_n S.1 S.2.1 d_Labels_isRange_15 rfl (lv_at hl 1 rfl) ?_
        refine lv_iconst (v := 2) S.1 S.2.1 d_Labels_isRange_16 (by decide) ?_
        refine lv_icmp_gt (tgt := 36) S.1 S.2.1 d_Labels_isRange_17 (by decide) (fun c4 => ?_) (fun c4 => ?_)
        · have hM := ifP hM c4
          refine lv_iconst (v := 0) S.1 S.2.1 d_Labels_isRange_36 (by decide) ?_
          obtain rfl := Option.some.inj hM
          exact kretz S hr hlk hK E d_Labels_isRange_37 rfl
        · have hM := ifN hM c4
          refine lv_iload_n S.1 S.2.1 d_Labels_isRange_20 rfl (lv_at hl 2 rfl) ?_
          refine lv_iconst (v := 1) S.1 S.2.1 d_Labels_isRange_21 (by decide) ?_
          refine lv_icmp_lt (tgt := 36) S.1 S.2.1 d_Labels_isRange_22 (by decide) (fun c5 => ?_) (fun c5 => ?_)
          · have hM := ifP hM c5
            refine lv_iconst (v := 0) S.1 S.2.1 d_Labels_isRange_36 (by decide) ?_
            obtain rfl := Option.some.inj hM
            exact kretz S hr hlk hK E d_Labels_isRange_37 rfl
          · have hM := ifN hM c5
            refine lv_iload_n S.1 S.2.1 d_Labels_isRange_25 rfl (lv_at hl 2 rfl) ?_
            refine lv_sipush (v := 1000) S.1 S.2.1 d_Labels_isRange_26 (by decide) ?_
            refine lv_icmp_gt (tgt := 36) S.1 S.2.1 d_Labels_isRange_29 (by decide) (fun c6 => ?_) (fun c6 => ?_)
            · have hM := ifP hM c6
              refine lv_iconst (v := 0) S.1 S.2.1 d_Labels_isRange_36 (by decide) ?_
              obtain rfl := Option.some.inj hM
              exact kretz S hr hlk hK E d_Labels_isRange_37 rfl
            · have hM := ifN hM c6
              refine lv_iconst (v := 1) S.1 S.2.1 d_Labels_isRange_32 (by decide) ?_
              refine lv_goto (tgt := 37) S.1 S.2.1 d_Labels_isRange_33 (by decide) ?_
              obtain rfl := Option.some.inj hM
              exact kretz S hr hlk hK E d_Labels_isRange_37 rfl
set_option maxHeartbeats 4000000 in
set_option maxRecDepth 100000 in
theorem kB_Labels_rangeFrom_2 {p : Program} {l : Launch} {e : Env} {s : State} {m : MethodId} {args : Array Value} {below : List Frame} {meth : Method} {c : Code} {D : va_G} {a : Nat → Nat} {cA : Nat → ClassId} {A : Nat → Prop} {g : Nat → Nat} {σ : St} {r : Int32} (S : CallFix p m c prog_4_method_5_code 3 s args AW R_Labels) (hr : meth.sig.returnType = (some .int)) (hlk : meth.locks = false) (hK : kKX D cA A g s s.heap) : ∀ (n : Nat) (v1 : Int32) (v2 : Int32) (H : Heap) (locs : List Loc) (ls : Array Slot), kEx D a cA A σ s.heap H locs → lv_has ls 3 [(0, .ref (a 5)), (1, .int v1), (2, .int v2)] → kL_Labels_rangeFrom_2 σ n v1 v2 = some r → W p l e krm_Labels_rangeFrom s m args below meth c H locs 0 0 (MQ below (kqi D a cA A g r σ) args s 0 0 A) (F0 m 2 ls []) := by
  intro n
  induction n with
  | zero =>
    intro v1 v2 H locs ls E hl hM
    rw [kL_Labels_rangeFrom_2] at hM
    cases hM
  | succ n ih =>
    intro v1 v2 H locs ls E hl hM
    rw [kL_Labels_rangeFrom_2] at hM
    refine lv_iload_n S.1 S.2.1 d_Labels_rangeFrom_2 rfl (lv_at hl 2 rfl) ?_
    refine lv_aload_n S.1 S.2.1 d_Labels_rangeFrom_3 rfl (lv_at hl 0 rfl) ?_
    refine kgf_Labels_25_5 S hK E d_Labels_rangeFrom_4 ?_
    refine lv_icmp_ge (tgt := 28) S.1 S.2.1 d_Labels_rangeFrom_7 (by decide) (fun c1 => ?_) (fun c1 => ?_)
    · have hM := ifP hM c1
      refine lv_aload_n S.1 S.2.1 d_Labels_rangeFrom_28 rfl (lv_at hl 0 rfl) ?_
      refine kgf_Labels_25_5 S hK E d_Labels_rangeFrom_29 ?_
      obtain rfl := Option.some.inj hM
      exact kreti S hr hlk hK E d_Labels_rangeFrom_32
    · have hM := ifN hM c1
      refine lv_aload_n S.1 S.2.1 d_Labels_rangeFrom_10 rfl (lv_at hl 0 rfl) ?_
      refine kgf_Labels_11_5 S hK E d_Labels_rangeFrom_11 ?_
      refine lv_iload_n S.1 S.2.1 d_Labels_rangeFrom_14 rfl (lv_at hl 2 rfl) ?_
      obtain ⟨h2, hM⟩ := gd_inv hM
      refine kal_27 S hK E h2 d_Labels_rangeFrom_15 ?_
      refine lv_iload_n S.1 S.2.1 d_Labels_rangeFrom_16 rfl (lv_at hl 1 rfl) ?_
      refine lv_icmp_ne (tgt := 22) S.1 S.2.1 d_Labels_rangeFrom_17 (by decide) (fun c3 => ?_) (fun c3 => ?_)
      · have hM := ifN hM c3
        obtain ⟨y4, ey4⟩ : ∃ z : Int32, z = v2 + 1 := ⟨_, rfl⟩
        have hM := lq_inv hM y4 ey4
        refine lv_iinc (v := y4) (lv' := [(2, .int y4), (0, .ref (a 5)), (1, .int v1)]) S.1 S.2.1 d_Labels_rangeFrom_22 hl (k := 2) rfl (by rw [ey4]; rfl) (by decide) rfl (fun ls hl => ?_)
        refine lv_goto (tgt := 2) S.1 S.2.1 d_Labels_rangeFrom_25 (by decide) ?_
        exact ih _ _ _ _ _ E (lv_sub hl [1, 2, 0] rfl) hM
      · have hM := ifP hM c3
        refine lv_iload_n S.1 S.2.1 d_Labels_rangeFrom_20 rfl (lv_at hl 2 rfl) ?_
        obtain rfl := Option.some.inj hM
        exact kreti S hr hlk hK E d_Labels_rangeFrom_21
set_option maxHeartbeats 4000000 in
set_option maxRecDepth 100000 in
theorem kC_Labels_rangeFrom {l : Launch} {D : va_G} {a : Nat → Nat} {cA : Nat → ClassId} {A : Nat → Prop} {g : Nat → Nat} {σ : St} {x1 : Int32} {r : Int32} (hM : kM_Labels_rangeFrom σ x1 = some r) : Met l y_Labels_rangeFrom (.code y_Labels_rangeFrom prog_4_method_5_code 3 (some .int) :: AW) krm_Labels_rangeFrom (va_Pc [.ref (a 5), .int x1] (kCP D a cA A g σ)) (kqi D a cA A g r σ) 0 0 A := by
  refine kmet (nL := 3) (by decide) (Nat.le_of_ble_eq_true rfl) (fun S hr hlk hK E ls hl => ?_)
  have hl : lv_has ls 3 [(0, .ref (a 5)), (1, .int x1)] := hl
  unfold kM_Labels_rangeFrom at hM
  refine lv_iconst (v := 0) S.1 S.2.1 d_Labels_rangeFrom_0 (by decide) ?_
  refine lv_istore_n (lv' := [(2, .int 0), (0, .ref (a 5)), (1, .int x1)]) S.1 S.2.1 d_Labels_rangeFrom_1 rfl hl (by decide) rfl (fun ls hl => ?_)
  exact kB_Labels_rangeFrom_2 S hr hlk hK _ _ _ _ _ _ E (lv_sub hl [1, 2, 0] rfl) hM
set_option maxHeartbeats 4000000 in
set_option maxRecDepth 100000 in
theorem kB_Labels_begin_35 {p : Program} {l : Launch} {e : Env} {s : State} {m : MethodId} {args : Array Value} {below : List Frame} {meth : Method} {c : Code} {D : va_G} {a : Nat → Nat} {cA : Nat → ClassId} {A : Nat → Prop} {g : Nat → Nat} {σ2 : St} {r : Int32} (S : CallFix p m c prog_4_method_4_code 5 s args AW R_Labels) (hr : meth.sig.returnType = (some .boolean)) (hlk : meth.locks = false) (hK : kKX D cA A g s s.heap) : ∀ (σ : St) (v1 : Int32) (v2 : Int32) (v3 : Int32) (v4 : Int32) (H : Heap) (locs : List Loc) (ls : Array Slot), kEx D a cA A σ s.heap H locs → lv_has ls 5 [(0, .ref (a 5)), (1, .int v1), (2, .int v2), (3, .int v3), (4, .int v4)] → kJ_Labels_begin_35 σ v1 v2 v3 v4 = some (r, σ2) → W p l e krm_Labels_begin s m args below meth c H locs 0 0 (MQ below (kqi D a cA A g r σ2) args s 0 0 A) (F0 m 35 ls []) := by
  intro σ v1 v2 v3 v4 H locs ls E hl hM
  unfold kJ_Labels_begin_35 at hM
  refine lv_aload_n S.1 S.2.1 d_Labels_begin_35 rfl (lv_at hl 0 rfl) ?_
  refine kgf_Labels_11_5 S hK E d_Labels_begin_36 ?_
  refine lv_iload S.1 S.2.1 d_Labels_begin_39 (lv_at hl 4 rfl) ?_
  refine lv_iload_n S.1 S.2.1 d_Labels_begin_41 rfl (lv_at hl 1 rfl) ?_
  obtain ⟨h1, hM⟩ := gd_inv hM
  refine kas_27 S hK E h1 d_Labels_begin_42 (fun σ2 eσ2 H locs E => ?_)
  have hM := lq_inv hM σ2 eσ2
  refine lv_aload_n S.1 S.2.1 d_Labels_begin_43 rfl (lv_at hl 0 rfl) ?_
  refine kgf_Labels_15_5 S hK E d_Labels_begin_44 ?_
  refine lv_iload S.1 S.2.1 d_Labels_begin_47 (lv_at hl 4 rfl) ?_
  refine lv_iload_n S.1 S.2.1 d_Labels_begin_49 rfl (lv_at hl 2 rfl) ?_
  obtain ⟨h3, hM⟩ := gd_inv hM
  refine kas_28 S hK E h3 d_Labels_begin_50 (fun σ4 eσ4 H locs E => ?_)
  have hM := lq_inv hM σ4 eσ4
  refine lv_aload_n S.1 S.2.1 d_Labels_begin_51 rfl (lv_at hl 0 rfl) ?_
  refine kgf_Labels_18_5 S hK E d_Labels_begin_52 ?_
  refine lv_iload S.1 S.2.1 d_Labels_begin_55 (lv_at hl 4 rfl) ?_
  refine lv_iload_n S.1 S.2.1 d_Labels_begin_57 rfl (lv_at hl 3 rfl) ?_
  obtain ⟨h5, hM⟩ := gd_inv hM
  refine kas_29 S hK E h5 d_Labels_begin_58 (fun σ6 eσ6 H locs E => ?_)
  have hM := lq_inv hM σ6 eσ6
  refine lv_iconst (v := 1) S.1 S.2.1 d_Labels_begin_59 (by decide) ?_
  obtain ⟨rfl, rfl⟩ := pr_inj hM
  exact kretz S hr hlk hK E d_Labels_begin_60 rfl
set_option maxHeartbeats 4000000 in
set_option maxRecDepth 100000 in
theorem kC_Labels_begin {l : Launch} {D : va_G} {a : Nat → Nat} {cA : Nat → ClassId} {A : Nat → Prop} {g : Nat → Nat} {σ σ2 : St} {x1 : Int32} {x2 : Int32} {x3 : Int32} {r : Int32} (hM : kM_Labels_begin σ x1 x2 x3 = some (r, σ2)) : Met l y_Labels_begin (.code y_Labels_begin prog_4_method_4_code 5 (some .boolean) :: AW) krm_Labels_begin (va_Pc [.ref (a 5), .int x1, .int x2, .int x3] (kCP D a cA A g σ)) (kqi D a cA A g r σ2) 0 0 A := by
  refine kmet (nL := 5) (by decide) (Nat.le_of_ble_eq_true rfl) (fun S hr hlk hK E ls hl => ?_)
  have hl : lv_has ls 5 [(0, .ref (a 5)), (1, .int x1), (2, .int x2), (3, .int x3)] := hl
  unfold kM_Labels_begin at hM
  refine lv_aload_n S.1 S.2.1 d_Labels_begin_0 rfl (lv_at hl 0 rfl) ?_
  refine lv_iload_n S.1 S.2.1 d_Labels_begin_1 rfl (lv_at hl 1 rfl) ?_
  obtain ⟨r2, h1, hM⟩ := br_inv hM
  refine kcr_73 (As := [.int x1]) (rest := []) S hK E (kC_Labels_rangeFrom h1) ⟨Nat.le_of_ble_eq_true rfl, Nat.le_of_ble_eq_true rfl⟩ rfl rfl hl.1 (lv_room (Nat.le_of_ble_eq_true rfl)) d_Labels_begin_2 (fun H locs E => ?_)
  refine lv_istore (lv' := [(4, .int r2), (0, .ref (a 5)), (1, .int x1), (2, .int x2), (3, .int x3)]) S.1 S.2.1 d_Labels_begin_5 hl (by decide) rfl (fun ls hl => ?_)
  refine lv_iload S.1 S.2.1 d_Labels_begin_7 (lv_at hl 0 rfl) ?_
  refine lv_bipush (v := 20) S.1 S.2.1 d_Labels_begin_9 (by decide) ?_
  refine lv_icmp_lt (tgt := 16) S.1 S.2.1 d_Labels_begin_11 (by decide) (fun c3 => ?_) (fun c3 => ?_)
  · have hM := ifP hM c3
    refine lv_iload S.1 S.2.1 d_Labels_begin_16 (lv_at hl 0 rfl) ?_
    refine lv_aload_n S.1 S.2.1 d_Labels_begin_18 rfl (lv_at hl 1 rfl) ?_
    refine kgf_Labels_25_5 S hK E d_Labels_begin_19 ?_
    refine lv_icmp_ne (tgt := 35) S.1 S.2.1 d_Labels_begin_22 (by decide) (fun c4 => ?_) (fun c4 => ?_)
    · have hM := ifN hM c4
      exact kB_Labels_begin_35 S hr hlk hK _ _ _ _ _ _ _ _ E (lv_sub hl [1, 2, 3, 4, 0] rfl) hM
    · have hM := ifP hM c4
      refine lv_aload_n S.1 S.2.1 d_Labels_begin_25 rfl (lv_at hl 1 rfl) ?_
      refine lv_dup S.1 S.2.1 d_Labels_begin_26 rfl ?_
      refine kgf_Labels_25_5 S hK E d_Labels_begin_27 ?_
      refine lv_iconst (v := 1) S.1 S.2.1 d_Labels_begin_30 (by decide) ?_
      refine lv_iadd S.1 S.2.1 d_Labels_begin_31 ?_
      refine kpf_Labels_25_5 S hK E d_Labels_begin_32 (fun σ5 eσ5 H locs E => ?_)
      have hM := lq_inv hM σ5 eσ5
      exact kB_Labels_begin_35 S hr hlk hK _ _ _ _ _ _ _ _ E (lv_sub hl [1, 2, 3, 4, 0] rfl) hM
  · have hM := ifN hM c3
    refine lv_iconst (v := 0) S.1 S.2.1 d_Labels_begin_14 (by decide) ?_
    obtain ⟨rfl, rfl⟩ := pr_inj hM
    exact kretz S hr hlk hK E d_Labels_begin_15 rfl
set_option maxHeartbeats 4000000 in
set_option maxRecDepth 100000 in
theorem kC_Labels_size {l : Launch} {D : va_G} {a : Nat → Nat} {cA : Nat → ClassId} {A : Nat → Prop} {g : Nat → Nat} {σ : St} {r : Int32} (hM : kM_Labels_size σ = some r) : Met l y_Labels_size (.code y_Labels_size prog_4_method_3_code 1 (some .int) :: AW) krm_Labels_size (va_Pc [.ref (a 5)] (kCP D a cA A g σ)) (kqi D a cA A g r σ) 0 0 A := by
  refine kmet (nL := 1) (by decide) (Nat.le_of_ble_eq_true rfl) (fun S hr hlk hK E ls hl => ?_)
  have hl : lv_has ls 1 [(0, .ref (a 5))] := hl
  unfold kM_Labels_size at hM
  refine lv_aload_n S.1 S.2.1 d_Labels_size_0 rfl (lv_at hl 0 rfl) ?_
  refine kgf_Labels_25_5 S hK E d_Labels_size_1 ?_
  obtain rfl := Option.some.inj hM
  exact kreti S hr hlk hK E d_Labels_size_4
set_option maxHeartbeats 4000000 in
set_option maxRecDepth 100000 in
theorem kC_PT_label {l : Launch} {D : va_G} {a : Nat → Nat} {cA : Nat → ClassId} {A : Nat → Prop} {g : Nat → Nat} {σ σ2 : St} {x1 : Int32} {x2 : Int32} {x3 : Int32} {r : Int32} (hM : kM_PT_label σ x1 x2 x3 = some (r, σ2)) : Met l y_PT_label (.code y_PT_label prog_1_method_18_code 4 (some .int) :: AW) krm_PT_label (va_Pc [.ref (a 0), .int x1, .int x2, .int x3] (kCP D a cA A g σ)) (kqi D a cA A g r σ2) 0 0 A := by
  refine kmet (nL := 4) (by decide) (Nat.le_of_ble_eq_true rfl) (fun S hr hlk hK E ls hl => ?_)
  have hl : lv_has ls 4 [(0, .ref (a 0)), (1, .int x1), (2, .int x2), (3, .int x3)] := hl
  unfold kM_PT_label at hM
  refine lv_iload_n S.1 S.2.1 d_PT_label_0 rfl (lv_at hl 1 rfl) ?_
  refine lv_iload_n S.1 S.2.1 d_PT_label_1 rfl (lv_at hl 2 rfl) ?_
  refine lv_iload_n S.1 S.2.1 d_PT_label_2 rfl (lv_at hl 3 rfl) ?_
  obtain ⟨r2, h1, hM⟩ := br_inv hM
  refine kcr_74 (As := [.int x1, .int x2, .int x3]) (rest := []) S hK E (kC_Labels_isRange h1) ⟨Nat.le_of_ble_eq_true rfl, Nat.le_of_ble_eq_true rfl⟩ rfl rfl hl.1 (lv_room (Nat.le_of_ble_eq_true rfl)) d_PT_label_3 (fun H locs E => ?_)
  refine lv_if_ne (tgt := 12) S.1 S.2.1 d_PT_label_6 (by decide) (fun c3 => ?_) (fun c3 => ?_)
  · have hM := ifN hM c3
    refine lv_aload_n S.1 S.2.1 d_PT_label_12 rfl (lv_at hl 0 rfl) ?_
    refine kgf_PT_42_0 S hK E d_PT_label_13 ?_
    refine lv_iload_n S.1 S.2.1 d_PT_label_16 rfl (lv_at hl 1 rfl) ?_
    refine lv_iload_n S.1 S.2.1 d_PT_label_17 rfl (lv_at hl 2 rfl) ?_
    refine lv_iload_n S.1 S.2.1 d_PT_label_18 rfl (lv_at hl 3 rfl) ?_
    obtain ⟨r5, σ6, h4, hM⟩ := bd_inv hM
    refine kcr_75 (As := [.int x1, .int x2, .int x3]) (rest := []) S hK E (kC_Labels_begin h4) ⟨Nat.le_of_ble_eq_true rfl, Nat.le_of_ble_eq_true rfl⟩ rfl rfl hl.1 (lv_room (Nat.le_of_ble_eq_true rfl)) d_PT_label_19 (fun H locs E => ?_)
    refine lv_if_eq (tgt := 35) S.1 S.2.1 d_PT_label_22 (by decide) (fun c7 => ?_) (fun c7 => ?_)
    · have hM := ifP hM c7
      refine lv_bipush (v := (-4)) S.1 S.2.1 d_PT_label_35 (by decide) ?_
      obtain ⟨rfl, rfl⟩ := pr_inj hM
      exact kreti S hr hlk hK E d_PT_label_37
    · have hM := ifN hM c7
      refine lv_aload_n S.1 S.2.1 d_PT_label_25 rfl (lv_at hl 0 rfl) ?_
      refine kgf_PT_42_0 S hK E d_PT_label_26 ?_
      obtain ⟨r9, h8, hM⟩ := br_inv hM
      refine kcr_76 (As := []) (rest := []) S hK E (kC_Labels_size h8) ⟨Nat.le_of_ble_eq_true rfl, Nat.le_of_ble_eq_true rfl⟩ rfl rfl hl.1 (lv_room (Nat.le_of_ble_eq_true rfl)) d_PT_label_29 (fun H locs E => ?_)
      refine lv_goto (tgt := 37) S.1 S.2.1 d_PT_label_32 (by decide) ?_
      obtain ⟨rfl, rfl⟩ := pr_inj hM
      exact kreti S hr hlk hK E d_PT_label_37
  · have hM := ifP hM c3
    refine lv_bipush (v := (-2)) S.1 S.2.1 d_PT_label_9 (by decide) ?_
    obtain ⟨rfl, rfl⟩ := pr_inj hM
    exact kreti S hr hlk hK E d_PT_label_11
set_option maxHeartbeats 4000000 in
set_option maxRecDepth 100000 in
theorem kB_Labels_rangeAround_56 {p : Program} {l : Launch} {e : Env} {s : State} {m : MethodId} {args : Array Value} {below : List Frame} {meth : Method} {c : Code} {D : va_G} {a : Nat → Nat} {cA : Nat → ClassId} {A : Nat → Prop} {g : Nat → Nat} {σ : St} {r : Int32} (S : CallFix p m c prog_4_method_7_code 5 s args AW R_Labels) (hr : meth.sig.returnType = (some .int)) (hlk : meth.locks = false) (hK : kKX D cA A g s s.heap) {k4 : Int32 → Int32 → Int32 → Option (Int32)} (hk4 : ∀ (v1 : Int32) (v2 : Int32) (v3 : Int32) (H : Heap) (locs : List Loc) (ls : Array Slot), kEx D a cA A σ s.heap H locs → lv_has ls 5 [(0, .ref (a 5)), (1, .int v1), (2, .int v2), (3, .int v3)] → k4 v1 v2 v3 = some r → W p l e krm_Labels_rangeAround s m args below meth c H locs 0 0 (MQ below (kqi D a cA A g r σ) args s 0 0 A) (F0 m 4 ls [])) : ∀ (v1 : Int32) (v2 : Int32) (v3 : Int32) (H : Heap) (locs : List Loc) (ls : Array Slot), kEx D a cA A σ s.heap H locs → lv_has ls 5 [(0, .ref (a 5)), (1, .int v1), (2, .int v2), (3, .int v3)] → kJ_Labels_rangeAround_56 k4 σ v1 v2 v3 = some r → W p l e krm_Labels_rangeAround s m args below meth c H locs 0 0 (MQ below (kqi D a cA A g r σ) args s 0 0 A) (F0 m 56 ls []) := by
  intro v1 v2 v3 H locs ls E hl hM
  unfold kJ_Labels_rangeAround_56 at hM
  obtain ⟨y1, ey1⟩ : ∃ z : Int32, z = v3 + 1 := ⟨_, rfl⟩
  have hM := lq_inv hM y1 ey1
  refine lv_iinc (v := y1) (lv' := [(3, .int y1), (0, .ref (a 5)), (1, .int v1), (2, .int v2)]) S.1 S.2.1 d_Labels_rangeAround_56 hl (k := 3) rfl (by rw [ey1]; rfl) (by decide) rfl (fun ls hl => ?_)
  refine lv_goto (tgt := 4) S.1 S.2.1 d_Labels_rangeAround_59 (by decide) ?_
  exact hk4 _ _ _ _ _ _ E (lv_sub hl [1, 2, 3, 0] rfl) hM
set_option maxHeartbeats 4000000 in
set_option maxRecDepth 100000 in
theorem kB_Labels_rangeAround_54 {p : Program} {l : Launch} {e : Env} {s : State} {m : MethodId} {args : Array Value} {below : List Frame} {meth : Method} {c : Code} {D : va_G} {a : Nat → Nat} {cA : Nat → ClassId} {A : Nat → Prop} {g : Nat → Nat} {σ : St} {r : Int32} (S : CallFix p m c prog_4_method_7_code 5 s args AW R_Labels) (hr : meth.sig.returnType = (some .int)) (hlk : meth.locks = false) (hK : kKX D cA A g s s.heap) {k4 : Int32 → Int32 → Int32 → Option (Int32)} (hk4 : ∀ (v1 : Int32) (v2 : Int32) (v3 : Int32) (H : Heap) (locs : List Loc) (ls : Array Slot), kEx D a cA A σ s.heap H locs → lv_has ls 5 [(0, .ref (a 5)), (1, .int v1), (2, .int v2), (3, .int v3)] → k4 v1 v2 v3 = some r → W p l e krm_Labels_rangeAround s m args below meth c H locs 0 0 (MQ below (kqi D a cA A g r σ) args s 0 0 A) (F0 m 4 ls [])) : ∀ (v1 : Int32) (v3 : Int32) (H : Heap) (locs : List Loc) (ls : Array Slot), kEx D a cA A σ s.heap H locs → lv_has ls 5 [(0, .ref (a 5)), (1, .int v1), (3, .int v3)] → kJ_Labels_rangeAround_54 k4 σ v1 v3 = some r → W p l e krm_Labels_rangeAround s m args below meth c H locs 0 0 (MQ below (kqi D a cA A g r σ) args s 0 0 A) (F0 m 54 ls []) := by
  intro v1 v3 H locs ls E hl hM
  unfold kJ_Labels_rangeAround_54 at hM
  refine lv_iload_n S.1 S.2.1 d_Labels_rangeAround_54 rfl (lv_at hl 2 rfl) ?_
  refine lv_istore_n (lv' := [(2, .int v3), (0, .ref (a 5)), (1, .int v1), (3, .int v3)]) S.1 S.2.1 d_Labels_rangeAround_55 rfl hl (by decide) rfl (fun ls hl => ?_)
  exact kB_Labels_rangeAround_56 S hr hlk hK hk4 _ _ _ _ _ _ E (lv_sub hl [1, 2, 0, 3] rfl) hM
set_option maxHeartbeats 4000000 in
set_option maxRecDepth 100000 in
theorem kB_Labels_rangeAround_27 {p : Program} {l : Launch} {e : Env} {s : State} {m : MethodId} {args : Array Value} {below : List Frame} {meth : Method} {c : Code} {D : va_G} {a : Nat → Nat} {cA : Nat → ClassId} {A : Nat → Prop} {g : Nat → Nat} {σ : St} {r : Int32} (S : CallFix p m c prog_4_method_7_code 5 s args AW R_Labels) (hr : meth.sig.returnType = (some .int)) (hlk : meth.locks = false) (hK : kKX D cA A g s s.heap) {k4 : Int32 → Int32 → Int32 → Option (Int32)} (hk4 : ∀ (v1 : Int32) (v2 : Int32) (v3 : Int32) (H : Heap) (locs : List Loc) (ls : Array Slot), kEx D a cA A σ s.heap H locs → lv_has ls 5 [(0, .ref (a 5)), (1, .int v1), (2, .int v2), (3, .int v3)] → k4 v1 v2 v3 = some r → W p l e krm_Labels_rangeAround s m args below meth c H locs 0 0 (MQ below (kqi D a cA A g r σ) args s 0 0 A) (F0 m 4 ls [])) : ∀ (v1 : Int32) (v2 : Int32) (v3 : Int32) (t0 : Int32) (H : Heap) (locs : List Loc) (ls : Array Slot), kEx D a cA A σ s.heap H locs → lv_has ls 5 [(0, .ref (a 5)), (1, .int v1), (2, .int v2), (3, .int v3)] → kJ_Labels_rangeAround_27 k4 σ v1 v2 v3 t0 = some r → W p l e krm_Labels_rangeAround s m args below meth c H locs 0 0 (MQ below (kqi D a cA A g r σ) args s 0 0 A) (F0 m 27 ls [.int t0]) := by
  intro v1 v2 v3 t0 H locs ls E hl hM
  unfold kJ_Labels_rangeAround_27 at hM
  refine lv_istore (lv' := [(4, .int t0), (0, .ref (a 5)), (1, .int v1), (2, .int v2), (3, .int v3)]) S.1 S.2.1 d_Labels_rangeAround_27 hl (by decide) rfl (fun ls hl => ?_)
  refine lv_iload S.1 S.2.1 d_Labels_rangeAround_29 (lv_at hl 0 rfl) ?_
  refine lv_if_eq (tgt := 56) S.1 S.2.1 d_Labels_rangeAround_31 (by decide) (fun c1 => ?_) (fun c1 => ?_)
  · have hM := ifP hM c1
    exact kB_Labels_rangeAround_56 S hr hlk hK hk4 _ _ _ _ _ _ E (lv_sub hl [1, 2, 3, 4] rfl) hM
  · have hM := ifN hM c1
    refine lv_iload_n S.1 S.2.1 d_Labels_rangeAround_34 rfl (lv_at hl 3 rfl) ?_
    refine lv_iconst (v := (-1)) S.1 S.2.1 d_Labels_rangeAround_35 (by decide) ?_
    refine lv_icmp_eq (tgt := 54) S.1 S.2.1 d_Labels_rangeAround_36 (by decide) (fun c2 => ?_) (fun c2 => ?_)
    · have hM := ifP hM c2
      exact kB_Labels_rangeAround_54 S hr hlk hK hk4 _ _ _ _ _ E (lv_sub hl [1, 2, 4] rfl) hM
    · have hM := ifN hM c2
      refine lv_aload_n S.1 S.2.1 d_Labels_rangeAround_39 rfl (lv_at hl 1 rfl) ?_
      refine kgf_Labels_11_5 S hK E d_Labels_rangeAround_40 ?_
      refine lv_iload_n S.1 S.2.1 d_Labels_rangeAround_43 rfl (lv_at hl 4 rfl) ?_
      obtain ⟨h3, hM⟩ := gd_inv hM
      refine kal_27 S hK E h3 d_Labels_rangeAround_44 ?_
      refine lv_aload_n S.1 S.2.1 d_Labels_rangeAround_45 rfl (lv_at hl 1 rfl) ?_
      refine kgf_Labels_11_5 S hK E d_Labels_rangeAround_46 ?_
      refine lv_iload_n S.1 S.2.1 d_Labels_rangeAround_49 rfl (lv_at hl 3 rfl) ?_
      obtain ⟨h4, hM⟩ := gd_inv hM
      refine kal_27 S hK E h4 d_Labels_rangeAround_50 ?_
      refine lv_icmp_le (tgt := 56) S.1 S.2.1 d_Labels_rangeAround_51 (by decide) (fun c5 => ?_) (fun c5 => ?_)
      · have hM := ifP hM c5
        exact kB_Labels_rangeAround_56 S hr hlk hK hk4 _ _ _ _ _ _ E (lv_sub hl [1, 2, 3, 4] rfl) hM
      · have hM := ifN hM c5
        exact kB_Labels_rangeAround_54 S hr hlk hK hk4 _ _ _ _ _ E (lv_sub hl [1, 2, 4] rfl) hM
set_option maxHeartbeats 4000000 in
set_option maxRecDepth 100000 in
theorem kB_Labels_rangeAround_4 {p : Program} {l : Launch} {e : Env} {s : State} {m : MethodId} {args : Array Value} {below : List Frame} {meth : Method} {c : Code} {D : va_G} {a : Nat → Nat} {cA : Nat → ClassId} {A : Nat → Prop} {g : Nat → Nat} {σ : St} {r : Int32} (S : CallFix p m c prog_4_method_7_code 5 s args AW R_Labels) (hr : meth.sig.returnType = (some .int)) (hlk : meth.locks = false) (hK : kKX D cA A g s s.heap) : ∀ (n : Nat) (v1 : Int32) (v2 : Int32) (v3 : Int32) (H : Heap) (locs : List Loc) (ls : Array Slot), kEx D a cA A σ s.heap H locs → lv_has ls 5 [(0, .ref (a 5)), (1, .int v1), (2, .int v2), (3, .int v3)] → kL_Labels_rangeAround_4 σ n v1 v2 v3 = some r → W p l e krm_Labels_rangeAround s m args below meth c H locs 0 0 (MQ below (kqi D a cA A g r σ) args s 0 0 A) (F0 m 4 ls []) := by
  intro n
  induction n with
  | zero =>
    intro v1 v2 v3 H locs ls E hl hM
    rw [kL_Labels_rangeAround_4] at hM
    cases hM
  | succ n ih =>
    intro v1 v2 v3 H locs ls E hl hM
    rw [kL_Labels_rangeAround_4] at hM
    refine lv_iload_n S.1 S.2.1 d_Labels_rangeAround_4 rfl (lv_at hl 3 rfl) ?_
    refine lv_aload_n S.1 S.2.1 d_Labels_rangeAround_5 rfl (lv_at hl 0 rfl) ?_
    refine kgf_Labels_25_5 S hK E d_Labels_rangeAround_6 ?_
    refine lv_icmp_ge (tgt := 62) S.1 S.2.1 d_Labels_rangeAround_9 (by decide) (fun c1 => ?_) (fun c1 => ?_)
    · have hM := ifP hM c1
      refine lv_iload_n S.1 S.2.1 d_Labels_rangeAround_62 rfl (lv_at hl 2 rfl) ?_
      obtain rfl := Option.some.inj hM
      exact kreti S hr hlk hK E d_Labels_rangeAround_63
    · have hM := ifN hM c1
      refine lv_aload_n S.1 S.2.1 d_Labels_rangeAround_12 rfl (lv_at hl 0 rfl) ?_
      refine kgf_Labels_11_5 S hK E d_Labels_rangeAround_13 ?_
      refine lv_iload_n S.1 S.2.1 d_Labels_rangeAround_16 rfl (lv_at hl 3 rfl) ?_
      obtain ⟨h2, hM⟩ := gd_inv hM
      refine kal_27 S hK E h2 d_Labels_rangeAround_17 ?_
      refine lv_iload_n S.1 S.2.1 d_Labels_rangeAround_18 rfl (lv_at hl 1 rfl) ?_
      refine lv_icmp_gt (tgt := 26) S.1 S.2.1 d_Labels_rangeAround_19 (by decide) (fun c3 => ?_) (fun c3 => ?_)
      · have hM := ifP hM c3
        refine lv_iconst (v := 0) S.1 S.2.1 d_Labels_rangeAround_26 (by decide) ?_
        exact kB_Labels_rangeAround_27 S hr hlk hK ih _ _ _ _ _ _ _ E (lv_sub hl [0, 1, 2, 3] rfl) hM
      · have hM := ifN hM c3
        refine lv_iconst (v := 1) S.1 S.2.1 d_Labels_rangeAround_22 (by decide) ?_
        refine lv_goto (tgt := 27) S.1 S.2.1 d_Labels_rangeAround_23 (by decide) ?_
        exact kB_Labels_rangeAround_27 S hr hlk hK ih _ _ _ _ _ _ _ E (lv_sub hl [0, 1, 2, 3] rfl) hM
set_option maxHeartbeats 4000000 in
set_option maxRecDepth 100000 in
theorem kC_Labels_rangeAround {l : Launch} {D : va_G} {a : Nat → Nat} {cA : Nat → ClassId} {A : Nat → Prop} {g : Nat → Nat} {σ : St} {x1 : Int32} {r : Int32} (hM : kM_Labels_rangeAround σ x1 = some r) : Met l y_Labels_rangeAround (.code y_Labels_rangeAround prog_4_method_7_code 5 (some .int) :: AW) krm_Labels_rangeAround (va_Pc [.ref (a 5), .int x1] (kCP D a cA A g σ)) (kqi D a cA A g r σ) 0 0 A := by
  refine kmet (nL := 5) (by decide) (Nat.le_of_ble_eq_true rfl) (fun S hr hlk hK E ls hl => ?_)
  have hl : lv_has ls 5 [(0, .ref (a 5)), (1, .int x1)] := hl
  unfold kM_Labels_rangeAround at hM
  refine lv_iconst (v := (-1)) S.1 S.2.1 d_Labels_rangeAround_0 (by decide) ?_
  refine lv_istore_n (lv' := [(2, .int (-1)), (0, .ref (a 5)), (1, .int x1)]) S.1 S.2.1 d_Labels_rangeAround_1 rfl hl (by decide) rfl (fun ls hl => ?_)
  refine lv_iconst (v := 0) S.1 S.2.1 d_Labels_rangeAround_2 (by decide) ?_
  refine lv_istore_n (lv' := [(3, .int 0), (2, .int (-1)), (0, .ref (a 5)), (1, .int x1)]) S.1 S.2.1 d_Labels_rangeAround_3 rfl hl (by decide) rfl (fun ls hl => ?_)
  exact kB_Labels_rangeAround_4 S hr hlk hK _ _ _ _ _ _ _ E (lv_sub hl [2, 3, 1, 0] rfl) hM
