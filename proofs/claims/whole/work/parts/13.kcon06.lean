set_option maxHeartbeats 4000000 in
set_option maxRecDepth 100000 in
theorem kB_Bal_nodesFor_6 {p : Program} {l : Launch} {e : Env} {s : State} {m : MethodId} {args : Array Value} {below : List Frame} {meth : Method} {c : Code} {D : va_G} {a : Nat → Nat} {cA : Nat → ClassId} {A : Nat → Prop} {g : Nat → Nat} {σ : St} {r : Int32} (S : CallFix p m c prog_2_method_2_code 4 s args AW R_Bal) (hr : meth.sig.returnType = (some .int)) (hlk : meth.locks = false) (hK : kKX D cA A g s s.heap) : ∀ (n : Nat) (v1 : Int32) (v2 : Int32) (v3 : Int32) (H : Heap) (locs : List Loc) (ls : Array Slot), kEx D a cA A σ s.heap H locs → lv_has ls 4 [(1, .int v1), (2, .int v2), (3, .int v3)] → kL_Bal_nodesFor_6 σ n v1 v2 v3 = some r → W p l e krm_Bal_nodesFor s m args below meth c H locs 0 0 (MQ below (kqi D a cA A g r σ) args s 0 0 A) (F0 m 6 ls []) := by
  intro n
  induction n with
  | zero =>
    intro v1 v2 v3 H locs ls E hl hM
    rw [kL_Bal_nodesFor_6] at hM
    cases hM
  | succ n ih =>
    intro v1 v2 v3 H locs ls E hl hM
    rw [kL_Bal_nodesFor_6] at hM
    refine lv_iload_n S.1 S.2.1 d_Bal_nodesFor_6 rfl (lv_at hl 2 rfl) ?_
    refine lv_sipush (v := 200) S.1 S.2.1 d_Bal_nodesFor_7 (by decide) ?_
    refine lv_icmp_ge (tgt := 36) S.1 S.2.1 d_Bal_nodesFor_10 (by decide) (fun c1 => ?_) (fun c1 => ?_)
    · have hM := ifP hM c1
      refine lv_iload_n S.1 S.2.1 d_Bal_nodesFor_36 rfl (lv_at hl 0 rfl) ?_
      obtain rfl := Option.some.inj hM
      exact kreti S hr hlk hK E d_Bal_nodesFor_37
    · have hM := ifN hM c1
      refine lv_iload_n S.1 S.2.1 d_Bal_nodesFor_13 rfl (lv_at hl 1 rfl) ?_
      refine lv_iconst (v := 4) S.1 S.2.1 d_Bal_nodesFor_14 (by decide) ?_
      refine lv_icmp_le (tgt := 36) S.1 S.2.1 d_Bal_nodesFor_15 (by decide) (fun c2 => ?_) (fun c2 => ?_)
      · have hM := ifP hM c2
        refine lv_iload_n S.1 S.2.1 d_Bal_nodesFor_36 rfl (lv_at hl 0 rfl) ?_
        obtain rfl := Option.some.inj hM
        exact kreti S hr hlk hK E d_Bal_nodesFor_37
      · have hM := ifN hM c2
        refine lv_iload_n S.1 S.2.1 d_Bal_nodesFor_18 rfl (lv_at hl 1 rfl) ?_
        refine lv_iconst (v := 4) S.1 S.2.1 d_Bal_nodesFor_19 (by decide) ?_
        refine lv_iadd S.1 S.2.1 d_Bal_nodesFor_20 ?_
        refine lv_iconst (v := 1) S.1 S.2.1 d_Bal_nodesFor_21 (by decide) ?_
        refine lv_isub S.1 S.2.1 d_Bal_nodesFor_22 ?_
        refine lv_iconst (v := 4) S.1 S.2.1 d_Bal_nodesFor_23 (by decide) ?_
        refine lv_idiv S.1 S.2.1 d_Bal_nodesFor_24 (by decide) ?_
        refine lv_topi (fun y3 ey3 => ?_)
        have hM := lq_inv hM y3 ey3
        refine lv_istore_n (lv' := [(2, .int y3), (1, .int v1), (3, .int v3)]) S.1 S.2.1 d_Bal_nodesFor_25 rfl hl (by decide) rfl (fun ls hl => ?_)
        refine lv_iload_n S.1 S.2.1 d_Bal_nodesFor_26 rfl (lv_at hl 1 rfl) ?_
        refine lv_iload_n S.1 S.2.1 d_Bal_nodesFor_27 rfl (lv_at hl 0 rfl) ?_
        refine lv_iadd S.1 S.2.1 d_Bal_nodesFor_28 ?_
        refine lv_topi (fun y4 ey4 => ?_)
        have hM := lq_inv hM y4 ey4
        refine lv_istore_n (lv' := [(1, .int y4), (2, .int y3), (3, .int v3)]) S.1 S.2.1 d_Bal_nodesFor_29 rfl hl (by decide) rfl (fun ls hl => ?_)
        obtain ⟨y5, ey5⟩ : ∃ z : Int32, z = v3 + 1 := ⟨_, rfl⟩
        have hM := lq_inv hM y5 ey5
        refine lv_iinc (v := y5) (lv' := [(3, .int y5), (1, .int y4), (2, .int y3)]) S.1 S.2.1 d_Bal_nodesFor_30 hl (k := 2) rfl (by rw [ey5]; rfl) (by decide) rfl (fun ls hl => ?_)
        refine lv_goto (tgt := 6) S.1 S.2.1 d_Bal_nodesFor_33 (by decide) ?_
        exact ih _ _ _ _ _ _ E (lv_sub hl [1, 2, 0] rfl) hM
set_option maxHeartbeats 4000000 in
set_option maxRecDepth 100000 in
theorem kC_Bal_nodesFor {l : Launch} {D : va_G} {a : Nat → Nat} {cA : Nat → ClassId} {A : Nat → Prop} {g : Nat → Nat} {σ : St} {x0 : Int32} {r : Int32} (hM : kM_Bal_nodesFor σ x0 = some r) : Met l y_Bal_nodesFor (.code y_Bal_nodesFor prog_2_method_2_code 4 (some .int) :: AW) krm_Bal_nodesFor (va_Pc [.int x0] (kCP D a cA A g σ)) (kqi D a cA A g r σ) 0 0 A := by
  refine kmet (nL := 4) (by decide) (Nat.le_of_ble_eq_true rfl) (fun S hr hlk hK E ls hl => ?_)
  have hl : lv_has ls 4 [(0, .int x0)] := hl
  unfold kM_Bal_nodesFor at hM
  refine lv_iconst (v := 0) S.1 S.2.1 d_Bal_nodesFor_0 (by decide) ?_
  refine lv_istore_n (lv' := [(1, .int 0), (0, .int x0)]) S.1 S.2.1 d_Bal_nodesFor_1 rfl hl (by decide) rfl (fun ls hl => ?_)
  refine lv_iload_n S.1 S.2.1 d_Bal_nodesFor_2 rfl (lv_at hl 1 rfl) ?_
  refine lv_istore_n (lv' := [(2, .int x0), (1, .int 0), (0, .int x0)]) S.1 S.2.1 d_Bal_nodesFor_3 rfl hl (by decide) rfl (fun ls hl => ?_)
  refine lv_iconst (v := 0) S.1 S.2.1 d_Bal_nodesFor_4 (by decide) ?_
  refine lv_istore_n (lv' := [(3, .int 0), (2, .int x0), (1, .int 0), (0, .int x0)]) S.1 S.2.1 d_Bal_nodesFor_5 rfl hl (by decide) rfl (fun ls hl => ?_)
  exact kB_Bal_nodesFor_6 S hr hlk hK _ _ _ _ _ _ _ E (lv_sub hl [2, 1, 0] rfl) hM
set_option maxHeartbeats 4000000 in
set_option maxRecDepth 100000 in
theorem kC_Order_takenPages {l : Launch} {D : va_G} {a : Nat → Nat} {cA : Nat → ClassId} {A : Nat → Prop} {g : Nat → Nat} {σ σ2 : St} (hM : kM_Order_takenPages σ = some σ2) : Met l y_Order_takenPages (.code y_Order_takenPages prog_7_method_6_code 1 (some (.array .int)) :: AW) krm_Order_takenPages (va_Pc [.ref (a 2)] (kCP D a cA A g σ)) (kqr D a cA A g 16 σ2) 0 0 A := by
  refine kmet (nL := 1) (by decide) (Nat.le_of_ble_eq_true rfl) (fun S hr hlk hK E ls hl => ?_)
  have hl : lv_has ls 1 [(0, .ref (a 2))] := hl
  unfold kM_Order_takenPages at hM
  refine lv_aload_n S.1 S.2.1 d_Order_takenPages_0 rfl (lv_at hl 0 rfl) ?_
  obtain ⟨σ2, h1, hM⟩ := bv_inv hM
  refine kcr_33 (As := []) (rest := []) S hK E (kC_Order_refresh h1) ⟨Nat.le_of_ble_eq_true rfl, Nat.le_of_ble_eq_true rfl⟩ rfl rfl hl.1 (lv_room (Nat.le_of_ble_eq_true rfl)) d_Order_takenPages_1 (fun H locs E => ?_)
  refine lv_aload_n S.1 S.2.1 d_Order_takenPages_4 rfl (lv_at hl 0 rfl) ?_
  refine kgf_Order_9_2 S hK E d_Order_takenPages_5 ?_
  obtain rfl := Option.some.inj hM
  exact kretr S hr hlk hK E d_Order_takenPages_8
set_option maxHeartbeats 4000000 in
set_option maxRecDepth 100000 in
theorem kB_Items_loosenAll_30 {p : Program} {l : Launch} {e : Env} {s : State} {m : MethodId} {args : Array Value} {below : List Frame} {meth : Method} {c : Code} {D : va_G} {a : Nat → Nat} {cA : Nat → ClassId} {A : Nat → Prop} {g : Nat → Nat} {σ2 : St} (S : CallFix p m c prog_3_method_24_code 2 s args AW R_Items) (hr : meth.sig.returnType = none) (hlk : meth.locks = false) (hK : kKX D cA A g s s.heap) : ∀ (σ : St) (H : Heap) (locs : List Loc) (ls : Array Slot), kEx D a cA A σ s.heap H locs → lv_has ls 2 [(0, .ref (a 1))] → kJ_Items_loosenAll_30 σ = some σ2 → W p l e krm_Items_loosenAll s m args below meth c H locs 0 0 (MQ below (kqv D a cA A g σ2) args s 0 0 A) (F0 m 30 ls []) := by
  intro σ H locs ls E hl hM
  unfold kJ_Items_loosenAll_30 at hM
  refine lv_aload_n S.1 S.2.1 d_Items_loosenAll_30 rfl (lv_at hl 0 rfl) ?_
  refine lv_dup S.1 S.2.1 d_Items_loosenAll_31 rfl ?_
  refine kgf_Items_41_1 S hK E d_Items_loosenAll_32 ?_
  refine lv_iconst (v := 1) S.1 S.2.1 d_Items_loosenAll_35 (by decide) ?_
  refine lv_iadd S.1 S.2.1 d_Items_loosenAll_36 ?_
  refine kpf_Items_41_1 S hK E d_Items_loosenAll_37 (fun σ1 eσ1 H locs E => ?_)
  have hM := lq_inv hM σ1 eσ1
  obtain rfl := Option.some.inj hM
  exact kretv S hr hlk hK E d_Items_loosenAll_40
set_option maxHeartbeats 4000000 in
set_option maxRecDepth 100000 in
theorem kB_Items_loosenAll_2 {p : Program} {l : Launch} {e : Env} {s : State} {m : MethodId} {args : Array Value} {below : List Frame} {meth : Method} {c : Code} {D : va_G} {a : Nat → Nat} {cA : Nat → ClassId} {A : Nat → Prop} {g : Nat → Nat} {σ2 : St} (S : CallFix p m c prog_3_method_24_code 2 s args AW R_Items) (hr : meth.sig.returnType = none) (hlk : meth.locks = false) (hK : kKX D cA A g s s.heap) : ∀ (n : Nat) (σ : St) (v1 : Int32) (H : Heap) (locs : List Loc) (ls : Array Slot), kEx D a cA A σ s.heap H locs → lv_has ls 2 [(0, .ref (a 1)), (1, .int v1)] → kL_Items_loosenAll_2 n σ v1 = some σ2 → W p l e krm_Items_loosenAll s m args below meth c H locs 0 0 (MQ below (kqv D a cA A g σ2) args s 0 0 A) (F0 m 2 ls []) := by
  intro n
  induction n with
  | zero =>
    intro σ v1 H locs ls E hl hM
    rw [kL_Items_loosenAll_2] at hM
    cases hM
  | succ n ih =>
    intro σ v1 H locs ls E hl hM
    rw [kL_Items_loosenAll_2] at hM
    refine lv_iload_n S.1 S.2.1 d_Items_loosenAll_2 rfl (lv_at hl 1 rfl) ?_
    refine lv_aload_n S.1 S.2.1 d_Items_loosenAll_3 rfl (lv_at hl 0 rfl) ?_
    refine kgf_Items_37_1 S hK E d_Items_loosenAll_4 ?_
    refine lv_icmp_ge (tgt := 30) S.1 S.2.1 d_Items_loosenAll_7 (by decide) (fun c1 => ?_) (fun c1 => ?_)
    · have hM := ifP hM c1
      exact kB_Items_loosenAll_30 S hr hlk hK _ _ _ _ E (lv_sub hl [0] rfl) hM
    · have hM := ifN hM c1
      refine lv_aload_n S.1 S.2.1 d_Items_loosenAll_10 rfl (lv_at hl 0 rfl) ?_
      refine kgf_Items_15_1 S hK E d_Items_loosenAll_11 ?_
      refine lv_iload_n S.1 S.2.1 d_Items_loosenAll_14 rfl (lv_at hl 1 rfl) ?_
      refine lv_iconst (v := (-1)) S.1 S.2.1 d_Items_loosenAll_15 (by decide) ?_
      obtain ⟨h2, hM⟩ := gd_inv hM
      refine kas_8 S hK E h2 d_Items_loosenAll_16 (fun σ3 eσ3 H locs E => ?_)
      have hM := lq_inv hM σ3 eσ3
      refine lv_aload_n S.1 S.2.1 d_Items_loosenAll_17 rfl (lv_at hl 0 rfl) ?_
      refine kgf_Items_22_1 S hK E d_Items_loosenAll_18 ?_
      refine lv_iload_n S.1 S.2.1 d_Items_loosenAll_21 rfl (lv_at hl 1 rfl) ?_
      refine lv_iconst (v := 0) S.1 S.2.1 d_Items_loosenAll_22 (by decide) ?_
      obtain ⟨h4, hM⟩ := gd_inv hM
      refine kas_10 S hK E h4 d_Items_loosenAll_23 (fun σ5 eσ5 H locs E => ?_)
      have hM := lq_inv hM σ5 eσ5
      obtain ⟨y6, ey6⟩ : ∃ z : Int32, z = v1 + 1 := ⟨_, rfl⟩
      have hM := lq_inv hM y6 ey6
      refine lv_iinc (v := y6) (lv' := [(1, .int y6), (0, .ref (a 1))]) S.1 S.2.1 d_Items_loosenAll_24 hl (k := 1) rfl (by rw [ey6]; rfl) (by decide) rfl (fun ls hl => ?_)
      refine lv_goto (tgt := 2) S.1 S.2.1 d_Items_loosenAll_27 (by decide) ?_
      exact ih _ _ _ _ _ E (lv_sub hl [1, 0] rfl) hM
set_option maxHeartbeats 4000000 in
set_option maxRecDepth 100000 in
theorem kC_Items_loosenAll {l : Launch} {D : va_G} {a : Nat → Nat} {cA : Nat → ClassId} {A : Nat → Prop} {g : Nat → Nat} {σ σ2 : St} (hM : kM_Items_loosenAll σ = some σ2) : Met l y_Items_loosenAll (.code y_Items_loosenAll prog_3_method_24_code 2 none :: AW) krm_Items_loosenAll (va_Pc [.ref (a 1)] (kCP D a cA A g σ)) (kqv D a cA A g σ2) 0 0 A := by
  refine kmet (nL := 2) (by decide) (Nat.le_of_ble_eq_true rfl) (fun S hr hlk hK E ls hl => ?_)
  have hl : lv_has ls 2 [(0, .ref (a 1))] := hl
  unfold kM_Items_loosenAll at hM
  refine lv_iconst (v := 0) S.1 S.2.1 d_Items_loosenAll_0 (by decide) ?_
  refine lv_istore_n (lv' := [(1, .int 0), (0, .ref (a 1))]) S.1 S.2.1 d_Items_loosenAll_1 rfl hl (by decide) rfl (fun ls hl => ?_)
  exact kB_Items_loosenAll_2 S hr hlk hK _ _ _ _ _ _ E (lv_sub hl [1, 0] rfl) hM
set_option maxHeartbeats 4000000 in
set_option maxRecDepth 100000 in
theorem kB_Bal_hang_68 {p : Program} {l : Launch} {e : Env} {s : State} {m : MethodId} {args : Array Value} {below : List Frame} {meth : Method} {c : Code} {D : va_G} {a : Nat → Nat} {cA : Nat → ClassId} {A : Nat → Prop} {g : Nat → Nat} {σ2 : St} (S : CallFix p m c prog_2_method_5_code 7 s args AW R_Bal) (hr : meth.sig.returnType = none) (hlk : meth.locks = false) (hK : kKX D cA A g s s.heap) {k6 : St → Int32 → Int32 → Int32 → Int32 → Option (St)} (hk6 : ∀ (σ : St) (v1 : Int32) (v3 : Int32) (v4 : Int32) (v5 : Int32) (H : Heap) (locs : List Loc) (ls : Array Slot), kEx D a cA A σ s.heap H locs → lv_has ls 7 [(0, .ref (a 4)), (1, .int v1), (3, .int v3), (4, .int v4), (5, .int v5)] → k6 σ v1 v3 v4 v5 = some σ2 → W p l e krm_Bal_hang s m args below meth c H locs 0 0 (MQ below (kqv D a cA A g σ2) args s 0 0 A) (F0 m 6 ls [])) : ∀ (σ : St) (v1 : Int32) (v3 : Int32) (v5 : Int32) (t0 : Int32) (t1 : Int32) (H : Heap) (locs : List Loc) (ls : Array Slot), kEx D a cA A σ s.heap H locs → lv_has ls 7 [(0, .ref (a 4)), (1, .int v1), (3, .int v3), (5, .int v5)] → kJ_Bal_hang_68 k6 σ v1 v3 v5 t0 t1 = some σ2 → W p l e krm_Bal_hang s m args below meth c H locs 0 0 (MQ below (kqv D a cA A g σ2) args s 0 0 A) (F0 m 68 ls [.int t1, .int t0]) := by
  intro σ v1 v3 v5 t0 t1 H locs ls E hl hM
  unfold kJ_Bal_hang_68 at hM
  refine lv_iadd S.1 S.2.1 d_Bal_hang_68 ?_
  refine lv_topi (fun y1 ey1 => ?_)
  have hM := lq_inv hM y1 ey1
  refine lv_istore (lv' := [(4, .int y1), (0, .ref (a 4)), (1, .int v1), (3, .int v3), (5, .int v5)]) S.1 S.2.1 d_Bal_hang_69 hl (by decide) rfl (fun ls hl => ?_)
  obtain ⟨y2, ey2⟩ : ∃ z : Int32, z = v5 + 1 := ⟨_, rfl⟩
  have hM := lq_inv hM y2 ey2
  refine lv_iinc (v := y2) (lv' := [(5, .int y2), (4, .int y1), (0, .ref (a 4)), (1, .int v1), (3, .int v3)]) S.1 S.2.1 d_Bal_hang_71 hl (k := 4) rfl (by rw [ey2]; rfl) (by decide) rfl (fun ls hl => ?_)
  refine lv_goto (tgt := 6) S.1 S.2.1 d_Bal_hang_74 (by decide) ?_
  exact hk6 _ _ _ _ _ _ _ _ E (lv_sub hl [2, 3, 4, 1, 0] rfl) hM
set_option maxHeartbeats 4000000 in
set_option maxRecDepth 100000 in
theorem kB_Bal_hang_77 {p : Program} {l : Launch} {e : Env} {s : State} {m : MethodId} {args : Array Value} {below : List Frame} {meth : Method} {c : Code} {D : va_G} {a : Nat → Nat} {cA : Nat → ClassId} {A : Nat → Prop} {g : Nat → Nat} {σ2 : St} (S : CallFix p m c prog_2_method_5_code 7 s args AW R_Bal) (hr : meth.sig.returnType = none) (hlk : meth.locks = false) (hK : kKX D cA A g s s.heap) : ∀ (σ : St) (v1 : Int32) (v4 : Int32) (H : Heap) (locs : List Loc) (ls : Array Slot), kEx D a cA A σ s.heap H locs → lv_has ls 7 [(0, .ref (a 4)), (1, .int v1), (4, .int v4)] → kJ_Bal_hang_77 σ v1 v4 = some σ2 → W p l e krm_Bal_hang s m args below meth c H locs 0 0 (MQ below (kqv D a cA A g σ2) args s 0 0 A) (F0 m 77 ls []) := by
  intro σ v1 v4 H locs ls E hl hM
  unfold kJ_Bal_hang_77 at hM
  refine lv_aload_n S.1 S.2.1 d_Bal_hang_77 rfl (lv_at hl 0 rfl) ?_
  refine kgf_Bal_15_4 S hK E d_Bal_hang_78 ?_
  refine lv_iload_n S.1 S.2.1 d_Bal_hang_81 rfl (lv_at hl 1 rfl) ?_
  refine lv_iload S.1 S.2.1 d_Bal_hang_82 (lv_at hl 2 rfl) ?_
  obtain ⟨σ2, h1, hM⟩ := bv_inv hM
  refine kcr_90 (As := [.int v1, .int v4]) (rest := []) S hK E (kC_Items_setCount h1) ⟨Nat.le_of_ble_eq_true rfl, Nat.le_of_ble_eq_true rfl⟩ rfl rfl hl.1 (lv_room (Nat.le_of_ble_eq_true rfl)) d_Bal_hang_84 (fun H locs E => ?_)
  obtain rfl := Option.some.inj hM
  exact kretv S hr hlk hK E d_Bal_hang_87
set_option maxHeartbeats 4000000 in
set_option maxRecDepth 100000 in
theorem kB_Bal_hang_6 {p : Program} {l : Launch} {e : Env} {s : State} {m : MethodId} {args : Array Value} {below : List Frame} {meth : Method} {c : Code} {D : va_G} {a : Nat → Nat} {cA : Nat → ClassId} {A : Nat → Prop} {g : Nat → Nat} {σ2 : St} (S : CallFix p m c prog_2_method_5_code 7 s args AW R_Bal) (hr : meth.sig.returnType = none) (hlk : meth.locks = false) (hK : kKX D cA A g s s.heap) : ∀ (n : Nat) (σ : St) (v1 : Int32) (v3 : Int32) (v4 : Int32) (v5 : Int32) (H : Heap) (locs : List Loc) (ls : Array Slot), kEx D a cA A σ s.heap H locs → lv_has ls 7 [(0, .ref (a 4)), (1, .int v1), (3, .int v3), (4, .int v4), (5, .int v5)] → kL_Bal_hang_6 n σ v1 v3 v4 v5 = some σ2 → W p l e krm_Bal_hang s m args below meth c H locs 0 0 (MQ below (kqv D a cA A g σ2) args s 0 0 A) (F0 m 6 ls []) := by
  intro n
  induction n with
  | zero =>
    intro σ v1 v3 v4 v5 H locs ls E hl hM
    rw [kL_Bal_hang_6] at hM
    cases hM
  | succ n ih =>
    intro σ v1 v3 v4 v5 H locs ls E hl hM
    rw [kL_Bal_hang_6] at hM
    refine lv_iload S.1 S.2.1 d_Bal_hang_6 (lv_at hl 4 rfl) ?_
    refine lv_iload_n S.1 S.2.1 d_Bal_hang_8 rfl (lv_at hl 2 rfl) ?_
    refine lv_icmp_ge (tgt := 77) S.1 S.2.1 d_Bal_hang_9 (by decide) (fun c1 => ?_) (fun c1 => ?_)
    · have hM := ifP hM c1
      exact kB_Bal_hang_77 S hr hlk hK _ _ _ _ _ _ E (lv_sub hl [0, 1, 3] rfl) hM
    · have hM := ifN hM c1
      refine lv_aload_n S.1 S.2.1 d_Bal_hang_12 rfl (lv_at hl 0 rfl) ?_
      refine kgf_Bal_9_4 S hK E d_Bal_hang_13 ?_
      refine lv_iload S.1 S.2.1 d_Bal_hang_16 (lv_at hl 4 rfl) ?_
      obtain ⟨h2, hM⟩ := gd_inv hM
      refine kal_26 S hK E h2 d_Bal_hang_18 ?_
      refine lv_topi (fun y3 ey3 => ?_)
      have hM := lq_inv hM y3 ey3
      refine lv_istore (lv' := [(6, .int y3), (0, .ref (a 4)), (1, .int v1), (3, .int v3), (4, .int v4), (5, .int v5)]) S.1 S.2.1 d_Bal_hang_19 hl (by decide) rfl (fun ls hl => ?_)
      refine lv_aload_n S.1 S.2.1 d_Bal_hang_21 rfl (lv_at hl 1 rfl) ?_
      refine kgf_Bal_15_4 S hK E d_Bal_hang_22 ?_
      refine lv_iload_n S.1 S.2.1 d_Bal_hang_25 rfl (lv_at hl 2 rfl) ?_
      refine lv_iload S.1 S.2.1 d_Bal_hang_26 (lv_at hl 0 rfl) ?_
      obtain ⟨σ5, h4, hM⟩ := bv_inv hM
      refine kcr_91 (As := [.int v1, .int y3]) (rest := []) S hK E (kC_Items_appendKid h4) ⟨Nat.le_of_ble_eq_true rfl, Nat.le_of_ble_eq_true rfl⟩ rfl rfl hl.1 (lv_room (Nat.le_of_ble_eq_true rfl)) d_Bal_hang_28 (fun H locs E => ?_)
      refine lv_aload_n S.1 S.2.1 d_Bal_hang_31 rfl (lv_at hl 1 rfl) ?_
      refine kgf_Bal_15_4 S hK E d_Bal_hang_32 ?_
      refine lv_iload S.1 S.2.1 d_Bal_hang_35 (lv_at hl 0 rfl) ?_
      refine lv_iload_n S.1 S.2.1 d_Bal_hang_37 rfl (lv_at hl 2 rfl) ?_
      obtain ⟨σ7, h6, hM⟩ := bv_inv hM
      refine kcr_92 (As := [.int y3, .int v1]) (rest := []) S hK E (kC_Items_setParent h6) ⟨Nat.le_of_ble_eq_true rfl, Nat.le_of_ble_eq_true rfl⟩ rfl rfl hl.1 (lv_room (Nat.le_of_ble_eq_true rfl)) d_Bal_hang_38 (fun H locs E => ?_)
      refine lv_iload S.1 S.2.1 d_Bal_hang_41 (lv_at hl 4 rfl) ?_
      refine lv_aload_n S.1 S.2.1 d_Bal_hang_43 rfl (lv_at hl 1 rfl) ?_
      refine kgf_Bal_15_4 S hK E d_Bal_hang_44 ?_
      refine lv_iload S.1 S.2.1 d_Bal_hang_47 (lv_at hl 0 rfl) ?_
      obtain ⟨r9, h8, hM⟩ := br_inv hM
      refine kcr_93 (As := [.int y3]) (rest := [.int v4]) S hK E (kC_Items_isPage h8) ⟨Nat.le_of_ble_eq_true rfl, Nat.le_of_ble_eq_true rfl⟩ rfl rfl hl.1 (lv_room (Nat.le_of_ble_eq_true rfl)) d_Bal_hang_49 (fun H locs E => ?_)
      refine lv_if_eq (tgt := 59) S.1 S.2.1 d_Bal_hang_52 (by decide) (fun c10 => ?_) (fun c10 => ?_)
      · have hM := ifP hM c10
        refine lv_aload_n S.1 S.2.1 d_Bal_hang_59 rfl (lv_at hl 1 rfl) ?_
        refine kgf_Bal_15_4 S hK E d_Bal_hang_60 ?_
        refine lv_iload S.1 S.2.1 d_Bal_hang_63 (lv_at hl 0 rfl) ?_
        obtain ⟨r12, h11, hM⟩ := br_inv hM
        refine kcr_94 (As := [.int y3]) (rest := [.int v4]) S hK E (kC_Items_countOf h11) ⟨Nat.le_of_ble_eq_true rfl, Nat.le_of_ble_eq_true rfl⟩ rfl rfl hl.1 (lv_room (Nat.le_of_ble_eq_true rfl)) d_Bal_hang_65 (fun H locs E => ?_)
        exact kB_Bal_hang_68 S hr hlk hK ih _ _ _ _ _ _ _ _ _ E (lv_sub hl [1, 2, 3, 5] rfl) hM
      · have hM := ifN hM c10
        refine lv_iconst (v := 1) S.1 S.2.1 d_Bal_hang_55 (by decide) ?_
        refine lv_goto (tgt := 68) S.1 S.2.1 d_Bal_hang_56 (by decide) ?_
        exact kB_Bal_hang_68 S hr hlk hK ih _ _ _ _ _ _ _ _ _ E (lv_sub hl [1, 2, 3, 5] rfl) hM
set_option maxHeartbeats 4000000 in
set_option maxRecDepth 100000 in
theorem kC_Bal_hang {l : Launch} {D : va_G} {a : Nat → Nat} {cA : Nat → ClassId} {A : Nat → Prop} {g : Nat → Nat} {σ σ2 : St} {x1 : Int32} {x2 : Int32} {x3 : Int32} (hM : kM_Bal_hang σ x1 x2 x3 = some σ2) : Met l y_Bal_hang (.code y_Bal_hang prog_2_method_5_code 7 none :: AW) krm_Bal_hang (va_Pc [.ref (a 4), .int x1, .int x2, .int x3] (kCP D a cA A g σ)) (kqv D a cA A g σ2) 0 0 A := by
  refine kmet (nL := 7) (by decide) (Nat.le_of_ble_eq_true rfl) (fun S hr hlk hK E ls hl => ?_)
  have hl : lv_has ls 7 [(0, .ref (a 4)), (1, .int x1), (2, .int x2), (3, .int x3)] := hl
  unfold kM_Bal_hang at hM
  refine lv_iconst (v := 0) S.1 S.2.1 d_Bal_hang_0 (by decide) ?_
  refine lv_istore (lv' := [(4, .int 0), (0, .ref (a 4)), (1, .int x1), (2, .int x2), (3, .int x3)]) S.1 S.2.1 d_Bal_hang_1 hl (by decide) rfl (fun ls hl => ?_)
  refine lv_iload_n S.1 S.2.1 d_Bal_hang_3 rfl (lv_at hl 3 rfl) ?_
  refine lv_istore (lv' := [(5, .int x2), (4, .int 0), (0, .ref (a 4)), (1, .int x1), (2, .int x2), (3, .int x3)]) S.1 S.2.1 d_Bal_hang_4 hl (by decide) rfl (fun ls hl => ?_)
  exact kB_Bal_hang_6 S hr hlk hK _ _ _ _ _ _ _ _ _ E (lv_sub hl [2, 3, 5, 1, 0] rfl) hM
set_option maxHeartbeats 4000000 in
set_option maxRecDepth 100000 in
theorem kB_Bal_raiseRow_55 {p : Program} {l : Launch} {e : Env} {s : State} {m : MethodId} {args : Array Value} {below : List Frame} {meth : Method} {c : Code} {D : va_G} {a : Nat → Nat} {cA : Nat → ClassId} {A : Nat → Prop} {g : Nat → Nat} {σ2 : St} (S : CallFix p m c prog_2_method_4_code 4 s args AW R_Bal) (hr : meth.sig.returnType = none) (hlk : meth.locks = false) (hK : kKX D cA A g s s.heap) : ∀ (σ : St) (v1 : Int32) (H : Heap) (locs : List Loc) (ls : Array Slot), kEx D a cA A σ s.heap H locs → lv_has ls 4 [(0, .ref (a 4)), (1, .int v1)] → kJ_Bal_raiseRow_55 σ v1 = some σ2 → W p l e krm_Bal_raiseRow s m args below meth c H locs 0 0 (MQ below (kqv D a cA A g σ2) args s 0 0 A) (F0 m 55 ls []) := by
  intro σ v1 H locs ls E hl hM
  unfold kJ_Bal_raiseRow_55 at hM
  refine lv_aload_n S.1 S.2.1 d_Bal_raiseRow_55 rfl (lv_at hl 0 rfl) ?_
  refine lv_iload_n S.1 S.2.1 d_Bal_raiseRow_56 rfl (lv_at hl 1 rfl) ?_
  refine kpf_Bal_25_4 S hK E d_Bal_raiseRow_57 (fun σ1 eσ1 H locs E => ?_)
  have hM := lq_inv hM σ1 eσ1
  obtain rfl := Option.some.inj hM
  exact kretv S hr hlk hK E d_Bal_raiseRow_60
set_option maxHeartbeats 4000000 in
set_option maxRecDepth 100000 in
theorem kB_Bal_raiseRow_4 {p : Program} {l : Launch} {e : Env} {s : State} {m : MethodId} {args : Array Value} {below : List Frame} {meth : Method} {c : Code} {D : va_G} {a : Nat → Nat} {cA : Nat → ClassId} {A : Nat → Prop} {g : Nat → Nat} {σ2 : St} (S : CallFix p m c prog_2_method_4_code 4 s args AW R_Bal) (hr : meth.sig.returnType = none) (hlk : meth.locks = false) (hK : kKX D cA A g s s.heap) : ∀ (n : Nat) (σ : St) (v1 : Int32) (v2 : Int32) (H : Heap) (locs : List Loc) (ls : Array Slot), kEx D a cA A σ s.heap H locs → lv_has ls 4 [(0, .ref (a 4)), (1, .int v1), (2, .int v2)] → kL_Bal_raiseRow_4 n σ v1 v2 = some σ2 → W p l e krm_Bal_raiseRow s m args below meth c H locs 0 0 (MQ below (kqv D a cA A g σ2) args s 0 0 A) (F0 m 4 ls []) := by
  intro n
  induction n with
  | zero =>
    intro σ v1 v2 H locs ls E hl hM
    rw [kL_Bal_raiseRow_4] at hM
    cases hM
  | succ n ih =>
    intro σ v1 v2 H locs ls E hl hM
    rw [kL_Bal_raiseRow_4] at hM
    refine lv_iload_n S.1 S.2.1 d_Bal_raiseRow_4 rfl (lv_at hl 2 rfl) ?_
    refine lv_aload_n S.1 S.2.1 d_Bal_raiseRow_5 rfl (lv_at hl 0 rfl) ?_
    refine kgf_Bal_25_4 S hK E d_Bal_raiseRow_6 ?_
    refine lv_icmp_ge (tgt := 55) S.1 S.2.1 d_Bal_raiseRow_9 (by decide) (fun c1 => ?_) (fun c1 => ?_)
    · have hM := ifP hM c1
      exact kB_Bal_raiseRow_55 S hr hlk hK _ _ _ _ _ E (lv_sub hl [0, 1] rfl) hM
    · have hM := ifN hM c1
      refine lv_aload_n S.1 S.2.1 d_Bal_raiseRow_12 rfl (lv_at hl 0 rfl) ?_
      refine kgf_Bal_15_4 S hK E d_Bal_raiseRow_13 ?_
      refine lv_iconst (v := 0) S.1 S.2.1 d_Bal_raiseRow_16 (by decide) ?_
      refine lv_iconst (v := (-1)) S.1 S.2.1 d_Bal_raiseRow_17 (by decide) ?_
      refine lv_iconst (v := 0) S.1 S.2.1 d_Bal_raiseRow_18 (by decide) ?_
      obtain ⟨r3, σ4, h2, hM⟩ := bd_inv hM
      refine kcr_95 (As := [.int 0, .int (-1), .int 0]) (rest := []) S hK E (kC_Items_add h2) ⟨Nat.le_of_ble_eq_true rfl, Nat.le_of_ble_eq_true rfl⟩ rfl rfl hl.1 (lv_room (Nat.le_of_ble_eq_true rfl)) d_Bal_raiseRow_19 (fun H locs E => ?_)
      refine lv_istore_n (lv' := [(3, .int r3), (0, .ref (a 4)), (1, .int v1), (2, .int v2)]) S.1 S.2.1 d_Bal_raiseRow_22 rfl hl (by decide) rfl (fun ls hl => ?_)
      refine lv_aload_n S.1 S.2.1 d_Bal_raiseRow_23 rfl (lv_at hl 1 rfl) ?_
      refine lv_iload_n S.1 S.2.1 d_Bal_raiseRow_24 rfl (lv_at hl 0 rfl) ?_
      refine lv_iload_n S.1 S.2.1 d_Bal_raiseRow_25 rfl (lv_at hl 3 rfl) ?_
      refine lv_iload_n S.1 S.2.1 d_Bal_raiseRow_26 rfl (lv_at hl 3 rfl) ?_
      refine lv_iconst (v := 4) S.1 S.2.1 d_Bal_raiseRow_27 (by decide) ?_
      refine lv_iadd S.1 S.2.1 d_Bal_raiseRow_28 ?_
      refine lv_aload_n S.1 S.2.1 d_Bal_raiseRow_29 rfl (lv_at hl 1 rfl) ?_
      refine kgf_Bal_25_4 S hK E d_Bal_raiseRow_30 ?_
      refine va_mmin S.1 S.2.1 (S.2.2.1.trans hl.1.symm) S.2.2.2.1 (S.2.2.2.2 _ aw658) (S.2.2.2.2 _ aw659) (S.2.2.2.2 _ aw15) (S.2.2.2.2 _ aw660) (Nat.le_of_ble_eq_true rfl) (Nat.le_of_ble_eq_true rfl) (Nat.zero_le _) (Nat.zero_le _) d_Bal_raiseRow_33 ?_
      obtain ⟨σ6, h5, hM⟩ := bv_inv hM
      refine kcr_96 (As := [.int r3, .int v2, .int (if (σ4 34 0) < (v2 + 4) then (σ4 34 0) else (v2 + 4))]) (rest := []) S hK E (kC_Bal_hang h5) ⟨Nat.le_of_ble_eq_true rfl, Nat.le_of_ble_eq_true rfl⟩ rfl rfl hl.1 (lv_room (Nat.le_of_ble_eq_true rfl)) d_Bal_raiseRow_36 (fun H locs E => ?_)
      refine lv_aload_n S.1 S.2.1 d_Bal_raiseRow_39 rfl (lv_at hl 1 rfl) ?_
      refine kgf_Bal_9_4 S hK E d_Bal_raiseRow_40 ?_
      refine lv_iload_n S.1 S.2.1 d_Bal_raiseRow_43 rfl (lv_at hl 2 rfl) ?_
      refine lv_iload_n S.1 S.2.1 d_Bal_raiseRow_44 rfl (lv_at hl 0 rfl) ?_
      obtain ⟨h7, hM⟩ := gd_inv hM
      refine kas_26 S hK E h7 d_Bal_raiseRow_45 (fun σ8 eσ8 H locs E => ?_)
      have hM := lq_inv hM σ8 eσ8
      obtain ⟨y9, ey9⟩ : ∃ z : Int32, z = v1 + 1 := ⟨_, rfl⟩
      have hM := lq_inv hM y9 ey9
      refine lv_iinc (v := y9) (lv' := [(1, .int y9), (3, .int r3), (0, .ref (a 4)), (2, .int v2)]) S.1 S.2.1 d_Bal_raiseRow_46 hl (k := 2) rfl (by rw [ey9]; rfl) (by decide) rfl (fun ls hl => ?_)
      obtain ⟨y10, ey10⟩ : ∃ z : Int32, z = v2 + 4 := ⟨_, rfl⟩
      have hM := lq_inv hM y10 ey10
      refine lv_iinc (v := y10) (lv' := [(2, .int y10), (1, .int y9), (3, .int r3), (0, .ref (a 4))]) S.1 S.2.1 d_Bal_raiseRow_49 hl (k := 3) rfl (by rw [ey10]; rfl) (by decide) rfl (fun ls hl => ?_)
      refine lv_goto (tgt := 4) S.1 S.2.1 d_Bal_raiseRow_52 (by decide) ?_
      exact ih _ _ _ _ _ _ E (lv_sub hl [3, 1, 0] rfl) hM
set_option maxHeartbeats 4000000 in
set_option maxRecDepth 100000 in
theorem kC_Bal_raiseRow {l : Launch} {D : va_G} {a : Nat → Nat} {cA : Nat → ClassId} {A : Nat → Prop} {g : Nat → Nat} {σ σ2 : St} (hM : kM_Bal_raiseRow σ = some σ2) : Met l y_Bal_raiseRow (.code y_Bal_raiseRow prog_2_method_4_code 4 none :: AW) krm_Bal_raiseRow (va_Pc [.ref (a 4)] (kCP D a cA A g σ)) (kqv D a cA A g σ2) 0 0 A := by
  refine kmet (nL := 4) (by decide) (Nat.le_of_ble_eq_true rfl) (fun S hr hlk hK E ls hl => ?_)
  have hl : lv_has ls 4 [(0, .ref (a 4))] := hl
  unfold kM_Bal_raiseRow at hM
  refine lv_iconst (v := 0) S.1 S.2.1 d_Bal_raiseRow_0 (by decide) ?_
  refine lv_istore_n (lv' := [(1, .int 0), (0, .ref (a 4))]) S.1 S.2.1 d_Bal_raiseRow_1 rfl hl (by decide) rfl (fun ls hl => ?_)
  refine lv_iconst (v := 0) S.1 S.2.1 d_Bal_raiseRow_2 (by decide) ?_
  refine lv_istore_n (lv' := [(2, .int 0), (1, .int 0), (0, .ref (a 4))]) S.1 S.2.1 d_Bal_raiseRow_3 rfl hl (by decide) rfl (fun ls hl => ?_)
  exact kB_Bal_raiseRow_4 S hr hlk hK _ _ _ _ _ _ _ E (lv_sub hl [2, 1, 0] rfl) hM
set_option maxHeartbeats 4000000 in
set_option maxRecDepth 100000 in
theorem kB_Bal_build_88 {p : Program} {l : Launch} {e : Env} {s : State} {m : MethodId} {args : Array Value} {below : List Frame} {meth : Method} {c : Code} {D : va_G} {a : Nat → Nat} {cA : Nat → ClassId} {A : Nat → Prop} {g : Nat → Nat} {σ2 : St} (S : CallFix p m c prog_2_method_3_code 4 s args AW R_Bal) (hr : meth.sig.returnType = none) (hlk : meth.locks = false) (hK : kKX D cA A g s s.heap) : ∀ (σ : St) (H : Heap) (locs : List Loc) (ls : Array Slot), kEx D a cA A σ s.heap H locs → lv_has ls 4 [(0, .ref (a 4))] → kJ_Bal_build_88 σ = some σ2 → W p l e krm_Bal_build s m args below meth c H locs 0 0 (MQ below (kqv D a cA A g σ2) args s 0 0 A) (F0 m 88 ls []) := by
  intro σ H locs ls E hl hM
  unfold kJ_Bal_build_88 at hM
  refine lv_aload_n S.1 S.2.1 d_Bal_build_88 rfl (lv_at hl 0 rfl) ?_
  refine lv_iconst (v := 0) S.1 S.2.1 d_Bal_build_89 (by decide) ?_
  refine lv_iconst (v := 0) S.1 S.2.1 d_Bal_build_90 (by decide) ?_
  refine lv_aload_n S.1 S.2.1 d_Bal_build_91 rfl (lv_at hl 0 rfl) ?_
  refine kgf_Bal_25_4 S hK E d_Bal_build_92 ?_
  obtain ⟨σ2, h1, hM⟩ := bv_inv hM
  refine kcr_96 (As := [.int 0, .int 0, .int (σ 34 0)]) (rest := []) S hK E (kC_Bal_hang h1) ⟨Nat.le_of_ble_eq_true rfl, Nat.le_of_ble_eq_true rfl⟩ rfl rfl hl.1 (lv_room (Nat.le_of_ble_eq_true rfl)) d_Bal_build_95 (fun H locs E => ?_)
  obtain rfl := Option.some.inj hM
  exact kretv S hr hlk hK E d_Bal_build_98
set_option maxHeartbeats 4000000 in
set_option maxRecDepth 100000 in
theorem kB_Bal_build_63 {p : Program} {l : Launch} {e : Env} {s : State} {m : MethodId} {args : Array Value} {below : List Frame} {meth : Method} {c : Code} {D : va_G} {a : Nat → Nat} {cA : Nat → ClassId} {A : Nat → Prop} {g : Nat → Nat} {σ2 : St} (S : CallFix p m c prog_2_method_3_code 4 s args AW R_Bal) (hr : meth.sig.returnType = none) (hlk : meth.locks = false) (hK : kKX D cA A g s s.heap) : ∀ (n : Nat) (σ : St) (v3 : Int32) (H : Heap) (locs : List Loc) (ls : Array Slot), kEx D a cA A σ s.heap H locs → lv_has ls 4 [(0, .ref (a 4)), (3, .int v3)] → kL_Bal_build_63 n σ v3 = some σ2 → W p l e krm_Bal_build s m args below meth c H locs 0 0 (MQ below (kqv D a cA A g σ2) args s 0 0 A) (F0 m 63 ls []) := by
  intro n
  induction n with
  | zero =>
    intro σ v3 H locs ls E hl hM
    rw [kL_Bal_build_63] at hM
    cases hM
  | succ n ih =>
    intro σ v3 H locs ls E hl hM
    rw [kL_Bal_build_63] at hM
    refine lv_iload_n S.1 S.2.1 d_Bal_build_63 rfl (lv_at hl 1 rfl) ?_
    refine lv_sipush (v := 200) S.1 S.2.1 d_Bal_build_64 (by decide) ?_
    refine lv_icmp_ge (tgt := 88) S.1 S.2.1 d_Bal_build_67 (by decide) (fun c1 => ?_) (fun c1 => ?_)
    · have hM := ifP hM c1
      exact kB_Bal_build_88 S hr hlk hK _ _ _ _ E (lv_sub hl [0] rfl) hM
    · have hM := ifN hM c1
      refine lv_aload_n S.1 S.2.1 d_Bal_build_70 rfl (lv_at hl 0 rfl) ?_
      refine kgf_Bal_25_4 S hK E d_Bal_build_71 ?_
      refine lv_iconst (v := 4) S.1 S.2.1 d_Bal_build_74 (by decide) ?_
      refine lv_icmp_le (tgt := 88) S.1 S.2.1 d_Bal_build_75 (by decide) (fun c2 => ?_) (fun c2 => ?_)
      · have hM := ifP hM c2
        exact kB_Bal_build_88 S hr hlk hK _ _ _ _ E (lv_sub hl [0] rfl) hM
      · have hM := ifN hM c2
        refine lv_aload_n S.1 S.2.1 d_Bal_build_78 rfl (lv_at hl 0 rfl) ?_
        obtain ⟨σ4, h3, hM⟩ := bv_inv hM
        refine kcr_97 (As := []) (rest := []) S hK E (kC_Bal_raiseRow h3) ⟨Nat.le_of_ble_eq_true rfl, Nat.le_of_ble_eq_true rfl⟩ rfl rfl hl.1 (lv_room (Nat.le_of_ble_eq_true rfl)) d_Bal_build_79 (fun H locs E => ?_)
        obtain ⟨y5, ey5⟩ : ∃ z : Int32, z = v3 + 1 := ⟨_, rfl⟩
        have hM := lq_inv hM y5 ey5
        refine lv_iinc (v := y5) (lv' := [(3, .int y5), (0, .ref (a 4))]) S.1 S.2.1 d_Bal_build_82 hl (k := 1) rfl (by rw [ey5]; rfl) (by decide) rfl (fun ls hl => ?_)
        refine lv_goto (tgt := 63) S.1 S.2.1 d_Bal_build_85 (by decide) ?_
        exact ih _ _ _ _ _ E (lv_sub hl [1, 0] rfl) hM
set_option maxHeartbeats 4000000 in
set_option maxRecDepth 100000 in
theorem kB_Bal_build_54 {p : Program} {l : Launch} {e : Env} {s : State} {m : MethodId} {args : Array Value} {below : List Frame} {meth : Method} {c : Code} {D : va_G} {a : Nat → Nat} {cA : Nat → ClassId} {A : Nat → Prop} {g : Nat → Nat} {σ2 : St} (S : CallFix p m c prog_2_method_3_code 4 s args AW R_Bal) (hr : meth.sig.returnType = none) (hlk : meth.locks = false) (hK : kKX D cA A g s s.heap) : ∀ (σ : St) (H : Heap) (locs : List Loc) (ls : Array Slot), kEx D a cA A σ s.heap H locs → lv_has ls 4 [(0, .ref (a 4))] → kJ_Bal_build_54 σ = some σ2 → W p l e krm_Bal_build s m args below meth c H locs 0 0 (MQ below (kqv D a cA A g σ2) args s 0 0 A) (F0 m 54 ls []) := by
  intro σ H locs ls E hl hM
  unfold kJ_Bal_build_54 at hM
  refine lv_aload_n S.1 S.2.1 d_Bal_build_54 rfl (lv_at hl 0 rfl) ?_
  refine kgf_Bal_15_4 S hK E d_Bal_build_55 ?_
  obtain ⟨σ2, h1, hM⟩ := bv_inv hM
  refine kcr_98 (As := []) (rest := []) S hK E (kC_Items_loosenAll h1) ⟨Nat.le_of_ble_eq_true rfl, Nat.le_of_ble_eq_true rfl⟩ rfl rfl hl.1 (lv_room (Nat.le_of_ble_eq_true rfl)) d_Bal_build_58 (fun H locs E => ?_)
  refine lv_iconst (v := 0) S.1 S.2.1 d_Bal_build_61 (by decide) ?_
  refine lv_istore_n (lv' := [(3, .int 0), (0, .ref (a 4))]) S.1 S.2.1 d_Bal_build_62 rfl hl (by decide) rfl (fun ls hl => ?_)
  exact kB_Bal_build_63 S hr hlk hK _ _ _ _ _ _ E (lv_sub hl [1, 0] rfl) hM
set_option maxHeartbeats 4000000 in
set_option maxRecDepth 100000 in
theorem kB_Bal_build_18 {p : Program} {l : Launch} {e : Env} {s : State} {m : MethodId} {args : Array Value} {below : List Frame} {meth : Method} {c : Code} {D : va_G} {a : Nat → Nat} {cA : Nat → ClassId} {A : Nat → Prop} {g : Nat → Nat} {σ2 : St} (S : CallFix p m c prog_2_method_3_code 4 s args AW R_Bal) (hr : meth.sig.returnType = none) (hlk : meth.locks = false) (hK : kKX D cA A g s s.heap) : ∀ (n : Nat) (σ : St) (v3 : Int32) (H : Heap) (locs : List Loc) (ls : Array Slot), kEx D a cA A σ s.heap H locs → lv_has ls 4 [(0, .ref (a 4)), (1, .ref (a 16)), (3, .int v3)] → kL_Bal_build_18 n σ v3 = some σ2 → W p l e krm_Bal_build s m args below meth c H locs 0 0 (MQ below (kqv D a cA A g σ2) args s 0 0 A) (F0 m 18 ls []) := by
  intro n
  induction n with
  | zero =>
    intro σ v3 H locs ls E hl hM
    rw [kL_Bal_build_18] at hM
    cases hM
  | succ n ih =>
    intro σ v3 H locs ls E hl hM
    rw [kL_Bal_build_18] at hM
    refine lv_iload_n S.1 S.2.1 d_Bal_build_18 rfl (lv_at hl 2 rfl) ?_
    refine lv_aload_n S.1 S.2.1 d_Bal_build_19 rfl (lv_at hl 0 rfl) ?_
    refine kgf_Bal_25_4 S hK E d_Bal_build_20 ?_
    refine lv_icmp_ge (tgt := 54) S.1 S.2.1 d_Bal_build_23 (by decide) (fun c1 => ?_) (fun c1 => ?_)
    · have hM := ifP hM c1
      exact kB_Bal_build_54 S hr hlk hK _ _ _ _ E (lv_sub hl [0] rfl) hM
    · have hM := ifN hM c1
      refine lv_aload_n S.1 S.2.1 d_Bal_build_26 rfl (lv_at hl 0 rfl) ?_
      refine kgf_Bal_9_4 S hK E d_Bal_build_27 ?_
      refine lv_iload_n S.1 S.2.1 d_Bal_build_30 rfl (lv_at hl 2 rfl) ?_
      refine lv_aload_n S.1 S.2.1 d_Bal_build_31 rfl (lv_at hl 1 rfl) ?_
      refine lv_iload_n S.1 S.2.1 d_Bal_build_32 rfl (lv_at hl 2 rfl) ?_
      obtain ⟨h2, hM⟩ := gd_inv hM
      refine kal_16 S hK E h2 d_Bal_build_33 ?_
      obtain ⟨h3, hM⟩ := gd_inv hM
      refine kas_26 S hK E h3 d_Bal_build_34 (fun σ4 eσ4 H locs E => ?_)
      have hM := lq_inv hM σ4 eσ4
      refine lv_aload_n S.1 S.2.1 d_Bal_build_35 rfl (lv_at hl 0 rfl) ?_
      refine kgf_Bal_15_4 S hK E d_Bal_build_36 ?_
      refine lv_aload_n S.1 S.2.1 d_Bal_build_39 rfl (lv_at hl 1 rfl) ?_
      refine lv_iload_n S.1 S.2.1 d_Bal_build_40 rfl (lv_at hl 2 rfl) ?_
      obtain ⟨h5, hM⟩ := gd_inv hM
      refine kal_16 S hK E h5 d_Bal_build_41 ?_
      refine lv_aload_n S.1 S.2.1 d_Bal_build_42 rfl (lv_at hl 1 rfl) ?_
      refine lv_iload_n S.1 S.2.1 d_Bal_build_43 rfl (lv_at hl 2 rfl) ?_
      obtain ⟨h6, hM⟩ := gd_inv hM
      refine kal_16 S hK E h6 d_Bal_build_44 ?_
      obtain ⟨σ8, h7, hM⟩ := bv_inv hM
      refine kcr_99 (As := [.int (σ4 9 v3.toNatClampNeg), .int (σ4 9 v3.toNatClampNeg)]) (rest := []) S hK E (kC_Items_ownValuesOf h7) ⟨Nat.le_of_ble_eq_true rfl, Nat.le_of_ble_eq_true rfl⟩ rfl rfl hl.1 (lv_room (Nat.le_of_ble_eq_true rfl)) d_Bal_build_45 (fun H locs E => ?_)
      obtain ⟨y9, ey9⟩ : ∃ z : Int32, z = v3 + 1 := ⟨_, rfl⟩
      have hM := lq_inv hM y9 ey9
      refine lv_iinc (v := y9) (lv' := [(3, .int y9), (0, .ref (a 4)), (1, .ref (a 16))]) S.1 S.2.1 d_Bal_build_48 hl (k := 2) rfl (by rw [ey9]; rfl) (by decide) rfl (fun ls hl => ?_)
      refine lv_goto (tgt := 18) S.1 S.2.1 d_Bal_build_51 (by decide) ?_
      exact ih _ _ _ _ _ E (lv_sub hl [1, 2, 0] rfl) hM
set_option maxHeartbeats 4000000 in
set_option maxRecDepth 100000 in
theorem kC_Bal_build {l : Launch} {D : va_G} {a : Nat → Nat} {cA : Nat → ClassId} {A : Nat → Prop} {g : Nat → Nat} {σ σ2 : St} {x2 : Int32} (hM : kM_Bal_build σ x2 = some σ2) : Met l y_Bal_build (.code y_Bal_build prog_2_method_3_code 4 none :: AW) krm_Bal_build (va_Pc [.ref (a 4), .ref (a 16), .int x2] (kCP D a cA A g σ)) (kqv D a cA A g σ2) 0 0 A := by
  refine kmet (nL := 4) (by decide) (Nat.le_of_ble_eq_true rfl) (fun S hr hlk hK E ls hl => ?_)
  have hl : lv_has ls 4 [(0, .ref (a 4)), (1, .ref (a 16)), (2, .int x2)] := hl
  unfold kM_Bal_build at hM
  refine lv_aload_n S.1 S.2.1 d_Bal_build_0 rfl (lv_at hl 0 rfl) ?_
  refine lv_iload_n S.1 S.2.1 d_Bal_build_1 rfl (lv_at hl 2 rfl) ?_
  refine lv_aload_n S.1 S.2.1 d_Bal_build_2 rfl (lv_at hl 1 rfl) ?_
  refine kln_16 S hK E d_Bal_build_3 ?_
  refine lv_sipush (v := 200) S.1 S.2.1 d_Bal_build_4 (by decide) ?_
  refine va_mmin S.1 S.2.1 (S.2.2.1.trans hl.1.symm) S.2.2.2.1 (S.2.2.2.2 _ aw658) (S.2.2.2.2 _ aw659) (S.2.2.2.2 _ aw15) (S.2.2.2.2 _ aw660) (Nat.le_of_ble_eq_true rfl) (Nat.le_of_ble_eq_true rfl) (Nat.zero_le _) (Nat.zero_le _) d_Bal_build_7 ?_
  refine va_mmin S.1 S.2.1 (S.2.2.1.trans hl.1.symm) S.2.2.2.1 (S.2.2.2.2 _ aw658) (S.2.2.2.2 _ aw659) (S.2.2.2.2 _ aw15) (S.2.2.2.2 _ aw660) (Nat.le_of_ble_eq_true rfl) (Nat.le_of_ble_eq_true rfl) (Nat.zero_le _) (Nat.zero_le _) d_Bal_build_10 ?_
  refine kpf_Bal_25_4 S hK E d_Bal_build_13 (fun σ1 eσ1 H locs E => ?_)
  have hM := lq_inv hM σ1 eσ1
  refine lv_iconst (v := 0) S.1 S.2.1 d_Bal_build_16 (by decide) ?_
  refine lv_istore_n (lv' := [(3, .int 0), (0, .ref (a 4)), (1, .ref (a 16)), (2, .int x2)]) S.1 S.2.1 d_Bal_build_17 rfl hl (by decide) rfl (fun ls hl => ?_)
  exact kB_Bal_build_18 S hr hlk hK _ _ _ _ _ _ E (lv_sub hl [1, 2, 0] rfl) hM
set_option maxHeartbeats 4000000 in
set_option maxRecDepth 100000 in
theorem kC_PT_balance {l : Launch} {D : va_G} {a : Nat → Nat} {cA : Nat → ClassId} {A : Nat → Prop} {g : Nat → Nat} {σ σ2 : St} {r : Int32} (hM : kM_PT_balance σ = some (r, σ2)) : Met l y_PT_balance (.code y_PT_balance prog_1_method_22_code 3 (some .int) :: AW) krm_PT_balance (va_Pc [.ref (a 0)] (kCP D a cA A g σ)) (kqi D a cA A g r σ2) 0 0 A := by
  refine kmet (nL := 3) (by decide) (Nat.le_of_ble_eq_true rfl) (fun S hr hlk hK E ls hl => ?_)
  have hl : lv_has ls 3 [(0, .ref (a 0))] := hl
  unfold kM_PT_balance at hM
  refine lv_aload_n S.1 S.2.1 d_PT_balance_0 rfl (lv_at hl 0 rfl) ?_
  refine kgf_PT_21_0 S hK E d_PT_balance_1 ?_
  obtain ⟨r2, σ3, h1, hM⟩ := bd_inv hM
  refine kcr_34 (As := []) (rest := []) S hK E (kC_Order_size h1) ⟨Nat.le_of_ble_eq_true rfl, Nat.le_of_ble_eq_true rfl⟩ rfl rfl hl.1 (lv_room (Nat.le_of_ble_eq_true rfl)) d_PT_balance_4 (fun H locs E => ?_)
  refine lv_istore_n (lv' := [(1, .int r2), (0, .ref (a 0))]) S.1 S.2.1 d_PT_balance_7 rfl hl (by decide) rfl (fun ls hl => ?_)
  refine lv_iload_n S.1 S.2.1 d_PT_balance_8 rfl (lv_at hl 0 rfl) ?_
  refine lv_if_ne (tgt := 15) S.1 S.2.1 d_PT_balance_9 (by decide) (fun c4 => ?_) (fun c4 => ?_)
  · have hM := ifN hM c4
    refine lv_iload_n S.1 S.2.1 d_PT_balance_15 rfl (lv_at hl 0 rfl) ?_
    obtain ⟨r6, h5, hM⟩ := br_inv hM
    refine kcr_100 (As := [.int r2]) (rest := []) S hK E (kC_Bal_nodesFor h5) ⟨Nat.le_of_ble_eq_true rfl, Nat.le_of_ble_eq_true rfl⟩ rfl rfl hl.1 (lv_room (Nat.le_of_ble_eq_true rfl)) d_PT_balance_16 (fun H locs E => ?_)
    refine lv_istore_n (lv' := [(2, .int r6), (1, .int r2), (0, .ref (a 0))]) S.1 S.2.1 d_PT_balance_19 rfl hl (by decide) rfl (fun ls hl => ?_)
    refine lv_aload_n S.1 S.2.1 d_PT_balance_20 rfl (lv_at hl 2 rfl) ?_
    refine kgf_PT_10_0 S hK E d_PT_balance_21 ?_
    obtain ⟨r8, h7, hM⟩ := br_inv hM
    refine kcr_9 (As := []) (rest := []) S hK E (kC_Items_size h7) ⟨Nat.le_of_ble_eq_true rfl, Nat.le_of_ble_eq_true rfl⟩ rfl rfl hl.1 (lv_room (Nat.le_of_ble_eq_true rfl)) d_PT_balance_24 (fun H locs E => ?_)
    refine lv_iload_n S.1 S.2.1 d_PT_balance_27 rfl (lv_at hl 0 rfl) ?_
    refine lv_iadd S.1 S.2.1 d_PT_balance_28 ?_
    refine lv_sipush (v := 200) S.1 S.2.1 d_PT_balance_29 (by decide) ?_
    refine lv_icmp_le (tgt := 38) S.1 S.2.1 d_PT_balance_32 (by decide) (fun c9 => ?_) (fun c9 => ?_)
    · have hM := ifP hM c9
      refine lv_aload_n S.1 S.2.1 d_PT_balance_38 rfl (lv_at hl 2 rfl) ?_
      refine kgf_PT_35_0 S hK E d_PT_balance_39 ?_
      refine lv_aload_n S.1 S.2.1 d_PT_balance_42 rfl (lv_at hl 2 rfl) ?_
      refine kgf_PT_21_0 S hK E d_PT_balance_43 ?_
      obtain ⟨σ11, h10, hM⟩ := bv_inv hM
      refine kcr_101 (As := []) (rest := [.ref (a 4)]) S hK E (kC_Order_takenPages h10) ⟨Nat.le_of_ble_eq_true rfl, Nat.le_of_ble_eq_true rfl⟩ rfl rfl hl.1 (lv_room (Nat.le_of_ble_eq_true rfl)) d_PT_balance_46 (fun H locs E => ?_)
      refine lv_iload_n S.1 S.2.1 d_PT_balance_49 rfl (lv_at hl 1 rfl) ?_
      obtain ⟨σ13, h12, hM⟩ := bv_inv hM
      refine kcr_102 (As := [.ref (a 16), .int r2]) (rest := []) S hK E (kC_Bal_build h12) ⟨Nat.le_of_ble_eq_true rfl, Nat.le_of_ble_eq_true rfl⟩ rfl rfl hl.1 (lv_room (Nat.le_of_ble_eq_true rfl)) d_PT_balance_50 (fun H locs E => ?_)
      refine lv_iload_n S.1 S.2.1 d_PT_balance_53 rfl (lv_at hl 0 rfl) ?_
      obtain ⟨rfl, rfl⟩ := pr_inj hM
      exact kreti S hr hlk hK E d_PT_balance_54
    · have hM := ifN hM c9
      refine lv_bipush (v := (-4)) S.1 S.2.1 d_PT_balance_35 (by decide) ?_
      obtain ⟨rfl, rfl⟩ := pr_inj hM
      exact kreti S hr hlk hK E d_PT_balance_37
  · have hM := ifP hM c4
    refine lv_bipush (v := (-3)) S.1 S.2.1 d_PT_balance_12 (by decide) ?_
    obtain ⟨rfl, rfl⟩ := pr_inj hM
    exact kreti S hr hlk hK E d_PT_balance_14
set_option maxHeartbeats 4000000 in
set_option maxRecDepth 100000 in
theorem kC_PT_count {l : Launch} {D : va_G} {a : Nat → Nat} {cA : Nat → ClassId} {A : Nat → Prop} {g : Nat → Nat} {σ : St} {x1 : Int32} {r : Int32} (hM : kM_PT_count σ x1 = some r) : Met l y_PT_count (.code y_PT_count prog_1_method_23_code 2 (some .int) :: AW) krm_PT_count (va_Pc [.ref (a 0), .int x1] (kCP D a cA A g σ)) (kqi D a cA A g r σ) 0 0 A := by
  refine kmet (nL := 2) (by decide) (Nat.le_of_ble_eq_true rfl) (fun S hr hlk hK E ls hl => ?_)
  have hl : lv_has ls 2 [(0, .ref (a 0)), (1, .int x1)] := hl
  unfold kM_PT_count at hM
  refine lv_iload_n S.1 S.2.1 d_PT_count_0 rfl (lv_at hl 1 rfl) ?_
  by_cases c1 : x1 = 0
  · have hM := ifP hM c1
    refine lv_tableIn (tgt := 28) S.1 S.2.1 d_PT_count_1 (by rw [c1]; decide) (by rw [c1]; decide) (by rw [c1]; rfl) (by decide) ?_
    refine lv_aload_n S.1 S.2.1 d_PT_count_28 rfl (lv_at hl 0 rfl) ?_
    refine kgf_PT_10_0 S hK E d_PT_count_29 ?_
    obtain ⟨r3, h2, hM⟩ := br_inv hM
    refine kcr_9 (As := []) (rest := []) S hK E (kC_Items_size h2) ⟨Nat.le_of_ble_eq_true rfl, Nat.le_of_ble_eq_true rfl⟩ rfl rfl hl.1 (lv_room (Nat.le_of_ble_eq_true rfl)) d_PT_count_32 (fun H locs E => ?_)
    obtain rfl := Option.some.inj hM
    exact kreti S hr hlk hK E d_PT_count_35
  have hM := ifN hM c1
  by_cases c4 : x1 = 1
  · have hM := ifP hM c4
    refine lv_tableIn (tgt := 36) S.1 S.2.1 d_PT_count_1 (by rw [c4]; decide) (by rw [c4]; decide) (by rw [c4]; rfl) (by decide) ?_
    refine lv_aload_n S.1 S.2.1 d_PT_count_36 rfl (lv_at hl 0 rfl) ?_
    refine kgf_PT_42_0 S hK E d_PT_count_37 ?_
    obtain ⟨r6, h5, hM⟩ := br_inv hM
    refine kcr_76 (As := []) (rest := []) S hK E (kC_Labels_size h5) ⟨Nat.le_of_ble_eq_true rfl, Nat.le_of_ble_eq_true rfl⟩ rfl rfl hl.1 (lv_room (Nat.le_of_ble_eq_true rfl)) d_PT_count_40 (fun H locs E => ?_)
    obtain rfl := Option.some.inj hM
    exact kreti S hr hlk hK E d_PT_count_43
  have hM := ifN hM c4
  by_cases c7 : x1 = 2
  · have hM := ifP hM c7
    refine lv_tableIn (tgt := 44) S.1 S.2.1 d_PT_count_1 (by rw [c7]; decide) (by rw [c7]; decide) (by rw [c7]; rfl) (by decide) ?_
    refine lv_aload_n S.1 S.2.1 d_PT_count_44 rfl (lv_at hl 0 rfl) ?_
    refine kgf_PT_49_0 S hK E d_PT_count_45 ?_
    obtain ⟨r9, h8, hM⟩ := br_inv hM
    refine kcr_89 (As := []) (rest := []) S hK E (kC_Names_size h8) ⟨Nat.le_of_ble_eq_true rfl, Nat.le_of_ble_eq_true rfl⟩ rfl rfl hl.1 (lv_room (Nat.le_of_ble_eq_true rfl)) d_PT_count_48 (fun H locs E => ?_)
    obtain rfl := Option.some.inj hM
    exact kreti S hr hlk hK E d_PT_count_51
  have hM := ifN hM c7
  refine lv_tableOut (tgt := 52) S.1 S.2.1 d_PT_count_1 (by have qc1 := lv_neT c1 (a := 0) (by decide); have qc4 := lv_neT c4 (a := 1) (by decide); have qc7 := lv_neT c7 (a := 2) (by decide); omega) (by decide) ?_
  refine lv_bipush (v := (-2)) S.1 S.2.1 d_PT_count_52 (by decide) ?_
  obtain rfl := Option.some.inj hM
  exact kreti S hr hlk hK E d_PT_count_54
