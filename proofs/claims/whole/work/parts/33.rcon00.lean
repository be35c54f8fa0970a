set_option maxHeartbeats 4000000 in
set_option maxRecDepth 100000 in
theorem rC_Md_isItem {l : Launch} {D : va_G} {a : Nat → Nat} {cA : Nat → ClassId} {A : Nat → Prop} {g : Nat → Nat} {σ : St} {x1 : Int32} {r : Int32} (hM : rM_Md_isItem σ x1 = some r) : Met l y_Md_isItem (.code y_Md_isItem prog_10_method_3_code 2 (some .boolean) :: AW) rrm_Md_isItem (va_Pc [.ref (a 0), .int x1] (rCP D a cA A g σ)) (rqi D a cA A g r σ) 0 0 A := by
  refine rmet (nL := 2) (by decide) (Nat.le_of_ble_eq_true rfl) (fun S hr hlk hK E ls hl => ?_)
  have hl : lv_has ls 2 [(0, .ref (a 0)), (1, .int x1)] := hl
  unfold rM_Md_isItem at hM
  refine lv_iload_n S.1 S.2.1 d_Md_isItem_0 rfl (lv_at hl 1 rfl) ?_
  refine lv_if_lt (tgt := 16) S.1 S.2.1 d_Md_isItem_1 (by decide) (fun c1 => ?_) (fun c1 => ?_)
  · have hM := ifP hM c1
    refine lv_iconst (v := 0) S.1 S.2.1 d_Md_isItem_16 (by decide) ?_
    obtain rfl := Option.some.inj hM
    exact rretz S hr hlk hK E d_Md_isItem_17 rfl
  · have hM := ifN hM c1
    refine lv_iload_n S.1 S.2.1 d_Md_isItem_4 rfl (lv_at hl 1 rfl) ?_
    refine lv_aload_n S.1 S.2.1 d_Md_isItem_5 rfl (lv_at hl 0 rfl) ?_
    refine rgf_Md_77_0 S hK E d_Md_isItem_6 ?_
    refine lv_icmp_ge (tgt := 16) S.1 S.2.1 d_Md_isItem_9 (by decide) (fun c2 => ?_) (fun c2 => ?_)
    · have hM := ifP hM c2
      refine lv_iconst (v := 0) S.1 S.2.1 d_Md_isItem_16 (by decide) ?_
      obtain rfl := Option.some.inj hM
      exact rretz S hr hlk hK E d_Md_isItem_17 rfl
    · have hM := ifN hM c2
      refine lv_iconst (v := 1) S.1 S.2.1 d_Md_isItem_12 (by decide) ?_
      refine lv_goto (tgt := 17) S.1 S.2.1 d_Md_isItem_13 (by decide) ?_
      obtain rfl := Option.some.inj hM
      exact rretz S hr hlk hK E d_Md_isItem_17 rfl
set_option maxHeartbeats 4000000 in
set_option maxRecDepth 100000 in
theorem rC_Md_isNode {l : Launch} {D : va_G} {a : Nat → Nat} {cA : Nat → ClassId} {A : Nat → Prop} {g : Nat → Nat} {σ : St} {x1 : Int32} {r : Int32} (hM : rM_Md_isNode σ x1 = some r) : Met l y_Md_isNode (.code y_Md_isNode prog_10_method_4_code 2 (some .boolean) :: AW) rrm_Md_isNode (va_Pc [.ref (a 0), .int x1] (rCP D a cA A g σ)) (rqi D a cA A g r σ) 0 0 A := by
  refine rmet (nL := 2) (by decide) (Nat.le_of_ble_eq_true rfl) (fun S hr hlk hK E ls hl => ?_)
  have hl : lv_has ls 2 [(0, .ref (a 0)), (1, .int x1)] := hl
  unfold rM_Md_isNode at hM
  refine lv_aload_n S.1 S.2.1 d_Md_isNode_0 rfl (lv_at hl 0 rfl) ?_
  refine lv_iload_n S.1 S.2.1 d_Md_isNode_1 rfl (lv_at hl 1 rfl) ?_
  obtain ⟨r2, h1, hM⟩ := br_inv hM
  refine rcr_0 (As := [.int x1]) (rest := []) S hK E (rC_Md_isItem h1) ⟨Nat.le_of_ble_eq_true rfl, Nat.le_of_ble_eq_true rfl⟩ rfl rfl hl.1 (lv_room (Nat.le_of_ble_eq_true rfl)) d_Md_isNode_2 (fun H locs E => ?_)
  refine lv_if_eq (tgt := 21) S.1 S.2.1 d_Md_isNode_5 (by decide) (fun c3 => ?_) (fun c3 => ?_)
  · have hM := ifP hM c3
    refine lv_iconst (v := 0) S.1 S.2.1 d_Md_isNode_21 (by decide) ?_
    obtain rfl := Option.some.inj hM
    exact rretz S hr hlk hK E d_Md_isNode_22 rfl
  · have hM := ifN hM c3
    refine lv_aload_n S.1 S.2.1 d_Md_isNode_8 rfl (lv_at hl 0 rfl) ?_
    refine rgf_Md_7_0 S hK E d_Md_isNode_9 ?_
    refine lv_iload_n S.1 S.2.1 d_Md_isNode_12 rfl (lv_at hl 1 rfl) ?_
    obtain ⟨h4, hM⟩ := gd_inv hM
    refine ral_1 S hK E h4 d_Md_isNode_13 ?_
    refine lv_if_ne (tgt := 21) S.1 S.2.1 d_Md_isNode_14 (by decide) (fun c5 => ?_) (fun c5 => ?_)
    · have hM := ifN hM c5
      refine lv_iconst (v := 0) S.1 S.2.1 d_Md_isNode_21 (by decide) ?_
      obtain rfl := Option.some.inj hM
      exact rretz S hr hlk hK E d_Md_isNode_22 rfl
    · have hM := ifP hM c5
      refine lv_iconst (v := 1) S.1 S.2.1 d_Md_isNode_17 (by decide) ?_
      refine lv_goto (tgt := 22) S.1 S.2.1 d_Md_isNode_18 (by decide) ?_
      obtain rfl := Option.some.inj hM
      exact rretz S hr hlk hK E d_Md_isNode_22 rfl
set_option maxHeartbeats 4000000 in
set_option maxRecDepth 100000 in
theorem rB_Md_made_78 {p : Program} {l : Launch} {e : Env} {s : State} {m : MethodId} {args : Array Value} {below : List Frame} {meth : Method} {c : Code} {D : va_G} {a : Nat → Nat} {cA : Nat → ClassId} {A : Nat → Prop} {g : Nat → Nat} {σ2 : St} {r : Int32} (S : CallFix p m c prog_10_method_6_code 5 s args AW R_Md) (hr : meth.sig.returnType = (some .int)) (hlk : meth.locks = false) (hK : rKX D cA A g s s.heap) : ∀ (σ : St) (H : Heap) (locs : List Loc) (ls : Array Slot), rEx D a cA A σ s.heap H locs → lv_has ls 5 [(0, .ref (a 0))] → rJ_Md_made_78 σ = some (r, σ2) → W p l e rrm_Md_made s m args below meth c H locs 0 0 (MQ below (rqi D a cA A g r σ2) args s 0 0 A) (F0 m 78 ls []) := by
  intro σ H locs ls E hl hM
  unfold rJ_Md_made_78 at hM
  refine lv_aload_n S.1 S.2.1 d_Md_made_78 rfl (lv_at hl 0 rfl) ?_
  refine lv_dup S.1 S.2.1 d_Md_made_79 rfl ?_
  refine rgf_Md_77_0 S hK E d_Md_made_80 ?_
  refine lv_iconst (v := 1) S.1 S.2.1 d_Md_made_83 (by decide) ?_
  refine lv_iadd S.1 S.2.1 d_Md_made_84 ?_
  refine rpf_Md_77_0 S hK E d_Md_made_85 (fun σ1 eσ1 H locs E => ?_)
  have hM := lq_inv hM σ1 eσ1
  refine lv_aload_n S.1 S.2.1 d_Md_made_88 rfl (lv_at hl 0 rfl) ?_
  refine rgf_Md_77_0 S hK E d_Md_made_89 ?_
  refine lv_iconst (v := 1) S.1 S.2.1 d_Md_made_92 (by decide) ?_
  refine lv_isub S.1 S.2.1 d_Md_made_93 ?_
  obtain ⟨rfl, rfl⟩ := pr_inj hM
  exact rreti S hr hlk hK E d_Md_made_94
set_option maxHeartbeats 4000000 in
set_option maxRecDepth 100000 in
theorem rB_Md_made_51 {p : Program} {l : Launch} {e : Env} {s : State} {m : MethodId} {args : Array Value} {below : List Frame} {meth : Method} {c : Code} {D : va_G} {a : Nat → Nat} {cA : Nat → ClassId} {A : Nat → Prop} {g : Nat → Nat} {σ2 : St} {r : Int32} (S : CallFix p m c prog_10_method_6_code 5 s args AW R_Md) (hr : meth.sig.returnType = (some .int)) (hlk : meth.locks = false) (hK : rKX D cA A g s s.heap) : ∀ (n : Nat) (σ : St) (v4 : Int32) (H : Heap) (locs : List Loc) (ls : Array Slot), rEx D a cA A σ s.heap H locs → lv_has ls 5 [(0, .ref (a 0)), (4, .int v4)] → rL_Md_made_51 n σ v4 = some (r, σ2) → W p l e rrm_Md_made s m args below meth c H locs 0 0 (MQ below (rqi D a cA A g r σ2) args s 0 0 A) (F0 m 51 ls []) := by
  intro n
  induction n with
  | zero =>
    intro σ v4 H locs ls E hl hM
    rw [rL_Md_made_51] at hM
    cases hM
  | succ n ih =>
    intro σ v4 H locs ls E hl hM
    rw [rL_Md_made_51] at hM
    refine lv_iload S.1 S.2.1 d_Md_made_51 (lv_at hl 1 rfl) ?_
    refine lv_iconst (v := 4) S.1 S.2.1 d_Md_made_53 (by decide) ?_
    refine lv_icmp_ge (tgt := 78) S.1 S.2.1 d_Md_made_54 (by decide) (fun c1 => ?_) (fun c1 => ?_)
    · have hM := ifP hM c1
      exact rB_Md_made_78 S hr hlk hK _ _ _ _ E (lv_sub hl [0] rfl) hM
    · have hM := ifN hM c1
      refine lv_aload_n S.1 S.2.1 d_Md_made_57 rfl (lv_at hl 0 rfl) ?_
      refine rgf_Md_26_0 S hK E d_Md_made_58 ?_
      refine lv_iconst (v := 4) S.1 S.2.1 d_Md_made_61 (by decide) ?_
      refine lv_aload_n S.1 S.2.1 d_Md_made_62 rfl (lv_at hl 0 rfl) ?_
      refine rgf_Md_77_0 S hK E d_Md_made_63 ?_
      refine lv_imul S.1 S.2.1 d_Md_made_66 ?_
      refine lv_iload S.1 S.2.1 d_Md_made_67 (lv_at hl 1 rfl) ?_
      refine lv_iadd S.1 S.2.1 d_Md_made_69 ?_
      refine lv_iconst (v := (-1)) S.1 S.2.1 d_Md_made_70 (by decide) ?_
      obtain ⟨h2, hM⟩ := gd_inv hM
      refine ras_6 S hK E h2 d_Md_made_71 (fun σ3 eσ3 H locs E => ?_)
      have hM := lq_inv hM σ3 eσ3
      obtain ⟨y4, ey4⟩ : ∃ z : Int32, z = v4 + 1 := ⟨_, rfl⟩
      have hM := lq_inv hM y4 ey4
      refine lv_iinc (v := y4) (lv' := [(4, .int y4), (0, .ref (a 0))]) S.1 S.2.1 d_Md_made_72 hl (k := 1) rfl (by rw [ey4]; rfl) (by decide) rfl (fun ls hl => ?_)
      refine lv_goto (tgt := 51) S.1 S.2.1 d_Md_made_75 (by decide) ?_
      exact ih _ _ _ _ _ E (lv_sub hl [1, 0] rfl) hM
set_option maxHeartbeats 4000000 in
set_option maxRecDepth 100000 in
theorem rB_Md_made_37 {p : Program} {l : Launch} {e : Env} {s : State} {m : MethodId} {args : Array Value} {below : List Frame} {meth : Method} {c : Code} {D : va_G} {a : Nat → Nat} {cA : Nat → ClassId} {A : Nat → Prop} {g : Nat → Nat} {σ2 : St} {r : Int32} (S : CallFix p m c prog_10_method_6_code 5 s args AW R_Md) (hr : meth.sig.returnType = (some .int)) (hlk : meth.locks = false) (hK : rKX D cA A g s s.heap) : ∀ (σ : St) (t1 : Int32) (t2 : Int32) (H : Heap) (locs : List Loc) (ls : Array Slot), rEx D a cA A σ s.heap H locs → lv_has ls 5 [(0, .ref (a 0))] → rJ_Md_made_37 σ t1 t2 = some (r, σ2) → W p l e rrm_Md_made s m args below meth c H locs 0 0 (MQ below (rqi D a cA A g r σ2) args s 0 0 A) (F0 m 37 ls [.int t2, .int t1, .ref (a 3)]) := by
  intro σ t1 t2 H locs ls E hl hM
  unfold rJ_Md_made_37 at hM
  obtain ⟨h1, hM⟩ := gd_inv hM
  refine ras_3 S hK E h1 d_Md_made_37 (fun σ2 eσ2 H locs E => ?_)
  have hM := lq_inv hM σ2 eσ2
  refine lv_aload_n S.1 S.2.1 d_Md_made_38 rfl (lv_at hl 0 rfl) ?_
  refine rgf_Md_20_0 S hK E d_Md_made_39 ?_
  refine lv_aload_n S.1 S.2.1 d_Md_made_42 rfl (lv_at hl 0 rfl) ?_
  refine rgf_Md_77_0 S hK E d_Md_made_43 ?_
  refine lv_iconst (v := 0) S.1 S.2.1 d_Md_made_46 (by decide) ?_
  obtain ⟨h3, hM⟩ := gd_inv hM
  refine ras_4 S hK E h3 d_Md_made_47 (fun σ4 eσ4 H locs E => ?_)
  have hM := lq_inv hM σ4 eσ4
  refine lv_iconst (v := 0) S.1 S.2.1 d_Md_made_48 (by decide) ?_
  refine lv_istore (lv' := [(4, .int 0), (0, .ref (a 0))]) S.1 S.2.1 d_Md_made_49 hl (by decide) rfl (fun ls hl => ?_)
  exact rB_Md_made_51 S hr hlk hK _ _ _ _ _ _ E (lv_sub hl [1, 0] rfl) hM
set_option maxHeartbeats 4000000 in
set_option maxRecDepth 100000 in
theorem rC_Md_made {l : Launch} {D : va_G} {a : Nat → Nat} {cA : Nat → ClassId} {A : Nat → Prop} {g : Nat → Nat} {σ σ2 : St} {x1 : Int32} {x2 : Int32} {x3 : Int32} {r : Int32} (hM : rM_Md_made σ x1 x2 x3 = some (r, σ2)) : Met l y_Md_made (.code y_Md_made prog_10_method_6_code 5 (some .int) :: AW) rrm_Md_made (va_Pc [.ref (a 0), .int x1, .int x2, .int x3] (rCP D a cA A g σ)) (rqi D a cA A g r σ2) 0 0 A := by
  refine rmet (nL := 5) (by decide) (Nat.le_of_ble_eq_true rfl) (fun S hr hlk hK E ls hl => ?_)
  have hl : lv_has ls 5 [(0, .ref (a 0)), (1, .int x1), (2, .int x2), (3, .int x3)] := hl
  unfold rM_Md_made at hM
  refine lv_aload_n S.1 S.2.1 d_Md_made_0 rfl (lv_at hl 0 rfl) ?_
  refine rgf_Md_7_0 S hK E d_Md_made_1 ?_
  refine lv_aload_n S.1 S.2.1 d_Md_made_4 rfl (lv_at hl 0 rfl) ?_
  refine rgf_Md_77_0 S hK E d_Md_made_5 ?_
  refine lv_iload_n S.1 S.2.1 d_Md_made_8 rfl (lv_at hl 1 rfl) ?_
  obtain ⟨h1, hM⟩ := gd_inv hM
  refine ras_1 S hK E h1 d_Md_made_9 (fun σ2 eσ2 H locs E => ?_)
  have hM := lq_inv hM σ2 eσ2
  refine lv_aload_n S.1 S.2.1 d_Md_made_10 rfl (lv_at hl 0 rfl) ?_
  refine rgf_Md_13_0 S hK E d_Md_made_11 ?_
  refine lv_aload_n S.1 S.2.1 d_Md_made_14 rfl (lv_at hl 0 rfl) ?_
  refine rgf_Md_77_0 S hK E d_Md_made_15 ?_
  refine lv_iload_n S.1 S.2.1 d_Md_made_18 rfl (lv_at hl 2 rfl) ?_
  obtain ⟨h3, hM⟩ := gd_inv hM
  refine ras_2 S hK E h3 d_Md_made_19 (fun σ4 eσ4 H locs E => ?_)
  have hM := lq_inv hM σ4 eσ4
  refine lv_aload_n S.1 S.2.1 d_Md_made_20 rfl (lv_at hl 0 rfl) ?_
  refine rgf_Md_17_0 S hK E d_Md_made_21 ?_
  refine lv_aload_n S.1 S.2.1 d_Md_made_24 rfl (lv_at hl 0 rfl) ?_
  refine rgf_Md_77_0 S hK E d_Md_made_25 ?_
  refine lv_iload_n S.1 S.2.1 d_Md_made_28 rfl (lv_at hl 1 rfl) ?_
  refine lv_if_eq (tgt := 36) S.1 S.2.1 d_Md_made_29 (by decide) (fun c5 => ?_) (fun c5 => ?_)
  · have hM := ifP hM c5
    refine lv_iload_n S.1 S.2.1 d_Md_made_36 rfl (lv_at hl 3 rfl) ?_
    exact rB_Md_made_37 S hr hlk hK _ _ _ _ _ _ E (lv_sub hl [0] rfl) hM
  · have hM := ifN hM c5
    refine lv_iconst (v := 0) S.1 S.2.1 d_Md_made_32 (by decide) ?_
    refine lv_goto (tgt := 37) S.1 S.2.1 d_Md_made_33 (by decide) ?_
    exact rB_Md_made_37 S hr hlk hK _ _ _ _ _ _ E (lv_sub hl [0] rfl) hM
set_option maxHeartbeats 4000000 in
set_option maxRecDepth 100000 in
theorem rC_Md_append {l : Launch} {D : va_G} {a : Nat → Nat} {cA : Nat → ClassId} {A : Nat → Prop} {g : Nat → Nat} {σ σ2 : St} {x1 : Int32} {x2 : Int32} (hM : rM_Md_append σ x1 x2 = some σ2) : Met l y_Md_append (.code y_Md_append prog_10_method_7_code 3 none :: AW) rrm_Md_append (va_Pc [.ref (a 0), .int x1, .int x2] (rCP D a cA A g σ)) (rqv D a cA A g σ2) 0 0 A := by
  refine rmet (nL := 3) (by decide) (Nat.le_of_ble_eq_true rfl) (fun S hr hlk hK E ls hl => ?_)
  have hl : lv_has ls 3 [(0, .ref (a 0)), (1, .int x1), (2, .int x2)] := hl
  unfold rM_Md_append at hM
  refine lv_aload_n S.1 S.2.1 d_Md_append_0 rfl (lv_at hl 0 rfl) ?_
  refine rgf_Md_23_0 S hK E d_Md_append_1 ?_
  refine lv_bipush (v := 40) S.1 S.2.1 d_Md_append_4 (by decide) ?_
  refine lv_iload_n S.1 S.2.1 d_Md_append_6 rfl (lv_at hl 1 rfl) ?_
  refine lv_imul S.1 S.2.1 d_Md_append_7 ?_
  refine lv_aload_n S.1 S.2.1 d_Md_append_8 rfl (lv_at hl 0 rfl) ?_
  refine rgf_Md_20_0 S hK E d_Md_append_9 ?_
  refine lv_iload_n S.1 S.2.1 d_Md_append_12 rfl (lv_at hl 1 rfl) ?_
  obtain ⟨h1, hM⟩ := gd_inv hM
  refine ral_4 S hK E h1 d_Md_append_13 ?_
  refine lv_iadd S.1 S.2.1 d_Md_append_14 ?_
  refine lv_iload_n S.1 S.2.1 d_Md_append_15 rfl (lv_at hl 2 rfl) ?_
  obtain ⟨h2, hM⟩ := gd_inv hM
  refine ras_5 S hK E h2 d_Md_append_16 (fun σ3 eσ3 H locs E => ?_)
  have hM := lq_inv hM σ3 eσ3
  refine lv_aload_n S.1 S.2.1 d_Md_append_17 rfl (lv_at hl 0 rfl) ?_
  refine rgf_Md_20_0 S hK E d_Md_append_18 ?_
  refine lv_iload_n S.1 S.2.1 d_Md_append_21 rfl (lv_at hl 1 rfl) ?_
  refine lv_dup2_11 S.1 S.2.1 d_Md_append_22 rfl rfl ?_
  obtain ⟨h4, hM⟩ := gd_inv hM
  refine ral_4 S hK E h4 d_Md_append_23 ?_
  refine lv_iconst (v := 1) S.1 S.2.1 d_Md_append_24 (by decide) ?_
  refine lv_iadd S.1 S.2.1 d_Md_append_25 ?_
  obtain ⟨h5, hM⟩ := gd_inv hM
  refine ras_4 S hK E h5 d_Md_append_26 (fun σ6 eσ6 H locs E => ?_)
  have hM := lq_inv hM σ6 eσ6
  obtain rfl := Option.some.inj hM
  exact rretv S hr hlk hK E d_Md_append_27
set_option maxHeartbeats 4000000 in
set_option maxRecDepth 100000 in
theorem rB_Md_node_63 {p : Program} {l : Launch} {e : Env} {s : State} {m : MethodId} {args : Array Value} {below : List Frame} {meth : Method} {c : Code} {D : va_G} {a : Nat → Nat} {cA : Nat → ClassId} {A : Nat → Prop} {g : Nat → Nat} {σ2 : St} {r : Int32} (S : CallFix p m c prog_10_method_8_code 5 s args AW R_Md) (hr : meth.sig.returnType = (some .int)) (hlk : meth.locks = false) (hK : rKX D cA A g s s.heap) : ∀ (σ : St) (v1 : Int32) (v2 : Int32) (H : Heap) (locs : List Loc) (ls : Array Slot), rEx D a cA A σ s.heap H locs → lv_has ls 5 [(0, .ref (a 0)), (1, .int v1), (2, .int v2)] → rJ_Md_node_63 σ v1 v2 = some (r, σ2) → W p l e rrm_Md_node s m args below meth c H locs 0 0 (MQ below (rqi D a cA A g r σ2) args s 0 0 A) (F0 m 63 ls []) := by
  intro σ v1 v2 H locs ls E hl hM
  unfold rJ_Md_node_63 at hM
  refine lv_aload_n S.1 S.2.1 d_Md_node_63 rfl (lv_at hl 0 rfl) ?_
  refine lv_iconst (v := 0) S.1 S.2.1 d_Md_node_64 (by decide) ?_
  refine lv_iload_n S.1 S.2.1 d_Md_node_65 rfl (lv_at hl 1 rfl) ?_
  refine lv_iload_n S.1 S.2.1 d_Md_node_66 rfl (lv_at hl 2 rfl) ?_
  obtain ⟨r2, σ3, h1, hM⟩ := bd_inv hM
  refine rcr_1 (As := [.int 0, .int v1, .int v2]) (rest := []) S hK E (rC_Md_made h1) ⟨Nat.le_of_ble_eq_true rfl, Nat.le_of_ble_eq_true rfl⟩ rfl rfl hl.1 (lv_room (Nat.le_of_ble_eq_true rfl)) d_Md_node_67 (fun H locs E => ?_)
  refine lv_istore (lv' := [(4, .int r2), (0, .ref (a 0)), (1, .int v1), (2, .int v2)]) S.1 S.2.1 d_Md_node_70 hl (by decide) rfl (fun ls hl => ?_)
  refine lv_iload S.1 S.2.1 d_Md_node_72 (lv_at hl 0 rfl) ?_
  refine lv_if_le (tgt := 84) S.1 S.2.1 d_Md_node_74 (by decide) (fun c4 => ?_) (fun c4 => ?_)
  · have hM := ifP hM c4
    refine lv_iload S.1 S.2.1 d_Md_node_84 (lv_at hl 0 rfl) ?_
    obtain ⟨rfl, rfl⟩ := pr_inj hM
    exact rreti S hr hlk hK E d_Md_node_86
  · have hM := ifN hM c4
    refine lv_aload_n S.1 S.2.1 d_Md_node_77 rfl (lv_at hl 1 rfl) ?_
    refine lv_iload_n S.1 S.2.1 d_Md_node_78 rfl (lv_at hl 2 rfl) ?_
    refine lv_iload S.1 S.2.1 d_Md_node_79 (lv_at hl 0 rfl) ?_
    obtain ⟨σ6, h5, hM⟩ := bv_inv hM
    refine rcr_2 (As := [.int v1, .int r2]) (rest := []) S hK E (rC_Md_append h5) ⟨Nat.le_of_ble_eq_true rfl, Nat.le_of_ble_eq_true rfl⟩ rfl rfl hl.1 (lv_room (Nat.le_of_ble_eq_true rfl)) d_Md_node_81 (fun H locs E => ?_)
    refine lv_iload S.1 S.2.1 d_Md_node_84 (lv_at hl 0 rfl) ?_
    obtain ⟨rfl, rfl⟩ := pr_inj hM
    exact rreti S hr hlk hK E d_Md_node_86
set_option maxHeartbeats 4000000 in
set_option maxRecDepth 100000 in
theorem rB_Md_node_25 {p : Program} {l : Launch} {e : Env} {s : State} {m : MethodId} {args : Array Value} {below : List Frame} {meth : Method} {c : Code} {D : va_G} {a : Nat → Nat} {cA : Nat → ClassId} {A : Nat → Prop} {g : Nat → Nat} {σ2 : St} {r : Int32} (S : CallFix p m c prog_10_method_8_code 5 s args AW R_Md) (hr : meth.sig.returnType = (some .int)) (hlk : meth.locks = false) (hK : rKX D cA A g s s.heap) : ∀ (σ : St) (v1 : Int32) (v2 : Int32) (t0 : Int32) (H : Heap) (locs : List Loc) (ls : Array Slot), rEx D a cA A σ s.heap H locs → lv_has ls 5 [(0, .ref (a 0)), (1, .int v1), (2, .int v2)] → rJ_Md_node_25 σ v1 v2 t0 = some (r, σ2) → W p l e rrm_Md_node s m args below meth c H locs 0 0 (MQ below (rqi D a cA A g r σ2) args s 0 0 A) (F0 m 25 ls [.int t0]) := by
  intro σ v1 v2 t0 H locs ls E hl hM
  unfold rJ_Md_node_25 at hM
  refine lv_istore_n (lv' := [(3, .int t0), (0, .ref (a 0)), (1, .int v1), (2, .int v2)]) S.1 S.2.1 d_Md_node_25 rfl hl (by decide) rfl (fun ls hl => ?_)
  refine lv_iload_n S.1 S.2.1 d_Md_node_26 rfl (lv_at hl 0 rfl) ?_
  refine lv_if_ne (tgt := 32) S.1 S.2.1 d_Md_node_27 (by decide) (fun c1 => ?_) (fun c1 => ?_)
  · have hM := ifN hM c1
    refine lv_aload_n S.1 S.2.1 d_Md_node_32 rfl (lv_at hl 1 rfl) ?_
    refine rgf_Md_77_0 S hK E d_Md_node_33 ?_
    refine lv_sipush (v := 200) S.1 S.2.1 d_Md_node_36 (by decide) ?_
    refine lv_icmp_eq (tgt := 60) S.1 S.2.1 d_Md_node_39 (by decide) (fun c2 => ?_) (fun c2 => ?_)
    · have hM := ifP hM c2
      refine lv_bipush (v := (-4)) S.1 S.2.1 d_Md_node_60 (by decide) ?_
      obtain ⟨rfl, rfl⟩ := pr_inj hM
      exact rreti S hr hlk hK E d_Md_node_62
    · have hM := ifN hM c2
      refine lv_aload_n S.1 S.2.1 d_Md_node_42 rfl (lv_at hl 1 rfl) ?_
      refine rgf_Md_77_0 S hK E d_Md_node_43 ?_
      refine lv_if_le (tgt := 63) S.1 S.2.1 d_Md_node_46 (by decide) (fun c3 => ?_) (fun c3 => ?_)
      · have hM := ifP hM c3
        exact rB_Md_node_63 S hr hlk hK _ _ _ _ _ _ E (lv_sub hl [1, 2, 3] rfl) hM
      · have hM := ifN hM c3
        refine lv_aload_n S.1 S.2.1 d_Md_node_49 rfl (lv_at hl 1 rfl) ?_
        refine rgf_Md_20_0 S hK E d_Md_node_50 ?_
        refine lv_iload_n S.1 S.2.1 d_Md_node_53 rfl (lv_at hl 2 rfl) ?_
        obtain ⟨h4, hM⟩ := gd_inv hM
        refine ral_4 S hK E h4 d_Md_node_54 ?_
        refine lv_bipush (v := 40) S.1 S.2.1 d_Md_node_55 (by decide) ?_
        refine lv_icmp_ne (tgt := 63) S.1 S.2.1 d_Md_node_57 (by decide) (fun c5 => ?_) (fun c5 => ?_)
        · have hM := ifN hM c5
          exact rB_Md_node_63 S hr hlk hK _ _ _ _ _ _ E (lv_sub hl [1, 2, 3] rfl) hM
        · have hM := ifP hM c5
          refine lv_bipush (v := (-4)) S.1 S.2.1 d_Md_node_60 (by decide) ?_
          obtain ⟨rfl, rfl⟩ := pr_inj hM
          exact rreti S hr hlk hK E d_Md_node_62
  · have hM := ifP hM c1
    refine lv_iconst (v := (-1)) S.1 S.2.1 d_Md_node_30 (by decide) ?_
    obtain ⟨rfl, rfl⟩ := pr_inj hM
    exact rreti S hr hlk hK E d_Md_node_31
set_option maxHeartbeats 4000000 in
set_option maxRecDepth 100000 in
theorem rC_Md_node {l : Launch} {D : va_G} {a : Nat → Nat} {cA : Nat → ClassId} {A : Nat → Prop} {g : Nat → Nat} {σ σ2 : St} {x1 : Int32} {x2 : Int32} {r : Int32} (hM : rM_Md_node σ x1 x2 = some (r, σ2)) : Met l y_Md_node (.code y_Md_node prog_10_method_8_code 5 (some .int) :: AW) rrm_Md_node (va_Pc [.ref (a 0), .int x1, .int x2] (rCP D a cA A g σ)) (rqi D a cA A g r σ2) 0 0 A := by
  refine rmet (nL := 5) (by decide) (Nat.le_of_ble_eq_true rfl) (fun S hr hlk hK E ls hl => ?_)
  have hl : lv_has ls 5 [(0, .ref (a 0)), (1, .int x1), (2, .int x2)] := hl
  unfold rM_Md_node at hM
  refine lv_aload_n S.1 S.2.1 d_Md_node_0 rfl (lv_at hl 0 rfl) ?_
  refine rgf_Md_77_0 S hK E d_Md_node_1 ?_
  refine lv_if_ne (tgt := 20) S.1 S.2.1 d_Md_node_4 (by decide) (fun c1 => ?_) (fun c1 => ?_)
  · have hM := ifN hM c1
    refine lv_aload_n S.1 S.2.1 d_Md_node_20 rfl (lv_at hl 0 rfl) ?_
    refine lv_iload_n S.1 S.2.1 d_Md_node_21 rfl (lv_at hl 1 rfl) ?_
    obtain ⟨r3, h2, hM⟩ := br_inv hM
    refine rcr_3 (As := [.int x1]) (rest := []) S hK E (rC_Md_isNode h2) ⟨Nat.le_of_ble_eq_true rfl, Nat.le_of_ble_eq_true rfl⟩ rfl rfl hl.1 (lv_room (Nat.le_of_ble_eq_true rfl)) d_Md_node_22 (fun H locs E => ?_)
    exact rB_Md_node_25 S hr hlk hK _ _ _ _ _ _ _ E (lv_sub hl [0, 1, 2] rfl) hM
  · have hM := ifP hM c1
    refine lv_iload_n S.1 S.2.1 d_Md_node_7 rfl (lv_at hl 1 rfl) ?_
    refine lv_iconst (v := (-1)) S.1 S.2.1 d_Md_node_8 (by decide) ?_
    refine lv_icmp_ne (tgt := 16) S.1 S.2.1 d_Md_node_9 (by decide) (fun c4 => ?_) (fun c4 => ?_)
    · have hM := ifN hM c4
      refine lv_iconst (v := 0) S.1 S.2.1 d_Md_node_16 (by decide) ?_
      refine lv_goto (tgt := 25) S.1 S.2.1 d_Md_node_17 (by decide) ?_
      exact rB_Md_node_25 S hr hlk hK _ _ _ _ _ _ _ E (lv_sub hl [0, 1, 2] rfl) hM
    · have hM := ifP hM c4
      refine lv_iconst (v := 1) S.1 S.2.1 d_Md_node_12 (by decide) ?_
      refine lv_goto (tgt := 25) S.1 S.2.1 d_Md_node_13 (by decide) ?_
      exact rB_Md_node_25 S hr hlk hK _ _ _ _ _ _ _ E (lv_sub hl [0, 1, 2] rfl) hM
set_option maxHeartbeats 4000000 in
set_option maxRecDepth 100000 in
theorem rC_Md_page {l : Launch} {D : va_G} {a : Nat → Nat} {cA : Nat → ClassId} {A : Nat → Prop} {g : Nat → Nat} {σ σ2 : St} {x1 : Int32} {r : Int32} (hM : rM_Md_page σ x1 = some (r, σ2)) : Met l y_Md_page (.code y_Md_page prog_10_method_9_code 3 (some .int) :: AW) rrm_Md_page (va_Pc [.ref (a 0), .int x1] (rCP D a cA A g σ)) (rqi D a cA A g r σ2) 0 0 A := by
  refine rmet (nL := 3) (by decide) (Nat.le_of_ble_eq_true rfl) (fun S hr hlk hK E ls hl => ?_)
  have hl : lv_has ls 3 [(0, .ref (a 0)), (1, .int x1)] := hl
  unfold rM_Md_page at hM
  refine lv_aload_n S.1 S.2.1 d_Md_page_0 rfl (lv_at hl 0 rfl) ?_
  refine lv_iload_n S.1 S.2.1 d_Md_page_1 rfl (lv_at hl 1 rfl) ?_
  obtain ⟨r2, h1, hM⟩ := br_inv hM
  refine rcr_3 (As := [.int x1]) (rest := []) S hK E (rC_Md_isNode h1) ⟨Nat.le_of_ble_eq_true rfl, Nat.le_of_ble_eq_true rfl⟩ rfl rfl hl.1 (lv_room (Nat.le_of_ble_eq_true rfl)) d_Md_page_2 (fun H locs E => ?_)
  refine lv_if_ne (tgt := 10) S.1 S.2.1 d_Md_page_5 (by decide) (fun c3 => ?_) (fun c3 => ?_)
  · have hM := ifN hM c3
    refine lv_aload_n S.1 S.2.1 d_Md_page_10 rfl (lv_at hl 0 rfl) ?_
    refine rgf_Md_77_0 S hK E d_Md_page_11 ?_
    refine lv_sipush (v := 200) S.1 S.2.1 d_Md_page_14 (by decide) ?_
    refine lv_icmp_eq (tgt := 31) S.1 S.2.1 d_Md_page_17 (by decide) (fun c4 => ?_) (fun c4 => ?_)
    · have hM := ifP hM c4
      refine lv_bipush (v := (-4)) S.1 S.2.1 d_Md_page_31 (by decide) ?_
      obtain ⟨rfl, rfl⟩ := pr_inj hM
      exact rreti S hr hlk hK E d_Md_page_33
    · have hM := ifN hM c4
      refine lv_aload_n S.1 S.2.1 d_Md_page_20 rfl (lv_at hl 0 rfl) ?_
      refine rgf_Md_20_0 S hK E d_Md_page_21 ?_
      refine lv_iload_n S.1 S.2.1 d_Md_page_24 rfl (lv_at hl 1 rfl) ?_
      obtain ⟨h5, hM⟩ := gd_inv hM
      refine ral_4 S hK E h5 d_Md_page_25 ?_
      refine lv_bipush (v := 40) S.1 S.2.1 d_Md_page_26 (by decide) ?_
      refine lv_icmp_ne (tgt := 34) S.1 S.2.1 d_Md_page_28 (by decide) (fun c6 => ?_) (fun c6 => ?_)
      · have hM := ifN hM c6
        refine lv_aload_n S.1 S.2.1 d_Md_page_34 rfl (lv_at hl 0 rfl) ?_
        refine lv_iconst (v := 1) S.1 S.2.1 d_Md_page_35 (by decide) ?_
        refine lv_iload_n S.1 S.2.1 d_Md_page_36 rfl (lv_at hl 1 rfl) ?_
        refine lv_iconst (v := 0) S.1 S.2.1 d_Md_page_37 (by decide) ?_
        obtain ⟨r8, σ9, h7, hM⟩ := bd_inv hM
        refine rcr_1 (As := [.int 1, .int x1, .int 0]) (rest := []) S hK E (rC_Md_made h7) ⟨Nat.le_of_ble_eq_true rfl, Nat.le_of_ble_eq_true rfl⟩ rfl rfl hl.1 (lv_room (Nat.le_of_ble_eq_true rfl)) d_Md_page_38 (fun H locs E => ?_)
        refine lv_istore_n (lv' := [(2, .int r8), (0, .ref (a 0)), (1, .int x1)]) S.1 S.2.1 d_Md_page_41 rfl hl (by decide) rfl (fun ls hl => ?_)
        refine lv_aload_n S.1 S.2.1 d_Md_page_42 rfl (lv_at hl 1 rfl) ?_
        refine lv_iload_n S.1 S.2.1 d_Md_page_43 rfl (lv_at hl 2 rfl) ?_
        refine lv_iload_n S.1 S.2.1 d_Md_page_44 rfl (lv_at hl 0 rfl) ?_
        obtain ⟨σ11, h10, hM⟩ := bv_inv hM
        refine rcr_2 (As := [.int x1, .int r8]) (rest := []) S hK E (rC_Md_append h10) ⟨Nat.le_of_ble_eq_true rfl, Nat.le_of_ble_eq_true rfl⟩ rfl rfl hl.1 (lv_room (Nat.le_of_ble_eq_true rfl)) d_Md_page_45 (fun H locs E => ?_)
        refine lv_iload_n S.1 S.2.1 d_Md_page_48 rfl (lv_at hl 0 rfl) ?_
        obtain ⟨rfl, rfl⟩ := pr_inj hM
        exact rreti S hr hlk hK E d_Md_page_49
      · have hM := ifP hM c6
        refine lv_bipush (v := (-4)) S.1 S.2.1 d_Md_page_31 (by decide) ?_
        obtain ⟨rfl, rfl⟩ := pr_inj hM
        exact rreti S hr hlk hK E d_Md_page_33
  · have hM := ifP hM c3
    refine lv_iconst (v := (-1)) S.1 S.2.1 d_Md_page_8 (by decide) ?_
    obtain ⟨rfl, rfl⟩ := pr_inj hM
    exact rreti S hr hlk hK E d_Md_page_9
set_option maxHeartbeats 4000000 in
set_option maxRecDepth 100000 in
theorem rC_Md_list {l : Launch} {D : va_G} {a : Nat → Nat} {cA : Nat → ClassId} {A : Nat → Prop} {g : Nat → Nat} {σ σ2 : St} {x1 : Int32} {x2 : Int32} {r : Int32} (hM : rM_Md_list σ x1 x2 = some (r, σ2)) : Met l y_Md_list (.code y_Md_list prog_10_method_10_code 3 (some .int) :: AW) rrm_Md_list (va_Pc [.ref (a 0), .int x1, .int x2] (rCP D a cA A g σ)) (rqi D a cA A g r σ2) 0 0 A := by
  refine rmet (nL := 3) (by decide) (Nat.le_of_ble_eq_true rfl) (fun S hr hlk hK E ls hl => ?_)
  have hl : lv_has ls 3 [(0, .ref (a 0)), (1, .int x1), (2, .int x2)] := hl
  unfold rM_Md_list at hM
  refine lv_aload_n S.1 S.2.1 d_Md_list_0 rfl (lv_at hl 0 rfl) ?_
  refine lv_iload_n S.1 S.2.1 d_Md_list_1 rfl (lv_at hl 1 rfl) ?_
  obtain ⟨r2, h1, hM⟩ := br_inv hM
  refine rcr_3 (As := [.int x1]) (rest := []) S hK E (rC_Md_isNode h1) ⟨Nat.le_of_ble_eq_true rfl, Nat.le_of_ble_eq_true rfl⟩ rfl rfl hl.1 (lv_room (Nat.le_of_ble_eq_true rfl)) d_Md_list_2 (fun H locs E => ?_)
  refine lv_if_eq (tgt := 16) S.1 S.2.1 d_Md_list_5 (by decide) (fun c3 => ?_) (fun c3 => ?_)
  · have hM := ifP hM c3
    refine lv_iconst (v := (-1)) S.1 S.2.1 d_Md_list_16 (by decide) ?_
    obtain ⟨rfl, rfl⟩ := pr_inj hM
    exact rreti S hr hlk hK E d_Md_list_17
  · have hM := ifN hM c3
    refine lv_aload_n S.1 S.2.1 d_Md_list_8 rfl (lv_at hl 0 rfl) ?_
    refine lv_iload_n S.1 S.2.1 d_Md_list_9 rfl (lv_at hl 2 rfl) ?_
    obtain ⟨r5, h4, hM⟩ := br_inv hM
    refine rcr_0 (As := [.int x2]) (rest := []) S hK E (rC_Md_isItem h4) ⟨Nat.le_of_ble_eq_true rfl, Nat.le_of_ble_eq_true rfl⟩ rfl rfl hl.1 (lv_room (Nat.le_of_ble_eq_true rfl)) d_Md_list_10 (fun H locs E => ?_)
    refine lv_if_ne (tgt := 18) S.1 S.2.1 d_Md_list_13 (by decide) (fun c6 => ?_) (fun c6 => ?_)
    · have hM := ifN hM c6
      refine lv_aload_n S.1 S.2.1 d_Md_list_18 rfl (lv_at hl 0 rfl) ?_
      refine rgf_Md_20_0 S hK E d_Md_list_19 ?_
      refine lv_iload_n S.1 S.2.1 d_Md_list_22 rfl (lv_at hl 1 rfl) ?_
      obtain ⟨h7, hM⟩ := gd_inv hM
      refine ral_4 S hK E h7 d_Md_list_23 ?_
      refine lv_bipush (v := 40) S.1 S.2.1 d_Md_list_24 (by decide) ?_
      refine lv_icmp_ne (tgt := 32) S.1 S.2.1 d_Md_list_26 (by decide) (fun c8 => ?_) (fun c8 => ?_)
      · have hM := ifN hM c8
        refine lv_aload_n S.1 S.2.1 d_Md_list_32 rfl (lv_at hl 0 rfl) ?_
        refine lv_iload_n S.1 S.2.1 d_Md_list_33 rfl (lv_at hl 1 rfl) ?_
        refine lv_iload_n S.1 S.2.1 d_Md_list_34 rfl (lv_at hl 2 rfl) ?_
        obtain ⟨σ10, h9, hM⟩ := bv_inv hM
        refine rcr_2 (As := [.int x1, .int x2]) (rest := []) S hK E (rC_Md_append h9) ⟨Nat.le_of_ble_eq_true rfl, Nat.le_of_ble_eq_true rfl⟩ rfl rfl hl.1 (lv_room (Nat.le_of_ble_eq_true rfl)) d_Md_list_35 (fun H locs E => ?_)
        refine lv_aload_n S.1 S.2.1 d_Md_list_38 rfl (lv_at hl 0 rfl) ?_
        refine rgf_Md_20_0 S hK E d_Md_list_39 ?_
        refine lv_iload_n S.1 S.2.1 d_Md_list_42 rfl (lv_at hl 1 rfl) ?_
        obtain ⟨h11, hM⟩ := gd_inv hM
        refine ral_4 S hK E h11 d_Md_list_43 ?_
        obtain ⟨rfl, rfl⟩ := pr_inj hM
        exact rreti S hr hlk hK E d_Md_list_44
      · have hM := ifP hM c8
        refine lv_bipush (v := (-4)) S.1 S.2.1 d_Md_list_29 (by decide) ?_
        obtain ⟨rfl, rfl⟩ := pr_inj hM
        exact rreti S hr hlk hK E d_Md_list_31
    · have hM := ifP hM c6
      refine lv_iconst (v := (-1)) S.1 S.2.1 d_Md_list_16 (by decide) ?_
      obtain ⟨rfl, rfl⟩ := pr_inj hM
      exact rreti S hr hlk hK E d_Md_list_17
set_option maxHeartbeats 4000000 in
set_option maxRecDepth 100000 in
theorem rC_Md_within {l : Launch} {D : va_G} {a : Nat → Nat} {cA : Nat → ClassId} {A : Nat → Prop} {g : Nat → Nat} {σ : St} {x0 : Int32} {x1 : Int32} {x2 : Int32} {r : Int32} (hM : rM_Md_within σ x0 x1 x2 = some r) : Met l y_Md_within (.code y_Md_within prog_10_method_5_code 3 (some .boolean) :: AW) rrm_Md_within (va_Pc [.int x0, .int x1, .int x2] (rCP D a cA A g σ)) (rqi D a cA A g r σ) 0 0 A := by
  refine rmet (nL := 3) (by decide) (Nat.le_of_ble_eq_true rfl) (fun S hr hlk hK E ls hl => ?_)
  have hl : lv_has ls 3 [(0, .int x0), (1, .int x1), (2, .int x2)] := hl
  unfold rM_Md_within at hM
  refine lv_iload_n S.1 S.2.1 d_Md_within_0 rfl (lv_at hl 0 rfl) ?_
  refine lv_iload_n S.1 S.2.1 d_Md_within_1 rfl (lv_at hl 1 rfl) ?_
  refine lv_icmp_lt (tgt := 14) S.1 S.2.1 d_Md_within_2 (by decide) (fun c1 => ?_) (fun c1 => ?_)
  · have hM := ifP hM c1
    refine lv_iconst (v := 0) S.1 S.2.1 d_Md_within_14 (by decide) ?_
    obtain rfl := Option.some.inj hM
    exact rretz S hr hlk hK E d_Md_within_15 rfl
  · have hM := ifN hM c1
    refine lv_iload_n S.1 S.2.1 d_Md_within_5 rfl (lv_at hl 0 rfl) ?_
    refine lv_iload_n S.1 S.2.1 d_Md_within_6 rfl (lv_at hl 2 rfl) ?_
    refine lv_icmp_gt (tgt := 14) S.1 S.2.1 d_Md_within_7 (by decide) (fun c2 => ?_) (fun c2 => ?_)
    · have hM := ifP hM c2
      refine lv_iconst (v := 0) S.1 S.2.1 d_Md_within_14 (by decide) ?_
      obtain rfl := Option.some.inj hM
      exact rretz S hr hlk hK E d_Md_within_15 rfl
    · have hM := ifN hM c2
      refine lv_iconst (v := 1) S.1 S.2.1 d_Md_within_10 (by decide) ?_
      refine lv_goto (tgt := 15) S.1 S.2.1 d_Md_within_11 (by decide) ?_
      obtain rfl := Option.some.inj hM
      exact rretz S hr hlk hK E d_Md_within_15 rfl
set_option maxHeartbeats 4000000 in
set_option maxRecDepth 100000 in
theorem rC_Md_inherit {l : Launch} {D : va_G} {a : Nat → Nat} {cA : Nat → ClassId} {A : Nat → Prop} {g : Nat → Nat} {σ σ2 : St} {x1 : Int32} {x2 : Int32} {x3 : Int32} {r : Int32} (hM : rM_Md_inherit σ x1 x2 x3 = some (r, σ2)) : Met l y_Md_inherit (.code y_Md_inherit prog_10_method_11_code 4 (some .int) :: AW) rrm_Md_inherit (va_Pc [.ref (a 0), .int x1, .int x2, .int x3] (rCP D a cA A g σ)) (rqi D a cA A g r σ2) 0 0 A := by
  refine rmet (nL := 4) (by decide) (Nat.le_of_ble_eq_true rfl) (fun S hr hlk hK E ls hl => ?_)
  have hl : lv_has ls 4 [(0, .ref (a 0)), (1, .int x1), (2, .int x2), (3, .int x3)] := hl
  unfold rM_Md_inherit at hM
  refine lv_aload_n S.1 S.2.1 d_Md_inherit_0 rfl (lv_at hl 0 rfl) ?_
  refine lv_iload_n S.1 S.2.1 d_Md_inherit_1 rfl (lv_at hl 1 rfl) ?_
  obtain ⟨r2, h1, hM⟩ := br_inv hM
  refine rcr_0 (As := [.int x1]) (rest := []) S hK E (rC_Md_isItem h1) ⟨Nat.le_of_ble_eq_true rfl, Nat.le_of_ble_eq_true rfl⟩ rfl rfl hl.1 (lv_room (Nat.le_of_ble_eq_true rfl)) d_Md_inherit_2 (fun H locs E => ?_)
  refine lv_if_ne (tgt := 10) S.1 S.2.1 d_Md_inherit_5 (by decide) (fun c3 => ?_) (fun c3 => ?_)
  · have hM := ifN hM c3
    refine lv_iload_n S.1 S.2.1 d_Md_inherit_10 rfl (lv_at hl 2 rfl) ?_
    refine lv_iconst (v := 0) S.1 S.2.1 d_Md_inherit_11 (by decide) ?_
    refine lv_iconst (v := 3) S.1 S.2.1 d_Md_inherit_12 (by decide) ?_
    obtain ⟨r5, h4, hM⟩ := br_inv hM
    refine rcr_4 (As := [.int x2, .int 0, .int 3]) (rest := []) S hK E (rC_Md_within h4) ⟨Nat.le_of_ble_eq_true rfl, Nat.le_of_ble_eq_true rfl⟩ rfl rfl hl.1 (lv_room (Nat.le_of_ble_eq_true rfl)) d_Md_inherit_13 (fun H locs E => ?_)
    refine lv_if_eq (tgt := 29) S.1 S.2.1 d_Md_inherit_16 (by decide) (fun c6 => ?_) (fun c6 => ?_)
    · have hM := ifP hM c6
      refine lv_bipush (v := (-2)) S.1 S.2.1 d_Md_inherit_29 (by decide) ?_
      obtain ⟨rfl, rfl⟩ := pr_inj hM
      exact rreti S hr hlk hK E d_Md_inherit_31
    · have hM := ifN hM c6
      refine lv_iload_n S.1 S.2.1 d_Md_inherit_19 rfl (lv_at hl 3 rfl) ?_
      refine lv_iconst (v := (-1)) S.1 S.2.1 d_Md_inherit_20 (by decide) ?_
      refine lv_ldc (v := 100000) S.1 S.2.1 S.2.2.2.1 (S.2.2.2.2 _ aw816) d_Md_inherit_21 ?_
      obtain ⟨r8, h7, hM⟩ := br_inv hM
      refine rcr_4 (As := [.int x3, .int (-1), .int 100000]) (rest := []) S hK E (rC_Md_within h7) ⟨Nat.le_of_ble_eq_true rfl, Nat.le_of_ble_eq_true rfl⟩ rfl rfl hl.1 (lv_room (Nat.le_of_ble_eq_true rfl)) d_Md_inherit_23 (fun H locs E => ?_)
      refine lv_if_ne (tgt := 32) S.1 S.2.1 d_Md_inherit_26 (by decide) (fun c9 => ?_) (fun c9 => ?_)
      · have hM := ifN hM c9
        refine lv_aload_n S.1 S.2.1 d_Md_inherit_32 rfl (lv_at hl 0 rfl) ?_
        refine rgf_Md_26_0 S hK E d_Md_inherit_33 ?_
        refine lv_iconst (v := 4) S.1 S.2.1 d_Md_inherit_36 (by decide) ?_
        refine lv_iload_n S.1 S.2.1 d_Md_inherit_37 rfl (lv_at hl 1 rfl) ?_
        refine lv_imul S.1 S.2.1 d_Md_inherit_38 ?_
        refine lv_iload_n S.1 S.2.1 d_Md_inherit_39 rfl (lv_at hl 2 rfl) ?_
        refine lv_iadd S.1 S.2.1 d_Md_inherit_40 ?_
        refine lv_iload_n S.1 S.2.1 d_Md_inherit_41 rfl (lv_at hl 3 rfl) ?_
        obtain ⟨h10, hM⟩ := gd_inv hM
        refine ras_6 S hK E h10 d_Md_inherit_42 (fun σ11 eσ11 H locs E => ?_)
        have hM := lq_inv hM σ11 eσ11
        refine lv_iconst (v := 1) S.1 S.2.1 d_Md_inherit_43 (by decide) ?_
        obtain ⟨rfl, rfl⟩ := pr_inj hM
        exact rreti S hr hlk hK E d_Md_inherit_44
      · have hM := ifP hM c9
        refine lv_bipush (v := (-2)) S.1 S.2.1 d_Md_inherit_29 (by decide) ?_
        obtain ⟨rfl, rfl⟩ := pr_inj hM
        exact rreti S hr hlk hK E d_Md_inherit_31
  · have hM := ifP hM c3
    refine lv_iconst (v := (-1)) S.1 S.2.1 d_Md_inherit_8 (by decide) ?_
    obtain ⟨rfl, rfl⟩ := pr_inj hM
    exact rreti S hr hlk hK E d_Md_inherit_9
set_option maxHeartbeats 4000000 in
set_option maxRecDepth 100000 in
theorem rB_Md_valueOf_44 {p : Program} {l : Launch} {e : Env} {s : State} {m : MethodId} {args : Array Value} {below : List Frame} {meth : Method} {c : Code} {D : va_G} {a : Nat → Nat} {cA : Nat → ClassId} {A : Nat → Prop} {g : Nat → Nat} {σ : St} {r : Int32} (S : CallFix p m c prog_10_method_12_code 5 s args AW R_Md) (hr : meth.sig.returnType = (some .int)) (hlk : meth.locks = false) (hK : rKX D cA A g s s.heap) : ∀ (v2 : Int32) (v3 : Int32) (H : Heap) (locs : List Loc) (ls : Array Slot), rEx D a cA A σ s.heap H locs → lv_has ls 5 [(0, .ref (a 0)), (2, .int v2), (3, .int v3)] → rJ_Md_valueOf_44 σ v2 v3 = some r → W p l e rrm_Md_valueOf s m args below meth c H locs 0 0 (MQ below (rqi D a cA A g r σ) args s 0 0 A) (F0 m 44 ls []) := by
  intro v2 v3 H locs ls E hl hM
  unfold rJ_Md_valueOf_44 at hM
  refine lv_iload_n S.1 S.2.1 d_Md_valueOf_44 rfl (lv_at hl 2 rfl) ?_
  refine lv_if_ge (tgt := 52) S.1 S.2.1 d_Md_valueOf_45 (by decide) (fun c1 => ?_) (fun c1 => ?_)
  · have hM := ifP hM c1
    refine lv_aload_n S.1 S.2.1 d_Md_valueOf_52 rfl (lv_at hl 0 rfl) ?_
    refine rgf_Md_26_0 S hK E d_Md_valueOf_53 ?_
    refine lv_iconst (v := 4) S.1 S.2.1 d_Md_valueOf_56 (by decide) ?_
    refine lv_iload_n S.1 S.2.1 d_Md_valueOf_57 rfl (lv_at hl 2 rfl) ?_
    refine lv_imul S.1 S.2.1 d_Md_valueOf_58 ?_
    refine lv_iload_n S.1 S.2.1 d_Md_valueOf_59 rfl (lv_at hl 1 rfl) ?_
    refine lv_iadd S.1 S.2.1 d_Md_valueOf_60 ?_
    obtain ⟨h2, hM⟩ := gd_inv hM
    refine ral_6 S hK E h2 d_Md_valueOf_61 ?_
    obtain rfl := Option.some.inj hM
    exact rreti S hr hlk hK E d_Md_valueOf_62
  · have hM := ifN hM c1
    refine lv_iconst (v := (-1)) S.1 S.2.1 d_Md_valueOf_48 (by decide) ?_
    refine lv_goto (tgt := 62) S.1 S.2.1 d_Md_valueOf_49 (by decide) ?_
    obtain rfl := Option.some.inj hM
    exact rreti S hr hlk hK E d_Md_valueOf_62
set_option maxHeartbeats 4000000 in
set_option maxRecDepth 100000 in
theorem rB_Md_valueOf_5 {p : Program} {l : Launch} {e : Env} {s : State} {m : MethodId} {args : Array Value} {below : List Frame} {meth : Method} {c : Code} {D : va_G} {a : Nat → Nat} {cA : Nat → ClassId} {A : Nat → Prop} {g : Nat → Nat} {σ : St} {r : Int32} (S : CallFix p m c prog_10_method_12_code 5 s args AW R_Md) (hr : meth.sig.returnType = (some .int)) (hlk : meth.locks = false) (hK : rKX D cA A g s s.heap) : ∀ (n : Nat) (v2 : Int32) (v3 : Int32) (v4 : Int32) (H : Heap) (locs : List Loc) (ls : Array Slot), rEx D a cA A σ s.heap H locs → lv_has ls 5 [(0, .ref (a 0)), (2, .int v2), (3, .int v3), (4, .int v4)] → rL_Md_valueOf_5 σ n v2 v3 v4 = some r → W p l e rrm_Md_valueOf s m args below meth c H locs 0 0 (MQ below (rqi D a cA A g r σ) args s 0 0 A) (F0 m 5 ls []) := by
  intro n
  induction n with
  | zero =>
    intro v2 v3 v4 H locs ls E hl hM
    rw [rL_Md_valueOf_5] at hM
    cases hM
  | succ n ih =>
    intro v2 v3 v4 H locs ls E hl hM
    rw [rL_Md_valueOf_5] at hM
    refine lv_iload_n S.1 S.2.1 d_Md_valueOf_5 rfl (lv_at hl 2 rfl) ?_
    refine lv_if_lt (tgt := 44) S.1 S.2.1 d_Md_valueOf_6 (by decide) (fun c1 => ?_) (fun c1 => ?_)
    · have hM := ifP hM c1
      exact rB_Md_valueOf_44 S hr hlk hK _ _ _ _ _ E (lv_sub hl [0, 1, 2] rfl) hM
    · have hM := ifN hM c1
      refine lv_aload_n S.1 S.2.1 d_Md_valueOf_9 rfl (lv_at hl 0 rfl) ?_
      refine rgf_Md_26_0 S hK E d_Md_valueOf_10 ?_
      refine lv_iconst (v := 4) S.1 S.2.1 d_Md_valueOf_13 (by decide) ?_
      refine lv_iload_n S.1 S.2.1 d_Md_valueOf_14 rfl (lv_at hl 2 rfl) ?_
      refine lv_imul S.1 S.2.1 d_Md_valueOf_15 ?_
      refine lv_iload_n S.1 S.2.1 d_Md_valueOf_16 rfl (lv_at hl 1 rfl) ?_
      refine lv_iadd S.1 S.2.1 d_Md_valueOf_17 ?_
      obtain ⟨h2, hM⟩ := gd_inv hM
      refine ral_6 S hK E h2 d_Md_valueOf_18 ?_
      refine lv_iconst (v := (-1)) S.1 S.2.1 d_Md_valueOf_19 (by decide) ?_
      refine lv_icmp_ne (tgt := 44) S.1 S.2.1 d_Md_valueOf_20 (by decide) (fun c3 => ?_) (fun c3 => ?_)
      · have hM := ifN hM c3
        exact rB_Md_valueOf_44 S hr hlk hK _ _ _ _ _ E (lv_sub hl [0, 1, 2] rfl) hM
      · have hM := ifP hM c3
        refine lv_iload S.1 S.2.1 d_Md_valueOf_23 (lv_at hl 3 rfl) ?_
        refine lv_sipush (v := 200) S.1 S.2.1 d_Md_valueOf_25 (by decide) ?_
        refine lv_icmp_ge (tgt := 44) S.1 S.2.1 d_Md_valueOf_28 (by decide) (fun c4 => ?_) (fun c4 => ?_)
        · have hM := ifP hM c4
          exact rB_Md_valueOf_44 S hr hlk hK _ _ _ _ _ E (lv_sub hl [0, 1, 2] rfl) hM
        · have hM := ifN hM c4
          refine lv_aload_n S.1 S.2.1 d_Md_valueOf_31 rfl (lv_at hl 0 rfl) ?_
          refine rgf_Md_13_0 S hK E d_Md_valueOf_32 ?_
          refine lv_iload_n S.1 S.2.1 d_Md_valueOf_35 rfl (lv_at hl 2 rfl) ?_
          obtain ⟨h5, hM⟩ := gd_inv hM
          refine ral_2 S hK E h5 d_Md_valueOf_36 ?_
          refine lv_topi (fun y6 ey6 => ?_)
          have hM := lq_inv hM y6 ey6
          refine lv_istore_n (lv' := [(3, .int y6), (0, .ref (a 0)), (2, .int v2), (4, .int v4)]) S.1 S.2.1 d_Md_valueOf_37 rfl hl (by decide) rfl (fun ls hl => ?_)
          obtain ⟨y7, ey7⟩ : ∃ z : Int32, z = v4 + 1 := ⟨_, rfl⟩
          have hM := lq_inv hM y7 ey7
          refine lv_iinc (v := y7) (lv' := [(4, .int y7), (3, .int y6), (0, .ref (a 0)), (2, .int v2)]) S.1 S.2.1 d_Md_valueOf_38 hl (k := 3) rfl (by rw [ey7]; rfl) (by decide) rfl (fun ls hl => ?_)
          refine lv_goto (tgt := 5) S.1 S.2.1 d_Md_valueOf_41 (by decide) ?_
          exact ih _ _ _ _ _ _ E (lv_sub hl [2, 3, 1, 0] rfl) hM
set_option maxHeartbeats 4000000 in
set_option maxRecDepth 100000 in
theorem rC_Md_valueOf {l : Launch} {D : va_G} {a : Nat → Nat} {cA : Nat → ClassId} {A : Nat → Prop} {g : Nat → Nat} {σ : St} {x1 : Int32} {x2 : Int32} {r : Int32} (hM : rM_Md_valueOf σ x1 x2 = some r) : Met l y_Md_valueOf (.code y_Md_valueOf prog_10_method_12_code 5 (some .int) :: AW) rrm_Md_valueOf (va_Pc [.ref (a 0), .int x1, .int x2] (rCP D a cA A g σ)) (rqi D a cA A g r σ) 0 0 A := by
  refine rmet (nL := 5) (by decide) (Nat.le_of_ble_eq_true rfl) (fun S hr hlk hK E ls hl => ?_)
  have hl : lv_has ls 5 [(0, .ref (a 0)), (1, .int x1), (2, .int x2)] := hl
  unfold rM_Md_valueOf at hM
  refine lv_iload_n S.1 S.2.1 d_Md_valueOf_0 rfl (lv_at hl 1 rfl) ?_
  refine lv_istore_n (lv' := [(3, .int x1), (0, .ref (a 0)), (1, .int x1), (2, .int x2)]) S.1 S.2.1 d_Md_valueOf_1 rfl hl (by decide) rfl (fun ls hl => ?_)
  refine lv_iconst (v := 0) S.1 S.2.1 d_Md_valueOf_2 (by decide) ?_
  refine lv_istore (lv' := [(4, .int 0), (3, .int x1), (0, .ref (a 0)), (1, .int x1), (2, .int x2)]) S.1 S.2.1 d_Md_valueOf_3 hl (by decide) rfl (fun ls hl => ?_)
  exact rB_Md_valueOf_5 S hr hlk hK _ _ _ _ _ _ _ E (lv_sub hl [2, 4, 1, 0] rfl) hM
set_option maxHeartbeats 4000000 in
set_option maxRecDepth 100000 in
theorem rC_Md_of {l : Launch} {D : va_G} {a : Nat → Nat} {cA : Nat → ClassId} {A : Nat → Prop} {g : Nat → Nat} {σ : St} {x1 : Int32} {x2 : Int32} {r : Int32} (hM : rM_Md_of σ x1 x2 = some r) : Met l y_Md_of (.code y_Md_of prog_10_method_13_code 3 (some .int) :: AW) rrm_Md_of (va_Pc [.ref (a 0), .int x1, .int x2] (rCP D a cA A g σ)) (rqi D a cA A g r σ) 0 0 A := by
  refine rmet (nL := 3) (by decide) (Nat.le_of_ble_eq_true rfl) (fun S hr hlk hK E ls hl => ?_)
  have hl : lv_has ls 3 [(0, .ref (a 0)), (1, .int x1), (2, .int x2)] := hl
  unfold rM_Md_of at hM
  refine lv_aload_n S.1 S.2.1 d_Md_of_0 rfl (lv_at hl 0 rfl) ?_
  refine lv_iload_n S.1 S.2.1 d_Md_of_1 rfl (lv_at hl 1 rfl) ?_
  obtain ⟨r2, h1, hM⟩ := br_inv hM
  refine rcr_0 (As := [.int x1]) (rest := []) S hK E (rC_Md_isItem h1) ⟨Nat.le_of_ble_eq_true rfl, Nat.le_of_ble_eq_true rfl⟩ rfl rfl hl.1 (lv_room (Nat.le_of_ble_eq_true rfl)) d_Md_of_2 (fun H locs E => ?_)
  refine lv_if_eq (tgt := 17) S.1 S.2.1 d_Md_of_5 (by decide) (fun c3 => ?_) (fun c3 => ?_)
  · have hM := ifP hM c3
    refine lv_iconst (v := (-1)) S.1 S.2.1 d_Md_of_17 (by decide) ?_
    obtain rfl := Option.some.inj hM
    exact rreti S hr hlk hK E d_Md_of_18
  · have hM := ifN hM c3
    refine lv_aload_n S.1 S.2.1 d_Md_of_8 rfl (lv_at hl 0 rfl) ?_
    refine rgf_Md_7_0 S hK E d_Md_of_9 ?_
    refine lv_iload_n S.1 S.2.1 d_Md_of_12 rfl (lv_at hl 1 rfl) ?_
    obtain ⟨h4, hM⟩ := gd_inv hM
    refine ral_1 S hK E h4 d_Md_of_13 ?_
    refine lv_if_ne (tgt := 19) S.1 S.2.1 d_Md_of_14 (by decide) (fun c5 => ?_) (fun c5 => ?_)
    · have hM := ifN hM c5
      refine lv_iload_n S.1 S.2.1 d_Md_of_19 rfl (lv_at hl 2 rfl) ?_
      refine lv_iconst (v := 0) S.1 S.2.1 d_Md_of_20 (by decide) ?_
      refine lv_iconst (v := 3) S.1 S.2.1 d_Md_of_21 (by decide) ?_
      obtain ⟨r7, h6, hM⟩ := br_inv hM
      refine rcr_4 (As := [.int x2, .int 0, .int 3]) (rest := []) S hK E (rC_Md_within h6) ⟨Nat.le_of_ble_eq_true rfl, Nat.le_of_ble_eq_true rfl⟩ rfl rfl hl.1 (lv_room (Nat.le_of_ble_eq_true rfl)) d_Md_of_22 (fun H locs E => ?_)
      refine lv_if_eq (tgt := 37) S.1 S.2.1 d_Md_of_25 (by decide) (fun c8 => ?_) (fun c8 => ?_)
      · have hM := ifP hM c8
        refine lv_bipush (v := (-2)) S.1 S.2.1 d_Md_of_37 (by decide) ?_
        obtain rfl := Option.some.inj hM
        exact rreti S hr hlk hK E d_Md_of_39
      · have hM := ifN hM c8
        refine lv_aload_n S.1 S.2.1 d_Md_of_28 rfl (lv_at hl 0 rfl) ?_
        refine lv_iload_n S.1 S.2.1 d_Md_of_29 rfl (lv_at hl 1 rfl) ?_
        refine lv_iload_n S.1 S.2.1 d_Md_of_30 rfl (lv_at hl 2 rfl) ?_
        obtain ⟨r10, h9, hM⟩ := br_inv hM
        refine rcr_5 (As := [.int x1, .int x2]) (rest := []) S hK E (rC_Md_valueOf h9) ⟨Nat.le_of_ble_eq_true rfl, Nat.le_of_ble_eq_true rfl⟩ rfl rfl hl.1 (lv_room (Nat.le_of_ble_eq_true rfl)) d_Md_of_31 (fun H locs E => ?_)
        refine lv_goto (tgt := 39) S.1 S.2.1 d_Md_of_34 (by decide) ?_
        obtain rfl := Option.some.inj hM
        exact rreti S hr hlk hK E d_Md_of_39
    · have hM := ifP hM c5
      refine lv_iconst (v := (-1)) S.1 S.2.1 d_Md_of_17 (by decide) ?_
      obtain rfl := Option.some.inj hM
      exact rreti S hr hlk hK E d_Md_of_18
set_option maxHeartbeats 4000000 in
set_option maxRecDepth 100000 in
theorem rC_Md_goInto {l : Launch} {D : va_G} {a : Nat → Nat} {cA : Nat → ClassId} {A : Nat → Prop} {g : Nat → Nat} {σ σ2 : St} {x1 : Int32} (hM : rM_Md_goInto σ x1 = some σ2) : Met l y_Md_goInto (.code y_Md_goInto prog_10_method_15_code 2 none :: AW) rrm_Md_goInto (va_Pc [.ref (a 0), .int x1] (rCP D a cA A g σ)) (rqv D a cA A g σ2) 0 0 A := by
  refine rmet (nL := 2) (by decide) (Nat.le_of_ble_eq_true rfl) (fun S hr hlk hK E ls hl => ?_)
  have hl : lv_has ls 2 [(0, .ref (a 0)), (1, .int x1)] := hl
  unfold rM_Md_goInto at hM
  refine lv_aload_n S.1 S.2.1 d_Md_goInto_0 rfl (lv_at hl 0 rfl) ?_
  refine rgf_Md_35_0 S hK E d_Md_goInto_1 ?_
  refine lv_iload_n S.1 S.2.1 d_Md_goInto_4 rfl (lv_at hl 1 rfl) ?_
  refine lv_iconst (v := 1) S.1 S.2.1 d_Md_goInto_5 (by decide) ?_
  obtain ⟨h1, hM⟩ := gd_inv hM
  refine ras_9 S hK E h1 d_Md_goInto_6 (fun σ2 eσ2 H locs E => ?_)
  have hM := lq_inv hM σ2 eσ2
  refine lv_aload_n S.1 S.2.1 d_Md_goInto_7 rfl (lv_at hl 0 rfl) ?_
  refine rgf_Md_29_0 S hK E d_Md_goInto_8 ?_
  refine lv_aload_n S.1 S.2.1 d_Md_goInto_11 rfl (lv_at hl 0 rfl) ?_
  refine rgf_Md_108_0 S hK E d_Md_goInto_12 ?_
  refine lv_iload_n S.1 S.2.1 d_Md_goInto_15 rfl (lv_at hl 1 rfl) ?_
  obtain ⟨h3, hM⟩ := gd_inv hM
  refine ras_7 S hK E h3 d_Md_goInto_16 (fun σ4 eσ4 H locs E => ?_)
  have hM := lq_inv hM σ4 eσ4
  refine lv_aload_n S.1 S.2.1 d_Md_goInto_17 rfl (lv_at hl 0 rfl) ?_
  refine rgf_Md_32_0 S hK E d_Md_goInto_18 ?_
  refine lv_aload_n S.1 S.2.1 d_Md_goInto_21 rfl (lv_at hl 0 rfl) ?_
  refine rgf_Md_108_0 S hK E d_Md_goInto_22 ?_
  refine lv_iconst (v := 0) S.1 S.2.1 d_Md_goInto_25 (by decide) ?_
  obtain ⟨h5, hM⟩ := gd_inv hM
  refine ras_8 S hK E h5 d_Md_goInto_26 (fun σ6 eσ6 H locs E => ?_)
  have hM := lq_inv hM σ6 eσ6
  refine lv_aload_n S.1 S.2.1 d_Md_goInto_27 rfl (lv_at hl 0 rfl) ?_
  refine rgf_Md_47_0 S hK E d_Md_goInto_28 ?_
  refine lv_aload_n S.1 S.2.1 d_Md_goInto_31 rfl (lv_at hl 0 rfl) ?_
  refine rgf_Md_108_0 S hK E d_Md_goInto_32 ?_
  refine lv_iconst (v := 0) S.1 S.2.1 d_Md_goInto_35 (by decide) ?_
  obtain ⟨h7, hM⟩ := gd_inv hM
  refine ras_13 S hK E h7 d_Md_goInto_36 (fun σ8 eσ8 H locs E => ?_)
  have hM := lq_inv hM σ8 eσ8
  refine lv_aload_n S.1 S.2.1 d_Md_goInto_37 rfl (lv_at hl 0 rfl) ?_
  refine lv_dup S.1 S.2.1 d_Md_goInto_38 rfl ?_
  refine rgf_Md_108_0 S hK E d_Md_goInto_39 ?_
  refine lv_iconst (v := 1) S.1 S.2.1 d_Md_goInto_42 (by decide) ?_
  refine lv_iadd S.1 S.2.1 d_Md_goInto_43 ?_
  refine rpf_Md_108_0 S hK E d_Md_goInto_44 (fun σ9 eσ9 H locs E => ?_)
  have hM := lq_inv hM σ9 eσ9
  obtain rfl := Option.some.inj hM
  exact rretv S hr hlk hK E d_Md_goInto_47
set_option maxHeartbeats 4000000 in
set_option maxRecDepth 100000 in
theorem rB_Md_begin_33 {p : Program} {l : Launch} {e : Env} {s : State} {m : MethodId} {args : Array Value} {below : List Frame} {meth : Method} {c : Code} {D : va_G} {a : Nat → Nat} {cA : Nat → ClassId} {A : Nat → Prop} {g : Nat → Nat} {σ2 : St} (S : CallFix p m c prog_10_method_14_code 2 s args AW R_Md) (hr : meth.sig.returnType = none) (hlk : meth.locks = false) (hK : rKX D cA A g s s.heap) : ∀ (σ : St) (H : Heap) (locs : List Loc) (ls : Array Slot), rEx D a cA A σ s.heap H locs → lv_has ls 2 [(0, .ref (a 0))] → rJ_Md_begin_33 σ = some σ2 → W p l e rrm_Md_begin s m args below meth c H locs 0 0 (MQ below (rqv D a cA A g σ2) args s 0 0 A) (F0 m 33 ls []) := by
  intro σ H locs ls E hl hM
  unfold rJ_Md_begin_33 at hM
  refine lv_aload_n S.1 S.2.1 d_Md_begin_33 rfl (lv_at hl 0 rfl) ?_
  refine rgf_Md_77_0 S hK E d_Md_begin_34 ?_
  refine lv_if_le (tgt := 45) S.1 S.2.1 d_Md_begin_37 (by decide) (fun c1 => ?_) (fun c1 => ?_)
  · have hM := ifP hM c1
    obtain rfl := Option.some.inj hM
    exact rretv S hr hlk hK E d_Md_begin_45
  · have hM := ifN hM c1
    refine lv_aload_n S.1 S.2.1 d_Md_begin_40 rfl (lv_at hl 0 rfl) ?_
    refine lv_iconst (v := 0) S.1 S.2.1 d_Md_begin_41 (by decide) ?_
    obtain ⟨σ3, h2, hM⟩ := bv_inv hM
    refine rcr_6 (As := [.int 0]) (rest := []) S hK E (rC_Md_goInto h2) ⟨Nat.le_of_ble_eq_true rfl, Nat.le_of_ble_eq_true rfl⟩ rfl rfl hl.1 (lv_room (Nat.le_of_ble_eq_true rfl)) d_Md_begin_42 (fun H locs E => ?_)
    obtain rfl := Option.some.inj hM
    exact rretv S hr hlk hK E d_Md_begin_45
set_option maxHeartbeats 4000000 in
set_option maxRecDepth 100000 in
theorem rB_Md_begin_12 {p : Program} {l : Launch} {e : Env} {s : State} {m : MethodId} {args : Array Value} {below : List Frame} {meth : Method} {c : Code} {D : va_G} {a : Nat → Nat} {cA : Nat → ClassId} {A : Nat → Prop} {g : Nat → Nat} {σ2 : St} (S : CallFix p m c prog_10_method_14_code 2 s args AW R_Md) (hr : meth.sig.returnType = none) (hlk : meth.locks = false) (hK : rKX D cA A g s s.heap) : ∀ (n : Nat) (σ : St) (v1 : Int32) (H : Heap) (locs : List Loc) (ls : Array Slot), rEx D a cA A σ s.heap H locs → lv_has ls 2 [(0, .ref (a 0)), (1, .int v1)] → rL_Md_begin_12 n σ v1 = some σ2 → W p l e rrm_Md_begin s m args below meth c H locs 0 0 (MQ below (rqv D a cA A g σ2) args s 0 0 A) (F0 m 12 ls []) := by
  intro n
  induction n with
  | zero =>
    intro σ v1 H locs ls E hl hM
    rw [rL_Md_begin_12] at hM
    cases hM
  | succ n ih =>
    intro σ v1 H locs ls E hl hM
    rw [rL_Md_begin_12] at hM
    refine lv_iload_n S.1 S.2.1 d_Md_begin_12 rfl (lv_at hl 1 rfl) ?_
    refine lv_aload_n S.1 S.2.1 d_Md_begin_13 rfl (lv_at hl 0 rfl) ?_
    refine rgf_Md_77_0 S hK E d_Md_begin_14 ?_
    refine lv_icmp_ge (tgt := 33) S.1 S.2.1 d_Md_begin_17 (by decide) (fun c1 => ?_) (fun c1 => ?_)
    · have hM := ifP hM c1
      exact rB_Md_begin_33 S hr hlk hK _ _ _ _ E (lv_sub hl [0] rfl) hM
    · have hM := ifN hM c1
      refine lv_aload_n S.1 S.2.1 d_Md_begin_20 rfl (lv_at hl 0 rfl) ?_
      refine rgf_Md_35_0 S hK E d_Md_begin_21 ?_
      refine lv_iload_n S.1 S.2.1 d_Md_begin_24 rfl (lv_at hl 1 rfl) ?_
      refine lv_iconst (v := 0) S.1 S.2.1 d_Md_begin_25 (by decide) ?_
      obtain ⟨h2, hM⟩ := gd_inv hM
      refine ras_9 S hK E h2 d_Md_begin_26 (fun σ3 eσ3 H locs E => ?_)
      have hM := lq_inv hM σ3 eσ3
      obtain ⟨y4, ey4⟩ : ∃ z : Int32, z = v1 + 1 := ⟨_, rfl⟩
      have hM := lq_inv hM y4 ey4
      refine lv_iinc (v := y4) (lv' := [(1, .int y4), (0, .ref (a 0))]) S.1 S.2.1 d_Md_begin_27 hl (k := 1) rfl (by rw [ey4]; rfl) (by decide) rfl (fun ls hl => ?_)
      refine lv_goto (tgt := 12) S.1 S.2.1 d_Md_begin_30 (by decide) ?_
      exact ih _ _ _ _ _ E (lv_sub hl [1, 0] rfl) hM
set_option maxHeartbeats 4000000 in
set_option maxRecDepth 100000 in
theorem rC_Md_begin {l : Launch} {D : va_G} {a : Nat → Nat} {cA : Nat → ClassId} {A : Nat → Prop} {g : Nat → Nat} {σ σ2 : St} (hM : rM_Md_begin σ = some σ2) : Met l y_Md_begin (.code y_Md_begin prog_10_method_14_code 2 none :: AW) rrm_Md_begin (va_Pc [.ref (a 0)] (rCP D a cA A g σ)) (rqv D a cA A g σ2) 0 0 A := by
  refine rmet (nL := 2) (by decide) (Nat.le_of_ble_eq_true rfl) (fun S hr hlk hK E ls hl => ?_)
  have hl : lv_has ls 2 [(0, .ref (a 0))] := hl
  unfold rM_Md_begin at hM
  refine lv_aload_n S.1 S.2.1 d_Md_begin_0 rfl (lv_at hl 0 rfl) ?_
  refine lv_iconst (v := 0) S.1 S.2.1 d_Md_begin_1 (by decide) ?_
  refine rpf_Md_105_0 S hK E d_Md_begin_2 (fun σ1 eσ1 H locs E => ?_)
  have hM := lq_inv hM σ1 eσ1
  refine lv_aload_n S.1 S.2.1 d_Md_begin_5 rfl (lv_at hl 0 rfl) ?_
  refine lv_iconst (v := 0) S.1 S.2.1 d_Md_begin_6 (by decide) ?_
  refine rpf_Md_108_0 S hK E d_Md_begin_7 (fun σ2 eσ2 H locs E => ?_)
  have hM := lq_inv hM σ2 eσ2
  refine lv_iconst (v := 0) S.1 S.2.1 d_Md_begin_10 (by decide) ?_
  refine lv_istore_n (lv' := [(1, .int 0), (0, .ref (a 0))]) S.1 S.2.1 d_Md_begin_11 rfl hl (by decide) rfl (fun ls hl => ?_)
  exact rB_Md_begin_12 S hr hlk hK _ _ _ _ _ _ E (lv_sub hl [1, 0] rfl) hM
set_option maxHeartbeats 4000000 in
set_option maxRecDepth 100000 in
theorem rC_Md_goUp {l : Launch} {D : va_G} {a : Nat → Nat} {cA : Nat → ClassId} {A : Nat → Prop} {g : Nat → Nat} {σ σ2 : St} (hM : rM_Md_goUp σ = some σ2) : Met l y_Md_goUp (.code y_Md_goUp prog_10_method_17_code 1 none :: AW) rrm_Md_goUp (va_Pc [.ref (a 0)] (rCP D a cA A g σ)) (rqv D a cA A g σ2) 0 0 A := by
  refine rmet (nL := 1) (by decide) (Nat.le_of_ble_eq_true rfl) (fun S hr hlk hK E ls hl => ?_)
  have hl : lv_has ls 1 [(0, .ref (a 0))] := hl
  unfold rM_Md_goUp at hM
  refine lv_aload_n S.1 S.2.1 d_Md_goUp_0 rfl (lv_at hl 0 rfl) ?_
  refine lv_dup S.1 S.2.1 d_Md_goUp_1 rfl ?_
  refine rgf_Md_108_0 S hK E d_Md_goUp_2 ?_
  refine lv_iconst (v := 1) S.1 S.2.1 d_Md_goUp_5 (by decide) ?_
  refine lv_isub S.1 S.2.1 d_Md_goUp_6 ?_
  refine rpf_Md_108_0 S hK E d_Md_goUp_7 (fun σ1 eσ1 H locs E => ?_)
  have hM := lq_inv hM σ1 eσ1
  refine lv_aload_n S.1 S.2.1 d_Md_goUp_10 rfl (lv_at hl 0 rfl) ?_
  refine rgf_Md_108_0 S hK E d_Md_goUp_11 ?_
  refine lv_if_le (tgt := 40) S.1 S.2.1 d_Md_goUp_14 (by decide) (fun c2 => ?_) (fun c2 => ?_)
  · have hM := ifP hM c2
    obtain rfl := Option.some.inj hM
    exact rretv S hr hlk hK E d_Md_goUp_40
  · have hM := ifN hM c2
    refine lv_aload_n S.1 S.2.1 d_Md_goUp_17 rfl (lv_at hl 0 rfl) ?_
    refine rgf_Md_47_0 S hK E d_Md_goUp_18 ?_
    refine lv_aload_n S.1 S.2.1 d_Md_goUp_21 rfl (lv_at hl 0 rfl) ?_
    refine rgf_Md_108_0 S hK E d_Md_goUp_22 ?_
    refine lv_iconst (v := 1) S.1 S.2.1 d_Md_goUp_25 (by decide) ?_
    refine lv_isub S.1 S.2.1 d_Md_goUp_26 ?_
    refine lv_dup2_11 S.1 S.2.1 d_Md_goUp_27 rfl rfl ?_
    obtain ⟨h3, hM⟩ := gd_inv hM
    refine ral_13 S hK E h3 d_Md_goUp_28 ?_
    refine lv_aload_n S.1 S.2.1 d_Md_goUp_29 rfl (lv_at hl 0 rfl) ?_
    refine rgf_Md_47_0 S hK E d_Md_goUp_30 ?_
    refine lv_aload_n S.1 S.2.1 d_Md_goUp_33 rfl (lv_at hl 0 rfl) ?_
    refine rgf_Md_108_0 S hK E d_Md_goUp_34 ?_
    obtain ⟨h4, hM⟩ := gd_inv hM
    refine ral_13 S hK E h4 d_Md_goUp_37 ?_
    refine lv_iadd S.1 S.2.1 d_Md_goUp_38 ?_
    obtain ⟨h5, hM⟩ := gd_inv hM
    refine ras_13 S hK E h5 d_Md_goUp_39 (fun σ6 eσ6 H locs E => ?_)
    have hM := lq_inv hM σ6 eσ6
    obtain rfl := Option.some.inj hM
    exact rretv S hr hlk hK E d_Md_goUp_40
set_option maxHeartbeats 4000000 in
set_option maxRecDepth 100000 in
theorem rC_Md_takePage {l : Launch} {D : va_G} {a : Nat → Nat} {cA : Nat → ClassId} {A : Nat → Prop} {g : Nat → Nat} {σ σ2 : St} {x1 : Int32} (hM : rM_Md_takePage σ x1 = some σ2) : Met l y_Md_takePage (.code y_Md_takePage prog_10_method_16_code 2 none :: AW) rrm_Md_takePage (va_Pc [.ref (a 0), .int x1] (rCP D a cA A g σ)) (rqv D a cA A g σ2) 0 0 A := by
  refine rmet (nL := 2) (by decide) (Nat.le_of_ble_eq_true rfl) (fun S hr hlk hK E ls hl => ?_)
  have hl : lv_has ls 2 [(0, .ref (a 0)), (1, .int x1)] := hl
  unfold rM_Md_takePage at hM
  refine lv_aload_n S.1 S.2.1 d_Md_takePage_0 rfl (lv_at hl 0 rfl) ?_
  refine rgf_Md_35_0 S hK E d_Md_takePage_1 ?_
  refine lv_iload_n S.1 S.2.1 d_Md_takePage_4 rfl (lv_at hl 1 rfl) ?_
  refine lv_iconst (v := 1) S.1 S.2.1 d_Md_takePage_5 (by decide) ?_
  obtain ⟨h1, hM⟩ := gd_inv hM
  refine ras_9 S hK E h1 d_Md_takePage_6 (fun σ2 eσ2 H locs E => ?_)
  have hM := lq_inv hM σ2 eσ2
  refine lv_aload_n S.1 S.2.1 d_Md_takePage_7 rfl (lv_at hl 0 rfl) ?_
  refine rgf_Md_38_0 S hK E d_Md_takePage_8 ?_
  refine lv_aload_n S.1 S.2.1 d_Md_takePage_11 rfl (lv_at hl 0 rfl) ?_
  refine rgf_Md_105_0 S hK E d_Md_takePage_12 ?_
  refine lv_iload_n S.1 S.2.1 d_Md_takePage_15 rfl (lv_at hl 1 rfl) ?_
  obtain ⟨h3, hM⟩ := gd_inv hM
  refine ras_10 S hK E h3 d_Md_takePage_16 (fun σ4 eσ4 H locs E => ?_)
  have hM := lq_inv hM σ4 eσ4
  refine lv_aload_n S.1 S.2.1 d_Md_takePage_17 rfl (lv_at hl 0 rfl) ?_
  refine rgf_Md_41_0 S hK E d_Md_takePage_18 ?_
  refine lv_aload_n S.1 S.2.1 d_Md_takePage_21 rfl (lv_at hl 0 rfl) ?_
  refine rgf_Md_105_0 S hK E d_Md_takePage_22 ?_
  refine lv_aload_n S.1 S.2.1 d_Md_takePage_25 rfl (lv_at hl 0 rfl) ?_
  refine rgf_Md_29_0 S hK E d_Md_takePage_26 ?_
  refine lv_aload_n S.1 S.2.1 d_Md_takePage_29 rfl (lv_at hl 0 rfl) ?_
  refine rgf_Md_108_0 S hK E d_Md_takePage_30 ?_
  refine lv_iconst (v := 1) S.1 S.2.1 d_Md_takePage_33 (by decide) ?_
  refine lv_isub S.1 S.2.1 d_Md_takePage_34 ?_
  obtain ⟨h5, hM⟩ := gd_inv hM
  refine ral_7 S hK E h5 d_Md_takePage_35 ?_
  obtain ⟨h6, hM⟩ := gd_inv hM
  refine ras_11 S hK E h6 d_Md_takePage_36 (fun σ7 eσ7 H locs E => ?_)
  have hM := lq_inv hM σ7 eσ7
  refine lv_aload_n S.1 S.2.1 d_Md_takePage_37 rfl (lv_at hl 0 rfl) ?_
  refine rgf_Md_44_0 S hK E d_Md_takePage_38 ?_
  refine lv_aload_n S.1 S.2.1 d_Md_takePage_41 rfl (lv_at hl 0 rfl) ?_
  refine rgf_Md_105_0 S hK E d_Md_takePage_42 ?_
  refine lv_aload_n S.1 S.2.1 d_Md_takePage_45 rfl (lv_at hl 0 rfl) ?_
  refine rgf_Md_32_0 S hK E d_Md_takePage_46 ?_
  refine lv_aload_n S.1 S.2.1 d_Md_takePage_49 rfl (lv_at hl 0 rfl) ?_
  refine rgf_Md_108_0 S hK E d_Md_takePage_50 ?_
  refine lv_iconst (v := 1) S.1 S.2.1 d_Md_takePage_53 (by decide) ?_
  refine lv_isub S.1 S.2.1 d_Md_takePage_54 ?_
  obtain ⟨h8, hM⟩ := gd_inv hM
  refine ral_8 S hK E h8 d_Md_takePage_55 ?_
  obtain ⟨h9, hM⟩ := gd_inv hM
  refine ras_12 S hK E h9 d_Md_takePage_56 (fun σ10 eσ10 H locs E => ?_)
  have hM := lq_inv hM σ10 eσ10
  refine lv_aload_n S.1 S.2.1 d_Md_takePage_57 rfl (lv_at hl 0 rfl) ?_
  refine lv_dup S.1 S.2.1 d_Md_takePage_58 rfl ?_
  refine rgf_Md_105_0 S hK E d_Md_takePage_59 ?_
  refine lv_iconst (v := 1) S.1 S.2.1 d_Md_takePage_62 (by decide) ?_
  refine lv_iadd S.1 S.2.1 d_Md_takePage_63 ?_
  refine rpf_Md_105_0 S hK E d_Md_takePage_64 (fun σ11 eσ11 H locs E => ?_)
  have hM := lq_inv hM σ11 eσ11
  refine lv_aload_n S.1 S.2.1 d_Md_takePage_67 rfl (lv_at hl 0 rfl) ?_
  refine rgf_Md_47_0 S hK E d_Md_takePage_68 ?_
  refine lv_aload_n S.1 S.2.1 d_Md_takePage_71 rfl (lv_at hl 0 rfl) ?_
  refine rgf_Md_108_0 S hK E d_Md_takePage_72 ?_
  refine lv_iconst (v := 1) S.1 S.2.1 d_Md_takePage_75 (by decide) ?_
  refine lv_isub S.1 S.2.1 d_Md_takePage_76 ?_
  refine lv_dup2_11 S.1 S.2.1 d_Md_takePage_77 rfl rfl ?_
  obtain ⟨h12, hM⟩ := gd_inv hM
  refine ral_13 S hK E h12 d_Md_takePage_78 ?_
  refine lv_iconst (v := 1) S.1 S.2.1 d_Md_takePage_79 (by decide) ?_
  refine lv_iadd S.1 S.2.1 d_Md_takePage_80 ?_
  obtain ⟨h13, hM⟩ := gd_inv hM
  refine ras_13 S hK E h13 d_Md_takePage_81 (fun σ14 eσ14 H locs E => ?_)
  have hM := lq_inv hM σ14 eσ14
  obtain rfl := Option.some.inj hM
  exact rretv S hr hlk hK E d_Md_takePage_82
