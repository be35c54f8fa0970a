set_option maxHeartbeats 4000000 in
set_option maxRecDepth 100000 in
theorem kC_Labels_writeSign {l : Launch} {D : va_G} {a : Nat → Nat} {cA : Nat → ClassId} {A : Nat → Prop} {g : Nat → Nat} {σ σ2 : St} {x1 : Int32} (hM : kM_Labels_writeSign σ x1 = some σ2) : Met l y_Labels_writeSign (.code y_Labels_writeSign prog_4_method_14_code 2 none :: AW) krm_Labels_writeSign (va_Pc [.ref (a 5), .int x1] (kCP D a cA A g σ)) (kqv D a cA A g σ2) 0 0 A := by
  refine kmet (nL := 2) (by decide) (Nat.le_of_ble_eq_true rfl) (fun S hr hlk hK E ls hl => ?_)
  have hl : lv_has ls 2 [(0, .ref (a 5)), (1, .int x1)] := hl
  unfold kM_Labels_writeSign at hM
  refine lv_aload_n S.1 S.2.1 d_Labels_writeSign_0 rfl (lv_at hl 0 rfl) ?_
  refine kgf_Labels_36_5 S hK E d_Labels_writeSign_1 ?_
  refine lv_bipush (v := 64) S.1 S.2.1 d_Labels_writeSign_4 (by decide) ?_
  refine lv_icmp_ge (tgt := 29) S.1 S.2.1 d_Labels_writeSign_6 (by decide) (fun c1 => ?_) (fun c1 => ?_)
  · have hM := ifP hM c1
    obtain rfl := Option.some.inj hM
    exact kretv S hr hlk hK E d_Labels_writeSign_29
  · have hM := ifN hM c1
    refine lv_aload_n S.1 S.2.1 d_Labels_writeSign_9 rfl (lv_at hl 0 rfl) ?_
    refine kgf_Labels_21_5 S hK E d_Labels_writeSign_10 ?_
    refine lv_aload_n S.1 S.2.1 d_Labels_writeSign_13 rfl (lv_at hl 0 rfl) ?_
    refine kgf_Labels_36_5 S hK E d_Labels_writeSign_14 ?_
    refine lv_iload_n S.1 S.2.1 d_Labels_writeSign_17 rfl (lv_at hl 1 rfl) ?_
    obtain ⟨h2, hM⟩ := gd_inv hM
    refine kas_30 S hK E h2 d_Labels_writeSign_18 (fun σ3 eσ3 H locs E => ?_)
    have hM := lq_inv hM σ3 eσ3
    refine lv_aload_n S.1 S.2.1 d_Labels_writeSign_19 rfl (lv_at hl 0 rfl) ?_
    refine lv_dup S.1 S.2.1 d_Labels_writeSign_20 rfl ?_
    refine kgf_Labels_36_5 S hK E d_Labels_writeSign_21 ?_
    refine lv_iconst (v := 1) S.1 S.2.1 d_Labels_writeSign_24 (by decide) ?_
    refine lv_iadd S.1 S.2.1 d_Labels_writeSign_25 ?_
    refine kpf_Labels_36_5 S hK E d_Labels_writeSign_26 (fun σ4 eσ4 H locs E => ?_)
    have hM := lq_inv hM σ4 eσ4
    obtain rfl := Option.some.inj hM
    exact kretv S hr hlk hK E d_Labels_writeSign_29
set_option maxHeartbeats 4000000 in
set_option maxRecDepth 100000 in
theorem kB_Labels_writeDigits_27 {p : Program} {l : Launch} {e : Env} {s : State} {m : MethodId} {args : Array Value} {below : List Frame} {meth : Method} {c : Code} {D : va_G} {a : Nat → Nat} {cA : Nat → ClassId} {A : Nat → Prop} {g : Nat → Nat} {σ2 : St} (S : CallFix p m c prog_4_method_9_code 3 s args AW R_Labels) (hr : meth.sig.returnType = none) (hlk : meth.locks = false) (hK : kKX D cA A g s s.heap) {k4 : St → Int32 → Int32 → Option (St)} (hk4 : ∀ (σ : St) (v1 : Int32) (v2 : Int32) (H : Heap) (locs : List Loc) (ls : Array Slot), kEx D a cA A σ s.heap H locs → lv_has ls 3 [(0, .ref (a 5)), (1, .int v1), (2, .int v2)] → k4 σ v1 v2 = some σ2 → W p l e krm_Labels_writeDigits s m args below meth c H locs 0 0 (MQ below (kqv D a cA A g σ2) args s 0 0 A) (F0 m 4 ls [])) : ∀ (σ : St) (v1 : Int32) (v2 : Int32) (H : Heap) (locs : List Loc) (ls : Array Slot), kEx D a cA A σ s.heap H locs → lv_has ls 3 [(0, .ref (a 5)), (1, .int v1), (2, .int v2)] → kJ_Labels_writeDigits_27 k4 σ v1 v2 = some σ2 → W p l e krm_Labels_writeDigits s m args below meth c H locs 0 0 (MQ below (kqv D a cA A g σ2) args s 0 0 A) (F0 m 27 ls []) := by
  intro σ v1 v2 H locs ls E hl hM
  unfold kJ_Labels_writeDigits_27 at hM
  refine lv_iload_n S.1 S.2.1 d_Labels_writeDigits_27 rfl (lv_at hl 2 rfl) ?_
  refine lv_bipush (v := 10) S.1 S.2.1 d_Labels_writeDigits_28 (by decide) ?_
  refine lv_idiv S.1 S.2.1 d_Labels_writeDigits_30 (by decide) ?_
  refine lv_topi (fun y1 ey1 => ?_)
  have hM := lq_inv hM y1 ey1
  refine lv_istore_n (lv' := [(2, .int y1), (0, .ref (a 5)), (1, .int v1)]) S.1 S.2.1 d_Labels_writeDigits_31 rfl hl (by decide) rfl (fun ls hl => ?_)
  refine lv_goto (tgt := 4) S.1 S.2.1 d_Labels_writeDigits_32 (by decide) ?_
  exact hk4 _ _ _ _ _ _ E (lv_sub hl [1, 2, 0] rfl) hM
set_option maxHeartbeats 4000000 in
set_option maxRecDepth 100000 in
theorem kB_Labels_writeDigits_4 {p : Program} {l : Launch} {e : Env} {s : State} {m : MethodId} {args : Array Value} {below : List Frame} {meth : Method} {c : Code} {D : va_G} {a : Nat → Nat} {cA : Nat → ClassId} {A : Nat → Prop} {g : Nat → Nat} {σ2 : St} (S : CallFix p m c prog_4_method_9_code 3 s args AW R_Labels) (hr : meth.sig.returnType = none) (hlk : meth.locks = false) (hK : kKX D cA A g s s.heap) : ∀ (n : Nat) (σ : St) (v1 : Int32) (v2 : Int32) (H : Heap) (locs : List Loc) (ls : Array Slot), kEx D a cA A σ s.heap H locs → lv_has ls 3 [(0, .ref (a 5)), (1, .int v1), (2, .int v2)] → kL_Labels_writeDigits_4 n σ v1 v2 = some σ2 → W p l e krm_Labels_writeDigits s m args below meth c H locs 0 0 (MQ below (kqv D a cA A g σ2) args s 0 0 A) (F0 m 4 ls []) := by
  intro n
  induction n with
  | zero =>
    intro σ v1 v2 H locs ls E hl hM
    rw [kL_Labels_writeDigits_4] at hM
    cases hM
  | succ n ih =>
    intro σ v1 v2 H locs ls E hl hM
    rw [kL_Labels_writeDigits_4] at hM
    refine lv_iload_n S.1 S.2.1 d_Labels_writeDigits_4 rfl (lv_at hl 2 rfl) ?_
    refine lv_if_le (tgt := 35) S.1 S.2.1 d_Labels_writeDigits_5 (by decide) (fun c1 => ?_) (fun c1 => ?_)
    · have hM := ifP hM c1
      obtain rfl := Option.some.inj hM
      exact kretv S hr hlk hK E d_Labels_writeDigits_35
    · have hM := ifN hM c1
      refine lv_iload_n S.1 S.2.1 d_Labels_writeDigits_8 rfl (lv_at hl 1 rfl) ?_
      refine lv_iload_n S.1 S.2.1 d_Labels_writeDigits_9 rfl (lv_at hl 2 rfl) ?_
      refine lv_icmp_lt (tgt := 27) S.1 S.2.1 d_Labels_writeDigits_10 (by decide) (fun c2 => ?_) (fun c2 => ?_)
      · have hM := ifP hM c2
        exact kB_Labels_writeDigits_27 S hr hlk hK ih _ _ _ _ _ _ E (lv_sub hl [0, 1, 2] rfl) hM
      · have hM := ifN hM c2
        refine lv_aload_n S.1 S.2.1 d_Labels_writeDigits_13 rfl (lv_at hl 0 rfl) ?_
        refine lv_bipush (v := 48) S.1 S.2.1 d_Labels_writeDigits_14 (by decide) ?_
        refine lv_iload_n S.1 S.2.1 d_Labels_writeDigits_16 rfl (lv_at hl 1 rfl) ?_
        refine lv_iload_n S.1 S.2.1 d_Labels_writeDigits_17 rfl (lv_at hl 2 rfl) ?_
        obtain ⟨h3, hM⟩ := gd_inv hM
        refine lv_idiv S.1 S.2.1 d_Labels_writeDigits_18 (nzB_ne h3) ?_
        refine lv_bipush (v := 10) S.1 S.2.1 d_Labels_writeDigits_19 (by decide) ?_
        refine lv_irem S.1 S.2.1 d_Labels_writeDigits_21 (by decide) ?_
        refine lv_iadd S.1 S.2.1 d_Labels_writeDigits_22 ?_
        refine lv_i2c (v := (((48 + ((v1 / v2) - (v1 / v2) / 10 * 10))).toUInt32 % 65536).toInt32) S.1 S.2.1 d_Labels_writeDigits_23 rfl ?_
        obtain ⟨σ5, h4, hM⟩ := bv_inv hM
        refine kcr_77 (As := [.int ((((48 + ((v1 / v2) - (v1 / v2) / 10 * 10))).toUInt32 % 65536).toInt32)]) (rest := []) S hK E (kC_Labels_writeSign h4) ⟨Nat.le_of_ble_eq_true rfl, Nat.le_of_ble_eq_true rfl⟩ rfl rfl hl.1 (lv_room (Nat.le_of_ble_eq_true rfl)) d_Labels_writeDigits_24 (fun H locs E => ?_)
        exact kB_Labels_writeDigits_27 S hr hlk hK ih _ _ _ _ _ _ E (lv_sub hl [0, 1, 2] rfl) hM
set_option maxHeartbeats 4000000 in
set_option maxRecDepth 100000 in
theorem kC_Labels_writeDigits {l : Launch} {D : va_G} {a : Nat → Nat} {cA : Nat → ClassId} {A : Nat → Prop} {g : Nat → Nat} {σ σ2 : St} {x1 : Int32} (hM : kM_Labels_writeDigits σ x1 = some σ2) : Met l y_Labels_writeDigits (.code y_Labels_writeDigits prog_4_method_9_code 3 none :: AW) krm_Labels_writeDigits (va_Pc [.ref (a 5), .int x1] (kCP D a cA A g σ)) (kqv D a cA A g σ2) 0 0 A := by
  refine kmet (nL := 3) (by decide) (Nat.le_of_ble_eq_true rfl) (fun S hr hlk hK E ls hl => ?_)
  have hl : lv_has ls 3 [(0, .ref (a 5)), (1, .int x1)] := hl
  unfold kM_Labels_writeDigits at hM
  refine lv_sipush (v := 1000) S.1 S.2.1 d_Labels_writeDigits_0 (by decide) ?_
  refine lv_istore_n (lv' := [(2, .int 1000), (0, .ref (a 5)), (1, .int x1)]) S.1 S.2.1 d_Labels_writeDigits_3 rfl hl (by decide) rfl (fun ls hl => ?_)
  exact kB_Labels_writeDigits_4 S hr hlk hK _ _ _ _ _ _ _ E (lv_sub hl [1, 2, 0] rfl) hM
set_option maxHeartbeats 4000000 in
set_option maxRecDepth 100000 in
theorem kC_Labels_romanSigns {l : Launch} {D : va_G} {a : Nat → Nat} {cA : Nat → ClassId} {A : Nat → Prop} {g : Nat → Nat} {σ : St} {x0 : Int32} {r : Int32} (hM : kM_Labels_romanSigns σ x0 = some r) : Met l y_Labels_romanSigns (.code y_Labels_romanSigns prog_4_method_11_code 1 (some (.object "java/lang/String")) :: AW) krm_Labels_romanSigns (va_Pc [.int x0] (kCP D a cA A g σ)) (kqs D a cA A g r σ) 0 0 A := by
  refine kmet (nL := 1) (by decide) (Nat.le_of_ble_eq_true rfl) (fun S hr hlk hK E ls hl => ?_)
  have hl : lv_has ls 1 [(0, .int x0)] := hl
  unfold kM_Labels_romanSigns at hM
  refine lv_iload_n S.1 S.2.1 d_Labels_romanSigns_0 rfl (lv_at hl 0 rfl) ?_
  by_cases c1 : x0 = 4
  · have hM := ifP hM c1
    refine lv_lookup (tgt := 141) (off := 140) S.1 S.2.1 d_Labels_romanSigns_1 (by decide) (by rw [c1]; rfl) (by decide) ?_
    refine va_ldcS S.1 S.2.1 S.2.2.2.1 (kTX_str hK 11 (by decide)) d_Labels_romanSigns_141 ?_
    obtain rfl := Option.some.inj hM
    exact krets S hr hlk hK E d_Labels_romanSigns_143
  have hM := ifN hM c1
  by_cases c2 : x0 = 5
  · have hM := ifP hM c2
    refine lv_lookup (tgt := 138) (off := 137) S.1 S.2.1 d_Labels_romanSigns_1 (by decide) (by rw [c2]; rfl) (by decide) ?_
    refine va_ldcS S.1 S.2.1 S.2.2.2.1 (kTX_str hK 10 (by decide)) d_Labels_romanSigns_138 ?_
    obtain rfl := Option.some.inj hM
    exact krets S hr hlk hK E d_Labels_romanSigns_140
  have hM := ifN hM c2
  by_cases c3 : x0 = 9
  · have hM := ifP hM c3
    refine lv_lookup (tgt := 135) (off := 134) S.1 S.2.1 d_Labels_romanSigns_1 (by decide) (by rw [c3]; rfl) (by decide) ?_
    refine va_ldcS S.1 S.2.1 S.2.2.2.1 (kTX_str hK 9 (by decide)) d_Labels_romanSigns_135 ?_
    obtain rfl := Option.some.inj hM
    exact krets S hr hlk hK E d_Labels_romanSigns_137
  have hM := ifN hM c3
  by_cases c4 : x0 = 10
  · have hM := ifP hM c4
    refine lv_lookup (tgt := 132) (off := 131) S.1 S.2.1 d_Labels_romanSigns_1 (by decide) (by rw [c4]; rfl) (by decide) ?_
    refine va_ldcS S.1 S.2.1 S.2.2.2.1 (kTX_str hK 8 (by decide)) d_Labels_romanSigns_132 ?_
    obtain rfl := Option.some.inj hM
    exact krets S hr hlk hK E d_Labels_romanSigns_134
  have hM := ifN hM c4
  by_cases c5 : x0 = 40
  · have hM := ifP hM c5
    refine lv_lookup (tgt := 129) (off := 128) S.1 S.2.1 d_Labels_romanSigns_1 (by decide) (by rw [c5]; rfl) (by decide) ?_
    refine va_ldcS S.1 S.2.1 S.2.2.2.1 (kTX_str hK 7 (by decide)) d_Labels_romanSigns_129 ?_
    obtain rfl := Option.some.inj hM
    exact krets S hr hlk hK E d_Labels_romanSigns_131
  have hM := ifN hM c5
  by_cases c6 : x0 = 50
  · have hM := ifP hM c6
    refine lv_lookup (tgt := 126) (off := 125) S.1 S.2.1 d_Labels_romanSigns_1 (by decide) (by rw [c6]; rfl) (by decide) ?_
    refine va_ldcS S.1 S.2.1 S.2.2.2.1 (kTX_str hK 6 (by decide)) d_Labels_romanSigns_126 ?_
    obtain rfl := Option.some.inj hM
    exact krets S hr hlk hK E d_Labels_romanSigns_128
  have hM := ifN hM c6
  by_cases c7 : x0 = 90
  · have hM := ifP hM c7
    refine lv_lookup (tgt := 123) (off := 122) S.1 S.2.1 d_Labels_romanSigns_1 (by decide) (by rw [c7]; rfl) (by decide) ?_
    refine va_ldcS S.1 S.2.1 S.2.2.2.1 (kTX_str hK 5 (by decide)) d_Labels_romanSigns_123 ?_
    obtain rfl := Option.some.inj hM
    exact krets S hr hlk hK E d_Labels_romanSigns_125
  have hM := ifN hM c7
  by_cases c8 : x0 = 100
  · have hM := ifP hM c8
    refine lv_lookup (tgt := 120) (off := 119) S.1 S.2.1 d_Labels_romanSigns_1 (by decide) (by rw [c8]; rfl) (by decide) ?_
    refine va_ldcS S.1 S.2.1 S.2.2.2.1 (kTX_str hK 4 (by decide)) d_Labels_romanSigns_120 ?_
    obtain rfl := Option.some.inj hM
    exact krets S hr hlk hK E d_Labels_romanSigns_122
  have hM := ifN hM c8
  by_cases c9 : x0 = 400
  · have hM := ifP hM c9
    refine lv_lookup (tgt := 117) (off := 116) S.1 S.2.1 d_Labels_romanSigns_1 (by decide) (by rw [c9]; rfl) (by decide) ?_
    refine va_ldcS S.1 S.2.1 S.2.2.2.1 (kTX_str hK 3 (by decide)) d_Labels_romanSigns_117 ?_
    obtain rfl := Option.some.inj hM
    exact krets S hr hlk hK E d_Labels_romanSigns_119
  have hM := ifN hM c9
  by_cases c10 : x0 = 500
  · have hM := ifP hM c10
    refine lv_lookup (tgt := 114) (off := 113) S.1 S.2.1 d_Labels_romanSigns_1 (by decide) (by rw [c10]; rfl) (by decide) ?_
    refine va_ldcS S.1 S.2.1 S.2.2.2.1 (kTX_str hK 2 (by decide)) d_Labels_romanSigns_114 ?_
    obtain rfl := Option.some.inj hM
    exact krets S hr hlk hK E d_Labels_romanSigns_116
  have hM := ifN hM c10
  by_cases c11 : x0 = 900
  · have hM := ifP hM c11
    refine lv_lookup (tgt := 111) (off := 110) S.1 S.2.1 d_Labels_romanSigns_1 (by decide) (by rw [c11]; rfl) (by decide) ?_
    refine va_ldcS S.1 S.2.1 S.2.2.2.1 (kTX_str hK 1 (by decide)) d_Labels_romanSigns_111 ?_
    obtain rfl := Option.some.inj hM
    exact krets S hr hlk hK E d_Labels_romanSigns_113
  have hM := ifN hM c11
  by_cases c12 : x0 = 1000
  · have hM := ifP hM c12
    refine lv_lookup (tgt := 108) (off := 107) S.1 S.2.1 d_Labels_romanSigns_1 (by decide) (by rw [c12]; rfl) (by decide) ?_
    refine va_ldcS S.1 S.2.1 S.2.2.2.1 (kTX_str hK 0 (by decide)) d_Labels_romanSigns_108 ?_
    obtain rfl := Option.some.inj hM
    exact krets S hr hlk hK E d_Labels_romanSigns_110
  have hM := ifN hM c12
  refine lv_lookup (tgt := 144) (off := 143) S.1 S.2.1 d_Labels_romanSigns_1 (by decide) ((lv_osw c1 (by decide)).trans ((lv_osw c2 (by decide)).trans ((lv_osw c3 (by decide)).trans ((lv_osw c4 (by decide)).trans ((lv_osw c5 (by decide)).trans ((lv_osw c6 (by decide)).trans ((lv_osw c7 (by decide)).trans ((lv_osw c8 (by decide)).trans ((lv_osw c9 (by decide)).trans ((lv_osw c10 (by decide)).trans ((lv_osw c11 (by decide)).trans ((lv_osw c12 (by decide)).trans rfl)))))))))))) (by decide) ?_
  refine va_ldcS S.1 S.2.1 S.2.2.2.1 (kTX_str hK 12 (by decide)) d_Labels_romanSigns_144 ?_
  obtain rfl := Option.some.inj hM
  exact krets S hr hlk hK E d_Labels_romanSigns_146
set_option maxHeartbeats 4000000 in
set_option maxRecDepth 100000 in
theorem kB_Labels_writeSigns_2 {p : Program} {l : Launch} {e : Env} {s : State} {m : MethodId} {args : Array Value} {below : List Frame} {meth : Method} {c : Code} {D : va_G} {a : Nat → Nat} {cA : Nat → ClassId} {A : Nat → Prop} {g : Nat → Nat} {σ2 : St} (S : CallFix p m c prog_4_method_13_code 3 s args AW R_Labels) (hr : meth.sig.returnType = none) (hlk : meth.locks = false) (hK : kKX D cA A g s s.heap) : ∀ (n : Nat) (σ : St) (v1 : Int32) (v2 : Int32) (H : Heap) (locs : List Loc) (ls : Array Slot), kEx D a cA A σ s.heap H locs → lv_has ls 3 [(0, .ref (a 5)), (1, .ref (kSA g (v1 : Int32).toNatClampNeg)), (2, .int v2)] → kL_Labels_writeSigns_2 n σ v1 v2 = some σ2 → W p l e krm_Labels_writeSigns s m args below meth c H locs 0 0 (MQ below (kqv D a cA A g σ2) args s 0 0 A) (F0 m 2 ls []) := by
  intro n
  induction n with
  | zero =>
    intro σ v1 v2 H locs ls E hl hM
    rw [kL_Labels_writeSigns_2] at hM
    cases hM
  | succ n ih =>
    intro σ v1 v2 H locs ls E hl hM
    rw [kL_Labels_writeSigns_2] at hM
    refine lv_iload_n S.1 S.2.1 d_Labels_writeSigns_2 rfl (lv_at hl 2 rfl) ?_
    refine lv_aload_n S.1 S.2.1 d_Labels_writeSigns_3 rfl (lv_at hl 1 rfl) ?_
    obtain ⟨h1, hM⟩ := gd_inv hM
    refine kstr_len (rest := [.int v2]) (j := v1) S hK E h1 ⟨Nat.le_of_ble_eq_true rfl, Nat.le_of_ble_eq_true rfl⟩ hl.1 (lv_room (Nat.le_of_ble_eq_true rfl)) d_Labels_writeSigns_4 (fun H locs E => ?_)
    refine lv_icmp_ge (tgt := 25) S.1 S.2.1 d_Labels_writeSigns_7 (by decide) (fun c2 => ?_) (fun c2 => ?_)
    · have hM := ifP hM c2
      obtain rfl := Option.some.inj hM
      exact kretv S hr hlk hK E d_Labels_writeSigns_25
    · have hM := ifN hM c2
      refine lv_aload_n S.1 S.2.1 d_Labels_writeSigns_10 rfl (lv_at hl 0 rfl) ?_
      refine lv_aload_n S.1 S.2.1 d_Labels_writeSigns_11 rfl (lv_at hl 1 rfl) ?_
      refine lv_iload_n S.1 S.2.1 d_Labels_writeSigns_12 rfl (lv_at hl 2 rfl) ?_
      obtain ⟨h3, hM⟩ := gd_inv hM
      obtain ⟨h4, hM⟩ := gd_inv hM
      refine kstr_chr (rest := [.ref (a 5)]) (j := v1) (i := v2) S hK E h3 h4 ⟨Nat.le_of_ble_eq_true rfl, Nat.le_of_ble_eq_true rfl⟩ hl.1 (lv_room (Nat.le_of_ble_eq_true rfl)) d_Labels_writeSigns_13 (fun H locs E => ?_)
      obtain ⟨σ6, h5, hM⟩ := bv_inv hM
      refine kcr_77 (As := [.int (kSC v1 v2)]) (rest := []) S hK E (kC_Labels_writeSign h5) ⟨Nat.le_of_ble_eq_true rfl, Nat.le_of_ble_eq_true rfl⟩ rfl rfl hl.1 (lv_room (Nat.le_of_ble_eq_true rfl)) d_Labels_writeSigns_16 (fun H locs E => ?_)
      obtain ⟨y7, ey7⟩ : ∃ z : Int32, z = v2 + 1 := ⟨_, rfl⟩
      have hM := lq_inv hM y7 ey7
      refine lv_iinc (v := y7) (lv' := [(2, .int y7), (0, .ref (a 5)), (1, .ref (kSA g (v1 : Int32).toNatClampNeg))]) S.1 S.2.1 d_Labels_writeSigns_19 hl (k := 2) rfl (by rw [ey7]; rfl) (by decide) rfl (fun ls hl => ?_)
      refine lv_goto (tgt := 2) S.1 S.2.1 d_Labels_writeSigns_22 (by decide) ?_
      exact ih _ _ _ _ _ _ E (lv_sub hl [1, 2, 0] rfl) hM
set_option maxHeartbeats 4000000 in
set_option maxRecDepth 100000 in
theorem kC_Labels_writeSigns {l : Launch} {D : va_G} {a : Nat → Nat} {cA : Nat → ClassId} {A : Nat → Prop} {g : Nat → Nat} {σ σ2 : St} {x1 : Int32} (hM : kM_Labels_writeSigns σ x1 = some σ2) : Met l y_Labels_writeSigns (.code y_Labels_writeSigns prog_4_method_13_code 3 none :: AW) krm_Labels_writeSigns (va_Pc [.ref (a 5), .ref (kSA g (x1 : Int32).toNatClampNeg)] (kCP D a cA A g σ)) (kqv D a cA A g σ2) 0 0 A := by
  refine kmet (nL := 3) (by decide) (Nat.le_of_ble_eq_true rfl) (fun S hr hlk hK E ls hl => ?_)
  have hl : lv_has ls 3 [(0, .ref (a 5)), (1, .ref (kSA g (x1 : Int32).toNatClampNeg))] := hl
  unfold kM_Labels_writeSigns at hM
  refine lv_iconst (v := 0) S.1 S.2.1 d_Labels_writeSigns_0 (by decide) ?_
  refine lv_istore_n (lv' := [(2, .int 0), (0, .ref (a 5)), (1, .ref (kSA g (x1 : Int32).toNatClampNeg))]) S.1 S.2.1 d_Labels_writeSigns_1 rfl hl (by decide) rfl (fun ls hl => ?_)
  exact kB_Labels_writeSigns_2 S hr hlk hK _ _ _ _ _ _ _ E (lv_sub hl [1, 2, 0] rfl) hM
set_option maxHeartbeats 4000000 in
set_option maxRecDepth 100000 in
theorem kB_Labels_writeRoman_49 {p : Program} {l : Launch} {e : Env} {s : State} {m : MethodId} {args : Array Value} {below : List Frame} {meth : Method} {c : Code} {D : va_G} {a : Nat → Nat} {cA : Nat → ClassId} {A : Nat → Prop} {g : Nat → Nat} {σ2 : St} (S : CallFix p m c prog_4_method_10_code 7 s args AW R_Labels) (hr : meth.sig.returnType = none) (hlk : meth.locks = false) (hK : kKX D cA A g s s.heap) {k13 : St → Int32 → Int32 → Int32 → Option (St)} (hk13 : ∀ (σ : St) (v2 : Int32) (v4 : Int32) (v5 : Int32) (H : Heap) (locs : List Loc) (ls : Array Slot), kEx D a cA A σ s.heap H locs → lv_has ls 7 [(0, .ref (a 5)), (2, .int v2), (3, .ref (g 0)), (4, .int v4), (5, .int v5)] → k13 σ v2 v4 v5 = some σ2 → W p l e krm_Labels_writeRoman s m args below meth c H locs 0 0 (MQ below (kqv D a cA A g σ2) args s 0 0 A) (F0 m 13 ls [])) : ∀ (σ : St) (v2 : Int32) (v4 : Int32) (v5 : Int32) (H : Heap) (locs : List Loc) (ls : Array Slot), kEx D a cA A σ s.heap H locs → lv_has ls 7 [(0, .ref (a 5)), (2, .int v2), (3, .ref (g 0)), (4, .int v4), (5, .int v5)] → kJ_Labels_writeRoman_49 k13 σ v2 v4 v5 = some σ2 → W p l e krm_Labels_writeRoman s m args below meth c H locs 0 0 (MQ below (kqv D a cA A g σ2) args s 0 0 A) (F0 m 49 ls []) := by
  intro σ v2 v4 v5 H locs ls E hl hM
  unfold kJ_Labels_writeRoman_49 at hM
  obtain ⟨y1, ey1⟩ : ∃ z : Int32, z = v5 + 1 := ⟨_, rfl⟩
  have hM := lq_inv hM y1 ey1
  refine lv_iinc (v := y1) (lv' := [(5, .int y1), (0, .ref (a 5)), (2, .int v2), (3, .ref (g 0)), (4, .int v4)]) S.1 S.2.1 d_Labels_writeRoman_49 hl (k := 4) rfl (by rw [ey1]; rfl) (by decide) rfl (fun ls hl => ?_)
  refine lv_goto (tgt := 13) S.1 S.2.1 d_Labels_writeRoman_52 (by decide) ?_
  exact hk13 _ _ _ _ _ _ _ E (lv_sub hl [1, 2, 3, 4, 0] rfl) hM
set_option maxHeartbeats 4000000 in
set_option maxRecDepth 100000 in
theorem kB_Labels_writeRoman_26 {p : Program} {l : Launch} {e : Env} {s : State} {m : MethodId} {args : Array Value} {below : List Frame} {meth : Method} {c : Code} {D : va_G} {a : Nat → Nat} {cA : Nat → ClassId} {A : Nat → Prop} {g : Nat → Nat} {σ2 : St} (S : CallFix p m c prog_4_method_10_code 7 s args AW R_Labels) (hr : meth.sig.returnType = none) (hlk : meth.locks = false) (hK : kKX D cA A g s s.heap) {k13 : St → Int32 → Int32 → Int32 → Option (St)} (hk13 : ∀ (σ : St) (v2 : Int32) (v4 : Int32) (v5 : Int32) (H : Heap) (locs : List Loc) (ls : Array Slot), kEx D a cA A σ s.heap H locs → lv_has ls 7 [(0, .ref (a 5)), (2, .int v2), (3, .ref (g 0)), (4, .int v4), (5, .int v5)] → k13 σ v2 v4 v5 = some σ2 → W p l e krm_Labels_writeRoman s m args below meth c H locs 0 0 (MQ below (kqv D a cA A g σ2) args s 0 0 A) (F0 m 13 ls [])) : ∀ (n : Nat) (σ : St) (v2 : Int32) (v4 : Int32) (v5 : Int32) (v6 : Int32) (H : Heap) (locs : List Loc) (ls : Array Slot), kEx D a cA A σ s.heap H locs → lv_has ls 7 [(0, .ref (a 5)), (2, .int v2), (3, .ref (g 0)), (4, .int v4), (5, .int v5), (6, .int v6)] → kL_Labels_writeRoman_26 k13 n σ v2 v4 v5 v6 = some σ2 → W p l e krm_Labels_writeRoman s m args below meth c H locs 0 0 (MQ below (kqv D a cA A g σ2) args s 0 0 A) (F0 m 26 ls []) := by
  intro n
  induction n with
  | zero =>
    intro σ v2 v4 v5 v6 H locs ls E hl hM
    rw [kL_Labels_writeRoman_26] at hM
    cases hM
  | succ n ih =>
    intro σ v2 v4 v5 v6 H locs ls E hl hM
    rw [kL_Labels_writeRoman_26] at hM
    refine lv_iload_n S.1 S.2.1 d_Labels_writeRoman_26 rfl (lv_at hl 1 rfl) ?_
    refine lv_iload S.1 S.2.1 d_Labels_writeRoman_27 (lv_at hl 5 rfl) ?_
    refine lv_icmp_lt (tgt := 49) S.1 S.2.1 d_Labels_writeRoman_29 (by decide) (fun c1 => ?_) (fun c1 => ?_)
    · have hM := ifP hM c1
      exact kB_Labels_writeRoman_49 S hr hlk hK hk13 _ _ _ _ _ _ _ E (lv_sub hl [0, 1, 2, 3, 4] rfl) hM
    · have hM := ifN hM c1
      refine lv_aload_n S.1 S.2.1 d_Labels_writeRoman_32 rfl (lv_at hl 0 rfl) ?_
      refine lv_iload S.1 S.2.1 d_Labels_writeRoman_33 (lv_at hl 5 rfl) ?_
      obtain ⟨r3, h2, hM⟩ := br_inv hM
      refine kcr_78 (As := [.int v6]) (rest := [.ref (a 5)]) S hK E (kC_Labels_romanSigns h2) ⟨Nat.le_of_ble_eq_true rfl, Nat.le_of_ble_eq_true rfl⟩ rfl rfl hl.1 (lv_room (Nat.le_of_ble_eq_true rfl)) d_Labels_writeRoman_35 (fun H locs E => ?_)
      obtain ⟨σ5, h4, hM⟩ := bv_inv hM
      refine kcr_79 (As := [.ref (kSA g (r3 : Int32).toNatClampNeg)]) (rest := []) S hK E (kC_Labels_writeSigns h4) ⟨Nat.le_of_ble_eq_true rfl, Nat.le_of_ble_eq_true rfl⟩ rfl rfl hl.1 (lv_room (Nat.le_of_ble_eq_true rfl)) d_Labels_writeRoman_38 (fun H locs E => ?_)
      refine lv_iload_n S.1 S.2.1 d_Labels_writeRoman_41 rfl (lv_at hl 1 rfl) ?_
      refine lv_iload S.1 S.2.1 d_Labels_writeRoman_42 (lv_at hl 5 rfl) ?_
      refine lv_isub S.1 S.2.1 d_Labels_writeRoman_44 ?_
      refine lv_topi (fun y6 ey6 => ?_)
      have hM := lq_inv hM y6 ey6
      refine lv_istore_n (lv' := [(2, .int y6), (0, .ref (a 5)), (3, .ref (g 0)), (4, .int v4), (5, .int v5), (6, .int v6)]) S.1 S.2.1 d_Labels_writeRoman_45 rfl hl (by decide) rfl (fun ls hl => ?_)
      refine lv_goto (tgt := 26) S.1 S.2.1 d_Labels_writeRoman_46 (by decide) ?_
      exact ih _ _ _ _ _ _ _ _ E (lv_sub hl [1, 0, 2, 3, 4, 5] rfl) hM
set_option maxHeartbeats 4000000 in
set_option maxRecDepth 100000 in
theorem kB_Labels_writeRoman_13 {p : Program} {l : Launch} {e : Env} {s : State} {m : MethodId} {args : Array Value} {below : List Frame} {meth : Method} {c : Code} {D : va_G} {a : Nat → Nat} {cA : Nat → ClassId} {A : Nat → Prop} {g : Nat → Nat} {σ2 : St} (S : CallFix p m c prog_4_method_10_code 7 s args AW R_Labels) (hr : meth.sig.returnType = none) (hlk : meth.locks = false) (hK : kKX D cA A g s s.heap) : ∀ (n : Nat) (σ : St) (v2 : Int32) (v4 : Int32) (v5 : Int32) (H : Heap) (locs : List Loc) (ls : Array Slot), kEx D a cA A σ s.heap H locs → lv_has ls 7 [(0, .ref (a 5)), (2, .int v2), (3, .ref (g 0)), (4, .int v4), (5, .int v5)] → kL_Labels_writeRoman_13 n σ v2 v4 v5 = some σ2 → W p l e krm_Labels_writeRoman s m args below meth c H locs 0 0 (MQ below (kqv D a cA A g σ2) args s 0 0 A) (F0 m 13 ls []) := by
  intro n
  induction n with
  | zero =>
    intro σ v2 v4 v5 H locs ls E hl hM
    rw [kL_Labels_writeRoman_13] at hM
    cases hM
  | succ n ih =>
    intro σ v2 v4 v5 H locs ls E hl hM
    rw [kL_Labels_writeRoman_13] at hM
    refine lv_iload S.1 S.2.1 d_Labels_writeRoman_13 (lv_at hl 4 rfl) ?_
    refine lv_iload S.1 S.2.1 d_Labels_writeRoman_15 (lv_at hl 3 rfl) ?_
    refine lv_icmp_ge (tgt := 55) S.1 S.2.1 d_Labels_writeRoman_17 (by decide) (fun c1 => ?_) (fun c1 => ?_)
    · have hM := ifP hM c1
      obtain rfl := Option.some.inj hM
      exact kretv S hr hlk hK E d_Labels_writeRoman_55
    · have hM := ifN hM c1
      refine lv_aload_n S.1 S.2.1 d_Labels_writeRoman_20 rfl (lv_at hl 2 rfl) ?_
      refine lv_iload S.1 S.2.1 d_Labels_writeRoman_21 (lv_at hl 4 rfl) ?_
      obtain ⟨h2, hM⟩ := gd_inv hM
      refine kta_0 S hK E h2 d_Labels_writeRoman_23 ?_
      refine lv_topi (fun y3 ey3 => ?_)
      have hM := lq_inv hM y3 ey3
      refine lv_istore (lv' := [(6, .int y3), (0, .ref (a 5)), (2, .int v2), (3, .ref (g 0)), (4, .int v4), (5, .int v5)]) S.1 S.2.1 d_Labels_writeRoman_24 hl (by decide) rfl (fun ls hl => ?_)
      exact kB_Labels_writeRoman_26 S hr hlk hK ih _ _ _ _ _ _ _ _ _ E (lv_sub hl [1, 2, 3, 4, 5, 0] rfl) hM
set_option maxHeartbeats 4000000 in
set_option maxRecDepth 100000 in
theorem kC_Labels_writeRoman {l : Launch} {D : va_G} {a : Nat → Nat} {cA : Nat → ClassId} {A : Nat → Prop} {g : Nat → Nat} {σ σ2 : St} {x1 : Int32} (hM : kM_Labels_writeRoman σ x1 = some σ2) : Met l y_Labels_writeRoman (.code y_Labels_writeRoman prog_4_method_10_code 7 none :: AW) krm_Labels_writeRoman (va_Pc [.ref (a 5), .int x1] (kCP D a cA A g σ)) (kqv D a cA A g σ2) 0 0 A := by
  refine kmet (nL := 7) (by decide) (Nat.le_of_ble_eq_true rfl) (fun S hr hlk hK E ls hl => ?_)
  have hl : lv_has ls 7 [(0, .ref (a 5)), (1, .int x1)] := hl
  unfold kM_Labels_writeRoman at hM
  refine lv_iload_n S.1 S.2.1 d_Labels_writeRoman_0 rfl (lv_at hl 1 rfl) ?_
  refine lv_istore_n (lv' := [(2, .int x1), (0, .ref (a 5)), (1, .int x1)]) S.1 S.2.1 d_Labels_writeRoman_1 rfl hl (by decide) rfl (fun ls hl => ?_)
  refine kgs_0 S hK E d_Labels_writeRoman_2 ?_
  refine lv_astore_n (lv' := [(3, .ref (g 0)), (2, .int x1), (0, .ref (a 5)), (1, .int x1)]) S.1 S.2.1 d_Labels_writeRoman_5 rfl hl (by decide) rfl (fun ls hl => ?_)
  refine lv_aload_n S.1 S.2.1 d_Labels_writeRoman_6 rfl (lv_at hl 0 rfl) ?_
  refine ktl_0 S hK E d_Labels_writeRoman_7 ?_
  refine lv_istore (lv' := [(4, .int 13), (3, .ref (g 0)), (2, .int x1), (0, .ref (a 5)), (1, .int x1)]) S.1 S.2.1 d_Labels_writeRoman_8 hl (by decide) rfl (fun ls hl => ?_)
  refine lv_iconst (v := 0) S.1 S.2.1 d_Labels_writeRoman_10 (by decide) ?_
  refine lv_istore (lv' := [(5, .int 0), (4, .int 13), (3, .ref (g 0)), (2, .int x1), (0, .ref (a 5)), (1, .int x1)]) S.1 S.2.1 d_Labels_writeRoman_11 hl (by decide) rfl (fun ls hl => ?_)
  exact kB_Labels_writeRoman_13 S hr hlk hK _ _ _ _ _ _ _ _ E (lv_sub hl [4, 3, 2, 1, 0] rfl) hM
set_option maxHeartbeats 4000000 in
set_option maxRecDepth 100000 in
theorem kB_Labels_writeLetters_24 {p : Program} {l : Launch} {e : Env} {s : State} {m : MethodId} {args : Array Value} {below : List Frame} {meth : Method} {c : Code} {D : va_G} {a : Nat → Nat} {cA : Nat → ClassId} {A : Nat → Prop} {g : Nat → Nat} {σ2 : St} (S : CallFix p m c prog_4_method_12_code 6 s args AW R_Labels) (hr : meth.sig.returnType = none) (hlk : meth.locks = false) (hK : kKX D cA A g s s.heap) : ∀ (n : Nat) (σ : St) (v3 : Int32) (v4 : Int32) (v5 : Int32) (H : Heap) (locs : List Loc) (ls : Array Slot), kEx D a cA A σ s.heap H locs → lv_has ls 6 [(0, .ref (a 5)), (3, .int v3), (4, .int v4), (5, .int v5)] → kL_Labels_writeLetters_24 n σ v3 v4 v5 = some σ2 → W p l e krm_Labels_writeLetters s m args below meth c H locs 0 0 (MQ below (kqv D a cA A g σ2) args s 0 0 A) (F0 m 24 ls []) := by
  intro n
  induction n with
  | zero =>
    intro σ v3 v4 v5 H locs ls E hl hM
    rw [kL_Labels_writeLetters_24] at hM
    cases hM
  | succ n ih =>
    intro σ v3 v4 v5 H locs ls E hl hM
    rw [kL_Labels_writeLetters_24] at hM
    refine lv_iload S.1 S.2.1 d_Labels_writeLetters_24 (lv_at hl 3 rfl) ?_
    refine lv_iload S.1 S.2.1 d_Labels_writeLetters_26 (lv_at hl 2 rfl) ?_
    refine lv_icmp_ge (tgt := 42) S.1 S.2.1 d_Labels_writeLetters_28 (by decide) (fun c1 => ?_) (fun c1 => ?_)
    · have hM := ifP hM c1
      obtain rfl := Option.some.inj hM
      exact kretv S hr hlk hK E d_Labels_writeLetters_42
    · have hM := ifN hM c1
      refine lv_aload_n S.1 S.2.1 d_Labels_writeLetters_31 rfl (lv_at hl 0 rfl) ?_
      refine lv_iload_n S.1 S.2.1 d_Labels_writeLetters_32 rfl (lv_at hl 1 rfl) ?_
      obtain ⟨σ3, h2, hM⟩ := bv_inv hM
      refine kcr_77 (As := [.int v3]) (rest := []) S hK E (kC_Labels_writeSign h2) ⟨Nat.le_of_ble_eq_true rfl, Nat.le_of_ble_eq_true rfl⟩ rfl rfl hl.1 (lv_room (Nat.le_of_ble_eq_true rfl)) d_Labels_writeLetters_33 (fun H locs E => ?_)
      obtain ⟨y4, ey4⟩ : ∃ z : Int32, z = v5 + 1 := ⟨_, rfl⟩
      have hM := lq_inv hM y4 ey4
      refine lv_iinc (v := y4) (lv' := [(5, .int y4), (0, .ref (a 5)), (3, .int v3), (4, .int v4)]) S.1 S.2.1 d_Labels_writeLetters_36 hl (k := 3) rfl (by rw [ey4]; rfl) (by decide) rfl (fun ls hl => ?_)
      refine lv_goto (tgt := 24) S.1 S.2.1 d_Labels_writeLetters_39 (by decide) ?_
      exact ih _ _ _ _ _ _ _ E (lv_sub hl [1, 2, 3, 0] rfl) hM
set_option maxHeartbeats 4000000 in
set_option maxRecDepth 100000 in
theorem kC_Labels_writeLetters {l : Launch} {D : va_G} {a : Nat → Nat} {cA : Nat → ClassId} {A : Nat → Prop} {g : Nat → Nat} {σ σ2 : St} {x1 : Int32} (hM : kM_Labels_writeLetters σ x1 = some σ2) : Met l y_Labels_writeLetters (.code y_Labels_writeLetters prog_4_method_12_code 6 none :: AW) krm_Labels_writeLetters (va_Pc [.ref (a 5), .int x1] (kCP D a cA A g σ)) (kqv D a cA A g σ2) 0 0 A := by
  refine kmet (nL := 6) (by decide) (Nat.le_of_ble_eq_true rfl) (fun S hr hlk hK E ls hl => ?_)
  have hl : lv_has ls 6 [(0, .ref (a 5)), (1, .int x1)] := hl
  unfold kM_Labels_writeLetters at hM
  refine lv_iload_n S.1 S.2.1 d_Labels_writeLetters_0 rfl (lv_at hl 1 rfl) ?_
  refine lv_iconst (v := 1) S.1 S.2.1 d_Labels_writeLetters_1 (by decide) ?_
  refine lv_isub S.1 S.2.1 d_Labels_writeLetters_2 ?_
  refine lv_topi (fun y1 ey1 => ?_)
  have hM := lq_inv hM y1 ey1
  refine lv_istore_n (lv' := [(2, .int y1), (0, .ref (a 5)), (1, .int x1)]) S.1 S.2.1 d_Labels_writeLetters_3 rfl hl (by decide) rfl (fun ls hl => ?_)
  refine lv_bipush (v := 97) S.1 S.2.1 d_Labels_writeLetters_4 (by decide) ?_
  refine lv_iload_n S.1 S.2.1 d_Labels_writeLetters_6 rfl (lv_at hl 0 rfl) ?_
  refine lv_bipush (v := 26) S.1 S.2.1 d_Labels_writeLetters_7 (by decide) ?_
  refine lv_irem S.1 S.2.1 d_Labels_writeLetters_9 (by decide) ?_
  refine lv_iadd S.1 S.2.1 d_Labels_writeLetters_10 ?_
  refine lv_i2c (v := (((97 + (y1 - y1 / 26 * 26))).toUInt32 % 65536).toInt32) S.1 S.2.1 d_Labels_writeLetters_11 rfl ?_
  refine lv_topi (fun y2 ey2 => ?_)
  have hM := lq_inv hM y2 ey2
  refine lv_istore_n (lv' := [(3, .int y2), (2, .int y1), (0, .ref (a 5)), (1, .int x1)]) S.1 S.2.1 d_Labels_writeLetters_12 rfl hl (by decide) rfl (fun ls hl => ?_)
  refine lv_iload_n S.1 S.2.1 d_Labels_writeLetters_13 rfl (lv_at hl 1 rfl) ?_
  refine lv_bipush (v := 26) S.1 S.2.1 d_Labels_writeLetters_14 (by decide) ?_
  refine lv_idiv S.1 S.2.1 d_Labels_writeLetters_16 (by decide) ?_
  refine lv_iconst (v := 1) S.1 S.2.1 d_Labels_writeLetters_17 (by decide) ?_
  refine lv_iadd S.1 S.2.1 d_Labels_writeLetters_18 ?_
  refine lv_topi (fun y3 ey3 => ?_)
  have hM := lq_inv hM y3 ey3
  refine lv_istore (lv' := [(4, .int y3), (3, .int y2), (2, .int y1), (0, .ref (a 5)), (1, .int x1)]) S.1 S.2.1 d_Labels_writeLetters_19 hl (by decide) rfl (fun ls hl => ?_)
  refine lv_iconst (v := 0) S.1 S.2.1 d_Labels_writeLetters_21 (by decide) ?_
  refine lv_istore (lv' := [(5, .int 0), (4, .int y3), (3, .int y2), (2, .int y1), (0, .ref (a 5)), (1, .int x1)]) S.1 S.2.1 d_Labels_writeLetters_22 hl (by decide) rfl (fun ls hl => ?_)
  exact kB_Labels_writeLetters_24 S hr hlk hK _ _ _ _ _ _ _ _ E (lv_sub hl [4, 2, 1, 0] rfl) hM
set_option maxHeartbeats 4000000 in
set_option maxRecDepth 100000 in
theorem kC_Labels_write {l : Launch} {D : va_G} {a : Nat → Nat} {cA : Nat → ClassId} {A : Nat → Prop} {g : Nat → Nat} {σ σ2 : St} {x1 : Int32} {x2 : Int32} (hM : kM_Labels_write σ x1 x2 = some σ2) : Met l y_Labels_write (.code y_Labels_write prog_4_method_8_code 3 none :: AW) krm_Labels_write (va_Pc [.ref (a 5), .int x1, .int x2] (kCP D a cA A g σ)) (kqv D a cA A g σ2) 0 0 A := by
  refine kmet (nL := 3) (by decide) (Nat.le_of_ble_eq_true rfl) (fun S hr hlk hK E ls hl => ?_)
  have hl : lv_has ls 3 [(0, .ref (a 5)), (1, .int x1), (2, .int x2)] := hl
  unfold kM_Labels_write at hM
  refine lv_iload_n S.1 S.2.1 d_Labels_write_0 rfl (lv_at hl 1 rfl) ?_
  refine lv_iconst (v := 1) S.1 S.2.1 d_Labels_write_1 (by decide) ?_
  refine lv_icmp_ne (tgt := 13) S.1 S.2.1 d_Labels_write_2 (by decide) (fun c1 => ?_) (fun c1 => ?_)
  · have hM := ifN hM c1
    refine lv_iload_n S.1 S.2.1 d_Labels_write_13 rfl (lv_at hl 1 rfl) ?_
    refine lv_iconst (v := 2) S.1 S.2.1 d_Labels_write_14 (by decide) ?_
    refine lv_icmp_ne (tgt := 26) S.1 S.2.1 d_Labels_write_15 (by decide) (fun c2 => ?_) (fun c2 => ?_)
    · have hM := ifN hM c2
      refine lv_aload_n S.1 S.2.1 d_Labels_write_26 rfl (lv_at hl 0 rfl) ?_
      refine lv_iload_n S.1 S.2.1 d_Labels_write_27 rfl (lv_at hl 2 rfl) ?_
      obtain ⟨σ4, h3, hM⟩ := bv_inv hM
      refine kcr_80 (As := [.int x2]) (rest := []) S hK E (kC_Labels_writeDigits h3) ⟨Nat.le_of_ble_eq_true rfl, Nat.le_of_ble_eq_true rfl⟩ rfl rfl hl.1 (lv_room (Nat.le_of_ble_eq_true rfl)) d_Labels_write_28 (fun H locs E => ?_)
      obtain rfl := Option.some.inj hM
      exact kretv S hr hlk hK E d_Labels_write_31
    · have hM := ifP hM c2
      refine lv_aload_n S.1 S.2.1 d_Labels_write_18 rfl (lv_at hl 0 rfl) ?_
      refine lv_iload_n S.1 S.2.1 d_Labels_write_19 rfl (lv_at hl 2 rfl) ?_
      obtain ⟨σ6, h5, hM⟩ := bv_inv hM
      refine kcr_81 (As := [.int x2]) (rest := []) S hK E (kC_Labels_writeLetters h5) ⟨Nat.le_of_ble_eq_true rfl, Nat.le_of_ble_eq_true rfl⟩ rfl rfl hl.1 (lv_room (Nat.le_of_ble_eq_true rfl)) d_Labels_write_20 (fun H locs E => ?_)
      refine lv_goto (tgt := 31) S.1 S.2.1 d_Labels_write_23 (by decide) ?_
      obtain rfl := Option.some.inj hM
      exact kretv S hr hlk hK E d_Labels_write_31
  · have hM := ifP hM c1
    refine lv_aload_n S.1 S.2.1 d_Labels_write_5 rfl (lv_at hl 0 rfl) ?_
    refine lv_iload_n S.1 S.2.1 d_Labels_write_6 rfl (lv_at hl 2 rfl) ?_
    obtain ⟨σ8, h7, hM⟩ := bv_inv hM
    refine kcr_82 (As := [.int x2]) (rest := []) S hK E (kC_Labels_writeRoman h7) ⟨Nat.le_of_ble_eq_true rfl, Nat.le_of_ble_eq_true rfl⟩ rfl rfl hl.1 (lv_room (Nat.le_of_ble_eq_true rfl)) d_Labels_write_7 (fun H locs E => ?_)
    refine lv_goto (tgt := 31) S.1 S.2.1 d_Labels_write_10 (by decide) ?_
    obtain rfl := Option.some.inj hM
    exact kretv S hr hlk hK E d_Labels_write_31
set_option maxHeartbeats 4000000 in
set_option maxRecDepth 100000 in
theorem kB_Labels_signOf_51 {p : Program} {l : Launch} {e : Env} {s : State} {m : MethodId} {args : Array Value} {below : List Frame} {meth : Method} {c : Code} {D : va_G} {a : Nat → Nat} {cA : Nat → ClassId} {A : Nat → Prop} {g : Nat → Nat} {σ2 : St} {r : Int32} (S : CallFix p m c prog_4_method_6_code 4 s args AW R_Labels) (hr : meth.sig.returnType = (some .int)) (hlk : meth.locks = false) (hK : kKX D cA A g s s.heap) : ∀ (σ : St) (v2 : Int32) (H : Heap) (locs : List Loc) (ls : Array Slot), kEx D a cA A σ s.heap H locs → lv_has ls 4 [(0, .ref (a 5)), (2, .int v2)] → kJ_Labels_signOf_51 σ v2 = some (r, σ2) → W p l e krm_Labels_signOf s m args below meth c H locs 0 0 (MQ below (kqi D a cA A g r σ2) args s 0 0 A) (F0 m 51 ls []) := by
  intro σ v2 H locs ls E hl hM
  unfold kJ_Labels_signOf_51 at hM
  refine lv_iload_n S.1 S.2.1 d_Labels_signOf_51 rfl (lv_at hl 1 rfl) ?_
  refine lv_if_lt (tgt := 72) S.1 S.2.1 d_Labels_signOf_52 (by decide) (fun c1 => ?_) (fun c1 => ?_)
  · have hM := ifP hM c1
    refine lv_iconst (v := (-1)) S.1 S.2.1 d_Labels_signOf_72 (by decide) ?_
    obtain ⟨rfl, rfl⟩ := pr_inj hM
    exact kreti S hr hlk hK E d_Labels_signOf_73
  · have hM := ifN hM c1
    refine lv_iload_n S.1 S.2.1 d_Labels_signOf_55 rfl (lv_at hl 1 rfl) ?_
    refine lv_aload_n S.1 S.2.1 d_Labels_signOf_56 rfl (lv_at hl 0 rfl) ?_
    refine kgf_Labels_36_5 S hK E d_Labels_signOf_57 ?_
    refine lv_icmp_ge (tgt := 72) S.1 S.2.1 d_Labels_signOf_60 (by decide) (fun c2 => ?_) (fun c2 => ?_)
    · have hM := ifP hM c2
      refine lv_iconst (v := (-1)) S.1 S.2.1 d_Labels_signOf_72 (by decide) ?_
      obtain ⟨rfl, rfl⟩ := pr_inj hM
      exact kreti S hr hlk hK E d_Labels_signOf_73
    · have hM := ifN hM c2
      refine lv_aload_n S.1 S.2.1 d_Labels_signOf_63 rfl (lv_at hl 0 rfl) ?_
      refine kgf_Labels_21_5 S hK E d_Labels_signOf_64 ?_
      refine lv_iload_n S.1 S.2.1 d_Labels_signOf_67 rfl (lv_at hl 1 rfl) ?_
      obtain ⟨h3, hM⟩ := gd_inv hM
      refine kal_30 S hK E h3 d_Labels_signOf_68 ?_
      refine lv_goto (tgt := 73) S.1 S.2.1 d_Labels_signOf_69 (by decide) ?_
      obtain ⟨rfl, rfl⟩ := pr_inj hM
      exact kreti S hr hlk hK E d_Labels_signOf_73
set_option maxHeartbeats 4000000 in
set_option maxRecDepth 100000 in
theorem kC_Labels_signOf {l : Launch} {D : va_G} {a : Nat → Nat} {cA : Nat → ClassId} {A : Nat → Prop} {g : Nat → Nat} {σ σ2 : St} {x1 : Int32} {x2 : Int32} {r : Int32} (hM : kM_Labels_signOf σ x1 x2 = some (r, σ2)) : Met l y_Labels_signOf (.code y_Labels_signOf prog_4_method_6_code 4 (some .int) :: AW) krm_Labels_signOf (va_Pc [.ref (a 5), .int x1, .int x2] (kCP D a cA A g σ)) (kqi D a cA A g r σ2) 0 0 A := by
  refine kmet (nL := 4) (by decide) (Nat.le_of_ble_eq_true rfl) (fun S hr hlk hK E ls hl => ?_)
  have hl : lv_has ls 4 [(0, .ref (a 5)), (1, .int x1), (2, .int x2)] := hl
  unfold kM_Labels_signOf at hM
  refine lv_aload_n S.1 S.2.1 d_Labels_signOf_0 rfl (lv_at hl 0 rfl) ?_
  refine lv_iload_n S.1 S.2.1 d_Labels_signOf_1 rfl (lv_at hl 1 rfl) ?_
  obtain ⟨r2, h1, hM⟩ := br_inv hM
  refine kcr_83 (As := [.int x1]) (rest := []) S hK E (kC_Labels_rangeAround h1) ⟨Nat.le_of_ble_eq_true rfl, Nat.le_of_ble_eq_true rfl⟩ rfl rfl hl.1 (lv_room (Nat.le_of_ble_eq_true rfl)) d_Labels_signOf_2 (fun H locs E => ?_)
  refine lv_istore_n (lv' := [(3, .int r2), (0, .ref (a 5)), (1, .int x1), (2, .int x2)]) S.1 S.2.1 d_Labels_signOf_5 rfl hl (by decide) rfl (fun ls hl => ?_)
  refine lv_aload_n S.1 S.2.1 d_Labels_signOf_6 rfl (lv_at hl 1 rfl) ?_
  refine lv_iconst (v := 0) S.1 S.2.1 d_Labels_signOf_7 (by decide) ?_
  refine kpf_Labels_36_5 S hK E d_Labels_signOf_8 (fun σ3 eσ3 H locs E => ?_)
  have hM := lq_inv hM σ3 eσ3
  refine lv_iload_n S.1 S.2.1 d_Labels_signOf_11 rfl (lv_at hl 0 rfl) ?_
  refine lv_iconst (v := (-1)) S.1 S.2.1 d_Labels_signOf_12 (by decide) ?_
  refine lv_icmp_ne (tgt := 26) S.1 S.2.1 d_Labels_signOf_13 (by decide) (fun c4 => ?_) (fun c4 => ?_)
  · have hM := ifN hM c4
    refine lv_aload_n S.1 S.2.1 d_Labels_signOf_26 rfl (lv_at hl 1 rfl) ?_
    refine lv_aload_n S.1 S.2.1 d_Labels_signOf_27 rfl (lv_at hl 1 rfl) ?_
    refine kgf_Labels_15_5 S hK E d_Labels_signOf_28 ?_
    refine lv_iload_n S.1 S.2.1 d_Labels_signOf_31 rfl (lv_at hl 0 rfl) ?_
    obtain ⟨h5, hM⟩ := gd_inv hM
    refine kal_28 S hK E h5 d_Labels_signOf_32 ?_
    refine lv_aload_n S.1 S.2.1 d_Labels_signOf_33 rfl (lv_at hl 1 rfl) ?_
    refine kgf_Labels_18_5 S hK E d_Labels_signOf_34 ?_
    refine lv_iload_n S.1 S.2.1 d_Labels_signOf_37 rfl (lv_at hl 0 rfl) ?_
    obtain ⟨h6, hM⟩ := gd_inv hM
    refine kal_29 S hK E h6 d_Labels_signOf_38 ?_
    refine lv_iload_n S.1 S.2.1 d_Labels_signOf_39 rfl (lv_at hl 2 rfl) ?_
    refine lv_iadd S.1 S.2.1 d_Labels_signOf_40 ?_
    refine lv_aload_n S.1 S.2.1 d_Labels_signOf_41 rfl (lv_at hl 1 rfl) ?_
    refine kgf_Labels_11_5 S hK E d_Labels_signOf_42 ?_
    refine lv_iload_n S.1 S.2.1 d_Labels_signOf_45 rfl (lv_at hl 0 rfl) ?_
    obtain ⟨h7, hM⟩ := gd_inv hM
    refine kal_27 S hK E h7 d_Labels_signOf_46 ?_
    refine lv_isub S.1 S.2.1 d_Labels_signOf_47 ?_
    obtain ⟨σ9, h8, hM⟩ := bv_inv hM
    refine kcr_84 (As := [.int (σ3 21 r2.toNatClampNeg), .int (((σ3 22 r2.toNatClampNeg) + x1) - (σ3 20 r2.toNatClampNeg))]) (rest := []) S hK E (kC_Labels_write h8) ⟨Nat.le_of_ble_eq_true rfl, Nat.le_of_ble_eq_true rfl⟩ rfl rfl hl.1 (lv_room (Nat.le_of_ble_eq_true rfl)) d_Labels_signOf_48 (fun H locs E => ?_)
    exact kB_Labels_signOf_51 S hr hlk hK _ _ _ _ _ E (lv_sub hl [1, 3] rfl) hM
  · have hM := ifP hM c4
    refine lv_aload_n S.1 S.2.1 d_Labels_signOf_16 rfl (lv_at hl 1 rfl) ?_
    refine lv_iload_n S.1 S.2.1 d_Labels_signOf_17 rfl (lv_at hl 2 rfl) ?_
    refine lv_iconst (v := 1) S.1 S.2.1 d_Labels_signOf_18 (by decide) ?_
    refine lv_iadd S.1 S.2.1 d_Labels_signOf_19 ?_
    obtain ⟨σ11, h10, hM⟩ := bv_inv hM
    refine kcr_80 (As := [.int (x1 + 1)]) (rest := []) S hK E (kC_Labels_writeDigits h10) ⟨Nat.le_of_ble_eq_true rfl, Nat.le_of_ble_eq_true rfl⟩ rfl rfl hl.1 (lv_room (Nat.le_of_ble_eq_true rfl)) d_Labels_signOf_20 (fun H locs E => ?_)
    refine lv_goto (tgt := 51) S.1 S.2.1 d_Labels_signOf_23 (by decide) ?_
    exact kB_Labels_signOf_51 S hr hlk hK _ _ _ _ _ E (lv_sub hl [1, 3] rfl) hM
set_option maxHeartbeats 4000000 in
set_option maxRecDepth 100000 in
theorem kC_PT_text {l : Launch} {D : va_G} {a : Nat → Nat} {cA : Nat → ClassId} {A : Nat → Prop} {g : Nat → Nat} {σ σ2 : St} {x1 : Int32} {x2 : Int32} {r : Int32} (hM : kM_PT_text σ x1 x2 = some (r, σ2)) : Met l y_PT_text (.code y_PT_text prog_1_method_19_code 3 (some .int) :: AW) krm_PT_text (va_Pc [.ref (a 0), .int x1, .int x2] (kCP D a cA A g σ)) (kqi D a cA A g r σ2) 0 0 A := by
  refine kmet (nL := 3) (by decide) (Nat.le_of_ble_eq_true rfl) (fun S hr hlk hK E ls hl => ?_)
  have hl : lv_has ls 3 [(0, .ref (a 0)), (1, .int x1), (2, .int x2)] := hl
  unfold kM_PT_text at hM
  refine lv_aload_n S.1 S.2.1 d_PT_text_0 rfl (lv_at hl 0 rfl) ?_
  refine kgf_PT_21_0 S hK E d_PT_text_1 ?_
  refine lv_iload_n S.1 S.2.1 d_PT_text_4 rfl (lv_at hl 1 rfl) ?_
  obtain ⟨r2, σ3, h1, hM⟩ := bd_inv hM
  refine kcr_35 (As := [.int x1]) (rest := []) S hK E (kC_Order_pageAt h1) ⟨Nat.le_of_ble_eq_true rfl, Nat.le_of_ble_eq_true rfl⟩ rfl rfl hl.1 (lv_room (Nat.le_of_ble_eq_true rfl)) d_PT_text_5 (fun H locs E => ?_)
  refine lv_iconst (v := (-1)) S.1 S.2.1 d_PT_text_8 (by decide) ?_
  refine lv_icmp_ne (tgt := 16) S.1 S.2.1 d_PT_text_9 (by decide) (fun c4 => ?_) (fun c4 => ?_)
  · have hM := ifN hM c4
    refine lv_aload_n S.1 S.2.1 d_PT_text_16 rfl (lv_at hl 0 rfl) ?_
    refine kgf_PT_42_0 S hK E d_PT_text_17 ?_
    refine lv_iload_n S.1 S.2.1 d_PT_text_20 rfl (lv_at hl 1 rfl) ?_
    refine lv_iload_n S.1 S.2.1 d_PT_text_21 rfl (lv_at hl 2 rfl) ?_
    obtain ⟨r6, σ7, h5, hM⟩ := bd_inv hM
    refine kcr_85 (As := [.int x1, .int x2]) (rest := []) S hK E (kC_Labels_signOf h5) ⟨Nat.le_of_ble_eq_true rfl, Nat.le_of_ble_eq_true rfl⟩ rfl rfl hl.1 (lv_room (Nat.le_of_ble_eq_true rfl)) d_PT_text_22 (fun H locs E => ?_)
    obtain ⟨rfl, rfl⟩ := pr_inj hM
    exact kreti S hr hlk hK E d_PT_text_25
  · have hM := ifP hM c4
    refine lv_iconst (v := (-1)) S.1 S.2.1 d_PT_text_12 (by decide) ?_
    refine lv_goto (tgt := 25) S.1 S.2.1 d_PT_text_13 (by decide) ?_
    obtain ⟨rfl, rfl⟩ := pr_inj hM
    exact kreti S hr hlk hK E d_PT_text_25
set_option maxHeartbeats 4000000 in
set_option maxRecDepth 100000 in
theorem kC_Names_isName {l : Launch} {D : va_G} {a : Nat → Nat} {cA : Nat → ClassId} {A : Nat → Prop} {g : Nat → Nat} {σ : St} {x0 : Int32} {r : Int32} (hM : kM_Names_isName σ x0 = some r) : Met l y_Names_isName (.code y_Names_isName prog_6_method_2_code 1 (some .boolean) :: AW) krm_Names_isName (va_Pc [.int x0] (kCP D a cA A g σ)) (kqi D a cA A g r σ) 0 0 A := by
  refine kmet (nL := 1) (by decide) (Nat.le_of_ble_eq_true rfl) (fun S hr hlk hK E ls hl => ?_)
  have hl : lv_has ls 1 [(0, .int x0)] := hl
  unfold kM_Names_isName at hM
  refine lv_iload_n S.1 S.2.1 d_Names_isName_0 rfl (lv_at hl 0 rfl) ?_
  refine lv_if_lt (tgt := 15) S.1 S.2.1 d_Names_isName_1 (by decide) (fun c1 => ?_) (fun c1 => ?_)
  · have hM := ifP hM c1
    refine lv_iconst (v := 0) S.1 S.2.1 d_Names_isName_15 (by decide) ?_
    obtain rfl := Option.some.inj hM
    exact kretz S hr hlk hK E d_Names_isName_16 rfl
  · have hM := ifN hM c1
    refine lv_iload_n S.1 S.2.1 d_Names_isName_4 rfl (lv_at hl 0 rfl) ?_
    refine lv_sipush (v := 9999) S.1 S.2.1 d_Names_isName_5 (by decide) ?_
    refine lv_icmp_gt (tgt := 15) S.1 S.2.1 d_Names_isName_8 (by decide) (fun c2 => ?_) (fun c2 => ?_)
    · have hM := ifP hM c2
      refine lv_iconst (v := 0) S.1 S.2.1 d_Names_isName_15 (by decide) ?_
      obtain rfl := Option.some.inj hM
      exact kretz S hr hlk hK E d_Names_isName_16 rfl
    · have hM := ifN hM c2
      refine lv_iconst (v := 1) S.1 S.2.1 d_Names_isName_11 (by decide) ?_
      refine lv_goto (tgt := 16) S.1 S.2.1 d_Names_isName_12 (by decide) ?_
      obtain rfl := Option.some.inj hM
      exact kretz S hr hlk hK E d_Names_isName_16 rfl
set_option maxHeartbeats 4000000 in
set_option maxRecDepth 100000 in
theorem kB_Names_pageOf_2 {p : Program} {l : Launch} {e : Env} {s : State} {m : MethodId} {args : Array Value} {below : List Frame} {meth : Method} {c : Code} {D : va_G} {a : Nat → Nat} {cA : Nat → ClassId} {A : Nat → Prop} {g : Nat → Nat} {σ : St} {r : Int32} (S : CallFix p m c prog_6_method_4_code 3 s args AW R_Names) (hr : meth.sig.returnType = (some .int)) (hlk : meth.locks = false) (hK : kKX D cA A g s s.heap) : ∀ (n : Nat) (v1 : Int32) (v2 : Int32) (H : Heap) (locs : List Loc) (ls : Array Slot), kEx D a cA A σ s.heap H locs → lv_has ls 3 [(0, .ref (a 6)), (1, .int v1), (2, .int v2)] → kL_Names_pageOf_2 σ n v1 v2 = some r → W p l e krm_Names_pageOf s m args below meth c H locs 0 0 (MQ below (kqi D a cA A g r σ) args s 0 0 A) (F0 m 2 ls []) := by
  intro n
  induction n with
  | zero =>
    intro v1 v2 H locs ls E hl hM
    rw [kL_Names_pageOf_2] at hM
    cases hM
  | succ n ih =>
    intro v1 v2 H locs ls E hl hM
    rw [kL_Names_pageOf_2] at hM
    refine lv_iload_n S.1 S.2.1 d_Names_pageOf_2 rfl (lv_at hl 2 rfl) ?_
    refine lv_aload_n S.1 S.2.1 d_Names_pageOf_3 rfl (lv_at hl 0 rfl) ?_
    refine kgf_Names_18_6 S hK E d_Names_pageOf_4 ?_
    refine lv_icmp_ge (tgt := 33) S.1 S.2.1 d_Names_pageOf_7 (by decide) (fun c1 => ?_) (fun c1 => ?_)
    · have hM := ifP hM c1
      refine lv_iconst (v := (-1)) S.1 S.2.1 d_Names_pageOf_33 (by decide) ?_
      obtain rfl := Option.some.inj hM
      exact kreti S hr hlk hK E d_Names_pageOf_34
    · have hM := ifN hM c1
      refine lv_aload_n S.1 S.2.1 d_Names_pageOf_10 rfl (lv_at hl 0 rfl) ?_
      refine kgf_Names_11_6 S hK E d_Names_pageOf_11 ?_
      refine lv_iload_n S.1 S.2.1 d_Names_pageOf_14 rfl (lv_at hl 2 rfl) ?_
      obtain ⟨h2, hM⟩ := gd_inv hM
      refine kal_31 S hK E h2 d_Names_pageOf_15 ?_
      refine lv_iload_n S.1 S.2.1 d_Names_pageOf_16 rfl (lv_at hl 1 rfl) ?_
      refine lv_icmp_ne (tgt := 27) S.1 S.2.1 d_Names_pageOf_17 (by decide) (fun c3 => ?_) (fun c3 => ?_)
      · have hM := ifN hM c3
        obtain ⟨y4, ey4⟩ : ∃ z : Int32, z = v2 + 1 := ⟨_, rfl⟩
        have hM := lq_inv hM y4 ey4
        refine lv_iinc (v := y4) (lv' := [(2, .int y4), (0, .ref (a 6)), (1, .int v1)]) S.1 S.2.1 d_Names_pageOf_27 hl (k := 2) rfl (by rw [ey4]; rfl) (by decide) rfl (fun ls hl => ?_)
        refine lv_goto (tgt := 2) S.1 S.2.1 d_Names_pageOf_30 (by decide) ?_
        exact ih _ _ _ _ _ E (lv_sub hl [1, 2, 0] rfl) hM
      · have hM := ifP hM c3
        refine lv_aload_n S.1 S.2.1 d_Names_pageOf_20 rfl (lv_at hl 0 rfl) ?_
        refine kgf_Names_15_6 S hK E d_Names_pageOf_21 ?_
        refine lv_iload_n S.1 S.2.1 d_Names_pageOf_24 rfl (lv_at hl 2 rfl) ?_
        obtain ⟨h5, hM⟩ := gd_inv hM
        refine kal_32 S hK E h5 d_Names_pageOf_25 ?_
        obtain rfl := Option.some.inj hM
        exact kreti S hr hlk hK E d_Names_pageOf_26
set_option maxHeartbeats 4000000 in
set_option maxRecDepth 100000 in
theorem kC_Names_pageOf {l : Launch} {D : va_G} {a : Nat → Nat} {cA : Nat → ClassId} {A : Nat → Prop} {g : Nat → Nat} {σ : St} {x1 : Int32} {r : Int32} (hM : kM_Names_pageOf σ x1 = some r) : Met l y_Names_pageOf (.code y_Names_pageOf prog_6_method_4_code 3 (some .int) :: AW) krm_Names_pageOf (va_Pc [.ref (a 6), .int x1] (kCP D a cA A g σ)) (kqi D a cA A g r σ) 0 0 A := by
  refine kmet (nL := 3) (by decide) (Nat.le_of_ble_eq_true rfl) (fun S hr hlk hK E ls hl => ?_)
  have hl : lv_has ls 3 [(0, .ref (a 6)), (1, .int x1)] := hl
  unfold kM_Names_pageOf at hM
  refine lv_iconst (v := 0) S.1 S.2.1 d_Names_pageOf_0 (by decide) ?_
  refine lv_istore_n (lv' := [(2, .int 0), (0, .ref (a 6)), (1, .int x1)]) S.1 S.2.1 d_Names_pageOf_1 rfl hl (by decide) rfl (fun ls hl => ?_)
  exact kB_Names_pageOf_2 S hr hlk hK _ _ _ _ _ _ E (lv_sub hl [1, 2, 0] rfl) hM
set_option maxHeartbeats 4000000 in
set_option maxRecDepth 100000 in
theorem kC_Names_add {l : Launch} {D : va_G} {a : Nat → Nat} {cA : Nat → ClassId} {A : Nat → Prop} {g : Nat → Nat} {σ σ2 : St} {x1 : Int32} {x2 : Int32} {r : Int32} (hM : kM_Names_add σ x1 x2 = some (r, σ2)) : Met l y_Names_add (.code y_Names_add prog_6_method_5_code 3 (some .boolean) :: AW) krm_Names_add (va_Pc [.ref (a 6), .int x1, .int x2] (kCP D a cA A g σ)) (kqi D a cA A g r σ2) 0 0 A := by
  refine kmet (nL := 3) (by decide) (Nat.le_of_ble_eq_true rfl) (fun S hr hlk hK E ls hl => ?_)
  have hl : lv_has ls 3 [(0, .ref (a 6)), (1, .int x1), (2, .int x2)] := hl
  unfold kM_Names_add at hM
  refine lv_aload_n S.1 S.2.1 d_Names_add_0 rfl (lv_at hl 0 rfl) ?_
  refine kgf_Names_18_6 S hK E d_Names_add_1 ?_
  refine lv_bipush (v := 60) S.1 S.2.1 d_Names_add_4 (by decide) ?_
  refine lv_icmp_lt (tgt := 11) S.1 S.2.1 d_Names_add_6 (by decide) (fun c1 => ?_) (fun c1 => ?_)
  · have hM := ifP hM c1
    refine lv_aload_n S.1 S.2.1 d_Names_add_11 rfl (lv_at hl 0 rfl) ?_
    refine kgf_Names_11_6 S hK E d_Names_add_12 ?_
    refine lv_aload_n S.1 S.2.1 d_Names_add_15 rfl (lv_at hl 0 rfl) ?_
    refine kgf_Names_18_6 S hK E d_Names_add_16 ?_
    refine lv_iload_n S.1 S.2.1 d_Names_add_19 rfl (lv_at hl 1 rfl) ?_
    obtain ⟨h2, hM⟩ := gd_inv hM
    refine kas_31 S hK E h2 d_Names_add_20 (fun σ3 eσ3 H locs E => ?_)
    have hM := lq_inv hM σ3 eσ3
    refine lv_aload_n S.1 S.2.1 d_Names_add_21 rfl (lv_at hl 0 rfl) ?_
    refine kgf_Names_15_6 S hK E d_Names_add_22 ?_
    refine lv_aload_n S.1 S.2.1 d_Names_add_25 rfl (lv_at hl 0 rfl) ?_
    refine kgf_Names_18_6 S hK E d_Names_add_26 ?_
    refine lv_iload_n S.1 S.2.1 d_Names_add_29 rfl (lv_at hl 2 rfl) ?_
    obtain ⟨h4, hM⟩ := gd_inv hM
    refine kas_32 S hK E h4 d_Names_add_30 (fun σ5 eσ5 H locs E => ?_)
    have hM := lq_inv hM σ5 eσ5
    refine lv_aload_n S.1 S.2.1 d_Names_add_31 rfl (lv_at hl 0 rfl) ?_
    refine lv_dup S.1 S.2.1 d_Names_add_32 rfl ?_
    refine kgf_Names_18_6 S hK E d_Names_add_33 ?_
    refine lv_iconst (v := 1) S.1 S.2.1 d_Names_add_36 (by decide) ?_
    refine lv_iadd S.1 S.2.1 d_Names_add_37 ?_
    refine kpf_Names_18_6 S hK E d_Names_add_38 (fun σ6 eσ6 H locs E => ?_)
    have hM := lq_inv hM σ6 eσ6
    refine lv_iconst (v := 1) S.1 S.2.1 d_Names_add_41 (by decide) ?_
    obtain ⟨rfl, rfl⟩ := pr_inj hM
    exact kretz S hr hlk hK E d_Names_add_42 rfl
  · have hM := ifN hM c1
    refine lv_iconst (v := 0) S.1 S.2.1 d_Names_add_9 (by decide) ?_
    obtain ⟨rfl, rfl⟩ := pr_inj hM
    exact kretz S hr hlk hK E d_Names_add_10 rfl
set_option maxHeartbeats 4000000 in
set_option maxRecDepth 100000 in
theorem kC_Names_size {l : Launch} {D : va_G} {a : Nat → Nat} {cA : Nat → ClassId} {A : Nat → Prop} {g : Nat → Nat} {σ : St} {r : Int32} (hM : kM_Names_size σ = some r) : Met l y_Names_size (.code y_Names_size prog_6_method_3_code 1 (some .int) :: AW) krm_Names_size (va_Pc [.ref (a 6)] (kCP D a cA A g σ)) (kqi D a cA A g r σ) 0 0 A := by
  refine kmet (nL := 1) (by decide) (Nat.le_of_ble_eq_true rfl) (fun S hr hlk hK E ls hl => ?_)
  have hl : lv_has ls 1 [(0, .ref (a 6))] := hl
  unfold kM_Names_size at hM
  refine lv_aload_n S.1 S.2.1 d_Names_size_0 rfl (lv_at hl 0 rfl) ?_
  refine kgf_Names_18_6 S hK E d_Names_size_1 ?_
  obtain rfl := Option.some.inj hM
  exact kreti S hr hlk hK E d_Names_size_4
set_option maxHeartbeats 4000000 in
set_option maxRecDepth 100000 in
theorem kC_PT_name {l : Launch} {D : va_G} {a : Nat → Nat} {cA : Nat → ClassId} {A : Nat → Prop} {g : Nat → Nat} {σ σ2 : St} {x1 : Int32} {x2 : Int32} {r : Int32} (hM : kM_PT_name σ x1 x2 = some (r, σ2)) : Met l y_PT_name (.code y_PT_name prog_1_method_20_code 3 (some .int) :: AW) krm_PT_name (va_Pc [.ref (a 0), .int x1, .int x2] (kCP D a cA A g σ)) (kqi D a cA A g r σ2) 0 0 A := by
  refine kmet (nL := 3) (by decide) (Nat.le_of_ble_eq_true rfl) (fun S hr hlk hK E ls hl => ?_)
  have hl : lv_has ls 3 [(0, .ref (a 0)), (1, .int x1), (2, .int x2)] := hl
  unfold kM_PT_name at hM
  refine lv_aload_n S.1 S.2.1 d_PT_name_0 rfl (lv_at hl 0 rfl) ?_
  refine kgf_PT_21_0 S hK E d_PT_name_1 ?_
  refine lv_iload_n S.1 S.2.1 d_PT_name_4 rfl (lv_at hl 2 rfl) ?_
  obtain ⟨r2, σ3, h1, hM⟩ := bd_inv hM
  refine kcr_39 (As := [.int x2]) (rest := []) S hK E (kC_Order_placeOf h1) ⟨Nat.le_of_ble_eq_true rfl, Nat.le_of_ble_eq_true rfl⟩ rfl rfl hl.1 (lv_room (Nat.le_of_ble_eq_true rfl)) d_PT_name_5 (fun H locs E => ?_)
  refine lv_iconst (v := (-1)) S.1 S.2.1 d_PT_name_8 (by decide) ?_
  refine lv_icmp_ne (tgt := 14) S.1 S.2.1 d_PT_name_9 (by decide) (fun c4 => ?_) (fun c4 => ?_)
  · have hM := ifN hM c4
    refine lv_iload_n S.1 S.2.1 d_PT_name_14 rfl (lv_at hl 1 rfl) ?_
    obtain ⟨r6, h5, hM⟩ := br_inv hM
    refine kcr_86 (As := [.int x1]) (rest := []) S hK E (kC_Names_isName h5) ⟨Nat.le_of_ble_eq_true rfl, Nat.le_of_ble_eq_true rfl⟩ rfl rfl hl.1 (lv_room (Nat.le_of_ble_eq_true rfl)) d_PT_name_15 (fun H locs E => ?_)
    refine lv_if_ne (tgt := 24) S.1 S.2.1 d_PT_name_18 (by decide) (fun c7 => ?_) (fun c7 => ?_)
    · have hM := ifN hM c7
      refine lv_aload_n S.1 S.2.1 d_PT_name_24 rfl (lv_at hl 0 rfl) ?_
      refine kgf_PT_49_0 S hK E d_PT_name_25 ?_
      refine lv_iload_n S.1 S.2.1 d_PT_name_28 rfl (lv_at hl 1 rfl) ?_
      obtain ⟨r9, h8, hM⟩ := br_inv hM
      refine kcr_87 (As := [.int x1]) (rest := []) S hK E (kC_Names_pageOf h8) ⟨Nat.le_of_ble_eq_true rfl, Nat.le_of_ble_eq_true rfl⟩ rfl rfl hl.1 (lv_room (Nat.le_of_ble_eq_true rfl)) d_PT_name_29 (fun H locs E => ?_)
      refine lv_iconst (v := (-1)) S.1 S.2.1 d_PT_name_32 (by decide) ?_
      refine lv_icmp_eq (tgt := 39) S.1 S.2.1 d_PT_name_33 (by decide) (fun c10 => ?_) (fun c10 => ?_)
      · have hM := ifP hM c10
        refine lv_aload_n S.1 S.2.1 d_PT_name_39 rfl (lv_at hl 0 rfl) ?_
        refine kgf_PT_49_0 S hK E d_PT_name_40 ?_
        refine lv_iload_n S.1 S.2.1 d_PT_name_43 rfl (lv_at hl 1 rfl) ?_
        refine lv_iload_n S.1 S.2.1 d_PT_name_44 rfl (lv_at hl 2 rfl) ?_
        obtain ⟨r12, σ13, h11, hM⟩ := bd_inv hM
        refine kcr_88 (As := [.int x1, .int x2]) (rest := []) S hK E (kC_Names_add h11) ⟨Nat.le_of_ble_eq_true rfl, Nat.le_of_ble_eq_true rfl⟩ rfl rfl hl.1 (lv_room (Nat.le_of_ble_eq_true rfl)) d_PT_name_45 (fun H locs E => ?_)
        refine lv_if_eq (tgt := 61) S.1 S.2.1 d_PT_name_48 (by decide) (fun c14 => ?_) (fun c14 => ?_)
        · have hM := ifP hM c14
          refine lv_bipush (v := (-4)) S.1 S.2.1 d_PT_name_61 (by decide) ?_
          obtain ⟨rfl, rfl⟩ := pr_inj hM
          exact kreti S hr hlk hK E d_PT_name_63
        · have hM := ifN hM c14
          refine lv_aload_n S.1 S.2.1 d_PT_name_51 rfl (lv_at hl 0 rfl) ?_
          refine kgf_PT_49_0 S hK E d_PT_name_52 ?_
          obtain ⟨r16, h15, hM⟩ := br_inv hM
          refine kcr_89 (As := []) (rest := []) S hK E (kC_Names_size h15) ⟨Nat.le_of_ble_eq_true rfl, Nat.le_of_ble_eq_true rfl⟩ rfl rfl hl.1 (lv_room (Nat.le_of_ble_eq_true rfl)) d_PT_name_55 (fun H locs E => ?_)
          refine lv_goto (tgt := 63) S.1 S.2.1 d_PT_name_58 (by decide) ?_
          obtain ⟨rfl, rfl⟩ := pr_inj hM
          exact kreti S hr hlk hK E d_PT_name_63
      · have hM := ifN hM c10
        refine lv_bipush (v := (-3)) S.1 S.2.1 d_PT_name_36 (by decide) ?_
        obtain ⟨rfl, rfl⟩ := pr_inj hM
        exact kreti S hr hlk hK E d_PT_name_38
    · have hM := ifP hM c7
      refine lv_bipush (v := (-2)) S.1 S.2.1 d_PT_name_21 (by decide) ?_
      obtain ⟨rfl, rfl⟩ := pr_inj hM
      exact kreti S hr hlk hK E d_PT_name_23
  · have hM := ifP hM c4
    refine lv_iconst (v := (-1)) S.1 S.2.1 d_PT_name_12 (by decide) ?_
    obtain ⟨rfl, rfl⟩ := pr_inj hM
    exact kreti S hr hlk hK E d_PT_name_13
set_option maxHeartbeats 4000000 in
set_option maxRecDepth 100000 in
theorem kC_PT_look {l : Launch} {D : va_G} {a : Nat → Nat} {cA : Nat → ClassId} {A : Nat → Prop} {g : Nat → Nat} {σ : St} {x1 : Int32} {r : Int32} (hM : kM_PT_look σ x1 = some r) : Met l y_PT_look (.code y_PT_look prog_1_method_21_code 2 (some .int) :: AW) krm_PT_look (va_Pc [.ref (a 0), .int x1] (kCP D a cA A g σ)) (kqi D a cA A g r σ) 0 0 A := by
  refine kmet (nL := 2) (by decide) (Nat.le_of_ble_eq_true rfl) (fun S hr hlk hK E ls hl => ?_)
  have hl : lv_has ls 2 [(0, .ref (a 0)), (1, .int x1)] := hl
  unfold kM_PT_look at hM
  refine lv_aload_n S.1 S.2.1 d_PT_look_0 rfl (lv_at hl 0 rfl) ?_
  refine kgf_PT_49_0 S hK E d_PT_look_1 ?_
  refine lv_iload_n S.1 S.2.1 d_PT_look_4 rfl (lv_at hl 1 rfl) ?_
  obtain ⟨r2, h1, hM⟩ := br_inv hM
  refine kcr_87 (As := [.int x1]) (rest := []) S hK E (kC_Names_pageOf h1) ⟨Nat.le_of_ble_eq_true rfl, Nat.le_of_ble_eq_true rfl⟩ rfl rfl hl.1 (lv_room (Nat.le_of_ble_eq_true rfl)) d_PT_look_5 (fun H locs E => ?_)
  obtain rfl := Option.some.inj hM
  exact kreti S hr hlk hK E d_PT_look_8
