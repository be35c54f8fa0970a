/-! THE CLAIM OUT OF ONE WALK OF THE LAW'S BODY. Your part is whole_start (and what it stands on); all else here is the same for every law, but numbers. -/
def R_law : String := "PageTreeLaw"
def lw_P (b : Addr) (xs : List Int32) (args : Array Value) (s : State) : Prop := args = #[.ref b] ∧ s.IntsAt b xs ∧ xs.length ≤ 2048 ∧ (Jvm.Cond.and given_1 narrow_1).before args s = true
def lw_Q (_ : Array Value) (s : State) (o : Outcome) (t : State) : Prop := o = .returned (some (.int 1)) ∧ Framed s o t [] 56 24164
def lw_Z (below : List Frame) (a : Array Value) (s : State) : State → Prop := fun t => ∃ o, t.status = .running ∧ Ended t below o ∧ lw_Q a s o t
/-- the law's own end, with 1 on the stack, nothing written that was there before, its room as the claim has it -/
theorem lw_ret {p : Program} {l : Launch} {e : Env} {s : State} {m : MethodId} {below : List Frame} {meth : Method} {c : Code} {b : Nat} (hx : p.tables.exec = Jvm.exec) (hb : c.code = code) (hr : meth.sig.returnType = ret) (hlocks : meth.locks = false) {pc : Nat} {H : Heap} {ls : Array Slot} (hdg : decode code pc = .ok (.ireturn, 1)) : W p l e room_1 s m #[Value.ref b] below meth c H [] 56 24164 (lw_Z below #[Value.ref b] s) (F0 m pc ls [.int 1]) := by
  intro T hT X
  obtain ⟨fs, hret, hrun, hended, hW, hframe⟩ := X.leave (v := some (.int 1)) (hlocks := hlocks) (fun h => by rw [hr] at h; cases h)
  have hmeth' : T.vm.method? m = some meth := X.method'
  refine ⟨T.setFrames fs, ?_, .returned (some (.int 1)), hrun, hended, rfl, ⟨_, rfl⟩, hW, hframe⟩
  jvm_step X.here [X.here.top, hx, hb, hdg, hmeth', hr, ret, narrow_b1]
  (try refine ⟨rfl, ?_⟩); (try refine ⟨rfl, ?_⟩)
  first | (intro acts; rw [hret _ acts rfl rfl rfl]) | rw [hret _ _ rfl rfl rfl]
  exact Steps.refl _
/-- what holds at the law's entry: the machine, the code, the tables' words (any of lw_tbl by 'hts w (by decide +kernel)'), the script of L ints xs at the cell b, what the Statement gives of the start (any of its parts by flat_of_before) -/
def lw_At (p : Program) (s : State) (m : MethodId) (meth : Method) (c : Code) (b L : Nat) (xs : Nat → Int32) : Prop :=
  p.tables.exec = Jvm.exec ∧ c.code = code ∧ meth.sig.returnType = ret ∧ c.maxLocals = 4 ∧ s.vm.findClass R_law = some m.cls ∧ (∀ w ∈ lw_tbl, w.before #[Value.ref b] s = true) ∧ va_X b L xs s s.heap ∧ b < s.heap.size ∧ meth.locks = false ∧ (Jvm.Cond.and given_1 narrow_1).before #[Value.ref b] s = true

theorem nw_at {args : Array Value} {s : State} (h : (Jvm.Cond.and given_1 narrow_1).before args s = true) (i : Nat) {w : Cond} (hw : (flatC (Jvm.Cond.and given_1 narrow_1))[i]? = some w) : w.before args s = true := flat_of_before _ h w (List.mem_of_getElem? hw)
def kTm (i : Nat) : Term := .string "PageTree$Labels" (kIdx.getD i 0)
set_option maxHeartbeats 8000000 in
set_option maxRecDepth 100000 in
theorem kTX_start {args : Array Value} {s : State} (hts : ∀ w ∈ lw_tbl, w.before args s = true) (hgv : (Jvm.Cond.and given_1 narrow_1).before args s = true) : ∃ g : Nat → Nat, kTX (fun q => s.heap.size ≤ q) g s s.heap := by
  have hA : ∀ a : Nat, a < s.heap.size → ¬ (fun q : Nat => s.heap.size ≤ q) a := fun a h => Nat.not_le.mpr h
  have ht : ∀ (i : Nat) (w : Cond), tables_1[i]? = some w → w.before args s = true := fun i w h => hts w (List.mem_append_right _ (List.mem_of_getElem? h))
  obtain ⟨t, ht1, hT⟩ := va_Tof (tm := .static "PageTree$Labels" "ROMAN_VALUES" "[I") (ty := .int) (N := 13) (f := fun j => .int (kRom.getD j 0)) (by decide) (nw_at hgv 5 (by decide +kernel)) (va_eqt (nw_at hgv 6 (by decide +kernel))) (fun j hj => by
    match j, hj with
    | 0, _ => exact va_eqt (nw_at hgv 7 (by decide +kernel))
    | 1, _ => exact va_eqt (nw_at hgv 8 (by decide +kernel))
    | 2, _ => exact va_eqt (nw_at hgv 9 (by decide +kernel))
    | 3, _ => exact va_eqt (nw_at hgv 10 (by decide +kernel))
    | 4, _ => exact va_eqt (nw_at hgv 11 (by decide +kernel))
    | 5, _ => exact va_eqt (nw_at hgv 12 (by decide +kernel))
    | 6, _ => exact va_eqt (nw_at hgv 13 (by decide +kernel))
    | 7, _ => exact va_eqt (nw_at hgv 14 (by decide +kernel))
    | 8, _ => exact va_eqt (nw_at hgv 15 (by decide +kernel))
    | 9, _ => exact va_eqt (nw_at hgv 16 (by decide +kernel))
    | 10, _ => exact va_eqt (nw_at hgv 17 (by decide +kernel))
    | 11, _ => exact va_eqt (nw_at hgv 18 (by decide +kernel))
    | 12, _ => exact va_eqt (nw_at hgv 19 (by decide +kernel))
    | j + 13, h => exact absurd h (by omega)) hA
  have hZ := va_Zref (A := fun q : Nat => s.heap.size ≤ q) (ht 546 _ rfl) (ht 8 _ rfl) ht1 hA
  have hC := va_Zof (A := fun q : Nat => s.heap.size ≤ q) (ht 576 _ rfl) (ht 11 _ rfl) (va_eqi (z := 1) (nw_at hgv 20 (by decide +kernel))) hA
  have hF := va_Zqof (A := fun q : Nat => s.heap.size ≤ q) (ht 592 _ rfl) (ht 13 _ rfl) (nw_at hgv 21 (by decide +kernel)) hA
  have h1 : ∀ i : Nat, i < 13 → (Cond.exactly (kTm i) "java/lang/String").before args s = true := by
    intro i hi
    match i, hi with
    | 0, _ => exact (nw_at hgv 25 (by decide +kernel))
    | 1, _ => exact (nw_at hgv 30 (by decide +kernel))
    | 2, _ => exact (nw_at hgv 37 (by decide +kernel))
    | 3, _ => exact (nw_at hgv 44 (by decide +kernel))
    | 4, _ => exact (nw_at hgv 53 (by decide +kernel))
    | 5, _ => exact (nw_at hgv 62 (by decide +kernel))
    | 6, _ => exact (nw_at hgv 73 (by decide +kernel))
    | 7, _ => exact (nw_at hgv 84 (by decide +kernel))
    | 8, _ => exact (nw_at hgv 97 (by decide +kernel))
    | 9, _ => exact (nw_at hgv 110 (by decide +kernel))
    | 10, _ => exact (nw_at hgv 125 (by decide +kernel))
    | 11, _ => exact (nw_at hgv 140 (by decide +kernel))
    | 12, _ => exact (nw_at hgv 157 (by decide +kernel))
    | i + 13, h => exact absurd h (by omega)
  have h2 : ∀ i : Nat, i < 13 → (Cond.eq (.field (kTm i) "java/lang/String" "coder" "B") (.int 0)).before args s = true := by
    intro i hi
    match i, hi with
    | 0, _ => exact (nw_at hgv 26 (by decide +kernel))
    | 1, _ => exact (nw_at hgv 31 (by decide +kernel))
    | 2, _ => exact (nw_at hgv 38 (by decide +kernel))
    | 3, _ => exact (nw_at hgv 45 (by decide +kernel))
    | 4, _ => exact (nw_at hgv 54 (by decide +kernel))
    | 5, _ => exact (nw_at hgv 63 (by decide +kernel))
    | 6, _ => exact (nw_at hgv 74 (by decide +kernel))
    | 7, _ => exact (nw_at hgv 85 (by decide +kernel))
    | 8, _ => exact (nw_at hgv 98 (by decide +kernel))
    | 9, _ => exact (nw_at hgv 111 (by decide +kernel))
    | 10, _ => exact (nw_at hgv 126 (by decide +kernel))
    | 11, _ => exact (nw_at hgv 141 (by decide +kernel))
    | 12, _ => exact (nw_at hgv 158 (by decide +kernel))
    | i + 13, h => exact absurd h (by omega)
  have h3 : ∀ i : Nat, i < 13 → (Cond.arrayOf (.field (kTm i) "java/lang/String" "value" "[B") .byte).before args s = true := by
    intro i hi
    match i, hi with
    | 0, _ => exact (nw_at hgv 27 (by decide +kernel))
    | 1, _ => exact (nw_at hgv 32 (by decide +kernel))
    | 2, _ => exact (nw_at hgv 39 (by decide +kernel))
    | 3, _ => exact (nw_at hgv 46 (by decide +kernel))
    | 4, _ => exact (nw_at hgv 55 (by decide +kernel))
    | 5, _ => exact (nw_at hgv 64 (by decide +kernel))
    | 6, _ => exact (nw_at hgv 75 (by decide +kernel))
    | 7, _ => exact (nw_at hgv 86 (by decide +kernel))
    | 8, _ => exact (nw_at hgv 99 (by decide +kernel))
    | 9, _ => exact (nw_at hgv 112 (by decide +kernel))
    | 10, _ => exact (nw_at hgv 127 (by decide +kernel))
    | 11, _ => exact (nw_at hgv 142 (by decide +kernel))
    | 12, _ => exact (nw_at hgv 159 (by decide +kernel))
    | i + 13, h => exact absurd h (by omega)
  have h4 : ∀ i : Nat, i < 13 → (Cond.eq (.length (.field (kTm i) "java/lang/String" "value" "[B")) (.int (Int32.ofNat (kLen.getD i 0)))).before args s = true := by
    intro i hi
    match i, hi with
    | 0, _ => exact (nw_at hgv 28 (by decide +kernel))
    | 1, _ => exact (nw_at hgv 33 (by decide +kernel))
    | 2, _ => exact (nw_at hgv 40 (by decide +kernel))
    | 3, _ => exact (nw_at hgv 47 (by decide +kernel))
    | 4, _ => exact (nw_at hgv 56 (by decide +kernel))
    | 5, _ => exact (nw_at hgv 65 (by decide +kernel))
    | 6, _ => exact (nw_at hgv 76 (by decide +kernel))
    | 7, _ => exact (nw_at hgv 87 (by decide +kernel))
    | 8, _ => exact (nw_at hgv 100 (by decide +kernel))
    | 9, _ => exact (nw_at hgv 113 (by decide +kernel))
    | 10, _ => exact (nw_at hgv 128 (by decide +kernel))
    | 11, _ => exact (nw_at hgv 143 (by decide +kernel))
    | 12, _ => exact (nw_at hgv 160 (by decide +kernel))
    | i + 13, h => exact absurd h (by omega)
  have h5 : ∀ i : Nat, i < 13 → ∀ j : Nat, j < kLen.getD i 0 → (Cond.eq (.elem (.field (kTm i) "java/lang/String" "value" "[B") (.int (Int32.ofNat j))) (.int ((kByt.getD i []).getD j 0))).before args s = true := by
    intro i hi j hj
    match i, hi, j, hj with
    | 0, _, 0, _ => exact (nw_at hgv 29 (by decide +kernel))
    | 0, _, j + 1, h => exact absurd h (by simp [kLen])
    | 1, _, 0, _ => exact (nw_at hgv 34 (by decide +kernel))
    | 1, _, 1, _ => exact (nw_at hgv 35 (by decide +kernel))
    | 1, _, j + 2, h => exact absurd h (by simp [kLen])
    | 2, _, 0, _ => exact (nw_at hgv 41 (by decide +kernel))
    | 2, _, j + 1, h => exact absurd h (by simp [kLen])
    | 3, _, 0, _ => exact (nw_at hgv 48 (by decide +kernel))
    | 3, _, 1, _ => exact (nw_at hgv 49 (by decide +kernel))
    | 3, _, j + 2, h => exact absurd h (by simp [kLen])
    | 4, _, 0, _ => exact (nw_at hgv 57 (by decide +kernel))
    | 4, _, j + 1, h => exact absurd h (by simp [kLen])
    | 5, _, 0, _ => exact (nw_at hgv 66 (by decide +kernel))
    | 5, _, 1, _ => exact (nw_at hgv 67 (by decide +kernel))
    | 5, _, j + 2, h => exact absurd h (by simp [kLen])
    | 6, _, 0, _ => exact (nw_at hgv 77 (by decide +kernel))
    | 6, _, j + 1, h => exact absurd h (by simp [kLen])
    | 7, _, 0, _ => exact (nw_at hgv 88 (by decide +kernel))
    | 7, _, 1, _ => exact (nw_at hgv 89 (by decide +kernel))
    | 7, _, j + 2, h => exact absurd h (by simp [kLen])
    | 8, _, 0, _ => exact (nw_at hgv 101 (by decide +kernel))
    | 8, _, j + 1, h => exact absurd h (by simp [kLen])
    | 9, _, 0, _ => exact (nw_at hgv 114 (by decide +kernel))
    | 9, _, 1, _ => exact (nw_at hgv 115 (by decide +kernel))
    | 9, _, j + 2, h => exact absurd h (by simp [kLen])
    | 10, _, 0, _ => exact (nw_at hgv 129 (by decide +kernel))
    | 10, _, j + 1, h => exact absurd h (by simp [kLen])
    | 11, _, 0, _ => exact (nw_at hgv 144 (by decide +kernel))
    | 11, _, 1, _ => exact (nw_at hgv 145 (by decide +kernel))
    | 11, _, j + 2, h => exact absurd h (by simp [kLen])
    | 12, _, 0, _ => exact (nw_at hgv 161 (by decide +kernel))
    | 12, _, j + 1, h => exact absurd h (by simp [kLen])
    | i + 13, h, _, _ => exact absurd h (by omega)
  have h6 : ∀ i j : Nat, i < 13 → j < 13 → i ≠ j → (Cond.not (Cond.eq (kTm i) (kTm j))).before args s = true ∨ (Cond.not (Cond.eq (kTm j) (kTm i))).before args s = true := by
    have hlt : ∀ j : Nat, j < 13 → ∀ i : Nat, i < j → (Cond.not (Cond.eq (kTm i) (kTm j))).before args s = true := by
      intro j hj i hi
      match j, hj, i, hi with
      | 0, _, i + 0, h => exact absurd h (by omega)
      | 1, _, 0, _ => exact (nw_at hgv 36 (by decide +kernel))
      | 1, _, i + 1, h => exact absurd h (by omega)
      | 2, _, 0, _ => exact (nw_at hgv 42 (by decide +kernel))
      | 2, _, 1, _ => exact (nw_at hgv 43 (by decide +kernel))
      | 2, _, i + 2, h => exact absurd h (by omega)
      | 3, _, 0, _ => exact (nw_at hgv 50 (by decide +kernel))
      | 3, _, 1, _ => exact (nw_at hgv 51 (by decide +kernel))
      | 3, _, 2, _ => exact (nw_at hgv 52 (by decide +kernel))
      | 3, _, i + 3, h => exact absurd h (by omega)
      | 4, _, 0, _ => exact (nw_at hgv 58 (by decide +kernel))
      | 4, _, 1, _ => exact (nw_at hgv 59 (by decide +kernel))
      | 4, _, 2, _ => exact (nw_at hgv 60 (by decide +kernel))
      | 4, _, 3, _ => exact (nw_at hgv 61 (by decide +kernel))
      | 4, _, i + 4, h => exact absurd h (by omega)
      | 5, _, 0, _ => exact (nw_at hgv 68 (by decide +kernel))
      | 5, _, 1, _ => exact (nw_at hgv 69 (by decide +kernel))
      | 5, _, 2, _ => exact (nw_at hgv 70 (by decide +kernel))
      | 5, _, 3, _ => exact (nw_at hgv 71 (by decide +kernel))
      | 5, _, 4, _ => exact (nw_at hgv 72 (by decide +kernel))
      | 5, _, i + 5, h => exact absurd h (by omega)
      | 6, _, 0, _ => exact (nw_at hgv 78 (by decide +kernel))
      | 6, _, 1, _ => exact (nw_at hgv 79 (by decide +kernel))
      | 6, _, 2, _ => exact (nw_at hgv 80 (by decide +kernel))
      | 6, _, 3, _ => exact (nw_at hgv 81 (by decide +kernel))
      | 6, _, 4, _ => exact (nw_at hgv 82 (by decide +kernel))
      | 6, _, 5, _ => exact (nw_at hgv 83 (by decide +kernel))
      | 6, _, i + 6, h => exact absurd h (by omega)
      | 7, _, 0, _ => exact (nw_at hgv 90 (by decide +kernel))
      | 7, _, 1, _ => exact (nw_at hgv 91 (by decide +kernel))
      | 7, _, 2, _ => exact (nw_at hgv 92 (by decide +kernel))
      | 7, _, 3, _ => exact (nw_at hgv 93 (by decide +kernel))
      | 7, _, 4, _ => exact (nw_at hgv 94 (by decide +kernel))
      | 7, _, 5, _ => exact (nw_at hgv 95 (by decide +kernel))
      | 7, _, 6, _ => exact (nw_at hgv 96 (by decide +kernel))
      | 7, _, i + 7, h => exact absurd h (by omega)
      | 8, _, 0, _ => exact (nw_at hgv 102 (by decide +kernel))
      | 8, _, 1, _ => exact (nw_at hgv 103 (by decide +kernel))
      | 8, _, 2, _ => exact (nw_at hgv 104 (by decide +kernel))
      | 8, _, 3, _ => exact (nw_at hgv 105 (by decide +kernel))
      | 8, _, 4, _ => exact (nw_at hgv 106 (by decide +kernel))
      | 8, _, 5, _ => exact (nw_at hgv 107 (by decide +kernel))
      | 8, _, 6, _ => exact (nw_at hgv 108 (by decide +kernel))
      | 8, _, 7, _ => exact (nw_at hgv 109 (by decide +kernel))
      | 8, _, i + 8, h => exact absurd h (by omega)
      | 9, _, 0, _ => exact (nw_at hgv 116 (by decide +kernel))
      | 9, _, 1, _ => exact (nw_at hgv 117 (by decide +kernel))
      | 9, _, 2, _ => exact (nw_at hgv 118 (by decide +kernel))
      | 9, _, 3, _ => exact (nw_at hgv 119 (by decide +kernel))
      | 9, _, 4, _ => exact (nw_at hgv 120 (by decide +kernel))
      | 9, _, 5, _ => exact (nw_at hgv 121 (by decide +kernel))
      | 9, _, 6, _ => exact (nw_at hgv 122 (by decide +kernel))
      | 9, _, 7, _ => exact (nw_at hgv 123 (by decide +kernel))
      | 9, _, 8, _ => exact (nw_at hgv 124 (by decide +kernel))
      | 9, _, i + 9, h => exact absurd h (by omega)
      | 10, _, 0, _ => exact (nw_at hgv 130 (by decide +kernel))
      | 10, _, 1, _ => exact (nw_at hgv 131 (by decide +kernel))
      | 10, _, 2, _ => exact (nw_at hgv 132 (by decide +kernel))
      | 10, _, 3, _ => exact (nw_at hgv 133 (by decide +kernel))
      | 10, _, 4, _ => exact (nw_at hgv 134 (by decide +kernel))
      | 10, _, 5, _ => exact (nw_at hgv 135 (by decide +kernel))
      | 10, _, 6, _ => exact (nw_at hgv 136 (by decide +kernel))
      | 10, _, 7, _ => exact (nw_at hgv 137 (by decide +kernel))
      | 10, _, 8, _ => exact (nw_at hgv 138 (by decide +kernel))
      | 10, _, 9, _ => exact (nw_at hgv 139 (by decide +kernel))
      | 10, _, i + 10, h => exact absurd h (by omega)
      | 11, _, 0, _ => exact (nw_at hgv 146 (by decide +kernel))
      | 11, _, 1, _ => exact (nw_at hgv 147 (by decide +kernel))
      | 11, _, 2, _ => exact (nw_at hgv 148 (by decide +kernel))
      | 11, _, 3, _ => exact (nw_at hgv 149 (by decide +kernel))
      | 11, _, 4, _ => exact (nw_at hgv 150 (by decide +kernel))
      | 11, _, 5, _ => exact (nw_at hgv 151 (by decide +kernel))
      | 11, _, 6, _ => exact (nw_at hgv 152 (by decide +kernel))
      | 11, _, 7, _ => exact (nw_at hgv 153 (by decide +kernel))
      | 11, _, 8, _ => exact (nw_at hgv 154 (by decide +kernel))
      | 11, _, 9, _ => exact (nw_at hgv 155 (by decide +kernel))
      | 11, _, 10, _ => exact (nw_at hgv 156 (by decide +kernel))
      | 11, _, i + 11, h => exact absurd h (by omega)
      | 12, _, 0, _ => exact (nw_at hgv 162 (by decide +kernel))
      | 12, _, 1, _ => exact (nw_at hgv 163 (by decide +kernel))
      | 12, _, 2, _ => exact (nw_at hgv 164 (by decide +kernel))
      | 12, _, 3, _ => exact (nw_at hgv 165 (by decide +kernel))
      | 12, _, 4, _ => exact (nw_at hgv 166 (by decide +kernel))
      | 12, _, 5, _ => exact (nw_at hgv 167 (by decide +kernel))
      | 12, _, 6, _ => exact (nw_at hgv 168 (by decide +kernel))
      | 12, _, 7, _ => exact (nw_at hgv 169 (by decide +kernel))
      | 12, _, 8, _ => exact (nw_at hgv 170 (by decide +kernel))
      | 12, _, 9, _ => exact (nw_at hgv 171 (by decide +kernel))
      | 12, _, 10, _ => exact (nw_at hgv 172 (by decide +kernel))
      | 12, _, 11, _ => exact (nw_at hgv 173 (by decide +kernel))
      | 12, _, i + 12, h => exact absurd h (by omega)
      | j + 13, h, _, _ => exact absurd h (by omega)
    intro i j hi hj hne
    rcases Nat.lt_or_gt_of_ne hne with h | h
    · exact Or.inl (hlt j hj i h)
    · exact Or.inr (hlt i hi j h)
  obtain ⟨adK, adV, hV, hK⟩ := vk_Sof (A := fun q : Nat => s.heap.size ≤ q) (tm := kTm) kLN_le h1 h2 h3 h4 h5 h6 hA
  have hR : ∀ i : Nat, i < 13 → vk_R "PageTree$Labels" (kIdx.getD i 0) (kTxt.getD i "") (adK i) s := by
    intro i hi
    refine vk_R.of (A := args) ?_ (hK i hi)
    match i, hi with
    | 0, _ => exact ht 550 _ rfl
    | 1, _ => exact ht 551 _ rfl
    | 2, _ => exact ht 552 _ rfl
    | 3, _ => exact ht 553 _ rfl
    | 4, _ => exact ht 554 _ rfl
    | 5, _ => exact ht 555 _ rfl
    | 6, _ => exact ht 556 _ rfl
    | 7, _ => exact ht 557 _ rfl
    | 8, _ => exact ht 558 _ rfl
    | 9, _ => exact ht 559 _ rfl
    | 10, _ => exact ht 560 _ rfl
    | 11, _ => exact ht 561 _ rfl
    | 12, _ => exact ht 562 _ rfl
    | i + 13, h => exact absurd h (by omega)
  refine ⟨fun n => if n = 0 then t else if n % 2 = 1 then adK (n / 2) else adV (n / 2 - 1), ?_⟩
  have e1 : kSA (fun n => if n = 0 then t else if n % 2 = 1 then adK (n / 2) else adV (n / 2 - 1)) = adK := by
    funext j
    show (if 2 * j + 1 = 0 then t else if (2 * j + 1) % 2 = 1 then adK ((2 * j + 1) / 2) else adV ((2 * j + 1) / 2 - 1)) = adK j
    rw [if_neg (by omega), if_pos (by omega), show (2 * j + 1) / 2 = j by omega]
  have e2 : kVA (fun n => if n = 0 then t else if n % 2 = 1 then adK (n / 2) else adV (n / 2 - 1)) = adV := by
    funext j
    show (if 2 * j + 2 = 0 then t else if (2 * j + 2) % 2 = 1 then adK ((2 * j + 2) / 2) else adV ((2 * j + 2) / 2 - 1)) = adV j
    rw [if_neg (by omega), if_neg (by omega), show (2 * j + 2) / 2 - 1 = j by omega]
  refine ⟨hZ, hT, hC, hF, ?_, ?_⟩
  · rw [e1, e2]; exact hV
  · rw [e1]; exact hR
theorem kTX_narrow {A B : Nat → Prop} {g : Nat → Nat} {U : State} {H : Heap} (h : kTX A g U H) (hAB : ∀ q, B q → A q) : kTX B g U H :=
  ⟨h.1.narrow hAB, h.2.1.narrow hAB, h.2.2.1.narrow hAB, h.2.2.2.1.narrow hAB, h.2.2.2.2.1.narrow hAB, h.2.2.2.2.2⟩
/-- the law's world: the class's cells, and behind them the reference's -/
def lE (D : va_G) (a : Nat → Nat) (cA : Nat → ClassId) (b2 : Nat → Nat) (cB : Nat → ClassId) (σ ρ : St) (H0 H : Heap) (locs : List Loc) : Prop := va_P D vwCl (kPW a cA σ ++ rPW b2 cB ρ) H ∧ va_D (fun q : Nat => H0.size ≤ q) (kPW a cA σ ++ rPW b2 cB ρ) ∧ va_S (fun q : Nat => H0.size ≤ q) H0 H locs
def lK (D : va_G) (cA cB : Nat → ClassId) (g : Nat → Nat) (s : State) : Prop := va_K D vwCl (kTY cA) s ∧ va_K D vwCl (rTY cB) s ∧ va_Nw (.methodLinkNest "PageTree$Items" 71 y_PT_isKey "PageTree") s ∧ va_Nw (.declares y_Walk_meetFirst) s ∧ kTX (fun q : Nat => s.heap.size ≤ q) g s s.heap
set_option maxRecDepth 100000 in
theorem ls_k {a : Nat → Nat} {cA : Nat → ClassId} {b2 : Nat → Nat} {cB : Nat → ClassId} {σ ρ : St} : ([0, 1, 2, 3, 4, 5, 6, 7, 8, 9, 10, 11, 12, 13, 14, 15, 16, 17, 18, 19, 20, 21, 22, 23, 24, 25, 26, 27, 28, 29, 30, 31, 32] : List Nat).map (fun i => (kPW a cA σ ++ rPW b2 cB ρ)[i]?) = (kPW a cA σ).map some := rfl
set_option maxRecDepth 100000 in
theorem ls_r {a : Nat → Nat} {cA : Nat → ClassId} {b2 : Nat → Nat} {cB : Nat → ClassId} {σ ρ : St} : ([33, 34, 35, 36, 37, 38, 39, 40, 41, 42, 43, 44, 45, 46, 47, 48, 49, 50, 51, 52, 53, 54, 55] : List Nat).map (fun i => (kPW a cA σ ++ rPW b2 cB ρ)[i]?) = (rPW b2 cB ρ).map some := rfl
set_option maxRecDepth 100000 in
theorem lf_k {a : Nat → Nat} {cA : Nat → ClassId} {b2 : Nat → Nat} {cB : Nat → ClassId} {σ ρ : St} : ([0, 1, 2, 3, 4, 5, 6, 7, 8, 9, 10, 11, 12, 13, 14, 15, 16, 17, 18, 19, 20, 21, 22, 23, 24, 25, 26, 27, 28, 29, 30, 31, 32] : List Nat).filterMap (fun i => (kPW a cA σ ++ rPW b2 cB ρ)[i]?) = kPW a cA σ := rfl
set_option maxRecDepth 100000 in
theorem lf_r {a : Nat → Nat} {cA : Nat → ClassId} {b2 : Nat → Nat} {cB : Nat → ClassId} {σ ρ : St} : ([33, 34, 35, 36, 37, 38, 39, 40, 41, 42, 43, 44, 45, 46, 47, 48, 49, 50, 51, 52, 53, 54, 55] : List Nat).filterMap (fun i => (kPW a cA σ ++ rPW b2 cB ρ)[i]?) = rPW b2 cB ρ := rfl
set_option maxRecDepth 100000 in
theorem lf_x {a : Nat → Nat} {cA : Nat → ClassId} {b2 : Nat → Nat} {cB : Nat → ClassId} {σ ρ : St} : ([23, 24, 25, 26, 27, 28, 29, 30, 31, 32, 33, 34, 35, 36, 37, 38, 39, 40, 41, 42, 43, 44, 45, 46, 47, 48, 49, 50, 51, 52, 53, 54, 55] ++ [0, 1, 2, 3, 4, 5, 6, 7, 8, 9, 10, 11, 12, 13, 14, 15, 16, 17, 18, 19, 20, 21, 22] : List Nat).filterMap (fun i => (rPW b2 cB ρ ++ kPW a cA σ)[i]?) = kPW a cA σ ++ rPW b2 cB ρ := rfl
set_option maxRecDepth 100000 in
theorem ls_x {a : Nat → Nat} {cA : Nat → ClassId} {b2 : Nat → Nat} {cB : Nat → ClassId} {σ ρ : St} : ([23, 24, 25, 26, 27, 28, 29, 30, 31, 32, 33, 34, 35, 36, 37, 38, 39, 40, 41, 42, 43, 44, 45, 46, 47, 48, 49, 50, 51, 52, 53, 54, 55] ++ [0, 1, 2, 3, 4, 5, 6, 7, 8, 9, 10, 11, 12, 13, 14, 15, 16, 17, 18, 19, 20, 21, 22] : List Nat).map (fun i => (rPW b2 cB ρ ++ kPW a cA σ)[i]?) = (kPW a cA σ ++ rPW b2 cB ρ).map some := rfl
section
variable {p : Program} {l : Launch} {e : Env} {s : State} {m : MethodId} {args : Array Value} {below : List Frame} {meth : Method} {c : Code} {H : Heap} {locs : List Loc} {Q : State → Prop}
variable {D : va_G} {a b2 : Nat → Nat} {cA cB : Nat → ClassId} {g : Nat → Nat} {σ ρ σ2 ρ2 : St} {cc bytes : ByteArray} {nL maxL n index : Nat} {ret : Option FieldType} {pc : Nat} {ls : Array Slot} {rest st0 As : List Value} {r : Int32} {y : MethodName} {rm : Room} {ws : List Cond}
theorem lc_k (S : CallFix p m c cc nL s args AW R_Law) (hK : lK D cA cB g s) (E : lE D a cA b2 cB σ ρ s.heap H locs) (hM : ∀ A : Nat → Prop, Met l y ws rm (va_Pc (.ref (a 0) :: As) (kCP D a cA A g σ)) (kqi D a cA A g r σ2) 0 0 A) (cw : CallW room_1 s args R_Law R_PT index y bytes maxL ret ws rm 0 0 n) (hn : As.length = n) (hst : st0 = As.reverse ++ .ref (a 0) :: rest) (hsz : ls.size = nL) (hW : 2 * (F0 m pc ls st0).monitorRoom + (rest.map fun v => v.category).sum ≤ 8) (hdg : decode cc pc = .ok (.invokevirtual index, 3)) (kk : ∀ (H : Heap) (locs : List Loc), lE D a cA b2 cB σ2 ρ s.heap H locs → W p l e room_1 s m args below meth c H locs 56 24164 Q (F0 m (pc + 3) ls (.int r :: rest))) : W p l e room_1 s m args below meth c H locs 56 24164 Q (F0 m pc ls st0) := by
  obtain ⟨hP, hD, hS⟩ := E
  have hA : ∀ q : Nat, s.heap.size ≤ q → (fun q : Nat => s.heap.size ≤ q) q := fun _ h => h
  have hPc := hP.sub (ws' := kPW a cA σ) [0, 1, 2, 3, 4, 5, 6, 7, 8, 9, 10, 11, 12, 13, 14, 15, 16, 17, 18, 19, 20, 21, 22, 23, 24, 25, 26, 27, 28, 29, 30, 31, 32] lf_k
  have hDc := hD.sub (ws' := kPW a cA σ) [0, 1, 2, 3, 4, 5, 6, 7, 8, 9, 10, 11, 12, 13, 14, 15, 16, 17, 18, 19, 20, 21, 22, 23, 24, 25, 26, 27, 28, 29, 30, 31, 32] (by decide) ls_k
  have hFc := va_free (wc := kPW a cA σ) hD hS hA [0, 1, 2, 3, 4, 5, 6, 7, 8, 9, 10, 11, 12, 13, 14, 15, 16, 17, 18, 19, 20, 21, 22, 23, 24, 25, 26, 27, 28, 29, 30, 31, 32] ls_k
  refine va_calli (va_runV (As := As) (rest := rest) S (hM (va_A (kPW a cA σ) H.size)) cw ⟨kCP_blind, va_recv hK.1 hPc (ci := 6) (q0 := 0) rfl rfl, fun U hU hW => ⟨rfl, by rw [hU]; exact hPc, ⟨va_K.moved hW.alike hK.1, va_Nw.warmM hW hK.2.2.1, va_Nw.warmD hW hK.2.2.2.1, kTX_narrow (by rw [hU]; exact kTX_move hK.2.2.2.2 hW hS) hFc⟩, hDc.self⟩⟩ rfl hn hsz hst hW hdg ⟨Nat.le_of_ble_eq_true rfl, Nat.le_of_ble_eq_true rfl⟩) hS (fun q _ h => hFc q h) hFc (fun r1 u t H1 locs1 ht hvm hw hB hz1 hk1 hS1 => ?_)
  obtain ⟨rfl, rfl⟩ := hw
  obtain ⟨hP1, -, hD1⟩ := hB
  rw [ht] at hP1
  obtain ⟨hP2, hD2⟩ := va_join (wr := rPW b2 cB ρ) (w1 := kPW a cA u) hP hD [0, 1, 2, 3, 4, 5, 6, 7, 8, 9, 10, 11, 12, 13, 14, 15, 16, 17, 18, 19, 20, 21, 22, 23, 24, 25, 26, 27, 28, 29, 30, 31, 32] [33, 34, 35, 36, 37, 38, 39, 40, 41, 42, 43, 44, 45, 46, 47, 48, 49, 50, 51, 52, 53, 54, 55] ls_k ls_r (by decide) (by decide) hk1 hFc hP1 hD1
  exact kk H1 locs1 ⟨hP2.sub ([23, 24, 25, 26, 27, 28, 29, 30, 31, 32, 33, 34, 35, 36, 37, 38, 39, 40, 41, 42, 43, 44, 45, 46, 47, 48, 49, 50, 51, 52, 53, 54, 55] ++ [0, 1, 2, 3, 4, 5, 6, 7, 8, 9, 10, 11, 12, 13, 14, 15, 16, 17, 18, 19, 20, 21, 22]) lf_x, hD2.sub ([23, 24, 25, 26, 27, 28, 29, 30, 31, 32, 33, 34, 35, 36, 37, 38, 39, 40, 41, 42, 43, 44, 45, 46, 47, 48, 49, 50, 51, 52, 53, 54, 55] ++ [0, 1, 2, 3, 4, 5, 6, 7, 8, 9, 10, 11, 12, 13, 14, 15, 16, 17, 18, 19, 20, 21, 22]) (by decide) ls_x, hS1⟩
theorem lc_r (S : CallFix p m c cc nL s args AW R_Law) (hK : lK D cA cB g s) (E : lE D a cA b2 cB σ ρ s.heap H locs) (hM : ∀ A : Nat → Prop, Met l y ws rm (va_Pc (.ref (b2 0) :: As) (rCP D b2 cB A g ρ)) (rqi D b2 cB A g r ρ2) 0 0 A) (cw : CallW room_1 s args R_Law R_Md index y bytes maxL ret ws rm 0 0 n) (hn : As.length = n) (hst : st0 = As.reverse ++ .ref (b2 0) :: rest) (hsz : ls.size = nL) (hW : 2 * (F0 m pc ls st0).monitorRoom + (rest.map fun v => v.category).sum ≤ 8) (hdg : decode cc pc = .ok (.invokevirtual index, 3)) (kk : ∀ (H : Heap) (locs : List Loc), lE D a cA b2 cB σ ρ2 s.heap H locs → W p l e room_1 s m args below meth c H locs 56 24164 Q (F0 m (pc + 3) ls (.int r :: rest))) : W p l e room_1 s m args below meth c H locs 56 24164 Q (F0 m pc ls st0) := by
  obtain ⟨hP, hD, hS⟩ := E
  have hA : ∀ q : Nat, s.heap.size ≤ q → (fun q : Nat => s.heap.size ≤ q) q := fun _ h => h
  have hPc := hP.sub (ws' := rPW b2 cB ρ) [33, 34, 35, 36, 37, 38, 39, 40, 41, 42, 43, 44, 45, 46, 47, 48, 49, 50, 51, 52, 53, 54, 55] lf_r
  have hDc := hD.sub (ws' := rPW b2 cB ρ) [33, 34, 35, 36, 37, 38, 39, 40, 41, 42, 43, 44, 45, 46, 47, 48, 49, 50, 51, 52, 53, 54, 55] (by decide) ls_r
  have hFc := va_free (wc := rPW b2 cB ρ) hD hS hA [33, 34, 35, 36, 37, 38, 39, 40, 41, 42, 43, 44, 45, 46, 47, 48, 49, 50, 51, 52, 53, 54, 55] ls_r
  refine va_calli (va_runV (As := As) (rest := rest) S (hM (va_A (rPW b2 cB ρ) H.size)) cw ⟨rCP_blind, va_recv hK.2.1 hPc (ci := 7) (q0 := 0) rfl rfl, fun U hU hW => ⟨rfl, by rw [hU]; exact hPc, ⟨va_K.moved hW.alike hK.2.1, trivial⟩, hDc.self⟩⟩ rfl hn hsz hst hW hdg ⟨Nat.le_of_ble_eq_true rfl, Nat.le_of_ble_eq_true rfl⟩) hS (fun q _ h => hFc q h) hFc (fun r1 u t H1 locs1 ht hvm hw hB hz1 hk1 hS1 => ?_)
  obtain ⟨rfl, rfl⟩ := hw
  obtain ⟨hP1, -, hD1⟩ := hB
  rw [ht] at hP1
  obtain ⟨hP2, hD2⟩ := va_join (wr := kPW a cA σ) (w1 := rPW b2 cB u) hP hD [33, 34, 35, 36, 37, 38, 39, 40, 41, 42, 43, 44, 45, 46, 47, 48, 49, 50, 51, 52, 53, 54, 55] [0, 1, 2, 3, 4, 5, 6, 7, 8, 9, 10, 11, 12, 13, 14, 15, 16, 17, 18, 19, 20, 21, 22, 23, 24, 25, 26, 27, 28, 29, 30, 31, 32] ls_r ls_k (by decide) (by decide) hk1 hFc hP1 hD1
  exact kk H1 locs1 ⟨hP2, hD2, hS1⟩
end
/-- the pure face of the law: what is owed of the pure functions, for a relation between the states -/
def lF_node (Rel : Nat → St → St → Prop) : Prop := ∀ (n : Nat) (σ ρ : St) (x1 : Int32) (x2 : Int32), n < 512 → Rel n σ ρ → ∃ (r : Int32) (σ2 : St) (ρ2 : St), kM_PT_node σ x1 x2 = some (r, σ2) ∧ rM_Md_node ρ x1 x2 = some (r, ρ2) ∧ Rel (n + 1) σ2 ρ2
def lF_page (Rel : Nat → St → St → Prop) : Prop := ∀ (n : Nat) (σ ρ : St) (x1 : Int32), n < 512 → Rel n σ ρ → ∃ (r : Int32) (σ2 : St) (ρ2 : St), kM_PT_page σ x1 = some (r, σ2) ∧ rM_Md_page ρ x1 = some (r, ρ2) ∧ Rel (n + 1) σ2 ρ2
def lF_list (Rel : Nat → St → St → Prop) : Prop := ∀ (n : Nat) (σ ρ : St) (x1 : Int32) (x2 : Int32), n < 512 → Rel n σ ρ → ∃ (r : Int32) (σ2 : St) (ρ2 : St), kM_PT_list σ x1 x2 = some (r, σ2) ∧ rM_Md_list ρ x1 x2 = some (r, ρ2) ∧ Rel (n + 1) σ2 ρ2
def lF_inherit (Rel : Nat → St → St → Prop) : Prop := ∀ (n : Nat) (σ ρ : St) (x1 : Int32) (x2 : Int32) (x3 : Int32), n < 512 → Rel n σ ρ → ∃ (r : Int32) (σ2 : St) (ρ2 : St), kM_PT_inherit σ x1 x2 x3 = some (r, σ2) ∧ rM_Md_inherit ρ x1 x2 x3 = some (r, ρ2) ∧ Rel (n + 1) σ2 ρ2
def lF_of (Rel : Nat → St → St → Prop) : Prop := ∀ (n : Nat) (σ ρ : St) (x1 : Int32) (x2 : Int32), n < 512 → Rel n σ ρ → ∃ (r : Int32), kM_PT_of σ x1 x2 = some r ∧ rM_Md_of ρ x1 x2 = some r ∧ Rel (n + 1) σ ρ
def lF_pages (Rel : Nat → St → St → Prop) : Prop := ∀ (n : Nat) (σ ρ : St), n < 512 → Rel n σ ρ → ∃ (r : Int32) (σ2 : St) (ρ2 : St), kM_PT_pages σ = some (r, σ2) ∧ rM_Md_pages ρ = some (r, ρ2) ∧ Rel (n + 1) σ2 ρ2
def lF_at (Rel : Nat → St → St → Prop) : Prop := ∀ (n : Nat) (σ ρ : St) (x1 : Int32), n < 512 → Rel n σ ρ → ∃ (r : Int32) (σ2 : St) (ρ2 : St), kM_PT_at σ x1 = some (r, σ2) ∧ rM_Md_at ρ x1 = some (r, ρ2) ∧ Rel (n + 1) σ2 ρ2
def lF_about (Rel : Nat → St → St → Prop) : Prop := ∀ (n : Nat) (σ ρ : St) (x1 : Int32) (x2 : Int32), n < 512 → Rel n σ ρ → ∃ (r : Int32) (σ2 : St) (ρ2 : St), kM_PT_about σ x1 x2 = some (r, σ2) ∧ rM_Md_about ρ x1 x2 = some (r, ρ2) ∧ Rel (n + 1) σ2 ρ2
def lF_kid (Rel : Nat → St → St → Prop) : Prop := ∀ (n : Nat) (σ ρ : St) (x1 : Int32) (x2 : Int32), n < 512 → Rel n σ ρ → ∃ (r : Int32), kM_PT_kid σ x1 x2 = some r ∧ rM_Md_kid ρ x1 x2 = some r ∧ Rel (n + 1) σ ρ
def lF_mend (Rel : Nat → St → St → Prop) : Prop := ∀ (n : Nat) (σ ρ : St), n < 512 → Rel n σ ρ → ∃ (r : Int32) (σ2 : St) (ρ2 : St), kM_PT_mend σ = some (r, σ2) ∧ rM_Md_mend ρ = some (r, ρ2) ∧ Rel (n + 1) σ2 ρ2
def lF_told (Rel : Nat → St → St → Prop) : Prop := ∀ (n : Nat) (σ ρ : St) (x1 : Int32) (x2 : Int32), n < 512 → Rel n σ ρ → ∃ (r : Int32), kM_PT_told σ x1 x2 = some r ∧ rM_Md_told ρ x1 x2 = some r ∧ Rel (n + 1) σ ρ
def lF_move (Rel : Nat → St → St → Prop) : Prop := ∀ (n : Nat) (σ ρ : St) (x1 : Int32) (x2 : Int32), n < 512 → Rel n σ ρ → ∃ (r : Int32) (σ2 : St) (ρ2 : St), kM_PT_move σ x1 x2 = some (r, σ2) ∧ rM_Md_move ρ x1 x2 = some (r, ρ2) ∧ Rel (n + 1) σ2 ρ2
def lF_copy (Rel : Nat → St → St → Prop) : Prop := ∀ (n : Nat) (σ ρ : St) (x1 : Int32), n < 512 → Rel n σ ρ → ∃ (r : Int32) (σ2 : St) (ρ2 : St), kM_PT_copy σ x1 = some (r, σ2) ∧ rM_Md_copy ρ x1 = some (r, ρ2) ∧ Rel (n + 1) σ2 ρ2
def lF_remove (Rel : Nat → St → St → Prop) : Prop := ∀ (n : Nat) (σ ρ : St) (x1 : Int32), n < 512 → Rel n σ ρ → ∃ (r : Int32) (σ2 : St) (ρ2 : St), kM_PT_remove σ x1 = some (r, σ2) ∧ rM_Md_remove ρ x1 = some (r, ρ2) ∧ Rel (n + 1) σ2 ρ2
def lF_label (Rel : Nat → St → St → Prop) : Prop := ∀ (n : Nat) (σ ρ : St) (x1 : Int32) (x2 : Int32) (x3 : Int32), n < 512 → Rel n σ ρ → ∃ (r : Int32) (σ2 : St) (ρ2 : St), kM_PT_label σ x1 x2 x3 = some (r, σ2) ∧ rM_Md_label ρ x1 x2 x3 = some (r, ρ2) ∧ Rel (n + 1) σ2 ρ2
def lF_text (Rel : Nat → St → St → Prop) : Prop := ∀ (n : Nat) (σ ρ : St) (x1 : Int32) (x2 : Int32), n < 512 → Rel n σ ρ → ∃ (r : Int32) (σ2 : St) (ρ2 : St), kM_PT_text σ x1 x2 = some (r, σ2) ∧ rM_Md_text ρ x1 x2 = some (r, ρ2) ∧ Rel (n + 1) σ2 ρ2
def lF_name (Rel : Nat → St → St → Prop) : Prop := ∀ (n : Nat) (σ ρ : St) (x1 : Int32) (x2 : Int32), n < 512 → Rel n σ ρ → ∃ (r : Int32) (σ2 : St) (ρ2 : St), kM_PT_name σ x1 x2 = some (r, σ2) ∧ rM_Md_name ρ x1 x2 = some (r, ρ2) ∧ Rel (n + 1) σ2 ρ2
def lF_look (Rel : Nat → St → St → Prop) : Prop := ∀ (n : Nat) (σ ρ : St) (x1 : Int32), n < 512 → Rel n σ ρ → ∃ (r : Int32), kM_PT_look σ x1 = some r ∧ rM_Md_look ρ x1 = some r ∧ Rel (n + 1) σ ρ
def lF_balance (Rel : Nat → St → St → Prop) : Prop := ∀ (n : Nat) (σ ρ : St), n < 512 → Rel n σ ρ → ∃ (r : Int32) (σ2 : St) (ρ2 : St), kM_PT_balance σ = some (r, σ2) ∧ rM_Md_balance ρ = some (r, ρ2) ∧ Rel (n + 1) σ2 ρ2
def lF_count (Rel : Nat → St → St → Prop) : Prop := ∀ (n : Nat) (σ ρ : St) (x1 : Int32), n < 512 → Rel n σ ρ → ∃ (r : Int32), kM_PT_count σ x1 = some r ∧ rM_Md_count ρ x1 = some r ∧ Rel (n + 1) σ ρ
def lF (Rel : Nat → St → St → Prop) : Prop := (∀ (n : Nat) (σ ρ : St), n < 512 → Rel n σ ρ → Rel (n + 1) σ ρ) ∧ lF_node Rel ∧ lF_page Rel ∧ lF_list Rel ∧ lF_inherit Rel ∧ lF_of Rel ∧ lF_pages Rel ∧ lF_at Rel ∧ lF_about Rel ∧ lF_kid Rel ∧ lF_mend Rel ∧ lF_told Rel ∧ lF_move Rel ∧ lF_copy Rel ∧ lF_remove Rel ∧ lF_label Rel ∧ lF_text Rel ∧ lF_name Rel ∧ lF_look Rel ∧ lF_balance Rel ∧ lF_count Rel
set_option maxHeartbeats 40000000 in
set_option maxRecDepth 100000 in
theorem law_loop_open {p : Program} {l : Launch} {e : Env} {s : State} {m : MethodId} {below : List Frame} {meth : Method} {c : Code} {D : va_G} {a b2 : Nat → Nat} {cA cB : Nat → ClassId} {g : Nat → Nat} {b L : Nat} {xs : Nat → Int32} {Rel : Nat → St → St → Prop} (hF : lF Rel) (hL : L ≤ 2048) (C0 : lw_At p s m meth c b L xs) (hK : lK D cA cB g s) :
    ∀ (n k : Nat) (σ ρ : St), 4 * k ≤ L + 4 → L + 4 < 4 * k + 4 * n → Rel k σ ρ → ∀ (H : Heap) (locs : List Loc) (ls : Array Slot), lE D a cA b2 cB σ ρ s.heap H locs → lv_has ls 4 [(0, .ref b), (1, .ref (a 0)), (2, .ref (b2 0)), (3, .int (nI (4 * k)))] → W p l e room_1 s m #[Value.ref b] below meth c H locs 56 24164 (lw_Z below #[Value.ref b] s) (F0 m 18 ls []) := by
  obtain ⟨hx, hb, hr, hml, hown, hts, hX, hbl, hlocks, hgv⟩ := C0
  have S : CallFix p m c code 4 s #[Value.ref b] AW R_Law := ⟨hx, hb, hml, hown, AW_hts hts⟩
  have hbA : ¬ (fun q : Nat => s.heap.size ≤ q) b := Nat.not_le.mpr hbl
  intro n
  induction n with
  | zero =>
    intro k σ ρ h1 h2
    exact absurd h2 (by omega)
  | succ n ih =>
    intro k σ ρ hk hkn hRel H locs ls E hl
    refine lv_iload_n hx hb d_Law_law_18 rfl (lv_at hl 3 rfl) ?_
    refine lv_aload_n hx hb d_Law_law_19 rfl (lv_at hl 0 rfl) ?_
    refine va_slen hx hb hX hbl hbA E.2.2 d_Law_law_20 ?_
    refine lv_iconst (v := 4) hx hb d_Law_law_21 (by decide) ?_
    refine lv_isub hx hb d_Law_law_22 ?_
    have hsub : (Int32.ofNat L - 4).toInt = (L : Int) - 4 := pk_sub_toInt (a := L) (b := 4) (by omega) (by omega)
    have h4k : (nI (4 * k)).toInt = ((4 * k : Nat) : Int) := nI_toInt (by omega)
    refine lv_icmp_gt (tgt := 694) hx hb d_Law_law_23 (by decide) (fun c_1 => ?_) (fun c_1 => ?_)
    · refine lv_iconst (v := 1) hx hb d_Law_law_694 (by decide) ?_
      refine va_forget (fun q hq => E.2.2.2.2 q hq) ?_
      exact lw_ret hx hb hr hlocks d_Law_law_695
    · have hle : 4 * k + 4 ≤ L := by
        have h9 := mt Int32.lt_iff_toInt_lt.mpr c_1
        rw [hsub, h4k] at h9
        omega
      have hk5 : k < 512 := by omega
      have h0 : vp_in (nI (4 * k)) L := vp_in_nI (by omega) (by omega)
      have h1 : vp_in (nI (4 * k) + 1) L := by rw [nI_1]; exact vp_in_nI (by omega) (by omega)
      have h2 : vp_in (nI (4 * k) + 2) L := by rw [show (2 : Int32) = nI 2 from rfl, nI_add]; exact vp_in_nI (by omega) (by omega)
      have h3 : vp_in (nI (4 * k) + 3) L := by rw [show (3 : Int32) = nI 3 from rfl, nI_add]; exact vp_in_nI (by omega) (by omega)
      have hend : ∀ (σ ρ : St), Rel (k + 1) σ ρ → ∀ (H : Heap) (locs : List Loc), lE D a cA b2 cB σ ρ s.heap H locs → W p l e room_1 s m #[Value.ref b] below meth c H locs 56 24164 (lw_Z below #[Value.ref b] s) (F0 m 688 ls []) := by
        intro σ ρ hRel H locs E
        refine lv_iinc (v := nI (4 * (k + 1))) (lv' := [(3, .int (nI (4 * (k + 1)))), (0, .ref b), (1, .ref (a 0)), (2, .ref (b2 0))]) hx hb d_Law_law_688 hl (k := 3) rfl (by rw [show Int32.ofInt 4 = nI 4 from rfl, nI_add]; congr 1) (by decide) rfl (fun ls hl => ?_)
        refine lv_goto (tgt := 18) hx hb d_Law_law_691 (by decide) ?_
        exact ih (k + 1) σ ρ (by omega) (by omega) hRel H locs ls E (lv_sub hl [1, 2, 3, 0] rfl)
      refine lv_aload_n hx hb d_Law_law_26 rfl (lv_at hl 0 rfl) ?_
      refine lv_iload_n hx hb d_Law_law_27 rfl (lv_at hl 3 rfl) ?_
      refine va_sld hx hb hX hbl hbA E.2.2 h0 d_Law_law_28 ?_
      refine lv_bipush (v := 31) hx hb d_Law_law_29 (by decide) ?_
      refine lv_iand hx hb d_Law_law_31 ?_
      refine lv_topi (fun w ew => ?_)
      by_cases c0 : w = 0
      · refine lv_tableIn (tgt := 128) hx hb d_Law_law_32 (by rw [c0]; decide) (by rw [c0]; decide) (by rw [c0]; rfl) (by decide) ?_
        obtain ⟨r, σ2, ρ2, e1, e2, hRel2⟩ := hF.2.1 k σ ρ (xs (nI (4 * k) + 1).toNatClampNeg) (xs (nI (4 * k) + 2).toNatClampNeg) hk5 hRel
        refine lv_aload_n hx hb d_Law_law_128 rfl (lv_at hl 1 rfl) ?_
        refine lv_aload_n hx hb d_Law_law_129 rfl (lv_at hl 0 rfl) ?_
        refine lv_iload_n hx hb d_Law_law_130 rfl (lv_at hl 3 rfl) ?_
        refine lv_iconst (v := 1) hx hb d_Law_law_131 (by decide) ?_
        refine lv_iadd hx hb d_Law_law_132 ?_
        refine va_sld hx hb hX hbl hbA E.2.2 h1 d_Law_law_133 ?_
        refine lv_aload_n hx hb d_Law_law_134 rfl (lv_at hl 0 rfl) ?_
        refine lv_iload_n hx hb d_Law_law_135 rfl (lv_at hl 3 rfl) ?_
        refine lv_iconst (v := 2) hx hb d_Law_law_136 (by decide) ?_
        refine lv_iadd hx hb d_Law_law_137 ?_
        refine va_sld hx hb hX hbl hbA E.2.2 h2 d_Law_law_138 ?_
        refine lc_k (As := [.int (xs (nI (4 * k) + 1).toNatClampNeg), .int (xs (nI (4 * k) + 2).toNatClampNeg)]) (rest := []) S hK E (fun A => kC_PT_node e1) (cwV 2 S.2.2.2.2 (gi_V AW_good aw211 aw212 aw213 aw1 aw214) rfl rfl rfl (by decide +kernel) ⟨Nat.le_of_ble_eq_true rfl, Nat.le_of_ble_eq_true rfl⟩) rfl rfl hl.1 (lv_room (Nat.le_of_ble_eq_true rfl)) d_Law_law_139 (fun H locs E => ?_)
        refine lv_aload_n hx hb d_Law_law_142 rfl (lv_at hl 2 rfl) ?_
        refine lv_aload_n hx hb d_Law_law_143 rfl (lv_at hl 0 rfl) ?_
        refine lv_iload_n hx hb d_Law_law_144 rfl (lv_at hl 3 rfl) ?_
        refine lv_iconst (v := 1) hx hb d_Law_law_145 (by decide) ?_
        refine lv_iadd hx hb d_Law_law_146 ?_
        refine va_sld hx hb hX hbl hbA E.2.2 h1 d_Law_law_147 ?_
        refine lv_aload_n hx hb d_Law_law_148 rfl (lv_at hl 0 rfl) ?_
        refine lv_iload_n hx hb d_Law_law_149 rfl (lv_at hl 3 rfl) ?_
        refine lv_iconst (v := 2) hx hb d_Law_law_150 (by decide) ?_
        refine lv_iadd hx hb d_Law_law_151 ?_
        refine va_sld hx hb hX hbl hbA E.2.2 h2 d_Law_law_152 ?_
        refine lc_r (As := [.int (xs (nI (4 * k) + 1).toNatClampNeg), .int (xs (nI (4 * k) + 2).toNatClampNeg)]) (rest := [.int r]) S hK E (fun A => rC_Md_node e2) (cwV 2 S.2.2.2.2 (gi_V AW_good aw781 aw782 aw783 aw10 aw784) rfl rfl rfl (by decide +kernel) ⟨Nat.le_of_ble_eq_true rfl, Nat.le_of_ble_eq_true rfl⟩) rfl rfl hl.1 (lv_room (Nat.le_of_ble_eq_true rfl)) d_Law_law_153 (fun H locs E => ?_)
        refine lv_icmp_eq (tgt := 688) hx hb d_Law_law_156 (by decide) (fun _ => ?_) (fun c9 => absurd rfl c9)
        exact hend _ _ hRel2 H locs E
      by_cases c1 : w = 1
      · refine lv_tableIn (tgt := 161) hx hb d_Law_law_32 (by rw [c1]; decide) (by rw [c1]; decide) (by rw [c1]; rfl) (by decide) ?_
        obtain ⟨r, σ2, ρ2, e1, e2, hRel2⟩ := hF.2.2.1 k σ ρ (xs (nI (4 * k) + 1).toNatClampNeg) hk5 hRel
        refine lv_aload_n hx hb d_Law_law_161 rfl (lv_at hl 1 rfl) ?_
        refine lv_aload_n hx hb d_Law_law_162 rfl (lv_at hl 0 rfl) ?_
        refine lv_iload_n hx hb d_Law_law_163 rfl (lv_at hl 3 rfl) ?_
        refine lv_iconst (v := 1) hx hb d_Law_law_164 (by decide) ?_
        refine lv_iadd hx hb d_Law_law_165 ?_
        refine va_sld hx hb hX hbl hbA E.2.2 h1 d_Law_law_166 ?_
        refine lc_k (As := [.int (xs (nI (4 * k) + 1).toNatClampNeg)]) (rest := []) S hK E (fun A => kC_PT_page e1) (cwV 1 S.2.2.2.2 (gi_V AW_good aw256 aw257 aw258 aw1 aw259) rfl rfl rfl (by decide +kernel) ⟨Nat.le_of_ble_eq_true rfl, Nat.le_of_ble_eq_true rfl⟩) rfl rfl hl.1 (lv_room (Nat.le_of_ble_eq_true rfl)) d_Law_law_167 (fun H locs E => ?_)
        refine lv_aload_n hx hb d_Law_law_170 rfl (lv_at hl 2 rfl) ?_
        refine lv_aload_n hx hb d_Law_law_171 rfl (lv_at hl 0 rfl) ?_
        refine lv_iload_n hx hb d_Law_law_172 rfl (lv_at hl 3 rfl) ?_
        refine lv_iconst (v := 1) hx hb d_Law_law_173 (by decide) ?_
        refine lv_iadd hx hb d_Law_law_174 ?_
        refine va_sld hx hb hX hbl hbA E.2.2 h1 d_Law_law_175 ?_
        refine lc_r (As := [.int (xs (nI (4 * k) + 1).toNatClampNeg)]) (rest := [.int r]) S hK E (fun A => rC_Md_page e2) (cwV 1 S.2.2.2.2 (gi_V AW_good aw801 aw802 aw803 aw10 aw804) rfl rfl rfl (by decide +kernel) ⟨Nat.le_of_ble_eq_true rfl, Nat.le_of_ble_eq_true rfl⟩) rfl rfl hl.1 (lv_room (Nat.le_of_ble_eq_true rfl)) d_Law_law_176 (fun H locs E => ?_)
        refine lv_icmp_eq (tgt := 688) hx hb d_Law_law_179 (by decide) (fun _ => ?_) (fun c9 => absurd rfl c9)
        exact hend _ _ hRel2 H locs E
      by_cases c2 : w = 2
      · refine lv_tableIn (tgt := 184) hx hb d_Law_law_32 (by rw [c2]; decide) (by rw [c2]; decide) (by rw [c2]; rfl) (by decide) ?_
        obtain ⟨r, σ2, ρ2, e1, e2, hRel2⟩ := hF.2.2.2.1 k σ ρ (xs (nI (4 * k) + 1).toNatClampNeg) (xs (nI (4 * k) + 2).toNatClampNeg) hk5 hRel
        refine lv_aload_n hx hb d_Law_law_184 rfl (lv_at hl 1 rfl) ?_
        refine lv_aload_n hx hb d_Law_law_185 rfl (lv_at hl 0 rfl) ?_
        refine lv_iload_n hx hb d_Law_law_186 rfl (lv_at hl 3 rfl) ?_
        refine lv_iconst (v := 1) hx hb d_Law_law_187 (by decide) ?_
        refine lv_iadd hx hb d_Law_law_188 ?_
        refine va_sld hx hb hX hbl hbA E.2.2 h1 d_Law_law_189 ?_
        refine lv_aload_n hx hb d_Law_law_190 rfl (lv_at hl 0 rfl) ?_
        refine lv_iload_n hx hb d_Law_law_191 rfl (lv_at hl 3 rfl) ?_
        refine lv_iconst (v := 2) hx hb d_Law_law_192 (by decide) ?_
        refine lv_iadd hx hb d_Law_law_193 ?_
        refine va_sld hx hb hX hbl hbA E.2.2 h2 d_Law_law_194 ?_
        refine lc_k (As := [.int (xs (nI (4 * k) + 1).toNatClampNeg), .int (xs (nI (4 * k) + 2).toNatClampNeg)]) (rest := []) S hK E (fun A => kC_PT_list e1) (cwV 2 S.2.2.2.2 (gi_V AW_good aw260 aw261 aw262 aw1 aw263) rfl rfl rfl (by decide +kernel) ⟨Nat.le_of_ble_eq_true rfl, Nat.le_of_ble_eq_true rfl⟩) rfl rfl hl.1 (lv_room (Nat.le_of_ble_eq_true rfl)) d_Law_law_195 (fun H locs E => ?_)
        refine lv_aload_n hx hb d_Law_law_198 rfl (lv_at hl 2 rfl) ?_
        refine lv_aload_n hx hb d_Law_law_199 rfl (lv_at hl 0 rfl) ?_
        refine lv_iload_n hx hb d_Law_law_200 rfl (lv_at hl 3 rfl) ?_
        refine lv_iconst (v := 1) hx hb d_Law_law_201 (by decide) ?_
        refine lv_iadd hx hb d_Law_law_202 ?_
        refine va_sld hx hb hX hbl hbA E.2.2 h1 d_Law_law_203 ?_
        refine lv_aload_n hx hb d_Law_law_204 rfl (lv_at hl 0 rfl) ?_
        refine lv_iload_n hx hb d_Law_law_205 rfl (lv_at hl 3 rfl) ?_
        refine lv_iconst (v := 2) hx hb d_Law_law_206 (by decide) ?_
        refine lv_iadd hx hb d_Law_law_207 ?_
        refine va_sld hx hb hX hbl hbA E.2.2 h2 d_Law_law_208 ?_
        refine lc_r (As := [.int (xs (nI (4 * k) + 1).toNatClampNeg), .int (xs (nI (4 * k) + 2).toNatClampNeg)]) (rest := [.int r]) S hK E (fun A => rC_Md_list e2) (cwV 2 S.2.2.2.2 (gi_V AW_good aw805 aw806 aw807 aw10 aw808) rfl rfl rfl (by decide +kernel) ⟨Nat.le_of_ble_eq_true rfl, Nat.le_of_ble_eq_true rfl⟩) rfl rfl hl.1 (lv_room (Nat.le_of_ble_eq_true rfl)) d_Law_law_209 (fun H locs E => ?_)
        refine lv_icmp_eq (tgt := 688) hx hb d_Law_law_212 (by decide) (fun _ => ?_) (fun c9 => absurd rfl c9)
        exact hend _ _ hRel2 H locs E
      by_cases c3 : w = 3
      · refine lv_tableIn (tgt := 217) hx hb d_Law_law_32 (by rw [c3]; decide) (by rw [c3]; decide) (by rw [c3]; rfl) (by decide) ?_
        obtain ⟨r, σ2, ρ2, e1, e2, hRel2⟩ := hF.2.2.2.2.1 k σ ρ (xs (nI (4 * k) + 1).toNatClampNeg) (xs (nI (4 * k) + 2).toNatClampNeg) (xs (nI (4 * k) + 3).toNatClampNeg) hk5 hRel
        refine lv_aload_n hx hb d_Law_law_217 rfl (lv_at hl 1 rfl) ?_
        refine lv_aload_n hx hb d_Law_law_218 rfl (lv_at hl 0 rfl) ?_
        refine lv_iload_n hx hb d_Law_law_219 rfl (lv_at hl 3 rfl) ?_
        refine lv_iconst (v := 1) hx hb d_Law_law_220 (by decide) ?_
        refine lv_iadd hx hb d_Law_law_221 ?_
        refine va_sld hx hb hX hbl hbA E.2.2 h1 d_Law_law_222 ?_
        refine lv_aload_n hx hb d_Law_law_223 rfl (lv_at hl 0 rfl) ?_
        refine lv_iload_n hx hb d_Law_law_224 rfl (lv_at hl 3 rfl) ?_
        refine lv_iconst (v := 2) hx hb d_Law_law_225 (by decide) ?_
        refine lv_iadd hx hb d_Law_law_226 ?_
        refine va_sld hx hb hX hbl hbA E.2.2 h2 d_Law_law_227 ?_
        refine lv_aload_n hx hb d_Law_law_228 rfl (lv_at hl 0 rfl) ?_
        refine lv_iload_n hx hb d_Law_law_229 rfl (lv_at hl 3 rfl) ?_
        refine lv_iconst (v := 3) hx hb d_Law_law_230 (by decide) ?_
        refine lv_iadd hx hb d_Law_law_231 ?_
        refine va_sld hx hb hX hbl hbA E.2.2 h3 d_Law_law_232 ?_
        refine lc_k (As := [.int (xs (nI (4 * k) + 1).toNatClampNeg), .int (xs (nI (4 * k) + 2).toNatClampNeg), .int (xs (nI (4 * k) + 3).toNatClampNeg)]) (rest := []) S hK E (fun A => kC_PT_inherit e1) (cwV 3 S.2.2.2.2 (gi_V AW_good aw266 aw267 aw268 aw1 aw269) rfl rfl rfl (by decide +kernel) ⟨Nat.le_of_ble_eq_true rfl, Nat.le_of_ble_eq_true rfl⟩) rfl rfl hl.1 (lv_room (Nat.le_of_ble_eq_true rfl)) d_Law_law_233 (fun H locs E => ?_)
        refine lv_aload_n hx hb d_Law_law_236 rfl (lv_at hl 2 rfl) ?_
        refine lv_aload_n hx hb d_Law_law_237 rfl (lv_at hl 0 rfl) ?_
        refine lv_iload_n hx hb d_Law_law_238 rfl (lv_at hl 3 rfl) ?_
        refine lv_iconst (v := 1) hx hb d_Law_law_239 (by decide) ?_
        refine lv_iadd hx hb d_Law_law_240 ?_
        refine va_sld hx hb hX hbl hbA E.2.2 h1 d_Law_law_241 ?_
        refine lv_aload_n hx hb d_Law_law_242 rfl (lv_at hl 0 rfl) ?_
        refine lv_iload_n hx hb d_Law_law_243 rfl (lv_at hl 3 rfl) ?_
        refine lv_iconst (v := 2) hx hb d_Law_law_244 (by decide) ?_
        refine lv_iadd hx hb d_Law_law_245 ?_
        refine va_sld hx hb hX hbl hbA E.2.2 h2 d_Law_law_246 ?_
        refine lv_aload_n hx hb d_Law_law_247 rfl (lv_at hl 0 rfl) ?_
        refine lv_iload_n hx hb d_Law_law_248 rfl (lv_at hl 3 rfl) ?_
        refine lv_iconst (v := 3) hx hb d_Law_law_249 (by decide) ?_
        refine lv_iadd hx hb d_Law_law_250 ?_
        refine va_sld hx hb hX hbl hbA E.2.2 h3 d_Law_law_251 ?_
        refine lc_r (As := [.int (xs (nI (4 * k) + 1).toNatClampNeg), .int (xs (nI (4 * k) + 2).toNatClampNeg), .int (xs (nI (4 * k) + 3).toNatClampNeg)]) (rest := [.int r]) S hK E (fun A => rC_Md_inherit e2) (cwV 3 S.2.2.2.2 (gi_V AW_good aw809 aw810 aw811 aw10 aw812) rfl rfl rfl (by decide +kernel) ⟨Nat.le_of_ble_eq_true rfl, Nat.le_of_ble_eq_true rfl⟩) rfl rfl hl.1 (lv_room (Nat.le_of_ble_eq_true rfl)) d_Law_law_252 (fun H locs E => ?_)
        refine lv_icmp_eq (tgt := 688) hx hb d_Law_law_255 (by decide) (fun _ => ?_) (fun c9 => absurd rfl c9)
        exact hend _ _ hRel2 H locs E
      by_cases c4 : w = 4
      · refine lv_tableIn (tgt := 260) hx hb d_Law_law_32 (by rw [c4]; decide) (by rw [c4]; decide) (by rw [c4]; rfl) (by decide) ?_
        obtain ⟨r, e1, e2, hRel2⟩ := hF.2.2.2.2.2.1 k σ ρ (xs (nI (4 * k) + 1).toNatClampNeg) (xs (nI (4 * k) + 2).toNatClampNeg) hk5 hRel
        refine lv_aload_n hx hb d_Law_law_260 rfl (lv_at hl 1 rfl) ?_
        refine lv_aload_n hx hb d_Law_law_261 rfl (lv_at hl 0 rfl) ?_
        refine lv_iload_n hx hb d_Law_law_262 rfl (lv_at hl 3 rfl) ?_
        refine lv_iconst (v := 1) hx hb d_Law_law_263 (by decide) ?_
        refine lv_iadd hx hb d_Law_law_264 ?_
        refine va_sld hx hb hX hbl hbA E.2.2 h1 d_Law_law_265 ?_
        refine lv_aload_n hx hb d_Law_law_266 rfl (lv_at hl 0 rfl) ?_
        refine lv_iload_n hx hb d_Law_law_267 rfl (lv_at hl 3 rfl) ?_
        refine lv_iconst (v := 2) hx hb d_Law_law_268 (by decide) ?_
        refine lv_iadd hx hb d_Law_law_269 ?_
        refine va_sld hx hb hX hbl hbA E.2.2 h2 d_Law_law_270 ?_
        refine lc_k (As := [.int (xs (nI (4 * k) + 1).toNatClampNeg), .int (xs (nI (4 * k) + 2).toNatClampNeg)]) (rest := []) S hK E (fun A => kC_PT_of e1) (cwV 2 S.2.2.2.2 (gi_V AW_good aw279 aw280 aw281 aw1 aw282) rfl rfl rfl (by decide +kernel) ⟨Nat.le_of_ble_eq_true rfl, Nat.le_of_ble_eq_true rfl⟩) rfl rfl hl.1 (lv_room (Nat.le_of_ble_eq_true rfl)) d_Law_law_271 (fun H locs E => ?_)
        refine lv_aload_n hx hb d_Law_law_274 rfl (lv_at hl 2 rfl) ?_
        refine lv_aload_n hx hb d_Law_law_275 rfl (lv_at hl 0 rfl) ?_
        refine lv_iload_n hx hb d_Law_law_276 rfl (lv_at hl 3 rfl) ?_
        refine lv_iconst (v := 1) hx hb d_Law_law_277 (by decide) ?_
        refine lv_iadd hx hb d_Law_law_278 ?_
        refine va_sld hx hb hX hbl hbA E.2.2 h1 d_Law_law_279 ?_
        refine lv_aload_n hx hb d_Law_law_280 rfl (lv_at hl 0 rfl) ?_
        refine lv_iload_n hx hb d_Law_law_281 rfl (lv_at hl 3 rfl) ?_
        refine lv_iconst (v := 2) hx hb d_Law_law_282 (by decide) ?_
        refine lv_iadd hx hb d_Law_law_283 ?_
        refine va_sld hx hb hX hbl hbA E.2.2 h2 d_Law_law_284 ?_
        refine lc_r (As := [.int (xs (nI (4 * k) + 1).toNatClampNeg), .int (xs (nI (4 * k) + 2).toNatClampNeg)]) (rest := [.int r]) S hK E (fun A => rC_Md_of e2) (cwV 2 S.2.2.2.2 (gi_V AW_good aw817 aw818 aw819 aw10 aw820) rfl rfl rfl (by decide +kernel) ⟨Nat.le_of_ble_eq_true rfl, Nat.le_of_ble_eq_true rfl⟩) rfl rfl hl.1 (lv_room (Nat.le_of_ble_eq_true rfl)) d_Law_law_285 (fun H locs E => ?_)
        refine lv_icmp_eq (tgt := 688) hx hb d_Law_law_288 (by decide) (fun _ => ?_) (fun c9 => absurd rfl c9)
        exact hend _ _ hRel2 H locs E
      by_cases c5 : w = 5
      · refine lv_tableIn (tgt := 293) hx hb d_Law_law_32 (by rw [c5]; decide) (by rw [c5]; decide) (by rw [c5]; rfl) (by decide) ?_
        obtain ⟨r, σ2, ρ2, e1, e2, hRel2⟩ := hF.2.2.2.2.2.2.1 k σ ρ hk5 hRel
        refine lv_aload_n hx hb d_Law_law_293 rfl (lv_at hl 1 rfl) ?_
        refine lc_k (As := []) (rest := []) S hK E (fun A => kC_PT_pages e1) (cwV 0 S.2.2.2.2 (gi_V AW_good aw291 aw292 aw293 aw1 aw294) rfl rfl rfl (by decide +kernel) ⟨Nat.le_of_ble_eq_true rfl, Nat.le_of_ble_eq_true rfl⟩) rfl rfl hl.1 (lv_room (Nat.le_of_ble_eq_true rfl)) d_Law_law_294 (fun H locs E => ?_)
        refine lv_aload_n hx hb d_Law_law_297 rfl (lv_at hl 2 rfl) ?_
        refine lc_r (As := []) (rest := [.int r]) S hK E (fun A => rC_Md_pages e2) (cwV 0 S.2.2.2.2 (gi_V AW_good aw825 aw826 aw827 aw10 aw828) rfl rfl rfl (by decide +kernel) ⟨Nat.le_of_ble_eq_true rfl, Nat.le_of_ble_eq_true rfl⟩) rfl rfl hl.1 (lv_room (Nat.le_of_ble_eq_true rfl)) d_Law_law_298 (fun H locs E => ?_)
        refine lv_icmp_eq (tgt := 688) hx hb d_Law_law_301 (by decide) (fun _ => ?_) (fun c9 => absurd rfl c9)
        exact hend _ _ hRel2 H locs E
      by_cases c6 : w = 6
      · refine lv_tableIn (tgt := 306) hx hb d_Law_law_32 (by rw [c6]; decide) (by rw [c6]; decide) (by rw [c6]; rfl) (by decide) ?_
        obtain ⟨r, σ2, ρ2, e1, e2, hRel2⟩ := hF.2.2.2.2.2.2.2.1 k σ ρ (xs (nI (4 * k) + 1).toNatClampNeg) hk5 hRel
        refine lv_aload_n hx hb d_Law_law_306 rfl (lv_at hl 1 rfl) ?_
        refine lv_aload_n hx hb d_Law_law_307 rfl (lv_at hl 0 rfl) ?_
        refine lv_iload_n hx hb d_Law_law_308 rfl (lv_at hl 3 rfl) ?_
        refine lv_iconst (v := 1) hx hb d_Law_law_309 (by decide) ?_
        refine lv_iadd hx hb d_Law_law_310 ?_
        refine va_sld hx hb hX hbl hbA E.2.2 h1 d_Law_law_311 ?_
        refine lc_k (As := [.int (xs (nI (4 * k) + 1).toNatClampNeg)]) (rest := []) S hK E (fun A => kC_PT_at e1) (cwV 1 S.2.2.2.2 (gi_V AW_good aw404 aw405 aw406 aw1 aw407) rfl rfl rfl (by decide +kernel) ⟨Nat.le_of_ble_eq_true rfl, Nat.le_of_ble_eq_true rfl⟩) rfl rfl hl.1 (lv_room (Nat.le_of_ble_eq_true rfl)) d_Law_law_312 (fun H locs E => ?_)
        refine lv_aload_n hx hb d_Law_law_315 rfl (lv_at hl 2 rfl) ?_
        refine lv_aload_n hx hb d_Law_law_316 rfl (lv_at hl 0 rfl) ?_
        refine lv_iload_n hx hb d_Law_law_317 rfl (lv_at hl 3 rfl) ?_
        refine lv_iconst (v := 1) hx hb d_Law_law_318 (by decide) ?_
        refine lv_iadd hx hb d_Law_law_319 ?_
        refine va_sld hx hb hX hbl hbA E.2.2 h1 d_Law_law_320 ?_
        refine lc_r (As := [.int (xs (nI (4 * k) + 1).toNatClampNeg)]) (rest := [.int r]) S hK E (fun A => rC_Md_at e2) (cwV 1 S.2.2.2.2 (gi_V AW_good aw849 aw850 aw851 aw10 aw852) rfl rfl rfl (by decide +kernel) ⟨Nat.le_of_ble_eq_true rfl, Nat.le_of_ble_eq_true rfl⟩) rfl rfl hl.1 (lv_room (Nat.le_of_ble_eq_true rfl)) d_Law_law_321 (fun H locs E => ?_)
        refine lv_icmp_eq (tgt := 688) hx hb d_Law_law_324 (by decide) (fun _ => ?_) (fun c9 => absurd rfl c9)
        exact hend _ _ hRel2 H locs E
      by_cases c7 : w = 7
      · refine lv_tableIn (tgt := 329) hx hb d_Law_law_32 (by rw [c7]; decide) (by rw [c7]; decide) (by rw [c7]; rfl) (by decide) ?_
        obtain ⟨r, σ2, ρ2, e1, e2, hRel2⟩ := hF.2.2.2.2.2.2.2.2.1 k σ ρ (xs (nI (4 * k) + 1).toNatClampNeg) (xs (nI (4 * k) + 2).toNatClampNeg) hk5 hRel
        refine lv_aload_n hx hb d_Law_law_329 rfl (lv_at hl 1 rfl) ?_
        refine lv_aload_n hx hb d_Law_law_330 rfl (lv_at hl 0 rfl) ?_
        refine lv_iload_n hx hb d_Law_law_331 rfl (lv_at hl 3 rfl) ?_
        refine lv_iconst (v := 1) hx hb d_Law_law_332 (by decide) ?_
        refine lv_iadd hx hb d_Law_law_333 ?_
        refine va_sld hx hb hX hbl hbA E.2.2 h1 d_Law_law_334 ?_
        refine lv_aload_n hx hb d_Law_law_335 rfl (lv_at hl 0 rfl) ?_
        refine lv_iload_n hx hb d_Law_law_336 rfl (lv_at hl 3 rfl) ?_
        refine lv_iconst (v := 2) hx hb d_Law_law_337 (by decide) ?_
        refine lv_iadd hx hb d_Law_law_338 ?_
        refine va_sld hx hb hX hbl hbA E.2.2 h2 d_Law_law_339 ?_
        refine lc_k (As := [.int (xs (nI (4 * k) + 1).toNatClampNeg), .int (xs (nI (4 * k) + 2).toNatClampNeg)]) (rest := []) S hK E (fun A => kC_PT_about e1) (cwV 2 S.2.2.2.2 (gi_V AW_good aw412 aw413 aw414 aw1 aw415) rfl rfl rfl (by decide +kernel) ⟨Nat.le_of_ble_eq_true rfl, Nat.le_of_ble_eq_true rfl⟩) rfl rfl hl.1 (lv_room (Nat.le_of_ble_eq_true rfl)) d_Law_law_340 (fun H locs E => ?_)
        refine lv_aload_n hx hb d_Law_law_343 rfl (lv_at hl 2 rfl) ?_
        refine lv_aload_n hx hb d_Law_law_344 rfl (lv_at hl 0 rfl) ?_
        refine lv_iload_n hx hb d_Law_law_345 rfl (lv_at hl 3 rfl) ?_
        refine lv_iconst (v := 1) hx hb d_Law_law_346 (by decide) ?_
        refine lv_iadd hx hb d_Law_law_347 ?_
        refine va_sld hx hb hX hbl hbA E.2.2 h1 d_Law_law_348 ?_
        refine lv_aload_n hx hb d_Law_law_349 rfl (lv_at hl 0 rfl) ?_
        refine lv_iload_n hx hb d_Law_law_350 rfl (lv_at hl 3 rfl) ?_
        refine lv_iconst (v := 2) hx hb d_Law_law_351 (by decide) ?_
        refine lv_iadd hx hb d_Law_law_352 ?_
        refine va_sld hx hb hX hbl hbA E.2.2 h2 d_Law_law_353 ?_
        refine lc_r (As := [.int (xs (nI (4 * k) + 1).toNatClampNeg), .int (xs (nI (4 * k) + 2).toNatClampNeg)]) (rest := [.int r]) S hK E (fun A => rC_Md_about e2) (cwV 2 S.2.2.2.2 (gi_V AW_good aw853 aw854 aw855 aw10 aw856) rfl rfl rfl (by decide +kernel) ⟨Nat.le_of_ble_eq_true rfl, Nat.le_of_ble_eq_true rfl⟩) rfl rfl hl.1 (lv_room (Nat.le_of_ble_eq_true rfl)) d_Law_law_354 (fun H locs E => ?_)
        refine lv_icmp_eq (tgt := 688) hx hb d_Law_law_357 (by decide) (fun _ => ?_) (fun c9 => absurd rfl c9)
        exact hend _ _ hRel2 H locs E
      by_cases c8 : w = 8
      · refine lv_tableIn (tgt := 362) hx hb d_Law_law_32 (by rw [c8]; decide) (by rw [c8]; decide) (by rw [c8]; rfl) (by decide) ?_
        obtain ⟨r, e1, e2, hRel2⟩ := hF.2.2.2.2.2.2.2.2.2.1 k σ ρ (xs (nI (4 * k) + 1).toNatClampNeg) (xs (nI (4 * k) + 2).toNatClampNeg) hk5 hRel
        refine lv_aload_n hx hb d_Law_law_362 rfl (lv_at hl 1 rfl) ?_
        refine lv_aload_n hx hb d_Law_law_363 rfl (lv_at hl 0 rfl) ?_
        refine lv_iload_n hx hb d_Law_law_364 rfl (lv_at hl 3 rfl) ?_
        refine lv_iconst (v := 1) hx hb d_Law_law_365 (by decide) ?_
        refine lv_iadd hx hb d_Law_law_366 ?_
        refine va_sld hx hb hX hbl hbA E.2.2 h1 d_Law_law_367 ?_
        refine lv_aload_n hx hb d_Law_law_368 rfl (lv_at hl 0 rfl) ?_
        refine lv_iload_n hx hb d_Law_law_369 rfl (lv_at hl 3 rfl) ?_
        refine lv_iconst (v := 2) hx hb d_Law_law_370 (by decide) ?_
        refine lv_iadd hx hb d_Law_law_371 ?_
        refine va_sld hx hb hX hbl hbA E.2.2 h2 d_Law_law_372 ?_
        refine lc_k (As := [.int (xs (nI (4 * k) + 1).toNatClampNeg), .int (xs (nI (4 * k) + 2).toNatClampNeg)]) (rest := []) S hK E (fun A => kC_PT_kid e1) (cwV 2 S.2.2.2.2 (gi_V AW_good aw429 aw430 aw431 aw1 aw432) rfl rfl rfl (by decide +kernel) ⟨Nat.le_of_ble_eq_true rfl, Nat.le_of_ble_eq_true rfl⟩) rfl rfl hl.1 (lv_room (Nat.le_of_ble_eq_true rfl)) d_Law_law_373 (fun H locs E => ?_)
        refine lv_aload_n hx hb d_Law_law_376 rfl (lv_at hl 2 rfl) ?_
        refine lv_aload_n hx hb d_Law_law_377 rfl (lv_at hl 0 rfl) ?_
        refine lv_iload_n hx hb d_Law_law_378 rfl (lv_at hl 3 rfl) ?_
        refine lv_iconst (v := 1) hx hb d_Law_law_379 (by decide) ?_
        refine lv_iadd hx hb d_Law_law_380 ?_
        refine va_sld hx hb hX hbl hbA E.2.2 h1 d_Law_law_381 ?_
        refine lv_aload_n hx hb d_Law_law_382 rfl (lv_at hl 0 rfl) ?_
        refine lv_iload_n hx hb d_Law_law_383 rfl (lv_at hl 3 rfl) ?_
        refine lv_iconst (v := 2) hx hb d_Law_law_384 (by decide) ?_
        refine lv_iadd hx hb d_Law_law_385 ?_
        refine va_sld hx hb hX hbl hbA E.2.2 h2 d_Law_law_386 ?_
        refine lc_r (As := [.int (xs (nI (4 * k) + 1).toNatClampNeg), .int (xs (nI (4 * k) + 2).toNatClampNeg)]) (rest := [.int r]) S hK E (fun A => rC_Md_kid e2) (cwV 2 S.2.2.2.2 (gi_V AW_good aw861 aw862 aw863 aw10 aw864) rfl rfl rfl (by decide +kernel) ⟨Nat.le_of_ble_eq_true rfl, Nat.le_of_ble_eq_true rfl⟩) rfl rfl hl.1 (lv_room (Nat.le_of_ble_eq_true rfl)) d_Law_law_387 (fun H locs E => ?_)
        refine lv_icmp_eq (tgt := 688) hx hb d_Law_law_390 (by decide) (fun _ => ?_) (fun c9 => absurd rfl c9)
        exact hend _ _ hRel2 H locs E
      by_cases c9 : w = 9
      · refine lv_tableIn (tgt := 395) hx hb d_Law_law_32 (by rw [c9]; decide) (by rw [c9]; decide) (by rw [c9]; rfl) (by decide) ?_
        obtain ⟨r, σ2, ρ2, e1, e2, hRel2⟩ := hF.2.2.2.2.2.2.2.2.2.2.1 k σ ρ hk5 hRel
        refine lv_aload_n hx hb d_Law_law_395 rfl (lv_at hl 1 rfl) ?_
        refine lc_k (As := []) (rest := []) S hK E (fun A => kC_PT_mend e1) (cwV 0 S.2.2.2.2 (gi_V AW_good aw434 aw435 aw436 aw1 aw437) rfl rfl rfl (by decide +kernel) ⟨Nat.le_of_ble_eq_true rfl, Nat.le_of_ble_eq_true rfl⟩) rfl rfl hl.1 (lv_room (Nat.le_of_ble_eq_true rfl)) d_Law_law_396 (fun H locs E => ?_)
        refine lv_aload_n hx hb d_Law_law_399 rfl (lv_at hl 2 rfl) ?_
        refine lc_r (As := []) (rest := [.int r]) S hK E (fun A => rC_Md_mend e2) (cwV 0 S.2.2.2.2 (gi_V AW_good aw865 aw866 aw867 aw10 aw868) rfl rfl rfl (by decide +kernel) ⟨Nat.le_of_ble_eq_true rfl, Nat.le_of_ble_eq_true rfl⟩) rfl rfl hl.1 (lv_room (Nat.le_of_ble_eq_true rfl)) d_Law_law_400 (fun H locs E => ?_)
        refine lv_icmp_eq (tgt := 688) hx hb d_Law_law_403 (by decide) (fun _ => ?_) (fun c9 => absurd rfl c9)
        exact hend _ _ hRel2 H locs E
      by_cases c10 : w = 10
      · refine lv_tableIn (tgt := 408) hx hb d_Law_law_32 (by rw [c10]; decide) (by rw [c10]; decide) (by rw [c10]; rfl) (by decide) ?_
        obtain ⟨r, e1, e2, hRel2⟩ := hF.2.2.2.2.2.2.2.2.2.2.2.1 k σ ρ (xs (nI (4 * k) + 1).toNatClampNeg) (xs (nI (4 * k) + 2).toNatClampNeg) hk5 hRel
        refine lv_aload_n hx hb d_Law_law_408 rfl (lv_at hl 1 rfl) ?_
        refine lv_aload_n hx hb d_Law_law_409 rfl (lv_at hl 0 rfl) ?_
        refine lv_iload_n hx hb d_Law_law_410 rfl (lv_at hl 3 rfl) ?_
        refine lv_iconst (v := 1) hx hb d_Law_law_411 (by decide) ?_
        refine lv_iadd hx hb d_Law_law_412 ?_
        refine va_sld hx hb hX hbl hbA E.2.2 h1 d_Law_law_413 ?_
        refine lv_aload_n hx hb d_Law_law_414 rfl (lv_at hl 0 rfl) ?_
        refine lv_iload_n hx hb d_Law_law_415 rfl (lv_at hl 3 rfl) ?_
        refine lv_iconst (v := 2) hx hb d_Law_law_416 (by decide) ?_
        refine lv_iadd hx hb d_Law_law_417 ?_
        refine va_sld hx hb hX hbl hbA E.2.2 h2 d_Law_law_418 ?_
        refine lc_k (As := [.int (xs (nI (4 * k) + 1).toNatClampNeg), .int (xs (nI (4 * k) + 2).toNatClampNeg)]) (rest := []) S hK E (fun A => kC_PT_told e1) (cwV 2 S.2.2.2.2 (gi_V AW_good aw445 aw446 aw447 aw1 aw448) rfl rfl rfl (by decide +kernel) ⟨Nat.le_of_ble_eq_true rfl, Nat.le_of_ble_eq_true rfl⟩) rfl rfl hl.1 (lv_room (Nat.le_of_ble_eq_true rfl)) d_Law_law_419 (fun H locs E => ?_)
        refine lv_aload_n hx hb d_Law_law_422 rfl (lv_at hl 2 rfl) ?_
        refine lv_aload_n hx hb d_Law_law_423 rfl (lv_at hl 0 rfl) ?_
        refine lv_iload_n hx hb d_Law_law_424 rfl (lv_at hl 3 rfl) ?_
        refine lv_iconst (v := 1) hx hb d_Law_law_425 (by decide) ?_
        refine lv_iadd hx hb d_Law_law_426 ?_
        refine va_sld hx hb hX hbl hbA E.2.2 h1 d_Law_law_427 ?_
        refine lv_aload_n hx hb d_Law_law_428 rfl (lv_at hl 0 rfl) ?_
        refine lv_iload_n hx hb d_Law_law_429 rfl (lv_at hl 3 rfl) ?_
        refine lv_iconst (v := 2) hx hb d_Law_law_430 (by decide) ?_
        refine lv_iadd hx hb d_Law_law_431 ?_
        refine va_sld hx hb hX hbl hbA E.2.2 h2 d_Law_law_432 ?_
        refine lc_r (As := [.int (xs (nI (4 * k) + 1).toNatClampNeg), .int (xs (nI (4 * k) + 2).toNatClampNeg)]) (rest := [.int r]) S hK E (fun A => rC_Md_told e2) (cwV 2 S.2.2.2.2 (gi_V AW_good aw885 aw886 aw887 aw10 aw888) rfl rfl rfl (by decide +kernel) ⟨Nat.le_of_ble_eq_true rfl, Nat.le_of_ble_eq_true rfl⟩) rfl rfl hl.1 (lv_room (Nat.le_of_ble_eq_true rfl)) d_Law_law_433 (fun H locs E => ?_)
        refine lv_icmp_eq (tgt := 688) hx hb d_Law_law_436 (by decide) (fun _ => ?_) (fun c9 => absurd rfl c9)
        exact hend _ _ hRel2 H locs E
      by_cases c11 : w = 11
      · refine lv_tableIn (tgt := 441) hx hb d_Law_law_32 (by rw [c11]; decide) (by rw [c11]; decide) (by rw [c11]; rfl) (by decide) ?_
        obtain ⟨r, σ2, ρ2, e1, e2, hRel2⟩ := hF.2.2.2.2.2.2.2.2.2.2.2.2.1 k σ ρ (xs (nI (4 * k) + 1).toNatClampNeg) (xs (nI (4 * k) + 2).toNatClampNeg) hk5 hRel
        refine lv_aload_n hx hb d_Law_law_441 rfl (lv_at hl 1 rfl) ?_
        refine lv_aload_n hx hb d_Law_law_442 rfl (lv_at hl 0 rfl) ?_
        refine lv_iload_n hx hb d_Law_law_443 rfl (lv_at hl 3 rfl) ?_
        refine lv_iconst (v := 1) hx hb d_Law_law_444 (by decide) ?_
        refine lv_iadd hx hb d_Law_law_445 ?_
        refine va_sld hx hb hX hbl hbA E.2.2 h1 d_Law_law_446 ?_
        refine lv_aload_n hx hb d_Law_law_447 rfl (lv_at hl 0 rfl) ?_
        refine lv_iload_n hx hb d_Law_law_448 rfl (lv_at hl 3 rfl) ?_
        refine lv_iconst (v := 2) hx hb d_Law_law_449 (by decide) ?_
        refine lv_iadd hx hb d_Law_law_450 ?_
        refine va_sld hx hb hX hbl hbA E.2.2 h2 d_Law_law_451 ?_
        refine lc_k (As := [.int (xs (nI (4 * k) + 1).toNatClampNeg), .int (xs (nI (4 * k) + 2).toNatClampNeg)]) (rest := []) S hK E (fun A => kC_PT_move e1) (cwV 2 S.2.2.2.2 (gi_V AW_good aw453 aw454 aw455 aw1 aw456) rfl rfl rfl (by decide +kernel) ⟨Nat.le_of_ble_eq_true rfl, Nat.le_of_ble_eq_true rfl⟩) rfl rfl hl.1 (lv_room (Nat.le_of_ble_eq_true rfl)) d_Law_law_452 (fun H locs E => ?_)
        refine lv_aload_n hx hb d_Law_law_455 rfl (lv_at hl 2 rfl) ?_
        refine lv_aload_n hx hb d_Law_law_456 rfl (lv_at hl 0 rfl) ?_
        refine lv_iload_n hx hb d_Law_law_457 rfl (lv_at hl 3 rfl) ?_
        refine lv_iconst (v := 1) hx hb d_Law_law_458 (by decide) ?_
        refine lv_iadd hx hb d_Law_law_459 ?_
        refine va_sld hx hb hX hbl hbA E.2.2 h1 d_Law_law_460 ?_
        refine lv_aload_n hx hb d_Law_law_461 rfl (lv_at hl 0 rfl) ?_
        refine lv_iload_n hx hb d_Law_law_462 rfl (lv_at hl 3 rfl) ?_
        refine lv_iconst (v := 2) hx hb d_Law_law_463 (by decide) ?_
        refine lv_iadd hx hb d_Law_law_464 ?_
        refine va_sld hx hb hX hbl hbA E.2.2 h2 d_Law_law_465 ?_
        refine lc_r (As := [.int (xs (nI (4 * k) + 1).toNatClampNeg), .int (xs (nI (4 * k) + 2).toNatClampNeg)]) (rest := [.int r]) S hK E (fun A => rC_Md_move e2) (cwV 2 S.2.2.2.2 (gi_V AW_good aw889 aw890 aw891 aw10 aw892) rfl rfl rfl (by decide +kernel) ⟨Nat.le_of_ble_eq_true rfl, Nat.le_of_ble_eq_true rfl⟩) rfl rfl hl.1 (lv_room (Nat.le_of_ble_eq_true rfl)) d_Law_law_466 (fun H locs E => ?_)
        refine lv_icmp_eq (tgt := 688) hx hb d_Law_law_469 (by decide) (fun _ => ?_) (fun c9 => absurd rfl c9)
        exact hend _ _ hRel2 H locs E
      by_cases c12 : w = 12
      · refine lv_tableIn (tgt := 474) hx hb d_Law_law_32 (by rw [c12]; decide) (by rw [c12]; decide) (by rw [c12]; rfl) (by decide) ?_
        obtain ⟨r, σ2, ρ2, e1, e2, hRel2⟩ := hF.2.2.2.2.2.2.2.2.2.2.2.2.2.1 k σ ρ (xs (nI (4 * k) + 1).toNatClampNeg) hk5 hRel
        refine lv_aload_n hx hb d_Law_law_474 rfl (lv_at hl 1 rfl) ?_
        refine lv_aload_n hx hb d_Law_law_475 rfl (lv_at hl 0 rfl) ?_
        refine lv_iload_n hx hb d_Law_law_476 rfl (lv_at hl 3 rfl) ?_
        refine lv_iconst (v := 1) hx hb d_Law_law_477 (by decide) ?_
        refine lv_iadd hx hb d_Law_law_478 ?_
        refine va_sld hx hb hX hbl hbA E.2.2 h1 d_Law_law_479 ?_
        refine lc_k (As := [.int (xs (nI (4 * k) + 1).toNatClampNeg)]) (rest := []) S hK E (fun A => kC_PT_copy e1) (cwV 1 S.2.2.2.2 (gi_V AW_good aw486 aw487 aw488 aw1 aw489) rfl rfl rfl (by decide +kernel) ⟨Nat.le_of_ble_eq_true rfl, Nat.le_of_ble_eq_true rfl⟩) rfl rfl hl.1 (lv_room (Nat.le_of_ble_eq_true rfl)) d_Law_law_480 (fun H locs E => ?_)
        refine lv_aload_n hx hb d_Law_law_483 rfl (lv_at hl 2 rfl) ?_
        refine lv_aload_n hx hb d_Law_law_484 rfl (lv_at hl 0 rfl) ?_
        refine lv_iload_n hx hb d_Law_law_485 rfl (lv_at hl 3 rfl) ?_
        refine lv_iconst (v := 1) hx hb d_Law_law_486 (by decide) ?_
        refine lv_iadd hx hb d_Law_law_487 ?_
        refine va_sld hx hb hX hbl hbA E.2.2 h1 d_Law_law_488 ?_
        refine lc_r (As := [.int (xs (nI (4 * k) + 1).toNatClampNeg)]) (rest := [.int r]) S hK E (fun A => rC_Md_copy e2) (cwV 1 S.2.2.2.2 (gi_V AW_good aw909 aw910 aw911 aw10 aw912) rfl rfl rfl (by decide +kernel) ⟨Nat.le_of_ble_eq_true rfl, Nat.le_of_ble_eq_true rfl⟩) rfl rfl hl.1 (lv_room (Nat.le_of_ble_eq_true rfl)) d_Law_law_489 (fun H locs E => ?_)
        refine lv_icmp_eq (tgt := 688) hx hb d_Law_law_492 (by decide) (fun _ => ?_) (fun c9 => absurd rfl c9)
        exact hend _ _ hRel2 H locs E
      by_cases c13 : w = 13
      · refine lv_tableIn (tgt := 497) hx hb d_Law_law_32 (by rw [c13]; decide) (by rw [c13]; decide) (by rw [c13]; rfl) (by decide) ?_
        obtain ⟨r, σ2, ρ2, e1, e2, hRel2⟩ := hF.2.2.2.2.2.2.2.2.2.2.2.2.2.2.1 k σ ρ (xs (nI (4 * k) + 1).toNatClampNeg) hk5 hRel
        refine lv_aload_n hx hb d_Law_law_497 rfl (lv_at hl 1 rfl) ?_
        refine lv_aload_n hx hb d_Law_law_498 rfl (lv_at hl 0 rfl) ?_
        refine lv_iload_n hx hb d_Law_law_499 rfl (lv_at hl 3 rfl) ?_
        refine lv_iconst (v := 1) hx hb d_Law_law_500 (by decide) ?_
        refine lv_iadd hx hb d_Law_law_501 ?_
        refine va_sld hx hb hX hbl hbA E.2.2 h1 d_Law_law_502 ?_
        refine lc_k (As := [.int (xs (nI (4 * k) + 1).toNatClampNeg)]) (rest := []) S hK E (fun A => kC_PT_remove e1) (cwV 1 S.2.2.2.2 (gi_V AW_good aw490 aw491 aw492 aw1 aw493) rfl rfl rfl (by decide +kernel) ⟨Nat.le_of_ble_eq_true rfl, Nat.le_of_ble_eq_true rfl⟩) rfl rfl hl.1 (lv_room (Nat.le_of_ble_eq_true rfl)) d_Law_law_503 (fun H locs E => ?_)
        refine lv_aload_n hx hb d_Law_law_506 rfl (lv_at hl 2 rfl) ?_
        refine lv_aload_n hx hb d_Law_law_507 rfl (lv_at hl 0 rfl) ?_
        refine lv_iload_n hx hb d_Law_law_508 rfl (lv_at hl 3 rfl) ?_
        refine lv_iconst (v := 1) hx hb d_Law_law_509 (by decide) ?_
        refine lv_iadd hx hb d_Law_law_510 ?_
        refine va_sld hx hb hX hbl hbA E.2.2 h1 d_Law_law_511 ?_
        refine lc_r (As := [.int (xs (nI (4 * k) + 1).toNatClampNeg)]) (rest := [.int r]) S hK E (fun A => rC_Md_remove e2) (cwV 1 S.2.2.2.2 (gi_V AW_good aw913 aw914 aw915 aw10 aw916) rfl rfl rfl (by decide +kernel) ⟨Nat.le_of_ble_eq_true rfl, Nat.le_of_ble_eq_true rfl⟩) rfl rfl hl.1 (lv_room (Nat.le_of_ble_eq_true rfl)) d_Law_law_512 (fun H locs E => ?_)
        refine lv_icmp_eq (tgt := 688) hx hb d_Law_law_515 (by decide) (fun _ => ?_) (fun c9 => absurd rfl c9)
        exact hend _ _ hRel2 H locs E
      by_cases c14 : w = 14
      · refine lv_tableIn (tgt := 520) hx hb d_Law_law_32 (by rw [c14]; decide) (by rw [c14]; decide) (by rw [c14]; rfl) (by decide) ?_
        obtain ⟨r, σ2, ρ2, e1, e2, hRel2⟩ := hF.2.2.2.2.2.2.2.2.2.2.2.2.2.2.2.1 k σ ρ (xs (nI (4 * k) + 1).toNatClampNeg) (xs (nI (4 * k) + 2).toNatClampNeg) (xs (nI (4 * k) + 3).toNatClampNeg) hk5 hRel
        refine lv_aload_n hx hb d_Law_law_520 rfl (lv_at hl 1 rfl) ?_
        refine lv_aload_n hx hb d_Law_law_521 rfl (lv_at hl 0 rfl) ?_
        refine lv_iload_n hx hb d_Law_law_522 rfl (lv_at hl 3 rfl) ?_
        refine lv_iconst (v := 1) hx hb d_Law_law_523 (by decide) ?_
        refine lv_iadd hx hb d_Law_law_524 ?_
        refine va_sld hx hb hX hbl hbA E.2.2 h1 d_Law_law_525 ?_
        refine lv_aload_n hx hb d_Law_law_526 rfl (lv_at hl 0 rfl) ?_
        refine lv_iload_n hx hb d_Law_law_527 rfl (lv_at hl 3 rfl) ?_
        refine lv_iconst (v := 2) hx hb d_Law_law_528 (by decide) ?_
        refine lv_iadd hx hb d_Law_law_529 ?_
        refine va_sld hx hb hX hbl hbA E.2.2 h2 d_Law_law_530 ?_
        refine lv_aload_n hx hb d_Law_law_531 rfl (lv_at hl 0 rfl) ?_
        refine lv_iload_n hx hb d_Law_law_532 rfl (lv_at hl 3 rfl) ?_
        refine lv_iconst (v := 3) hx hb d_Law_law_533 (by decide) ?_
        refine lv_iadd hx hb d_Law_law_534 ?_
        refine va_sld hx hb hX hbl hbA E.2.2 h3 d_Law_law_535 ?_
        refine lc_k (As := [.int (xs (nI (4 * k) + 1).toNatClampNeg), .int (xs (nI (4 * k) + 2).toNatClampNeg), .int (xs (nI (4 * k) + 3).toNatClampNeg)]) (rest := []) S hK E (fun A => kC_PT_label e1) (cwV 3 S.2.2.2.2 (gi_V AW_good aw498 aw499 aw500 aw1 aw501) rfl rfl rfl (by decide +kernel) ⟨Nat.le_of_ble_eq_true rfl, Nat.le_of_ble_eq_true rfl⟩) rfl rfl hl.1 (lv_room (Nat.le_of_ble_eq_true rfl)) d_Law_law_536 (fun H locs E => ?_)
        refine lv_aload_n hx hb d_Law_law_539 rfl (lv_at hl 2 rfl) ?_
        refine lv_aload_n hx hb d_Law_law_540 rfl (lv_at hl 0 rfl) ?_
        refine lv_iload_n hx hb d_Law_law_541 rfl (lv_at hl 3 rfl) ?_
        refine lv_iconst (v := 1) hx hb d_Law_law_542 (by decide) ?_
        refine lv_iadd hx hb d_Law_law_543 ?_
        refine va_sld hx hb hX hbl hbA E.2.2 h1 d_Law_law_544 ?_
        refine lv_aload_n hx hb d_Law_law_545 rfl (lv_at hl 0 rfl) ?_
        refine lv_iload_n hx hb d_Law_law_546 rfl (lv_at hl 3 rfl) ?_
        refine lv_iconst (v := 2) hx hb d_Law_law_547 (by decide) ?_
        refine lv_iadd hx hb d_Law_law_548 ?_
        refine va_sld hx hb hX hbl hbA E.2.2 h2 d_Law_law_549 ?_
        refine lv_aload_n hx hb d_Law_law_550 rfl (lv_at hl 0 rfl) ?_
        refine lv_iload_n hx hb d_Law_law_551 rfl (lv_at hl 3 rfl) ?_
        refine lv_iconst (v := 3) hx hb d_Law_law_552 (by decide) ?_
        refine lv_iadd hx hb d_Law_law_553 ?_
        refine va_sld hx hb hX hbl hbA E.2.2 h3 d_Law_law_554 ?_
        refine lc_r (As := [.int (xs (nI (4 * k) + 1).toNatClampNeg), .int (xs (nI (4 * k) + 2).toNatClampNeg), .int (xs (nI (4 * k) + 3).toNatClampNeg)]) (rest := [.int r]) S hK E (fun A => rC_Md_label e2) (cwV 3 S.2.2.2.2 (gi_V AW_good aw917 aw918 aw919 aw10 aw920) rfl rfl rfl (by decide +kernel) ⟨Nat.le_of_ble_eq_true rfl, Nat.le_of_ble_eq_true rfl⟩) rfl rfl hl.1 (lv_room (Nat.le_of_ble_eq_true rfl)) d_Law_law_555 (fun H locs E => ?_)
        refine lv_icmp_eq (tgt := 688) hx hb d_Law_law_558 (by decide) (fun _ => ?_) (fun c9 => absurd rfl c9)
        exact hend _ _ hRel2 H locs E
      by_cases c15 : w = 15
      · refine lv_tableIn (tgt := 563) hx hb d_Law_law_32 (by rw [c15]; decide) (by rw [c15]; decide) (by rw [c15]; rfl) (by decide) ?_
        obtain ⟨r, σ2, ρ2, e1, e2, hRel2⟩ := hF.2.2.2.2.2.2.2.2.2.2.2.2.2.2.2.2.1 k σ ρ (xs (nI (4 * k) + 1).toNatClampNeg) (xs (nI (4 * k) + 2).toNatClampNeg) hk5 hRel
        refine lv_aload_n hx hb d_Law_law_563 rfl (lv_at hl 1 rfl) ?_
        refine lv_aload_n hx hb d_Law_law_564 rfl (lv_at hl 0 rfl) ?_
        refine lv_iload_n hx hb d_Law_law_565 rfl (lv_at hl 3 rfl) ?_
        refine lv_iconst (v := 1) hx hb d_Law_law_566 (by decide) ?_
        refine lv_iadd hx hb d_Law_law_567 ?_
        refine va_sld hx hb hX hbl hbA E.2.2 h1 d_Law_law_568 ?_
        refine lv_aload_n hx hb d_Law_law_569 rfl (lv_at hl 0 rfl) ?_
        refine lv_iload_n hx hb d_Law_law_570 rfl (lv_at hl 3 rfl) ?_
        refine lv_iconst (v := 2) hx hb d_Law_law_571 (by decide) ?_
        refine lv_iadd hx hb d_Law_law_572 ?_
        refine va_sld hx hb hX hbl hbA E.2.2 h2 d_Law_law_573 ?_
        refine lc_k (As := [.int (xs (nI (4 * k) + 1).toNatClampNeg), .int (xs (nI (4 * k) + 2).toNatClampNeg)]) (rest := []) S hK E (fun A => kC_PT_text e1) (cwV 2 S.2.2.2.2 (gi_V AW_good aw517 aw518 aw519 aw1 aw520) rfl rfl rfl (by decide +kernel) ⟨Nat.le_of_ble_eq_true rfl, Nat.le_of_ble_eq_true rfl⟩) rfl rfl hl.1 (lv_room (Nat.le_of_ble_eq_true rfl)) d_Law_law_574 (fun H locs E => ?_)
        refine lv_aload_n hx hb d_Law_law_577 rfl (lv_at hl 2 rfl) ?_
        refine lv_aload_n hx hb d_Law_law_578 rfl (lv_at hl 0 rfl) ?_
        refine lv_iload_n hx hb d_Law_law_579 rfl (lv_at hl 3 rfl) ?_
        refine lv_iconst (v := 1) hx hb d_Law_law_580 (by decide) ?_
        refine lv_iadd hx hb d_Law_law_581 ?_
        refine va_sld hx hb hX hbl hbA E.2.2 h1 d_Law_law_582 ?_
        refine lv_aload_n hx hb d_Law_law_583 rfl (lv_at hl 0 rfl) ?_
        refine lv_iload_n hx hb d_Law_law_584 rfl (lv_at hl 3 rfl) ?_
        refine lv_iconst (v := 2) hx hb d_Law_law_585 (by decide) ?_
        refine lv_iadd hx hb d_Law_law_586 ?_
        refine va_sld hx hb hX hbl hbA E.2.2 h2 d_Law_law_587 ?_
        refine lc_r (As := [.int (xs (nI (4 * k) + 1).toNatClampNeg), .int (xs (nI (4 * k) + 2).toNatClampNeg)]) (rest := [.int r]) S hK E (fun A => rC_Md_text e2) (cwV 2 S.2.2.2.2 (gi_V AW_good aw921 aw922 aw923 aw10 aw924) rfl rfl rfl (by decide +kernel) ⟨Nat.le_of_ble_eq_true rfl, Nat.le_of_ble_eq_true rfl⟩) rfl rfl hl.1 (lv_room (Nat.le_of_ble_eq_true rfl)) d_Law_law_588 (fun H locs E => ?_)
        refine lv_icmp_eq (tgt := 688) hx hb d_Law_law_591 (by decide) (fun _ => ?_) (fun c9 => absurd rfl c9)
        exact hend _ _ hRel2 H locs E
      by_cases c16 : w = 16
      · refine lv_tableIn (tgt := 596) hx hb d_Law_law_32 (by rw [c16]; decide) (by rw [c16]; decide) (by rw [c16]; rfl) (by decide) ?_
        obtain ⟨r, σ2, ρ2, e1, e2, hRel2⟩ := hF.2.2.2.2.2.2.2.2.2.2.2.2.2.2.2.2.2.1 k σ ρ (xs (nI (4 * k) + 1).toNatClampNeg) (xs (nI (4 * k) + 2).toNatClampNeg) hk5 hRel
        refine lv_aload_n hx hb d_Law_law_596 rfl (lv_at hl 1 rfl) ?_
        refine lv_aload_n hx hb d_Law_law_597 rfl (lv_at hl 0 rfl) ?_
        refine lv_iload_n hx hb d_Law_law_598 rfl (lv_at hl 3 rfl) ?_
        refine lv_iconst (v := 1) hx hb d_Law_law_599 (by decide) ?_
        refine lv_iadd hx hb d_Law_law_600 ?_
        refine va_sld hx hb hX hbl hbA E.2.2 h1 d_Law_law_601 ?_
        refine lv_aload_n hx hb d_Law_law_602 rfl (lv_at hl 0 rfl) ?_
        refine lv_iload_n hx hb d_Law_law_603 rfl (lv_at hl 3 rfl) ?_
        refine lv_iconst (v := 2) hx hb d_Law_law_604 (by decide) ?_
        refine lv_iadd hx hb d_Law_law_605 ?_
        refine va_sld hx hb hX hbl hbA E.2.2 h2 d_Law_law_606 ?_
        refine lc_k (As := [.int (xs (nI (4 * k) + 1).toNatClampNeg), .int (xs (nI (4 * k) + 2).toNatClampNeg)]) (rest := []) S hK E (fun A => kC_PT_name e1) (cwV 2 S.2.2.2.2 (gi_V AW_good aw620 aw621 aw622 aw1 aw623) rfl rfl rfl (by decide +kernel) ⟨Nat.le_of_ble_eq_true rfl, Nat.le_of_ble_eq_true rfl⟩) rfl rfl hl.1 (lv_room (Nat.le_of_ble_eq_true rfl)) d_Law_law_607 (fun H locs E => ?_)
        refine lv_aload_n hx hb d_Law_law_610 rfl (lv_at hl 2 rfl) ?_
        refine lv_aload_n hx hb d_Law_law_611 rfl (lv_at hl 0 rfl) ?_
        refine lv_iload_n hx hb d_Law_law_612 rfl (lv_at hl 3 rfl) ?_
        refine lv_iconst (v := 1) hx hb d_Law_law_613 (by decide) ?_
        refine lv_iadd hx hb d_Law_law_614 ?_
        refine va_sld hx hb hX hbl hbA E.2.2 h1 d_Law_law_615 ?_
        refine lv_aload_n hx hb d_Law_law_616 rfl (lv_at hl 0 rfl) ?_
        refine lv_iload_n hx hb d_Law_law_617 rfl (lv_at hl 3 rfl) ?_
        refine lv_iconst (v := 2) hx hb d_Law_law_618 (by decide) ?_
        refine lv_iadd hx hb d_Law_law_619 ?_
        refine va_sld hx hb hX hbl hbA E.2.2 h2 d_Law_law_620 ?_
        refine lc_r (As := [.int (xs (nI (4 * k) + 1).toNatClampNeg), .int (xs (nI (4 * k) + 2).toNatClampNeg)]) (rest := [.int r]) S hK E (fun A => rC_Md_name e2) (cwV 2 S.2.2.2.2 (gi_V AW_good aw945 aw946 aw947 aw10 aw948) rfl rfl rfl (by decide +kernel) ⟨Nat.le_of_ble_eq_true rfl, Nat.le_of_ble_eq_true rfl⟩) rfl rfl hl.1 (lv_room (Nat.le_of_ble_eq_true rfl)) d_Law_law_621 (fun H locs E => ?_)
        refine lv_icmp_eq (tgt := 688) hx hb d_Law_law_624 (by decide) (fun _ => ?_) (fun c9 => absurd rfl c9)
        exact hend _ _ hRel2 H locs E
      by_cases c17 : w = 17
      · refine lv_tableIn (tgt := 629) hx hb d_Law_law_32 (by rw [c17]; decide) (by rw [c17]; decide) (by rw [c17]; rfl) (by decide) ?_
        obtain ⟨r, e1, e2, hRel2⟩ := hF.2.2.2.2.2.2.2.2.2.2.2.2.2.2.2.2.2.2.1 k σ ρ (xs (nI (4 * k) + 1).toNatClampNeg) hk5 hRel
        refine lv_aload_n hx hb d_Law_law_629 rfl (lv_at hl 1 rfl) ?_
        refine lv_aload_n hx hb d_Law_law_630 rfl (lv_at hl 0 rfl) ?_
        refine lv_iload_n hx hb d_Law_law_631 rfl (lv_at hl 3 rfl) ?_
        refine lv_iconst (v := 1) hx hb d_Law_law_632 (by decide) ?_
        refine lv_iadd hx hb d_Law_law_633 ?_
        refine va_sld hx hb hX hbl hbA E.2.2 h1 d_Law_law_634 ?_
        refine lc_k (As := [.int (xs (nI (4 * k) + 1).toNatClampNeg)]) (rest := []) S hK E (fun A => kC_PT_look e1) (cwV 1 S.2.2.2.2 (gi_V AW_good aw639 aw640 aw641 aw1 aw642) rfl rfl rfl (by decide +kernel) ⟨Nat.le_of_ble_eq_true rfl, Nat.le_of_ble_eq_true rfl⟩) rfl rfl hl.1 (lv_room (Nat.le_of_ble_eq_true rfl)) d_Law_law_635 (fun H locs E => ?_)
        refine lv_aload_n hx hb d_Law_law_638 rfl (lv_at hl 2 rfl) ?_
        refine lv_aload_n hx hb d_Law_law_639 rfl (lv_at hl 0 rfl) ?_
        refine lv_iload_n hx hb d_Law_law_640 rfl (lv_at hl 3 rfl) ?_
        refine lv_iconst (v := 1) hx hb d_Law_law_641 (by decide) ?_
        refine lv_iadd hx hb d_Law_law_642 ?_
        refine va_sld hx hb hX hbl hbA E.2.2 h1 d_Law_law_643 ?_
        refine lc_r (As := [.int (xs (nI (4 * k) + 1).toNatClampNeg)]) (rest := [.int r]) S hK E (fun A => rC_Md_look e2) (cwV 1 S.2.2.2.2 (gi_V AW_good aw953 aw954 aw955 aw10 aw956) rfl rfl rfl (by decide +kernel) ⟨Nat.le_of_ble_eq_true rfl, Nat.le_of_ble_eq_true rfl⟩) rfl rfl hl.1 (lv_room (Nat.le_of_ble_eq_true rfl)) d_Law_law_644 (fun H locs E => ?_)
        refine lv_icmp_eq (tgt := 688) hx hb d_Law_law_647 (by decide) (fun _ => ?_) (fun c9 => absurd rfl c9)
        exact hend _ _ hRel2 H locs E
      by_cases c18 : w = 18
      · refine lv_tableIn (tgt := 652) hx hb d_Law_law_32 (by rw [c18]; decide) (by rw [c18]; decide) (by rw [c18]; rfl) (by decide) ?_
        obtain ⟨r, σ2, ρ2, e1, e2, hRel2⟩ := hF.2.2.2.2.2.2.2.2.2.2.2.2.2.2.2.2.2.2.2.1 k σ ρ hk5 hRel
        refine lv_aload_n hx hb d_Law_law_652 rfl (lv_at hl 1 rfl) ?_
        refine lc_k (As := []) (rest := []) S hK E (fun A => kC_PT_balance e1) (cwV 0 S.2.2.2.2 (gi_V AW_good aw643 aw644 aw645 aw1 aw646) rfl rfl rfl (by decide +kernel) ⟨Nat.le_of_ble_eq_true rfl, Nat.le_of_ble_eq_true rfl⟩) rfl rfl hl.1 (lv_room (Nat.le_of_ble_eq_true rfl)) d_Law_law_653 (fun H locs E => ?_)
        refine lv_aload_n hx hb d_Law_law_656 rfl (lv_at hl 2 rfl) ?_
        refine lc_r (As := []) (rest := [.int r]) S hK E (fun A => rC_Md_balance e2) (cwV 0 S.2.2.2.2 (gi_V AW_good aw957 aw958 aw959 aw10 aw960) rfl rfl rfl (by decide +kernel) ⟨Nat.le_of_ble_eq_true rfl, Nat.le_of_ble_eq_true rfl⟩) rfl rfl hl.1 (lv_room (Nat.le_of_ble_eq_true rfl)) d_Law_law_657 (fun H locs E => ?_)
        refine lv_icmp_eq (tgt := 688) hx hb d_Law_law_660 (by decide) (fun _ => ?_) (fun c9 => absurd rfl c9)
        exact hend _ _ hRel2 H locs E
      by_cases c19 : w = 19
      · refine lv_tableIn (tgt := 665) hx hb d_Law_law_32 (by rw [c19]; decide) (by rw [c19]; decide) (by rw [c19]; rfl) (by decide) ?_
        obtain ⟨r, e1, e2, hRel2⟩ := hF.2.2.2.2.2.2.2.2.2.2.2.2.2.2.2.2.2.2.2.2 k σ ρ (xs (nI (4 * k) + 1).toNatClampNeg) hk5 hRel
        refine lv_aload_n hx hb d_Law_law_665 rfl (lv_at hl 1 rfl) ?_
        refine lv_aload_n hx hb d_Law_law_666 rfl (lv_at hl 0 rfl) ?_
        refine lv_iload_n hx hb d_Law_law_667 rfl (lv_at hl 3 rfl) ?_
        refine lv_iconst (v := 1) hx hb d_Law_law_668 (by decide) ?_
        refine lv_iadd hx hb d_Law_law_669 ?_
        refine va_sld hx hb hX hbl hbA E.2.2 h1 d_Law_law_670 ?_
        refine lc_k (As := [.int (xs (nI (4 * k) + 1).toNatClampNeg)]) (rest := []) S hK E (fun A => kC_PT_count e1) (cwV 1 S.2.2.2.2 (gi_V AW_good aw680 aw681 aw682 aw1 aw683) rfl rfl rfl (by decide +kernel) ⟨Nat.le_of_ble_eq_true rfl, Nat.le_of_ble_eq_true rfl⟩) rfl rfl hl.1 (lv_room (Nat.le_of_ble_eq_true rfl)) d_Law_law_671 (fun H locs E => ?_)
        refine lv_aload_n hx hb d_Law_law_674 rfl (lv_at hl 2 rfl) ?_
        refine lv_aload_n hx hb d_Law_law_675 rfl (lv_at hl 0 rfl) ?_
        refine lv_iload_n hx hb d_Law_law_676 rfl (lv_at hl 3 rfl) ?_
        refine lv_iconst (v := 1) hx hb d_Law_law_677 (by decide) ?_
        refine lv_iadd hx hb d_Law_law_678 ?_
        refine va_sld hx hb hX hbl hbA E.2.2 h1 d_Law_law_679 ?_
        refine lc_r (As := [.int (xs (nI (4 * k) + 1).toNatClampNeg)]) (rest := [.int r]) S hK E (fun A => rC_Md_count e2) (cwV 1 S.2.2.2.2 (gi_V AW_good aw968 aw969 aw970 aw10 aw971) rfl rfl rfl (by decide +kernel) ⟨Nat.le_of_ble_eq_true rfl, Nat.le_of_ble_eq_true rfl⟩) rfl rfl hl.1 (lv_room (Nat.le_of_ble_eq_true rfl)) d_Law_law_680 (fun H locs E => ?_)
        refine lv_icmp_eq (tgt := 688) hx hb d_Law_law_683 (by decide) (fun _ => ?_) (fun c9 => absurd rfl c9)
        exact hend _ _ hRel2 H locs E
      refine lv_tableOut (tgt := 688) hx hb d_Law_law_32 (by have q0 := lv_neT c0 (a := 0) (by decide); have q1 := lv_neT c1 (a := 1) (by decide); have q2 := lv_neT c2 (a := 2) (by decide); have q3 := lv_neT c3 (a := 3) (by decide); have q4 := lv_neT c4 (a := 4) (by decide); have q5 := lv_neT c5 (a := 5) (by decide); have q6 := lv_neT c6 (a := 6) (by decide); have q7 := lv_neT c7 (a := 7) (by decide); have q8 := lv_neT c8 (a := 8) (by decide); have q9 := lv_neT c9 (a := 9) (by decide); have q10 := lv_neT c10 (a := 10) (by decide); have q11 := lv_neT c11 (a := 11) (by decide); have q12 := lv_neT c12 (a := 12) (by decide); have q13 := lv_neT c13 (a := 13) (by decide); have q14 := lv_neT c14 (a := 14) (by decide); have q15 := lv_neT c15 (a := 15) (by decide); have q16 := lv_neT c16 (a := 16) (by decide); have q17 := lv_neT c17 (a := 17) (by decide); have q18 := lv_neT c18 (a := 18) (by decide); have q19 := lv_neT c19 (a := 19) (by decide); omega) (by decide) ?_
      exact hend _ _ (hF.1 k σ ρ hk5 hRel) H locs E
def ks0 : St := fun k => if k = 5 then (fun j => if j < 800 then (-1) else 0) else (if k = 29 then (fun _ => (-1)) else (fun _ => 0))
def nkA (h0 : Nat) (q : Nat → Nat) : Nat → Nat := fun k => ([h0, (q 0), (q 7), (q 15), (q 22), (q 24), (q 29), (q 1), (q 2), (q 3), (q 4), (q 5), (q 6), (q 8), (q 9), (q 10), (q 11), (q 12), (q 13), (q 14), (q 16), (q 17), (q 18), (q 19), (q 20), (q 21), (q 23), (q 25), (q 26), (q 27), (q 28), (q 30), (q 31)] : List Nat).getD k 0
def nkC (c : Nat → ClassId) : Nat → ClassId := fun k => ([(c 0), (c 1), (c 2), (c 3), (c 4), (c 5), (c 6), (c 7), (c 8), (c 9), (c 10), (c 11), (c 12), (c 13), (c 14), (c 15), (c 16), (c 17), (c 18), (c 19), (c 20), (c 21), (c 22), (c 23), (c 24), (c 25)] : List ClassId).getD k 0
set_option maxRecDepth 100000 in
theorem nkf {h0 : Nat} {q : Nat → Nat} {c : Nat → ClassId} : ([0, 1, 8, 16, 23, 25, 30, 2, 3, 4, 5, 6, 7, 9, 10, 11, 12, 13, 14, 15, 17, 18, 19, 20, 21, 22, 24, 26, 27, 28, 29, 31, 32] : List Nat).filterMap (fun i => (nW_PT h0 q c)[i]?) = kPW (nkA h0 q) (nkC c) ks0 := rfl
set_option maxRecDepth 100000 in
theorem nkm {h0 : Nat} {q : Nat → Nat} {c : Nat → ClassId} : ([0, 1, 8, 16, 23, 25, 30, 2, 3, 4, 5, 6, 7, 9, 10, 11, 12, 13, 14, 15, 17, 18, 19, 20, 21, 22, 24, 26, 27, 28, 29, 31, 32] : List Nat).map (fun i => (nW_PT h0 q c)[i]?) = (kPW (nkA h0 q) (nkC c) ks0).map some := rfl
set_option maxRecDepth 100000 in
theorem nkt {c : Nat → ClassId} : ([0, 1, 2, 3, 4, 5, 6, 7, 8, 9, 10, 11, 12, 13, 14, 15, 16, 17, 18, 19, 20, 21, 22, 23, 24, 25] : List Nat).filterMap (fun i => (nT_PT c)[i]?) = kTY (nkC c) := rfl
def rs0 : St := fun k => fun _ => 0
def nrA (h0 : Nat) (q : Nat → Nat) : Nat → Nat := fun k => ([h0, (q 0), (q 1), (q 2), (q 3), (q 4), (q 5), (q 6), (q 7), (q 8), (q 9), (q 10), (q 11), (q 12), (q 13), (q 14), (q 15), (q 16), (q 17), (q 18), (q 19), (q 20), (q 21)] : List Nat).getD k 0
def nrC (c : Nat → ClassId) : Nat → ClassId := fun k => ([(c 0), (c 1), (c 2), (c 3), (c 4), (c 5), (c 6), (c 7), (c 8), (c 9), (c 10), (c 11), (c 12), (c 13), (c 14), (c 15), (c 16), (c 17), (c 18), (c 19), (c 20), (c 21)] : List ClassId).getD k 0
set_option maxRecDepth 100000 in
theorem nrf {h0 : Nat} {q : Nat → Nat} {c : Nat → ClassId} : ([0, 1, 2, 3, 4, 5, 6, 7, 8, 9, 10, 11, 12, 13, 14, 15, 16, 17, 18, 19, 20, 21, 22] : List Nat).filterMap (fun i => (nW_Md h0 q c)[i]?) = rPW (nrA h0 q) (nrC c) rs0 := rfl
set_option maxRecDepth 100000 in
theorem nrm {h0 : Nat} {q : Nat → Nat} {c : Nat → ClassId} : ([0, 1, 2, 3, 4, 5, 6, 7, 8, 9, 10, 11, 12, 13, 14, 15, 16, 17, 18, 19, 20, 21, 22] : List Nat).map (fun i => (nW_Md h0 q c)[i]?) = (rPW (nrA h0 q) (nrC c) rs0).map some := rfl
set_option maxRecDepth 100000 in
theorem nrt {c : Nat → ClassId} : ([0, 1, 2, 3, 4, 5, 6, 7, 8, 9, 10, 11, 12, 13, 14, 15, 16, 17, 18, 19, 20, 21] : List Nat).filterMap (fun i => (nT_Md c)[i]?) = rTY (nrC c) := rfl
set_option maxHeartbeats 8000000 in
set_option maxRecDepth 100000 in
theorem law_start_open {p : Program} {e : Env} {s : State} {m : MethodId} {below : List Frame} {meth : Method} {c : Code} (l : Launch) {b L : Nat} {xs : Nat → Int32} {Rel : Nat → St → St → Prop} (hF : lF Rel) (hR0 : Rel 0 ks0 rs0) (hL : L ≤ 2048) (C0 : lw_At p s m meth c b L xs) : W p l e room_1 s m #[Value.ref b] below meth c s.heap [] 0 0 (lw_Z below #[Value.ref b] s) (entryFrame m ([Value.ref b] : List Value).toArray 4) := by
  obtain ⟨hx, hb, hr, hml, hown, hts0, hX, hbl, hlocks, hgv⟩ := id C0
  have hts := AW_hts hts0
  have ht : ∀ (i : Nat) (w : Cond), tables_1[i]? = some w → w.before #[Value.ref b] s = true := fun i w h => hts0 w (List.mem_append_right _ (List.mem_of_getElem? h))
  obtain ⟨g, hTX⟩ := kTX_start hts0 hgv
  have hA : ∀ q : Nat, s.heap.size ≤ q → (fun q : Nat => s.heap.size ≤ q) q := fun _ h => h
  obtain ⟨c0, iS0, hKn0⟩ := u_known (C := R_Bal) (T := T_Bal) (N := 3) (n := 3) hts in_Bal (hts _ aw135)
  obtain ⟨c1, iS1, hKn1⟩ := u_known (C := R_Items) (T := T_Items) (N := 8) (n := 8) hts in_Items (hts _ aw25)
  obtain ⟨c2, iS2, hKn2⟩ := u_known (C := R_Labels) (T := T_Labels) (N := 6) (n := 6) hts in_Labels (hts _ aw151)
  obtain ⟨c3, iS3, hKn3⟩ := u_known (C := R_Mender) (T := T_Mender) (N := 10) (n := 10) hts in_Mender (hts _ aw108)
  obtain ⟨c4, iS4, hKn4⟩ := u_known (C := R_Names) (T := T_Names) (N := 3) (n := 3) hts in_Names (hts _ aw177)
  obtain ⟨c5, iS5, hKn5⟩ := u_known (C := R_Order) (T := T_Order) (N := 11) (n := 11) hts in_Order (hts _ aw61)
  obtain ⟨c6, iS6, hKn6⟩ := u_known (C := R_PT) (T := T_PT) (N := 6) (n := 6) hts in_PT (hts _ aw17)
  obtain ⟨c7, iS7, hKn7⟩ := u_known (C := R_Md) (T := T_Md) (N := 30) (n := 30) hts in_Md (hts _ aw685)
  obtain ⟨D, hKc⟩ : ∃ D : va_G, ∀ (k : Nat) (q : vw_C), vwCl[k]? = some q → u_Kn s q.1 q.2.1 q.2.2 (D.1 k) (D.2 k) := by
    refine ⟨(fun k => if k = 0 then c0 else if k = 1 then c1 else if k = 2 then c2 else if k = 3 then c3 else if k = 4 then c4 else if k = 5 then c5 else if k = 6 then c6 else c7, fun k => if k = 0 then iS0 else if k = 1 then iS1 else if k = 2 then iS2 else if k = 3 then iS3 else if k = 4 then iS4 else if k = 5 then iS5 else if k = 6 then iS6 else iS7), ?_⟩
    intro k q hq
    match k, hq with
    | 0, hq => cases hq; exact hKn0
    | 1, hq => cases hq; exact hKn1
    | 2, hq => cases hq; exact hKn2
    | 3, hq => cases hq; exact hKn3
    | 4, hq => cases hq; exact hKn4
    | 5, hq => cases hq; exact hKn5
    | 6, hq => cases hq; exact hKn6
    | 7, hq => cases hq; exact hKn7
    | k + 8, hq => simp [vwCl] at hq
  have hS : va_S (fun q : Nat => s.heap.size ≤ q) s.heap s.heap [] := va_S.rf
  have hK : va_K D vwCl [] s := ⟨hKc, fun k q h => by simp at h⟩
  have hP : va_P D vwCl [] s.heap := fun k q h => by simp at h
  have hD : va_D (fun q : Nat => s.heap.size ≤ q) [] := ⟨fun i j p q h => by simp at h, fun k q h => by simp at h⟩
  have hl := lv_entry ([.ref b]) (n := 4) (Nat.le_of_ble_eq_true rfl)
  rw [lg_entry_eq]
  generalize (lg_sl ([.ref b]) ++ List.replicate (4 - (lg_sl ([.ref b])).length) Slot.unset).toArray = ls at hl ⊢
  have hl : lv_has ls 4 [(0, .ref b)] := hl
  refine va_new (ci := 6) (fs := [.null, .null, .null, .null, .null, .null]) (C := R_PT) (T := T_PT) (N := 6) hx hb hts in_PT ty_PT ty_PT_ok hown (hts _ aw16) (hts _ aw17) (hts _ aw1) hK hP hD hS hA rfl (fun j hj => by rcases (show j = 0 ∨ j = 1 ∨ j = 2 ∨ j = 3 ∨ j = 4 ∨ j = 5 by omega) with rfl | rfl | rfl | rfl | rfl | rfl <;> rfl) (Nat.le_of_ble_eq_true rfl) (Nat.le_of_ble_eq_true rfl) d_Law_law_0 (fun h0 H hP hD hS => ?_)
  have hP : va_P D vwCl [(h0, .inr (6, [.null, .null, .null, .null, .null, .null]))] H := hP
  have hD : va_D (fun q : Nat => s.heap.size ≤ q) [(h0, .inr (6, [.null, .null, .null, .null, .null, .null]))] := hD
  refine W.widen (k := 1) (n := 6) (Nat.le_refl _) (Nat.le_refl _) ?_
  refine lv_dup hx hb d_Law_law_3 rfl ?_
  have hPc := hP.sub (ws' := [(h0, .inr (6, [.null, .null, .null, .null, .null, .null]))]) [0] rfl
  have hDc := hD.sub (ws' := [(h0, .inr (6, [.null, .null, .null, .null, .null, .null]))]) [0] (by decide) rfl
  have hKc0 := hK.sub (tys' := []) [] rfl
  have hFc := va_free (wc := [(h0, .inr (6, [.null, .null, .null, .null, .null, .null]))]) hD hS hA [0] rfl
  refine va_callv (va_runI (As := []) (rest := [.ref h0]) ⟨hx, hb, hml, hown, hts⟩ (nC_PT l D h0 H.size) (cwI 0 hts (gi_C AW_good aw20) rfl rfl rfl (hts _ aw1) (hts _ aw18) (hts _ aw19) rfl (by decide +kernel) ⟨Nat.le_of_ble_eq_true rfl, Nat.le_of_ble_eq_true rfl⟩) ⟨fun a U g mk q => by obtain ⟨q0, q1, qP, qK, qD, qn41, qn48⟩ := q; exact ⟨q0, q1, qP, va_K.moved (u := U) (U := U.calling g mk a) (Vm.Alike.refl U.vm) qK, qD, va_Nw.same rfl rfl qn41, va_Nw.same rfl rfl qn48⟩, fun U hU hW => ⟨rfl, by rw [hU], by rw [hU]; exact hPc, va_K.moved hW.alike hKc0, hDc.weaken (fun _ _ _ _ => trivial), va_Nw.warmM hW (va_Nw.of rfl (ht 152 _ rfl)), va_Nw.warmM hW (va_Nw.of rfl (ht 178 _ rfl))⟩⟩ rfl rfl hl.1 rfl (lv_room (Nat.le_of_ble_eq_true rfl)) d_Law_law_4 ⟨Nat.le_of_ble_eq_true rfl, Nat.le_of_ble_eq_true rfl⟩) hS (fun q _ h => hFc q h) hFc (fun u t H1 locs ht2 hvm hw hB hz1 hk1 hS => ?_)
  obtain ⟨hP1, hK1, hD1⟩ := hB
  rw [ht2] at hP1
  have hK1 := va_K.moved hvm.symm hK1
  have hP1 := hP1.sub (ws' := kPW (nkA h0 u.1) (nkC u.2) ks0) [0, 1, 8, 16, 23, 25, 30, 2, 3, 4, 5, 6, 7, 9, 10, 11, 12, 13, 14, 15, 17, 18, 19, 20, 21, 22, 24, 26, 27, 28, 29, 31, 32] nkf
  have hD1 := hD1.sub (ws' := kPW (nkA h0 u.1) (nkC u.2) ks0) [0, 1, 8, 16, 23, 25, 30, 2, 3, 4, 5, 6, 7, 9, 10, 11, 12, 13, 14, 15, 17, 18, 19, 20, 21, 22, 24, 26, 27, 28, 29, 31, 32] (by decide) nkm
  have hKk := hK1.sub (tys' := kTY (nkC u.2)) [0, 1, 2, 3, 4, 5, 6, 7, 8, 9, 10, 11, 12, 13, 14, 15, 16, 17, 18, 19, 20, 21, 22, 23, 24, 25] nkt
  obtain ⟨hP, hD⟩ := va_join (wr := []) (w1 := kPW (nkA h0 u.1) (nkC u.2) ks0) hP hD [0] [] rfl rfl (by decide) (by decide) hk1 hFc hP1 hD1
  generalize H1 = H at hP hS ⊢
  have ea : nkA h0 u.1 0 = h0 := rfl
  generalize nkA h0 u.1 = a at hP hD ea
  generalize nkC u.2 = cA at hP hD hKk
  have hP : va_P D vwCl (kPW a cA ks0) H := hP
  have hD : va_D (fun q : Nat => s.heap.size ≤ q) (kPW a cA ks0) := hD
  refine W.widen (k := 33) (n := 12491) (Nat.le_of_ble_eq_true rfl) (Nat.le_of_ble_eq_true rfl) ?_
  refine lv_astore_n (lv' := [(1, .ref h0), (0, .ref b)]) hx hb d_Law_law_7 rfl hl (by decide) rfl (fun ls hl => ?_)
  refine va_new (ci := 7) (fs := [.int 0, .null, .null, .null, .null, .null, .null, .int 0, .null, .null, .null, .int 0, .null, .null, .null, .null, .int 0, .null, .null, .int 0, .null, .null, .null, .int 0, .null, .null, .int 0, .null, .int 0, .null]) (C := R_Md) (T := T_Md) (N := 30) hx hb hts in_Md ty_Md ty_Md_ok hown (hts _ aw684) (hts _ aw685) (hts _ aw10) hK hP hD hS hA rfl (fun j hj => by rcases (show j = 0 ∨ j = 1 ∨ j = 2 ∨ j = 3 ∨ j = 4 ∨ j = 5 ∨ j = 6 ∨ j = 7 ∨ j = 8 ∨ j = 9 ∨ j = 10 ∨ j = 11 ∨ j = 12 ∨ j = 13 ∨ j = 14 ∨ j = 15 ∨ j = 16 ∨ j = 17 ∨ j = 18 ∨ j = 19 ∨ j = 20 ∨ j = 21 ∨ j = 22 ∨ j = 23 ∨ j = 24 ∨ j = 25 ∨ j = 26 ∨ j = 27 ∨ j = 28 ∨ j = 29 by omega) with rfl | rfl | rfl | rfl | rfl | rfl | rfl | rfl | rfl | rfl | rfl | rfl | rfl | rfl | rfl | rfl | rfl | rfl | rfl | rfl | rfl | rfl | rfl | rfl | rfl | rfl | rfl | rfl | rfl | rfl <;> rfl) (Nat.le_of_ble_eq_true rfl) (Nat.le_of_ble_eq_true rfl) d_Law_law_8 (fun h1 H hP hD hS => ?_)
  have hP : va_P D vwCl (kPW a cA ks0 ++ [(h1, .inr (7, [.int 0, .null, .null, .null, .null, .null, .null, .int 0, .null, .null, .null, .int 0, .null, .null, .null, .null, .int 0, .null, .null, .int 0, .null, .null, .null, .int 0, .null, .null, .int 0, .null, .int 0, .null]))]) H := hP
  have hD : va_D (fun q : Nat => s.heap.size ≤ q) (kPW a cA ks0 ++ [(h1, .inr (7, [.int 0, .null, .null, .null, .null, .null, .null, .int 0, .null, .null, .null, .int 0, .null, .null, .null, .null, .int 0, .null, .null, .int 0, .null, .null, .null, .int 0, .null, .null, .int 0, .null, .int 0, .null]))]) := hD
  refine W.widen (k := 34) (n := 12521) (Nat.le_of_ble_eq_true rfl) (Nat.le_of_ble_eq_true rfl) ?_
  refine lv_dup hx hb d_Law_law_11 rfl ?_
  have hPc := hP.sub (ws' := [(h1, .inr (7, [.int 0, .null, .null, .null, .null, .null, .null, .int 0, .null, .null, .null, .int 0, .null, .null, .null, .null, .int 0, .null, .null, .int 0, .null, .null, .null, .int 0, .null, .null, .int 0, .null, .int 0, .null]))]) [33] rfl
  have hDc := hD.sub (ws' := [(h1, .inr (7, [.int 0, .null, .null, .null, .null, .null, .null, .int 0, .null, .null, .null, .int 0, .null, .null, .null, .null, .int 0, .null, .null, .int 0, .null, .null, .null, .int 0, .null, .null, .int 0, .null, .int 0, .null]))]) [33] (by decide) rfl
  have hKc0 := hK.sub (tys' := []) [] rfl
  have hFc := va_free (wc := [(h1, .inr (7, [.int 0, .null, .null, .null, .null, .null, .null, .int 0, .null, .null, .null, .int 0, .null, .null, .null, .null, .int 0, .null, .null, .int 0, .null, .null, .null, .int 0, .null, .null, .int 0, .null, .int 0, .null]))]) hD hS hA [33] rfl
  refine va_callv (va_runI (As := []) (rest := [.ref h1]) ⟨hx, hb, hml, hown, hts⟩ (nC_Md l D h1 H.size) (cwI 0 hts (gi_C AW_good aw688) rfl rfl rfl (hts _ aw10) (hts _ aw686) (hts _ aw687) rfl (by decide +kernel) ⟨Nat.le_of_ble_eq_true rfl, Nat.le_of_ble_eq_true rfl⟩) ⟨fun a U g mk q => by obtain ⟨q0, q1, qP, qK, qD⟩ := q; exact ⟨q0, q1, qP, va_K.moved (u := U) (U := U.calling g mk a) (Vm.Alike.refl U.vm) qK, qD⟩, fun U hU hW => ⟨rfl, by rw [hU], by rw [hU]; exact hPc, va_K.moved hW.alike hKc0, hDc.weaken (fun _ _ _ _ => trivial)⟩⟩ rfl rfl hl.1 rfl (lv_room (Nat.le_of_ble_eq_true rfl)) d_Law_law_12 ⟨Nat.le_of_ble_eq_true rfl, Nat.le_of_ble_eq_true rfl⟩) hS (fun q _ h => hFc q h) hFc (fun u t H1 locs ht2 hvm hw hB hz1 hk1 hS => ?_)
  obtain ⟨hP1, hK1, hD1⟩ := hB
  rw [ht2] at hP1
  have hK1 := va_K.moved hvm.symm hK1
  have hP1 := hP1.sub (ws' := rPW (nrA h1 u.1) (nrC u.2) rs0) [0, 1, 2, 3, 4, 5, 6, 7, 8, 9, 10, 11, 12, 13, 14, 15, 16, 17, 18, 19, 20, 21, 22] nrf
  have hD1 := hD1.sub (ws' := rPW (nrA h1 u.1) (nrC u.2) rs0) [0, 1, 2, 3, 4, 5, 6, 7, 8, 9, 10, 11, 12, 13, 14, 15, 16, 17, 18, 19, 20, 21, 22] (by decide) nrm
  have hKr := hK1.sub (tys' := rTY (nrC u.2)) [0, 1, 2, 3, 4, 5, 6, 7, 8, 9, 10, 11, 12, 13, 14, 15, 16, 17, 18, 19, 20, 21] nrt
  obtain ⟨hP, hD⟩ := va_join (wr := kPW a cA ks0) (w1 := rPW (nrA h1 u.1) (nrC u.2) rs0) hP hD [33] [0, 1, 2, 3, 4, 5, 6, 7, 8, 9, 10, 11, 12, 13, 14, 15, 16, 17, 18, 19, 20, 21, 22, 23, 24, 25, 26, 27, 28, 29, 30, 31, 32] rfl rfl (by decide) (by decide) hk1 hFc hP1 hD1
  generalize H1 = H at hP hS ⊢
  have eb : nrA h1 u.1 0 = h1 := rfl
  generalize nrA h1 u.1 = b2 at hP hD eb
  generalize nrC u.2 = cB at hP hD hKr
  refine W.widen (k := 56) (n := 24164) (Nat.le_of_ble_eq_true rfl) (Nat.le_of_ble_eq_true rfl) ?_
  refine lv_astore_n (lv' := [(2, .ref h1), (1, .ref h0), (0, .ref b)]) hx hb d_Law_law_15 rfl hl (by decide) rfl (fun ls hl => ?_)
  refine lv_iconst (v := 0) hx hb d_Law_law_16 (by decide) ?_
  refine lv_istore_n (lv' := [(3, .int 0), (2, .ref h1), (1, .ref h0), (0, .ref b)]) hx hb d_Law_law_17 rfl hl (by decide) rfl (fun ls hl => ?_)
  rw [← ea, ← eb] at hl
  have hLK : lK D cA cB g s := ⟨hKk, hKr, va_Nw.of rfl (ht 278 _ rfl), va_Nw.of rfl (ht 374 _ rfl), hTX⟩
  exact law_loop_open hF hL C0 hLK (L + 2) 0 ks0 rs0 (by omega) (by omega) hR0 H locs ls ⟨hP, hD, hS⟩ (lv_sub hl [3, 2, 1, 0] rfl)
