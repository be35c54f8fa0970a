/-! The pure side: a state is a row of int functions (a field: place 0; an array: its places). 'none' of a method's function: an index out of its array, a divisor 0, or out of fuel. -/
abbrev St : Type := Nat → Nat → Int32
def sk (σ : St) (k : Nat) (f : Nat → Int32) : St := fun j => if j = k then f else σ j
def inB (i : Int32) (n : Nat) : Bool := if i < 0 then false else if n ≤ i.toNatClampNeg then false else true
theorem inB_in {i : Int32} {n : Nat} (h : inB i n = true) : vp_in i n := by
  unfold inB at h
  intro q
  by_cases h1 : i < 0
  · rw [if_pos h1] at h
    cases h
  · rw [if_neg h1] at h
    by_cases h2 : n ≤ i.toNatClampNeg
    · rw [if_pos h2] at h
      cases h
    · rcases q with q | q
      · exact h1 q
      · exact h2 q
theorem in_inB {i : Int32} {n : Nat} (h : vp_in i n) : inB i n = true := by
  unfold inB
  rw [if_neg (fun q => h (Or.inl q)), if_neg (fun q => h (Or.inr q))]
theorem inB_nI {j n : Nat} (h : j < n) (hn : n < 2 ^ 31) : inB (nI j) n = true := in_inB (vp_in_nI h hn)
def nzB (i : Int32) : Bool := if i = 0 then false else true
theorem nzB_ne {i : Int32} (h : nzB i = true) : ¬ i = 0 := by
  intro q
  unfold nzB at h
  rw [if_pos q] at h
  cases h
def boB (i : Int32) : Bool := if i = 0 then true else if i = 1 then true else false
theorem boB_or {i : Int32} (h : boB i = true) : i = 0 ∨ i = 1 := by
  unfold boB at h
  by_cases h1 : i = 0
  · exact Or.inl h1
  · rw [if_neg h1] at h
    by_cases h2 : i = 1
    · exact Or.inr h2
    · rw [if_neg h2] at h
      cases h
theorem boB_n {i : Int32} (h : boB i = true) : narrow .boolean (.int i) = .int i := by
  rcases boB_or h with rfl | rfl <;> rfl
def gd {β : Type} (b : Bool) (k : Option β) : Option β := match b with
  | true => k
  | false => none
theorem gd_inv {β : Type} {b : Bool} {k : Option β} {y : β} (h : gd b k = some y) : b = true ∧ k = some y := by
  cases b
  · cases h
  · exact ⟨rfl, h⟩
theorem gd_t {β : Type} {b : Bool} {k : Option β} (h : b = true) : gd b k = k := by
  subst h
  rfl
def bd {β : Type} (o : Option (Int32 × St)) (k : Int32 → St → Option β) : Option β := match o with
  | none => none
  | some q => k q.1 q.2
theorem bd_inv {β : Type} {o : Option (Int32 × St)} {k : Int32 → St → Option β} {y : β} (h : bd o k = some y) : ∃ (r : Int32) (σ : St), o = some (r, σ) ∧ k r σ = some y := by
  cases o with
  | none => cases h
  | some q => exact ⟨q.1, q.2, rfl, h⟩
theorem bd_s {β : Type} {r : Int32} {σ : St} {k : Int32 → St → Option β} : bd (some (r, σ)) k = k r σ := rfl
def br {β : Type} (o : Option Int32) (k : Int32 → Option β) : Option β := match o with
  | none => none
  | some q => k q
theorem br_inv {β : Type} {o : Option Int32} {k : Int32 → Option β} {y : β} (h : br o k = some y) : ∃ r : Int32, o = some r ∧ k r = some y := by
  cases o with
  | none => cases h
  | some q => exact ⟨q, rfl, h⟩
theorem br_s {β : Type} {r : Int32} {k : Int32 → Option β} : br (some r) k = k r := rfl
def bv {β : Type} (o : Option St) (k : St → Option β) : Option β := match o with
  | none => none
  | some q => k q
theorem bv_inv {β : Type} {o : Option St} {k : St → Option β} {y : β} (h : bv o k = some y) : ∃ σ : St, o = some σ ∧ k σ = some y := by
  cases o with
  | none => cases h
  | some q => exact ⟨q, rfl, h⟩
theorem bv_s {β : Type} {σ : St} {k : St → Option β} : bv (some σ) k = k σ := rfl
def lq {α β : Type} (v : α) (k : α → Option β) : Option β := k v
theorem lq_inv {α β : Type} {v : α} {k : α → Option β} {y : β} (h : lq v k = some y) (x : α) (e : x = v) : k x = some y := by
  subst e
  exact h
theorem lq_s {α β : Type} {v : α} {k : α → Option β} : lq v k = k v := rfl
theorem ifP {α : Sort _} {c : Prop} {d : Decidable c} {x y z : α} (h : (if c then x else y) = z) (hc : c) : x = z := by
  rw [if_pos hc] at h
  exact h
theorem ifN {α : Sort _} {c : Prop} {d : Decidable c} {x y z : α} (h : (if c then x else y) = z) (hc : ¬ c) : y = z := by
  rw [if_neg hc] at h
  exact h
theorem pr_inj {α β : Type} {x r : α} {y s : β} (h : some (x, y) = some (r, s)) : x = r ∧ y = s := by
  cases h
  exact ⟨rfl, rfl⟩
theorem FU_ex : ∃ n : Nat, 1000000 ≤ n := ⟨1000000, Nat.le_refl _⟩
noncomputable def FU : Nat := Classical.choose FU_ex
theorem FU_ge : 1000000 ≤ FU := Classical.choose_spec FU_ex
/-- words of the tables: a method's own code ahead of the list that all methods of the system share -/
theorem gi_V {AW : List Cond} (hg : GoodIn AW AW) {own C : String} {idx : Nat} {y : MethodName} {c : Cond} (h1 : Cond.methodLink own idx y ∈ AW) (h2 : Cond.instanceMethod y ∈ AW) (h3 : Cond.selects C y y ∈ AW) (h4 : Cond.initialized C ∈ AW) (h5 : c ∈ AW) : GoodIn AW (wsV own idx C y (c :: AW)) := by
  intro w hw
  have : w ∈ AW := by
    simp only [wsV, List.cons_append, List.nil_append, List.mem_cons] at hw
    rcases hw with rfl | rfl | rfl | rfl | rfl | h
    · exact h1
    · exact h2
    · exact h3
    · exact h4
    · exact h5
    · exact h
  exact hg w this
theorem gi_S {AW : List Cond} (hg : GoodIn AW AW) {own : String} {idx : Nat} {y : MethodName} {c : Cond} (h1 : Cond.methodLink own idx y ∈ AW) (h2 : Cond.static y ∈ AW) (h4 : Cond.initialized y.cls ∈ AW) (h5 : c ∈ AW) : GoodIn AW (va_wsS own idx y (c :: AW)) := by
  intro w hw
  have : w ∈ AW := by
    simp only [va_wsS, List.cons_append, List.nil_append, List.mem_cons] at hw
    rcases hw with rfl | rfl | rfl | rfl | h
    · exact h1
    · exact h2
    · exact h4
    · exact h5
    · exact h
  exact hg w this
theorem gi_U {AW : List Cond} (hg : GoodIn AW AW) {own C owner : String} {idx : Nat} {x y : MethodName} {c : Cond} (h1 : Cond.methodLink own idx x ∈ AW) (h2 : Cond.sameMethod x.cls owner x.name x.desc ∈ AW) (h3 : Cond.selects C x y ∈ AW) (h4 : Cond.instanceMethod y ∈ AW) (h6 : Cond.initialized y.cls ∈ AW) (h5 : c ∈ AW) : GoodIn AW (va_wsU own idx C owner x y (c :: AW)) := by
  intro w hw
  have : w ∈ AW := by
    simp only [va_wsU, List.cons_append, List.nil_append, List.mem_cons] at hw
    rcases hw with rfl | rfl | rfl | rfl | rfl | rfl | h
    · exact h1
    · exact h2
    · exact h3
    · exact h4
    · exact h6
    · exact h5
    · exact h
  exact hg w this
theorem gi_O {AW : List Cond} (hg : GoodIn AW AW) {own C owner : String} {idx : Nat} {x y : MethodName} {c : Cond} (h1 : Cond.methodLink own idx x ∈ AW) (h2 : Cond.sameMethod x.cls owner x.name x.desc ∈ AW) (h7 : Cond.instanceMethod ⟨owner, x.name, x.desc⟩ ∈ AW) (h3 : Cond.selects C x y ∈ AW) (h4 : Cond.instanceMethod y ∈ AW) (h6 : Cond.initialized y.cls ∈ AW) (h5 : c ∈ AW) : GoodIn AW (va_wsO own idx C owner x y (c :: AW)) := by
  intro w hw
  have : w ∈ AW := by
    simp only [va_wsO, List.cons_append, List.nil_append, List.mem_cons] at hw
    rcases hw with rfl | rfl | rfl | rfl | rfl | rfl | rfl | h
    · exact h1
    · exact h2
    · exact h7
    · exact h3
    · exact h4
    · exact h6
    · exact h5
    · exact h
  exact hg w this
theorem gi_C {AW : List Cond} (hg : GoodIn AW AW) {c : Cond} (h5 : c ∈ AW) : GoodIn AW (c :: AW) := by
  intro w hw
  rcases List.mem_cons.mp hw with rfl | h
  · exact hg _ h5
  · exact hg _ h
