/-! THE EXCEPTION'S WORDS: what the tables and the statics say, carried along -/
def tw_A : List Cond := Bundle.ownAtoms "RouteGuide" 97 "java/lang/ArithmeticException" ["java/lang/RuntimeException", "java/lang/Exception"]
def TW (U : State) : Prop := ∃ a : Array Value, ∀ w ∈ tw_A, w.before a U = true
/-- which of the words read the tables alone -/
def tw_k (w : Cond) : Bool := w.onTables && w.keepsFace
def tw_s (w : Cond) : Bool := match w with
  | .laysStatic .. => true
  | .isRef (.static o f d) => decide (Cond.laysStatic o f d ∈ tw_A)
  | _ => false
theorem tw_all : tw_A.all (fun w => tw_k w || tw_s w) = true := by decide +kernel
theorem tw_lays {a a' : Array Value} {s U : State} {O f d : String} (hW : s.WarmedH U.vm) (hH : ∀ (q : Nat) (c : Cell), s.heap[q]? = some c → c.vm.isStatics = true → U.heap[q]? = some c) (h : (Cond.laysStatic O f d).before a s = true) : (Cond.laysStatic O f d).before a' U = true := by
  have h1 : (Cond.laysStatic O f d).before a (s.setVm U.vm) = true := Cond.before_shiftedFace (State.Shifted.of_warmed hW) _ rfl h
  obtain ⟨c, k, i, fd, q, cell, hc, hf, hst, hsta, hcell, hiss, hcls, hlt, hty⟩ := Cond.laysStatic_spec h1
  have hc' : U.vm.findClass O = some c := hc
  have hf' : U.fieldFound? O f d = some (c, k, i, fd) := hf
  have hcell' : U.heap[q]? = some cell := hH q cell hcell hiss
  simp [Cond.before, Cond.holds, Cond.value, hc', hf', hst, hsta, hcell', hiss, hcls, hlt, hty]
theorem tw_isref {a a' : Array Value} {s U : State} {O f d : String} (hW : s.WarmedH U.vm) (hH : ∀ (q : Nat) (c : Cell), s.heap[q]? = some c → c.vm.isStatics = true → U.heap[q]? = some c) (h0 : (Cond.laysStatic O f d).before a s = true) (h : (Cond.isRef (.static O f d)).before a s = true) : (Cond.isRef (.static O f d)).before a' U = true := by
  have h1 : (Cond.laysStatic O f d).before a (s.setVm U.vm) = true := Cond.before_shiftedFace (State.Shifted.of_warmed hW) _ rfl h0
  have h2 : (Cond.isRef (.static O f d)).before a (s.setVm U.vm) = true := Cond.before_shiftedFace (State.Shifted.of_warmed hW) _ rfl h
  obtain ⟨c, k, i, fd, q, cell, hc, hf, hst, hsta, hcell, hiss, hcls, hlt, hty⟩ := Cond.laysStatic_spec h1
  have hf' : U.fieldFound? O f d = some (c, k, i, fd) := hf
  have hcell' : U.heap[q]? = some cell := hH q cell hcell hiss
  have hv : cell.slots[fd.slot]? = some cell.slots[fd.slot] := Array.getElem?_eq_getElem hlt
  have e1 : (Term.static O f d).eval a (s.setVm U.vm) none [] (s.setVm U.vm) = some cell.slots[fd.slot] := by
    simp [Term.eval, State.fieldNamed?, hf, hst, hsta, (show s.heap[q]? = some cell from hcell), hiss, hv]
  have e2 : (Term.static O f d).eval a' U none [] U = some cell.slots[fd.slot] := by
    simp [Term.eval, State.fieldNamed?, hf', hst, hsta, hcell', hiss, hv]
  simp only [Cond.before, Cond.holds, Cond.value, e1] at h2
  simp only [Cond.before, Cond.holds, Cond.value, e2]
  exact h2
theorem TW.at {s U : State} (hW : s.WarmedH U.vm) (hH : ∀ (q : Nat) (c : Cell), s.heap[q]? = some c → c.vm.isStatics = true → U.heap[q]? = some c) (h : TW s) (a' : Array Value) : ∀ w ∈ tw_A, w.before a' U = true := by
  obtain ⟨a, ha⟩ := h
  intro w hw
  have hk := List.all_eq_true.mp tw_all w hw
  rw [Bool.or_eq_true] at hk
  rcases hk with hk | hk
  · unfold tw_k at hk
    rw [Bool.and_eq_true] at hk
    exact va_tabs hk.1 (rfl : (s.setVm U.vm).vm = U.vm) (Cond.before_shiftedFace (State.Shifted.of_warmed hW) w hk.2 (ha w hw))
  · unfold tw_s at hk
    split at hk
    · exact tw_lays hW hH (ha _ hw)
    · exact tw_isref hW hH (ha _ (of_decide_eq_true hk)) (ha _ hw)
    · cases hk
theorem TW.move {s U : State} (hW : s.WarmedH U.vm) (hH : ∀ (q : Nat) (c : Cell), s.heap[q]? = some c → c.vm.isStatics = true → U.heap[q]? = some c) (h : TW s) : TW U := ⟨#[], h.at hW hH #[]⟩
/-- the string that the exception bears -/
def TX (U : State) : Prop := ∃ a : Nat, vk_R "RouteGuide" 95 "a street of speed 0" a U
theorem TX.warm {s U : State} (hW : s.WarmedH U.vm) (h : TX s) : TX U := by
  obtain ⟨a, ha⟩ := h
  exact ⟨a, ha.warm hW⟩
theorem tw_in : tw_A.all (fun w => decide (w ∈ lw_tbl) || decide (w ∈ flatC (Cond.and given_1 narrow_1))) = true := by decide +kernel
theorem TW.of {a : Array Value} {s : State} (hts : ∀ w ∈ lw_tbl, w.before a s = true) (hg : (Cond.and given_1 narrow_1).before a s = true) : TW s := by
  refine ⟨a, fun w hw => ?_⟩
  have hk := List.all_eq_true.mp tw_in w hw
  rw [Bool.or_eq_true, decide_eq_true_eq, decide_eq_true_eq] at hk
  rcases hk with hk | hk
  · exact hts w hk
  · exact flat_of_before _ hg w hk
theorem TX.of {a : Array Value} {s : State} (hts : ∀ w ∈ lw_tbl, w.before a s = true) (hg : (Cond.and given_1 narrow_1).before a s = true) : TX s := by
  have h1 : (Cond.stringRef "RouteGuide" 95 "a street of speed 0").before a s = true := hts _ (by decide +kernel)
  have h2 : (Cond.exactly (.string "RouteGuide" 95) "java/lang/String").before a s = true := flat_of_before _ hg _ (by decide +kernel)
  obtain ⟨q, c, cA, kA, q1, -⟩ := Cond.exactly_spec (args := a) (first := s) (o := none) (s := s) (idx := []) (t := .string "RouteGuide" 95) (cls := "java/lang/String") h2
  exact ⟨q, vk_R.of h1 q1⟩
