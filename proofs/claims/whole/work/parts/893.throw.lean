/-! STREET() THROWS -/
def th_x : String := "java/lang/ArithmeticException"
/-- how street() ends when it throws -/
def th_Q (s : State) (below : List Frame) (A : Nat → Prop) (D : va_G) (ad : Nat → Nat) (ca : Nat → ClassId) (h : am_H) : State → Prop := fun t =>
  t.status = .running ∧ ∃ (x : Addr) (L : List Loc) (ce : Cell), Ended t below (.threw x) ∧ s.WarmedH t.vm ∧ s.sameButNew ({ t with vm := s.vm } : State) L 1 6 ∧ (∀ y ∈ L, A y.base) ∧ (t.heap[x]? = some ce ∧ ce.vm.isStatics = false ∧ s.vm.findClass th_x = some ce.cls) ∧ va_P D vwCl (am_ws ad ca h) t.heap ∧ ∀ q : Nat, q < s.heap.size → ¬ A q → t.heap[q]? = s.heap[q]?
theorem th_d96 : decode (am_by 2) 96 = .ok (.new 93, 3) := by decide +kernel
theorem th_d99 : decode (am_by 2) 99 = .ok (.dup, 1) := by decide +kernel
theorem th_d100 : decode (am_by 2) 100 = .ok (.ldc 95, 2) := by decide +kernel
theorem th_d102 : decode (am_by 2) 102 = .ok (.invokespecial 97, 3) := by decide +kernel
theorem th_d105 : decode (am_by 2) 105 = .ok (.athrow, 1) := by decide +kernel
theorem th_w93 : Cond.classLink "RouteGuide" 93 th_x ∈ am_tbl := by decide +kernel
theorem th_wi : Cond.instantiable th_x 6 ∈ am_tbl := by decide +kernel
theorem th_wn : Cond.initialized th_x ∈ am_tbl := by decide +kernel
set_option maxHeartbeats 1000000 in
theorem th_96 {p : Program} {l : Launch} {e : Env} {R : Room} {s : State} {m : MethodId} {args : Array Value} {below : List Frame} {meth : Method} {c : Code} {D : va_G} {A : Nat → Prop} {ad0 : Nat → Nat} {ca0 : Nat → ClassId} {l0 : Nat × Nat} {x0 : Nat → Int32} {h : am_H}
    (cx : am_Cx p s m args meth c R A 2 ad0 l0 x0) (hlk : meth.locks = false) (hex : c.exceptionTable.isEmpty = true) (htr : l.admits e → e.platform.stackTraces = false) (htw : TW s) (htx : TX s) (hR : 1 ≤ R.cells ∧ 6 ≤ R.slots ∧ 6 ≤ R.frames ∧ 90 ≤ R.locals) (hsh : am_sh h) (h0 : va_P D vwCl (am_ws ad0 ca0 h) s.heap)
    (hAd : ∀ q, A q → (∃ (i : Nat) (w : va_E), (am_ws ad0 ca0 h)[i]? = some (q, w)) ∨ s.heap.size ≤ q) (ls : am_L) : am_Y p l e R s m args below meth c (th_Q s below A D ad0 ca0 h) D A 2 h.1 ad0 ca0 l0 x0 96 ls [] h (0, 0) := by
  intro ad ca la H locs hin T hT X
  obtain ⟨hB, ⟨hCC, hD, hS⟩, hu, hl, hst⟩ := hin
  obtain ⟨hx, hb, hml, hown, hts, -, hA, -, -, -⟩ := cx
  have hown : s.vm.findClass "RouteGuide" = some m.cls := hown
  have hws : am_ws ad ca h = am_ws ad0 ca0 h := th_ws hsh hB.1 hB.2.1
  have htw' := htw.at (State.WarmedH.refl s) (fun _ _ z _ => z) args
  obtain ⟨qs, htx⟩ := htx
  have hst1 : ([] : List Value).map (am_cv ad) = [] := rfl
  obtain ⟨vm₁, cX, kX, hfX, hkX, -, -, X₁, st1⟩ := X.newCold hx (own := "RouteGuide") (C := th_x) (index := 93) (n := 6) hown (hts _ th_w93) (hts _ th_wi) (hts _ th_wn)
    (g := F0 m 96 la []) rfl (by rw [hb]; exact th_d96) (by show 0 + 1 ≤ _; omega) (by show 0 + 6 ≤ _; omega)
  generalize hT1 : (T.setVm vm₁).pushCell { cls := cX, slots := kX.instanceTypes.map defaultValue, vm := .none } = T1 at X₁ st1
  have hcellA : T1.heap[T.heap.size]? = some (freshCell cX kX) := by rw [← hT1]; exact State.heap_pushCell_size (s := T.setVm vm₁) _
  have hTs : s.heap.size ≤ T.heap.size := by rw [hT]; exact hS.1
  have hkeep : ∀ q : Nat, q < T.heap.size → T1.heap[q]? = H[q]? := fun q hq => by
    rw [← hT1, ← hT]
    simp [State.pushCell, Array.getElem?_push, Nat.ne_of_lt hq]
  have hP1 : va_P D vwCl (am_ws ad0 ca0 h) T1.heap := by
    have hc1 := hCC.1
    rw [hws] at hc1
    refine hc1.kept (fun k q hk => hkeep q.1 ?_)
    rw [hT]
    exact (hc1 k q hk).lt
  have Y := th_cut X₁
  obtain ⟨U, hsteps, hrun, hend, hW, hsame, ce, hce, K⟩ := Y.ctorThrowS hx (htr X.admits) (own := "RouteGuide") (cls := th_x) (names := ["java/lang/RuntimeException", "java/lang/Exception"]) (ic := 97) hown (by decide +kernel) (by decide +kernel)
    htw' (fun y hy cell hcell => by
      have hAy := hS.2.2 y (th_f_mem.mp hy).1
      rcases hAd _ hAy with ⟨i, w, hi⟩ | hi
      · have hat := h0 i _ hi
        cases w with
        | inl a =>
          have e1 : s.heap[y.base]? = some (vp_cell a.1 a.2) := hat
          cases hcell.symm.trans e1
          unfold vp_cell
          split <;> rfl
        | inr o =>
          obtain ⟨r, -, c1, b1, -, b3, -⟩ := hat
          cases hcell.symm.trans b1
          rw [b3]; rfl
      · have := (Array.getElem?_eq_some_iff.mp hcell).1
        omega) hfX hkX hcellA hTs (msg := .ref qs) rfl
    (g := F0 m 102 la [.ref qs, .ref T.heap.size, .ref T.heap.size]) rfl (hl.2.1.trans hml.symm) rfl rfl (rest := []) rfl
    (by rw [hb]; exact th_d102) (by rw [hb]; exact th_d105) (covers_of_empty hex _) (by show 2 + 3 < _; omega) (by show 2 * 0 + 1 + 81 ≤ _; omega) hlk
  refine ⟨U, ?_, hrun, T.heap.size, _, ce, hend, hW, hsame, fun y hy => hS.2.2 y (th_f_mem.mp hy).1, ⟨hce, by rw [K.vm]; rfl, K.cls⟩, th_P hsame h0 hP1, fun q hq hAq => ?_⟩
  · refine st1 _ ?_
    show Steps p.tables e below (T1.setTop (F0 m 99 la [.ref T.heap.size])) _
    have s2 := X₁.ldcString hx hown (text := "a street of speed 0") (a := qs) htx.1 htx.2 (g := F0 m 100 la [.ref T.heap.size, .ref T.heap.size]) rfl (by rw [hb]; exact th_d100) _ hsteps
    jvm_step X₁.here [X₁.here.top, hx, hb, th_d99, Value.category]
    exact s2
  · have hq2 : s.heap[q]? = some s.heap[q] := Array.getElem?_eq_getElem hq
    rw [hq2]
    exact th_same hsame hq2 (fun i hi => hAq (hS.2.2 _ (th_f_mem.mp hi).1))
