/-! THE HEAP BEHIND A THROW -/
theorem th_ws {ad ad' : Nat → Nat} {ca ca' : Nat → ClassId} {h : am_H} (hh : am_sh h) (e1 : ∀ k, k < h.1 ∨ k = 1000 → ad' k = ad k) (e2 : ∀ k, k < h.1 → ca' k = ca k) : am_ws ad' ca' h = am_ws ad ca h := by
  unfold am_ws
  apply List.map_congr_left
  intro k hk
  have hk := List.mem_range.mp hk
  have e3 : am_ce ad' ca' h k = am_ce ad ca h k := by
    unfold am_ce
    split
    · rw [e2 k hk]
    · rw [e2 k hk]
    · rw [e2 k hk]
    · congr 2
      apply List.map_congr_left
      intro j _
      exact am_cv_ext e1 (am_sv_fv hh hk)
  rw [e1 k (Or.inl hk), e3]
def th_df (s T : State) (y : Loc) : Prop := ¬ ∃ c c' : Cell, s.heap[y.base]? = some c ∧ T.heap[y.base]? = some c' ∧ c'.slots[y.slot]? = c.slots[y.slot]?
noncomputable def th_f (s T : State) (locs : List Loc) : List Loc := locs.filter (fun y => @decide (th_df s T y) (Classical.propDecidable _))
theorem th_f_mem {s T : State} {locs : List Loc} {y : Loc} : y ∈ th_f s T locs ↔ y ∈ locs ∧ th_df s T y := by simp [th_f, List.mem_filter]
theorem th_cut {p : Program} {l : Launch} {e : Env} {R : Room} {s : State} {m : MethodId} {args : Array Value} {below : List Frame} {meth : Method} {c : Code} {T : State} {locs : List Loc} {cells slots : Nat} (X : Stand p l e R s m args below meth c T locs cells slots) : Stand p l e R s m args below meth c T (th_f s T locs) cells slots := by
  have hsame : s.sameButNew (T.setVm s.vm) (th_f s T locs) cells slots := by
    obtain ⟨e1, e2, e3, e4, e5, e6⟩ := X.same
    refine ⟨e1, e2, e3, e4, e5, fun a c hc => ?_⟩
    obtain ⟨c', hc', e7, e8, e9⟩ := e6 a c hc
    refine ⟨c', hc', e7, e8, fun i hi => ?_⟩
    by_cases hm : (⟨a, i⟩ : Loc) ∈ locs
    · have hn : ¬ th_df s T ⟨a, i⟩ := fun z => hi (th_f_mem.mpr ⟨hm, z⟩)
      obtain ⟨d, d', h1, h2, h3⟩ := Classical.not_not.mp hn
      cases h1.symm.trans hc
      cases (show T.heap[a]? = some d' from h2).symm.trans hc'
      exact h3
    · exact e9 i hm
  exact { X with same := hsame }
theorem th_same {s T U : State} {locs : List Loc} {k n : Nat} (hs : s.sameButNew ({ U with vm := s.vm } : State) (th_f s T locs) k n) {q : Nat} {c : Cell} (hc : s.heap[q]? = some c) (ho : ∀ i, (⟨q, i⟩ : Loc) ∉ th_f s T locs) : U.heap[q]? = some c := by
  obtain ⟨c', hc', e7, e8, e9⟩ := hs.2.2.2.2.2 q c hc
  have : c'.slots = c.slots := Array.ext_getElem? fun i => e9 i (ho i)
  rw [this] at e7
  have hc2 : U.heap[q]? = some c' := hc'
  rw [hc2, e7]
theorem th_P {D : va_G} {cl : List vw_C} {ws : va_W} {s T U : State} {locs : List Loc} {k n : Nat} (hs : s.sameButNew ({ U with vm := s.vm } : State) (th_f s T locs) k n) (h1 : va_P D cl ws s.heap) (h2 : va_P D cl ws T.heap) : va_P D cl ws U.heap := by
  intro j q hq
  have a1 := h1 j q hq
  have a2 := h2 j q hq
  unfold va_at at a1 a2 ⊢
  split at a1
  · rename_i a ea
    simp only [ea] at a2 ⊢
    exact th_same hs a1 (fun i hi => (th_f_mem.mp hi).2 ⟨_, _, a1, a2, rfl⟩)
  · rename_i o eo
    simp only [eo] at a2 ⊢
    obtain ⟨r, hr, cs, b1, b2, b3, b4⟩ := a1
    obtain ⟨r', hr', ct, d1, d2, d3, d4⟩ := a2
    cases hr.symm.trans hr'
    obtain ⟨c', hc', e7, e8, e9⟩ := hs.2.2.2.2.2 _ _ b1
    refine ⟨r, hr, c', hc', ?_, ?_, fun i hi => ?_⟩
    · rw [e7]; exact b2
    · rw [e7]; exact b3
    · rw [e9 _ (fun hm => (th_f_mem.mp hm).2 ⟨_, _, b1, d1, (d4 i hi).trans (b4 i hi).symm⟩)]
      exact b4 i hi
