/-! ONE INSTRUCTION -/
theorem am_fs_set {ad : Nat → Nat} {h h' : am_H} {c a k : Nat} {v : Value} (h1 : am_fv h' c k a = v) (h2 : ∀ j, j ≠ k → am_fv h' c j a = am_fv h c j a) :
    ((List.range (am_nf c)).map fun j => am_cv ad (am_fv h c j a)).set k (am_cv ad v) = (List.range (am_nf c)).map fun j => am_cv ad (am_fv h' c j a) := by
  apply List.ext_getElem?
  intro i
  rw [List.getElem?_set]
  by_cases hi : k = i
  · subst hi
    by_cases hl : k < am_nf c
    · simp [hl, h1]
    · simp [hl]
  · rw [if_neg hi]
    by_cases hl : i < am_nf c
    · simp [hl, h2 i (fun q => hi q.symm)]
    · simp [hl]
theorem am_ce_pi {ad : Nat → Nat} {ca : Nat → ClassId} {h : am_H} {a i k : Nat} {x : Int32} (hk : k ≠ a) : am_ce ad ca (am_pi h a i x) k = am_ce ad ca h k := by
  simp only [am_ce, am_fv, am_pi, am_up_ne hk]
theorem am_ce_pl {ad : Nat → Nat} {ca : Nat → ClassId} {h : am_H} {a i k : Nat} {x : Int64} (hk : k ≠ a) : am_ce ad ca (am_pl h a i x) k = am_ce ad ca h k := by
  simp only [am_ce, am_fv, am_pl, am_up_ne hk]
theorem am_ce_pr {ad : Nat → Nat} {ca : Nat → ClassId} {h : am_H} {a i k : Nat} {x : Nat} (hk : k ≠ a) : am_ce ad ca (am_pr h a i x) k = am_ce ad ca h k := by
  simp only [am_ce, am_fv, am_pr, am_up_ne hk]
def am_cc (D : va_G) (s : State) (ad : Nat → Nat) (ca : Nat → ClassId) (h : am_H) (H : Heap) : Prop :=
  va_P D vwCl (am_ws ad ca h) H ∧ va_K D vwCl [] s ∧ ∀ k, k < h.1 → (h.2.1 k).1 < 3 → ArrOfT s (ca k) (am_at (h.2.1 k).1) ∧ va_RA s (ca k) (am_at (h.2.1 k).1)
theorem am_cc.moved {D : va_G} {u U : State} {ad : Nat → Nat} {ca : Nat → ClassId} {h : am_H} {H : Heap} (hvm : u.vm.Alike U.vm) (e : am_cc D u ad ca h H) : am_cc D U ad ca h H :=
  ⟨e.1, e.2.1.moved hvm, fun k h1 h2 => ⟨arrOfT_moved hvm (e.2.2 k h1 h2).1, (e.2.2 k h1 h2).2.moved hvm⟩⟩
theorem am_cc.arr {D : va_G} {s : State} {ad : Nat → Nat} {ca : Nat → ClassId} {h : am_H} {H : Heap} (e : am_cc D s ad ca h H) {a t : Nat} (ha : am_ty h a = some t) (ht : t < 3) : va_K D vwCl [(ca a, am_at t)] s := by
  obtain ⟨h1, h2⟩ := am_ty_some ha
  refine ⟨e.2.1.1, fun k q hq => ?_⟩
  have hk : k = 0 := by
    have := (List.getElem?_eq_some_iff.mp hq).1
    simp at this; omega
  subst hk
  cases hq
  have := e.2.2 a h1 (by rw [h2]; exact ht)
  rw [h2] at this
  exact this
def am_In (s : State) (D : va_G) (A : Nat → Prop) (j n0 : Nat) (ad0 : Nat → Nat) (ca0 : Nat → ClassId) (l0 : Nat × Nat) (x0 : Nat → Int32) (ad : Nat → Nat) (ca : Nat → ClassId) (la : Array Slot) (H : Heap) (locs : List Loc) (ls : am_L) (st : List Value) (h : am_H) (u : am_U) : Prop :=
  ((∀ k, k < n0 ∨ k = 1000 → ad k = ad0 k) ∧ (∀ k, k < n0 → ca k = ca0 k) ∧ n0 ≤ h.1 ∧ h.1 ≤ 1000 ∧ h.2.1 1000 = l0 ∧ h.2.2.1 1000 = x0 ∧ am_sh h) ∧ (am_cc D s ad ca h H ∧ va_D A (am_ws ad ca h) ∧ va_S A s.heap H locs) ∧ (u.1 ≤ am_mc j ∧ u.2 ≤ am_ms j) ∧ (am_sl h.1 ls ∧ am_lo ad (am_mL j) la ls) ∧ am_ss h.1 st
def am_Y (p : Program) (l : Launch) (e : Env) (R : Room) (s : State) (m : MethodId) (args : Array Value) (below : List Frame) (meth : Method) (c : Code) (Qw : State → Prop) (D : va_G) (A : Nat → Prop) (j n0 : Nat) (ad0 : Nat → Nat) (ca0 : Nat → ClassId) (l0 : Nat × Nat) (x0 : Nat → Int32) : am_X := fun pc ls st h u =>
  ∀ (ad : Nat → Nat) (ca : Nat → ClassId) (la : Array Slot) (H : Heap) (locs : List Loc), am_In s D A j n0 ad0 ca0 l0 x0 ad ca la H locs ls st h u → W p l e R s m args below meth c H locs u.1 u.2 Qw (F0 m pc la (st.map (am_cv ad)))
/-- the links across the nest -/
def am_NS (U : State) : Prop := ∀ q ∈ am_nst, va_Nw (.methodLinkNest q.1 q.2.1 q.2.2.1 q.2.2.2) U
theorem am_NS.warm {s U : State} (hW : s.WarmedH U.vm) (h : am_NS s) : am_NS U := fun q hq => (h q hq).warmM hW
theorem am_NS.same {s U : State} (hv : s.vm = U.vm) (h : am_NS s) : am_NS U := fun q hq => (h q hq).same rfl hv
/-- what holds of the method's frame -/
def am_Cx (p : Program) (s : State) (m : MethodId) (args : Array Value) (meth : Method) (c : Code) (R : Room) (A : Nat → Prop) (j : Nat) (ad0 : Nat → Nat) (l0 : Nat × Nat) (x0 : Nat → Int32) : Prop :=
  p.tables.exec = Jvm.exec ∧ c.code = am_by j ∧ c.maxLocals = am_mL j ∧ s.vm.findClass (am_y j).cls = some m.cls ∧ (∀ w ∈ am_tbl, w.before args s = true) ∧ (am_in j = true → meth.name = "<init>") ∧ (∀ q, s.heap.size ≤ q → A q) ∧ (am_mc j ≤ R.cells ∧ am_ms j ≤ R.slots ∧ am_fr j ≤ R.frames ∧ am_lr j ≤ R.locals) ∧ (j = am_law → va_X (ad0 1000) l0.2 x0 s s.heap ∧ ad0 1000 < s.heap.size ∧ ¬ A (ad0 1000)) ∧ am_NS s
theorem am_N_e {ls : am_L} {st : List Value} {h : am_H} {u : am_U} {c : Prop} {S : am_S} (e : am_N ls st h u = some (c, .inl S)) : S = (ls, st, h, u) := by
  simp only [am_N, Option.some.injEq, Prod.mk.injEq, Sum.inl.injEq] at e; exact e.2.symm
theorem am_Nc_e {q : Prop} {ls : am_L} {st : List Value} {h : am_H} {u : am_U} {c : Prop} {S : am_S} (e : am_Nc q ls st h u = some (c, .inl S)) : c = q ∧ S = (ls, st, h, u) := by
  simp only [am_Nc, Option.some.injEq, Prod.mk.injEq, Sum.inl.injEq] at e; exact ⟨e.1.symm, e.2.symm⟩
theorem am_J_e {pc : Nat} {ls : am_L} {st : List Value} {h : am_H} {u : am_U} {c : Prop} {S : Nat × am_S} (e : am_J pc ls st h u = some (c, .inr (.inl S))) : S = (pc, ls, st, h, u) := by
  simp only [am_J, Option.some.injEq, Prod.mk.injEq, Sum.inr.injEq, Sum.inl.injEq] at e; exact e.2.symm
theorem am_o1_i {st : List Value} {f : Int32 → List Value → Option (Prop × am_O)} {z : Prop × am_O} (e : am_o1 st f = some z) : ∃ x r, st = .int x :: r ∧ f x r = some z := by
  unfold am_o1 at e; split at e
  · exact ⟨_, _, rfl, e⟩
  · cases e
theorem am_o2_i {st : List Value} {f : Int32 → Int32 → List Value → Option (Prop × am_O)} {z : Prop × am_O} (e : am_o2 st f = some z) : ∃ x y r, st = .int y :: .int x :: r ∧ f x y r = some z := by
  unfold am_o2 at e; split at e
  · exact ⟨_, _, _, rfl, e⟩
  · cases e
theorem am_l1_i {st : List Value} {f : Int64 → List Value → Option (Prop × am_O)} {z : Prop × am_O} (e : am_l1 st f = some z) : ∃ x r, st = .long x :: r ∧ f x r = some z := by
  unfold am_l1 at e; split at e
  · exact ⟨_, _, rfl, e⟩
  · cases e
theorem am_l2_i {st : List Value} {f : Int64 → Int64 → List Value → Option (Prop × am_O)} {z : Prop × am_O} (e : am_l2 st f = some z) : ∃ x y r, st = .long y :: .long x :: r ∧ f x y r = some z := by
  unfold am_l2 at e; split at e
  · exact ⟨_, _, _, rfl, e⟩
  · cases e
theorem am_li_i {st : List Value} {f : Int64 → Int32 → List Value → Option (Prop × am_O)} {z : Prop × am_O} (e : am_li st f = some z) : ∃ x y r, st = .int y :: .long x :: r ∧ f x y r = some z := by
  unfold am_li at e; split at e
  · exact ⟨_, _, _, rfl, e⟩
  · cases e
theorem am_a1_i {st : List Value} {f : Nat → List Value → Option (Prop × am_O)} {z : Prop × am_O} (e : am_a1 st f = some z) : ∃ x r, st = .ref x :: r ∧ f x r = some z := by
  unfold am_a1 at e; split at e
  · exact ⟨_, _, rfl, e⟩
  · cases e
theorem am_ai_i {st : List Value} {f : Nat → Int32 → List Value → Option (Prop × am_O)} {z : Prop × am_O} (e : am_ai st f = some z) : ∃ a i r, st = .int i :: .ref a :: r ∧ f a i r = some z := by
  unfold am_ai at e; split at e
  · exact ⟨_, _, _, rfl, e⟩
  · cases e
theorem am_aii_i {st : List Value} {f : Nat → Int32 → Int32 → List Value → Option (Prop × am_O)} {z : Prop × am_O} (e : am_aii st f = some z) : ∃ a i x r, st = .int x :: .int i :: .ref a :: r ∧ f a i x r = some z := by
  unfold am_aii at e; split at e
  · exact ⟨_, _, _, _, rfl, e⟩
  · cases e
theorem am_ail_i {st : List Value} {f : Nat → Int32 → Int64 → List Value → Option (Prop × am_O)} {z : Prop × am_O} (e : am_ail st f = some z) : ∃ a i x r, st = .long x :: .int i :: .ref a :: r ∧ f a i x r = some z := by
  unfold am_ail at e; split at e
  · exact ⟨_, _, _, _, rfl, e⟩
  · cases e
theorem am_av_i {st : List Value} {f : Nat → Value → List Value → Option (Prop × am_O)} {z : Prop × am_O} (e : am_av st f = some z) : ∃ a v r, st = v :: .ref a :: r ∧ f a v r = some z := by
  unfold am_av at e; split at e
  · exact ⟨_, _, _, rfl, e⟩
  · cases e
theorem am_vi_i {w : Option Value} {f : Int32 → Option (Prop × am_O)} {z : Prop × am_O} (e : am_vi w f = some z) : ∃ x, w = some (.int x) ∧ f x = some z := by
  unfold am_vi at e; split at e
  · exact ⟨_, rfl, e⟩
  · cases e
theorem am_vl_i {w : Option Value} {f : Int64 → Option (Prop × am_O)} {z : Prop × am_O} (e : am_vl w f = some z) : ∃ x, w = some (.long x) ∧ f x = some z := by
  unfold am_vl at e; split at e
  · exact ⟨_, rfl, e⟩
  · cases e
theorem am_va_i {w : Option Value} {f : Nat → Option (Prop × am_O)} {z : Prop × am_O} (e : am_va w f = some z) : ∃ x, w = some (.ref x) ∧ f x = some z := by
  unfold am_va at e; split at e
  · exact ⟨_, rfl, e⟩
  · cases e
section AST
variable {p : Program} {l : Launch} {e : Env} {R : Room} {s : State} {m : MethodId} {args : Array Value} {below : List Frame} {meth : Method} {c : Code} {Qw : State → Prop} {D : va_G} {A : Nat → Prop} {j n0 : Nat} {ad0 : Nat → Nat} {ca0 : Nat → ClassId} {l0 : Nat × Nat} {x0 : Nat → Int32}
/-- numbers, locals, the stack -/
theorem am_stA (cx : am_Cx p s m args meth c R A j ad0 l0 x0) {i : Jvm.ClassFile.Instr} {pc : Nat} {ls : am_L} {st : List Value} {h : am_H} {u : am_U} {q : Prop} {S : am_S} (hd : decode (am_by j) pc = .ok (i, am_lp i pc)) (hok : am_okA j i = true) (hs : am_sem j i pc ls st h u = some (q, .inl S)) (hc : q) (ho : am_Y p l e R s m args below meth c Qw D A j n0 ad0 ca0 l0 x0 (pc + am_len i) S.1 S.2.1 S.2.2.1 S.2.2.2) : am_Y p l e R s m args below meth c Qw D A j n0 ad0 ca0 l0 x0 pc ls st h u := by
  obtain ⟨hx, hb, hml, hown, hts, hini, hA, ⟨hRc, hRs, hRf, hRl⟩, hscr⟩ := cx
  intro ad ca la H locs hin
  obtain ⟨hB, hW, hu, hl, hst⟩ := hin
  cases i
  case iconst n =>
    obtain rfl := am_N_e hs
    exact lv_iconst hx hb hd rfl (ho ad ca la H locs ⟨hB, hW, hu, hl, hst.k trivial⟩)
  case bipush n =>
    obtain rfl := am_N_e hs
    exact lv_bipush hx hb hd rfl (ho ad ca la H locs ⟨hB, hW, hu, hl, hst.k trivial⟩)
  case sipush n =>
    obtain rfl := am_N_e hs
    exact lv_sipush hx hb hd rfl (ho ad ca la H locs ⟨hB, hW, hu, hl, hst.k trivial⟩)
  case lconst n =>
    obtain rfl := am_N_e hs
    exact lv_lconst hx hb hd rfl (ho ad ca la H locs ⟨hB, hW, hu, hl, hst.k trivial⟩)
  case iload k =>
    obtain ⟨x, hv, hs⟩ := am_vi_i hs
    obtain rfl := am_N_e hs
    exact lv_iload hx hb hd (am_lo_at hl.2 hv) (ho ad ca la H locs ⟨hB, hW, hu, hl, hst.k trivial⟩)
  case iload_n k =>
    obtain ⟨x, hv, hs⟩ := am_vi_i hs
    obtain rfl := am_N_e hs
    exact lv_iload_n hx hb hd rfl (am_lo_at hl.2 hv) (ho ad ca la H locs ⟨hB, hW, hu, hl, hst.k trivial⟩)
  case lload k =>
    obtain ⟨x, hv, hs⟩ := am_vl_i hs
    obtain rfl := am_N_e hs
    exact lv_lload hx hb hd (am_lo_at hl.2 hv) (ho ad ca la H locs ⟨hB, hW, hu, hl, hst.k trivial⟩)
  case lload_n k =>
    obtain ⟨x, hv, hs⟩ := am_vl_i hs
    obtain rfl := am_N_e hs
    exact lv_lload_n hx hb hd rfl (am_lo_at hl.2 hv) (ho ad ca la H locs ⟨hB, hW, hu, hl, hst.k trivial⟩)
  case aload k =>
    obtain ⟨x, hv, hs⟩ := am_va_i hs
    obtain rfl := am_N_e hs
    exact lv_aload hx hb hd (am_lo_at hl.2 hv) (ho ad ca la H locs ⟨hB, hW, hu, hl, hst.k (hl.1 _ _ hv)⟩)
  case aload_n k =>
    obtain ⟨x, hv, hs⟩ := am_va_i hs
    obtain rfl := am_N_e hs
    exact lv_aload_n hx hb hd rfl (am_lo_at hl.2 hv) (ho ad ca la H locs ⟨hB, hW, hu, hl, hst.k (hl.1 _ _ hv)⟩)
  case istore k =>
    obtain ⟨x, r, rfl, hs⟩ := am_o1_i hs
    obtain rfl := am_N_e hs
    exact lv_istore hx hb hd hl.2 (of_decide_eq_true hok) rfl (fun la hl' => ho ad ca la H locs ⟨hB, hW, hu, ⟨am_sl_s1 hl.1 trivial, am_lo_s1 hl'⟩, hst.t⟩)
  case istore_n k =>
    obtain ⟨x, r, rfl, hs⟩ := am_o1_i hs
    obtain rfl := am_N_e hs
    exact lv_istore_n hx hb hd rfl hl.2 (of_decide_eq_true hok) rfl (fun la hl' => ho ad ca la H locs ⟨hB, hW, hu, ⟨am_sl_s1 hl.1 trivial, am_lo_s1 hl'⟩, hst.t⟩)
  case lstore k =>
    obtain ⟨x, r, rfl, hs⟩ := am_l1_i hs
    obtain rfl := am_N_e hs
    exact lv_lstore hx hb hd hl.2 (of_decide_eq_true hok) rfl (fun la hl' => ho ad ca la H locs ⟨hB, hW, hu, ⟨am_sl_s2 hl.1 trivial, am_lo_s2 hl'⟩, hst.t⟩)
  case lstore_n k =>
    obtain ⟨x, r, rfl, hs⟩ := am_l1_i hs
    obtain rfl := am_N_e hs
    exact lv_lstore_n hx hb hd rfl hl.2 (of_decide_eq_true hok) rfl (fun la hl' => ho ad ca la H locs ⟨hB, hW, hu, ⟨am_sl_s2 hl.1 trivial, am_lo_s2 hl'⟩, hst.t⟩)
  case astore k =>
    obtain ⟨x, r, rfl, hs⟩ := am_a1_i hs
    obtain rfl := am_N_e hs
    exact lv_astore hx hb hd hl.2 (of_decide_eq_true hok) rfl (fun la hl' => ho ad ca la H locs ⟨hB, hW, hu, ⟨am_sl_s1 hl.1 hst.h, am_lo_s1 hl'⟩, hst.t⟩)
  case astore_n k =>
    obtain ⟨x, r, rfl, hs⟩ := am_a1_i hs
    obtain rfl := am_N_e hs
    exact lv_astore_n hx hb hd rfl hl.2 (of_decide_eq_true hok) rfl (fun la hl' => ho ad ca la H locs ⟨hB, hW, hu, ⟨am_sl_s1 hl.1 hst.h, am_lo_s1 hl'⟩, hst.t⟩)
  case iinc k n =>
    obtain ⟨x, hv, hs⟩ := am_vi_i hs
    obtain rfl := am_N_e hs
    obtain ⟨z, hz⟩ := List.getElem?_of_mem (am_ll_mem (ad := ad) (l := ls) (q := (k, .int x)) |>.mpr ⟨_, hv, rfl⟩)
    exact lv_iinc hx hb hd hl.2 hz rfl (of_decide_eq_true hok) rfl (fun la hl' => ho ad ca la H locs ⟨hB, hW, hu, ⟨am_sl_s1 hl.1 trivial, am_lo_s1 (v := .int (x + Int32.ofInt n)) hl'⟩, hst⟩)
  case iadd =>
    obtain ⟨x, y, r, rfl, hs⟩ := am_o2_i hs
    obtain rfl := am_N_e hs
    exact lv_iadd hx hb hd (ho ad ca la H locs ⟨hB, hW, hu, hl, hst.t.t.k trivial⟩)
  case isub =>
    obtain ⟨x, y, r, rfl, hs⟩ := am_o2_i hs
    obtain rfl := am_N_e hs
    exact lv_isub hx hb hd (ho ad ca la H locs ⟨hB, hW, hu, hl, hst.t.t.k trivial⟩)
  case imul =>
    obtain ⟨x, y, r, rfl, hs⟩ := am_o2_i hs
    obtain rfl := am_N_e hs
    exact lv_imul hx hb hd (ho ad ca la H locs ⟨hB, hW, hu, hl, hst.t.t.k trivial⟩)
  case iand =>
    obtain ⟨x, y, r, rfl, hs⟩ := am_o2_i hs
    obtain rfl := am_N_e hs
    exact lv_iand hx hb hd (ho ad ca la H locs ⟨hB, hW, hu, hl, hst.t.t.k trivial⟩)
  case ior =>
    obtain ⟨x, y, r, rfl, hs⟩ := am_o2_i hs
    obtain rfl := am_N_e hs
    exact lv_ior hx hb hd (ho ad ca la H locs ⟨hB, hW, hu, hl, hst.t.t.k trivial⟩)
  case ishl =>
    obtain ⟨x, y, r, rfl, hs⟩ := am_o2_i hs
    obtain rfl := am_N_e hs
    exact lv_ishl hx hb hd (ho ad ca la H locs ⟨hB, hW, hu, hl, hst.t.t.k trivial⟩)
  case ishr =>
    obtain ⟨x, y, r, rfl, hs⟩ := am_o2_i hs
    obtain rfl := am_N_e hs
    exact lv_ishr hx hb hd (ho ad ca la H locs ⟨hB, hW, hu, hl, hst.t.t.k trivial⟩)
  case ladd =>
    obtain ⟨x, y, r, rfl, hs⟩ := am_l2_i hs
    obtain rfl := am_N_e hs
    exact lv_ladd hx hb hd (ho ad ca la H locs ⟨hB, hW, hu, hl, hst.t.t.k trivial⟩)
  case lsub =>
    obtain ⟨x, y, r, rfl, hs⟩ := am_l2_i hs
    obtain rfl := am_N_e hs
    exact lv_lsub hx hb hd (ho ad ca la H locs ⟨hB, hW, hu, hl, hst.t.t.k trivial⟩)
  case lmul =>
    obtain ⟨x, y, r, rfl, hs⟩ := am_l2_i hs
    obtain rfl := am_N_e hs
    exact lv_lmul hx hb hd (ho ad ca la H locs ⟨hB, hW, hu, hl, hst.t.t.k trivial⟩)
  case land =>
    obtain ⟨x, y, r, rfl, hs⟩ := am_l2_i hs
    obtain rfl := am_N_e hs
    exact lv_land hx hb hd (ho ad ca la H locs ⟨hB, hW, hu, hl, hst.t.t.k trivial⟩)
  case lor =>
    obtain ⟨x, y, r, rfl, hs⟩ := am_l2_i hs
    obtain rfl := am_N_e hs
    exact lv_lor hx hb hd (ho ad ca la H locs ⟨hB, hW, hu, hl, hst.t.t.k trivial⟩)
  case lxor =>
    obtain ⟨x, y, r, rfl, hs⟩ := am_l2_i hs
    obtain rfl := am_N_e hs
    exact lv_lxor hx hb hd (ho ad ca la H locs ⟨hB, hW, hu, hl, hst.t.t.k trivial⟩)
  case idiv =>
    obtain ⟨x, y, r, rfl, hs⟩ := am_o2_i hs
    obtain ⟨rfl, rfl⟩ := am_Nc_e hs
    exact lv_idiv hx hb hd hc (ho ad ca la H locs ⟨hB, hW, hu, hl, hst.t.t.k trivial⟩)
  case irem =>
    obtain ⟨x, y, r, rfl, hs⟩ := am_o2_i hs
    obtain ⟨rfl, rfl⟩ := am_Nc_e hs
    exact lv_irem hx hb hd hc (ho ad ca la H locs ⟨hB, hW, hu, hl, hst.t.t.k trivial⟩)
  case ldiv =>
    obtain ⟨x, y, r, rfl, hs⟩ := am_l2_i hs
    obtain ⟨rfl, rfl⟩ := am_Nc_e hs
    exact lv_ldiv hx hb hd hc (ho ad ca la H locs ⟨hB, hW, hu, hl, hst.t.t.k trivial⟩)
  case ineg =>
    obtain ⟨x, r, rfl, hs⟩ := am_o1_i hs
    obtain rfl := am_N_e hs
    exact lv_ineg hx hb hd (ho ad ca la H locs ⟨hB, hW, hu, hl, hst.t.k trivial⟩)
  case lneg =>
    obtain ⟨x, r, rfl, hs⟩ := am_l1_i hs
    obtain rfl := am_N_e hs
    exact lv_lneg hx hb hd (ho ad ca la H locs ⟨hB, hW, hu, hl, hst.t.k trivial⟩)
  case i2l =>
    obtain ⟨x, r, rfl, hs⟩ := am_o1_i hs
    obtain rfl := am_N_e hs
    exact lv_i2l hx hb hd rfl (ho ad ca la H locs ⟨hB, hW, hu, hl, hst.t.k trivial⟩)
  case l2i =>
    obtain ⟨x, r, rfl, hs⟩ := am_l1_i hs
    obtain rfl := am_N_e hs
    exact lv_l2i hx hb hd rfl (ho ad ca la H locs ⟨hB, hW, hu, hl, hst.t.k trivial⟩)
  case lushr =>
    obtain ⟨x, y, r, rfl, hs⟩ := am_li_i hs
    obtain rfl := am_N_e hs
    exact lv_lushr hx hb hd rfl (ho ad ca la H locs ⟨hB, hW, hu, hl, hst.t.t.k trivial⟩)
  case lshl =>
    obtain ⟨x, y, r, rfl, hs⟩ := am_li_i hs
    obtain rfl := am_N_e hs
    exact lv_lshl hx hb hd rfl (ho ad ca la H locs ⟨hB, hW, hu, hl, hst.t.t.k trivial⟩)
  case lcmp =>
    obtain ⟨x, y, r, rfl, hs⟩ := am_l2_i hs
    obtain rfl := am_N_e hs
    exact W.lcmp hx hb hd (ho ad ca la H locs ⟨hB, hW, hu, hl, hst.t.t.k trivial⟩)
  case dup =>
    match st, hs, hst with
    | v :: r, hs, hst =>
      obtain ⟨rfl, rfl⟩ := am_Nc_e hs
      exact lv_dup hx hb hd ((am_cv_cat ad v).trans hc) (ho ad ca la H locs ⟨hB, hW, hu, hl, hst.k hst.h⟩)
  case dup2 =>
    match st, hs, hst with
    | v :: w :: r, hs, hst =>
      obtain ⟨rfl, rfl⟩ := am_Nc_e hs
      exact lv_dup2_11 hx hb hd ((am_cv_cat ad v).trans hc.1) ((am_cv_cat ad w).trans hc.2) (ho ad ca la H locs ⟨hB, hW, hu, hl, (hst.k hst.t.h).k hst.h⟩)
  all_goals exact (Bool.false_ne_true hok).elim
theorem am_tg_ok {pc : Nat} {off : Int} (h : 0 ≤ (pc : Int) + off) : (pc : Int) + off = (am_tg pc off : Int) := (Int.toNat_of_nonneg h).symm
theorem am_lk_ok {pc : Nat} {d x : Int} (hd : 0 ≤ (pc : Int) + d) : ∀ (ps : List (Int × Int)), ps.all (fun z => decide (0 ≤ (pc : Int) + z.2)) = true → 0 ≤ (pc : Int) + Op.lookupswitch.offset ps d x
  | [], _ => hd
  | (a, o) :: r, h => by
    rw [List.all_cons, Bool.and_eq_true] at h
    rw [Op.lookupswitch.offset_cons]
    split
    · exact of_decide_eq_true h.1
    · exact am_lk_ok hd r h.2
/-- jumps -/
theorem am_stJ (cx : am_Cx p s m args meth c R A j ad0 l0 x0) {i : Jvm.ClassFile.Instr} {pc : Nat} {ls : am_L} {st : List Value} {h : am_H} {u : am_U} {q : Prop} {S : Nat × am_S} (hd : decode (am_by j) pc = .ok (i, am_lp i pc)) (hok : am_okJ pc i = true) (hs : am_sem j i pc ls st h u = some (q, .inr (.inl S))) (ho : am_Y p l e R s m args below meth c Qw D A j n0 ad0 ca0 l0 x0 S.1 S.2.1 S.2.2.1 S.2.2.2.1 S.2.2.2.2) : am_Y p l e R s m args below meth c Qw D A j n0 ad0 ca0 l0 x0 pc ls st h u := by
  obtain ⟨hx, hb, hml, hown, hts, hini, hA, ⟨hRc, hRs, hRf, hRl⟩, hscr⟩ := cx
  intro ad ca la H locs hin
  obtain ⟨hB, hW, hu, hl, hst⟩ := hin
  cases i
  case goto off =>
    obtain rfl := am_J_e hs
    exact lv_goto hx hb hd (am_tg_ok (of_decide_eq_true hok)) (ho ad ca la H locs ⟨hB, hW, hu, hl, hst⟩)
  case ifCond cd off =>
    obtain ⟨x, r, rfl, hs⟩ := am_o1_i hs
    obtain rfl := am_J_e hs
    have ho : am_Y p l e R s m args below meth c Qw D A j n0 ad0 ca0 l0 x0 (if am_c1 cd x = true then am_tg pc off else pc + 3) ls r h u := ho
    have ht := am_tg_ok (pc := pc) (off := off) (of_decide_eq_true hok)
    have hp : am_c1 cd x = true → W p l e R s m args below meth c H locs u.1 u.2 Qw (F0 m (am_tg pc off) la (r.map (am_cv ad))) := fun hz => by
      rw [if_pos hz] at ho; exact ho ad ca la H locs ⟨hB, hW, hu, hl, hst.t⟩
    have hn : ¬ am_c1 cd x = true → W p l e R s m args below meth c H locs u.1 u.2 Qw (F0 m (pc + 3) la (r.map (am_cv ad))) := fun hz => by
      rw [if_neg hz] at ho; exact ho ad ca la H locs ⟨hB, hW, hu, hl, hst.t⟩
    cases cd
    · exact lv_if_eq hx hb hd ht (fun z => hp (decide_eq_true z)) (fun z => hn (fun w => z (of_decide_eq_true w)))
    · exact lv_if_ne hx hb hd ht (fun z => hp (decide_eq_true z)) (fun z => hn (fun w => of_decide_eq_true w z))
    · exact lv_if_lt hx hb hd ht (fun z => hp (decide_eq_true z)) (fun z => hn (fun w => z (of_decide_eq_true w)))
    · exact lv_if_ge hx hb hd ht (fun z => hp (decide_eq_true z)) (fun z => hn (fun w => z (of_decide_eq_true w)))
    · exact lv_if_gt hx hb hd ht (fun z => hp (decide_eq_true z)) (fun z => hn (fun w => z (of_decide_eq_true w)))
    · exact lv_if_le hx hb hd ht (fun z => hp (decide_eq_true z)) (fun z => hn (fun w => z (of_decide_eq_true w)))
  case if_icmp cd off =>
    obtain ⟨x, y, r, rfl, hs⟩ := am_o2_i hs
    obtain rfl := am_J_e hs
    have ho : am_Y p l e R s m args below meth c Qw D A j n0 ad0 ca0 l0 x0 (if am_c2 cd x y = true then am_tg pc off else pc + 3) ls r h u := ho
    have ht := am_tg_ok (pc := pc) (off := off) (of_decide_eq_true hok)
    have hp : am_c2 cd x y = true → W p l e R s m args below meth c H locs u.1 u.2 Qw (F0 m (am_tg pc off) la (r.map (am_cv ad))) := fun hz => by
      rw [if_pos hz] at ho; exact ho ad ca la H locs ⟨hB, hW, hu, hl, hst.t.t⟩
    have hn : ¬ am_c2 cd x y = true → W p l e R s m args below meth c H locs u.1 u.2 Qw (F0 m (pc + 3) la (r.map (am_cv ad))) := fun hz => by
      rw [if_neg hz] at ho; exact ho ad ca la H locs ⟨hB, hW, hu, hl, hst.t.t⟩
    cases cd
    · exact lv_icmp_eq hx hb hd ht (fun z => hp (decide_eq_true z)) (fun z => hn (fun w => z (of_decide_eq_true w)))
    · exact lv_icmp_ne hx hb hd ht (fun z => hp (decide_eq_true z)) (fun z => hn (fun w => of_decide_eq_true w z))
    · exact lv_icmp_lt hx hb hd ht (fun z => hp (decide_eq_true z)) (fun z => hn (fun w => z (of_decide_eq_true w)))
    · exact lv_icmp_ge hx hb hd ht (fun z => hp (decide_eq_true z)) (fun z => hn (fun w => z (of_decide_eq_true w)))
    · exact lv_icmp_gt hx hb hd ht (fun z => hp (decide_eq_true z)) (fun z => hn (fun w => z (of_decide_eq_true w)))
    · exact lv_icmp_le hx hb hd ht (fun z => hp (decide_eq_true z)) (fun z => hn (fun w => z (of_decide_eq_true w)))
  case tableswitch dd lo hi offs =>
    obtain ⟨x, r, rfl, hs⟩ := am_o1_i hs
    obtain rfl := am_J_e hs
    have ho : am_Y p l e R s m args below meth c Qw D A j n0 ad0 ca0 l0 x0 (if x.toInt < lo ∨ hi < x.toInt then am_tg pc dd else am_tg pc (offs.toList.getD (x.toInt - lo).toNat dd)) ls r h u := ho
    have hok : (decide (0 ≤ (pc : Int) + dd) && offs.toList.all (fun z => decide (0 ≤ (pc : Int) + z)) && decide ((offs.size : Int) = hi - lo + 1)) = true := hok
    simp only [Bool.and_eq_true, decide_eq_true_eq] at hok
    obtain ⟨⟨h1, h2⟩, h3⟩ := hok
    by_cases hz : x.toInt < lo ∨ hi < x.toInt
    · rw [if_pos hz] at ho
      exact lv_tableOut hx hb hd hz (am_tg_ok h1) (ho ad ca la H locs ⟨hB, hW, hu, hl, hst.t⟩)
    · rw [if_neg hz] at ho
      have n1 : ¬ x.toInt < lo := fun w => hz (Or.inl w)
      have n2 : ¬ hi < x.toInt := fun w => hz (Or.inr w)
      have hlt : (x.toInt - lo).toNat < offs.size := by omega
      have hg : offs[(x.toInt - lo).toNat]? = some (offs.toList.getD (x.toInt - lo).toNat dd) := by
        simp [List.getD, hlt]
      have hm : offs.toList.getD (x.toInt - lo).toNat dd ∈ offs.toList := by
        refine List.mem_of_getElem? (i := (x.toInt - lo).toNat) ?_
        rw [Array.getElem?_toList]; exact hg
      exact lv_tableIn hx hb hd n1 n2 hg (am_tg_ok (of_decide_eq_true (List.all_eq_true.mp h2 _ hm))) (ho ad ca la H locs ⟨hB, hW, hu, hl, hst.t⟩)
  case lookupswitch dd ps =>
    obtain ⟨x, r, rfl, hs⟩ := am_o1_i hs
    obtain rfl := am_J_e hs
    have hok : (decide (0 ≤ (pc : Int) + dd) && ps.toList.all (fun z => decide (0 ≤ (pc : Int) + z.2)) && (ps.toList.zip (ps.toList.drop 1)).all (fun (a, next) => a.1 < next.1)) = true := hok
    rw [Bool.and_eq_true, Bool.and_eq_true] at hok
    obtain ⟨⟨h1, h2⟩, h3⟩ := hok
    exact lv_lookup hx hb hd h3 rfl (am_tg_ok (am_lk_ok (of_decide_eq_true h1) _ h2)) (ho ad ca la H locs ⟨hB, hW, hu, hl, hst.t⟩)
  all_goals exact (Bool.false_ne_true hok).elim
end AST
