/-! A METHOD: its contract out of the abstract machine -/
theorem am_sp_len {ad : Nat → Nat} : ∀ (as : List Value), (lg_sl (as.map (am_cv ad))).length = (am_sp as).length
  | [] => rfl
  | v :: r => by
    have ih := am_sp_len (ad := ad) r
    unfold lg_sl at ih ⊢
    rw [List.map_cons, List.flatMap_cons, List.length_append, ih, am_cv_cat]
    have e : (am_sp (v :: r)).length = (if v.category = 2 then [Slot.val (am_cv ad v), Slot.second] else [Slot.val (am_cv ad v)]).length + (am_sp r).length := by
      rw [am_sp]
      split <;> simp <;> omega
    exact e.symm
theorem am_lk_app : ∀ {l r : am_L} {i : Nat} {v : Value}, am_lk (l ++ r) i = some v → (i < l.length ∧ am_lk l i = some v) ∨ (∃ k, i = l.length + k ∧ am_lk r k = some v)
  | [], r, i, v, h => Or.inr ⟨i, by simp, h⟩
  | x :: t, r, 0, v, h => Or.inl ⟨by simp, h⟩
  | x :: t, r, i + 1, v, h => by
    rcases am_lk_app (l := t) (r := r) (i := i) (v := v) h with ⟨h1, h2⟩ | ⟨k, h1, h2⟩
    · exact Or.inl ⟨by simp; omega, h2⟩
    · exact Or.inr ⟨k, by simp; omega, h2⟩
theorem am_lk_none : ∀ (n i : Nat), am_lk (List.replicate n none) i = none
  | 0, _ => rfl
  | n + 1, 0 => rfl
  | n + 1, i + 1 => am_lk_none n i
theorem am_sp_args {ad : Nat → Nat} : ∀ (as : List Value) (b i : Nat) (v : Value), am_lk (am_sp as) i = some v → (b + i, am_cv ad v) ∈ lv_args b (as.map (am_cv ad))
  | [], b, i, v, h => by simp [am_sp, am_lk] at h
  | w :: r, b, i, v, h => by
    rw [List.map_cons]
    unfold lv_args
    rw [am_cv_cat]
    unfold am_sp at h
    by_cases hc : w.category = 2
    · rw [if_pos hc] at h ⊢
      match i, h with
      | 0, h => cases h; exact List.mem_cons_self
      | 1, h => cases h
      | i + 2, h =>
        have := am_sp_args (ad := ad) r (b + 2) i v h
        rw [show b + (i + 2) = b + 2 + i by omega]
        exact List.mem_cons_of_mem _ this
    · rw [if_neg hc] at h ⊢
      match i, h with
      | 0, h => cases h; exact List.mem_cons_self
      | i + 1, h =>
        have := am_sp_args (ad := ad) r (b + 1) i v h
        rw [show b + (i + 1) = b + 1 + i by omega]
        exact List.mem_cons_of_mem _ this
theorem am_en_lk {k i : Nat} {as : List Value} {v : Value} (h : am_lk (am_en k as) i = some v) : am_lk (am_sp as) i = some v := by
  rcases am_lk_app h with ⟨-, h⟩ | ⟨z, -, h⟩
  · exact h
  · rw [am_lk_none] at h; cases h
theorem am_en_lo {ad : Nat → Nat} {k : Nat} {as : List Value} {la : Array Slot} (h : lv_has la (am_mL k) (lv_args 0 (as.map (am_cv ad)))) : am_lo ad (am_mL k) la (am_en k as) := by
  refine ⟨h.1, h.2.1, fun q hq => ?_⟩
  obtain ⟨v, h1, h2⟩ := am_ll_mem.mp hq
  have := am_sp_args (ad := ad) as 0 q.1 v (am_en_lk h1)
  rw [Nat.zero_add, ← h2] at this
  exact h.2.2 q this
theorem am_sp_mem : ∀ {as : List Value} {i : Nat} {v : Value}, am_lk (am_sp as) i = some v → v ∈ as
  | [], i, v, h => by simp [am_sp, am_lk] at h
  | w :: r, i, v, h => by
    unfold am_sp at h
    by_cases hc : w.category = 2
    · rw [if_pos hc] at h
      match i, h with
      | 0, h => cases h; exact List.mem_cons_self
      | 1, h => cases h
      | i + 2, h => exact List.mem_cons_of_mem _ (am_sp_mem (as := r) (i := i) h)
    · rw [if_neg hc] at h
      match i, h with
      | 0, h => cases h; exact List.mem_cons_self
      | i + 1, h => exact List.mem_cons_of_mem _ (am_sp_mem (as := r) (i := i) h)
theorem am_chk_code {k : Nat} (h : am_chk k = true) (pc : Nat) : am_chkB k pc (am_code k pc) = true := by
  unfold am_code
  cases hl : (am_kd k).lookup pc with
  | none => rfl
  | some b =>
    have hm : (pc, b) ∈ am_kd k := by
      generalize am_kd k = kd at hl
      induction kd with
      | nil => cases hl
      | cons x r ih =>
        obtain ⟨y, z⟩ := x
        rw [List.lookup_cons] at hl
        by_cases hy : pc = y
        · subst hy
          simp at hl
          rw [hl]; exact List.mem_cons_self
        · have : (pc == y) = false := by simpa using hy
          rw [this] at hl
          exact List.mem_cons_of_mem _ (ih hl)
    exact List.all_eq_true.mp h _ hm
theorem am_ini_all : (List.range am_lst).all (fun k => !am_in k || decide ((am_y k).name = "<init>")) = true := by decide +kernel
theorem am_ini_name {k : Nat} (hk : k < am_lst) (hi : am_in k = true) : (am_y k).name = "<init>" := by
  have := List.all_eq_true.mp am_ini_all k (List.mem_range.mpr hk)
  rw [hi] at this
  simpa using this
theorem am_nolst : ∀ (d : Nat) {as : List Value} {h : am_H} {Z : Option Value → am_H → Prop}, am_call d am_lst as h Z → False
  | 0, _, _, _, e => e
  | _ + 1, _, _, _, e => Nat.lt_irrefl _ e.1.1
set_option maxHeartbeats 1000000 in
theorem am_sound (F : am_FX) (K : ∀ k, k < am_lst → am_LK k ∧ am_chk k = true) (l : Launch) (D : va_G) : ∀ (d k : Nat) (as : List Value) (h : am_H) (Z : Option Value → am_H → Prop), am_call d k as h Z → am_MM l D k as h Z
  | 0, _, _, _, _, e => e.elim
  | d + 1, k, as, h, Z, e => by
    intro sz ad ca hss hsh h1000
    obtain ⟨⟨hk, hlen⟩, ew⟩ := e
    obtain ⟨lk, hchk⟩ := K k hk
    refine Met.ofW (cc := am_by k) (maxL := am_mL k) (ret := am_ret k) lk.2.2.2.1 rfl ?_
    intro p e s m args below meth c s₁ B hml hv
    obtain ⟨rfl, hsz, hCC, hD0, hNS⟩ := hv
    subst hsz
    have hts : ∀ w ∈ am_tbl, w.before (as.map (am_cv ad)).toArray s = true := fun w hw => atoms_spec (ws := am_wj k) B.pre w (List.mem_cons_of_mem _ hw)
    have hown : s.vm.findClass (am_y k).cls = some m.cls := findClass_of_methodNamed B.named
    have hD := hD0.self (sz := s.heap.size)
    have hr := B.returns
    have hlocks := B.notSynchronized
    generalize hAe : va_A (am_ws ad ca h) s.heap.size = A at hD ⊢
    have hA : ∀ q : Nat, s.heap.size ≤ q → A q := fun q hq => by rw [← hAe]; exact Or.inr hq
    have cx : am_Cx p s m (as.map (am_cv ad)).toArray meth c (headSpec (am_wj k) (am_room k)).room A k ad (h.2.1 1000) (h.2.2.1 1000) := by
      refine ⟨B.exec, B.bytes, hml, hown, hts, fun hi => ?_, hA, ⟨Nat.le_refl _, Nat.le_refl _, Nat.le_refl _, Nat.le_refl _⟩, fun hj => absurd hj (Nat.ne_of_lt (Nat.lt_of_lt_of_le hk (by decide))), hNS⟩
      have hn := (name_of_methodNamed B.named B.method).1
      rw [hn]
      exact am_ini_name hk hi
    have hR : ∀ (i : Jvm.ClassFile.Instr) (pc : Nat) (v : Option Value) (ls : am_L) (h' : am_H) (u : am_U), decode (am_by k) pc = .ok (i, 1) → am_rq k i v → Z v h' → am_Y p l e (headSpec (am_wj k) (am_room k)).room s m (as.map (am_cv ad)).toArray below meth c (MQ below (am_Qm D ad ca h Z A) (as.map (am_cv ad)).toArray s (am_mc k) (am_ms k) A) D A k h.1 ad ca (h.2.1 1000) (h.2.2.1 1000) pc ls v.toList h' u := by
      intro i pc v ls h' u hd hq hZ ad' ca' la H locs hin
      obtain ⟨hB, ⟨hCC', hD', hS'⟩, hu, hl, hst⟩ := hin
      refine W.widen hu.1 hu.2 ?_
      have hQ : ∀ (w : Value), v = some w → ∀ t : State, t.heap = H → s.WarmedH t.vm → am_Qm D ad ca h Z A (as.map (am_cv ad)).toArray s (.returned (some (am_cv ad' w))) t := fun w hw t ht hW => by
        subst hw
        exact ⟨⟨some w, h', ad', ca', rfl, hZ, hB, (fun x hx => by cases hx; exact hst _ List.mem_cons_self), (by rw [ht]; exact hCC'.moved hW.alike), hD'⟩, hS'.F ht⟩
      rcases hq with ⟨rfl, x, rfl, hq⟩ | ⟨rfl, hq, x, rfl⟩ | ⟨rfl, hq, rfl⟩
      · rcases hq with hq | ⟨hq, hx⟩
        · exact W.iret (v := x) B.exec B.bytes (hr.trans (by simp [am_ret, hq])) (hQ _ rfl) hS'.2.2 hd
        · exact W.zret (v := x) (ty := .boolean) B.exec B.bytes (hr.trans (by simp [am_ret, hq])) (by rcases hx with rfl | rfl <;> rfl) (hQ _ rfl) hS'.2.2 hd
      · exact W.lret (v := x) B.exec B.bytes (hr.trans (by simp [am_ret, hq])) (hQ _ rfl) hS'.2.2 hd
      · exact W.vret B.exec B.bytes (hr.trans (by simp [am_ret, hq])) (fun t ht hW => ⟨⟨none, h', ad', ca', rfl, hZ, hB, (fun x hx => by cases hx), (by rw [ht]; exact hCC'.moved hW.alike), hD'⟩, hS'.F ht⟩) hS'.2.2 hd
    have key := ew (am_Y p l e (headSpec (am_wj k) (am_room k)).room s m (as.map (am_cv ad)).toArray below meth c (MQ below (am_Qm D ad ca h Z A) (as.map (am_cv ad)).toArray s (am_mc k) (am_ms k) A) D A k h.1 ad ca (h.2.1 1000) (h.2.2.1 1000))
      (fun pc ls st h' u z => am_run_s F lk.2.2.2.2 cx (fun k as h Z _ => am_sound F K l D d k as h Z) (fun i pc ls st h u q as S _ _ _ _ z => (am_nolst d z).elim) (am_call_mono d) (fun _ _ _ _ _ z => z) hR _ _ _ (am_chk_code hchk pc) z)
      (fun pc ls ls' st h' u hle hx ad' ca' la H locs hin => hx ad' ca' la H locs ⟨hin.1, hin.2.1, hin.2.2.1, ⟨fun i v hv => hin.2.2.2.1.1 i v (hle i v hv), am_lo_le hle hin.2.2.2.1.2⟩, hin.2.2.2.2⟩)
    have hl := lv_entry (as.map (am_cv ad)) (n := am_mL k) (by rw [am_sp_len]; exact hlen)
    rw [lg_entry_eq]
    generalize (lg_sl (as.map (am_cv ad)) ++ List.replicate (am_mL k - (lg_sl (as.map (am_cv ad))).length) Slot.unset).toArray = la at hl ⊢
    exact key ad ca la s.heap [] ⟨⟨fun _ _ => rfl, fun _ _ => rfl, Nat.le_refl _, h1000, rfl, rfl, hsh⟩, ⟨hCC, hD, va_S.rf⟩, ⟨Nat.zero_le _, Nat.zero_le _⟩, ⟨fun i v hv => hss _ (am_sp_mem (am_en_lk hv)), am_en_lo hl⟩, fun w hw => (List.not_mem_nil hw).elim⟩
