/-! NEW CELLS -/
def am_NO (own x c : Nat) : Prop := am_CO c ∧ Cond.classLink (am_cn own) x (am_cn c) ∈ am_tbl ∧ Cond.instantiable (am_cn c) (am_nf c) ∈ am_tbl ∧ Cond.initialized (am_cn c) ∈ am_tbl
theorem am_fv_nw {h : am_H} {c n c' i k : Nat} (hk : k < h.1) : am_fv (am_nw h c n) c' i k = am_fv h c' i k := by
  have hk' : ¬ k = h.1 := by omega
  simp only [am_fv, am_nw, if_neg hk']
theorem am_ce_nw {ad : Nat → Nat} {ca : Nat → ClassId} {h : am_H} {c n k q : Nat} {cA : ClassId} (hh : am_sh h) (h1 : h.1 < 1000) (hk : k < h.1) : am_ce (va_up ad h.1 q) (va_up ca h.1 cA) (am_nw h c n) k = am_ce ad ca h k := by
  have hk' : ¬ k = h.1 := by omega
  have e1 : (am_nw h c n).2.1 k = h.2.1 k := if_neg hk'
  have e2 : (am_nw h c n).2.2.1 k = h.2.2.1 k := funext fun _ => if_neg hk'
  have e3 : (am_nw h c n).2.2.2.1 k = h.2.2.2.1 k := funext fun _ => if_neg hk'
  have e4 : va_up ca h.1 cA k = ca k := if_neg hk'
  unfold am_ce
  rw [e1, e2, e3, e4]
  split
  · rfl
  · rfl
  · rfl
  · refine congrArg Sum.inr (congrArg (Prod.mk _) (List.map_congr_left fun i _ => ?_))
    rw [am_fv_nw hk]
    refine am_cv_ext (n := h.1) (fun z hz => if_neg ?_) (am_sv_fv hh hk)
    omega
theorem am_ws_nw {ad : Nat → Nat} {ca : Nat → ClassId} {h : am_H} {c n q : Nat} {cA : ClassId} (hh : am_sh h) (h1 : h.1 < 1000) : am_ws ad ca h ++ [(q, am_ce (va_up ad h.1 q) (va_up ca h.1 cA) (am_nw h c n) h.1)] = am_ws (va_up ad h.1 q) (va_up ca h.1 cA) (am_nw h c n) := by
  show _ = (List.range (h.1 + 1)).map _
  rw [List.range_succ, List.map_append]
  congr 1
  · refine List.map_congr_left fun k hk => ?_
    have hk := List.mem_range.mp hk
    rw [am_ce_nw hh h1 hk]
    congr 1
    exact (if_neg (by omega)).symm
  · show [_] = [_]
    congr 2
    exact (if_pos rfl).symm
theorem am_sh_nw {h : am_H} {c n : Nat} (hh : am_sh h) : am_sh (am_nw h c n) := by
  intro k i hk
  show (if k = h.1 then 0 else h.2.2.2.2 k i) ≤ h.1 + 1
  split
  · omega
  · have hk : k < h.1 + 1 := hk
    have := hh k i (by omega)
    omega
theorem am_fv_n0 {h : am_H} {c n c' i : Nat} (ad : Nat → Nat) : am_cv ad (am_fv (am_nw h c n) c' i h.1) = am_fv (am_nw h c n) c' i h.1 := by
  simp only [am_fv, am_nw, if_true]
  split <;> rfl
def am_dv (f : Nat) : Value := match f with
  | 0 => .int 0
  | 1 => .int 0
  | 2 => .long 0
  | _ => .null
theorem am_default {ty : FieldType} {f : Nat} (g : am_fto ty f = true) : defaultValue ty = am_dv f := by
  unfold am_fto at g
  split at g <;> first | rfl | cases g
theorem am_fv_nn {h : am_H} {c n c' i : Nat} : am_fv (am_nw h c n) c' i h.1 = am_dv (am_ft c' i) := by
  simp only [am_fv, am_nw, if_true, am_dv]
  split <;> first | rfl | (simp_all <;> rfl)
section ANW
variable {p : Program} {l : Launch} {e : Env} {R : Room} {s : State} {m : MethodId} {args : Array Value} {below : List Frame} {meth : Method} {c : Code} {Qw : State → Prop} {D : va_G} {A : Nat → Prop} {j n0 : Nat} {ad0 : Nat → Nat} {ca0 : Nat → ClassId} {l0 : Nat × Nat} {x0 : Nat → Int32}
theorem am_nwB {h : am_H} {ad : Nat → Nat} {ca : Nat → ClassId} {cc n q : Nat} {cA : ClassId} (h1 : h.1 < 1000)
    (hB : (∀ k, k < n0 ∨ k = 1000 → ad k = ad0 k) ∧ (∀ k, k < n0 → ca k = ca0 k) ∧ n0 ≤ h.1 ∧ h.1 ≤ 1000 ∧ h.2.1 1000 = l0 ∧ h.2.2.1 1000 = x0 ∧ am_sh h) :
    (∀ k, k < n0 ∨ k = 1000 → va_up ad h.1 q k = ad0 k) ∧ (∀ k, k < n0 → va_up ca h.1 cA k = ca0 k) ∧ n0 ≤ (am_nw h cc n).1 ∧ (am_nw h cc n).1 ≤ 1000 ∧ (am_nw h cc n).2.1 1000 = l0 ∧ (am_nw h cc n).2.2.1 1000 = x0 ∧ am_sh (am_nw h cc n) := by
  obtain ⟨b1, b2, b3, b4, b5, b6, b7⟩ := hB
  refine ⟨fun k hk => ?_, fun k hk => ?_, Nat.le_succ_of_le b3, h1, ?_, ?_, am_sh_nw b7⟩
  · rw [← b1 k hk]; exact if_neg (by omega)
  · rw [← b2 k hk]; exact if_neg (by omega)
  · rw [← b5]; exact if_neg (by omega)
  · rw [← b6]; exact funext fun _ => if_neg (by omega)
theorem am_nwY {h : am_H} {ad : Nat → Nat} {ca : Nat → ClassId} {la : Array Slot} {H : Heap} {locs : List Loc} {ls : am_L} {st st' : List Value} {u u' : am_U} (h1 : h.1 < 1000) (hin : am_In s D A j n0 ad0 ca0 l0 x0 ad ca la H locs ls st h u) {cc n qa : Nat} {cA : ClassId} {H1 : Heap} (hu' : u'.1 ≤ am_mc j ∧ u'.2 ≤ am_ms j) (hst' : am_ss h.1 st')
    (hP1 : va_P D vwCl (am_ws (va_up ad h.1 qa) (va_up ca h.1 cA) (am_nw h cc n)) H1) (hD1 : va_D A (am_ws (va_up ad h.1 qa) (va_up ca h.1 cA) (am_nw h cc n))) (hS1 : va_S A s.heap H1 locs) (hAr : cc < 3 → ArrOfT s cA (am_at cc) ∧ va_RA s cA (am_at cc)) {pc : Nat} (ho : am_Y p l e R s m args below meth c Qw D A j n0 ad0 ca0 l0 x0 pc ls (.ref h.1 :: st') (am_nw h cc n) u') :
    W p l e R s m args below meth c H1 locs u'.1 u'.2 Qw (F0 m pc la (.ref qa :: st'.map (am_cv ad))) := by
  obtain ⟨hB, ⟨hCC, hD, hS⟩, hu, hl, hst⟩ := hin
  have hex : ∀ k, k < h.1 ∨ k = 1000 → va_up ad h.1 qa k = ad k := fun k hk => if_neg (by omega)
  have hle : h.1 ≤ (am_nw h cc n).1 := Nat.le_succ _
  have e1 : (Value.ref h.1 :: st').map (am_cv (va_up ad h.1 qa)) = .ref qa :: st'.map (am_cv ad) := by
    rw [List.map_cons, am_cvs_ext hex hst']
    congr 1
    exact congrArg Value.ref (if_pos rfl)
  have := ho (va_up ad h.1 qa) (va_up ca h.1 cA) la H1 locs ⟨am_nwB h1 hB, ⟨⟨hP1, hCC.2.1, fun k hk hk2 => ?_⟩, hD1, hS1⟩, hu', ⟨fun i v hv => am_sv_up hle (hl.1 i v hv), am_lo_ext hex hl.1 hl.2⟩, (am_ss_up hle hst').k (Or.inl (Nat.lt_succ_self _))⟩
  · rw [e1] at this
    exact this
  · have hk : k < h.1 + 1 := hk
    by_cases hz : k = h.1
    · have e2 : (am_nw h cc n).2.1 k = (cc, n) := if_pos hz
      have e3 : va_up ca h.1 cA k = cA := if_pos hz
      rw [e2] at hk2 ⊢
      rw [e3]
      exact hAr hk2
    · have e2 : (am_nw h cc n).2.1 k = h.2.1 k := if_neg hz
      have e3 : va_up ca h.1 cA k = ca k := if_neg hz
      rw [e2] at hk2 ⊢
      rw [e3]
      exact hCC.2.2 k (by omega) hk2
theorem am_stN (hN : ∀ own x c, am_rn own x = some c → am_NO own x c) (hAr : ∀ t, t < 3 → Cond.arrayClass (am_at t) ∈ am_tbl) (hcn : (am_y j).cls = am_cn (am_ow j)) (cx : am_Cx p s m args meth c R A j ad0 l0 x0) {i : Jvm.ClassFile.Instr} {pc : Nat} {ls : am_L} {st : List Value} {h : am_H} {u : am_U} {q : Prop} {S : am_S} (hd : decode (am_by j) pc = .ok (i, am_lp i pc)) (hok : am_okN i = true) (hs : am_sem j i pc ls st h u = some (q, .inl S)) (hc : q) (ho : am_Y p l e R s m args below meth c Qw D A j n0 ad0 ca0 l0 x0 (pc + am_len i) S.1 S.2.1 S.2.2.1 S.2.2.2) : am_Y p l e R s m args below meth c Qw D A j n0 ad0 ca0 l0 x0 pc ls st h u := by
  obtain ⟨hx, hb, hml, hown, hts, hini, hA, ⟨hRc, hRs, hRf, hRl⟩, hscr⟩ := cx
  rw [hcn] at hown
  intro ad ca la H locs hin
  have hin' := hin
  obtain ⟨hB, ⟨hCC, hD, hS⟩, hu, hl, hst⟩ := hin
  have hh := hB.2.2.2.2.2.2
  cases i
  case new x =>
    simp only [am_sem] at hs
    cases hr : am_rn (am_ow j) x with
    | none => rw [hr] at hs; cases hs
    | some cn =>
      rw [hr] at hs
      obtain ⟨rfl, rfl⟩ := am_Nc_e hs
      obtain ⟨hc0, hc1, hc2⟩ := hc
      obtain ⟨⟨T, ty0, t1, t2, t3, t4, t5⟩, t6, t7, t8⟩ := hN _ _ _ hr
      have hob : ((am_nw h (cn + 3) 0).2.1 h.1).1 = cn + 3 := congrArg Prod.fst (if_pos rfl)
      refine va_new (D := D) (ci := cn) (fs := (List.range (am_nf cn)).map fun i => am_fv (am_nw h (cn + 3) 0) cn i h.1) hx hb hts t2 ty0 t3 hown (hts _ t6) (hts _ t7) (hts _ t8) hCC.2.1 hCC.1 hD hS hA t1 (fun i hi => ?_) (Nat.le_trans hc1 hRc) (Nat.le_trans hc2 hRs) hd (fun qa H1 hP1 hD1 hS1 => ?_)
      · rw [am_default (t5 i hi).1]
        simp [vp_V, hi, am_fv_nn]
      · have hcells : (.inr (cn, (List.range (am_nf cn)).map fun i => am_fv (am_nw h (cn + 3) 0) cn i h.1) : va_E) = am_ce (va_up ad h.1 qa) (va_up ca h.1 (ca h.1)) (am_nw h (cn + 3) 0) h.1 := by
          rw [am_ce_obj hob]
          exact congrArg Sum.inr (congrArg (Prod.mk _) (List.map_congr_left fun i _ => (am_fv_n0 _).symm))
        rw [hcells, am_ws_nw hh hc0] at hP1 hD1
        exact am_nwY hc0 hin' ⟨hc1, hc2⟩ hst hP1 hD1 hS1 (fun hz => absurd hz (by omega)) ho
  case newarray t =>
    simp only [am_sem] at hs
    cases hr : am_atc t with
    | none => rw [hr] at hs; cases hs
    | some cn =>
      rw [hr] at hs
      cases t
      · cases hr
        obtain ⟨x, r, rfl, hs⟩ := am_o1_i hs
        obtain ⟨rfl, rfl⟩ := am_Nc_e hs
        obtain ⟨hc1, hc2, hc0, hc3, hc4⟩ := hc
        refine va_newa (D := D) (atype := .boolean) (ty := .boolean) hx hb (hts _ (hAr 1 (by omega))) rfl hCC.2.1 hCC.1 hD hS hA (n := x) (N' := x.toNatClampNeg) (a0 := (x.toNatClampNeg, .inl (fun _ => 0))) (fun _ => rfl) hc1 rfl (by show x.toNatClampNeg * 1 ≤ 536870912; omega) (Nat.le_trans hc3 hRc) (Nat.le_trans hc4 hRs) hd (fun qa cA H1 hK1 hP1 hD1 hS1 => ?_)
        have e1 : (.inl (cA, x.toNatClampNeg, .inl (fun _ => 0)) : va_E) = am_ce (va_up ad h.1 qa) (va_up ca h.1 cA) (am_nw h 1 x.toNatClampNeg) h.1 := by
          simp [am_ce, am_nw, va_up]
        rw [e1, am_ws_nw hh hc0] at hP1 hD1
        exact am_nwY hc0 hin' ⟨hc3, hc4⟩ hst.t hP1 hD1 hS1 (fun _ => hK1.2 0 _ rfl) ho
      · cases hr
      · cases hr
      · cases hr
      · cases hr
      · cases hr
      · cases hr
        obtain ⟨x, r, rfl, hs⟩ := am_o1_i hs
        obtain ⟨rfl, rfl⟩ := am_Nc_e hs
        obtain ⟨hc1, hc2, hc0, hc3, hc4⟩ := hc
        refine va_newa (D := D) (atype := .int) (ty := .int) hx hb (hts _ (hAr 0 (by omega))) rfl hCC.2.1 hCC.1 hD hS hA (n := x) (N' := x.toNatClampNeg) (a0 := (x.toNatClampNeg, .inl (fun _ => 0))) (fun _ => rfl) hc1 rfl (by show x.toNatClampNeg * 4 ≤ 536870912; omega) (Nat.le_trans hc3 hRc) (Nat.le_trans hc4 hRs) hd (fun qa cA H1 hK1 hP1 hD1 hS1 => ?_)
        have e1 : (.inl (cA, x.toNatClampNeg, .inl (fun _ => 0)) : va_E) = am_ce (va_up ad h.1 qa) (va_up ca h.1 cA) (am_nw h 0 x.toNatClampNeg) h.1 := by
          simp [am_ce, am_nw, va_up]
        rw [e1, am_ws_nw hh hc0] at hP1 hD1
        exact am_nwY hc0 hin' ⟨hc3, hc4⟩ hst.t hP1 hD1 hS1 (fun _ => hK1.2 0 _ rfl) ho
      · cases hr
        obtain ⟨x, r, rfl, hs⟩ := am_o1_i hs
        obtain ⟨rfl, rfl⟩ := am_Nc_e hs
        obtain ⟨hc1, hc2, hc0, hc3, hc4⟩ := hc
        refine va_newa (D := D) (atype := .long) (ty := .long) hx hb (hts _ (hAr 2 (by omega))) rfl hCC.2.1 hCC.1 hD hS hA (n := x) (N' := x.toNatClampNeg) (a0 := (x.toNatClampNeg, .inr (.inl (fun _ => 0)))) (fun _ => rfl) hc1 rfl (by show x.toNatClampNeg * 8 ≤ 536870912; omega) (Nat.le_trans hc3 hRc) (Nat.le_trans hc4 hRs) hd (fun qa cA H1 hK1 hP1 hD1 hS1 => ?_)
        have e1 : (.inl (cA, x.toNatClampNeg, .inr (.inl (fun _ => 0))) : va_E) = am_ce (va_up ad h.1 qa) (va_up ca h.1 cA) (am_nw h 2 x.toNatClampNeg) h.1 := by
          simp [am_ce, am_nw, va_up]
        rw [e1, am_ws_nw hh hc0] at hP1 hD1
        exact am_nwY hc0 hin' ⟨hc3, hc4⟩ hst.t hP1 hD1 hS1 (fun _ => hK1.2 0 _ rfl) ho
  all_goals exact (Bool.false_ne_true hok).elim
end ANW
