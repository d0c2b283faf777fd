/-! THE HEAP: fields, arrays -/
def am_fto (ty : FieldType) (f : Nat) : Bool := match f, ty with
  | 0, .int => true
  | 1, .boolean => true
  | 2, .long => true
  | 3, .object _ => true
  | 3, .array _ => true
  | _, _ => false
/-- a class as the tables have it -/
def am_CO (c : Nat) : Prop := ∃ (T : u_T) (ty0 : Nat → FieldType), vwCl[c]? = some (am_cn c, T, am_nf c) ∧ (∀ w ∈ u_ws (am_cn c) T (am_nf c), w ∈ am_tbl) ∧ (∀ k, k < am_nf c → parseFieldDescriptor (T k).2.2.1 = some (ty0 k)) ∧ (∀ a, a < am_nf c → ∀ b, b < am_nf c → a ≠ b → (T a).2.1 ≠ (T b).2.1) ∧ (∀ k, k < am_nf c → am_fto (ty0 k) (am_ft c k) = true ∧ (T k).2.2.2 = am_ff c k ∧ (T k).1 = am_cn c)
/-- a field's link -/
def am_FO (own x c k : Nat) : Prop := k < am_nf c ∧ am_CO c ∧ ∀ (T : u_T) (n : Nat), vwCl[c]? = some (am_cn c, T, n) → Cond.fieldLink (am_cn own) x (T k).1 (T k).2.1 (T k).2.2.1 ∈ am_tbl
theorem am_ce_obj {ad : Nat → Nat} {ca : Nat → ClassId} {h : am_H} {a c : Nat} (e : (h.2.1 a).1 = c + 3) : am_ce ad ca h a = .inr (c, (List.range (am_nf c)).map fun j => am_cv ad (am_fv h c j a)) := by
  unfold am_ce; rw [e]
theorem am_ce_0 {ad : Nat → Nat} {ca : Nat → ClassId} {h : am_H} {a : Nat} (e : (h.2.1 a).1 = 0) : am_ce ad ca h a = .inl (ca a, am_sz h a, .inl (h.2.2.1 a)) := by
  unfold am_ce; rw [e]; rfl
theorem am_ce_1 {ad : Nat → Nat} {ca : Nat → ClassId} {h : am_H} {a : Nat} (e : (h.2.1 a).1 = 1) : am_ce ad ca h a = .inl (ca a, am_sz h a, .inl (h.2.2.1 a)) := by
  unfold am_ce; rw [e]; rfl
theorem am_ce_2 {ad : Nat → Nat} {ca : Nat → ClassId} {h : am_H} {a : Nat} (e : (h.2.1 a).1 = 2) : am_ce ad ca h a = .inl (ca a, am_sz h a, .inr (.inl (h.2.2.2.1 a))) := by
  unfold am_ce; rw [e]; rfl
theorem am_sv_fv {h : am_H} {c k a : Nat} (hh : am_sh h) (ha : a < h.1) : am_sv h.1 (am_fv h c k a) := by
  unfold am_fv
  split
  · trivial
  · trivial
  · trivial
  · have hr := hh a k ha
    cases hz : h.2.2.2.2 a k with
    | zero => trivial
    | succ z => rw [hz] at hr; exact Or.inl hr
/-- a field's new value -/
theorem am_fp_i {h h' : am_H} {c k a : Nat} {v : Value} {q : Prop} (e : am_fp h c k a v = some (q, h')) (hq : q) :
    h'.1 = h.1 ∧ h'.2.1 = h.2.1 ∧ (∀ z, z ≠ a → h'.2.2.1 z = h.2.2.1 z) ∧ (∀ (ad : Nat → Nat) (ca : Nat → ClassId) (z : Nat), z ≠ a → am_ce ad ca h' z = am_ce ad ca h z) ∧ am_fv h' c k a = v ∧ (∀ i, i ≠ k → am_fv h' c i a = am_fv h c i a) ∧ (am_sh h → am_sh h') ∧ ∀ ty, am_fto ty (am_ft c k) = true → ∀ ad, narrow ty (am_cv ad v) = am_cv ad v ∧ fits ty (am_cv ad v) = true := by
  unfold am_fp at e
  split at e
  · cases e
    rename_i x hf
    refine ⟨rfl, rfl, fun z hz => am_up_ne hz, fun ad ca z hz => am_ce_pi hz, ?_, fun i hi => ?_, fun hh => hh, fun ty ht ad => ?_⟩
    · simp [am_fv, hf, am_pi, am_up]
    · simp [am_fv, am_pi, am_up, hi]
    · rw [hf] at ht
      cases ty <;> first | exact (Bool.false_ne_true ht).elim | exact ⟨rfl, rfl⟩
  · cases e
    rename_i x hf
    refine ⟨rfl, rfl, fun z hz => am_up_ne hz, fun ad ca z hz => am_ce_pi hz, ?_, fun i hi => ?_, fun hh => hh, fun ty ht ad => ?_⟩
    · simp [am_fv, hf, am_pi, am_up]
    · simp [am_fv, am_pi, am_up, hi]
    · rw [hf] at ht
      cases ty <;> first | exact (Bool.false_ne_true ht).elim | (rcases hq with rfl | rfl <;> exact ⟨rfl, rfl⟩)
  · cases e
    rename_i x hf
    refine ⟨rfl, rfl, fun z hz => rfl, fun ad ca z hz => am_ce_pl hz, ?_, fun i hi => ?_, fun hh => hh, fun ty ht ad => ?_⟩
    · simp [am_fv, hf, am_pl, am_up]
    · simp [am_fv, am_pl, am_up, hi]
    · rw [hf] at ht
      cases ty <;> first | exact (Bool.false_ne_true ht).elim | exact ⟨rfl, rfl⟩
  · cases e
    rename_i r hf
    refine ⟨rfl, rfl, fun z hz => rfl, fun ad ca z hz => am_ce_pr hz, ?_, fun i hi => ?_, fun hh z i hz => ?_, fun ty ht ad => ?_⟩
    · simp [am_fv, hf, am_pr, am_up, am_rv]
    · simp [am_fv, am_pr, am_up, hi]
    · have hq : r < h.1 := hq
      show am_up h.2.2.2.2 a k (r + 1) z i ≤ h.1
      unfold am_up
      split
      · exact hq
      · exact hh z i hz
    · rw [hf] at ht
      cases ty <;> first | exact (Bool.false_ne_true ht).elim | exact ⟨rfl, rfl⟩
  · cases e
section AHP
variable {p : Program} {l : Launch} {e : Env} {R : Room} {s : State} {m : MethodId} {args : Array Value} {below : List Frame} {meth : Method} {c : Code} {Qw : State → Prop} {D : va_G} {A : Nat → Prop} {j n0 : Nat} {ad0 : Nat → Nat} {ca0 : Nat → ClassId} {l0 : Nat × Nat} {x0 : Nat → Int32}
theorem am_stF (hF : ∀ own x c k, am_rf own x = some (c, k) → am_FO own x c k) (hcn : (am_y j).cls = am_cn (am_ow j)) (cx : am_Cx p s m args meth c R A j ad0 l0 x0) {i : Jvm.ClassFile.Instr} {pc : Nat} {ls : am_L} {st : List Value} {h : am_H} {u : am_U} {q : Prop} {S : am_S} (hd : decode (am_by j) pc = .ok (i, am_lp i pc)) (hok : am_okF i = true) (hs : am_sem j i pc ls st h u = some (q, .inl S)) (hc : q) (ho : am_Y p l e R s m args below meth c Qw D A j n0 ad0 ca0 l0 x0 (pc + am_len i) S.1 S.2.1 S.2.2.1 S.2.2.2) : am_Y p l e R s m args below meth c Qw D A j n0 ad0 ca0 l0 x0 pc ls st h u := by
  obtain ⟨hx, hb, hml, hown, hts, hini, hA, ⟨hRc, hRs, hRf, hRl⟩, hscr⟩ := cx
  rw [hcn] at hown
  intro ad ca la H locs hin
  obtain ⟨hB, ⟨hCC, hD, hS⟩, hu, hl, hst⟩ := hin
  cases i
  case getfield x =>
    simp only [am_sem] at hs
    cases hr : am_rf (am_ow j) x with
    | none => rw [hr] at hs; cases hs
    | some ck =>
      obtain ⟨cn, k⟩ := ck
      rw [hr] at hs
      obtain ⟨a, r, rfl, hs⟩ := am_a1_i hs
      obtain ⟨rfl, rfl⟩ := am_Nc_e hs
      obtain ⟨ha, hk⟩ := am_ty_some hc
      obtain ⟨hkn, ⟨T, ty0, t1, t2, t3, t4, t5⟩, t6⟩ := hF _ _ _ _ hr
      refine va_get (D := D) (ci := cn) (v := am_cv ad (am_fv h cn k a)) hx hb hts t2 hown hCC.2.1 hCC.1 a (am_ws_at ha |>.trans (by rw [am_ce_obj hk])) t1 k hkn (hts _ (t6 T _ t1)) (fun _ h9 => h9) ?_ hd (ho ad ca la H locs ⟨hB, ⟨hCC, hD, hS⟩, hu, hl, hst.t.k (am_sv_fv hB.2.2.2.2.2.2 ha)⟩)
      simp [hkn]
  case putfield x =>
    simp only [am_sem] at hs
    cases hr : am_rf (am_ow j) x with
    | none => rw [hr] at hs; cases hs
    | some ck =>
      obtain ⟨cn, k⟩ := ck
      rw [hr] at hs
      obtain ⟨a, v, r, est, hs2⟩ := am_av_i hs
      clear hs
      subst est
      cases hf : am_fp h cn k a v with
      | none => simp only [hf] at hs2; cases hs2
      | some qh =>
        obtain ⟨q', h'⟩ := qh
        simp only [hf] at hs2
        obtain ⟨rfl, rfl⟩ := am_Nc_e hs2
        obtain ⟨hc1, hc2, hc3⟩ := hc
        obtain ⟨ha, hk⟩ := am_ty_some hc1
        obtain ⟨hkn, ⟨T, ty0, t1, t2, t3, t4, t5⟩, t6⟩ := hF _ _ _ _ hr
        obtain ⟨f1, f2, f3, f4, f5, f6, f7, f8⟩ := am_fp_i hf hc3
        obtain ⟨g1, g2, g3⟩ := t5 k hkn
        obtain ⟨g4, g5⟩ := f8 _ g1 ad
        have he : (am_ws ad ca h)[a]? = some (ad a, .inr (cn, (List.range (am_nf cn)).map fun j => am_cv ad (am_fv h cn j a))) := am_ws_at ha |>.trans (by rw [am_ce_obj hk])
        have hk' : (h'.2.1 a).1 = cn + 3 := by rw [f2]; exact hk
        have hset : (am_ws ad ca h).set a (ad a, .inr (cn, ((List.range (am_nf cn)).map fun j => am_cv ad (am_fv h cn j a)).set k (am_cv ad v))) = am_ws ad ca h' := by
          rw [am_fs_set f5 f6, ← am_ce_obj hk']
          exact am_ws_set f1 (fun z hz => f4 ad ca z hz)
        have hn1 : h'.1 ≤ 1000 := by rw [f1]; exact hB.2.2.2.1
        have hB' : (∀ k, k < n0 ∨ k = 1000 → ad k = ad0 k) ∧ (∀ k, k < n0 → ca k = ca0 k) ∧ n0 ≤ h'.1 ∧ h'.1 ≤ 1000 ∧ h'.2.1 1000 = l0 ∧ h'.2.2.1 1000 = x0 ∧ am_sh h' := by
          refine ⟨hB.1, hB.2.1, by rw [f1]; exact hB.2.2.1, hn1, by rw [f2]; exact hB.2.2.2.2.1, ?_, f7 hB.2.2.2.2.2.2⟩
          rw [f3 1000 (by have := hB.2.2.2.1; omega)]; exact hB.2.2.2.2.2.1
        have key : ∀ (H1 : Heap) (locs1 : List Loc), va_P D vwCl ((am_ws ad ca h).set a (ad a, .inr (cn, ((List.range (am_nf cn)).map fun j => am_cv ad (am_fv h cn j a)).set k (am_cv ad v)))) H1 → va_D A ((am_ws ad ca h).set a (ad a, .inr (cn, ((List.range (am_nf cn)).map fun j => am_cv ad (am_fv h cn j a)).set k (am_cv ad v)))) → va_S A s.heap H1 locs1 → W p l e R s m args below meth c H1 locs1 u.1 u.2 Qw (F0 m (pc + 3) la (r.map (am_cv ad))) := by
          intro H1 locs1 hP1 hD1 hS1
          rw [hset] at hP1 hD1
          exact ho ad ca la H1 locs1 ⟨hB', ⟨⟨hP1, hCC.2.1, fun z hz1 hz2 => by rw [f1] at hz1; rw [f2] at hz2 ⊢; exact hCC.2.2 z hz1 hz2⟩, hD1, hS1⟩, hu, ⟨by rw [f1]; exact hl.1, hl.2⟩, by rw [f1]; exact hst.t.t⟩
        by_cases hfin : am_ff cn k = true
        · obtain ⟨o1, o2⟩ := hc2 hfin
          exact va_putF (D := D) (ci := cn) (ty := ty0 k) hx hb hts t2 ty0 t3 t4 hown hCC.2.1 hCC.1 hD hS a he t1 k hkn (hts _ (t6 T _ t1)) (fun _ h9 => h9) (g2.trans hfin) (hini o2) (by rw [o1]; exact g3) (t3 k hkn) g4 g5 (by simpa using hkn) hd key
        · exact va_put (D := D) (ci := cn) (ty := ty0 k) hx hb hts t2 ty0 t3 t4 hown hCC.2.1 hCC.1 hD hS a he t1 k hkn (hts _ (t6 T _ t1)) (fun _ h9 => h9) (g2.trans (by simpa using hfin)) (t3 k hkn) g4 g5 (by simpa using hkn) hd key
  case iaload =>
    obtain ⟨a, i, r, rfl, hs⟩ := am_ai_i hs
    obtain ⟨rfl, rfl⟩ := am_Nc_e hs
    obtain ⟨hc1, hc2⟩ := hc
    rcases hc1 with hc1 | ⟨rfl, hj⟩
    · obtain ⟨ha, hk⟩ := am_ty_some hc1
      exact va_iald hx hb (hCC.arr hc1 (by omega)) hCC.1 a 0 (am_ws_at ha |>.trans (by rw [am_ce_0 hk])) rfl hc2 hd (ho ad ca la H locs ⟨hB, ⟨hCC, hD, hS⟩, hu, hl, hst.t.t.k trivial⟩)
    · obtain ⟨hX, hbl, hbA⟩ := hscr.1 hj
      rw [← hB.1 1000 (Or.inr rfl)] at hX hbl hbA
      have e1 : am_sz h 1000 = l0.2 := by rw [← hB.2.2.2.2.1]; rfl
      rw [e1] at hc2
      have ho := ho ad ca la H locs ⟨hB, ⟨hCC, hD, hS⟩, hu, hl, hst.t.t.k trivial⟩
      rw [hB.2.2.2.2.2.1] at ho
      exact va_sld hx hb hX hbl hbA hS hc2 hd ho
  case arraylength =>
    obtain ⟨a, r, rfl, hs⟩ := am_a1_i hs
    obtain ⟨rfl, rfl⟩ := am_Nc_e hs
    obtain ⟨rfl, hj⟩ := hc
    obtain ⟨hX, hbl, hbA⟩ := hscr.1 hj
    rw [← hB.1 1000 (Or.inr rfl)] at hX hbl hbA
    have e1 : am_sz h 1000 = l0.2 := by rw [← hB.2.2.2.2.1]; rfl
    have ho := ho ad ca la H locs ⟨hB, ⟨hCC, hD, hS⟩, hu, hl, hst.t.k trivial⟩
    rw [e1] at ho
    exact va_slen hx hb hX hbl hbA hS hd ho
  case baload =>
    obtain ⟨a, i, r, rfl, hs⟩ := am_ai_i hs
    obtain ⟨rfl, rfl⟩ := am_Nc_e hs
    obtain ⟨hc1, hc2⟩ := hc
    obtain ⟨ha, hk⟩ := am_ty_some hc1
    exact va_zald hx hb (hCC.arr hc1 (by omega)) hCC.1 a 0 (am_ws_at ha |>.trans (by rw [am_ce_1 hk])) rfl hc2 hd (ho ad ca la H locs ⟨hB, ⟨hCC, hD, hS⟩, hu, hl, hst.t.t.k trivial⟩)
  case laload =>
    obtain ⟨a, i, r, rfl, hs⟩ := am_ai_i hs
    obtain ⟨rfl, rfl⟩ := am_Nc_e hs
    obtain ⟨hc1, hc2⟩ := hc
    obtain ⟨ha, hk⟩ := am_ty_some hc1
    exact va_lald hx hb (hCC.arr hc1 (by omega)) hCC.1 a 0 (am_ws_at ha |>.trans (by rw [am_ce_2 hk])) rfl hc2 hd (ho ad ca la H locs ⟨hB, ⟨hCC, hD, hS⟩, hu, hl, hst.t.t.k trivial⟩)
  case iastore =>
    obtain ⟨a, i, x, r, rfl, hs⟩ := am_aii_i hs
    obtain ⟨rfl, rfl⟩ := am_Nc_e hs
    obtain ⟨hc1, hc2⟩ := hc
    obtain ⟨ha, hk⟩ := am_ty_some hc1
    have hset : (am_ws ad ca h).set a (ad a, .inl (ca a, am_sz h a, .inl (upd (h.2.2.1 a) i.toNatClampNeg x))) = am_ws ad ca (am_pi h a i.toNatClampNeg x) := by
      have e2 : am_ce ad ca (am_pi h a i.toNatClampNeg x) a = .inl (ca a, am_sz h a, .inl (upd (h.2.2.1 a) i.toNatClampNeg x)) := by
        rw [am_ce_0 (h := am_pi h a i.toNatClampNeg x) hk]
        simp only [am_pi, am_up_eq]
        rfl
      rw [← e2]
      exact am_ws_set rfl (fun z hz => am_ce_pi hz)
    refine va_iast hx hb (hCC.arr hc1 (by omega)) hCC.1 hD hS a 0 (am_ws_at ha |>.trans (by rw [am_ce_0 hk])) rfl hc2 hd (fun H1 locs1 hP1 hD1 hS1 => ?_)
    rw [hset] at hP1 hD1
    refine ho ad ca la H1 locs1 ⟨⟨hB.1, hB.2.1, hB.2.2.1, hB.2.2.2.1, hB.2.2.2.2.1, ?_, hB.2.2.2.2.2.2⟩, ⟨⟨hP1, hCC.2.1, hCC.2.2⟩, hD1, hS1⟩, hu, hl, hst.t.t.t⟩
    exact (am_up_ne (by have := hB.2.2.2.1; omega)).trans hB.2.2.2.2.2.1
  case bastore =>
    obtain ⟨a, i, x, r, rfl, hs⟩ := am_aii_i hs
    obtain ⟨rfl, rfl⟩ := am_Nc_e hs
    obtain ⟨hc1, hc2, hc3⟩ := hc
    obtain ⟨ha, hk⟩ := am_ty_some hc1
    have hset : (am_ws ad ca h).set a (ad a, .inl (ca a, am_sz h a, .inl (upd (h.2.2.1 a) i.toNatClampNeg x))) = am_ws ad ca (am_pi h a i.toNatClampNeg x) := by
      have e2 : am_ce ad ca (am_pi h a i.toNatClampNeg x) a = .inl (ca a, am_sz h a, .inl (upd (h.2.2.1 a) i.toNatClampNeg x)) := by
        rw [am_ce_1 (h := am_pi h a i.toNatClampNeg x) hk]
        simp only [am_pi, am_up_eq]
        rfl
      rw [← e2]
      exact am_ws_set rfl (fun z hz => am_ce_pi hz)
    refine va_zast hx hb (hCC.arr hc1 (by omega)) hCC.1 hD hS a 0 (am_ws_at ha |>.trans (by rw [am_ce_1 hk])) rfl hc2 hd (fun H1 locs1 hP1 hD1 hS1 => ?_)
    rw [show vp_nar .boolean x = x by rcases hc3 with rfl | rfl <;> rfl] at hP1 hD1
    rw [hset] at hP1 hD1
    refine ho ad ca la H1 locs1 ⟨⟨hB.1, hB.2.1, hB.2.2.1, hB.2.2.2.1, hB.2.2.2.2.1, ?_, hB.2.2.2.2.2.2⟩, ⟨⟨hP1, hCC.2.1, hCC.2.2⟩, hD1, hS1⟩, hu, hl, hst.t.t.t⟩
    exact (am_up_ne (by have := hB.2.2.2.1; omega)).trans hB.2.2.2.2.2.1
  case lastore =>
    obtain ⟨a, i, x, r, rfl, hs⟩ := am_ail_i hs
    obtain ⟨rfl, rfl⟩ := am_Nc_e hs
    obtain ⟨hc1, hc2⟩ := hc
    obtain ⟨ha, hk⟩ := am_ty_some hc1
    have hset : (am_ws ad ca h).set a (ad a, .inl (ca a, am_sz h a, .inr (.inl (vp_updL (h.2.2.2.1 a) i.toNatClampNeg x)))) = am_ws ad ca (am_pl h a i.toNatClampNeg x) := by
      have e2 : am_ce ad ca (am_pl h a i.toNatClampNeg x) a = .inl (ca a, am_sz h a, .inr (.inl (vp_updL (h.2.2.2.1 a) i.toNatClampNeg x))) := by
        rw [am_ce_2 (h := am_pl h a i.toNatClampNeg x) hk]
        simp only [am_pl, am_up_eq]
        rfl
      rw [← e2]
      exact am_ws_set rfl (fun z hz => am_ce_pl hz)
    refine va_last hx hb (hCC.arr hc1 (by omega)) hCC.1 hD hS a 0 (am_ws_at ha |>.trans (by rw [am_ce_2 hk])) rfl hc2 hd (fun H1 locs1 hP1 hD1 hS1 => ?_)
    rw [hset] at hP1 hD1
    refine ho ad ca la H1 locs1 ⟨⟨hB.1, hB.2.1, hB.2.2.1, hB.2.2.2.1, hB.2.2.2.2.1, ?_, hB.2.2.2.2.2.2⟩, ⟨⟨hP1, hCC.2.1, hCC.2.2⟩, hD1, hS1⟩, hu, hl, hst.t.t.t⟩
    exact hB.2.2.2.2.2.1
  all_goals exact (Bool.false_ne_true hok).elim
end AHP
