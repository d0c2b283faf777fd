/-! STREET() ENTERED, TO ITS THROW -/
def th_R : Room := { frames := 8, cells := 1, slots := 6, locals := 300 }
theorem th_ck2 : am_chk 2 = true := by decide +kernel
set_option maxHeartbeats 1000000 in
theorem th_in {p : Program} {l : Launch} {e : Env} {s : State} {m : MethodId} {args : Array Value} {below : List Frame} {meth : Method} {c : Code} {D : va_G} {ad : Nat → Nat} {ca : Nat → ClassId} {L : Nat} {sw : Bool} {f g : Nat → Nat → Int} {xa xb xm xv xc : Int} {h : am_H} {as : List Value}
    (eh : h = (53, sh_lt L, iH f, jH g, sh_rt sw)) (eas : as = [.ref 0, .int (iZ xa), .int (iZ xb), .long (lZ xm), .long (lZ xv), .int (iZ xc)]) (eargs : args = (as.map (am_cv ad)).toArray)
    (hx : p.tables.exec = Jvm.exec) (hb : c.code = am_by 2) (hml : c.maxLocals = am_mL 2) (hown : s.vm.findClass (am_y 2).cls = some m.cls) (hts : ∀ w ∈ am_tbl, w.before args s = true) (hNS : am_NS s) (hlk : meth.locks = false) (hex : c.exceptionTable.isEmpty = true) (htr : l.admits e → e.platform.stackTraces = false) (htw : TW s) (htx : TX s)
    (hsh : am_sh h) (hss : am_ss h.1 as) (hCC : am_cc D s ad ca h s.heap) (hD : va_D (fun _ => True) (am_ws ad ca h)) (hr : iR xa ∧ iR xb ∧ lR xm ∧ lR xv ∧ iR xc) (hc : 0 ≤ f 1 3 ∧ f 1 3 ≤ 60) (hs : 0 ≤ f 5 8 ∧ f 5 8 ≤ 120)
    (ht : (1 ≤ xa ∧ xa ≤ f 1 3 ∧ 1 ≤ xb ∧ xb ≤ f 1 3) ∧ (¬ xa = xb ∧ 1 ≤ xm ∧ xm ≤ 100000 ∧ 0 ≤ xv ∧ xv ≤ 1000 ∧ 0 ≤ xc ∧ xc ≤ 3) ∧ f 5 8 < 120 ∧ xv = 0) :
    W p l e th_R s m args below meth c s.heap [] 0 0 (th_Q s below (va_A (am_ws ad ca h) s.heap.size) D ad ca h) (entryFrame m args (am_mL 2)) := by
  have h1000 : h.1 ≤ 1000 := by rw [eh]; exact Nat.le_of_ble_eq_true rfl
  have hD' := hD.self (sz := s.heap.size)
  generalize hAe : va_A (am_ws ad ca h) s.heap.size = A at hD' ⊢
  have cx : am_Cx p s m args meth c th_R A 2 ad (h.2.1 1000) (h.2.2.1 1000) := ⟨hx, hb, hml, hown, hts, fun hi => absurd hi (by decide +kernel), fun q hq => by rw [← hAe]; exact Or.inr hq, ⟨by decide +kernel, by decide +kernel, by decide +kernel, by decide +kernel⟩, fun hj => absurd hj (by decide), hNS⟩
  have K96 := th_96 (l := l) (e := e) (below := below) (D := D) (h := h) (ca0 := ca) cx hlk hex htr htw htx ⟨by decide, by decide, by decide, by decide⟩ hsh hCC.1 (fun q hq => by rw [← hAe] at hq; exact hq)
  have key := tg_2 (d := 0) (L := L) (sw := sw) (f := f) (g := g) (a := xa) (b := xb) (m := xm) (v := xv) (c := xc) (Q := fun _ _ => False) (X := am_Y p l e th_R s m args below meth c (th_Q s below A D ad ca h) D A 2 h.1 ad ca (h.2.1 1000) (h.2.2.1 1000))
    (fun pc ls st h' u z => am_run_s tb_FX rfl cx (C := am_call 1) (Q := fun _ _ => False) (fun k as h Z _ => tb_sound l D 1 k as h Z) (fun i pc ls st h u q as S _ _ _ _ z => (am_nolst _ z).elim) (am_call_mono _) (fun _ _ _ _ _ z => z) (fun _ _ _ _ _ _ _ _ z => z.elim) _ _ _ (am_chk_code th_ck2 pc) z)
    (fun ls => by rw [← eh]; exact K96 ls) hr.1 hr.2.1 hr.2.2.1 hr.2.2.2.1 hr.2.2.2.2 hc hs ht
  rw [← eh, ← eas] at key
  subst eargs
  have hlen : (am_sp as).length ≤ am_mL 2 := by rw [eas]; exact Nat.le_of_ble_eq_true rfl
  have hl := lv_entry (as.map (am_cv ad)) (n := am_mL 2) (by rw [am_sp_len]; exact hlen)
  rw [lg_entry_eq]
  generalize (lg_sl (as.map (am_cv ad)) ++ List.replicate (am_mL 2 - (lg_sl (as.map (am_cv ad))).length) Slot.unset).toArray = la at hl ⊢
  exact key ad ca la s.heap [] ⟨⟨fun _ _ => rfl, fun _ _ => rfl, Nat.le_refl _, h1000, rfl, rfl, hsh⟩, ⟨hCC, hD', va_S.rf⟩, ⟨Nat.zero_le _, Nat.zero_le _⟩, ⟨fun i v hv => hss _ (am_sp_mem (am_en_lk hv)), am_en_lo hl⟩, fun w hw => (List.not_mem_nil hw).elim⟩
