/-! CALLS -/
def am_wj (k : Nat) : List Cond := Cond.code (am_y k) (am_by k) (am_mL k) (am_ret k) :: am_tbl
def am_room (k : Nat) : Room := { frames := am_fr k, cells := am_mc k, slots := am_ms k, locals := am_lr k }
/-- a method as the tables have it -/
def am_LK (k : Nat) : Prop := Cond.code (am_y k) (am_by k) (am_mL k) (am_ret k) ∈ am_tbl ∧ Cond.initialized (am_y k).cls ∈ am_tbl ∧ ((am_y k).cls ≠ "java/lang/invoke/MethodHandle" ∧ (am_y k).cls ≠ "java/lang/invoke/VarHandle") ∧ plainName (am_y k).cls = true ∧ (am_y k).cls = am_cn (am_ow k)
def am_RO (j k : Nat) : Prop := am_fr k + 1 ≤ am_fr j ∧ 8 + (am_mL k + 11) + am_lr k ≤ am_lr j
def am_pn (k n : Nat) : Prop := (parseMethodDescriptor (am_y k).desc).map (fun d => d.parameters.length) = some n
def am_LS (own x k : Nat) : Prop := am_LK k ∧ Cond.methodLink (am_cn own) x (am_y k) ∈ am_tbl ∧ Cond.static (am_y k) ∈ am_tbl ∧ am_pn k (am_na k)
def am_LV (own x k : Nat) : Prop := am_LK k ∧ am_CO (am_ow k) ∧ am_st k = false ∧ Cond.methodLink (am_cn own) x (am_y k) ∈ am_tbl ∧ Cond.instanceMethod (am_y k) ∈ am_tbl ∧ Cond.selects (am_y k).cls (am_y k) (am_y k) ∈ am_tbl ∧ ∃ n, am_na k = n + 1 ∧ am_pn k n
def am_LI (own x k : Nat) : Prop := am_LK k ∧ am_st k = false ∧ (Cond.methodLink (am_cn own) x (am_y k) ∈ am_tbl ∨ ∃ host, (am_cn own, x, am_y k, host) ∈ am_nst) ∧ Cond.instanceMethod (am_y k) ∈ am_tbl ∧ (am_y k).name = "<init>" ∧ am_ret k = none ∧ ∃ n, am_na k = n + 1 ∧ am_pn k n
theorem am_good {args : Array Value} {s : State} (hts : ∀ w ∈ am_tbl, w.before args s = true) : ∀ w ∈ am_tbl, ∀ (a' : Array Value) (U : State), s.WarmedH U.vm → w.before a' U = true :=
  fun w hw _ _ hW => word_at hW (good_of_word (List.mem_filter.mp hw).2) (hts w hw)
theorem am_goodj {args : Array Value} {s : State} {k : Nat} (hk : am_LK k) (hts : ∀ w ∈ am_tbl, w.before args s = true) : ∀ w ∈ am_wj k, ∀ (a' : Array Value) (U : State), s.WarmedH U.vm → w.before a' U = true := fun w hw => by
  rcases List.mem_cons.mp hw with rfl | hw
  · exact am_good hts _ hk.1
  · exact am_good hts w hw
/-- what a method's contract says at its end -/
def am_Qm (D : va_G) (ad0 : Nat → Nat) (ca0 : Nat → ClassId) (h0 : am_H) (Z : Option Value → am_H → Prop) (A : Nat → Prop) : Array Value → State → Outcome → State → Prop := fun _ st oc t =>
  (∃ (v : Option Value) (h : am_H) (ad : Nat → Nat) (ca : Nat → ClassId), oc = .returned (v.map (am_cv ad)) ∧ Z v h ∧ ((∀ k, k < h0.1 ∨ k = 1000 → ad k = ad0 k) ∧ (∀ k, k < h0.1 → ca k = ca0 k) ∧ h0.1 ≤ h.1 ∧ h.1 ≤ 1000 ∧ h.2.1 1000 = h0.2.1 1000 ∧ h.2.2.1 1000 = h0.2.2.1 1000 ∧ am_sh h) ∧ (∀ x, v = some x → am_sv h.1 x) ∧ am_cc D t ad ca h t.heap ∧ va_D A (am_ws ad ca h)) ∧ va_F A st t
/-- a method's contract out of the abstract machine's -/
def am_MM (l : Launch) (D : va_G) (k : Nat) (as : List Value) (h : am_H) (Z : Option Value → am_H → Prop) : Prop := ∀ (sz : Nat) (ad : Nat → Nat) (ca : Nat → ClassId), am_ss h.1 as → am_sh h → h.1 ≤ 1000 →
  Met l (am_y k) (am_wj k) (am_room k) (va_Pc (as.map (am_cv ad)) (fun U => U.heap.size = sz ∧ am_cc D U ad ca h U.heap ∧ va_D (fun _ => True) (am_ws ad ca h) ∧ am_NS U)) (am_Qm D ad ca h Z (va_A (am_ws ad ca h) sz)) (am_mc k) (am_ms k) (va_A (am_ws ad ca h) sz)
theorem am_blind {D : va_G} {av : List Value} {sz : Nat} {ad : Nat → Nat} {ca : Nat → ClassId} {h : am_H} : FrameBlind (va_Pc av (fun U => U.heap.size = sz ∧ am_cc D U ad ca h U.heap ∧ va_D (fun _ => True) (am_ws ad ca h) ∧ am_NS U)) := fun a U g mk q => by
  obtain ⟨q0, q1, qC, qD, qN⟩ := q
  exact ⟨q0, q1, qC.moved (u := U) (U := U.calling g mk a) (Vm.Alike.refl U.vm), qD, qN.same rfl⟩
section ACL
variable {p : Program} {l : Launch} {e : Env} {R : Room} {s : State} {m : MethodId} {args : Array Value} {below : List Frame} {meth : Method} {c : Code} {Qw : State → Prop} {D : va_G} {A : Nat → Prop} {j n0 : Nat} {ad0 : Nat → Nat} {ca0 : Nat → ClassId} {l0 : Nat × Nat} {x0 : Nat → Int32}
theorem am_callG {H : Heap} {locs : List Loc} {cells slots mc ms pc : Nat} {la : Array Slot} {st0 rest : List Value} {Qa : State → Outcome → State → Prop} {free : Addr → Prop} {A1 : Nat → Prop} (hr : va_Run p l e R s m args below meth c H locs cells slots mc ms (F0 m pc la st0) rest Qa free) (hS : va_S A s.heap H locs) (hA : ∀ q, q < H.size → A1 q → A q) (hf : ∀ q, free q → A q) (hQ : ∀ st oc t, Qa st oc t → va_F A1 st t)
    (kk : ∀ (v : Option Value) (st₀ t : State) (H1 : Heap) (locs1 : List Loc), t.heap = H1 → s.vm.Alike t.vm → Qa st₀ (.returned v) t → va_S A s.heap H1 locs1 → W p l e R s m args below meth c H1 locs1 (cells + mc) (slots + ms) Qw (F0 m (pc + 3) la (v.toList ++ rest))) : W p l e R s m args below meth c H locs cells slots Qw (F0 m pc la st0) := by
  intro T hT X
  obtain ⟨v, st₀, t, T', L, h0, X', hL, e1, e2, hq, st⟩ := hr T hT X
  obtain ⟨hz, hk⟩ := hQ _ _ _ hq
  rw [h0] at hz hk
  obtain ⟨t2, a1, b1⟩ := kk v st₀ t T'.heap (locs ++ L) e1.symm (by rw [← e2]; exact X'.warmed.alike) hq
    ⟨Nat.le_trans hS.1 (by rw [e1]; exact hz), fun q h1 h2 => by rw [e1, hk q (Nat.lt_of_lt_of_le h1 hS.1) (fun z => h2 (hA q (Nat.lt_of_lt_of_le h1 hS.1) z))]; exact hS.2.1 q h1 h2, fun q hq => by
      rcases List.mem_append.mp hq with h | h
      · exact hS.2.2 q h
      · exact hf _ (hL q h)⟩ T' rfl X'
  exact ⟨t2, st t2 a1, b1⟩
/-- behind a call -/
theorem am_after {k pc : Nat} {ls : am_L} {st rest : List Value} {h : am_H} {u : am_U} {ad : Nat → Nat} {ca : Nat → ClassId} {la : Array Slot} {H : Heap} {locs : List Loc} {aa : Array Value} {stc : List Value} (hA : ∀ q, s.heap.size ≤ q → A q) (hin : am_In s D A j n0 ad0 ca0 l0 x0 ad ca la H locs ls st h u) (hrs : am_ss h.1 rest) (hu1 : u.1 + am_mc k ≤ am_mc j) (hu2 : u.2 + am_ms k ≤ am_ms j)
    (hr : va_Run p l e R s m args below meth c H locs u.1 u.2 (am_mc k) (am_ms k) (F0 m pc la stc) (rest.map (am_cv ad)) (am_Qm D ad ca h (fun v h' => am_Y p l e R s m args below meth c Qw D A j n0 ad0 ca0 l0 x0 (pc + 3) ls (v.toList ++ rest) h' (u.1 + am_mc k, u.2 + am_ms k)) (va_A (am_ws ad ca h) H.size) aa) (va_A (am_ws ad ca h) H.size)) :
    W p l e R s m args below meth c H locs u.1 u.2 Qw (F0 m pc la stc) := by
  obtain ⟨hB, ⟨hCC, hD, hS⟩, hu, hl, hst⟩ := hin
  have hAA : ∀ q, va_A (am_ws ad ca h) H.size q → A q := by
    rintro q (⟨i, w, hi⟩ | hq)
    · exact hD.2 i _ hi
    · exact hA q (Nat.le_trans hS.1 hq)
  refine am_callG hr hS (fun q _ hq => hAA q hq) hAA (fun st oc t hq => hq.2) (fun v st₀ t H1 locs1 ht hvm hq hS1 => ?_)
  obtain ⟨⟨v', h', ad', ca', ev, hZ, ⟨g1, g2, g3, g4, g5, g6, g7⟩, hv, hC', hD'⟩, -⟩ := hq
  have ev : v = v'.map (am_cv ad') := by injection ev
  have hle := g3
  have e1 : v.toList ++ rest.map (am_cv ad) = (v'.toList ++ rest).map (am_cv ad') := by
    rw [List.map_append, am_cvs_ext g1 hrs, ev]
    cases v' <;> rfl
  rw [e1]
  rw [ht] at hC'
  refine hZ ad' ca' la H1 locs1 ⟨⟨fun z hz => ?_, fun z hz => ?_, Nat.le_trans hB.2.2.1 g3, g4, g5.trans hB.2.2.2.2.1, g6.trans hB.2.2.2.2.2.1, g7⟩, ⟨hC'.moved hvm.symm, hD'.weaken (fun i q _ hq => hAA q.1 hq), hS1⟩, ⟨hu1, hu2⟩, ⟨fun i w hw => am_sv_up hle (hl.1 i w hw), am_lo_ext g1 hl.1 hl.2⟩, ?_⟩
  · rw [g1 z (by have := hB.2.2.1; omega)]; exact hB.1 z hz
  · rw [g2 z (by have := hB.2.2.1; omega)]; exact hB.2.1 z hz
  · intro w hw
    rcases List.mem_append.mp hw with hw | hw
    · cases v' with
      | none => cases hw
      | some y => rw [List.mem_singleton.mp hw]; exact hv y rfl
    · exact am_sv_up hle (hrs w hw)
theorem am_cal_e {k0 k : Nat} {as : List Value} {ls : am_L} {st : List Value} {h : am_H} {u : am_U} {q : Prop} {S : am_S} (hs : am_cal j k0 ls st h u = some (q, .inr (.inr (.inl (k, as, S))))) : q = (am_na k0 ≤ st.length ∧ ((st.drop (am_na k0)).map fun v => v.category).sum ≤ 8 ∧ am_rc h k0 (st.take (am_na k0)).reverse ∧ u.1 + am_mc k0 ≤ am_mc j ∧ u.2 + am_ms k0 ≤ am_ms j) ∧ k = k0 ∧ as = (st.take (am_na k0)).reverse ∧ S = (ls, st.drop (am_na k0), h, u.1 + am_mc k0, u.2 + am_ms k0) := by
  simp only [am_cal, Option.some.injEq, Prod.mk.injEq, Sum.inr.injEq, Sum.inl.injEq] at hs
  obtain ⟨h1, h2, h3, h4⟩ := hs
  exact ⟨h1.symm, h2.symm, h3.symm, h4.symm⟩
theorem am_nocall {q : Prop} {k : Nat} {as : List Value} {S : am_S} {z : Prop × am_O} {w : Prop} {ls : am_L} {st : List Value} {h : am_H} {u : am_U} (e1 : am_Nc w ls st h u = some z) (e2 : z = (q, .inr (.inr (.inl (k, as, S))))) : False := by
  subst e2
  simp [am_Nc] at e1
theorem am_st_split {n : Nat} {st as : List Value} (e : as = (st.take n).reverse) : st = as.reverse ++ st.drop n := by
  rw [e, List.reverse_reverse, List.take_append_drop]
theorem am_stC (hS0 : ∀ own x k, am_rm own x = (0, k) → k ≠ am_lst → am_LS own x k) (hV : ∀ own x k, am_rm own x = (6, k) → am_LV own x k) (hI : ∀ own x k, am_rm own x = (7, k) → am_LI own x k) (hcn : (am_y j).cls = am_cn (am_ow j)) (cx : am_Cx p s m args meth c R A j ad0 l0 x0) {i : Jvm.ClassFile.Instr} {pc : Nat} {ls : am_L} {st : List Value} {h : am_H} {u : am_U} {q : Prop} {k : Nat} {as : List Value} {S : am_S} (hkl : k ≠ am_lst) (hro : am_RO j k) (hd : decode (am_by j) pc = .ok (i, am_lp i pc)) (hs : am_sem j i pc ls st h u = some (q, .inr (.inr (.inl (k, as, S))))) (hok : am_okC i = true) (hc : q)
    (ho : am_MM l D k as S.2.2.1 (fun v h' => am_Y p l e R s m args below meth c Qw D A j n0 ad0 ca0 l0 x0 (pc + 3) S.1 (v.toList ++ S.2.1) h' S.2.2.2)) : am_Y p l e R s m args below meth c Qw D A j n0 ad0 ca0 l0 x0 pc ls st h u := by
  obtain ⟨hx, hb, hml, hown, hts, hini, hA, ⟨hRc, hRs, hRf, hRl⟩, hscr⟩ := cx
  rw [hcn] at hown
  have hfr : am_fr k + 1 ≤ R.frames := Nat.le_trans hro.1 hRf
  have hlo : 8 + (am_mL k + 11) + am_lr k ≤ R.locals := Nat.le_trans hro.2 hRl
  intro ad ca la H locs hin
  have hin' := hin
  obtain ⟨hB, ⟨hCC, hD, hS⟩, hu, hl, hst⟩ := hin
  cases i
  case invokestatic x =>
    simp only [am_sem, am_ivs] at hs
    cases hr : am_rm (am_ow j) x with
    | mk kd k0 =>
      rw [hr] at hs
      dsimp only at hs
      split at hs
      · obtain ⟨rfl, rfl, has, rfl⟩ := am_cal_e hs
        obtain ⟨hc1, hc2, hc3, hc4, hc5⟩ := hc
        obtain ⟨lk, f1, f2, f3⟩ := hS0 _ _ _ hr hkl
        have hsp := am_st_split has
        have hss : am_ss h.1 as := fun w hw => hst w (by rw [hsp]; exact List.mem_append_left _ (List.mem_reverse.mpr hw))
        have hrs : am_ss h.1 (st.drop (am_na k)) := fun w hw => hst w (List.mem_of_mem_drop hw)
        have hlen : as.length = am_na k := by rw [has]; simp; omega
        refine am_after hA hin' hrs hc4 hc5 (aa := (as.map (am_cv ad)).toArray) (va_runS (As := as.map (am_cv ad)) (n := am_na k) ⟨hx, hb, hml, hown, hts⟩ (ho H.size ad ca hss hB.2.2.2.2.2.2 hB.2.2.2.1) ⟨⟨rfl, rfl, hfr, hlo, am_goodj lk hts, List.mem_cons_self, hts _ lk.1, hts _ lk.2.1, lk.2.2.1, fun sig hsig => ?_, hts _ f1⟩, hts _ f2⟩ ⟨am_blind, fun U hU hW => ⟨rfl, by rw [hU], by rw [hU]; exact hCC.moved hW.alike, hD.weaken (fun _ _ _ _ => trivial), hscr.2.warm hW⟩⟩ rfl (by rw [List.length_map]; exact hlen) hl.2.1 ?_ (lv_room (by rw [am_cat_map]; exact hc2)) hd ⟨Nat.le_trans hc4 hRc, Nat.le_trans hc5 hRs⟩)
        · have f3 : _ = _ := f3
          rw [hsig] at f3
          exact (Option.some.inj f3).symm
        · show st.map (am_cv ad) = _
          conv => lhs; rw [hsp]
          rw [List.map_append, List.map_reverse]
      · obtain ⟨x, r, -, hs2⟩ := am_o1_i hs; exact (am_nocall hs2 rfl).elim
      · obtain ⟨x, r, -, hs2⟩ := am_l1_i hs; exact (am_nocall hs2 rfl).elim
      · obtain ⟨x, y, r, -, hs2⟩ := am_l2_i hs; exact (am_nocall hs2 rfl).elim
      · obtain ⟨x, y, r, -, hs2⟩ := am_l2_i hs; exact (am_nocall hs2 rfl).elim
      · cases hs
  case invokevirtual x =>
    simp only [am_sem, am_ivv] at hs
    cases hr : am_rm (am_ow j) x with
    | mk kd k0 =>
      rw [hr] at hs
      dsimp only at hs
      split at hs
      · obtain ⟨rfl, rfl, has, rfl⟩ := am_cal_e hs
        obtain ⟨hc1, hc2, hc3, hc4, hc5⟩ := hc
        obtain ⟨lk, ⟨T, ty0, t1, -⟩, hst0, f1, f2, f4, n, hn, f3⟩ := hV _ _ _ hr
        obtain ⟨a, as', eas, hty⟩ : ∃ a as', as = .ref a :: as' ∧ am_ty h a = some (am_ow k + 3) := by
          rw [← has] at hc3
          unfold am_rc at hc3
          split at hc3
          · exact ⟨_, _, rfl, hc3.resolve_left (by rw [hst0]; decide)⟩
          · rw [hst0] at hc3; cases hc3
        obtain ⟨ha, hka⟩ := am_ty_some hty
        have hsp := am_st_split has
        have hss : am_ss h.1 as := fun w hw => hst w (by rw [hsp]; exact List.mem_append_left _ (List.mem_reverse.mpr hw))
        have hrs : am_ss h.1 (st.drop (am_na k)) := fun w hw => hst w (List.mem_of_mem_drop hw)
        have hlen : as.length = am_na k := by rw [has]; simp; omega
        have hM := ho H.size ad ca hss hB.2.2.2.2.2.2 hB.2.2.2.1
        rw [eas] at hM hlen
        refine am_after hA hin' hrs hc4 hc5 (aa := (Value.ref (ad a) :: as'.map (am_cv ad)).toArray) (va_runV (As := as'.map (am_cv ad)) (b := ad a) (C := (am_y k).cls) (n := n) ⟨hx, hb, hml, hown, hts⟩ hM ⟨⟨rfl, rfl, hfr, hlo, am_goodj lk hts, List.mem_cons_self, hts _ lk.1, hts _ lk.2.1, lk.2.2.1, fun sig hsig => ?_, hts _ f1⟩, hts _ f2, hts _ f4⟩ ⟨am_blind, ?_, fun U hU hW => ⟨rfl, by rw [hU], by rw [hU]; exact hCC.moved hW.alike, hD.weaken (fun _ _ _ _ => trivial), hscr.2.warm hW⟩⟩ rfl (by rw [List.length_map]; rw [hn] at hlen; exact Nat.succ.inj hlen) hl.2.1 ?_ (lv_room (by rw [am_cat_map]; exact hc2)) hd ⟨Nat.le_trans hc4 hRc, Nat.le_trans hc5 hRs⟩)
        · have f3 : _ = _ := f3
          rw [hsig] at f3
          exact (Option.some.inj f3).symm
        · rw [lk.2.2.2.2]
          exact va_recv (ci := am_ow k) (q0 := a) hCC.2.1 hCC.1 t1 (am_ws_at ha |>.trans (by rw [am_ce_obj hka]))
        · show st.map (am_cv ad) = _
          conv => lhs; rw [hsp, eas]
          simp [am_cv]
      · cases hs
  case invokespecial x =>
    simp only [am_sem, am_ivi] at hs
    cases hr : am_rm (am_ow j) x with
    | mk kd k0 =>
      rw [hr] at hs
      dsimp only at hs
      split at hs
      · obtain ⟨rfl, rfl, has, rfl⟩ := am_cal_e hs
        obtain ⟨hc1, hc2, hc3, hc4, hc5⟩ := hc
        obtain ⟨lk, hst0, f1, f2, f4, f5, n, hn, f3⟩ := hI _ _ _ hr
        obtain ⟨a, as', eas, hty⟩ : ∃ a as', as = .ref a :: as' ∧ am_ty h a = some (am_ow k + 3) := by
          rw [← has] at hc3
          unfold am_rc at hc3
          split at hc3
          · exact ⟨_, _, rfl, hc3.resolve_left (by rw [hst0]; decide)⟩
          · rw [hst0] at hc3; cases hc3
        have hsp := am_st_split has
        have hss : am_ss h.1 as := fun w hw => hst w (by rw [hsp]; exact List.mem_append_left _ (List.mem_reverse.mpr hw))
        have hrs : am_ss h.1 (st.drop (am_na k)) := fun w hw => hst w (List.mem_of_mem_drop hw)
        have hlen : as.length = am_na k := by rw [has]; simp; omega
        have hM := ho H.size ad ca hss hB.2.2.2.2.2.2 hB.2.2.2.1
        rw [eas] at hM hlen
        have hsig : ∀ sig, parseMethodDescriptor (am_y k).desc = some sig → n = sig.parameters.length := fun sig hsig => by
          have f3 : _ = _ := f3
          rw [hsig] at f3
          exact (Option.some.inj f3).symm
        have hstk : st.map (am_cv ad) = (as'.map (am_cv ad)).reverse ++ .ref (ad a) :: (st.drop (am_na k)).map (am_cv ad) := by
          conv => lhs; rw [hsp, eas]
          simp [am_cv]
        have hln : (as'.map (am_cv ad)).length = n := by rw [List.length_map]; rw [hn] at hlen; exact Nat.succ.inj hlen
        have hcode : Cond.code (am_y k) (am_by k) (am_mL k) none ∈ am_wj k := by rw [← f5]; exact List.mem_cons_self
        have hcodeb : (Cond.code (am_y k) (am_by k) (am_mL k) none).before args s = true := by rw [← f5]; exact hts _ lk.1
        rcases f1 with f1 | ⟨host, f1⟩
        · exact am_after hA hin' hrs hc4 hc5 (aa := (Value.ref (ad a) :: as'.map (am_cv ad)).toArray) (va_runI (As := as'.map (am_cv ad)) (b := ad a) (n := n) ⟨hx, hb, hml, hown, hts⟩ hM ⟨⟨rfl, rfl, hfr, hlo, am_goodj lk hts, hcode, hcodeb, hts _ lk.2.1, lk.2.2.1, hsig, hts _ f1⟩, f4, hts _ f2⟩ ⟨am_blind, fun U hU hW => ⟨rfl, by rw [hU], by rw [hU]; exact hCC.moved hW.alike, hD.weaken (fun _ _ _ _ => trivial), hscr.2.warm hW⟩⟩ rfl hln hl.2.1 hstk (lv_room (by rw [am_cat_map]; exact hc2)) hd ⟨Nat.le_trans hc4 hRc, Nat.le_trans hc5 hRs⟩)
        · exact am_after hA hin' hrs hc4 hc5 (aa := (Value.ref (ad a) :: as'.map (am_cv ad)).toArray) (va_runIN (As := as'.map (am_cv ad)) (b := ad a) (n := n) (host := host) ⟨hx, hb, hml, hown, hts⟩ hM ⟨⟨⟨rfl, rfl, hfr, hlo, am_goodj lk hts, hcode⟩, hcodeb, hts _ lk.2.1, lk.2.2.1, hsig, va_Nw.use rfl (hscr.2 _ f1)⟩, f4, hts _ f2⟩ ⟨am_blind, fun U hU hW => ⟨rfl, by rw [hU], by rw [hU]; exact hCC.moved hW.alike, hD.weaken (fun _ _ _ _ => trivial), hscr.2.warm hW⟩⟩ rfl hln hl.2.1 hstk (lv_room (by rw [am_cat_map]; exact hc2)) hd ⟨Nat.le_trans hc4 hRc, Nat.le_trans hc5 hRs⟩)
      · obtain ⟨x, r, -, hs2⟩ := am_a1_i hs; exact (am_nocall hs2 rfl).elim
      · cases hs
  all_goals exact (Bool.false_ne_true hok).elim
end ACL
