/-! FROM THE ABSTRACT LAW TO THE LAW: the walk -/
/-- how a call of street() with its catch goes on -/
def HK (p : Program) (l : Launch) (e : Env) (s : State) (m : MethodId) (args : Array Value) (below : List Frame) (meth : Method) (c : Code) (Qw : State → Prop) (D : va_G) (A : Nat → Prop) (n0 : Nat) (ad0 : Nat → Nat) (ca0 : Nat → ClassId) (l0 : Nat × Nat) (x0 : Nat → Int32) : Prop :=
  ∀ (i : Jvm.ClassFile.Instr) (pc : Nat) (ls : am_L) (st : List Value) (h : am_H) (u : am_U) (q : Prop) (as : List Value) (S : am_S), decode (am_by 140) pc = .ok (i, 3) → am_okC i = true → am_sem 140 i pc ls st h u = some (q, .inr (.inr (.inl (am_lst, as, S)))) → q → lwC 7 am_lst as S.2.2.1 (fun v h' => am_Y p l e room_1 s m args below meth c Qw D A 140 n0 ad0 ca0 l0 x0 (pc + 3) S.1 (v.toList ++ S.2.1) h' S.2.2.2) → am_Y p l e room_1 s m args below meth c Qw D A 140 n0 ad0 ca0 l0 x0 pc ls st h u
theorem lw_W_forget {p : Program} {l : Launch} {e : Env} {Rm : Room} {s : State} {m : MethodId} {as0 : Array Value} {below : List Frame} {meth : Method} {c : Code} {Hp : Heap} {lo0 : List Loc} {ce0 sl0 : Nat} {Qz : State → Prop} {Fr0 : JFrame} (hl : ∀ y ∈ lo0, s.heap.size ≤ y.base) (h : W p l e Rm s m as0 below meth c Hp [] ce0 sl0 Qz Fr0) : W p l e Rm s m as0 below meth c Hp lo0 ce0 sl0 Qz Fr0 := by
  intro T hT X
  exact h T hT (Stand.forget (locs := []) (extra := lo0) X hl)
theorem whole_hook {p : Program} {e : Env} {s : State} {m : MethodId} {below : List Frame} {meth : Method} {c : Code} (l : Launch) {b L : Nat} {xs : Nat → Int32} (hL : L ≤ 4096) (C0 : lw_At p s m meth c b L xs)
    (HH : ∀ (Qw : State → Prop) (D : va_G) (A : Nat → Prop) (ad0 : Nat → Nat) (ca0 : Nat → ClassId) (l0 : Nat × Nat) (x0 : Nat → Int32), am_Cx p s m #[Value.ref b] meth c room_1 A 140 ad0 l0 x0 → (∀ q, A q → s.heap.size ≤ q) → HK p l e s m #[Value.ref b] below meth c Qw D A 0 ad0 ca0 l0 x0) : W p l e room_1 s m #[Value.ref b] below meth c s.heap [] 0 0 (lw_Z below #[Value.ref b] s) (entryFrame m ([Value.ref b] : List Value).toArray 7) := by
  obtain ⟨hx, hb, hr, hml, hown, hts0, hX, hbl, hlocks, hgv⟩ := C0
  have hts : ∀ w ∈ am_tbl, w.before #[Value.ref b] s = true := fun w hw => hts0 w (List.mem_filter.mp hw).1
  obtain ⟨D, hK⟩ := am_K0 hts
  have hNS := am_NS0 hts0
  have ex0 : iH (fI (fun j => (xs j).toInt)) 1000 = xs := funext fun j => by
    show iZ (fI (fun j => (xs j).toInt) 1000 j) = xs j
    rw [show fI (fun j => (xs j).toInt) 1000 j = (xs j).toInt from if_pos rfl]
    exact iZ_i _
  obtain ⟨A, hA⟩ : ∃ A : Nat → Prop, A = fun q => s.heap.size ≤ q := ⟨_, rfl⟩
  obtain ⟨ad0, had⟩ : ∃ ad0 : Nat → Nat, ad0 = fun _ => b := ⟨_, rfl⟩
  have cx : am_Cx p s m #[Value.ref b] meth c room_1 A 140 ad0 (sh_lt L 1000) (iH (fI (fun j => (xs j).toInt)) 1000) := by
    refine ⟨hx, hb, hml, hown, hts, fun h => absurd h (by decide), fun q hq => by rw [hA]; exact hq, ⟨by decide, by decide, by decide, by decide⟩, fun _ => ⟨?_, ?_, ?_⟩, hNS⟩
    · rw [ex0, had]; exact hX
    · rw [had]; exact hbl
    · rw [hA, had]
      show ¬ s.heap.size ≤ b
      omega
  have hR : ∀ (i : Jvm.ClassFile.Instr) (pc : Nat) (v : Option Value) (ls : am_L) (h' : am_H) (u : am_U), decode (am_by 140) pc = .ok (i, 1) → am_rq 140 i v → v = some (.int (iZ 1)) → am_Y p l e room_1 s m #[Value.ref b] below meth c (lw_Z below #[Value.ref b] s) D A 140 0 ad0 (fun _ => 0) (sh_lt L 1000) (iH (fI (fun j => (xs j).toInt)) 1000) pc ls v.toList h' u := by
    intro i pc v ls h' u hd hq hv ad' ca' la H locs hin
    obtain ⟨hB, ⟨hCC', hD', hS'⟩, hu, hl, hst⟩ := hin
    subst hv
    rcases hq with ⟨rfl, x, hx2, hq⟩ | ⟨rfl, hq, x, hx2⟩ | ⟨rfl, hq, hx2⟩
    · refine W.widen hu.1 hu.2 (lw_W_forget (fun y hy => ?_) (lw_ret hx hb hr hlocks hd))
      have := hS'.2.2 y hy
      rw [hA] at this
      exact this
    · cases hx2
    · cases hx2
  have key := law_start (d := 0) (L := L) (X := fun j => (xs j).toInt) (Q := fun v _ => v = some (.int (iZ 1))) hL (fun _ => rfl) (am_Y p l e room_1 s m #[Value.ref b] below meth c (lw_Z below #[Value.ref b] s) D A 140 0 ad0 (fun _ => 0) (sh_lt L 1000) (iH (fI (fun j => (xs j).toInt)) 1000))
    (fun pc ls st h' u z => am_run_s tb_FX rfl cx (lwC_sound l D 7) (HH _ D A ad0 _ _ _ cx (fun q hq => by rw [hA] at hq; exact hq)) (lwC_mono 7) (fun _ _ _ _ _ z => z) (fun i pc v ls h' u hd hq hv => hR i pc v ls h' u hd hq hv) _ _ _ (am_chk_code ck_law pc) z)
    (fun pc ls ls' st h' u hle hx ad' ca' la H locs hin => hx ad' ca' la H locs ⟨hin.1, hin.2.1, hin.2.2.1, ⟨fun i v hv => hin.2.2.2.1.1 i v (hle i v hv), am_lo_le hle hin.2.2.2.1.2⟩, hin.2.2.2.2⟩)
  have hl := lv_entry ([Value.ref b] : List Value) (n := 7) (Nat.le_of_ble_eq_true rfl)
  rw [lg_entry_eq]
  generalize (lg_sl ([Value.ref b] : List Value) ++ List.replicate (7 - (lg_sl ([Value.ref b] : List Value)).length) Slot.unset).toArray = la at hl ⊢
  refine key ad0 (fun _ => 0) la s.heap [] ⟨⟨fun _ _ => rfl, fun _ _ => rfl, Nat.le_refl _, Nat.zero_le _, rfl, rfl, fun k j hk => absurd hk (Nat.not_lt_zero k)⟩, ⟨⟨fun k q hq => ?_, hK, fun k hk => absurd hk (Nat.not_lt_zero k)⟩, ⟨fun i j p q hp => ?_, fun k q hq => ?_⟩, va_S.rf⟩, ⟨Nat.zero_le _, Nat.zero_le _⟩, ⟨fun i v hv => ?_, ?_⟩, fun w hw => (List.not_mem_nil hw).elim⟩
  · exact absurd hq (by simp [am_ws])
  · exact absurd hp (by simp [am_ws])
  · exact absurd hq (by simp [am_ws])
  · match i with
    | 0 => cases (Option.some.inj hv); exact Or.inr rfl
    | 1 | 2 | 3 | 4 | 5 | 6 => cases hv
    | _ + 7 => cases hv
  · have e1 : lv_has la (am_mL 140) (lv_args 0 ([Value.ref 1000].map (am_cv ad0))) := by
      rw [had]; exact hl
    exact am_en_lo (k := 140) (as := [Value.ref 1000]) e1
