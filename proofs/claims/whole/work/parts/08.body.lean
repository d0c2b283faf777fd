/-! A METHOD'S BODY, A METHOD -/
def am_MA (own x : Nat) (y : MethodName) (cd : ByteArray) (n : Nat) (ty : FieldType) : Prop := Cond.methodLink (am_cn own) x y ∈ am_tbl ∧ Cond.static y ∈ am_tbl ∧ Cond.initialized "java/lang/Math" ∈ am_tbl ∧ Cond.code y cd n (some ty) ∈ am_tbl
/-- what the tables of the program say -/
def am_FX : Prop := (∀ own x c k, am_rf own x = some (c, k) → am_FO own x c k) ∧ (∀ own x c, am_rn own x = some c → am_NO own x c) ∧ (∀ t, t < 3 → Cond.arrayClass (am_at t) ∈ am_tbl) ∧ (∀ own x k, am_rm own x = (0, k) → k ≠ am_lst → am_LS own x k) ∧ (∀ own x k, am_rm own x = (6, k) → am_LV own x k) ∧ (∀ own x k, am_rm own x = (7, k) → am_LI own x k) ∧ (∀ own x v, am_kL own x = some v → Cond.constantLong (am_cn own) x v ∈ am_tbl) ∧
  (∀ own x k, am_rm own x = (1, k) → Cond.methodLink (am_cn own) x Lib.objectInit ∈ am_tbl) ∧ Cond.instanceMethod Lib.objectInit ∈ am_tbl ∧ Cond.code Lib.objectInit ⟨#[0xb1]⟩ 1 none ∈ am_tbl ∧
  (∀ own x k, am_rm own x = (2, k) → am_MA own x Lib.Math.abs.name Lib.Math.abs.code 1 .int) ∧ (∀ own x k, am_rm own x = (3, k) → am_MA own x Lib.MathLoose.abs_long.x Lib.MathLoose.abs_long.code 2 .long) ∧ (∀ own x k, am_rm own x = (4, k) → am_MA own x Lib.MathLoose.max_long.x Lib.MathLoose.max_long.code 4 .long) ∧ (∀ own x k, am_rm own x = (5, k) → am_MA own x Lib.MathLoose.min_long.x Lib.MathLoose.min_long.code 4 .long)
/-- what an instruction returns -/
def am_rq (j : Nat) (i : Jvm.ClassFile.Instr) (v : Option Value) : Prop := (i = .ireturn ∧ ∃ x, v = some (.int x) ∧ (am_rt j = 0 ∨ am_rt j = 1 ∧ (x = 0 ∨ x = 1))) ∨ (i = .lreturn ∧ am_rt j = 2 ∧ ∃ x, v = some (.long x)) ∨ (i = .return_ ∧ am_rt j = 3 ∧ v = none)
theorem am_N_o {ls : am_L} {st : List Value} {h : am_H} {u : am_U} {z : Prop × am_O} (e : am_N ls st h u = some z) : ∃ S, z.2 = .inl S := by
  cases e; exact ⟨_, rfl⟩
theorem am_Nc_o {w : Prop} {ls : am_L} {st : List Value} {h : am_H} {u : am_U} {z : Prop × am_O} (e : am_Nc w ls st h u = some z) : ∃ S, z.2 = .inl S := by
  cases e; exact ⟨_, rfl⟩
theorem am_J_o {pc : Nat} {ls : am_L} {st : List Value} {h : am_H} {u : am_U} {z : Prop × am_O} (e : am_J pc ls st h u = some z) : ∃ S, z.2 = .inr (.inl S) := by
  cases e; exact ⟨_, rfl⟩
theorem am_kA {j : Nat} {i : Jvm.ClassFile.Instr} {pc : Nat} {ls : am_L} {st : List Value} {h : am_H} {u : am_U} {z : Prop × am_O} (hok : am_okA j i = true) (hs : am_sem j i pc ls st h u = some z) : ∃ S, z.2 = .inl S := by
  cases i <;> first
    | exact (Bool.false_ne_true hok).elim
    | exact am_N_o hs
    | exact am_Nc_o hs
    | (obtain ⟨_, _, hs⟩ := am_vi_i hs; exact am_N_o hs)
    | (obtain ⟨_, _, hs⟩ := am_vl_i hs; exact am_N_o hs)
    | (obtain ⟨_, _, hs⟩ := am_va_i hs; exact am_N_o hs)
    | (obtain ⟨_, _, _, hs⟩ := am_o1_i hs; first | exact am_N_o hs | exact am_Nc_o hs)
    | (obtain ⟨_, _, _, hs⟩ := am_l1_i hs; first | exact am_N_o hs | exact am_Nc_o hs)
    | (obtain ⟨_, _, _, hs⟩ := am_a1_i hs; first | exact am_N_o hs | exact am_Nc_o hs)
    | (obtain ⟨_, _, _, _, hs⟩ := am_o2_i hs; first | exact am_N_o hs | exact am_Nc_o hs)
    | (obtain ⟨_, _, _, _, hs⟩ := am_l2_i hs; first | exact am_N_o hs | exact am_Nc_o hs)
    | (obtain ⟨_, _, _, _, hs⟩ := am_li_i hs; first | exact am_N_o hs | exact am_Nc_o hs)
    | (obtain ⟨_, _, _, _, hs⟩ := am_ai_i hs; first | exact am_N_o hs | exact am_Nc_o hs)
    | (obtain ⟨_, _, _, _, _, hs⟩ := am_aii_i hs; exact am_Nc_o hs)
    | (obtain ⟨_, _, _, _, _, hs⟩ := am_ail_i hs; exact am_Nc_o hs)
    | (simp only [am_sem] at hs; split at hs; exact am_Nc_o hs; cases hs)
theorem am_kF {j : Nat} {i : Jvm.ClassFile.Instr} {pc : Nat} {ls : am_L} {st : List Value} {h : am_H} {u : am_U} {z : Prop × am_O} (hok : am_okF i = true) (hs : am_sem j i pc ls st h u = some z) : ∃ S, z.2 = .inl S := by
  cases i <;> first
    | exact (Bool.false_ne_true hok).elim
    | exact am_N_o hs
    | exact am_Nc_o hs
    | (obtain ⟨_, _, hs⟩ := am_vi_i hs; exact am_N_o hs)
    | (obtain ⟨_, _, hs⟩ := am_vl_i hs; exact am_N_o hs)
    | (obtain ⟨_, _, hs⟩ := am_va_i hs; exact am_N_o hs)
    | (obtain ⟨_, _, _, hs⟩ := am_o1_i hs; first | exact am_N_o hs | exact am_Nc_o hs)
    | (obtain ⟨_, _, _, hs⟩ := am_l1_i hs; first | exact am_N_o hs | exact am_Nc_o hs)
    | (obtain ⟨_, _, _, hs⟩ := am_a1_i hs; first | exact am_N_o hs | exact am_Nc_o hs)
    | (obtain ⟨_, _, _, _, hs⟩ := am_o2_i hs; first | exact am_N_o hs | exact am_Nc_o hs)
    | (obtain ⟨_, _, _, _, hs⟩ := am_l2_i hs; first | exact am_N_o hs | exact am_Nc_o hs)
    | (obtain ⟨_, _, _, _, hs⟩ := am_li_i hs; first | exact am_N_o hs | exact am_Nc_o hs)
    | (obtain ⟨_, _, _, _, hs⟩ := am_ai_i hs; first | exact am_N_o hs | exact am_Nc_o hs)
    | (obtain ⟨_, _, _, _, _, hs⟩ := am_aii_i hs; exact am_Nc_o hs)
    | (obtain ⟨_, _, _, _, _, hs⟩ := am_ail_i hs; exact am_Nc_o hs)
    | (simp only [am_sem] at hs
       split at hs
       · obtain ⟨_, _, _, hs⟩ := am_a1_i hs; exact am_Nc_o hs
       · cases hs)
    | (simp only [am_sem] at hs
       split at hs
       · obtain ⟨_, _, _, _, hs⟩ := am_av_i hs
         split at hs
         · exact am_Nc_o hs
         · cases hs
       · cases hs)
theorem am_kN {j : Nat} {i : Jvm.ClassFile.Instr} {pc : Nat} {ls : am_L} {st : List Value} {h : am_H} {u : am_U} {z : Prop × am_O} (hok : am_okN i = true) (hs : am_sem j i pc ls st h u = some z) : ∃ S, z.2 = .inl S := by
  cases i <;> first
    | exact (Bool.false_ne_true hok).elim
    | (simp only [am_sem] at hs
       split at hs
       · exact am_Nc_o hs
       · cases hs)
    | (simp only [am_sem] at hs
       split at hs
       · obtain ⟨_, _, _, hs⟩ := am_o1_i hs; exact am_Nc_o hs
       · cases hs)
theorem am_kJ {j : Nat} {i : Jvm.ClassFile.Instr} {pc : Nat} {ls : am_L} {st : List Value} {h : am_H} {u : am_U} {z : Prop × am_O} (hok : am_okJ pc i = true) (hs : am_sem j i pc ls st h u = some z) : ∃ S, z.2 = .inr (.inl S) := by
  cases i <;> first
    | exact (Bool.false_ne_true hok).elim
    | exact am_J_o hs
    | (obtain ⟨_, _, _, hs⟩ := am_o1_i hs; exact am_J_o hs)
    | (obtain ⟨_, _, _, _, hs⟩ := am_o2_i hs; exact am_J_o hs)
theorem am_kR {j : Nat} {i : Jvm.ClassFile.Instr} {pc : Nat} {ls : am_L} {st : List Value} {h : am_H} {u : am_U} {z : Prop × am_O} (hok : am_okR i = true) (hs : am_sem j i pc ls st h u = some z) : ∃ v, z.2 = .inr (.inr (.inr (v, h))) ∧ st = v.toList ∧ (z.1 → am_rq j i v) := by
  cases i
  case ireturn =>
    simp only [am_sem] at hs
    split at hs
    · cases hs; exact ⟨_, rfl, rfl, fun q => Or.inl ⟨rfl, _, rfl, q⟩⟩
    · cases hs
  case lreturn =>
    simp only [am_sem] at hs
    split at hs
    · cases hs; exact ⟨_, rfl, rfl, fun q => Or.inr (Or.inl ⟨rfl, q, _, rfl⟩)⟩
    · cases hs
  case return_ =>
    simp only [am_sem] at hs
    split at hs
    · cases hs; exact ⟨_, rfl, rfl, fun q => Or.inr (Or.inr ⟨rfl, q, rfl⟩)⟩
    · cases hs
  all_goals exact (Bool.false_ne_true hok).elim
theorem am_kM {j : Nat} {i : Jvm.ClassFile.Instr} {pc : Nat} {ls : am_L} {st : List Value} {h : am_H} {u : am_U} {z : Prop × am_O} (hok : am_okM j i = true) (hs : am_sem j i pc ls st h u = some z) : (∃ S, z.2 = .inl S) ∨ am_okC i = true ∧ ∃ k as S, z.2 = .inr (.inr (.inl (k, as, S))) ∧ am_RO j k := by
  cases i
  case ldc2_w x =>
    simp only [am_sem] at hs
    split at hs
    · exact Or.inl (am_N_o hs)
    · cases hs
  case ldc x => cases hs
  case athrow => cases hs
  case invokevirtual x =>
    simp only [am_sem, am_ivv] at hs
    cases hr : am_rm (am_ow j) x with
    | mk kd k0 =>
      have hok : am_okr j x = true := hok
      simp only [am_okr, hr] at hok
      rw [hr] at hs
      dsimp only at hs
      split at hs
      · cases hs
        simp only [Bool.and_eq_true, decide_eq_true_eq] at hok
        exact Or.inr ⟨rfl, _, _, _, rfl, hok⟩
      · cases hs
  case invokespecial x =>
    simp only [am_sem, am_ivi] at hs
    cases hr : am_rm (am_ow j) x with
    | mk kd k0 =>
      have hok : am_okr j x = true := hok
      simp only [am_okr, hr] at hok
      rw [hr] at hs
      dsimp only at hs
      split at hs
      · cases hs
        simp only [Bool.and_eq_true, decide_eq_true_eq] at hok
        exact Or.inr ⟨rfl, _, _, _, rfl, hok⟩
      · obtain ⟨_, _, _, hs⟩ := am_a1_i hs; exact Or.inl (am_Nc_o hs)
      · cases hs
  case invokestatic x =>
    simp only [am_sem, am_ivs] at hs
    cases hr : am_rm (am_ow j) x with
    | mk kd k0 =>
      have hok : am_okr j x = true := hok
      simp only [am_okr, hr] at hok
      rw [hr] at hs
      dsimp only at hs
      split at hs
      · cases hs
        simp only [Bool.and_eq_true, decide_eq_true_eq] at hok
        exact Or.inr ⟨rfl, _, _, _, rfl, hok⟩
      · obtain ⟨_, _, _, hs⟩ := am_o1_i hs; exact Or.inl (am_Nc_o hs)
      · obtain ⟨_, _, _, hs⟩ := am_l1_i hs; exact Or.inl (am_Nc_o hs)
      · obtain ⟨_, _, _, _, hs⟩ := am_l2_i hs; exact Or.inl (am_Nc_o hs)
      · obtain ⟨_, _, _, _, hs⟩ := am_l2_i hs; exact Or.inl (am_Nc_o hs)
      · cases hs
  all_goals exact (Bool.false_ne_true hok).elim
section ABD
variable {p : Program} {l : Launch} {e : Env} {R : Room} {s : State} {m : MethodId} {args : Array Value} {below : List Frame} {meth : Method} {c : Code} {Qw : State → Prop} {D : va_G} {A : Nat → Prop} {j n0 : Nat} {ad0 : Nat → Nat} {ca0 : Nat → ClassId} {l0 : Nat × Nat} {x0 : Nat → Int32}
/-- constants, Object's constructor, Math -/
theorem am_stM (F : am_FX) (hcn : (am_y j).cls = am_cn (am_ow j)) (cx : am_Cx p s m args meth c R A j ad0 l0 x0) {i : Jvm.ClassFile.Instr} {pc : Nat} {ls : am_L} {st : List Value} {h : am_H} {u : am_U} {q : Prop} {S : am_S} (hd : decode (am_by j) pc = .ok (i, am_lp i pc)) (hok : am_okM j i = true) (hs : am_sem j i pc ls st h u = some (q, .inl S)) (hc : q) (ho : am_Y p l e R s m args below meth c Qw D A j n0 ad0 ca0 l0 x0 (pc + am_len i) S.1 S.2.1 S.2.2.1 S.2.2.2) : am_Y p l e R s m args below meth c Qw D A j n0 ad0 ca0 l0 x0 pc ls st h u := by
  obtain ⟨-, -, -, -, -, -, F7, F8, F9, F10, F11, F12, F13, F14⟩ := F
  obtain ⟨hx, hb, hml, hown, hts, hini, hA, ⟨hRc, hRs, hRf, hRl⟩, hscr⟩ := cx
  rw [hcn] at hown
  intro ad ca la H locs hin
  obtain ⟨hB, hW, hu, hl, hst⟩ := hin
  cases i
  case ldc2_w x =>
    simp only [am_sem] at hs
    cases hr : am_kL (am_ow j) x with
    | none => rw [hr] at hs; cases hs
    | some v =>
      rw [hr] at hs
      obtain rfl := am_N_e hs
      exact lv_ldc2 hx hb hown (hts _ (F7 _ _ _ hr)) hd (ho ad ca la H locs ⟨hB, hW, hu, hl, hst.k trivial⟩)
  case ldc x => cases hs
  case athrow => cases hs
  case invokevirtual x =>
    simp only [am_sem, am_ivv] at hs
    split at hs
    · simp [am_cal] at hs
    · cases hs
  case invokespecial x =>
    simp only [am_sem, am_ivi] at hs
    cases hr : am_rm (am_ow j) x with
    | mk kd k0 =>
      have hok : am_okr j x = true := hok
      simp only [am_okr, hr] at hok
      rw [hr] at hs
      dsimp only at hs
      split at hs
      · simp [am_cal] at hs
      · obtain ⟨a, r, est, hs2⟩ := am_a1_i hs
        clear hs
        subst est
        obtain ⟨rfl, rfl⟩ := am_Nc_e hs2
        simp only [Bool.and_eq_true, decide_eq_true_eq] at hok
        have hc : (r.map fun v => v.category).sum ≤ 8 := hc
        refine W.objInit hx hb hown (hts _ (F8 _ _ _ hr)) (hts _ F9) (hts _ F10) rfl (by rw [hml]; exact hl.2.1) rfl hd (Nat.le_trans hok.1 hRf) ?_ ?_
        · have := Nat.le_trans hok.2 hRl
          show 2 * 0 + ((r.map (am_cv ad)).map fun v => v.category).sum + 12 ≤ R.locals
          rw [am_cat_map]
          omega
        · exact W.eq (g2 := F0 m (pc + 3) la (r.map (am_cv ad))) rfl (ho ad ca la H locs ⟨hB, hW, hu, hl, hst.t⟩)
      · cases hs
  case invokestatic x =>
    simp only [am_sem, am_ivs] at hs
    cases hr : am_rm (am_ow j) x with
    | mk kd k0 =>
      have hok : am_okr j x = true := hok
      simp only [am_okr, hr] at hok
      rw [hr] at hs
      dsimp only at hs
      split at hs
      · simp [am_cal] at hs
      · obtain ⟨x1, r, est, hs2⟩ := am_o1_i hs
        clear hs
        subst est
        obtain ⟨rfl, rfl⟩ := am_Nc_e hs2
        simp only [Bool.and_eq_true, decide_eq_true_eq] at hok
        have hc : (r.map fun v => v.category).sum ≤ 8 := hc
        obtain ⟨q1, q2, q3, q4⟩ := F11 _ _ _ hr
        have hlo : ((r.map (am_cv ad)).map fun v => v.category).sum + 13 ≤ R.locals := by
          have := Nat.le_trans hok.2 hRl
          rw [am_cat_map]
          omega
        exact va_mabs hx hb (by rw [hml]; exact hl.2.1.symm) hown (hts _ q1) (hts _ q2) (hts _ q3) (hts _ q4) (Nat.le_trans hok.1 hRf) hlo (Nat.le_trans hu.1 hRc) (Nat.le_trans hu.2 hRs) hd (ho ad ca la H locs ⟨hB, hW, hu, hl, (hst.t).k trivial⟩)
      · obtain ⟨x1, r, est, hs2⟩ := am_l1_i hs
        clear hs
        subst est
        obtain ⟨rfl, rfl⟩ := am_Nc_e hs2
        simp only [Bool.and_eq_true, decide_eq_true_eq] at hok
        have hc : (r.map fun v => v.category).sum ≤ 8 := hc
        obtain ⟨q1, q2, q3, q4⟩ := F12 _ _ _ hr
        have hlo : ((r.map (am_cv ad)).map fun v => v.category).sum + 13 ≤ R.locals := by
          have := Nat.le_trans hok.2 hRl
          rw [am_cat_map]
          omega
        exact va_mabs_long hx hb (by rw [hml]; exact hl.2.1.symm) hown (hts _ q1) (hts _ q2) (hts _ q3) (hts _ q4) (Nat.le_trans hok.1 hRf) hlo (Nat.le_trans hu.1 hRc) (Nat.le_trans hu.2 hRs) hd (ho ad ca la H locs ⟨hB, hW, hu, hl, (hst.t).k trivial⟩)
      · obtain ⟨x1, x2, r, est, hs2⟩ := am_l2_i hs
        clear hs
        subst est
        obtain ⟨rfl, rfl⟩ := am_Nc_e hs2
        simp only [Bool.and_eq_true, decide_eq_true_eq] at hok
        have hc : (r.map fun v => v.category).sum ≤ 8 := hc
        obtain ⟨q1, q2, q3, q4⟩ := F13 _ _ _ hr
        have hlo : ((r.map (am_cv ad)).map fun v => v.category).sum + 15 ≤ R.locals := by
          have := Nat.le_trans hok.2 hRl
          rw [am_cat_map]
          omega
        exact va_mmax_long hx hb (by rw [hml]; exact hl.2.1.symm) hown (hts _ q1) (hts _ q2) (hts _ q3) (hts _ q4) (Nat.le_trans hok.1 hRf) hlo (Nat.le_trans hu.1 hRc) (Nat.le_trans hu.2 hRs) hd (ho ad ca la H locs ⟨hB, hW, hu, hl, (hst.t.t).k trivial⟩)
      · obtain ⟨x1, x2, r, est, hs2⟩ := am_l2_i hs
        clear hs
        subst est
        obtain ⟨rfl, rfl⟩ := am_Nc_e hs2
        simp only [Bool.and_eq_true, decide_eq_true_eq] at hok
        have hc : (r.map fun v => v.category).sum ≤ 8 := hc
        obtain ⟨q1, q2, q3, q4⟩ := F14 _ _ _ hr
        have hlo : ((r.map (am_cv ad)).map fun v => v.category).sum + 15 ≤ R.locals := by
          have := Nat.le_trans hok.2 hRl
          rw [am_cat_map]
          omega
        exact va_mmin_long hx hb (by rw [hml]; exact hl.2.1.symm) hown (hts _ q1) (hts _ q2) (hts _ q3) (hts _ q4) (Nat.le_trans hok.1 hRf) hlo (Nat.le_trans hu.1 hRc) (Nat.le_trans hu.2 hRs) hd (ho ad ca la H locs ⟨hB, hW, hu, hl, (hst.t.t).k trivial⟩)
      · cases hs
  all_goals exact (Bool.false_ne_true hok).elim
/-- a stretch of code -/
theorem am_run_s (F : am_FX) (hcn : (am_y j).cls = am_cn (am_ow j)) (cx : am_Cx p s m args meth c R A j ad0 l0 x0) {C : am_C} {Q : Option Value → am_H → Prop} {X : am_X} (hC : ∀ k as h Z, k ≠ am_lst → C k as h Z → am_MM l D k as h Z) (hLst : ∀ (i : Jvm.ClassFile.Instr) (pc : Nat) (ls : am_L) (st : List Value) (h : am_H) (u : am_U) (q : Prop) (as : List Value) (S : am_S), decode (am_by j) pc = .ok (i, 3) → am_okC i = true → am_sem j i pc ls st h u = some (q, .inr (.inr (.inl (am_lst, as, S)))) → q → C am_lst as S.2.2.1 (fun v h' => am_Y p l e R s m args below meth c Qw D A j n0 ad0 ca0 l0 x0 (pc + 3) S.1 (v.toList ++ S.2.1) h' S.2.2.2) → am_Y p l e R s m args below meth c Qw D A j n0 ad0 ca0 l0 x0 pc ls st h u) (hCm : ∀ k as h (Z Z' : Option Value → am_H → Prop), (∀ v h, Z v h → Z' v h) → C k as h Z → C k as h Z') (hX : ∀ pc ls st h u, X pc ls st h u → am_Y p l e R s m args below meth c Qw D A j n0 ad0 ca0 l0 x0 pc ls st h u)
    (hR : ∀ (i : Jvm.ClassFile.Instr) (pc : Nat) (v : Option Value) (ls : am_L) (h : am_H) (u : am_U), decode (am_by j) pc = .ok (i, 1) → am_rq j i v → Q v h → am_Y p l e R s m args below meth c Qw D A j n0 ad0 ca0 l0 x0 pc ls v.toList h u) :
    ∀ (r : List Jvm.ClassFile.Instr) (pc : Nat) (S : am_S), am_chkB j pc r = true → am_run j C Q X r pc S → am_Y p l e R s m args below meth c Qw D A j n0 ad0 ca0 l0 x0 pc S.1 S.2.1 S.2.2.1 S.2.2.2 := by
  intro r
  induction r with
  | nil => exact fun pc S _ ev => hX _ _ _ _ _ ev
  | cons i r ih =>
    rintro pc ⟨ls, st, h, u⟩ hk ev
    simp only [am_chkB, Bool.and_eq_true, decide_eq_true_eq] at hk
    obtain ⟨⟨hd, hi⟩, hk⟩ := hk
    have ev : am_ev j C Q X (am_run j C Q X r (pc + am_len i)) (am_sem j i pc ls st h u) := ev
    show am_Y p l e R s m args below meth c Qw D A j n0 ad0 ca0 l0 x0 pc ls st h u
    cases hs : am_sem j i pc ls st h u with
    | none => rw [hs] at ev; exact ev.elim
    | some z =>
      obtain ⟨q, o⟩ := z
      rw [hs] at ev
      simp only [am_chkI, Bool.or_eq_true] at hi
      rcases hi with ((((hi | hi) | hi) | hi) | hi) | hi
      · obtain ⟨S, rfl⟩ : ∃ S, o = .inl S := am_kA hi hs
        exact am_stA cx hd hi hs ev.1 (ih _ _ hk ev.2)
      · obtain ⟨S, rfl⟩ : ∃ S, o = .inr (.inl S) := am_kJ hi hs
        exact am_stJ cx hd hi hs (hX _ _ _ _ _ ev.2)
      · obtain ⟨S, rfl⟩ : ∃ S, o = .inl S := am_kF hi hs
        exact am_stF F.1 hcn cx hd hi hs ev.1 (ih _ _ hk ev.2)
      · obtain ⟨S, rfl⟩ : ∃ S, o = .inl S := am_kN hi hs
        exact am_stN F.2.1 F.2.2.1 hcn cx hd hi hs ev.1 (ih _ _ hk ev.2)
      · obtain ⟨v, ho, hst, hq⟩ := am_kR hi hs
        have ho : o = .inr (.inr (.inr (v, h))) := ho
        subst ho
        rw [hst]
        refine hR i pc v ls h u ?_ (hq ev.1) ev.2
        rw [hd]
        cases i <;> first | exact (Bool.false_ne_true hi).elim | rfl
      · rcases am_kM hi hs with ⟨S, ho⟩ | ⟨hc, k, as, S, ho, hro⟩
        · have ho : o = .inl S := ho
          subst ho
          exact am_stM F hcn cx hd hi hs ev.1 (ih _ _ hk ev.2)
        · have ho : o = .inr (.inr (.inl (k, as, S))) := ho
          subst ho
          have h3 : pc + am_len i = pc + 3 := by cases i <;> first | exact (Bool.false_ne_true hc).elim | rfl
          have h4 : am_lp i pc = 3 := by cases i <;> first | exact (Bool.false_ne_true hc).elim | rfl
          have hcc := hCm _ _ _ _ (fun v h' => am_Y p l e R s m args below meth c Qw D A j n0 ad0 ca0 l0 x0 (pc + 3) S.1 (v.toList ++ S.2.1) h' S.2.2.2) (fun v h' hz => by
            have := ih _ _ hk hz
            rw [h3] at this
            exact this) ev.2
          by_cases hkl : k = am_lst
          · subst hkl
            exact hLst i pc ls st h u _ as S (by rw [hd, h4]) hc hs ev.1 hcc
          · exact am_stC F.2.2.2.1 F.2.2.2.2.1 F.2.2.2.2.2.1 hcn cx hkl hro hd hs hc ev.1 (hC _ _ _ _ hkl hcc)
end ABD
