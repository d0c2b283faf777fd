/-! THE LAW'S WALK: its calls -/
/-- nothing writes the script -/
def smS (h h' : am_H) : Prop := h'.2.1 1000 = h.2.1 1000 ∧ h'.2.2.1 1000 = h.2.2.1 1000
/-- street() with its catch: it answers, or it throws -/
def thr (f : Nat → Nat → Int) (a b m v c : Int) : Prop := (1 ≤ a ∧ a ≤ f 31 1 ∧ 1 ≤ b ∧ b ≤ f 31 1) ∧ (¬ a = b ∧ 1 ≤ m ∧ m ≤ 100000 ∧ 0 ≤ v ∧ v ≤ 1000 ∧ 0 ≤ c ∧ c ≤ 3) ∧ f 31 5 < 120 ∧ v = 0
def S9 (D : Nat) (as : List Value) (h : am_H) (Z : Option Value → am_H → Prop) : Prop := ∃ (L N : Nat) (sw : Bool) (f g : Nat → Nat → Int) (a b m v c : Int), (iR a ∧ iR b ∧ lR m ∧ lR v ∧ iR c) ∧ LVq N sw f g ∧ h = (53, sh_lt L, iH f, jH g, sh_rt sw) ∧ as = [.ref 0, .int (iZ a), .int (iZ b), .long (lZ m), .long (lZ v), .int (iZ c), .ref 52] ∧
  ((¬ thr f a b m v c ∧ am_call D 2 [.ref 0, .int (iZ a), .int (iZ b), .long (lZ m), .long (lZ v), .int (iZ c)] h (fun r h' => ∃ (x : Int) (F G : Nat → Nat → Int) (sw' : Bool), iR x ∧ r = some (.int (iZ x)) ∧ h' = (53, sh_lt L, iH F, jH G, sh_rt sw') ∧ (smS h h' → Z (some (.int 0)) (53, sh_lt L, iH F, jH (am_up G 52 0 x), sh_rt sw')))) ∨ (thr f a b m v c ∧ Z (some (.int 1)) h))
def lwC (D : Nat) : am_C := fun k as h Z => if k = am_lst then S9 D as h Z else am_call D k as h (fun v h' => smS h h' → Z v h')
theorem lwC_mono (D : Nat) : ∀ k as h (Z Z' : Option Value → am_H → Prop), (∀ v h, Z v h → Z' v h) → lwC D k as h Z → lwC D k as h Z' := by
  intro k as h Z Z' hZ e
  unfold lwC at e ⊢
  by_cases hk : k = am_lst
  · rw [if_pos hk] at e ⊢
    obtain ⟨L, N, sw, f, g, a, b, m, v, c, h1, h2, h3, h4, h5⟩ := e
    refine ⟨L, N, sw, f, g, a, b, m, v, c, h1, h2, h3, h4, h5.imp (fun q => ⟨q.1, am_call_mono _ _ _ _ _ _ (fun r h' ⟨x, F, G, sw', y1, y2, y3, y4⟩ => ⟨x, F, G, sw', y1, y2, y3, fun s => hZ _ _ (y4 s)⟩) q.2⟩) (fun q => ⟨q.1, hZ _ _ q.2⟩)⟩
  · rw [if_neg hk] at e ⊢
    exact am_call_mono _ _ _ _ _ _ (fun v h' q s => hZ _ _ (q s)) e
theorem ax_go {D j : Nat} {Q : Option Value → am_H → Prop} {pc : Nat} {ls : am_L} {st : List Value} {h : am_H} {u : am_U} {b : List Jvm.ClassFile.Instr} (eb : am_code j pc = b) (K : am_run j (lwC D) Q (am_Wp (lwC D) j Q) b pc (ls, st, h, u)) : am_Wp (lwC D) j Q pc ls st h u :=
  fun X h1 h2 => h1 pc ls st h u (by rw [eb]; exact am_run_mono (lwC_mono D) (fun _ _ z => z) (fun _ _ _ _ _ z => z X h1 h2) _ _ _ K)
theorem ax_weak {D j : Nat} {Q : Option Value → am_H → Prop} {pc : Nat} {ls ls' : am_L} {st : List Value} {h : am_H} {u : am_U} (hl : am_le ls ls') (e : am_Wp (lwC D) j Q pc ls st h u) : am_Wp (lwC D) j Q pc ls' st h u :=
  fun X h1 h2 => h2 pc ls ls' st h u hl (e X h1 h2)
/-- the script stays, in the heap's own numbers too -/
def scr (F : Nat → Nat → Int) (x : Nat → Int) (a j : Nat) : Int := if a = 1000 then x j else F a j
theorem scr_ne {F : Nat → Nat → Int} {x : Nat → Int} {a : Nat} (h : a ≠ 1000) : scr F x a = F a := funext fun j => if_neg h
theorem scr_H {L : Nat} {f g F G : Nat → Nat → Int} {sw sw' : Bool} (h : smS (53, sh_lt L, iH f, jH g, sh_rt sw) (53, sh_lt L, iH F, jH G, sh_rt sw')) : iH (scr F (f 1000)) = iH F := by
  funext a j
  show iZ (scr F (f 1000) a j) = iZ (F a j)
  unfold scr
  by_cases z : a = 1000
  · rw [if_pos z, z]
    have := congrFun h.2 j
    exact this.symm
  · rw [if_neg z]
theorem LV_scr {N : Nat} {sw : Bool} {F G : Nat → Nat → Int} {x : Nat → Int} (h : LVq N sw F G) : LVq N sw (scr F x) G := by
  have a : ∀ y, y < 100 → scr F x y = F y := fun y hy => scr_ne (by omega)
  obtain ⟨h1, h2, h3, h4, h5, h6, h7⟩ := h
  exact ⟨LVn_cg h1 ⟨by rw [a 1 (by decide)], by rw [a 31 (by decide)]⟩ ⟨rfl, rfl, rfl, rfl, rfl, rfl⟩, LVs_cg h2 ⟨by rw [a 5 (by decide)], by rw [a 31 (by decide)], by rw [a 31 (by decide)]; exact Int.le_refl _, a 6 (by decide), fun _ _ => by rw [a 7 (by decide)], by rw [a 7 (by decide)]; exact h2.2.2.2.2.2.2, a 35 (by decide), a 36 (by decide), a 39 (by decide), a 10 (by decide)⟩ ⟨rfl, rfl, rfl, rfl, fun _ _ => rfl⟩, LVt_cg h3 (Nat.le_refl _) ⟨rfl, rfl, rfl, rfl, rfl, rfl⟩, LVb_cg h4 (a 42 (by decide)) rfl, LVp_cg h5 ⟨by rw [a 0 (by decide)], by rw [a 31 (by decide)], by rw [a 31 (by decide)], by rw [a 31 (by decide)], by rw [a 31 (by decide)], by rw [a 31 (by decide)]; exact Int.le_refl _, a 14 (by decide), by rw [a 7 (by decide)]⟩, LVw_cg h6 ⟨a _ (by cases sw <;> decide), a _ (by cases sw <;> decide), a 28 (by decide), a 30 (by decide), by rw [a 0 (by decide)], by rw [a 31 (by decide)], a 47 (by decide), a 48 (by decide)⟩ ⟨by rw [a 31 (by decide)]; exact Int.le_refl _, by rw [a 31 (by decide)], fun _ _ _ => ⟨by rw [a 35 (by decide)], by rw [a 36 (by decide)]⟩⟩ ⟨rfl, rfl⟩, LVx_cg h7 ⟨a 24 (by decide), a 25 (by decide), a 26 (by decide), a 51 (by decide), by rw [a 31 (by decide)], by rw [a 31 (by decide)], by rw [a 31 (by decide)], by rw [a 31 (by decide)], by rw [a 0 (by decide)]⟩⟩
section CLS
variable {D L N m k : Nat} {as as' : List Value} {f g : Nat → Nat → Int} {sw : Bool} {Z : Option Value → am_H → Prop}
theorem cl_mid (hk : k ≠ am_lst) (h : am_call D k as (53, sh_lt L, iH f, jH g, sh_rt sw) (Mid L N D m as')) (K : ∀ (x : Int) (F G : Nat → Nat → Int) (sw' : Bool), iR x → F 1000 = f 1000 → am_call D m as' (53, sh_lt L, iH F, jH G, sh_rt sw') (fun v' h' => v' = some (.int (iZ x)) ∧ ∃ F' G', h' = (53, sh_lt L, iH F', jH G', sh_rt sw') ∧ LVq N sw' F' G') → Z (some (.int (iZ x))) (53, sh_lt L, iH F, jH G, sh_rt sw')) : lwC D k as (53, sh_lt L, iH f, jH g, sh_rt sw) Z := by
  unfold lwC
  rw [if_neg hk]
  refine am_call_mono _ _ _ _ _ _ (fun v h' q s => ?_) h
  obtain ⟨x, F, G, sw', q1, q2, q3, q4⟩ := q
  subst q2
  subst q3
  have e := scr_H s
  rw [← e] at q4 ⊢
  exact K x (scr F (f 1000)) G sw' q1 (funext fun j => if_pos rfl) q4
theorem cl_midL (hk : k ≠ am_lst) (h : am_call D k as (53, sh_lt L, iH f, jH g, sh_rt sw) (MidL L N D m as')) (K : ∀ (x : Int) (F G : Nat → Nat → Int) (sw' : Bool), lR x → F 1000 = f 1000 → am_call D m as' (53, sh_lt L, iH F, jH G, sh_rt sw') (fun v' h' => v' = some (.long (lZ x)) ∧ ∃ F' G', h' = (53, sh_lt L, iH F', jH G', sh_rt sw') ∧ LVq N sw' F' G') → Z (some (.long (lZ x))) (53, sh_lt L, iH F, jH G, sh_rt sw')) : lwC D k as (53, sh_lt L, iH f, jH g, sh_rt sw) Z := by
  unfold lwC
  rw [if_neg hk]
  refine am_call_mono _ _ _ _ _ _ (fun v h' q s => ?_) h
  obtain ⟨x, F, G, sw', q1, q2, q3, q4⟩ := q
  subst q2
  subst q3
  have e := scr_H s
  rw [← e] at q4 ⊢
  exact K x (scr F (f 1000)) G sw' q1 (funext fun j => if_pos rfl) q4
theorem cl_fin {r : Value} (hk : k ≠ am_lst) (h : am_call D k as (53, sh_lt L, iH f, jH g, sh_rt sw) (fun v' h' => v' = some r ∧ ∃ F' G', h' = (53, sh_lt L, iH F', jH G', sh_rt sw) ∧ LVq N sw F' G')) (K : ∀ (F G : Nat → Nat → Int), F 1000 = f 1000 → LVq N sw F G → Z (some r) (53, sh_lt L, iH F, jH G, sh_rt sw)) : lwC D k as (53, sh_lt L, iH f, jH g, sh_rt sw) Z := by
  unfold lwC
  rw [if_neg hk]
  refine am_call_mono _ _ _ _ _ _ (fun v h' q s => ?_) h
  obtain ⟨q2, F, G, q3, q4⟩ := q
  subst q2
  subst q3
  have e := scr_H s
  rw [← e]
  exact K (scr F (f 1000)) G (funext fun j => if_pos rfl) (LV_scr q4)
theorem cl_finS {r : Value} {P : (Nat → Nat → Int) → (Nat → Nat → Int) → Prop} (hP : ∀ F G x, P F G → P (scr F x) G) (hk : k ≠ am_lst) (h : am_call D k as (53, sh_lt L, iH f, jH g, sh_rt sw) (fun v' h' => v' = some r ∧ ∃ F' G', h' = (53, sh_lt L, iH F', jH G', sh_rt sw) ∧ LVq N sw F' G' ∧ P F' G')) (K : ∀ (F G : Nat → Nat → Int), F 1000 = f 1000 → LVq N sw F G → P F G → Z (some r) (53, sh_lt L, iH F, jH G, sh_rt sw)) : lwC D k as (53, sh_lt L, iH f, jH g, sh_rt sw) Z := by
  unfold lwC
  rw [if_neg hk]
  refine am_call_mono _ _ _ _ _ _ (fun v h' q s => ?_) h
  obtain ⟨q2, F, G, q3, q4, q5⟩ := q
  subst q2
  subst q3
  have e := scr_H s
  rw [← e]
  exact K (scr F (f 1000)) G (funext fun j => if_pos rfl) (LV_scr q4) (hP _ _ _ q5)
end CLS
theorem iZ_i (x : Int32) : iZ x.toInt = x := Int32.ofInt_toInt x
theorem lZ_l (x : Int64) : lZ x.toInt = x := Int64.ofInt_toInt x
theorem iR_t (x : Int32) : iR x.toInt := ⟨Int32.le_toInt x, Int32.toInt_lt x⟩
theorem lR_t (x : Int64) : lR x.toInt := ⟨Int64.le_toInt x, Int64.toInt_lt x⟩
theorem lw_1 {d L N : Nat} {sw : Bool} {f g : Nat → Nat → Int} (a : Int64) (b : Int64) (h : LVq N sw f g) : am_call (d + 7) 1 [.ref 0, .long a, .long b] (53, sh_lt L, iH f, jH g, sh_rt sw) (Mid L (N + 1) (d + 7) 28 [.ref 31, .long a, .long b]) := by
  have := pr_1 (d := d) (L := L) (x := a.toInt) (y := b.toInt) h (lR_t a) (lR_t b)
  simp only [lZ_l] at this
  exact this
theorem lw_4 {d L N : Nat} {sw : Bool} {f g : Nat → Nat → Int} (a : Int32) (b : Int64) (h : LVq N sw f g) : am_call (d + 7) 4 [.ref 0, .int a, .long b] (53, sh_lt L, iH f, jH g, sh_rt sw) (Mid L (N + 1) (d + 7) 31 [.ref 31, .int a, .long b]) := by
  have := pr_4 (d := d) (L := L) (n := a.toInt) (p := b.toInt) h (iR_t a) (lR_t b)
  simp only [iZ_i, lZ_l] at this
  exact this
theorem lw_5 {d L N : Nat} {sw : Bool} {f g : Nat → Nat → Int} (a : Int32) (b : Int32) (c : Int32) (x : Int64) (h : LVq N sw f g) (hN : N ≤ 4095) : am_call (d + 7) 5 [.ref 0, .int a, .int b, .int c, .long x] (53, sh_lt L, iH f, jH g, sh_rt sw) (Mid L (N + 1) (d + 7) 47 [.ref 31, .int a, .int b, .int c, .long x]) := by
  cases sw
  · have := pr_5_f (d := d) (L := L) (a := a.toInt) (b := b.toInt) (k := c.toInt) (e := x.toInt) h hN ⟨iR_t a, iR_t b, iR_t c, lR_t x⟩
    simp only [iZ_i, lZ_l] at this
    exact this
  · have := pr_5_t (d := d) (L := L) (a := a.toInt) (b := b.toInt) (k := c.toInt) (e := x.toInt) h hN ⟨iR_t a, iR_t b, iR_t c, lR_t x⟩
    simp only [iZ_i, lZ_l] at this
    exact this
theorem lw_6 {d L N : Nat} {sw : Bool} {f g : Nat → Nat → Int} (a : Int32) (h : LVq N sw f g) : am_call (d + 7) 6 [.ref 0, .int a] (53, sh_lt L, iH f, jH g, sh_rt sw) (Mid L (N + 1) (d + 7) 50 [.ref 31, .int a]) := by
  cases sw
  · have := pr_6_f (d := d) (L := L) (i := a.toInt) h (iR_t a)
    simp only [iZ_i] at this
    exact this
  · have := pr_6_t (d := d) (L := L) (i := a.toInt) h (iR_t a)
    simp only [iZ_i] at this
    exact this
theorem lw_7 {d L N : Nat} {sw : Bool} {f g : Nat → Nat → Int}  (h : LVq N sw f g) : am_call (d + 7) 7 [.ref 0] (53, sh_lt L, iH f, jH g, sh_rt sw) (MidL L (N + 1) (d + 7) 51 [.ref 31]) := by
  cases sw
  · have := pr_7_f (d := d) (L := L)  h 
    exact this
  · have := pr_7_t (d := d) (L := L)  h 
    exact this
theorem lw_8 {d L N : Nat} {sw : Bool} {f g : Nat → Nat → Int} (a : Int64) (b : Int64) (c : Int32) (h : LVq N sw f g) : am_call (d + 7) 8 [.ref 0, .long a, .long b, .int c] (53, sh_lt L, iH f, jH g, sh_rt sw) (Mid L (N + 1) (d + 7) 56 [.ref 31, .long a, .long b, .int c]) := by
  have := pr_8 (d := d) (L := L) (x := a.toInt) (y := b.toInt) (hd := c.toInt) h (lR_t a) (lR_t b) (iR_t c)
  simp only [iZ_i, lZ_l] at this
  exact this
theorem lw_9 {d L N : Nat} {sw : Bool} {f g : Nat → Nat → Int} (a : Int32) (b : Int64) (c : Int64) (h : LVq N sw f g) (hN : N ≤ 4096) : am_call (d + 7) 9 [.ref 0, .int a, .long b, .long c] (53, sh_lt L, iH f, jH g, sh_rt sw) (Mid L (N + 1) (d + 7) 32 [.ref 31, .int a, .long b, .long c]) := by
  have := pr_9 (d := d) (L := L) (s := a.toInt) (v := b.toInt) (w := c.toInt) h hN (iR_t a) (lR_t b) (lR_t c)
  simp only [iZ_i, lZ_l] at this
  exact this
theorem lw_10 {d L N : Nat} {sw : Bool} {f g : Nat → Nat → Int} (a : Int64) (h : LVq N sw f g) (hN : N ≤ 4095) : am_call (d + 7) 10 [.ref 0, .long a] (53, sh_lt L, iH f, jH g, sh_rt sw) (Mid L (N + 1) (d + 7) 49 [.ref 31, .long a]) := by
  cases sw
  · have := pr_10_f (d := d) (L := L) (gn := a.toInt) h hN (lR_t a)
    simp only [lZ_l] at this
    exact this
  · have := pr_10_t (d := d) (L := L) (gn := a.toInt) h hN (lR_t a)
    simp only [lZ_l] at this
    exact this
theorem lw_11 {d L N : Nat} {sw : Bool} {f g : Nat → Nat → Int} (a : Int32) (b : Int32) (h : LVq N sw f g) : am_call (d + 7) 11 [.ref 0, .int a, .int b] (53, sh_lt L, iH f, jH g, sh_rt sw) (Mid L (N + 1) (d + 7) 53 [.ref 31, .int a, .int b]) := by
  cases sw
  · have := pr_11_f (d := d) (L := L) (i := a.toInt) (q := b.toInt) h (iR_t a) (iR_t b)
    simp only [iZ_i] at this
    exact this
  · have := pr_11_t (d := d) (L := L) (i := a.toInt) (q := b.toInt) h (iR_t a) (iR_t b)
    simp only [iZ_i] at this
    exact this
theorem lw_12 {d L N : Nat} {sw : Bool} {f g : Nat → Nat → Int} (a : Int32) (h : LVq N sw f g) : am_call (d + 7) 12 [.ref 0, .int a] (53, sh_lt L, iH f, jH g, sh_rt sw) (Mid L (N + 1) (d + 7) 58 [.ref 31, .int a]) := by
  have := pr_12 (d := d) (L := L) (c := a.toInt) h (iR_t a)
  simp only [iZ_i] at this
  exact this
theorem lw_13 {d L N : Nat} {sw : Bool} {f g : Nat → Nat → Int}  (h : LVq N sw f g) : am_call (d + 7) 13 [.ref 0] (53, sh_lt L, iH f, jH g, sh_rt sw) (Mid L (N + 1) (d + 7) 52 [.ref 31]) := by
  have := pr_13 (d := d) (L := L)  h 
  exact this
theorem lw_14 {d L N : Nat} {sw : Bool} {f g : Nat → Nat → Int} (a : Int32) (b : Int32) (h : LVq N sw f g) : am_call (d + 7) 14 [.ref 0, .int a, .int b] (53, sh_lt L, iH f, jH g, sh_rt sw) (Mid L (N + 1) (d + 7) 59 [.ref 31, .int a, .int b]) := by
  have := pr_14 (d := d) (L := L) (e := a.toInt) (n := b.toInt) h (iR_t a) (iR_t b)
  simp only [iZ_i] at this
  exact this
theorem lw_3 {d L N : Nat} {sw : Bool} {f g : Nat → Nat → Int} (a b : Int32) {c : Int} (hc : c = 0 ∨ c = 1) (h : LVq N sw f g) : am_call (d + 7) 3 [.ref 0, .int a, .int b, .int (iZ c)] (53, sh_lt L, iH f, jH g, sh_rt sw) (Mid L (N + 1) (d + 7) 30 [.ref 31, .int a, .int b, .int (iZ c)]) := by
  have := pr_3 (d := d) (L := L) (s := a.toInt) (t := b.toInt) (b := c) h (iR_t a) (iR_t b) hc
  rw [iZ_i, iZ_i] at this
  exact this
