/-! RULES OVER WHOLE NUMBERS: ints and longs as iZ z, lZ z of an Int, the heap's numbers as Ints (printed by wip/gen/irules.py) -/
abbrev iZ (z : Int) : Int32 := Int32.ofInt z
abbrev lZ (z : Int) : Int64 := Int64.ofInt z
abbrev iR (x : Int) : Prop := -2147483648 ≤ x ∧ x < 2147483648
abbrev lR (x : Int) : Prop := -9223372036854775808 ≤ x ∧ x < 9223372036854775808
def iH (f : Nat → Nat → Int) : Nat → Nat → Int32 := fun a k => iZ (f a k)
def jH (f : Nat → Nat → Int) : Nat → Nat → Int64 := fun a k => lZ (f a k)
theorem iH_up {f : Nat → Nat → Int} {a k : Nat} {v : Int} : am_up (iH f) a k (iZ v) = iH (am_up f a k v) := by
  funext b i
  simp only [am_up, iH]
  split <;> rfl
theorem jH_up {f : Nat → Nat → Int} {a k : Nat} {v : Int} : am_up (jH f) a k (lZ v) = jH (am_up f a k v) := by
  funext b i
  simp only [am_up, jH]
  split <;> rfl
theorem iZ_T {x : Int} (h : iR x) : (iZ x).toInt = x := Int32.toInt_ofInt_of_le h.1 h.2
theorem lZ_T {x : Int} (h : lR x) : (lZ x).toInt = x := Int64.toInt_ofInt_of_le h.1 h.2
theorem iZ_lt {x y : Int} (hx : iR x) (hy : iR y) : iZ x < iZ y ↔ x < y := by rw [Int32.lt_iff_toInt_lt, iZ_T hx, iZ_T hy]
theorem iZ_le {x y : Int} (hx : iR x) (hy : iR y) : iZ x ≤ iZ y ↔ x ≤ y := by rw [Int32.le_iff_toInt_le, iZ_T hx, iZ_T hy]
theorem iZ_eq {x y : Int} (hx : iR x) (hy : iR y) : iZ x = iZ y ↔ x = y := by rw [← Int32.toInt_inj, iZ_T hx, iZ_T hy]
theorem lZ_lt {x y : Int} (hx : lR x) (hy : lR y) : lZ x < lZ y ↔ x < y := by rw [Int64.lt_iff_toInt_lt, lZ_T hx, lZ_T hy]
theorem lZ_le {x y : Int} (hx : lR x) (hy : lR y) : lZ x ≤ lZ y ↔ x ≤ y := by rw [Int64.le_iff_toInt_le, lZ_T hx, lZ_T hy]
theorem lZ_eq {x y : Int} (hx : lR x) (hy : lR y) : lZ x = lZ y ↔ x = y := by rw [← Int64.toInt_inj, lZ_T hx, lZ_T hy]
theorem iZ_0 : (0 : Int32) = iZ 0 := rfl
theorem iR_0 : iR 0 := ⟨by decide, by decide⟩
theorem iZ_N {x : Int} (h : 0 ≤ x ∧ x < 2147483648) : (iZ x).toNatClampNeg = x.toNat := by
  have h1 : (0 : Int32) ≤ iZ x := by rw [iZ_0, iZ_le iR_0 ⟨by omega, h.2⟩]; exact h.1
  have h2 := Int32.cast_toNatClampNeg (iZ x) h1
  rw [iZ_T ⟨by omega, h.2⟩] at h2
  omega
theorem iZ_in {x : Int} {n : Nat} (h : 0 ≤ x ∧ x < n) (hn : n < 2147483648) : vp_in (iZ x) n := by
  rw [vp_in_iff, iZ_T ⟨by omega, by omega⟩]; exact h
theorem iZ_div {x y : Int} (h : 0 ≤ x ∧ x < 2147483648 ∧ 0 < y ∧ y < 2147483648) : iZ x / iZ y = iZ (x / y) := by
  have e : x.tdiv y = x / y := Int.tdiv_eq_ediv_of_nonneg h.1
  rw [← Int32.toInt_inj, Int32.toInt_div, iZ_T ⟨by omega, h.2.1⟩, iZ_T ⟨by omega, h.2.2.2⟩, e, Int32.toInt_ofInt]
theorem lZ_div {x y : Int} (h : 0 ≤ x ∧ x < 9223372036854775808 ∧ 0 < y ∧ y < 9223372036854775808) : lZ x / lZ y = lZ (x / y) := by
  have e : x.tdiv y = x / y := Int.tdiv_eq_ediv_of_nonneg h.1
  rw [← Int64.toInt_inj, Int64.toInt_div, lZ_T ⟨by omega, h.2.1⟩, lZ_T ⟨by omega, h.2.2.2⟩, e, Int64.toInt_ofInt]
theorem iZ_rem {x y : Int} (h : 0 ≤ x ∧ x < 2147483648 ∧ 0 < y ∧ y < 2147483648) : iZ x - iZ x / iZ y * iZ y = iZ (x % y) := by
  rw [iZ_div h, ← Int32.ofInt_mul, ← Int32.ofInt_sub, Int.emod_def, Int.mul_comm]
theorem iZ_ne0 {y : Int} (h : 0 < y ∧ y < 2147483648) : ¬ iZ y = 0 := by
  rw [iZ_0, iZ_eq ⟨by omega, h.2⟩ iR_0]; omega
theorem lZ_ne0 {y : Int} (h : 0 < y ∧ y < 9223372036854775808) : ¬ lZ y = 0 := by
  rw [show (0 : Int64) = lZ 0 from rfl, lZ_eq ⟨by omega, h.2⟩ ⟨by decide, by decide⟩]; omega
theorem iZ_l {x : Int} (h : iR x) : (iZ x).toInt64 = lZ x := by
  rw [← Int64.toInt_inj, Int32.toInt_toInt64, iZ_T h, lZ_T ⟨by omega, by omega⟩]
section AIR
variable {j : Nat} {C : am_C} {Q : Option Value → am_H → Prop} {X : am_X} {r : List Jvm.ClassFile.Instr} {pc : Nat} {ls : am_L} {st : List Value} {h : am_H} {u : am_U} {hn : Nat} {lt : Nat → Nat × Nat} {f g : Nat → Nat → Int} {rt : Nat → Nat → Nat}
theorem ai_iconst {n : Int}  (K : am_run j C Q X r (pc + 1) (ls, .int (iZ n) :: st, h, u))  : am_run j C Q X (.iconst n :: r) pc (ls, st, h, u) := by
  exact ap_iconst rfl K
theorem ai_bipush {n : Int} (e : (Int8.ofInt n).toInt32 = Int32.ofInt n) (K : am_run j C Q X r (pc + 2) (ls, .int (iZ n) :: st, h, u))  : am_run j C Q X (.bipush n :: r) pc (ls, st, h, u) := by
  exact ap_bipush e K
theorem ai_sipush {n : Int} (e : (Int16.ofInt n).toInt32 = Int32.ofInt n) (K : am_run j C Q X r (pc + 3) (ls, .int (iZ n) :: st, h, u))  : am_run j C Q X (.sipush n :: r) pc (ls, st, h, u) := by
  exact ap_sipush e K
theorem ai_lconst {n : Fin 2} (z : Int) (e : Int64.ofNat (n : Nat) = Int64.ofInt z) (K : am_run j C Q X r (pc + 1) (ls, .long (lZ z) :: st, h, u))  : am_run j C Q X (.lconst n :: r) pc (ls, st, h, u) := by
  exact ap_lconst (by rw [e]; exact K)
theorem ai_ldc2 {x o : Nat} {v : Int64} (z : Int) (eo : am_ow j = o) (e : am_kL o x = some v) (ez : v = Int64.ofInt z) (K : am_run j C Q X r (pc + 3) (ls, .long (lZ z) :: st, h, u))  : am_run j C Q X (.ldc2_w x :: r) pc (ls, st, h, u) := by
  exact ap_ldc2 eo e (by rw [ez]; exact K)
theorem ai_iinc {k : Nat} {n x : Int} {ls' : am_L} (e : am_lk ls k = some (.int (iZ x))) (e' : am_s1 ls k (.int (iZ (x + n))) = ls') (K : am_run j C Q X r (pc + 3) (ls', st, h, u))  : am_run j C Q X (.iinc k n :: r) pc (ls, st, h, u) := by
  exact ap_iinc e (by rw [← Int32.ofInt_add]; exact e') K
theorem ai_iadd {x y : Int}  (K : am_run j C Q X r (pc + 1) (ls, .int (iZ (x + y)) :: st, h, u))  : am_run j C Q X (.iadd :: r) pc (ls, .int (iZ y) :: .int (iZ x) :: st, h, u) := by
  exact ap_iadd (by rw [← Int32.ofInt_add]; exact K)
theorem ai_isub {x y : Int}  (K : am_run j C Q X r (pc + 1) (ls, .int (iZ (x - y)) :: st, h, u))  : am_run j C Q X (.isub :: r) pc (ls, .int (iZ y) :: .int (iZ x) :: st, h, u) := by
  exact ap_isub (by rw [← Int32.ofInt_sub]; exact K)
theorem ai_imul {x y : Int}  (K : am_run j C Q X r (pc + 1) (ls, .int (iZ (x * y)) :: st, h, u))  : am_run j C Q X (.imul :: r) pc (ls, .int (iZ y) :: .int (iZ x) :: st, h, u) := by
  exact ap_imul (by rw [← Int32.ofInt_mul]; exact K)
theorem ai_ladd {x y : Int}  (K : am_run j C Q X r (pc + 1) (ls, .long (lZ (x + y)) :: st, h, u))  : am_run j C Q X (.ladd :: r) pc (ls, .long (lZ y) :: .long (lZ x) :: st, h, u) := by
  exact ap_ladd (by rw [← Int64.ofInt_add]; exact K)
theorem ai_lsub {x y : Int}  (K : am_run j C Q X r (pc + 1) (ls, .long (lZ (x - y)) :: st, h, u))  : am_run j C Q X (.lsub :: r) pc (ls, .long (lZ y) :: .long (lZ x) :: st, h, u) := by
  exact ap_lsub (by rw [← Int64.ofInt_sub]; exact K)
theorem ai_lmul {x y : Int}  (K : am_run j C Q X r (pc + 1) (ls, .long (lZ (x * y)) :: st, h, u))  : am_run j C Q X (.lmul :: r) pc (ls, .long (lZ y) :: .long (lZ x) :: st, h, u) := by
  exact ap_lmul (by rw [← Int64.ofInt_mul]; exact K)
theorem ai_ineg {x : Int}  (K : am_run j C Q X r (pc + 1) (ls, .int (iZ (-x)) :: st, h, u))  : am_run j C Q X (.ineg :: r) pc (ls, .int (iZ x) :: st, h, u) := by
  exact ap_ineg (by rw [← Int32.ofInt_neg]; exact K)
theorem ai_lneg {x : Int}  (K : am_run j C Q X r (pc + 1) (ls, .long (lZ (-x)) :: st, h, u))  : am_run j C Q X (.lneg :: r) pc (ls, .long (lZ x) :: st, h, u) := by
  exact ap_lneg (by rw [← Int64.ofInt_neg]; exact K)
theorem ai_i2l {x : Int}  (K : am_run j C Q X r (pc + 1) (ls, .long (lZ x) :: st, h, u)) (e : iR x) : am_run j C Q X (.i2l :: r) pc (ls, .int (iZ x) :: st, h, u) := by
  exact ap_i2l (by rw [iZ_l e]; exact K)
theorem ai_l2i {x : Int}  (K : am_run j C Q X r (pc + 1) (ls, .int (iZ x) :: st, h, u))  : am_run j C Q X (.l2i :: r) pc (ls, .long (lZ x) :: st, h, u) := by
  exact ap_l2i (by rw [Int64.toInt32_ofInt]; exact K)
theorem ai_idiv {x y : Int}  (K : am_run j C Q X r (pc + 1) (ls, .int (iZ (x / y)) :: st, h, u)) (e : 0 ≤ x ∧ x < 2147483648 ∧ 0 < y ∧ y < 2147483648) : am_run j C Q X (.idiv :: r) pc (ls, .int (iZ y) :: .int (iZ x) :: st, h, u) := by
  exact ap_idiv (iZ_ne0 e.2.2) (by rw [iZ_div e]; exact K)
theorem ai_irem {x y : Int}  (K : am_run j C Q X r (pc + 1) (ls, .int (iZ (x % y)) :: st, h, u)) (e : 0 ≤ x ∧ x < 2147483648 ∧ 0 < y ∧ y < 2147483648) : am_run j C Q X (.irem :: r) pc (ls, .int (iZ y) :: .int (iZ x) :: st, h, u) := by
  exact ap_irem (iZ_ne0 e.2.2) (by rw [iZ_rem e]; exact K)
theorem ai_ldiv {x y : Int}  (K : am_run j C Q X r (pc + 1) (ls, .long (lZ (x / y)) :: st, h, u)) (e : 0 ≤ x ∧ x < 9223372036854775808 ∧ 0 < y ∧ y < 9223372036854775808) : am_run j C Q X (.ldiv :: r) pc (ls, .long (lZ y) :: .long (lZ x) :: st, h, u) := by
  exact ap_ldiv (by rw [lZ_div e]; exact K) (lZ_ne0 e.2.2)
theorem ai_getI {x c k a : Nat} {o : Nat} (eo : am_ow j = o) (e1 : am_rf o x = some (c, k)) (e2 : am_ty (hn, lt, iH f, jH g, rt) a = some (c + 3)) (e3 : am_ft c k = 0) (K : am_run j C Q X r (pc + 3) (ls, .int (iZ (f a k)) :: st, (hn, lt, iH f, jH g, rt), u))  : am_run j C Q X (.getfield x :: r) pc (ls, .ref a :: st, (hn, lt, iH f, jH g, rt), u) := by
  exact ap_getI eo e1 e2 e3 K
theorem ai_getZ {x c k a : Nat} {o : Nat} (eo : am_ow j = o) (e1 : am_rf o x = some (c, k)) (e2 : am_ty (hn, lt, iH f, jH g, rt) a = some (c + 3)) (e3 : am_ft c k = 1) (K : am_run j C Q X r (pc + 3) (ls, .int (iZ (f a k)) :: st, (hn, lt, iH f, jH g, rt), u))  : am_run j C Q X (.getfield x :: r) pc (ls, .ref a :: st, (hn, lt, iH f, jH g, rt), u) := by
  exact ap_getZ eo e1 e2 e3 K
theorem ai_getJ {x c k a : Nat} {o : Nat} (eo : am_ow j = o) (e1 : am_rf o x = some (c, k)) (e2 : am_ty (hn, lt, iH f, jH g, rt) a = some (c + 3)) (e3 : am_ft c k = 2) (K : am_run j C Q X r (pc + 3) (ls, .long (lZ (g a k)) :: st, (hn, lt, iH f, jH g, rt), u))  : am_run j C Q X (.getfield x :: r) pc (ls, .ref a :: st, (hn, lt, iH f, jH g, rt), u) := by
  exact ap_getJ eo e1 e2 e3 K
theorem ai_putI {x c k a : Nat} {v : Int} {o : Nat} (eo : am_ow j = o) (e1 : am_rf o x = some (c, k)) (e2 : am_ty (hn, lt, iH f, jH g, rt) a = some (c + 3)) (e3 : am_ft c k = 0) (e4 : (!am_ff c k || (decide (o = c) && am_in j)) = true) (K : am_run j C Q X r (pc + 3) (ls, st, (hn, lt, iH (am_up f a k v), jH g, rt), u))  : am_run j C Q X (.putfield x :: r) pc (ls, .int (iZ v) :: .ref a :: st, (hn, lt, iH f, jH g, rt), u) := by
  exact ap_putI eo e1 e2 e3 e4 (by rw [← iH_up] at K; exact K)
theorem ai_putZ {x c k a : Nat} {v : Int} {o : Nat} (eo : am_ow j = o) (e1 : am_rf o x = some (c, k)) (e2 : am_ty (hn, lt, iH f, jH g, rt) a = some (c + 3)) (e3 : am_ft c k = 1) (e4 : (!am_ff c k || (decide (o = c) && am_in j)) = true) (K : am_run j C Q X r (pc + 3) (ls, st, (hn, lt, iH (am_up f a k v), jH g, rt), u)) (e5 : v = 0 ∨ v = 1) : am_run j C Q X (.putfield x :: r) pc (ls, .int (iZ v) :: .ref a :: st, (hn, lt, iH f, jH g, rt), u) := by
  exact ap_putZ eo e1 e2 e3 e4 (by rw [← iH_up] at K; exact K) (by rcases e5 with rfl | rfl; exact Or.inl rfl; exact Or.inr rfl)
theorem ai_putJ {x c k a : Nat} {v : Int} {o : Nat} (eo : am_ow j = o) (e1 : am_rf o x = some (c, k)) (e2 : am_ty (hn, lt, iH f, jH g, rt) a = some (c + 3)) (e3 : am_ft c k = 2) (e4 : (!am_ff c k || (decide (o = c) && am_in j)) = true) (K : am_run j C Q X r (pc + 3) (ls, st, (hn, lt, iH f, jH (am_up g a k v), rt), u))  : am_run j C Q X (.putfield x :: r) pc (ls, .long (lZ v) :: .ref a :: st, (hn, lt, iH f, jH g, rt), u) := by
  exact ap_putJ eo e1 e2 e3 e4 (by rw [← jH_up] at K; exact K)
theorem ai_iaload {a n : Nat} {i : Int} (e1 : am_ty (hn, lt, iH f, jH g, rt) a = some 0) (e3 : am_sz (hn, lt, iH f, jH g, rt) a = n) (en : n < 2147483648) (K : am_run j C Q X r (pc + 1) (ls, .int (iZ (f a i.toNat)) :: st, (hn, lt, iH f, jH g, rt), u)) (e2 : 0 ≤ i ∧ i < n) : am_run j C Q X (.iaload :: r) pc (ls, .int (iZ i) :: .ref a :: st, (hn, lt, iH f, jH g, rt), u) := by
  exact ap_iaload e1 e3 (by rw [iZ_N ⟨e2.1, by omega⟩]; exact K) (iZ_in e2 en)
theorem ai_baload {a n : Nat} {i : Int} (e1 : am_ty (hn, lt, iH f, jH g, rt) a = some 1) (e3 : am_sz (hn, lt, iH f, jH g, rt) a = n) (en : n < 2147483648) (K : am_run j C Q X r (pc + 1) (ls, .int (iZ (f a i.toNat)) :: st, (hn, lt, iH f, jH g, rt), u)) (e2 : 0 ≤ i ∧ i < n) : am_run j C Q X (.baload :: r) pc (ls, .int (iZ i) :: .ref a :: st, (hn, lt, iH f, jH g, rt), u) := by
  exact ap_baload e1 e3 (by rw [iZ_N ⟨e2.1, by omega⟩]; exact K) (iZ_in e2 en)
theorem ai_laload {a n : Nat} {i : Int} (e1 : am_ty (hn, lt, iH f, jH g, rt) a = some 2) (e3 : am_sz (hn, lt, iH f, jH g, rt) a = n) (en : n < 2147483648) (K : am_run j C Q X r (pc + 1) (ls, .long (lZ (g a i.toNat)) :: st, (hn, lt, iH f, jH g, rt), u)) (e2 : 0 ≤ i ∧ i < n) : am_run j C Q X (.laload :: r) pc (ls, .int (iZ i) :: .ref a :: st, (hn, lt, iH f, jH g, rt), u) := by
  exact ap_laload e1 e3 (by rw [iZ_N ⟨e2.1, by omega⟩]; exact K) (iZ_in e2 en)
theorem ai_iastore {a n : Nat} {i x : Int} (e1 : am_ty (hn, lt, iH f, jH g, rt) a = some 0) (e3 : am_sz (hn, lt, iH f, jH g, rt) a = n) (en : n < 2147483648) (K : am_run j C Q X r (pc + 1) (ls, st, (hn, lt, iH (am_up f a i.toNat x), jH g, rt), u)) (e2 : 0 ≤ i ∧ i < n) : am_run j C Q X (.iastore :: r) pc (ls, .int (iZ x) :: .int (iZ i) :: .ref a :: st, (hn, lt, iH f, jH g, rt), u) := by
  exact ap_iastore e1 e3 (by rw [iZ_N ⟨e2.1, by omega⟩]; rw [← iH_up] at K; exact K) (iZ_in e2 en)
theorem ai_bastore {a n : Nat} {i x : Int} (e1 : am_ty (hn, lt, iH f, jH g, rt) a = some 1) (e3 : am_sz (hn, lt, iH f, jH g, rt) a = n) (en : n < 2147483648) (K : am_run j C Q X r (pc + 1) (ls, st, (hn, lt, iH (am_up f a i.toNat x), jH g, rt), u)) (e2 : 0 ≤ i ∧ i < n) (e5 : x = 0 ∨ x = 1) : am_run j C Q X (.bastore :: r) pc (ls, .int (iZ x) :: .int (iZ i) :: .ref a :: st, (hn, lt, iH f, jH g, rt), u) := by
  exact ap_bastore e1 e3 (by rw [iZ_N ⟨e2.1, by omega⟩]; rw [← iH_up] at K; exact K) (iZ_in e2 en) (by rcases e5 with rfl | rfl; exact Or.inl rfl; exact Or.inr rfl)
theorem ai_lastore {a n : Nat} {i x : Int} (e1 : am_ty (hn, lt, iH f, jH g, rt) a = some 2) (e3 : am_sz (hn, lt, iH f, jH g, rt) a = n) (en : n < 2147483648) (K : am_run j C Q X r (pc + 1) (ls, st, (hn, lt, iH f, jH (am_up g a i.toNat x), rt), u)) (e2 : 0 ≤ i ∧ i < n) : am_run j C Q X (.lastore :: r) pc (ls, .long (lZ x) :: .int (iZ i) :: .ref a :: st, (hn, lt, iH f, jH g, rt), u) := by
  exact ap_lastore e1 e3 (by rw [iZ_N ⟨e2.1, by omega⟩]; rw [← jH_up] at K; exact K) (iZ_in e2 en)
theorem ai_ifeq {off : Int} {tgt nx : Nat} {x : Int} (e : am_tg pc off = tgt) (e' : pc + 3 = nx) (kt : x = 0 → X tgt ls st h u) (kf : ¬ (x = 0) → X nx ls st h u) (er : iR x) : am_run j C Q X (.ifCond .eq off :: r) pc (ls, .int (iZ x) :: st, h, u) := by
  have q := iZ_eq er iR_0
  rw [← iZ_0] at q
  exact ap_ifeq e e' (fun z => kt (by first | exact q.mp z | exact fun w => z (q.mpr w))) (fun z => kf (by first | exact fun w => z (q.mpr w) | exact fun w => z (fun y => w (q.mp y))))
theorem ai_ifne {off : Int} {tgt nx : Nat} {x : Int} (e : am_tg pc off = tgt) (e' : pc + 3 = nx) (kt : ¬ x = 0 → X tgt ls st h u) (kf : ¬ (¬ x = 0) → X nx ls st h u) (er : iR x) : am_run j C Q X (.ifCond .ne off :: r) pc (ls, .int (iZ x) :: st, h, u) := by
  have q := iZ_eq er iR_0
  rw [← iZ_0] at q
  exact ap_ifne e e' (fun z => kt (by first | exact q.mp z | exact fun w => z (q.mpr w))) (fun z => kf (by first | exact fun w => z (q.mpr w) | exact fun w => z (fun y => w (q.mp y))))
theorem ai_iflt {off : Int} {tgt nx : Nat} {x : Int} (e : am_tg pc off = tgt) (e' : pc + 3 = nx) (kt : x < 0 → X tgt ls st h u) (kf : ¬ (x < 0) → X nx ls st h u) (er : iR x) : am_run j C Q X (.ifCond .lt off :: r) pc (ls, .int (iZ x) :: st, h, u) := by
  have q := iZ_lt er iR_0
  rw [← iZ_0] at q
  exact ap_iflt e e' (fun z => kt (by first | exact q.mp z | exact fun w => z (q.mpr w))) (fun z => kf (by first | exact fun w => z (q.mpr w) | exact fun w => z (fun y => w (q.mp y))))
theorem ai_ifge {off : Int} {tgt nx : Nat} {x : Int} (e : am_tg pc off = tgt) (e' : pc + 3 = nx) (kt : 0 ≤ x → X tgt ls st h u) (kf : ¬ (0 ≤ x) → X nx ls st h u) (er : iR x) : am_run j C Q X (.ifCond .ge off :: r) pc (ls, .int (iZ x) :: st, h, u) := by
  have q := iZ_le iR_0 er
  rw [← iZ_0] at q
  exact ap_ifge e e' (fun z => kt (by first | exact q.mp z | exact fun w => z (q.mpr w))) (fun z => kf (by first | exact fun w => z (q.mpr w) | exact fun w => z (fun y => w (q.mp y))))
theorem ai_ifgt {off : Int} {tgt nx : Nat} {x : Int} (e : am_tg pc off = tgt) (e' : pc + 3 = nx) (kt : 0 < x → X tgt ls st h u) (kf : ¬ (0 < x) → X nx ls st h u) (er : iR x) : am_run j C Q X (.ifCond .gt off :: r) pc (ls, .int (iZ x) :: st, h, u) := by
  have q := iZ_lt iR_0 er
  rw [← iZ_0] at q
  exact ap_ifgt e e' (fun z => kt (by first | exact q.mp z | exact fun w => z (q.mpr w))) (fun z => kf (by first | exact fun w => z (q.mpr w) | exact fun w => z (fun y => w (q.mp y))))
theorem ai_ifle {off : Int} {tgt nx : Nat} {x : Int} (e : am_tg pc off = tgt) (e' : pc + 3 = nx) (kt : x ≤ 0 → X tgt ls st h u) (kf : ¬ (x ≤ 0) → X nx ls st h u) (er : iR x) : am_run j C Q X (.ifCond .le off :: r) pc (ls, .int (iZ x) :: st, h, u) := by
  have q := iZ_le er iR_0
  rw [← iZ_0] at q
  exact ap_ifle e e' (fun z => kt (by first | exact q.mp z | exact fun w => z (q.mpr w))) (fun z => kf (by first | exact fun w => z (q.mpr w) | exact fun w => z (fun y => w (q.mp y))))
theorem ai_iceq {off : Int} {tgt nx : Nat} {x y : Int} (e : am_tg pc off = tgt) (e' : pc + 3 = nx) (kt : x = y → X tgt ls st h u) (kf : ¬ (x = y) → X nx ls st h u) (er : iR x ∧ iR y) : am_run j C Q X (.if_icmp .eq off :: r) pc (ls, .int (iZ y) :: .int (iZ x) :: st, h, u) := by
  have q := iZ_eq er.1 er.2
  exact ap_iceq e e' (fun z => kt (by first | exact q.mp z | exact fun w => z (q.mpr w))) (fun z => kf (by first | exact fun w => z (q.mpr w) | exact fun w => z (fun y => w (q.mp y))))
theorem ai_lceq {off : Int} {tgt nx : Nat} {x y : Int} (e : am_tg (pc + 1) off = tgt) (e' : pc + 1 + 3 = nx) (kt : x = y → X tgt ls st h u) (kf : ¬ (x = y) → X nx ls st h u) (er : lR x ∧ lR y) : am_run j C Q X (.lcmp :: .ifCond .eq off :: r) pc (ls, .long (lZ y) :: .long (lZ x) :: st, h, u) := by
  have q := (lg_cmp_eq _ _).trans (lZ_eq er.1 er.2)
  exact ap_lcmp (ap_ifeq e e' (fun z => kt (by first | exact q.mp z | exact fun w => z (q.mpr w))) (fun z => kf (by first | exact fun w => z (q.mpr w) | exact fun w => z (fun y => w (q.mp y)))))
theorem ai_icne {off : Int} {tgt nx : Nat} {x y : Int} (e : am_tg pc off = tgt) (e' : pc + 3 = nx) (kt : ¬ x = y → X tgt ls st h u) (kf : ¬ (¬ x = y) → X nx ls st h u) (er : iR x ∧ iR y) : am_run j C Q X (.if_icmp .ne off :: r) pc (ls, .int (iZ y) :: .int (iZ x) :: st, h, u) := by
  have q := iZ_eq er.1 er.2
  exact ap_icne e e' (fun z => kt (by first | exact q.mp z | exact fun w => z (q.mpr w))) (fun z => kf (by first | exact fun w => z (q.mpr w) | exact fun w => z (fun y => w (q.mp y))))
theorem ai_lcne {off : Int} {tgt nx : Nat} {x y : Int} (e : am_tg (pc + 1) off = tgt) (e' : pc + 1 + 3 = nx) (kt : ¬ x = y → X tgt ls st h u) (kf : ¬ (¬ x = y) → X nx ls st h u) (er : lR x ∧ lR y) : am_run j C Q X (.lcmp :: .ifCond .ne off :: r) pc (ls, .long (lZ y) :: .long (lZ x) :: st, h, u) := by
  have q := (lg_cmp_eq _ _).trans (lZ_eq er.1 er.2)
  exact ap_lcmp (ap_ifne e e' (fun z => kt (by first | exact q.mp z | exact fun w => z (q.mpr w))) (fun z => kf (by first | exact fun w => z (q.mpr w) | exact fun w => z (fun y => w (q.mp y)))))
theorem ai_iclt {off : Int} {tgt nx : Nat} {x y : Int} (e : am_tg pc off = tgt) (e' : pc + 3 = nx) (kt : x < y → X tgt ls st h u) (kf : ¬ (x < y) → X nx ls st h u) (er : iR x ∧ iR y) : am_run j C Q X (.if_icmp .lt off :: r) pc (ls, .int (iZ y) :: .int (iZ x) :: st, h, u) := by
  have q := iZ_lt er.1 er.2
  exact ap_iclt e e' (fun z => kt (by first | exact q.mp z | exact fun w => z (q.mpr w))) (fun z => kf (by first | exact fun w => z (q.mpr w) | exact fun w => z (fun y => w (q.mp y))))
theorem ai_lclt {off : Int} {tgt nx : Nat} {x y : Int} (e : am_tg (pc + 1) off = tgt) (e' : pc + 1 + 3 = nx) (kt : x < y → X tgt ls st h u) (kf : ¬ (x < y) → X nx ls st h u) (er : lR x ∧ lR y) : am_run j C Q X (.lcmp :: .ifCond .lt off :: r) pc (ls, .long (lZ y) :: .long (lZ x) :: st, h, u) := by
  have q := (lg_cmp_lt _ _).trans (lZ_lt er.1 er.2)
  exact ap_lcmp (ap_iflt e e' (fun z => kt (by first | exact q.mp z | exact fun w => z (q.mpr w))) (fun z => kf (by first | exact fun w => z (q.mpr w) | exact fun w => z (fun y => w (q.mp y)))))
theorem ai_icge {off : Int} {tgt nx : Nat} {x y : Int} (e : am_tg pc off = tgt) (e' : pc + 3 = nx) (kt : y ≤ x → X tgt ls st h u) (kf : ¬ (y ≤ x) → X nx ls st h u) (er : iR x ∧ iR y) : am_run j C Q X (.if_icmp .ge off :: r) pc (ls, .int (iZ y) :: .int (iZ x) :: st, h, u) := by
  have q := iZ_le er.2 er.1
  exact ap_icge e e' (fun z => kt (by first | exact q.mp z | exact fun w => z (q.mpr w))) (fun z => kf (by first | exact fun w => z (q.mpr w) | exact fun w => z (fun y => w (q.mp y))))
theorem ai_lcge {off : Int} {tgt nx : Nat} {x y : Int} (e : am_tg (pc + 1) off = tgt) (e' : pc + 1 + 3 = nx) (kt : y ≤ x → X tgt ls st h u) (kf : ¬ (y ≤ x) → X nx ls st h u) (er : lR x ∧ lR y) : am_run j C Q X (.lcmp :: .ifCond .ge off :: r) pc (ls, .long (lZ y) :: .long (lZ x) :: st, h, u) := by
  have q := (lg_cmp_ge _ _).trans (lZ_le er.2 er.1)
  exact ap_lcmp (ap_ifge e e' (fun z => kt (by first | exact q.mp z | exact fun w => z (q.mpr w))) (fun z => kf (by first | exact fun w => z (q.mpr w) | exact fun w => z (fun y => w (q.mp y)))))
theorem ai_icgt {off : Int} {tgt nx : Nat} {x y : Int} (e : am_tg pc off = tgt) (e' : pc + 3 = nx) (kt : y < x → X tgt ls st h u) (kf : ¬ (y < x) → X nx ls st h u) (er : iR x ∧ iR y) : am_run j C Q X (.if_icmp .gt off :: r) pc (ls, .int (iZ y) :: .int (iZ x) :: st, h, u) := by
  have q := iZ_lt er.2 er.1
  exact ap_icgt e e' (fun z => kt (by first | exact q.mp z | exact fun w => z (q.mpr w))) (fun z => kf (by first | exact fun w => z (q.mpr w) | exact fun w => z (fun y => w (q.mp y))))
theorem ai_lcgt {off : Int} {tgt nx : Nat} {x y : Int} (e : am_tg (pc + 1) off = tgt) (e' : pc + 1 + 3 = nx) (kt : y < x → X tgt ls st h u) (kf : ¬ (y < x) → X nx ls st h u) (er : lR x ∧ lR y) : am_run j C Q X (.lcmp :: .ifCond .gt off :: r) pc (ls, .long (lZ y) :: .long (lZ x) :: st, h, u) := by
  have q := (lg_cmp_gt _ _).trans (lZ_lt er.2 er.1)
  exact ap_lcmp (ap_ifgt e e' (fun z => kt (by first | exact q.mp z | exact fun w => z (q.mpr w))) (fun z => kf (by first | exact fun w => z (q.mpr w) | exact fun w => z (fun y => w (q.mp y)))))
theorem ai_icle {off : Int} {tgt nx : Nat} {x y : Int} (e : am_tg pc off = tgt) (e' : pc + 3 = nx) (kt : x ≤ y → X tgt ls st h u) (kf : ¬ (x ≤ y) → X nx ls st h u) (er : iR x ∧ iR y) : am_run j C Q X (.if_icmp .le off :: r) pc (ls, .int (iZ y) :: .int (iZ x) :: st, h, u) := by
  have q := iZ_le er.1 er.2
  exact ap_icle e e' (fun z => kt (by first | exact q.mp z | exact fun w => z (q.mpr w))) (fun z => kf (by first | exact fun w => z (q.mpr w) | exact fun w => z (fun y => w (q.mp y))))
theorem ai_lcle {off : Int} {tgt nx : Nat} {x y : Int} (e : am_tg (pc + 1) off = tgt) (e' : pc + 1 + 3 = nx) (kt : x ≤ y → X tgt ls st h u) (kf : ¬ (x ≤ y) → X nx ls st h u) (er : lR x ∧ lR y) : am_run j C Q X (.lcmp :: .ifCond .le off :: r) pc (ls, .long (lZ y) :: .long (lZ x) :: st, h, u) := by
  have q := (lg_cmp_le _ _).trans (lZ_le er.1 er.2)
  exact ap_lcmp (ap_ifle e e' (fun z => kt (by first | exact q.mp z | exact fun w => z (q.mpr w))) (fun z => kf (by first | exact fun w => z (q.mpr w) | exact fun w => z (fun y => w (q.mp y)))))
theorem ai_zret {v : Int} (e : am_rt j = 1) (K : Q (some (.int (iZ v))) h) (e' : v = 0 ∨ v = 1) : am_run j C Q X (.ireturn :: r) pc (ls, [.int (iZ v)], h, u) := ap_zret e (by rcases e' with rfl | rfl; exact Or.inl rfl; exact Or.inr rfl) K
theorem ai_mabs {p o : Nat} {x : Int} (eo : am_ow j = o) (e1 : am_rm o p = (2, 0)) (e2 : (st.map fun v => v.category).sum ≤ 8) (K : am_run j C Q X r (pc + 3) (ls, .int (iZ (if 0 ≤ x then x else -x)) :: st, h, u)) (e : iR x) : am_run j C Q X (.invokestatic p :: r) pc (ls, .int (iZ x) :: st, h, u) := by
  refine ap_mabs eo e1 e2 ?_
  have q := iZ_le iR_0 e
  rw [← iZ_0] at q
  by_cases hx : 0 ≤ x
  · rw [if_pos (q.mpr hx)]; rw [if_pos hx] at K; exact K
  · rw [if_neg (fun w => hx (q.mp w)), Int32.zero_sub, ← Int32.ofInt_neg]; rw [if_neg hx] at K; exact K
theorem ai_mabsl {p o : Nat} {x : Int} (eo : am_ow j = o) (e1 : am_rm o p = (3, 0)) (e2 : (st.map fun v => v.category).sum ≤ 8) (K : am_run j C Q X r (pc + 3) (ls, .long (lZ (if 0 < x then x else -x)) :: st, h, u)) (e : lR x) : am_run j C Q X (.invokestatic p :: r) pc (ls, .long (lZ x) :: st, h, u) := by
  refine ap_mabsl eo e1 e2 ?_
  have q := lZ_lt (x := 0) ⟨by decide, by decide⟩ e
  rw [← show (0 : Int64) = lZ 0 from rfl] at q
  by_cases hx : 0 < x
  · rw [if_pos (q.mpr hx)]; rw [if_pos hx] at K; exact K
  · rw [if_neg (fun w => hx (q.mp w)), ← Int64.ofInt_neg]; rw [if_neg hx] at K; exact K
theorem ai_mmaxl {p o : Nat} {x y : Int} (eo : am_ow j = o) (e1 : am_rm o p = (4, 0)) (e2 : (st.map fun v => v.category).sum ≤ 8) (K : am_run j C Q X r (pc + 3) (ls, .long (lZ (if y < x then x else y)) :: st, h, u)) (e : lR x ∧ lR y) : am_run j C Q X (.invokestatic p :: r) pc (ls, .long (lZ y) :: .long (lZ x) :: st, h, u) := by
  refine ap_mmaxl eo e1 e2 ?_
  have q := lZ_lt e.2 e.1
  by_cases hx : y < x
  · rw [if_pos (q.mpr hx)]; rw [if_pos hx] at K; exact K
  · rw [if_neg (fun w => hx (q.mp w))]; rw [if_neg hx] at K; exact K
theorem ai_mminl {p o : Nat} {x y : Int} (eo : am_ow j = o) (e1 : am_rm o p = (5, 0)) (e2 : (st.map fun v => v.category).sum ≤ 8) (K : am_run j C Q X r (pc + 3) (ls, .long (lZ (if y < x then y else x)) :: st, h, u)) (e : lR x ∧ lR y) : am_run j C Q X (.invokestatic p :: r) pc (ls, .long (lZ y) :: .long (lZ x) :: st, h, u) := by
  refine ap_mminl eo e1 e2 ?_
  have q := lZ_lt e.2 e.1
  by_cases hx : y < x
  · rw [if_pos (q.mpr hx)]; rw [if_pos hx] at K; exact K
  · rw [if_neg (fun w => hx (q.mp w))]; rw [if_neg hx] at K; exact K
end AIR
