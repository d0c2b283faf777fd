/-! RULES: the abstract machine run instruction by instruction, the goal first (printed by wip/gen/rules.py) -/
section APR
variable {j : Nat} {C : am_C} {Q : Option Value → am_H → Prop} {X : am_X} {r : List Jvm.ClassFile.Instr} {pc : Nat} {ls : am_L} {st : List Value} {h : am_H} {u : am_U}
theorem ap_iconst {n : Int} {v : Int32} (e : Int32.ofInt n = v) (K : am_run j C Q X r (pc + 1) (ls, .int v :: st, h, u))  : am_run j C Q X (.iconst n :: r) pc (ls, st, h, u) := by subst e; exact ⟨trivial, K⟩
theorem ap_bipush {n : Int} {v : Int32} (e : (Int8.ofInt n).toInt32 = v) (K : am_run j C Q X r (pc + 2) (ls, .int v :: st, h, u))  : am_run j C Q X (.bipush n :: r) pc (ls, st, h, u) := by subst e; exact ⟨trivial, K⟩
theorem ap_sipush {n : Int} {v : Int32} (e : (Int16.ofInt n).toInt32 = v) (K : am_run j C Q X r (pc + 3) (ls, .int v :: st, h, u))  : am_run j C Q X (.sipush n :: r) pc (ls, st, h, u) := by subst e; exact ⟨trivial, K⟩
theorem ap_lconst {n : Fin 2}  (K : am_run j C Q X r (pc + 1) (ls, .long (Int64.ofNat (n : Nat)) :: st, h, u))  : am_run j C Q X (.lconst n :: r) pc (ls, st, h, u) := ⟨trivial, K⟩
theorem ap_ldc2 {x : Nat} {v : Int64} {o : Nat} (eo : am_ow j = o) (e : am_kL o x = some v) (K : am_run j C Q X r (pc + 3) (ls, .long v :: st, h, u))  : am_run j C Q X (.ldc2_w x :: r) pc (ls, st, h, u) := by show am_ev _ _ _ _ _ (am_sem _ _ _ _ _ _ _); simp only [am_sem, eo, e]; exact ⟨trivial, K⟩
theorem ap_iload_n {k : Fin 4} {x : Int32} (e : am_lk ls k = some (.int x)) (K : am_run j C Q X r (pc + 1) (ls, .int x :: st, h, u))  : am_run j C Q X (.iload_n k :: r) pc (ls, st, h, u) := by show am_ev _ _ _ _ _ (am_sem _ _ _ _ _ _ _); simp only [am_sem, e]; exact ⟨trivial, K⟩
theorem ap_iload {k : Nat} {x : Int32} (e : am_lk ls k = some (.int x)) (K : am_run j C Q X r (pc + 2) (ls, .int x :: st, h, u))  : am_run j C Q X (.iload k :: r) pc (ls, st, h, u) := by show am_ev _ _ _ _ _ (am_sem _ _ _ _ _ _ _); simp only [am_sem, e]; exact ⟨trivial, K⟩
theorem ap_lload_n {k : Fin 4} {x : Int64} (e : am_lk ls k = some (.long x)) (K : am_run j C Q X r (pc + 1) (ls, .long x :: st, h, u))  : am_run j C Q X (.lload_n k :: r) pc (ls, st, h, u) := by show am_ev _ _ _ _ _ (am_sem _ _ _ _ _ _ _); simp only [am_sem, e]; exact ⟨trivial, K⟩
theorem ap_lload {k : Nat} {x : Int64} (e : am_lk ls k = some (.long x)) (K : am_run j C Q X r (pc + 2) (ls, .long x :: st, h, u))  : am_run j C Q X (.lload k :: r) pc (ls, st, h, u) := by show am_ev _ _ _ _ _ (am_sem _ _ _ _ _ _ _); simp only [am_sem, e]; exact ⟨trivial, K⟩
theorem ap_aload_n {k : Fin 4} {x : Nat} (e : am_lk ls k = some (.ref x)) (K : am_run j C Q X r (pc + 1) (ls, .ref x :: st, h, u))  : am_run j C Q X (.aload_n k :: r) pc (ls, st, h, u) := by show am_ev _ _ _ _ _ (am_sem _ _ _ _ _ _ _); simp only [am_sem, e]; exact ⟨trivial, K⟩
theorem ap_aload {k : Nat} {x : Nat} (e : am_lk ls k = some (.ref x)) (K : am_run j C Q X r (pc + 2) (ls, .ref x :: st, h, u))  : am_run j C Q X (.aload k :: r) pc (ls, st, h, u) := by show am_ev _ _ _ _ _ (am_sem _ _ _ _ _ _ _); simp only [am_sem, e]; exact ⟨trivial, K⟩
theorem ap_istore_n {k : Fin 4} {x : Int32} {ls' : am_L} (e : am_s1 ls k (.int x) = ls') (K : am_run j C Q X r (pc + 1) (ls', st, h, u))  : am_run j C Q X (.istore_n k :: r) pc (ls, .int x :: st, h, u) := by subst e; exact ⟨trivial, K⟩
theorem ap_istore {k : Nat} {x : Int32} {ls' : am_L} (e : am_s1 ls k (.int x) = ls') (K : am_run j C Q X r (pc + 2) (ls', st, h, u))  : am_run j C Q X (.istore k :: r) pc (ls, .int x :: st, h, u) := by subst e; exact ⟨trivial, K⟩
theorem ap_lstore_n {k : Fin 4} {x : Int64} {ls' : am_L} (e : am_s2 ls k (.long x) = ls') (K : am_run j C Q X r (pc + 1) (ls', st, h, u))  : am_run j C Q X (.lstore_n k :: r) pc (ls, .long x :: st, h, u) := by subst e; exact ⟨trivial, K⟩
theorem ap_lstore {k : Nat} {x : Int64} {ls' : am_L} (e : am_s2 ls k (.long x) = ls') (K : am_run j C Q X r (pc + 2) (ls', st, h, u))  : am_run j C Q X (.lstore k :: r) pc (ls, .long x :: st, h, u) := by subst e; exact ⟨trivial, K⟩
theorem ap_astore_n {k : Fin 4} {x : Nat} {ls' : am_L} (e : am_s1 ls k (.ref x) = ls') (K : am_run j C Q X r (pc + 1) (ls', st, h, u))  : am_run j C Q X (.astore_n k :: r) pc (ls, .ref x :: st, h, u) := by subst e; exact ⟨trivial, K⟩
theorem ap_astore {k : Nat} {x : Nat} {ls' : am_L} (e : am_s1 ls k (.ref x) = ls') (K : am_run j C Q X r (pc + 2) (ls', st, h, u))  : am_run j C Q X (.astore k :: r) pc (ls, .ref x :: st, h, u) := by subst e; exact ⟨trivial, K⟩
theorem ap_iinc {k : Nat} {n : Int} {x : Int32} {ls' : am_L} (e : am_lk ls k = some (.int x)) (e' : am_s1 ls k (.int (x + Int32.ofInt n)) = ls') (K : am_run j C Q X r (pc + 3) (ls', st, h, u))  : am_run j C Q X (.iinc k n :: r) pc (ls, st, h, u) := by subst e'; show am_ev _ _ _ _ _ (am_sem _ _ _ _ _ _ _); simp only [am_sem, e]; exact ⟨trivial, K⟩
theorem ap_iadd {x y : Int32}  (K : am_run j C Q X r (pc + 1) (ls, .int (x + y) :: st, h, u))  : am_run j C Q X (.iadd :: r) pc (ls, .int y :: .int x :: st, h, u) := ⟨trivial, K⟩
theorem ap_isub {x y : Int32}  (K : am_run j C Q X r (pc + 1) (ls, .int (x - y) :: st, h, u))  : am_run j C Q X (.isub :: r) pc (ls, .int y :: .int x :: st, h, u) := ⟨trivial, K⟩
theorem ap_imul {x y : Int32}  (K : am_run j C Q X r (pc + 1) (ls, .int (x * y) :: st, h, u))  : am_run j C Q X (.imul :: r) pc (ls, .int y :: .int x :: st, h, u) := ⟨trivial, K⟩
theorem ap_iand {x y : Int32}  (K : am_run j C Q X r (pc + 1) (ls, .int (x &&& y) :: st, h, u))  : am_run j C Q X (.iand :: r) pc (ls, .int y :: .int x :: st, h, u) := ⟨trivial, K⟩
theorem ap_ior {x y : Int32}  (K : am_run j C Q X r (pc + 1) (ls, .int (x ||| y) :: st, h, u))  : am_run j C Q X (.ior :: r) pc (ls, .int y :: .int x :: st, h, u) := ⟨trivial, K⟩
theorem ap_ishl {x y : Int32}  (K : am_run j C Q X r (pc + 1) (ls, .int (x <<< (y &&& 31)) :: st, h, u))  : am_run j C Q X (.ishl :: r) pc (ls, .int y :: .int x :: st, h, u) := ⟨trivial, K⟩
theorem ap_ishr {x y : Int32}  (K : am_run j C Q X r (pc + 1) (ls, .int (x >>> (y &&& 31)) :: st, h, u))  : am_run j C Q X (.ishr :: r) pc (ls, .int y :: .int x :: st, h, u) := ⟨trivial, K⟩
theorem ap_ladd {x y : Int64}  (K : am_run j C Q X r (pc + 1) (ls, .long (x + y) :: st, h, u))  : am_run j C Q X (.ladd :: r) pc (ls, .long y :: .long x :: st, h, u) := ⟨trivial, K⟩
theorem ap_lsub {x y : Int64}  (K : am_run j C Q X r (pc + 1) (ls, .long (x - y) :: st, h, u))  : am_run j C Q X (.lsub :: r) pc (ls, .long y :: .long x :: st, h, u) := ⟨trivial, K⟩
theorem ap_lmul {x y : Int64}  (K : am_run j C Q X r (pc + 1) (ls, .long (x * y) :: st, h, u))  : am_run j C Q X (.lmul :: r) pc (ls, .long y :: .long x :: st, h, u) := ⟨trivial, K⟩
theorem ap_land {x y : Int64}  (K : am_run j C Q X r (pc + 1) (ls, .long (x &&& y) :: st, h, u))  : am_run j C Q X (.land :: r) pc (ls, .long y :: .long x :: st, h, u) := ⟨trivial, K⟩
theorem ap_lor {x y : Int64}  (K : am_run j C Q X r (pc + 1) (ls, .long (x ||| y) :: st, h, u))  : am_run j C Q X (.lor :: r) pc (ls, .long y :: .long x :: st, h, u) := ⟨trivial, K⟩
theorem ap_lxor {x y : Int64}  (K : am_run j C Q X r (pc + 1) (ls, .long (x ^^^ y) :: st, h, u))  : am_run j C Q X (.lxor :: r) pc (ls, .long y :: .long x :: st, h, u) := ⟨trivial, K⟩
theorem ap_ineg {x : Int32}  (K : am_run j C Q X r (pc + 1) (ls, .int (-x) :: st, h, u))  : am_run j C Q X (.ineg :: r) pc (ls, .int x :: st, h, u) := ⟨trivial, K⟩
theorem ap_lneg {x : Int64}  (K : am_run j C Q X r (pc + 1) (ls, .long (-x) :: st, h, u))  : am_run j C Q X (.lneg :: r) pc (ls, .long x :: st, h, u) := ⟨trivial, K⟩
theorem ap_i2l {x : Int32}  (K : am_run j C Q X r (pc + 1) (ls, .long x.toInt64 :: st, h, u))  : am_run j C Q X (.i2l :: r) pc (ls, .int x :: st, h, u) := ⟨trivial, K⟩
theorem ap_l2i {x : Int64}  (K : am_run j C Q X r (pc + 1) (ls, .int x.toInt32 :: st, h, u))  : am_run j C Q X (.l2i :: r) pc (ls, .long x :: st, h, u) := ⟨trivial, K⟩
theorem ap_lushr {x : Int64} {y : Int32}  (K : am_run j C Q X r (pc + 1) (ls, .long (x.toUInt64 >>> (y.toInt64.toUInt64 &&& Int64.toUInt64 63)).toInt64 :: st, h, u))  : am_run j C Q X (.lushr :: r) pc (ls, .int y :: .long x :: st, h, u) := ⟨trivial, K⟩
theorem ap_lshl {x : Int64} {y : Int32}  (K : am_run j C Q X r (pc + 1) (ls, .long (x <<< (y.toInt64 &&& 63)) :: st, h, u))  : am_run j C Q X (.lshl :: r) pc (ls, .int y :: .long x :: st, h, u) := ⟨trivial, K⟩
theorem ap_lcmp {x y : Int64}  (K : am_run j C Q X r (pc + 1) (ls, .int (lg_cmp x y) :: st, h, u))  : am_run j C Q X (.lcmp :: r) pc (ls, .long y :: .long x :: st, h, u) := ⟨trivial, K⟩
theorem ap_dup {v : Value} (e : v.category = 1) (K : am_run j C Q X r (pc + 1) (ls, v :: v :: st, h, u))  : am_run j C Q X (.dup :: r) pc (ls, v :: st, h, u) := ⟨e, K⟩
theorem ap_dup2 {v w : Value} (e : v.category = 1) (e2 : w.category = 1) (K : am_run j C Q X r (pc + 1) (ls, v :: w :: v :: w :: st, h, u))  : am_run j C Q X (.dup2 :: r) pc (ls, v :: w :: st, h, u) := ⟨⟨e, e2⟩, K⟩
theorem am_fv0 {c k a : Nat} (e : am_ft c k = 0) : am_fv h c k a = .int (h.2.2.1 a k) := by simp only [am_fv, e]
theorem am_fv1 {c k a : Nat} (e : am_ft c k = 1) : am_fv h c k a = .int (h.2.2.1 a k) := by simp only [am_fv, e]
theorem am_fv2 {c k a : Nat} (e : am_ft c k = 2) : am_fv h c k a = .long (h.2.2.2.1 a k) := by simp only [am_fv, e]
theorem am_fv3 {c k a b : Nat} (e : am_ft c k = 3) (e' : h.2.2.2.2 a k = b + 1) : am_fv h c k a = .ref b := by simp only [am_fv, e, e', am_rv]
theorem ap_getI {x c k a : Nat} {o : Nat} (eo : am_ow j = o) (e1 : am_rf o x = some (c, k)) (e2 : am_ty h a = some (c + 3)) (e3 : am_ft c k = 0) (K : am_run j C Q X r (pc + 3) (ls, .int (h.2.2.1 a k) :: st, h, u))  : am_run j C Q X (.getfield x :: r) pc (ls, .ref a :: st, h, u) := by show am_ev _ _ _ _ _ (am_sem _ _ _ _ _ _ _); simp only [am_sem, eo, e1]; exact ⟨e2, by rw [am_fv0 e3]; exact K⟩
theorem ap_getZ {x c k a : Nat} {o : Nat} (eo : am_ow j = o) (e1 : am_rf o x = some (c, k)) (e2 : am_ty h a = some (c + 3)) (e3 : am_ft c k = 1) (K : am_run j C Q X r (pc + 3) (ls, .int (h.2.2.1 a k) :: st, h, u))  : am_run j C Q X (.getfield x :: r) pc (ls, .ref a :: st, h, u) := by show am_ev _ _ _ _ _ (am_sem _ _ _ _ _ _ _); simp only [am_sem, eo, e1]; exact ⟨e2, by rw [am_fv1 e3]; exact K⟩
theorem ap_getJ {x c k a : Nat} {o : Nat} (eo : am_ow j = o) (e1 : am_rf o x = some (c, k)) (e2 : am_ty h a = some (c + 3)) (e3 : am_ft c k = 2) (K : am_run j C Q X r (pc + 3) (ls, .long (h.2.2.2.1 a k) :: st, h, u))  : am_run j C Q X (.getfield x :: r) pc (ls, .ref a :: st, h, u) := by show am_ev _ _ _ _ _ (am_sem _ _ _ _ _ _ _); simp only [am_sem, eo, e1]; exact ⟨e2, by rw [am_fv2 e3]; exact K⟩
theorem ap_getR {x c k a b : Nat} {o : Nat} (eo : am_ow j = o) (e1 : am_rf o x = some (c, k)) (e2 : am_ty h a = some (c + 3)) (e3 : am_ft c k = 3) (e4 : h.2.2.2.2 a k = b + 1) (K : am_run j C Q X r (pc + 3) (ls, .ref b :: st, h, u))  : am_run j C Q X (.getfield x :: r) pc (ls, .ref a :: st, h, u) := by show am_ev _ _ _ _ _ (am_sem _ _ _ _ _ _ _); simp only [am_sem, eo, e1]; exact ⟨e2, by rw [am_fv3 e3 e4]; exact K⟩
theorem ap_putI {x c k a : Nat} {v : Int32} {o : Nat} (eo : am_ow j = o) (e1 : am_rf o x = some (c, k)) (e2 : am_ty h a = some (c + 3)) (e3 : am_ft c k = 0) (e4 : (!am_ff c k || (decide (o = c) && am_in j)) = true)  (K : am_run j C Q X r (pc + 3) (ls, st, am_pi h a k v, u))  : am_run j C Q X (.putfield x :: r) pc (ls, .int v :: .ref a :: st, h, u) := by show am_ev _ _ _ _ _ (am_sem _ _ _ _ _ _ _); simp only [am_sem, eo, e1, am_av, am_fp, e3]; refine ⟨⟨e2, fun hf => ?_, trivial⟩, K⟩; rw [hf] at e4; simpa using e4
theorem ap_putZ {x c k a : Nat} {v : Int32} {o : Nat} (eo : am_ow j = o) (e1 : am_rf o x = some (c, k)) (e2 : am_ty h a = some (c + 3)) (e3 : am_ft c k = 1) (e4 : (!am_ff c k || (decide (o = c) && am_in j)) = true)  (K : am_run j C Q X r (pc + 3) (ls, st, am_pi h a k v, u)) (e5 : v = 0 ∨ v = 1) : am_run j C Q X (.putfield x :: r) pc (ls, .int v :: .ref a :: st, h, u) := by show am_ev _ _ _ _ _ (am_sem _ _ _ _ _ _ _); simp only [am_sem, eo, e1, am_av, am_fp, e3]; refine ⟨⟨e2, fun hf => ?_, e5⟩, K⟩; rw [hf] at e4; simpa using e4
theorem ap_putJ {x c k a : Nat} {v : Int64} {o : Nat} (eo : am_ow j = o) (e1 : am_rf o x = some (c, k)) (e2 : am_ty h a = some (c + 3)) (e3 : am_ft c k = 2) (e4 : (!am_ff c k || (decide (o = c) && am_in j)) = true)  (K : am_run j C Q X r (pc + 3) (ls, st, am_pl h a k v, u))  : am_run j C Q X (.putfield x :: r) pc (ls, .long v :: .ref a :: st, h, u) := by show am_ev _ _ _ _ _ (am_sem _ _ _ _ _ _ _); simp only [am_sem, eo, e1, am_av, am_fp, e3]; refine ⟨⟨e2, fun hf => ?_, trivial⟩, K⟩; rw [hf] at e4; simpa using e4
theorem ap_putR {x c k a : Nat} {v : Nat} {o : Nat} (eo : am_ow j = o) (e1 : am_rf o x = some (c, k)) (e2 : am_ty h a = some (c + 3)) (e3 : am_ft c k = 3) (e4 : (!am_ff c k || (decide (o = c) && am_in j)) = true) (e5 : v < h.1) (K : am_run j C Q X r (pc + 3) (ls, st, am_pr h a k (v + 1), u))  : am_run j C Q X (.putfield x :: r) pc (ls, .ref v :: .ref a :: st, h, u) := by show am_ev _ _ _ _ _ (am_sem _ _ _ _ _ _ _); simp only [am_sem, eo, e1, am_av, am_fp, e3]; refine ⟨⟨e2, fun hf => ?_, e5⟩, K⟩; rw [hf] at e4; simpa using e4
theorem ap_iaload {a n : Nat} {i : Int32} (e1 : am_ty h a = some 0) (e3 : am_sz h a = n) (K : am_run j C Q X r (pc + 1) (ls, .int (h.2.2.1 a i.toNatClampNeg) :: st, h, u)) (e2 : vp_in i n) : am_run j C Q X (.iaload :: r) pc (ls, .int i :: .ref a :: st, h, u) := ⟨⟨Or.inl e1, by rw [e3]; exact e2⟩, K⟩
theorem ap_baload {a n : Nat} {i : Int32} (e1 : am_ty h a = some 1) (e3 : am_sz h a = n) (K : am_run j C Q X r (pc + 1) (ls, .int (h.2.2.1 a i.toNatClampNeg) :: st, h, u)) (e2 : vp_in i n) : am_run j C Q X (.baload :: r) pc (ls, .int i :: .ref a :: st, h, u) := ⟨⟨e1, by rw [e3]; exact e2⟩, K⟩
theorem ap_laload {a n : Nat} {i : Int32} (e1 : am_ty h a = some 2) (e3 : am_sz h a = n) (K : am_run j C Q X r (pc + 1) (ls, .long (h.2.2.2.1 a i.toNatClampNeg) :: st, h, u)) (e2 : vp_in i n) : am_run j C Q X (.laload :: r) pc (ls, .int i :: .ref a :: st, h, u) := ⟨⟨e1, by rw [e3]; exact e2⟩, K⟩
theorem ap_iastore {a n : Nat} {i : Int32} {x : Int32} (e1 : am_ty h a = some 0) (e3 : am_sz h a = n) (K : am_run j C Q X r (pc + 1) (ls, st, am_pi h a i.toNatClampNeg x, u)) (e2 : vp_in i n) : am_run j C Q X (.iastore :: r) pc (ls, .int x :: .int i :: .ref a :: st, h, u) := ⟨⟨e1, by rw [e3]; exact e2⟩, K⟩
theorem ap_bastore {a n : Nat} {i : Int32} {x : Int32} (e1 : am_ty h a = some 1) (e3 : am_sz h a = n) (K : am_run j C Q X r (pc + 1) (ls, st, am_pi h a i.toNatClampNeg x, u)) (e2 : vp_in i n) (e5 : x = 0 ∨ x = 1) : am_run j C Q X (.bastore :: r) pc (ls, .int x :: .int i :: .ref a :: st, h, u) := ⟨⟨e1, by rw [e3]; exact e2, e5⟩, K⟩
theorem ap_lastore {a n : Nat} {i : Int32} {x : Int64} (e1 : am_ty h a = some 2) (e3 : am_sz h a = n) (K : am_run j C Q X r (pc + 1) (ls, st, am_pl h a i.toNatClampNeg x, u)) (e2 : vp_in i n) : am_run j C Q X (.lastore :: r) pc (ls, .long x :: .int i :: .ref a :: st, h, u) := ⟨⟨e1, by rw [e3]; exact e2⟩, K⟩
theorem ap_idiv {x y : Int32} (e : ¬ y = 0) (K : am_run j C Q X r (pc + 1) (ls, .int (x / y) :: st, h, u))  : am_run j C Q X (.idiv :: r) pc (ls, .int y :: .int x :: st, h, u) := ⟨e, K⟩
theorem ap_irem {x y : Int32} (e : ¬ y = 0) (K : am_run j C Q X r (pc + 1) (ls, .int (x - x / y * y) :: st, h, u))  : am_run j C Q X (.irem :: r) pc (ls, .int y :: .int x :: st, h, u) := ⟨e, K⟩
theorem ap_ldiv {x y : Int64}  (K : am_run j C Q X r (pc + 1) (ls, .long (x / y) :: st, h, u)) (e : ¬ y = 0) : am_run j C Q X (.ldiv :: r) pc (ls, .long y :: .long x :: st, h, u) := ⟨e, K⟩
theorem ap_oinit {x a o : Nat} (eo : am_ow j = o) (e1 : am_rm o x = (1, 0)) (e2 : (st.map fun v => v.category).sum ≤ 8) (K : am_run j C Q X r (pc + 3) (ls, st, h, u)) : am_run j C Q X (.invokespecial x :: r) pc (ls, .ref a :: st, h, u) := by show am_ev _ _ _ _ _ (am_sem _ _ _ _ _ _ _); simp only [am_sem, am_ivi, eo, e1]; exact ⟨e2, K⟩
theorem ap_mabs {p o : Nat} {x : Int32} (eo : am_ow j = o) (e1 : am_rm o p = (2, 0)) (e2 : (st.map fun v => v.category).sum ≤ 8) (K : am_run j C Q X r (pc + 3) (ls, .int (if 0 ≤ x then x else 0 - x) :: st, h, u)) : am_run j C Q X (.invokestatic p :: r) pc (ls, .int x :: st, h, u) := by show am_ev _ _ _ _ _ (am_sem _ _ _ _ _ _ _); simp only [am_sem, am_ivs, eo, e1]; exact ⟨e2, K⟩
theorem ap_mabsl {p o : Nat} {x : Int64} (eo : am_ow j = o) (e1 : am_rm o p = (3, 0)) (e2 : (st.map fun v => v.category).sum ≤ 8) (K : am_run j C Q X r (pc + 3) (ls, .long (if 0 < x then x else -x) :: st, h, u)) : am_run j C Q X (.invokestatic p :: r) pc (ls, .long x :: st, h, u) := by show am_ev _ _ _ _ _ (am_sem _ _ _ _ _ _ _); simp only [am_sem, am_ivs, eo, e1]; exact ⟨e2, K⟩
theorem ap_mmaxl {p o : Nat} {x y : Int64} (eo : am_ow j = o) (e1 : am_rm o p = (4, 0)) (e2 : (st.map fun v => v.category).sum ≤ 8) (K : am_run j C Q X r (pc + 3) (ls, .long (if y < x then x else y) :: st, h, u)) : am_run j C Q X (.invokestatic p :: r) pc (ls, .long y :: .long x :: st, h, u) := by show am_ev _ _ _ _ _ (am_sem _ _ _ _ _ _ _); simp only [am_sem, am_ivs, eo, e1]; exact ⟨e2, K⟩
theorem ap_mminl {p o : Nat} {x y : Int64} (eo : am_ow j = o) (e1 : am_rm o p = (5, 0)) (e2 : (st.map fun v => v.category).sum ≤ 8) (K : am_run j C Q X r (pc + 3) (ls, .long (if y < x then y else x) :: st, h, u)) : am_run j C Q X (.invokestatic p :: r) pc (ls, .long y :: .long x :: st, h, u) := by show am_ev _ _ _ _ _ (am_sem _ _ _ _ _ _ _); simp only [am_sem, am_ivs, eo, e1]; exact ⟨e2, K⟩
theorem ap_goto {off : Int} {tgt : Nat} (e : am_tg pc off = tgt) (K : X tgt ls st h u) : am_run j C Q X (.goto off :: r) pc (ls, st, h, u) := by subst e; exact ⟨trivial, K⟩
theorem ap_ifeq {off : Int} {tgt nx : Nat} {x : Int32} (e : am_tg pc off = tgt) (e' : pc + 3 = nx) (kt : x = 0 → X tgt ls st h u) (kf : ¬ (x = 0) → X nx ls st h u) : am_run j C Q X (.ifCond .eq off :: r) pc (ls, .int x :: st, h, u) := by
  subst e; subst e'
  refine ⟨trivial, ?_⟩
  show X (if am_c1 .eq x = true then _ else _) ls st h u
  by_cases hc : x = 0
  · rw [if_pos (show am_c1 .eq x = true from decide_eq_true hc)]; exact kt hc
  · rw [if_neg (show ¬ am_c1 .eq x = true from fun w => hc (of_decide_eq_true w))]; exact kf hc
theorem ap_ifne {off : Int} {tgt nx : Nat} {x : Int32} (e : am_tg pc off = tgt) (e' : pc + 3 = nx) (kt : ¬ x = 0 → X tgt ls st h u) (kf : ¬ (¬ x = 0) → X nx ls st h u) : am_run j C Q X (.ifCond .ne off :: r) pc (ls, .int x :: st, h, u) := by
  subst e; subst e'
  refine ⟨trivial, ?_⟩
  show X (if am_c1 .ne x = true then _ else _) ls st h u
  by_cases hc : ¬ x = 0
  · rw [if_pos (show am_c1 .ne x = true from decide_eq_true hc)]; exact kt hc
  · rw [if_neg (show ¬ am_c1 .ne x = true from fun w => hc (of_decide_eq_true w))]; exact kf hc
theorem ap_iflt {off : Int} {tgt nx : Nat} {x : Int32} (e : am_tg pc off = tgt) (e' : pc + 3 = nx) (kt : x < 0 → X tgt ls st h u) (kf : ¬ (x < 0) → X nx ls st h u) : am_run j C Q X (.ifCond .lt off :: r) pc (ls, .int x :: st, h, u) := by
  subst e; subst e'
  refine ⟨trivial, ?_⟩
  show X (if am_c1 .lt x = true then _ else _) ls st h u
  by_cases hc : x < 0
  · rw [if_pos (show am_c1 .lt x = true from decide_eq_true hc)]; exact kt hc
  · rw [if_neg (show ¬ am_c1 .lt x = true from fun w => hc (of_decide_eq_true w))]; exact kf hc
theorem ap_ifge {off : Int} {tgt nx : Nat} {x : Int32} (e : am_tg pc off = tgt) (e' : pc + 3 = nx) (kt : 0 ≤ x → X tgt ls st h u) (kf : ¬ (0 ≤ x) → X nx ls st h u) : am_run j C Q X (.ifCond .ge off :: r) pc (ls, .int x :: st, h, u) := by
  subst e; subst e'
  refine ⟨trivial, ?_⟩
  show X (if am_c1 .ge x = true then _ else _) ls st h u
  by_cases hc : 0 ≤ x
  · rw [if_pos (show am_c1 .ge x = true from decide_eq_true hc)]; exact kt hc
  · rw [if_neg (show ¬ am_c1 .ge x = true from fun w => hc (of_decide_eq_true w))]; exact kf hc
theorem ap_ifgt {off : Int} {tgt nx : Nat} {x : Int32} (e : am_tg pc off = tgt) (e' : pc + 3 = nx) (kt : 0 < x → X tgt ls st h u) (kf : ¬ (0 < x) → X nx ls st h u) : am_run j C Q X (.ifCond .gt off :: r) pc (ls, .int x :: st, h, u) := by
  subst e; subst e'
  refine ⟨trivial, ?_⟩
  show X (if am_c1 .gt x = true then _ else _) ls st h u
  by_cases hc : 0 < x
  · rw [if_pos (show am_c1 .gt x = true from decide_eq_true hc)]; exact kt hc
  · rw [if_neg (show ¬ am_c1 .gt x = true from fun w => hc (of_decide_eq_true w))]; exact kf hc
theorem ap_ifle {off : Int} {tgt nx : Nat} {x : Int32} (e : am_tg pc off = tgt) (e' : pc + 3 = nx) (kt : x ≤ 0 → X tgt ls st h u) (kf : ¬ (x ≤ 0) → X nx ls st h u) : am_run j C Q X (.ifCond .le off :: r) pc (ls, .int x :: st, h, u) := by
  subst e; subst e'
  refine ⟨trivial, ?_⟩
  show X (if am_c1 .le x = true then _ else _) ls st h u
  by_cases hc : x ≤ 0
  · rw [if_pos (show am_c1 .le x = true from decide_eq_true hc)]; exact kt hc
  · rw [if_neg (show ¬ am_c1 .le x = true from fun w => hc (of_decide_eq_true w))]; exact kf hc
theorem ap_iceq {off : Int} {tgt nx : Nat} {x y : Int32} (e : am_tg pc off = tgt) (e' : pc + 3 = nx) (kt : x = y → X tgt ls st h u) (kf : ¬ (x = y) → X nx ls st h u) : am_run j C Q X (.if_icmp .eq off :: r) pc (ls, .int y :: .int x :: st, h, u) := by
  subst e; subst e'
  refine ⟨trivial, ?_⟩
  show X (if am_c2 .eq x y = true then _ else _) ls st h u
  by_cases hc : x = y
  · rw [if_pos (show am_c2 .eq x y = true from decide_eq_true hc)]; exact kt hc
  · rw [if_neg (show ¬ am_c2 .eq x y = true from fun w => hc (of_decide_eq_true w))]; exact kf hc
theorem ap_icne {off : Int} {tgt nx : Nat} {x y : Int32} (e : am_tg pc off = tgt) (e' : pc + 3 = nx) (kt : ¬ x = y → X tgt ls st h u) (kf : ¬ (¬ x = y) → X nx ls st h u) : am_run j C Q X (.if_icmp .ne off :: r) pc (ls, .int y :: .int x :: st, h, u) := by
  subst e; subst e'
  refine ⟨trivial, ?_⟩
  show X (if am_c2 .ne x y = true then _ else _) ls st h u
  by_cases hc : ¬ x = y
  · rw [if_pos (show am_c2 .ne x y = true from decide_eq_true hc)]; exact kt hc
  · rw [if_neg (show ¬ am_c2 .ne x y = true from fun w => hc (of_decide_eq_true w))]; exact kf hc
theorem ap_iclt {off : Int} {tgt nx : Nat} {x y : Int32} (e : am_tg pc off = tgt) (e' : pc + 3 = nx) (kt : x < y → X tgt ls st h u) (kf : ¬ (x < y) → X nx ls st h u) : am_run j C Q X (.if_icmp .lt off :: r) pc (ls, .int y :: .int x :: st, h, u) := by
  subst e; subst e'
  refine ⟨trivial, ?_⟩
  show X (if am_c2 .lt x y = true then _ else _) ls st h u
  by_cases hc : x < y
  · rw [if_pos (show am_c2 .lt x y = true from decide_eq_true hc)]; exact kt hc
  · rw [if_neg (show ¬ am_c2 .lt x y = true from fun w => hc (of_decide_eq_true w))]; exact kf hc
theorem ap_icge {off : Int} {tgt nx : Nat} {x y : Int32} (e : am_tg pc off = tgt) (e' : pc + 3 = nx) (kt : y ≤ x → X tgt ls st h u) (kf : ¬ (y ≤ x) → X nx ls st h u) : am_run j C Q X (.if_icmp .ge off :: r) pc (ls, .int y :: .int x :: st, h, u) := by
  subst e; subst e'
  refine ⟨trivial, ?_⟩
  show X (if am_c2 .ge x y = true then _ else _) ls st h u
  by_cases hc : y ≤ x
  · rw [if_pos (show am_c2 .ge x y = true from decide_eq_true hc)]; exact kt hc
  · rw [if_neg (show ¬ am_c2 .ge x y = true from fun w => hc (of_decide_eq_true w))]; exact kf hc
theorem ap_icgt {off : Int} {tgt nx : Nat} {x y : Int32} (e : am_tg pc off = tgt) (e' : pc + 3 = nx) (kt : y < x → X tgt ls st h u) (kf : ¬ (y < x) → X nx ls st h u) : am_run j C Q X (.if_icmp .gt off :: r) pc (ls, .int y :: .int x :: st, h, u) := by
  subst e; subst e'
  refine ⟨trivial, ?_⟩
  show X (if am_c2 .gt x y = true then _ else _) ls st h u
  by_cases hc : y < x
  · rw [if_pos (show am_c2 .gt x y = true from decide_eq_true hc)]; exact kt hc
  · rw [if_neg (show ¬ am_c2 .gt x y = true from fun w => hc (of_decide_eq_true w))]; exact kf hc
theorem ap_icle {off : Int} {tgt nx : Nat} {x y : Int32} (e : am_tg pc off = tgt) (e' : pc + 3 = nx) (kt : x ≤ y → X tgt ls st h u) (kf : ¬ (x ≤ y) → X nx ls st h u) : am_run j C Q X (.if_icmp .le off :: r) pc (ls, .int y :: .int x :: st, h, u) := by
  subst e; subst e'
  refine ⟨trivial, ?_⟩
  show X (if am_c2 .le x y = true then _ else _) ls st h u
  by_cases hc : x ≤ y
  · rw [if_pos (show am_c2 .le x y = true from decide_eq_true hc)]; exact kt hc
  · rw [if_neg (show ¬ am_c2 .le x y = true from fun w => hc (of_decide_eq_true w))]; exact kf hc
theorem ap_iret {v : Int32} (e : am_rt j = 0) (K : Q (some (.int v)) h) : am_run j C Q X (.ireturn :: r) pc (ls, [.int v], h, u) := ⟨Or.inl e, K⟩
theorem ap_zret {v : Int32} (e : am_rt j = 1) (e' : v = 0 ∨ v = 1) (K : Q (some (.int v)) h) : am_run j C Q X (.ireturn :: r) pc (ls, [.int v], h, u) := ⟨Or.inr ⟨e, e'⟩, K⟩
theorem ap_lret {v : Int64} (e : am_rt j = 2) (K : Q (some (.long v)) h) : am_run j C Q X (.lreturn :: r) pc (ls, [.long v], h, u) := ⟨e, K⟩
theorem ap_vret (e : am_rt j = 3) (K : Q none h) : am_run j C Q X (.return_ :: r) pc (ls, [], h, u) := ⟨e, K⟩
theorem ap_calls {x k n o : Nat} {as : List Value} {st' : List Value} (eo : am_ow j = o) (e1 : am_rm o x = (0, k)) (e2 : am_na k = n) (e3 : (st.take n).reverse = as) (e4 : st.drop n = st') (e5 : n ≤ st.length) (e6 : (st'.map fun v => v.category).sum ≤ 8) (e7 : am_rc h k as) (e8 : u.1 + am_mc k ≤ am_mc j) (e9 : u.2 + am_ms k ≤ am_ms j) (K : C k as h (fun v h' => am_run j C Q X r (pc + 3) (ls, v.toList ++ st', h', (u.1 + am_mc k, u.2 + am_ms k)))) : am_run j C Q X (.invokestatic x :: r) pc (ls, st, h, u) := by
  subst e2; subst e3; subst e4
  show am_ev _ _ _ _ _ (am_sem _ _ _ _ _ _ _)
  simp only [am_sem, am_ivs, eo, e1, am_cal]
  exact ⟨⟨e5, e6, e7, e8, e9⟩, K⟩
theorem ap_calls0 {x k n o : Nat} {as : List Value} {st' : List Value} (eo : am_ow j = o) (e1 : am_rm o x = (0, k)) (e2 : am_na k = n) (ec : am_mc k = 0) (es : am_ms k = 0) (e3 : (st.take n).reverse = as) (e4 : st.drop n = st') (e5 : n ≤ st.length) (e6 : (st'.map fun v => v.category).sum ≤ 8) (e7 : am_rc h k as) (e8 : u.1 ≤ am_mc j) (e9 : u.2 ≤ am_ms j) (K : C k as h (fun v h' => am_run j C Q X r (pc + 3) (ls, v.toList ++ st', h', u))) : am_run j C Q X (.invokestatic x :: r) pc (ls, st, h, u) := by
  refine ap_calls eo e1 e2 e3 e4 e5 e6 e7 (by rw [ec]; exact e8) (by rw [es]; exact e9) ?_
  rw [ec, es]
  exact K
theorem ap_callv {x k n o : Nat} {as : List Value} {st' : List Value} (eo : am_ow j = o) (e1 : am_rm o x = (6, k)) (e2 : am_na k = n) (e3 : (st.take n).reverse = as) (e4 : st.drop n = st') (e5 : n ≤ st.length) (e6 : (st'.map fun v => v.category).sum ≤ 8) (e7 : am_rc h k as) (e8 : u.1 + am_mc k ≤ am_mc j) (e9 : u.2 + am_ms k ≤ am_ms j) (K : C k as h (fun v h' => am_run j C Q X r (pc + 3) (ls, v.toList ++ st', h', (u.1 + am_mc k, u.2 + am_ms k)))) : am_run j C Q X (.invokevirtual x :: r) pc (ls, st, h, u) := by
  subst e2; subst e3; subst e4
  show am_ev _ _ _ _ _ (am_sem _ _ _ _ _ _ _)
  simp only [am_sem, am_ivv, eo, e1, am_cal]
  exact ⟨⟨e5, e6, e7, e8, e9⟩, K⟩
theorem ap_callv0 {x k n o : Nat} {as : List Value} {st' : List Value} (eo : am_ow j = o) (e1 : am_rm o x = (6, k)) (e2 : am_na k = n) (ec : am_mc k = 0) (es : am_ms k = 0) (e3 : (st.take n).reverse = as) (e4 : st.drop n = st') (e5 : n ≤ st.length) (e6 : (st'.map fun v => v.category).sum ≤ 8) (e7 : am_rc h k as) (e8 : u.1 ≤ am_mc j) (e9 : u.2 ≤ am_ms j) (K : C k as h (fun v h' => am_run j C Q X r (pc + 3) (ls, v.toList ++ st', h', u))) : am_run j C Q X (.invokevirtual x :: r) pc (ls, st, h, u) := by
  refine ap_callv eo e1 e2 e3 e4 e5 e6 e7 (by rw [ec]; exact e8) (by rw [es]; exact e9) ?_
  rw [ec, es]
  exact K
theorem ap_calli {x k n o : Nat} {as : List Value} {st' : List Value} (eo : am_ow j = o) (e1 : am_rm o x = (7, k)) (e2 : am_na k = n) (e3 : (st.take n).reverse = as) (e4 : st.drop n = st') (e5 : n ≤ st.length) (e6 : (st'.map fun v => v.category).sum ≤ 8) (e7 : am_rc h k as) (e8 : u.1 + am_mc k ≤ am_mc j) (e9 : u.2 + am_ms k ≤ am_ms j) (K : C k as h (fun v h' => am_run j C Q X r (pc + 3) (ls, v.toList ++ st', h', (u.1 + am_mc k, u.2 + am_ms k)))) : am_run j C Q X (.invokespecial x :: r) pc (ls, st, h, u) := by
  subst e2; subst e3; subst e4
  show am_ev _ _ _ _ _ (am_sem _ _ _ _ _ _ _)
  simp only [am_sem, am_ivi, eo, e1, am_cal]
  exact ⟨⟨e5, e6, e7, e8, e9⟩, K⟩
theorem ap_calli0 {x k n o : Nat} {as : List Value} {st' : List Value} (eo : am_ow j = o) (e1 : am_rm o x = (7, k)) (e2 : am_na k = n) (ec : am_mc k = 0) (es : am_ms k = 0) (e3 : (st.take n).reverse = as) (e4 : st.drop n = st') (e5 : n ≤ st.length) (e6 : (st'.map fun v => v.category).sum ≤ 8) (e7 : am_rc h k as) (e8 : u.1 ≤ am_mc j) (e9 : u.2 ≤ am_ms j) (K : C k as h (fun v h' => am_run j C Q X r (pc + 3) (ls, v.toList ++ st', h', u))) : am_run j C Q X (.invokespecial x :: r) pc (ls, st, h, u) := by
  refine ap_calli eo e1 e2 e3 e4 e5 e6 e7 (by rw [ec]; exact e8) (by rw [es]; exact e9) ?_
  rw [ec, es]
  exact K
theorem ap_nil (K : X pc ls st h u) : am_run j C Q X [] pc (ls, st, h, u) := K
end APR
/-- a method begins -/
theorem ap_call {d j : Nat} {as : List Value} {h : am_H} {Q : Option Value → am_H → Prop} {ls : am_L} (e1 : j < am_lst) (e2 : (am_sp as).length ≤ am_mL j) (e3 : am_en j as = ls) (K : am_Wp (am_call d) j Q 0 ls [] h (0, 0)) : am_call (d + 1) j as h Q := by
  subst e3; exact ⟨⟨e1, e2⟩, K⟩
/-- a block begins -/
theorem ap_go {d j : Nat} {Q : Option Value → am_H → Prop} {pc : Nat} {ls : am_L} {st : List Value} {h : am_H} {u : am_U} {b : List Jvm.ClassFile.Instr} (eb : am_code j pc = b) (K : am_run j (am_call d) Q (am_Wp (am_call d) j Q) b pc (ls, st, h, u)) : am_Wp (am_call d) j Q pc ls st h u := am_go (by rw [eb]; exact K)
