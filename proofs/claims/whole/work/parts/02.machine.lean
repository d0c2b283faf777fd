/-! THE ABSTRACT MACHINE. Its heap: how many cells, their layout (0 int[], 1 boolean[], 2 long[], c + 3 an object of class c; a length), the ints, the longs and the references (0 null, k + 1 the cell k) by cell and place. Its locals: a list. -/
abbrev am_L : Type := List (Option Value)
abbrev am_H : Type := Nat × (Nat → Nat × Nat) × (Nat → Nat → Int32) × (Nat → Nat → Int64) × (Nat → Nat → Nat)
abbrev am_U : Type := Nat × Nat
abbrev am_S : Type := am_L × List Value × am_H × am_U
abbrev am_X : Type := Nat → am_L → List Value → am_H → am_U → Prop
abbrev am_C : Type := Nat → List Value → am_H → (Option Value → am_H → Prop) → Prop
/-- what an instruction does: it goes on, it jumps, it calls (method, arguments, the rest of the stack), it returns -/
abbrev am_O : Type := am_S ⊕ (Nat × am_S) ⊕ (Nat × List Value × am_S) ⊕ (Option Value × am_H)
def am_up {α : Type} (f : Nat → Nat → α) (a j : Nat) (v : α) : Nat → Nat → α := fun b i => if b = a ∧ i = j then v else f b i
def am_ty (h : am_H) (a : Nat) : Option Nat := if a < h.1 then some (h.2.1 a).1 else none
def am_sz (h : am_H) (a : Nat) : Nat := (h.2.1 a).2
def am_pi (h : am_H) (a j : Nat) (v : Int32) : am_H := (h.1, h.2.1, am_up h.2.2.1 a j v, h.2.2.2.1, h.2.2.2.2)
def am_pl (h : am_H) (a j : Nat) (v : Int64) : am_H := (h.1, h.2.1, h.2.2.1, am_up h.2.2.2.1 a j v, h.2.2.2.2)
def am_pr (h : am_H) (a j : Nat) (v : Nat) : am_H := (h.1, h.2.1, h.2.2.1, h.2.2.2.1, am_up h.2.2.2.2 a j v)
def am_nw (h : am_H) (c n : Nat) : am_H := (h.1 + 1, fun k => if k = h.1 then (c, n) else h.2.1 k, fun k j => if k = h.1 then 0 else h.2.2.1 k j, fun k j => if k = h.1 then 0 else h.2.2.2.1 k j, fun k j => if k = h.1 then 0 else h.2.2.2.2 k j)
def am_rv (r : Nat) : Value := match r with
  | 0 => .null
  | k + 1 => .ref k
/-- a field's value -/
def am_fv (h : am_H) (c k a : Nat) : Value := match am_ft c k with
  | 0 => .int (h.2.2.1 a k)
  | 1 => .int (h.2.2.1 a k)
  | 2 => .long (h.2.2.2.1 a k)
  | _ => am_rv (h.2.2.2.2 a k)
/-- a field's new value: what must hold, and the heap then -/
def am_fp (h : am_H) (c k a : Nat) (v : Value) : Option (Prop × am_H) := match am_ft c k, v with
  | 0, .int x => some (True, am_pi h a k x)
  | 1, .int x => some (x = 0 ∨ x = 1, am_pi h a k x)
  | 2, .long x => some (True, am_pl h a k x)
  | 3, .ref r => some (r < h.1, am_pr h a k (r + 1))
  | _, _ => none
-- the locals
def am_lk : am_L → Nat → Option Value
  | [], _ => none
  | x :: _, 0 => x
  | _ :: t, n + 1 => am_lk t n
def am_kl (x : Option Value) : Option Value := match x with
  | some v => if v.category = 2 then none else some v
  | none => none
def am_s1 : am_L → Nat → Value → am_L
  | [], _, _ => []
  | _ :: t, 0, v => some v :: t
  | x :: t, 1, v => am_kl x :: am_s1 t 0 v
  | x :: t, n + 2, v => x :: am_s1 t (n + 1) v
def am_s2 : am_L → Nat → Value → am_L
  | [], _, _ => []
  | [_], 0, v => [some v]
  | _ :: _ :: t, 0, v => some v :: none :: t
  | x :: t, 1, v => am_kl x :: am_s2 t 0 v
  | x :: t, n + 2, v => x :: am_s2 t (n + 1) v
def am_le (l l' : am_L) : Prop := ∀ i v, am_lk l i = some v → am_lk l' i = some v
def am_sp : List Value → am_L
  | [] => []
  | v :: vs => if v.category = 2 then some v :: none :: am_sp vs else some v :: am_sp vs
def am_en (j : Nat) (as : List Value) : am_L := am_sp as ++ List.replicate (am_mL j - (am_sp as).length) none
-- the operands
def am_o1 (st : List Value) (f : Int32 → List Value → Option (Prop × am_O)) : Option (Prop × am_O) := match st with
  | .int x :: r => f x r
  | _ => none
def am_o2 (st : List Value) (f : Int32 → Int32 → List Value → Option (Prop × am_O)) : Option (Prop × am_O) := match st with
  | .int y :: .int x :: r => f x y r
  | _ => none
def am_l1 (st : List Value) (f : Int64 → List Value → Option (Prop × am_O)) : Option (Prop × am_O) := match st with
  | .long x :: r => f x r
  | _ => none
def am_l2 (st : List Value) (f : Int64 → Int64 → List Value → Option (Prop × am_O)) : Option (Prop × am_O) := match st with
  | .long y :: .long x :: r => f x y r
  | _ => none
def am_li (st : List Value) (f : Int64 → Int32 → List Value → Option (Prop × am_O)) : Option (Prop × am_O) := match st with
  | .int y :: .long x :: r => f x y r
  | _ => none
def am_a1 (st : List Value) (f : Nat → List Value → Option (Prop × am_O)) : Option (Prop × am_O) := match st with
  | .ref a :: r => f a r
  | _ => none
def am_ai (st : List Value) (f : Nat → Int32 → List Value → Option (Prop × am_O)) : Option (Prop × am_O) := match st with
  | .int i :: .ref a :: r => f a i r
  | _ => none
def am_aii (st : List Value) (f : Nat → Int32 → Int32 → List Value → Option (Prop × am_O)) : Option (Prop × am_O) := match st with
  | .int x :: .int i :: .ref a :: r => f a i x r
  | _ => none
def am_ail (st : List Value) (f : Nat → Int32 → Int64 → List Value → Option (Prop × am_O)) : Option (Prop × am_O) := match st with
  | .long x :: .int i :: .ref a :: r => f a i x r
  | _ => none
def am_av (st : List Value) (f : Nat → Value → List Value → Option (Prop × am_O)) : Option (Prop × am_O) := match st with
  | v :: .ref a :: r => f a v r
  | _ => none
def am_vi (o : Option Value) (f : Int32 → Option (Prop × am_O)) : Option (Prop × am_O) := match o with
  | some (.int x) => f x
  | _ => none
def am_vl (o : Option Value) (f : Int64 → Option (Prop × am_O)) : Option (Prop × am_O) := match o with
  | some (.long x) => f x
  | _ => none
def am_va (o : Option Value) (f : Nat → Option (Prop × am_O)) : Option (Prop × am_O) := match o with
  | some (.ref x) => f x
  | _ => none
def am_N (ls : am_L) (st : List Value) (h : am_H) (u : am_U) : Option (Prop × am_O) := some (True, .inl (ls, st, h, u))
def am_Nc (c : Prop) (ls : am_L) (st : List Value) (h : am_H) (u : am_U) : Option (Prop × am_O) := some (c, .inl (ls, st, h, u))
def am_J (pc : Nat) (ls : am_L) (st : List Value) (h : am_H) (u : am_U) : Option (Prop × am_O) := some (True, .inr (.inl (pc, ls, st, h, u)))
def am_tg (pc : Nat) (off : Int) : Nat := ((pc : Int) + off).toNat
def am_c1 (c : Jvm.ClassFile.Cond) (x : Int32) : Bool := match c with
  | .eq => decide (x = 0)
  | .ne => decide (¬ x = 0)
  | .lt => decide (x < 0)
  | .ge => decide (0 ≤ x)
  | .gt => decide (0 < x)
  | .le => decide (x ≤ 0)
def am_c2 (c : Jvm.ClassFile.Cond) (x y : Int32) : Bool := match c with
  | .eq => decide (x = y)
  | .ne => decide (¬ x = y)
  | .lt => decide (x < y)
  | .ge => decide (y ≤ x)
  | .gt => decide (y < x)
  | .le => decide (x ≤ y)
/-- a call's receiver -/
def am_rc (h : am_H) (k : Nat) (as : List Value) : Prop := match as with
  | .ref a :: _ => am_st k = true ∨ am_ty h a = some (am_ow k + 3)
  | _ => am_st k = true
def am_cal (j k : Nat) (ls : am_L) (st : List Value) (h : am_H) (u : am_U) : Option (Prop × am_O) :=
  some (am_na k ≤ st.length ∧ ((st.drop (am_na k)).map fun v => v.category).sum ≤ 8 ∧ am_rc h k (st.take (am_na k)).reverse ∧ u.1 + am_mc k ≤ am_mc j ∧ u.2 + am_ms k ≤ am_ms j,
    .inr (.inr (.inl (k, (st.take (am_na k)).reverse, ls, st.drop (am_na k), h, u.1 + am_mc k, u.2 + am_ms k))))
/-- the own methods and the library's: 0 static, 6 virtual, 7 a constructor; 1 Object's constructor, 2 to 5 Math -/
def am_ivs (j : Nat) (r : Nat × Nat) (ls : am_L) (st : List Value) (h : am_H) (u : am_U) : Option (Prop × am_O) := match r.1 with
  | 0 => am_cal j r.2 ls st h u
  | 2 => am_o1 st fun x r => am_Nc ((r.map fun v => v.category).sum ≤ 8) ls (.int (if 0 ≤ x then x else 0 - x) :: r) h u
  | 3 => am_l1 st fun x r => am_Nc ((r.map fun v => v.category).sum ≤ 8) ls (.long (if 0 < x then x else -x) :: r) h u
  | 4 => am_l2 st fun x y r => am_Nc ((r.map fun v => v.category).sum ≤ 8) ls (.long (if y < x then x else y) :: r) h u
  | 5 => am_l2 st fun x y r => am_Nc ((r.map fun v => v.category).sum ≤ 8) ls (.long (if y < x then y else x) :: r) h u
  | _ => none
def am_ivv (j : Nat) (r : Nat × Nat) (ls : am_L) (st : List Value) (h : am_H) (u : am_U) : Option (Prop × am_O) := match r.1 with
  | 6 => am_cal j r.2 ls st h u
  | _ => none
def am_ivi (j : Nat) (r : Nat × Nat) (ls : am_L) (st : List Value) (h : am_H) (u : am_U) : Option (Prop × am_O) := match r.1 with
  | 7 => am_cal j r.2 ls st h u
  | 1 => am_a1 st fun _ r => am_Nc ((r.map fun v => v.category).sum ≤ 8) ls r h u
  | _ => none
def am_atc (t : Jvm.ClassFile.ArrayType) : Option Nat := match t with
  | .int => some 0
  | .boolean => some 1
  | .long => some 2
  | _ => none
/-- what an instruction of method j does: what must hold, and what comes then -/
def am_sem (j : Nat) (i : Jvm.ClassFile.Instr) (pc : Nat) (ls : am_L) (st : List Value) (h : am_H) (u : am_U) : Option (Prop × am_O) := match i with
  | .iconst n => am_N ls (.int (Int32.ofInt n) :: st) h u
  | .bipush n => am_N ls (.int (Int8.ofInt n).toInt32 :: st) h u
  | .sipush n => am_N ls (.int (Int16.ofInt n).toInt32 :: st) h u
  | .lconst n => am_N ls (.long (Int64.ofNat (n : Nat)) :: st) h u
  | .ldc2_w x => match am_kL (am_ow j) x with
    | some v => am_N ls (.long v :: st) h u
    | none => none
  | .iload k => am_vi (am_lk ls k) fun x => am_N ls (.int x :: st) h u
  | .iload_n k => am_vi (am_lk ls k) fun x => am_N ls (.int x :: st) h u
  | .lload k => am_vl (am_lk ls k) fun x => am_N ls (.long x :: st) h u
  | .lload_n k => am_vl (am_lk ls k) fun x => am_N ls (.long x :: st) h u
  | .aload k => am_va (am_lk ls k) fun x => am_N ls (.ref x :: st) h u
  | .aload_n k => am_va (am_lk ls k) fun x => am_N ls (.ref x :: st) h u
  | .istore k => am_o1 st fun x r => am_N (am_s1 ls k (.int x)) r h u
  | .istore_n k => am_o1 st fun x r => am_N (am_s1 ls k (.int x)) r h u
  | .lstore k => am_l1 st fun x r => am_N (am_s2 ls k (.long x)) r h u
  | .lstore_n k => am_l1 st fun x r => am_N (am_s2 ls k (.long x)) r h u
  | .astore k => am_a1 st fun x r => am_N (am_s1 ls k (.ref x)) r h u
  | .astore_n k => am_a1 st fun x r => am_N (am_s1 ls k (.ref x)) r h u
  | .iinc k n => am_vi (am_lk ls k) fun x => am_N (am_s1 ls k (.int (x + Int32.ofInt n))) st h u
  | .iadd => am_o2 st fun x y r => am_N ls (.int (x + y) :: r) h u
  | .isub => am_o2 st fun x y r => am_N ls (.int (x - y) :: r) h u
  | .imul => am_o2 st fun x y r => am_N ls (.int (x * y) :: r) h u
  | .iand => am_o2 st fun x y r => am_N ls (.int (x &&& y) :: r) h u
  | .ior => am_o2 st fun x y r => am_N ls (.int (x ||| y) :: r) h u
  | .ishl => am_o2 st fun x y r => am_N ls (.int (x <<< (y &&& 31)) :: r) h u
  | .ishr => am_o2 st fun x y r => am_N ls (.int (x >>> (y &&& 31)) :: r) h u
  | .idiv => am_o2 st fun x y r => am_Nc (¬ y = 0) ls (.int (x / y) :: r) h u
  | .irem => am_o2 st fun x y r => am_Nc (¬ y = 0) ls (.int (x - x / y * y) :: r) h u
  | .ineg => am_o1 st fun x r => am_N ls (.int (-x) :: r) h u
  | .ladd => am_l2 st fun x y r => am_N ls (.long (x + y) :: r) h u
  | .lsub => am_l2 st fun x y r => am_N ls (.long (x - y) :: r) h u
  | .lmul => am_l2 st fun x y r => am_N ls (.long (x * y) :: r) h u
  | .land => am_l2 st fun x y r => am_N ls (.long (x &&& y) :: r) h u
  | .lor => am_l2 st fun x y r => am_N ls (.long (x ||| y) :: r) h u
  | .lxor => am_l2 st fun x y r => am_N ls (.long (x ^^^ y) :: r) h u
  | .ldiv => am_l2 st fun x y r => am_Nc (¬ y = 0) ls (.long (x / y) :: r) h u
  | .lneg => am_l1 st fun x r => am_N ls (.long (-x) :: r) h u
  | .lushr => am_li st fun x y r => am_N ls (.long (x.toUInt64 >>> (y.toInt64.toUInt64 &&& Int64.toUInt64 63)).toInt64 :: r) h u
  | .lshl => am_li st fun x y r => am_N ls (.long (x <<< (y.toInt64 &&& 63)) :: r) h u
  | .i2l => am_o1 st fun x r => am_N ls (.long x.toInt64 :: r) h u
  | .l2i => am_l1 st fun x r => am_N ls (.int x.toInt32 :: r) h u
  | .lcmp => am_l2 st fun x y r => am_N ls (.int (lg_cmp x y) :: r) h u
  | .dup => match st with
    | v :: r => am_Nc (v.category = 1) ls (v :: v :: r) h u
    | _ => none
  | .dup2 => match st with
    | v :: w :: r => am_Nc (v.category = 1 ∧ w.category = 1) ls (v :: w :: v :: w :: r) h u
    | _ => none
  | .ifCond c off => am_o1 st fun x r => am_J (if am_c1 c x = true then am_tg pc off else pc + 3) ls r h u
  | .if_icmp c off => am_o2 st fun x y r => am_J (if am_c2 c x y = true then am_tg pc off else pc + 3) ls r h u
  | .goto off => am_J (am_tg pc off) ls st h u
  | .tableswitch d lo hi offs => am_o1 st fun x r => am_J (if x.toInt < lo ∨ hi < x.toInt then am_tg pc d else am_tg pc (offs.toList.getD (x.toInt - lo).toNat d)) ls r h u
  | .lookupswitch d ps => am_o1 st fun x r => am_J (am_tg pc (Op.lookupswitch.offset ps.toList d x.toInt)) ls r h u
  | .getfield x => match am_rf (am_ow j) x with
    | some (c, k) => am_a1 st fun a r => am_Nc (am_ty h a = some (c + 3)) ls (am_fv h c k a :: r) h u
    | none => none
  | .putfield x => match am_rf (am_ow j) x with
    | some (c, k) => am_av st fun a v r => (match am_fp h c k a v with
      | some (q, h') => am_Nc (am_ty h a = some (c + 3) ∧ (am_ff c k = true → am_ow j = c ∧ am_in j = true) ∧ q) ls r h' u
      | none => none)
    | none => none
  | .iaload => am_ai st fun a i r => am_Nc ((am_ty h a = some 0 ∨ a = 1000 ∧ j = am_law) ∧ vp_in i (am_sz h a)) ls (.int (h.2.2.1 a i.toNatClampNeg) :: r) h u
  | .baload => am_ai st fun a i r => am_Nc (am_ty h a = some 1 ∧ vp_in i (am_sz h a)) ls (.int (h.2.2.1 a i.toNatClampNeg) :: r) h u
  | .laload => am_ai st fun a i r => am_Nc (am_ty h a = some 2 ∧ vp_in i (am_sz h a)) ls (.long (h.2.2.2.1 a i.toNatClampNeg) :: r) h u
  | .iastore => am_aii st fun a i x r => am_Nc (am_ty h a = some 0 ∧ vp_in i (am_sz h a)) ls r (am_pi h a i.toNatClampNeg x) u
  | .bastore => am_aii st fun a i x r => am_Nc (am_ty h a = some 1 ∧ vp_in i (am_sz h a) ∧ (x = 0 ∨ x = 1)) ls r (am_pi h a i.toNatClampNeg x) u
  | .lastore => am_ail st fun a i x r => am_Nc (am_ty h a = some 2 ∧ vp_in i (am_sz h a)) ls r (am_pl h a i.toNatClampNeg x) u
  | .arraylength => am_a1 st fun a r => am_Nc (a = 1000 ∧ j = am_law) ls (.int (Int32.ofNat (am_sz h a)) :: r) h u
  | .new x => match am_rn (am_ow j) x with
    | some c => am_Nc (h.1 < 1000 ∧ u.1 + 1 ≤ am_mc j ∧ u.2 + am_nf c ≤ am_ms j) ls (.ref h.1 :: st) (am_nw h (c + 3) 0) (u.1 + 1, u.2 + am_nf c)
    | none => none
  | .newarray t => match am_atc t with
    | some c => am_o1 st fun x r => am_Nc (¬ x < 0 ∧ x.toNatClampNeg ≤ 60000 ∧ h.1 < 1000 ∧ u.1 + 1 ≤ am_mc j ∧ u.2 + x.toNatClampNeg ≤ am_ms j) ls (.ref h.1 :: r) (am_nw h c x.toNatClampNeg) (u.1 + 1, u.2 + x.toNatClampNeg)
    | none => none
  | .invokespecial x => am_ivi j (am_rm (am_ow j) x) ls st h u
  | .invokevirtual x => am_ivv j (am_rm (am_ow j) x) ls st h u
  | .invokestatic x => am_ivs j (am_rm (am_ow j) x) ls st h u
  | .ireturn => match st with
    | [.int v] => some ((am_rt j = 0 ∨ am_rt j = 1 ∧ (v = 0 ∨ v = 1)), .inr (.inr (.inr (some (.int v), h))))
    | _ => none
  | .lreturn => match st with
    | [.long v] => some (am_rt j = 2, .inr (.inr (.inr (some (.long v), h))))
    | _ => none
  | .return_ => match st with
    | [] => some (am_rt j = 3, .inr (.inr (.inr (none, h))))
    | _ => none
  | _ => none
def am_len (i : Jvm.ClassFile.Instr) : Nat := match i with
  | .bipush _ | .ldc _ | .iload _ | .lload _ | .aload _ | .istore _ | .lstore _ | .astore _ | .newarray _ => 2
  | .sipush _ | .ldc2_w _ | .iinc _ _ | .ifCond _ _ | .if_icmp _ _ | .goto _ | .getfield _ | .putfield _ | .new _ | .invokespecial _ | .invokevirtual _ | .invokestatic _ => 3
  | _ => 1
def am_lp (i : Jvm.ClassFile.Instr) (pc : Nat) : Nat := match i with
  | .tableswitch _ _ _ offs => 1 + (3 - pc % 4) + 12 + 4 * offs.size
  | .lookupswitch _ ps => 1 + (3 - pc % 4) + 8 + 8 * ps.size
  | i => am_len i
/-- numbers, locals, the stack: what a program decides of them -/
def am_okA (j : Nat) (i : Jvm.ClassFile.Instr) : Bool := match i with
  | .istore k | .astore k | .iinc k _ => decide (k < am_mL j)
  | .istore_n k | .astore_n k => decide ((k : Nat) < am_mL j)
  | .lstore k => decide (k + 1 < am_mL j)
  | .lstore_n k => decide ((k : Nat) + 1 < am_mL j)
  | .iconst _ | .bipush _ | .sipush _ | .lconst _ | .iload _ | .iload_n _ | .lload _ | .lload_n _ | .aload _ | .aload_n _ | .iadd | .isub | .imul | .iand | .ior | .ishl | .ishr | .idiv | .irem | .ineg | .ladd | .lsub | .lmul | .land | .lor | .lxor | .ldiv | .lneg | .lushr | .lshl | .i2l | .l2i | .lcmp | .dup | .dup2 => true
  | _ => false
def am_okJ (pc : Nat) (i : Jvm.ClassFile.Instr) : Bool := match i with
  | .goto off | .ifCond _ off | .if_icmp _ off => decide (0 ≤ (pc : Int) + off)
  | .tableswitch dd lo hi offs => decide (0 ≤ (pc : Int) + dd) && offs.toList.all (fun z => decide (0 ≤ (pc : Int) + z)) && decide ((offs.size : Int) = hi - lo + 1)
  | .lookupswitch dd ps => decide (0 ≤ (pc : Int) + dd) && ps.toList.all (fun z => decide (0 ≤ (pc : Int) + z.2)) && (ps.toList.zip (ps.toList.drop 1)).all (fun (a, next) => a.1 < next.1)
  | _ => false
def am_okF (i : Jvm.ClassFile.Instr) : Bool := match i with
  | .getfield _ | .putfield _ | .iaload | .baload | .laload | .iastore | .bastore | .lastore | .arraylength => true
  | _ => false
def am_okN (i : Jvm.ClassFile.Instr) : Bool := match i with
  | .new _ | .newarray _ => true
  | _ => false
def am_okC (i : Jvm.ClassFile.Instr) : Bool := match i with
  | .invokespecial _ | .invokevirtual _ | .invokestatic _ => true
  | _ => false
def am_okR (i : Jvm.ClassFile.Instr) : Bool := match i with
  | .ireturn | .lreturn | .return_ => true
  | _ => false
/-- the rooms of a call -/
def am_okr (j x : Nat) : Bool := match am_rm (am_ow j) x with
  | (0, k) | (6, k) | (7, k) => decide (am_fr k + 1 ≤ am_fr j) && decide (8 + (am_mL k + 11) + am_lr k ≤ am_lr j)
  | (9, _) => true
  | _ => decide (1 ≤ am_fr j) && decide (23 ≤ am_lr j)
def am_okM (j : Nat) (i : Jvm.ClassFile.Instr) : Bool := match i with
  | .invokespecial x | .invokevirtual x | .invokestatic x => am_okr j x
  | .ldc2_w _ | .ldc _ | .athrow => true
  | _ => false
def am_chkI (j pc : Nat) (i : Jvm.ClassFile.Instr) : Bool := am_okA j i || am_okJ pc i || am_okF i || am_okN i || am_okR i || am_okM j i
def am_chkB (j : Nat) : Nat → List Jvm.ClassFile.Instr → Bool
  | _, [] => true
  | pc, i :: r => decide (decode (am_by j) pc = .ok (i, am_lp i pc)) && am_chkI j pc i && am_chkB j (pc + am_len i) r
def am_chk (j : Nat) : Bool := (am_kd j).all fun q => am_chkB j q.1 q.2
/-- an instruction, with what comes behind it (K), where it jumps (X), what is called (C), what returns (Q) -/
def am_ev (j : Nat) (C : am_C) (Q : Option Value → am_H → Prop) (X : am_X) (K : am_S → Prop) (o : Option (Prop × am_O)) : Prop := match o with
  | some (c, .inl s) => c ∧ K s
  | some (c, .inr (.inl (pc, s))) => c ∧ X pc s.1 s.2.1 s.2.2.1 s.2.2.2
  | some (c, .inr (.inr (.inl (k, as, s)))) => c ∧ C k as s.2.2.1 (fun v h => K (s.1, v.toList ++ s.2.1, h, s.2.2.2))
  | some (c, .inr (.inr (.inr (v, h)))) => c ∧ Q v h
  | none => False
def am_run (j : Nat) (C : am_C) (Q : Option Value → am_H → Prop) (X : am_X) : List Jvm.ClassFile.Instr → Nat → am_S → Prop
  | [], pc, s => X pc s.1 s.2.1 s.2.2.1 s.2.2.2
  | i :: r, pc, s => am_ev j C Q X (am_run j C Q X r (pc + am_len i)) (am_sem j i pc s.1 s.2.1 s.2.2.1 s.2.2.2)
def am_code (j pc : Nat) : List Jvm.ClassFile.Instr := ((am_kd j).lookup pc).getD []
def am_Wp (C : am_C) (j : Nat) (Q : Option Value → am_H → Prop) (pc : Nat) (ls : am_L) (st : List Value) (h : am_H) (u : am_U) : Prop :=
  ∀ X : am_X, (∀ pc ls st h u, am_run j C Q X (am_code j pc) pc (ls, st, h, u) → X pc ls st h u) → (∀ pc ls ls' st h u, am_le ls ls' → X pc ls st h u → X pc ls' st h u) → X pc ls st h u
def am_call : Nat → am_C
  | 0 => fun _ _ _ _ => False
  | d + 1 => fun j as h Q => (j < am_lst ∧ (am_sp as).length ≤ am_mL j) ∧ am_Wp (am_call d) j Q 0 (am_en j as) [] h (0, 0)
-- it is monotone
theorem am_ev_mono {j : Nat} {C : am_C} {Q Q' : Option Value → am_H → Prop} {X X' : am_X} {K K' : am_S → Prop} (hC : ∀ k as h (Z Z' : Option Value → am_H → Prop), (∀ v h, Z v h → Z' v h) → C k as h Z → C k as h Z') (hQ : ∀ v h, Q v h → Q' v h) (hX : ∀ pc ls st h u, X pc ls st h u → X' pc ls st h u) (hK : ∀ s, K s → K' s) :
    ∀ {o : Option (Prop × am_O)}, am_ev j C Q X K o → am_ev j C Q' X' K' o
  | some (_, .inl _), e => ⟨e.1, hK _ e.2⟩
  | some (_, .inr (.inl _)), e => ⟨e.1, hX _ _ _ _ _ e.2⟩
  | some (_, .inr (.inr (.inl _))), e => ⟨e.1, hC _ _ _ _ _ (fun _ _ z => hK _ z) e.2⟩
  | some (_, .inr (.inr (.inr _))), e => ⟨e.1, hQ _ _ e.2⟩
  | none, e => e
theorem am_run_mono {j : Nat} {C : am_C} {Q Q' : Option Value → am_H → Prop} {X X' : am_X} (hC : ∀ k as h (Z Z' : Option Value → am_H → Prop), (∀ v h, Z v h → Z' v h) → C k as h Z → C k as h Z') (hQ : ∀ v h, Q v h → Q' v h) (hX : ∀ pc ls st h u, X pc ls st h u → X' pc ls st h u) :
    ∀ (r : List Jvm.ClassFile.Instr) (pc : Nat) (s : am_S), am_run j C Q X r pc s → am_run j C Q' X' r pc s
  | [], _, _, e => hX _ _ _ _ _ e
  | _ :: r, pc, _, e => am_ev_mono hC hQ hX (fun s z => am_run_mono hC hQ hX r _ s z) e
theorem am_Wp_mono {C : am_C} {j : Nat} {Q Q' : Option Value → am_H → Prop} (hC : ∀ k as h (Z Z' : Option Value → am_H → Prop), (∀ v h, Z v h → Z' v h) → C k as h Z → C k as h Z') (hQ : ∀ v h, Q v h → Q' v h) {pc : Nat} {ls : am_L} {st : List Value} {h : am_H} {u : am_U} (e : am_Wp C j Q pc ls st h u) : am_Wp C j Q' pc ls st h u :=
  fun X h1 h2 => e X (fun pc ls st h u z => h1 pc ls st h u (am_run_mono hC hQ (fun _ _ _ _ _ z => z) _ _ _ z)) h2
theorem am_call_mono : ∀ (d k : Nat) (as : List Value) (h : am_H) (Z Z' : Option Value → am_H → Prop), (∀ v h, Z v h → Z' v h) → am_call d k as h Z → am_call d k as h Z'
  | 0, _, _, _, _, _, _, e => e
  | d + 1, _, _, _, _, _, hZ, e => ⟨e.1, am_Wp_mono (am_call_mono d) hZ e.2⟩
/-- a step: a block -/
theorem am_go {d j : Nat} {Q : Option Value → am_H → Prop} {pc : Nat} {ls : am_L} {st : List Value} {h : am_H} {u : am_U} (e : am_run j (am_call d) Q (am_Wp (am_call d) j Q) (am_code j pc) pc (ls, st, h, u)) : am_Wp (am_call d) j Q pc ls st h u :=
  fun X h1 h2 => h1 pc ls st h u (am_run_mono (am_call_mono d) (fun _ _ z => z) (fun _ _ _ _ _ z => z X h1 h2) _ _ _ e)
/-- fewer locals -/
theorem am_weak {d j : Nat} {Q : Option Value → am_H → Prop} {pc : Nat} {ls ls' : am_L} {st : List Value} {h : am_H} {u : am_U} (hl : am_le ls ls') (e : am_Wp (am_call d) j Q pc ls st h u) : am_Wp (am_call d) j Q pc ls' st h u :=
  fun X h1 h2 => h2 pc ls ls' st h u hl (e X h1 h2)
theorem am_up1 : ∀ (d k : Nat) (as : List Value) (h : am_H) (Z : Option Value → am_H → Prop), am_call d k as h Z → am_call (d + 1) k as h Z
  | 0, _, _, _, _, e => e.elim
  | d + 1, k, as, h, Z, e => ⟨e.1, fun X h1 h2 => by
    refine e.2 X (fun pc ls st h u z => h1 pc ls st h u ?_) h2
    have key : ∀ (r : List Jvm.ClassFile.Instr) (pc : Nat) (s : am_S), am_run k (am_call d) Z X r pc s → am_run k (am_call (d + 1)) Z X r pc s := by
      intro r
      induction r with
      | nil => exact fun _ _ z => z
      | cons i r ih =>
        intro pc s z
        show am_ev _ _ _ _ _ _
        have z : am_ev _ _ _ _ _ _ := z
        match hs : am_sem k i pc s.1 s.2.1 s.2.2.1 s.2.2.2 with
        | some (_, .inl _) => rw [hs] at z; exact ⟨z.1, ih _ _ z.2⟩
        | some (_, .inr (.inl _)) => rw [hs] at z; exact ⟨z.1, z.2⟩
        | some (_, .inr (.inr (.inl _))) => rw [hs] at z; exact ⟨z.1, am_up1 d _ _ _ _ (am_call_mono d _ _ _ _ _ (fun _ _ y => ih _ _ y) z.2)⟩
        | some (_, .inr (.inr (.inr _))) => rw [hs] at z; exact ⟨z.1, z.2⟩
        | none => rw [hs] at z; exact z.elim
    exact key _ _ _ z⟩
