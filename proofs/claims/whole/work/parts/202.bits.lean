/-! BITS, as whole numbers -/
def b_shl (x n : Int) : Int := (iZ x <<< (iZ n &&& 31)).toInt
def b_shr (x n : Int) : Int := (iZ x >>> (iZ n &&& 31)).toInt
def b_and (x y : Int) : Int := (iZ x &&& iZ y).toInt
def b_or (x y : Int) : Int := (iZ x ||| iZ y).toInt
def w_shr (x n : Int) : Int := ((lZ x).toUInt64 >>> ((iZ n).toInt64.toUInt64 &&& Int64.toUInt64 63)).toInt64.toInt
def w_shl (x n : Int) : Int := (lZ x <<< ((iZ n).toInt64 &&& 63)).toInt
def w_and (x y : Int) : Int := (lZ x &&& lZ y).toInt
def w_or (x y : Int) : Int := (lZ x ||| lZ y).toInt
def w_xor (x y : Int) : Int := (lZ x ^^^ lZ y).toInt
theorem iR_T (x : Int32) : iR x.toInt := ⟨Int32.le_toInt x, Int32.toInt_lt x⟩
theorem lR_T (x : Int64) : lR x.toInt := ⟨Int64.le_toInt x, Int64.toInt_lt x⟩
section AIB
variable {j : Nat} {C : am_C} {Q : Option Value → am_H → Prop} {X : am_X} {r : List Jvm.ClassFile.Instr} {pc : Nat} {ls : am_L} {st : List Value} {h : am_H} {u : am_U}
theorem ai_ishl {x y : Int} (K : am_run j C Q X r (pc + 1) (ls, .int (iZ (b_shl x y)) :: st, h, u)) : am_run j C Q X (.ishl :: r) pc (ls, .int (iZ y) :: .int (iZ x) :: st, h, u) := ap_ishl (by rw [show iZ (b_shl x y) = _ from Int32.ofInt_toInt _] at K; exact K)
theorem ai_ishr {x y : Int} (K : am_run j C Q X r (pc + 1) (ls, .int (iZ (b_shr x y)) :: st, h, u)) : am_run j C Q X (.ishr :: r) pc (ls, .int (iZ y) :: .int (iZ x) :: st, h, u) := ap_ishr (by rw [show iZ (b_shr x y) = _ from Int32.ofInt_toInt _] at K; exact K)
theorem ai_iand {x y : Int} (K : am_run j C Q X r (pc + 1) (ls, .int (iZ (b_and x y)) :: st, h, u)) : am_run j C Q X (.iand :: r) pc (ls, .int (iZ y) :: .int (iZ x) :: st, h, u) := ap_iand (by rw [show iZ (b_and x y) = _ from Int32.ofInt_toInt _] at K; exact K)
theorem ai_ior {x y : Int} (K : am_run j C Q X r (pc + 1) (ls, .int (iZ (b_or x y)) :: st, h, u)) : am_run j C Q X (.ior :: r) pc (ls, .int (iZ y) :: .int (iZ x) :: st, h, u) := ap_ior (by rw [show iZ (b_or x y) = _ from Int32.ofInt_toInt _] at K; exact K)
theorem ai_lushr {x y : Int} (K : am_run j C Q X r (pc + 1) (ls, .long (lZ (w_shr x y)) :: st, h, u)) : am_run j C Q X (.lushr :: r) pc (ls, .int (iZ y) :: .long (lZ x) :: st, h, u) := ap_lushr (by rw [show lZ (w_shr x y) = _ from Int64.ofInt_toInt _] at K; exact K)
theorem ai_lshl {x y : Int} (K : am_run j C Q X r (pc + 1) (ls, .long (lZ (w_shl x y)) :: st, h, u)) : am_run j C Q X (.lshl :: r) pc (ls, .int (iZ y) :: .long (lZ x) :: st, h, u) := ap_lshl (by rw [show lZ (w_shl x y) = _ from Int64.ofInt_toInt _] at K; exact K)
theorem ai_land {x y : Int} (K : am_run j C Q X r (pc + 1) (ls, .long (lZ (w_and x y)) :: st, h, u)) : am_run j C Q X (.land :: r) pc (ls, .long (lZ y) :: .long (lZ x) :: st, h, u) := ap_land (by rw [show lZ (w_and x y) = _ from Int64.ofInt_toInt _] at K; exact K)
theorem ai_lor {x y : Int} (K : am_run j C Q X r (pc + 1) (ls, .long (lZ (w_or x y)) :: st, h, u)) : am_run j C Q X (.lor :: r) pc (ls, .long (lZ y) :: .long (lZ x) :: st, h, u) := ap_lor (by rw [show lZ (w_or x y) = _ from Int64.ofInt_toInt _] at K; exact K)
theorem ai_lxor {x y : Int} (K : am_run j C Q X r (pc + 1) (ls, .long (lZ (w_xor x y)) :: st, h, u)) : am_run j C Q X (.lxor :: r) pc (ls, .long (lZ y) :: .long (lZ x) :: st, h, u) := ap_lxor (by rw [show lZ (w_xor x y) = _ from Int64.ofInt_toInt _] at K; exact K)
/-- a switch of two cases by keys -/
theorem ai_lsw2 {a oa b ob dd x : Int} {ta tb td : Nat} (ea : am_tg pc oa = ta) (eb : am_tg pc ob = tb) (ed : am_tg pc dd = td) (ka : x = a → X ta ls st h u) (kb : x = b → X tb ls st h u) (kd : ¬ x = a → ¬ x = b → X td ls st h u) (er : iR x) : am_run j C Q X (.lookupswitch dd #[(a, oa), (b, ob)] :: r) pc (ls, .int (iZ x) :: st, h, u) := by
  subst ea; subst eb; subst ed
  refine ⟨trivial, ?_⟩
  show X (am_tg pc (Op.lookupswitch.offset [(a, oa), (b, ob)] dd (iZ x).toInt)) ls st h u
  rw [iZ_T er, Op.lookupswitch.offset_cons, Op.lookupswitch.offset_cons, Op.lookupswitch.offset_nil]
  by_cases h1 : a = x
  · rw [if_pos h1]; exact ka h1.symm
  · rw [if_neg h1]
    by_cases h2 : b = x
    · rw [if_pos h2]; exact kb h2.symm
    · rw [if_neg h2]; exact kd (fun q => h1 q.symm) (fun q => h2 q.symm)
/-- a switch of three cases, 0, 1, 2 -/
theorem ai_tsw3 {o0 o1 o2 dd x : Int} {t0 t1 t2 td : Nat} (e0 : am_tg pc o0 = t0) (e1 : am_tg pc o1 = t1) (e2 : am_tg pc o2 = t2) (ed : am_tg pc dd = td) (k0 : x = 0 → X t0 ls st h u) (k1 : x = 1 → X t1 ls st h u) (k2 : x = 2 → X t2 ls st h u) (kd : (x < 0 ∨ 2 < x) → X td ls st h u) (er : iR x) : am_run j C Q X (.tableswitch dd 0 2 #[o0, o1, o2] :: r) pc (ls, .int (iZ x) :: st, h, u) := by
  subst e0; subst e1; subst e2; subst ed
  refine ⟨trivial, ?_⟩
  show X (if (iZ x).toInt < 0 ∨ 2 < (iZ x).toInt then _ else am_tg pc ([o0, o1, o2].getD ((iZ x).toInt - 0).toNat dd)) ls st h u
  rw [iZ_T er]
  by_cases hz : x < 0 ∨ 2 < x
  · rw [if_pos hz]; exact kd hz
  · rw [if_neg hz]
    rcases (show x = 0 ∨ x = 1 ∨ x = 2 by omega) with rfl | rfl | rfl
    · exact k0 rfl
    · exact k1 rfl
    · exact k2 rfl
end AIB
theorem b_and1 (x : Int) : b_and x 1 = 0 ∨ b_and x 1 = 1 := by
  unfold b_and
  generalize iZ x = y
  have h : (y &&& iZ 1).toBitVec = y.toBitVec &&& 1#32 := rfl
  have h2 : (y.toBitVec &&& 1#32).toNat < 2 := by
    rw [BitVec.toNat_and]
    exact Nat.lt_of_le_of_lt Nat.and_le_right (by decide)
  have h3 : (y &&& iZ 1).toInt = ((y.toBitVec &&& 1#32).toNat : Int) := by
    show (y &&& iZ 1).toBitVec.toInt = _
    rw [h, BitVec.toInt_eq_toNat_of_lt (by omega)]
  omega
theorem b_and7 : ∀ a : Nat, a < 8 → ∀ b : Nat, b < 8 → b_and ((a : Int) - b) 7 = ((a : Int) - b) % 8 := by decide +kernel
/-- bit s of a word -/
def w_bit (x : Int) (s : Nat) : Bool := (lZ x).toBitVec.getLsbD s
theorem w_cnt : ∀ k : Nat, k < 64 → ((iZ (k : Int)).toInt64.toUInt64 &&& Int64.toUInt64 63).toNat = k := by decide +kernel
theorem w_sh1 : ∀ k : Nat, k < 64 → (lZ 1 <<< ((iZ (k : Int)).toInt64 &&& 63)).toBitVec = BitVec.twoPow 64 k := by decide +kernel
theorem w_bit_t {x : Int} {s : Nat} (hs : s < 64) : w_and (w_shr x s) 1 = 0 ↔ w_bit x s = false := by
  unfold w_and w_shr w_bit
  rw [show lZ (((lZ x).toUInt64 >>> ((iZ (s : Int)).toInt64.toUInt64 &&& Int64.toUInt64 63)).toInt64.toInt) = _ from Int64.ofInt_toInt _]
  generalize lZ x = w
  have hz := w_cnt s hs
  generalize (iZ (s : Int)).toInt64.toUInt64 &&& Int64.toUInt64 63 = c at hz
  have e : (w.toUInt64 >>> c).toInt64.toBitVec = w.toBitVec >>> s := by
    apply BitVec.eq_of_toNat_eq
    show (w.toUInt64 >>> c).toNat = _
    rw [UInt64.toNat_shiftRight, hz, Nat.mod_eq_of_lt hs, BitVec.toNat_ushiftRight]
    rfl
  have e2 : ((w.toUInt64 >>> c).toInt64 &&& lZ 1).toBitVec = (w.toBitVec >>> s) &&& 1#64 := by
    rw [Int64.toBitVec_and, e]; rfl
  have e3 : ((w.toUInt64 >>> c).toInt64 &&& lZ 1).toInt = 0 ↔ (w.toBitVec >>> s) &&& 1#64 = 0#64 := by
    rw [← e2]
    constructor
    · intro q
      have : (w.toUInt64 >>> c).toInt64 &&& lZ 1 = 0 := Int64.toInt_inj.mp q
      rw [this]; rfl
    · intro q
      have : (w.toUInt64 >>> c).toInt64 &&& lZ 1 = 0 := Int64.toBitVec_inj.mp q
      rw [this]; rfl
  rw [e3]
  constructor
  · intro q
    have t := congrArg (fun z => z.getLsbD 0) q
    simpa using t
  · intro q
    apply BitVec.eq_of_getLsbD_eq
    intro i hi
    by_cases h0 : i = 0
    · subst h0; simpa using q
    · simp [h0]
theorem w_flip {x : Int} {s t : Nat} (hs : s < 64) (ht : t < 64) : w_bit (w_xor x (w_shl 1 s)) t = (if t = s then !(w_bit x t) else w_bit x t) := by
  unfold w_xor w_shl w_bit
  rw [show lZ ((lZ 1 <<< ((iZ (s : Int)).toInt64 &&& 63)).toInt) = _ from Int64.ofInt_toInt _, show lZ ((lZ x ^^^ (lZ 1 <<< ((iZ (s : Int)).toInt64 &&& 63))).toInt) = _ from Int64.ofInt_toInt _, Int64.toBitVec_xor, w_sh1 s hs, BitVec.getLsbD_xor, BitVec.getLsbD_twoPow]
  by_cases h : t = s
  · subst h; simp [ht]
  · have : ¬ s = t := fun q => h q.symm
    simp [h, this]
