/-! THE CONSTRUCTORS -/
def fI (X : Nat → Int) (a j : Nat) : Int := if a = 1000 then X j else 0
def gI (_ _ : Nat) : Int := 0
theorem nw_eq {n c m L : Nat} {f g : Nat → Nat → Int} {rt : Nat → Nat → Nat} (e : sh_lt L n = (c, m)) (hz : ∀ k, f n k = 0 ∧ g n k = 0 ∧ rt n k = 0) : am_nw (n, sh_lt L, iH f, jH g, rt) c m = (n + 1, sh_lt L, iH f, jH g, rt) := by
  unfold am_nw
  dsimp only
  have e1 : (fun k => if k = n then (c, m) else sh_lt L k) = sh_lt L := funext fun k => by
    by_cases z : k = n
    · rw [if_pos z, z, e]
    · rw [if_neg z]
  have e2 : (fun k j => if k = n then 0 else iH f k j) = iH f := funext fun k => funext fun j => by
    by_cases z : k = n
    · rw [if_pos z, z]; show 0 = iZ (f n j); rw [(hz j).1]; rfl
    · rw [if_neg z]
  have e3 : (fun k j => if k = n then 0 else jH g k j) = jH g := funext fun k => funext fun j => by
    by_cases z : k = n
    · rw [if_pos z, z]; show 0 = lZ (g n j); rw [(hz j).2.1]; rfl
    · rw [if_neg z]
  have e4 : (fun k j => if k = n then 0 else rt k j) = rt := funext fun k => funext fun j => by
    by_cases z : k = n
    · rw [if_pos z, z, (hz j).2.2]
    · rw [if_neg z]
  rw [e1, e2, e3, e4]
section AX
variable {j : Nat} {C : am_C} {Q : Option Value → am_H → Prop} {X : am_X} {r : List Jvm.ClassFile.Instr} {pc : Nat} {ls : am_L} {st : List Value} {u : am_U} {f g : Nat → Nat → Int} {rt : Nat → Nat → Nat} {L n : Nat}
theorem ax_new {x c o : Nat} (eo : am_ow j = o) (e1 : am_rn o x = some c) (e2 : sh_lt L n = (c + 3, 0)) (hn : n < 1000) (hz : ∀ k, f n k = 0 ∧ g n k = 0 ∧ rt n k = 0) (e3 : u.1 + 1 ≤ am_mc j) (e4 : u.2 + am_nf c ≤ am_ms j) (K : am_run j C Q X r (pc + 3) (ls, .ref n :: st, (n + 1, sh_lt L, iH f, jH g, rt), (u.1 + 1, u.2 + am_nf c))) : am_run j C Q X (.new x :: r) pc (ls, st, (n, sh_lt L, iH f, jH g, rt), u) := by
  show am_ev _ _ _ _ _ (am_sem _ _ _ _ _ _ _)
  simp only [am_sem, eo, e1]
  refine ⟨⟨hn, e3, e4⟩, ?_⟩
  rw [nw_eq e2 hz]
  exact K
theorem ax_newarray {t : Jvm.ClassFile.ArrayType} {c m : Nat} (e1 : am_atc t = some c) (e2 : sh_lt L n = (c, m)) (hm : m ≤ 60000) (hn : n < 1000) (hz : ∀ k, f n k = 0 ∧ g n k = 0 ∧ rt n k = 0) (e3 : u.1 + 1 ≤ am_mc j) (e4 : u.2 + m ≤ am_ms j) (K : am_run j C Q X r (pc + 2) (ls, .ref n :: st, (n + 1, sh_lt L, iH f, jH g, rt), (u.1 + 1, u.2 + m))) : am_run j C Q X (.newarray t :: r) pc (ls, .int (iZ (m : Int)) :: st, (n, sh_lt L, iH f, jH g, rt), u) := by
  show am_ev _ _ _ _ _ (am_sem _ _ _ _ _ _ _)
  simp only [am_sem, e1]
  have hr : iR (m : Int) := by omega
  have en : (iZ (m : Int)).toNatClampNeg = m := by
    show (iZ (m : Int)).toInt.toNat = m
    rw [iZ_T hr]
    rfl
  have h0 : ¬ iZ (m : Int) < 0 := by
    rw [show (0 : Int32) = iZ 0 from rfl, iZ_lt hr iR_0]
    omega
  refine ⟨⟨h0, by rw [en]; exact hm, hn, e3, by rw [en]; exact e4⟩, ?_⟩
  rw [en, nw_eq e2 hz]
  exact K
theorem ax_putR {x c k a v o : Nat} (eo : am_ow j = o) (e1 : am_rf o x = some (c, k)) (e2 : am_ty (n, sh_lt L, iH f, jH g, rt) a = some (c + 3)) (e3 : am_ft c k = 3) (e4 : (!am_ff c k || (decide (o = c) && am_in j)) = true) (e5 : v < n) (K : am_run j C Q X r (pc + 3) (ls, st, (n, sh_lt L, iH f, jH g, am_up rt a k (v + 1)), u)) : am_run j C Q X (.putfield x :: r) pc (ls, .ref v :: .ref a :: st, (n, sh_lt L, iH f, jH g, rt), u) := ap_putR eo e1 e2 e3 e4 e5 K
end AX
theorem fI_u {X : Nat → Int} {a k : Nat} (h : a ≠ 1000) : am_up (fI X) a k 0 = fI X := by
  have e : fI X a k = 0 := if_neg h
  have := up_id (f := fI X) (a := a) (k := k)
  rw [e] at this
  exact this
theorem gI_u {a k : Nat} : am_up gI a k 0 = gI := up_id (f := gI) (a := a) (k := k)
