/-! THE CLASS'S spreadBackwards() -/
abbrev DXc (f0 g0 : Nat → Nat → Int) (D : Nat → Option Nat) (l : List Nat) (x : Nat) (R : Nat → Nat → Prop) (k : Nat → Int) : Prop := DX (cE f0 g0) (cT f0) (fun v => D (rhoZ f0 v)) (nN f0) l x R k
abbrev DJc (f0 g0 : Nat → Nat → Int) (D : Nat → Option Nat) (l : List Nat) (k : Nat → Int) : Prop := DJ (cE f0 g0) (cT f0) (fun v => D (rhoZ f0 v)) (nN f0) l k
/-- edges by charging, and by driving from the streets below s0 -/
def R1 (f0 g0 : Nat → Nat → Int) (t e v a : Nat) : Prop := 1 ≤ e ∧ v + 1 = t * lvN f0 + e ∧ (a : Int) = uZ f0 g0 (plZ f0 t).toNat
def R2 (f0 g0 : Nat → Nat → Int) (t e s0 v a : Nat) : Prop := R1 f0 g0 t e v a ∨ ∃ s, s < s0 ∧ v = s * lvN f0 + (e + (neZ f0 t).toNat) ∧ (a : Int) = wZ f0 g0 t
section SPB
variable {f0 g0 f g : Nat → Nat → Int} {D : Nat → Option Nat} {l : List Nat} {t e : Nat}
theorem lv_uq {s s' e : Nat} (h : s * lvN f0 + e = s' * lvN f0 + e) : s = s' := by
  rcases lvN_or f0 with ⟨q, -⟩ | ⟨q, -⟩
  · rw [q] at h; omega
  · rw [q] at h; omega
theorem DX_key {x kn : Nat} {R : Nat → Nat → Prop} {k : Nat → Int} (h : DXc f0 g0 D l x R k) (hk : D (rhoZ f0 x) = some kn) : k x = kn := by
  have h3 := h.2.2.1 x List.mem_cons_self
  have h0 := (h.1 x h3.1).1
  have h4 : D (rhoZ f0 x) = some (k x).toNat := h3.2.2
  rw [hk] at h4
  cases h4
  omega
theorem DX_ok {x : Nat} {R : Nat → Nat → Prop} {k : Nat → Int} (h : DXc f0 g0 D l x R k) : KOk (nN f0) k := fun u hu => ⟨(h.1 u hu).1, (h.1 u hu).2.1⟩
theorem R2_no (hM : MOk f0 g0) {s0 : Nat} {k : Nat → Int} (he : e < lvN f0) (hn : ¬ mfZ f0 g0 s0 t) (h : DXc f0 g0 D l (t * lvN f0 + e) (R2 f0 g0 t e s0) k) : DXc f0 g0 D l (t * lvN f0 + e) (R2 f0 g0 t e (s0 + 1)) k := by
  refine dj_skip h (fun v a _ hE hR => ?_)
  rcases hR with hR | ⟨s, h1, h2, h3⟩
  · exact Or.inl hR
  · by_cases z : s = s0
    · subst z
      rcases cE_inv hM he hE with ⟨q1, q2, q3, q4⟩ | ⟨q1, q2, s', q3, q4, q5, q6⟩
      · exact Or.inl ⟨q1, q2, q4⟩
      · have := lv_uq (h2.symm.trans q5)
        subst this
        exact absurd q4 hn
    · exact Or.inr ⟨s, by omega, h2, h3⟩
theorem R2_yes {s0 : Nat} {k : Nat → Int} {kn : Nat} (hM : MOk f0 g0) (hD : mg_D (mE f0 g0) (mT f0) D) (hx : D (rhoZ f0 (t * lvN f0 + e)) = some kn) (hk : kn ≤ 1100000000000000) (hs : (s0 : Int) ≤ f0 31 5) (ht : 1 ≤ t ∧ (t : Int) ≤ f0 31 5) (he : e + (neZ f0 t).toNat < lvN f0) (hm : mfZ f0 g0 s0 t) (h : DXc f0 g0 D l (t * lvN f0 + e) (R2 f0 g0 t e s0) k) : DXc f0 g0 D l (t * lvN f0 + e) (R2 f0 g0 t e (s0 + 1)) (fq_l k (s0 * lvN f0 + (e + (neZ f0 t).toNat)) (kn + wZ f0 g0 t)) := by
  have ek := DX_key h hx
  have hp := hm.2.1
  have hpr := prZ_in hM t
  have ew : wZ f0 g0 t = 4096 * prZ f0 g0 t + 1 := rfl
  have := dj_low (R' := R2 f0 g0 t e (s0 + 1)) (c_BE hM hD) h (v := s0 * lvN f0 + (e + (neZ f0 t).toNat)) (a := (wZ f0 g0 t).toNat) (nN_lt hs he) (cE_dr hM hs ht he hm) (by rw [ek]; omega) (fun v' a' hR => by
    rcases hR with hR | ⟨s, h1, h2, h3⟩
    · exact Or.inl (Or.inl hR)
    · by_cases z : s = s0
      · subst z; exact Or.inr ⟨h2, by omega⟩
      · exact Or.inl (Or.inr ⟨s, by omega, h2, h3⟩))
  rw [ek, show ((wZ f0 g0 t).toNat : Int) = wZ f0 g0 t by omega] at this
  exact this
theorem R1_no (hM : MOk f0 g0) {k : Nat → Int} (hn : e = 0 ∨ uZ f0 g0 (plZ f0 t).toNat = 0) (h : DXc f0 g0 D l (t * lvN f0 + e) (fun _ _ => False) k) : DXc f0 g0 D l (t * lvN f0 + e) (R1 f0 g0 t e) k := by
  refine dj_skip h (fun v a _ hE hR => ?_)
  have := mE_pos hM hE
  obtain ⟨r1, r2, r3⟩ := hR
  rcases hn with z | z
  · omega
  · rw [z] at r3; omega
theorem R1_yes {k : Nat → Int} {kn : Nat} (hM : MOk f0 g0) (hD : mg_D (mE f0 g0) (mT f0) D) (hx : D (rhoZ f0 (t * lvN f0 + (e + 1))) = some kn) (hk : kn ≤ 1100000000000000) (ht : (t : Int) ≤ f0 31 5) (he : e + 1 < lvN f0) (hu : uZ f0 g0 (plZ f0 t).toNat ≠ 0) (h : DXc f0 g0 D l (t * lvN f0 + (e + 1)) (fun _ _ => False) k) : DXc f0 g0 D l (t * lvN f0 + (e + 1)) (R1 f0 g0 t (e + 1)) (fq_l k (t * lvN f0 + e) (kn + uZ f0 g0 (plZ f0 t).toNat)) := by
  have ek := DX_key h hx
  have hu2 := uZ_in hM (plZ f0 t).toNat
  have := dj_low (R' := R1 f0 g0 t (e + 1)) (c_BE hM hD) h (v := t * lvN f0 + e) (a := (uZ f0 g0 (plZ f0 t).toNat).toNat) (nN_lt ht (by omega)) (cE_ch hM ht he hu) (by rw [ek]; omega) (fun v' a' hR => by
    obtain ⟨r1, r2, r3⟩ := hR
    exact Or.inr ⟨by omega, by omega⟩)
  rw [ek, show ((uZ f0 g0 (plZ f0 t).toNat).toNat : Int) = uZ f0 g0 (plZ f0 t).toNat by omega] at this
  exact this
theorem DX_low {x v : Nat} {R : Nat → Nat → Prop} {k : Nat → Int} {kn : Nat} {a : Int} (h : DXc f0 g0 D l x R k) (hk : D (rhoZ f0 x) = some kn) (ha : 0 ≤ a) : (kn + a) < k v → v ∉ x :: l := by
  intro z y
  have ek := DX_key h hk
  have := dj_done (a := a.toNat) h y
  omega
end SPB
theorem CC_lv {f0 g0 f g : Nat → Nat → Int} (hC : CC f0 g0 f g) : (if f 14 10 = 2 then (21 : Int) else 1) = (lvN f0 : Int) := by
  rw [hC.1.1.2.2.2.2.1]
  rcases lvN_or f0 with ⟨q1, q2, q3⟩ | ⟨q1, q2, q3⟩
  · rw [if_pos q3, q1]; rfl
  · rw [if_neg q3, q1]; rfl
theorem lp_127 {d L : Nat} {sw : Bool} {Q : Option Value → am_H → Prop} {f0 g0 fb gb : Nat → Nat → Int} {D : Nat → Option Nat} {l : List Nat} {t e kn : Nat} {key : Int} (hM : MOk f0 g0) (hD : mg_D (mE f0 g0) (mT f0) D) (hC : CC f0 g0 fb gb) (hx : D (rhoZ f0 (t * lvN f0 + e)) = some kn) (hkey : key = kn) (hk : kn ≤ 1100000000000000) (ht : 1 ≤ t ∧ (t : Int) ≤ f0 31 5) (he : e + (neZ f0 t).toNat < lvN f0) (K : ∀ f g, FrF fb f → FrG gb g → HF (nN f0) ((t * lvN f0 + e) :: l) f g → DXc f0 g0 D l (t * lvN f0 + e) (R2 f0 g0 t e ((f0 31 5).toNat + 1)) (g 16) → Q none (53, sh_lt L, iH f, jH g, sh_rt sw)) : ∀ (k v : Nat) (i : Int) (f g : Nat → Nat → Int), i = v → (f0 31 5).toNat + 1 = v + k → FrF fb f → FrG gb g → HF (nN f0) ((t * lvN f0 + e) :: l) f g → DXc f0 g0 D l (t * lvN f0 + e) (R2 f0 g0 t e v) (g 16) → am_Wp (am_call (d + 2)) 127 Q 76 [some (.ref 14), some (.int (iZ (t : Int))), none, some (.long (lZ key)), none, some (.int (iZ (lvN f0 : Int))), none, none, some (.int (iZ ((e + (neZ f0 t).toNat : Nat) : Int))), some (.int (iZ i))] [] (53, sh_lt L, iH f, jH g, sh_rt sw) (0, 0) := by
  intro k
  have m5 := hM.1.2.1
  have hNN := nN_in hM
  induction k with
  | zero =>
    intro v i f g hi hkk hf hg hH hX
    subst hi
    have ec : f 5 8 = f0 31 5 := by rw [hf 5 (by decide) (by decide) (by decide)]; exact hC.1.1.1
    refine ap_go kc_127_76 ?_
    refine ap_iload rfl ?_; refine ap_aload_n rfl ?_; refine ap_getR ow_127 rf_6_52 rfl rfl rfl ?_; refine ap_callv0 ow_127 rm_6_74 na_93 mc_93 ms_93 rfl rfl (Nat.le_of_ble_eq_true rfl) (Nat.le_of_ble_eq_true rfl) (Or.inr rfl) (Nat.zero_le _) (Nat.zero_le _) ?_; refine sp_93 ?_; dsimp only [Option.toList_some, Option.toList_none, List.cons_append, List.nil_append]
    refine ai_icgt rfl rfl (fun hb0 => ?_) (fun hb0 => ?_) ?_
    · refine ap_go kc_127_127 ?_
      refine ap_vret rfl ?_
      exact K f g hf hg hH (by rw [hkk]; exact hX)
    · exfalso; omega
    all_goals (omega)
  | succ k ih =>
    intro v i f g hi hkk hf hg hH hX
    subst hi
    have hC' : CC f0 g0 f g := CC_fr hC (fun a ha => hf a (by omega) (by omega) (by omega)) (fun a ha => hg a (by omega))
    have ec : f 5 8 = f0 31 5 := hC'.1.1.1
    have hw := CC_w hC' ht.1 ht.2
    have e19 : g 19 ((t : Nat) : Int).toNat = g 19 t := rfl
    have hpr := prZ_in hM t
    have ew : wZ f0 g0 t = 4096 * prZ f0 g0 t + 1 := rfl
    have hs : (v : Int) ≤ f0 31 5 := by omega
    have hlt := nN_lt hs he
    by_cases hm : mfZ f0 g0 v t
    · have hp := hm.2.1
      have hY := R2_yes hM hD hx hk hs ht he hm hX
      have ex : key + g 19 ((t : Nat) : Int).toNat = kn + wZ f0 g0 t := by omega
      refine ap_go kc_127_76 ?_
      refine ap_iload rfl ?_; refine ap_aload_n rfl ?_; refine ap_getR ow_127 rf_6_52 rfl rfl rfl ?_; refine ap_callv0 ow_127 rm_6_74 na_93 mc_93 ms_93 rfl rfl (Nat.le_of_ble_eq_true rfl) (Nat.le_of_ble_eq_true rfl) (Or.inr rfl) (Nat.zero_le _) (Nat.zero_le _) ?_; refine sp_93 ?_; dsimp only [Option.toList_some, Option.toList_none, List.cons_append, List.nil_append]
      refine ai_icgt rfl rfl (fun hb0 => ?_) (fun hb0 => ?_) ?_
      · refine ap_go kc_127_127 ?_
        refine ap_vret rfl ?_
        exfalso; omega
      · refine ap_go kc_127_88 ?_
        refine ap_aload_n rfl ?_; refine ap_iload rfl ?_; refine ap_iload_n rfl ?_; refine ap_callv0 ow_127 rm_6_121 na_125 mc_125 ms_125 rfl rfl (Nat.le_of_ble_eq_true rfl) (Nat.le_of_ble_eq_true rfl) (Or.inr rfl) (Nat.zero_le _) (Nat.zero_le _) ?_; refine sp_125t ?_ hm hM hC' rfl rfl hs ht.1 ht.2; dsimp only [Option.toList_some, Option.toList_none, List.cons_append, List.nil_append]
        refine ai_ifeq rfl rfl (fun hb1 => ?_) (fun hb1 => ?_) ?_
        · refine ap_go kc_127_121 ?_
          refine ai_iinc rfl rfl ?_; refine ap_goto rfl ?_
          first | (exfalso; omega) | exact am_weak (by first | exact am_le_0 | (repeat (first | exact am_le_0 | refine am_le_n ?_ | refine am_le_s ?_))) (ih (v + 1) (v + 1) F G rfl (by omega) (fun a a1 a2 a3 => (hF a a1 a2 a3).trans (hf a a1 a2 a3)) (fun a a1 => (hG a a1).trans (hg a a1)) hH2 (by rw [e16, ex]; exact hY))
        · refine ap_go kc_127_98 ?_
          refine ap_aload_n rfl ?_; refine ap_getR ow_127 rf_6_12 rfl rfl rfl ?_; refine ap_iload rfl ?_; refine ap_iload rfl ?_; refine ai_imul ?_; refine ap_iload rfl ?_; refine ai_iadd ?_; refine ap_lload_n rfl ?_; refine ap_aload_n rfl ?_; refine ap_getR ow_127 rf_6_18 rfl rfl rfl ?_; refine ap_iload_n rfl ?_; refine ai_laload (n := 121) rfl rfl (by decide) ?_ ?_; refine ai_ladd ?_; refine ap_callv0 ow_127 rm_6_164 na_63 mc_63 ms_63 rfl rfl (Nat.le_of_ble_eq_true rfl) (Nat.le_of_ble_eq_true rfl) (Or.inr rfl) (Nat.zero_le _) (Nat.zero_le _) ?_; refine sp_63 (v := v * lvN f0 + (e + (neZ f0 t).toNat)) (fun F G hF hG e16 hH2 => ?_) (by simp only [Int.natCast_add, Int.natCast_mul]) hNN.2 (DX_ok hX) hH hlt (by rw [ex]; exact DX_low hX hx (by omega)) (by rw [ex]; omega); dsimp only [Option.toList_some, Option.toList_none, List.cons_append, List.nil_append]; refine ap_nil ?_
          · refine ap_go kc_127_121 ?_
            refine ai_iinc rfl rfl ?_; refine ap_goto rfl ?_
            first | (exfalso; omega) | exact am_weak (by first | exact am_le_0 | (repeat (first | exact am_le_0 | refine am_le_n ?_ | refine am_le_s ?_))) (ih (v + 1) (v + 1) F G rfl (by omega) (fun a a1 a2 a3 => (hF a a1 a2 a3).trans (hf a a1 a2 a3)) (fun a a1 => (hG a a1).trans (hg a a1)) hH2 (by rw [e16, ex]; exact hY))
          all_goals (omega)
        all_goals (omega)
      all_goals (omega)
    ·
      refine ap_go kc_127_76 ?_
      refine ap_iload rfl ?_; refine ap_aload_n rfl ?_; refine ap_getR ow_127 rf_6_52 rfl rfl rfl ?_; refine ap_callv0 ow_127 rm_6_74 na_93 mc_93 ms_93 rfl rfl (Nat.le_of_ble_eq_true rfl) (Nat.le_of_ble_eq_true rfl) (Or.inr rfl) (Nat.zero_le _) (Nat.zero_le _) ?_; refine sp_93 ?_; dsimp only [Option.toList_some, Option.toList_none, List.cons_append, List.nil_append]
      refine ai_icgt rfl rfl (fun hb0 => ?_) (fun hb0 => ?_) ?_
      · refine ap_go kc_127_127 ?_
        refine ap_vret rfl ?_
        exfalso; omega
      · refine ap_go kc_127_88 ?_
        refine ap_aload_n rfl ?_; refine ap_iload rfl ?_; refine ap_iload_n rfl ?_; refine ap_callv0 ow_127 rm_6_121 na_125 mc_125 ms_125 rfl rfl (Nat.le_of_ble_eq_true rfl) (Nat.le_of_ble_eq_true rfl) (Or.inr rfl) (Nat.zero_le _) (Nat.zero_le _) ?_; refine sp_125n ?_ hm hM hC' rfl rfl hs ht.1 ht.2; dsimp only [Option.toList_some, Option.toList_none, List.cons_append, List.nil_append]
        refine ai_ifeq rfl rfl (fun hb1 => ?_) (fun hb1 => ?_) ?_
        · refine ap_go kc_127_121 ?_
          refine ai_iinc rfl rfl ?_; refine ap_goto rfl ?_
          exact am_weak (by first | exact am_le_0 | (repeat (first | exact am_le_0 | refine am_le_n ?_ | refine am_le_s ?_))) (ih (v + 1) (v + 1) f g rfl (by omega) hf hg hH (R2_no hM (by omega) hm hX))
        · exfalso; omega
        all_goals (omega)
      all_goals (omega)
theorem sp_127 {d L : Nat} {sw : Bool} {f g : Nat → Nat → Int} {Q : Option Value → am_H → Prop} {f0 g0 : Nat → Nat → Int} {D : Nat → Option Nat} {l : List Nat} {t e kn : Nat} {y z key : Int} (K : ∀ F G, FrF f F → FrG g G → HF (nN f0) ((t * lvN f0 + e) :: l) F G → DJc f0 g0 D ((t * lvN f0 + e) :: l) (G 16) → Q none (53, sh_lt L, iH F, jH G, sh_rt sw)) (hM : MOk f0 g0) (hD : mg_D (mE f0 g0) (mT f0) D) (hC : CC f0 g0 f g) (hy : y = t) (hz : z = e) (hkey : key = kn) (hx : D (rhoZ f0 (t * lvN f0 + e)) = some kn) (hk : kn ≤ 1100000000000000) (ht : (t : Int) ≤ f0 31 5) (he : e < lvN f0) (hH : HF (nN f0) ((t * lvN f0 + e) :: l) f g) (hX : DXc f0 g0 D l (t * lvN f0 + e) (fun _ _ => False) (g 16)) : am_call (d + 3) 127 [.ref 14, .int (iZ y), .int (iZ z), .long (lZ key)] (53, sh_lt L, iH f, jH g, sh_rt sw) Q := by
  subst hy
  subst hz
  have m5 := hM.1.2.1
  have m7 := hM.1.2.2.2.2.1
  have hNN := nN_in hM
  have h20 := toZ_in f0
  have hlv : 1 ≤ lvN f0 ∧ lvN f0 ≤ 21 := by unfold lvN; omega
  have c123 : ∀ {Q : Option Value → am_H → Prop}, Q (some (.int (iZ (lvN f0 : Int)))) (53, sh_lt L, iH f, jH g, sh_rt sw) → am_call (d + 2) 123 [.ref 14] (53, sh_lt L, iH f, jH g, sh_rt sw) Q := fun K => sp_123 (by rw [CC_lv hC]; exact K) (by rw [hC.1.1.2.2.2.2.1]; omega)
  have e7 : f 7 ((t : Nat) : Int).toNat = plZ f0 t := (hC.1.2.2.1 t ht).1
  have hpl := plZ_in hM t
  have eu : g 21 (f 7 ((t : Nat) : Int).toNat).toNat = uZ f0 g0 (plZ f0 t).toNat := by rw [e7]; exact CC_u hC ht
  have hu := uZ_in hM (plZ f0 t).toNat
  have hn := neZ_in hM t
  refine ap_call (by decide) (Nat.le_of_ble_eq_true rfl) rfl ?_
  have J51 : ∀ f2 g2, FrF f f2 → FrG g g2 → HF (nN f0) ((t * lvN f0 + e) :: l) f2 g2 → DXc f0 g0 D l (t * lvN f0 + e) (R1 f0 g0 t e) (g2 16) → am_Wp (am_call (d + 2)) 127 Q 51 [some (.ref 14), some (.int (iZ (t : Int))), some (.int (iZ (e : Int))), some (.long (lZ key)), none, some (.int (iZ (lvN f0 : Int))), none, none, none, none] [] (53, sh_lt L, iH f2, jH g2, sh_rt sw) (0, 0) := by
    intro f2 g2 hf hg hH hX
    have hC2 : CC f0 g0 f2 g2 := CC_fr hC (fun a ha => hf a (by omega) (by omega) (by omega)) (fun a ha => hg a (by omega))
    by_cases h0 : t = 0
    · subst h0
      have hJ : DJc f0 g0 D ((0 * lvN f0 + e) :: l) (g2 16) := dj_next hX (fun v a _ hE => by
        rcases cE_inv hM he hE with ⟨q1, q2, q3, q4⟩ | ⟨q1, _⟩
        · exact ⟨q1, q2, q4⟩
        · exact absurd q1 (by decide))
      refine ap_go kc_127_51 ?_
      refine ap_iload_n rfl ?_; refine ap_aload_n rfl ?_; refine ap_getR ow_127 rf_6_22 rfl rfl rfl ?_; refine ap_iload_n rfl ?_; refine ai_iaload (n := 121) rfl rfl (by decide) ?_ ?_; refine ai_iadd ?_; refine ap_istore rfl ?_; refine ap_iload_n rfl ?_
      refine ai_ifeq rfl rfl (fun hb0 => ?_) (fun hb0 => ?_) ?_
      · refine ap_go kc_127_72 ?_
        refine ap_vret rfl ?_
        exact K f2 g2 hf hg hH hJ
      · exact absurd rfl hb0
      all_goals (omega)
    · have e20 : f2 20 ((t : Nat) : Int).toNat = neZ f0 t := (hC2.2.1 t (by omega) ht).2
      by_cases hbf : e + (neZ f0 t).toNat < lvN f0
      · have e8 : (e : Int) + f2 20 ((t : Nat) : Int).toNat = ((e + (neZ f0 t).toNat : Nat) : Int) := by omega
        have J76 := lp_127 (sw := sw) (L := L) (d := d) (Q := Q) hM hD hC2 hx hkey hk ⟨by omega, ht⟩ hbf (fun F G q1 q2 q3 q4 => K F G (fun a a1 a2 a3 => (q1 a a1 a2 a3).trans (hf a a1 a2 a3)) (fun a a1 => (q2 a a1).trans (hg a a1)) q3 (dj_next q4 (fun v a _ hE => by
          rcases cE_inv hM he hE with ⟨q1, q2, q3, q4⟩ | ⟨q1, q2, s, q3, q4, q5, q6⟩
          · exact Or.inl ⟨q1, q2, q4⟩
          · exact Or.inr ⟨s, by omega, q5, q6⟩))) ((f0 31 5).toNat + 1) 0 0 f2 g2 rfl (by omega) (fun _ _ _ _ => rfl) (fun _ _ => rfl) hH (dj_skip hX (fun v a _ _ hR => by
            rcases hR with hR | ⟨s, q, _⟩
            · exact hR
            · exact absurd q (Nat.not_lt_zero s)))
        rw [← e8] at J76
        refine ap_go kc_127_51 ?_
        refine ap_iload_n rfl ?_; refine ap_aload_n rfl ?_; refine ap_getR ow_127 rf_6_22 rfl rfl rfl ?_; refine ap_iload_n rfl ?_; refine ai_iaload (n := 121) rfl rfl (by decide) ?_ ?_; refine ai_iadd ?_; refine ap_istore rfl ?_; refine ap_iload_n rfl ?_
        refine ai_ifeq rfl rfl (fun hb0 => ?_) (fun hb0 => ?_) ?_
        · exfalso; omega
        · refine ap_go kc_127_65 ?_
          refine ap_iload rfl ?_; refine ap_iload rfl ?_
          refine ai_iclt rfl rfl (fun hb1 => ?_) (fun hb1 => ?_) ?_
          · refine ap_go kc_127_73 ?_
            refine ai_iconst ?_; refine ap_istore rfl ?_; refine ap_nil ?_
            exact am_weak (by first | exact am_le_0 | (repeat (first | exact am_le_0 | refine am_le_n ?_ | refine am_le_s ?_))) J76
          · exfalso; omega
          all_goals (omega)
        all_goals (omega)
      · have hJ : DJc f0 g0 D ((t * lvN f0 + e) :: l) (g2 16) := dj_next hX (fun v a _ hE => by
          rcases cE_inv hM he hE with ⟨q1, q2, q3, q4⟩ | ⟨q1, q2, _⟩
          · exact ⟨q1, q2, q4⟩
          · exact absurd q2 hbf)
        refine ap_go kc_127_51 ?_
        refine ap_iload_n rfl ?_; refine ap_aload_n rfl ?_; refine ap_getR ow_127 rf_6_22 rfl rfl rfl ?_; refine ap_iload_n rfl ?_; refine ai_iaload (n := 121) rfl rfl (by decide) ?_ ?_; refine ai_iadd ?_; refine ap_istore rfl ?_; refine ap_iload_n rfl ?_
        refine ai_ifeq rfl rfl (fun hb0 => ?_) (fun hb0 => ?_) ?_
        · refine ap_go kc_127_72 ?_
          refine ap_vret rfl ?_
          exact K f2 g2 hf hg hH hJ
        · refine ap_go kc_127_65 ?_
          refine ap_iload rfl ?_; refine ap_iload rfl ?_
          refine ai_iclt rfl rfl (fun hb1 => ?_) (fun hb1 => ?_) ?_
          · exfalso; omega
          · refine ap_go kc_127_72 ?_
            refine ap_vret rfl ?_
            exact K f2 g2 hf hg hH hJ
          all_goals (omega)
        all_goals (omega)
  by_cases hch : e = 0 ∨ uZ f0 g0 (plZ f0 t).toNat = 0
  · have J := J51 f g (fun _ _ _ _ => rfl) (fun _ _ => rfl) hH (R1_no hM hch hX)
    refine ap_go kc_127_0 ?_
    refine ap_aload_n rfl ?_; refine ap_callv0 ow_127 rm_6_158 na_123 mc_123 ms_123 rfl rfl (Nat.le_of_ble_eq_true rfl) (Nat.le_of_ble_eq_true rfl) (Or.inr rfl) (Nat.zero_le _) (Nat.zero_le _) ?_; refine c123 ?_; dsimp only [Option.toList_some, Option.toList_none, List.cons_append, List.nil_append]; refine ap_istore rfl ?_; refine ap_aload_n rfl ?_; refine ap_getR ow_127 rf_6_26 rfl rfl rfl ?_; refine ap_aload_n rfl ?_; refine ap_getR ow_127 rf_6_52 rfl rfl rfl ?_; refine ap_iload_n rfl ?_; refine ap_callv0 ow_127 rm_6_125 na_99 mc_99 ms_99 rfl rfl (Nat.le_of_ble_eq_true rfl) (Nat.le_of_ble_eq_true rfl) (Or.inr rfl) (Nat.zero_le _) (Nat.zero_le _) ?_; refine sp_99 ?_ ?_; dsimp only [Option.toList_some, Option.toList_none, List.cons_append, List.nil_append]; refine ai_laload (n := 61) rfl rfl (by decide) ?_ ?_; refine ap_lstore rfl ?_; refine ap_iload_n rfl ?_
    refine ai_ifle rfl rfl (fun hb0 => ?_) (fun hb0 => ?_) ?_
    · exact am_weak (by first | exact am_le_0 | (repeat (first | exact am_le_0 | refine am_le_n ?_ | refine am_le_s ?_))) J
    · refine ap_go kc_127_25 ?_
      refine ap_lload rfl ?_; refine ai_lconst 0 rfl ?_
      refine ai_lcle rfl rfl (fun hb1 => ?_) (fun hb1 => ?_) ?_
      · exact am_weak (by first | exact am_le_0 | (repeat (first | exact am_le_0 | refine am_le_n ?_ | refine am_le_s ?_))) J
      · exfalso; omega
      all_goals (omega)
    all_goals (omega)
  · obtain ⟨e1, rfl⟩ : ∃ e1, e = e1 + 1 := ⟨e - 1, by omega⟩
    have hY := R1_yes hM hD hx hk ht he (fun q => hch (Or.inr q)) hX
    have ex : key + g 21 (f 7 ((t : Nat) : Int).toNat).toNat = kn + uZ f0 g0 (plZ f0 t).toNat := by omega
    refine ap_go kc_127_0 ?_
    refine ap_aload_n rfl ?_; refine ap_callv0 ow_127 rm_6_158 na_123 mc_123 ms_123 rfl rfl (Nat.le_of_ble_eq_true rfl) (Nat.le_of_ble_eq_true rfl) (Or.inr rfl) (Nat.zero_le _) (Nat.zero_le _) ?_; refine c123 ?_; dsimp only [Option.toList_some, Option.toList_none, List.cons_append, List.nil_append]; refine ap_istore rfl ?_; refine ap_aload_n rfl ?_; refine ap_getR ow_127 rf_6_26 rfl rfl rfl ?_; refine ap_aload_n rfl ?_; refine ap_getR ow_127 rf_6_52 rfl rfl rfl ?_; refine ap_iload_n rfl ?_; refine ap_callv0 ow_127 rm_6_125 na_99 mc_99 ms_99 rfl rfl (Nat.le_of_ble_eq_true rfl) (Nat.le_of_ble_eq_true rfl) (Or.inr rfl) (Nat.zero_le _) (Nat.zero_le _) ?_; refine sp_99 ?_ ?_; dsimp only [Option.toList_some, Option.toList_none, List.cons_append, List.nil_append]; refine ai_laload (n := 61) rfl rfl (by decide) ?_ ?_; refine ap_lstore rfl ?_; refine ap_iload_n rfl ?_
    refine ai_ifle rfl rfl (fun hb0 => ?_) (fun hb0 => ?_) ?_
    · first | (exfalso; omega) | exact am_weak (by first | exact am_le_0 | (repeat (first | exact am_le_0 | refine am_le_n ?_ | refine am_le_s ?_))) (J51 F G hF hG hH2 (by rw [e16, ex]; exact hY))
    · refine ap_go kc_127_25 ?_
      refine ap_lload rfl ?_; refine ai_lconst 0 rfl ?_
      refine ai_lcle rfl rfl (fun hb1 => ?_) (fun hb1 => ?_) ?_
      · first | (exfalso; omega) | exact am_weak (by first | exact am_le_0 | (repeat (first | exact am_le_0 | refine am_le_n ?_ | refine am_le_s ?_))) (J51 F G hF hG hH2 (by rw [e16, ex]; exact hY))
      · refine ap_go kc_127_32 ?_
        refine ap_aload_n rfl ?_; refine ap_getR ow_127 rf_6_12 rfl rfl rfl ?_; refine ap_iload_n rfl ?_; refine ap_iload rfl ?_; refine ai_imul ?_; refine ap_iload_n rfl ?_; refine ai_iadd ?_; refine ai_iconst ?_; refine ai_isub ?_; refine ap_lload_n rfl ?_; refine ap_lload rfl ?_; refine ai_ladd ?_; refine ap_callv0 ow_127 rm_6_164 na_63 mc_63 ms_63 rfl rfl (Nat.le_of_ble_eq_true rfl) (Nat.le_of_ble_eq_true rfl) (Or.inr rfl) (Nat.zero_le _) (Nat.zero_le _) ?_; refine sp_63 (v := t * lvN f0 + e1) (fun F G hF hG e16 hH2 => ?_) (by rw [Int.natCast_add (t * lvN f0) e1, Int.natCast_mul]; omega) hNN.2 (DX_ok hX) hH (nN_lt ht (by omega)) (by rw [ex]; exact DX_low hX hx (by omega)) (by rw [ex]; omega); dsimp only [Option.toList_some, Option.toList_none, List.cons_append, List.nil_append]; refine ap_nil ?_
        first | (exfalso; omega) | exact am_weak (by first | exact am_le_0 | (repeat (first | exact am_le_0 | refine am_le_n ?_ | refine am_le_s ?_))) (J51 F G hF hG hH2 (by rw [e16, ex]; exact hY))
      all_goals (omega)
    all_goals (omega)
