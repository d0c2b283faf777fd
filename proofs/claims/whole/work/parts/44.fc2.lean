/-! THE REFERENCE: findCosts, outer loops -/
section FCO
variable {f0 g0 f g : Nat → Nat → Int} {cs ns c n : Nat → Int} {s e : Nat} {more : Int}
theorem PI_e (hM : MOk f0 g0) (h : PI f0 g0 cs ns (Dt s e ((f0 31 5).toNat + 1)) more c n) : PI f0 g0 cs ns (Dt s (e + 1) 0) more c n := by
  refine PI_skip h (fun q v u w k h1 h2 h3 => Or.inl ?_)
  obtain ⟨s', e', -, hs', -, h4⟩ := h1
  have hq : (q : Int) ≤ f0 31 5 ∨ q = 0 := h4.elim (fun z => Or.inr z.1) (fun z => Or.inl z.2.1)
  unfold Dt at h2 ⊢
  omega
def DS (i : Int) (_q v : Nat) : Prop := i < (v / 21 : Nat)
theorem PI_s0 (h : PI f0 g0 cs ns (DS s) more c n) : PI f0 g0 cs ns (Dt s 0 0) more c n :=
  PI_skip h (fun q v u w k h1 h2 h3 => Or.inl (by unfold Dt at h2; unfold DS; omega))
theorem PI_s (h : PI f0 g0 cs ns (Dt s e 0) more c n) (he : toZ f0 < e) : PI f0 g0 cs ns (DS (s - 1)) more c n := by
  refine PI_skip h (fun q v u w k h1 h2 h3 => Or.inl ?_)
  obtain ⟨s', e', q1, -, q2, -⟩ := h1
  have := toZ_in f0
  unfold DS at h2
  unfold Dt
  omega
theorem PI_st (h : LI f0 g0 c n) (hM : MOk f0 g0) : PI f0 g0 c n (DS (f0 31 5)) 0 c n := by
  refine ⟨h, Or.inl ⟨rfl, rfl, rfl, fun q v u w k h1 h2 h3 => ?_⟩⟩
  obtain ⟨s', e', q1, q3, q2, -⟩ := h1
  have := toZ_in f0
  unfold DS at h2
  omega
theorem PI_fin (h : PI f0 g0 cs ns (DS (-1)) 0 c n) : mg_D (mE f0 g0) (mT f0) (labZ c n) := by
  rcases h.2 with ⟨-, -, -, h2⟩ | ⟨z, -⟩
  · exact mg_done h.1.2 (fun v u a k ⟨q, hq⟩ hk => h2 q v u a k hq (by unfold DS; omega) hk)
  · exact absurd z (by decide)
end FCO
theorem lp_40e {d L : Nat} {sw : Bool} {Q : Option Value → am_H → Prop} {f0 g0 : Nat → Nat → Int} {cs ns : Nat → Int} (hM : MOk f0 g0) {s : Nat} (hs : (s : Int) ≤ f0 31 5) (K : ∀ more f g, Fr f0 g0 f g → PI f0 g0 cs ns (DS (s - 1)) more (g 43) (f 44) → am_Wp (am_call (d + 2)) 40 Q 315 [some (.ref 31), some (.int (iZ more)), some (.int (iZ s)), none, none, none, none, none, none] [] (53, sh_lt L, iH f, jH g, sh_rt sw) (0, 0)) : ∀ (k e : Nat) (i more : Int) (f g : Nat → Nat → Int), i = e → toZ f0 + 1 = e + k → Fr f0 g0 f g → PI f0 g0 cs ns (Dt s e 0) more (g 43) (f 44) → am_Wp (am_call (d + 2)) 40 Q 101 [some (.ref 31), some (.int (iZ more)), some (.int (iZ s)), some (.int (iZ i)), none, none, none, none, none] [] (53, sh_lt L, iH f, jH g, sh_rt sw) (0, 0) := by
  intro k
  have m5 := hM.1.2.1
  have h20 := toZ_in f0
  induction k with
  | zero =>
    intro e i more f g hi hk hF hP
    subst hi
    have e5 := Fr_to hF
    have hm := PI_more hP
    refine ap_go kc_40_101 ?_
    refine ap_iload_n rfl ?_; refine ap_aload_n rfl ?_; refine ap_callv0 ow_40 rm_8_127 na_35 mc_35 ms_35 rfl rfl (Nat.le_of_ble_eq_true rfl) (Nat.le_of_ble_eq_true rfl) (Or.inr rfl) (Nat.zero_le _) (Nat.zero_le _) ?_; refine sp_35 ?_ (Fr_MOk hF hM); dsimp only [Option.toList_some, Option.toList_none, List.cons_append, List.nil_append]
    refine ai_icgt rfl rfl (fun hb0 => ?_) (fun hb0 => ?_) ?_
    · exact am_weak (by first | exact am_le_0 | (repeat (first | exact am_le_0 | refine am_le_n ?_ | refine am_le_s ?_))) (K more f g hF (PI_s hP (by omega)))
    · exfalso; omega
    all_goals (omega)
  | succ k ih =>
    intro e i more f g hi hk hF hP
    subst hi
    have e5 : f 31 5 = f0 31 5 := by rw [hF.1 31 (by decide)]
    have e6 := Fr_to hF
    have hM' := Fr_MOk hF hM
    have hm := PI_more hP
    have hpl := plZ_in hM' s
    have hun := unZ_in hM' (plZ f s).toNat
    have eA : (21 * (s : Int) + e).toNat = 21 * s + e := by omega
    have eB : (21 * (s : Int) + e + 1).toNat = 21 * s + e + 1 := by omega
    have hb : e < 20 → _ := fun z => hP.1.1 (21 * s + e + 1) (by omega)
    have hbb : e < 20 → _ := fun z => LI_bd hM hP.1 (v := 21 * s + e + 1) (by omega)
    have hab := LI_bd hM hP.1 (v := 21 * s + e) (by omega)
    have hcb := hP.1.1 (21 * s + e) (by omega)
    have J : ∀ more f g, Fr f0 g0 f g → PI f0 g0 cs ns (Dt s e 1) more (g 43) (f 44) → am_Wp (am_call (d + 2)) 40 Q 198 [some (.ref 31), some (.int (iZ more)), some (.int (iZ s)), some (.int (iZ e)), some (.int (iZ (21 * (s : Int) + e))), none, none, some (.int (iZ 1)), none] [] (53, sh_lt L, iH f, jH g, sh_rt sw) (0, 0) := by
      intro more f g hF hP
      refine lp_40t hM hs (by omega) ?_ (f0 31 5).toNat 1 1 more f g rfl (by omega) (by omega) hF hP
      intro more f g hF hP
      have hm := PI_more hP
      refine ap_go kc_40_309 ?_
      refine ai_iinc rfl rfl ?_; refine ap_goto rfl ?_
      exact am_weak (by first | exact am_le_0 | (repeat (first | exact am_le_0 | refine am_le_n ?_ | refine am_le_s ?_))) (ih (e + 1) (e + 1) more f g rfl (by omega) hF (PI_e hM hP))
    refine ap_go kc_40_101 ?_
    refine ap_iload_n rfl ?_; refine ap_aload_n rfl ?_; refine ap_callv0 ow_40 rm_8_127 na_35 mc_35 ms_35 rfl rfl (Nat.le_of_ble_eq_true rfl) (Nat.le_of_ble_eq_true rfl) (Or.inr rfl) (Nat.zero_le _) (Nat.zero_le _) ?_; refine sp_35 ?_ hM'; dsimp only [Option.toList_some, Option.toList_none, List.cons_append, List.nil_append]
    refine ai_icgt rfl rfl (fun hq0 => ?_) (fun hq0 => ?_) ?_
    · exfalso; omega
    · refine ap_go kc_40_109 ?_
      refine ai_bipush (by decide) ?_; refine ap_iload_n rfl ?_; refine ai_imul ?_; refine ap_iload_n rfl ?_; refine ai_iadd ?_; refine ap_istore rfl ?_; refine ap_aload_n rfl ?_; refine ap_aload_n rfl ?_; refine ap_iload_n rfl ?_; refine ap_callv0 ow_40 rm_8_116 na_37 mc_37 ms_37 rfl rfl (Nat.le_of_ble_eq_true rfl) (Nat.le_of_ble_eq_true rfl) (Or.inr rfl) (Nat.zero_le _) (Nat.zero_le _) ?_; refine sp_37 ?_ ?_; try dsimp only [Int.toNat_natCast]; dsimp only [Option.toList_some, Option.toList_none, List.cons_append, List.nil_append]; refine ap_callv0 ow_40 rm_8_134 na_34 mc_34 ms_34 rfl rfl (Nat.le_of_ble_eq_true rfl) (Nat.le_of_ble_eq_true rfl) (Or.inr rfl) (Nat.zero_le _) (Nat.zero_le _) ?_; refine sp_34 ?_ hM' ?_; dsimp only [Option.toList_some, Option.toList_none, List.cons_append, List.nil_append]; refine ap_lstore rfl ?_; refine ap_lload rfl ?_; refine ai_lconst 0 rfl ?_
      refine ai_lclt rfl rfl (fun hq1 => ?_) (fun hq1 => ?_) ?_
      · refine ap_go kc_40_195 ?_
        refine ai_iconst ?_; refine ap_istore rfl ?_; refine ap_nil ?_
        first | exact am_weak (by first | exact am_le_0 | (repeat (first | exact am_le_0 | refine am_le_n ?_ | refine am_le_s ?_))) (J more f g hF (st_0n hF (by omega) hP (by first | omega | (rw [← eB]; omega)))) | exact am_weak (by first | exact am_le_0 | (repeat (first | exact am_le_0 | refine am_le_n ?_ | refine am_le_s ?_))) (J 1 f2 g2 hF2 (by rw [if_pos (by omega)] at hP2; exact hP2)) | exact am_weak (by first | exact am_le_0 | (repeat (first | exact am_le_0 | refine am_le_n ?_ | refine am_le_s ?_))) (J 0 f2 g2 hF2 (by rw [if_neg (by omega)] at hP2; exact hP2))
      · refine ap_go kc_40_135 ?_
        refine ap_iload_n rfl ?_; refine ai_bipush (by decide) ?_
        refine ai_icge rfl rfl (fun hq2 => ?_) (fun hq2 => ?_) ?_
        · refine ap_go kc_40_195 ?_
          refine ai_iconst ?_; refine ap_istore rfl ?_; refine ap_nil ?_
          first | exact am_weak (by first | exact am_le_0 | (repeat (first | exact am_le_0 | refine am_le_n ?_ | refine am_le_s ?_))) (J more f g hF (st_0n hF (by omega) hP (by first | omega | (rw [← eB]; omega)))) | exact am_weak (by first | exact am_le_0 | (repeat (first | exact am_le_0 | refine am_le_n ?_ | refine am_le_s ?_))) (J 1 f2 g2 hF2 (by rw [if_pos (by omega)] at hP2; exact hP2)) | exact am_weak (by first | exact am_le_0 | (repeat (first | exact am_le_0 | refine am_le_n ?_ | refine am_le_s ?_))) (J 0 f2 g2 hF2 (by rw [if_neg (by omega)] at hP2; exact hP2))
        · refine ap_go kc_40_141 ?_
          refine ap_aload_n rfl ?_; refine ap_getR ow_40 rf_8_49 rfl rfl rfl ?_; refine ap_iload rfl ?_; refine ai_iconst ?_; refine ai_iadd ?_; refine ai_laload (n := 2541) rfl rfl (by decide) ?_ ?_; refine ai_lconst 0 rfl ?_
          refine ai_lclt rfl rfl (fun hq3 => ?_) (fun hq3 => ?_) ?_
          · refine ap_go kc_40_195 ?_
            refine ai_iconst ?_; refine ap_istore rfl ?_; refine ap_nil ?_
            first | exact am_weak (by first | exact am_le_0 | (repeat (first | exact am_le_0 | refine am_le_n ?_ | refine am_le_s ?_))) (J more f g hF (st_0n hF (by omega) hP (by first | omega | (rw [← eB]; omega)))) | exact am_weak (by first | exact am_le_0 | (repeat (first | exact am_le_0 | refine am_le_n ?_ | refine am_le_s ?_))) (J 1 f2 g2 hF2 (by rw [if_pos (by omega)] at hP2; exact hP2)) | exact am_weak (by first | exact am_le_0 | (repeat (first | exact am_le_0 | refine am_le_n ?_ | refine am_le_s ?_))) (J 0 f2 g2 hF2 (by rw [if_neg (by omega)] at hP2; exact hP2))
          · refine ap_go kc_40_155 ?_
            refine ap_aload_n rfl ?_; refine ap_iload rfl ?_; refine ap_aload_n rfl ?_; refine ap_getR ow_40 rf_8_49 rfl rfl rfl ?_; refine ap_iload rfl ?_; refine ai_iconst ?_; refine ai_iadd ?_; refine ai_laload (n := 2541) rfl rfl (by decide) ?_ ?_; refine ap_lload rfl ?_; refine ai_ladd ?_; refine ap_aload_n rfl ?_; refine ap_getR ow_40 rf_8_52 rfl rfl rfl ?_; refine ap_iload rfl ?_; refine ai_iconst ?_; refine ai_iadd ?_; refine ai_iaload (n := 2541) rfl rfl (by decide) ?_ ?_; refine ap_callv0 ow_40 rm_8_137 na_39 mc_39 ms_39 rfl rfl (Nat.le_of_ble_eq_true rfl) (Nat.le_of_ble_eq_true rfl) (Or.inr rfl) (Nat.zero_le _) (Nat.zero_le _) ?_; refine sp_39 (fun x f2 g2 hR => ?_) ?_ ?_ ?_ ?_ ?_; dsimp only [Option.toList_some, Option.toList_none, List.cons_append, List.nil_append]
            have hx := lsR_x hR; rw [eA, eB] at hR; obtain ⟨hF2, hP2⟩ := st_0 hM hF hs (by omega) hP (by omega) (by omega) (by rw [← eB]; omega) hR; rw [more_x hx hm] at hP2
            refine ai_ifne rfl rfl (fun hq4 => ?_) (fun hq4 => ?_) ?_
            · refine ap_go kc_40_189 ?_
              refine ai_iconst ?_; refine ap_goto rfl ?_
              refine ap_go kc_40_194 ?_
              refine ap_istore_n rfl ?_; refine ap_nil ?_
              refine ap_go kc_40_195 ?_
              refine ai_iconst ?_; refine ap_istore rfl ?_; refine ap_nil ?_
              first | exact am_weak (by first | exact am_le_0 | (repeat (first | exact am_le_0 | refine am_le_n ?_ | refine am_le_s ?_))) (J more f g hF (st_0n hF (by omega) hP (by first | omega | (rw [← eB]; omega)))) | exact am_weak (by first | exact am_le_0 | (repeat (first | exact am_le_0 | refine am_le_n ?_ | refine am_le_s ?_))) (J 1 f2 g2 hF2 (by rw [if_pos (by omega)] at hP2; exact hP2)) | exact am_weak (by first | exact am_le_0 | (repeat (first | exact am_le_0 | refine am_le_n ?_ | refine am_le_s ?_))) (J 0 f2 g2 hF2 (by rw [if_neg (by omega)] at hP2; exact hP2))
            · refine ap_go kc_40_185 ?_
              refine ap_iload_n rfl ?_
              refine ai_ifeq rfl rfl (fun hq5 => ?_) (fun hq5 => ?_) ?_
              · refine ap_go kc_40_193 ?_
                refine ai_iconst ?_; refine ap_nil ?_
                refine ap_go kc_40_194 ?_
                refine ap_istore_n rfl ?_; refine ap_nil ?_
                refine ap_go kc_40_195 ?_
                refine ai_iconst ?_; refine ap_istore rfl ?_; refine ap_nil ?_
                first | exact am_weak (by first | exact am_le_0 | (repeat (first | exact am_le_0 | refine am_le_n ?_ | refine am_le_s ?_))) (J more f g hF (st_0n hF (by omega) hP (by first | omega | (rw [← eB]; omega)))) | exact am_weak (by first | exact am_le_0 | (repeat (first | exact am_le_0 | refine am_le_n ?_ | refine am_le_s ?_))) (J 1 f2 g2 hF2 (by rw [if_pos (by omega)] at hP2; exact hP2)) | exact am_weak (by first | exact am_le_0 | (repeat (first | exact am_le_0 | refine am_le_n ?_ | refine am_le_s ?_))) (J 0 f2 g2 hF2 (by rw [if_neg (by omega)] at hP2; exact hP2))
              · refine ap_go kc_40_189 ?_
                refine ai_iconst ?_; refine ap_goto rfl ?_
                refine ap_go kc_40_194 ?_
                refine ap_istore_n rfl ?_; refine ap_nil ?_
                refine ap_go kc_40_195 ?_
                refine ai_iconst ?_; refine ap_istore rfl ?_; refine ap_nil ?_
                first | exact am_weak (by first | exact am_le_0 | (repeat (first | exact am_le_0 | refine am_le_n ?_ | refine am_le_s ?_))) (J more f g hF (st_0n hF (by omega) hP (by first | omega | (rw [← eB]; omega)))) | exact am_weak (by first | exact am_le_0 | (repeat (first | exact am_le_0 | refine am_le_n ?_ | refine am_le_s ?_))) (J 1 f2 g2 hF2 (by rw [if_pos (by omega)] at hP2; exact hP2)) | exact am_weak (by first | exact am_le_0 | (repeat (first | exact am_le_0 | refine am_le_n ?_ | refine am_le_s ?_))) (J 0 f2 g2 hF2 (by rw [if_neg (by omega)] at hP2; exact hP2))
              all_goals (first | omega | (rw [eB]; omega) | (rw [eA]; omega))
            all_goals (first | omega | (rw [eB]; omega) | (rw [eA]; omega))
          all_goals (first | omega | (rw [eB]; omega) | (rw [eA]; omega))
        all_goals (first | omega | (rw [eB]; omega) | (rw [eA]; omega))
      all_goals (first | omega | (rw [eB]; omega) | (rw [eA]; omega))
    all_goals (first | omega | (rw [eB]; omega) | (rw [eA]; omega))
theorem lp_40s {d L : Nat} {sw : Bool} {Q : Option Value → am_H → Prop} {f0 g0 : Nat → Nat → Int} {cs ns : Nat → Int} (hM : MOk f0 g0) (K : ∀ more f g, Fr f0 g0 f g → PI f0 g0 cs ns (DS (-1)) more (g 43) (f 44) → am_Wp (am_call (d + 2)) 40 Q 84 [some (.ref 31), some (.int (iZ more)), none, none, none, none, none, none, none] [] (53, sh_lt L, iH f, jH g, sh_rt sw) (0, 0)) : ∀ (k : Nat) (i more : Int) (f g : Nat → Nat → Int), i + 1 = k → i ≤ f0 31 5 → Fr f0 g0 f g → PI f0 g0 cs ns (DS i) more (g 43) (f 44) → am_Wp (am_call (d + 2)) 40 Q 95 [some (.ref 31), some (.int (iZ more)), some (.int (iZ i)), none, none, none, none, none, none] [] (53, sh_lt L, iH f, jH g, sh_rt sw) (0, 0) := by
  intro k
  have m5 := hM.1.2.1
  induction k with
  | zero =>
    intro i more f g hi hs hF hP
    refine ap_go kc_40_95 ?_
    refine ap_iload_n rfl ?_
    refine ai_iflt rfl rfl (fun hb0 => ?_) (fun hb0 => ?_) ?_
    · refine ap_go kc_40_321 ?_
      refine ap_goto rfl ?_
      exact am_weak (by first | exact am_le_0 | (repeat (first | exact am_le_0 | refine am_le_n ?_ | refine am_le_s ?_))) (K more f g hF (by rw [show (-1 : Int) = i by omega]; exact hP))
    · exfalso; omega
    all_goals (omega)
  | succ k ih =>
    intro i more f g hi hs hF hP
    have hi' : i = (k : Int) := by omega
    subst hi'
    have h20 := toZ_in f0
    have J : ∀ more f g, Fr f0 g0 f g → PI f0 g0 cs ns (DS ((k : Int) - 1)) more (g 43) (f 44) → am_Wp (am_call (d + 2)) 40 Q 315 [some (.ref 31), some (.int (iZ more)), some (.int (iZ (k : Int))), none, none, none, none, none, none] [] (53, sh_lt L, iH f, jH g, sh_rt sw) (0, 0) := by
      intro more f g hF hP
      refine ap_go kc_40_315 ?_
      refine ai_iinc rfl rfl ?_; refine ap_goto rfl ?_
      exact am_weak (by first | exact am_le_0 | (repeat (first | exact am_le_0 | refine am_le_n ?_ | refine am_le_s ?_))) (ih (k - 1) more f g (by omega) (by omega) hF hP)
    refine ap_go kc_40_95 ?_
    refine ap_iload_n rfl ?_
    refine ai_iflt rfl rfl (fun hb0 => ?_) (fun hb0 => ?_) ?_
    · exfalso; omega
    · refine ap_go kc_40_99 ?_
      refine ai_iconst ?_; refine ap_istore_n rfl ?_; refine ap_nil ?_
      exact am_weak (by first | exact am_le_0 | (repeat (first | exact am_le_0 | refine am_le_n ?_ | refine am_le_s ?_))) (lp_40e hM (s := k) hs J (toZ f0 + 1).toNat 0 0 more f g rfl (by omega) hF (PI_s0 hP))
    all_goals (omega)
theorem lp_40w {d L : Nat} {sw : Bool} {Q : Option Value → am_H → Prop} {f0 g0 : Nat → Nat → Int} (hM : MOk f0 g0) (K : ∀ f g, Fr f0 g0 f g → LI f0 g0 (g 43) (f 44) → mg_D (mE f0 g0) (mT f0) (labZ (g 43) (f 44)) → Q none (53, sh_lt L, iH f, jH g, sh_rt sw)) : ∀ (N : Nat) (f g : Nat → Nat → Int), phS (labZ (g 43) (f 44)) 2541 < N → Fr f0 g0 f g → LI f0 g0 (g 43) (f 44) → am_Wp (am_call (d + 2)) 40 Q 84 [some (.ref 31), some (.int (iZ 1)), none, none, none, none, none, none, none] [] (53, sh_lt L, iH f, jH g, sh_rt sw) (0, 0) := by
  intro N
  have m5 := hM.1.2.1
  induction N with
  | zero => intro f g hN; exact absurd hN (Nat.not_lt_zero _)
  | succ N ih =>
    intro f g hN hF hL
    have e5 : f 31 5 = f0 31 5 := by rw [hF.1 31 (by decide)]
    have J : ∀ more f2 g2, Fr f0 g0 f2 g2 → PI f0 g0 (g 43) (f 44) (DS (-1)) more (g2 43) (f2 44) → am_Wp (am_call (d + 2)) 40 Q 84 [some (.ref 31), some (.int (iZ more)), none, none, none, none, none, none, none] [] (53, sh_lt L, iH f2, jH g2, sh_rt sw) (0, 0) := by
      intro more f2 g2 hF2 hP2
      rcases PI_more hP2 with hm | hm
      · subst hm
        refine ap_go kc_40_84 ?_
        refine ap_iload_n rfl ?_
        refine ai_ifeq rfl rfl (fun hb0 => ?_) (fun hb0 => ?_) ?_
        · refine ap_go kc_40_324 ?_
          refine ap_vret rfl ?_
          exact K f2 g2 hF2 hP2.1 (PI_fin hP2)
        · exfalso; omega
        all_goals (omega)
      · subst hm
        refine ih f2 g2 ?_ hF2 hP2.1
        rcases hP2.2 with ⟨z, -⟩ | ⟨-, z⟩
        · exact absurd z (by decide)
        · omega
    refine ap_go kc_40_84 ?_
    refine ap_iload_n rfl ?_
    refine ai_ifeq rfl rfl (fun hb0 => ?_) (fun hb0 => ?_) ?_
    · exfalso; omega
    · refine ap_go kc_40_88 ?_
      refine ai_iconst ?_; refine ap_istore_n rfl ?_; refine ap_aload_n rfl ?_; refine ai_getI ow_40 rf_8_88 rfl rfl ?_; refine ap_istore_n rfl ?_; refine ap_nil ?_
      exact am_weak (by first | exact am_le_0 | (repeat (first | exact am_le_0 | refine am_le_n ?_ | refine am_le_s ?_))) (lp_40s (cs := g 43) (ns := f 44) hM J (f0 31 5 + 1).toNat (f 31 5) 0 f g (by omega) (by omega) hF (by rw [e5]; exact PI_st hL hM))
    all_goals (omega)
/-- the first labels, as far as they are laid -/
def LN (f0 g0 : Nat → Nat → Int) (a : Nat) (f g : Nat → Nat → Int) : Prop := Fr f0 g0 f g ∧ ∀ v, v < a → (mT f0 v → g 43 v = 0) ∧ (¬ mT f0 v → g 43 v = -1) ∧ f 44 v = 0
theorem mT_iff {f0 : Nat → Nat → Int} {v : Nat} : mT f0 v ↔ ((v / 21 : Nat) : Int) ≤ f0 31 5 ∧ ((v % 21 : Nat) : Int) ≤ toZ f0 ∧ plZ f0 (v / 21) = f0 31 16 := by
  have := toZ_in f0
  constructor
  · rintro ⟨s, e, h1, h2, h3, h4⟩
    have es : s = v / 21 := by omega
    have ee : e = v % 21 := by omega
    subst es; subst ee
    exact ⟨h2, h3, h4⟩
  · rintro ⟨h2, h3, h4⟩
    exact ⟨v / 21, v % 21, by omega, h2, h3, h4⟩
theorem LN_step {f0 g0 f g : Nat → Nat → Int} {a : Nat} {c : Int} (h : LN f0 g0 a f g) (h1 : mT f0 a → c = 0) (h2 : ¬ mT f0 a → c = -1) : LN f0 g0 (a + 1) (am_up f 44 a 0) (am_up g 43 a c) := by
  refine ⟨Fr_up h.1, fun v hv => ?_⟩
  rw [am_up_eq, am_up_eq]
  by_cases hva : v = a
  · subst hva
    simp only [if_true]
    exact ⟨h1, h2, trivial⟩
  · simp only [if_neg hva]
    exact h.2 v (by omega)
theorem LN_LI {f0 g0 f g : Nat → Nat → Int} (hM : MOk f0 g0) (h : LN f0 g0 2541 f g) : LI f0 g0 (g 43) (f 44) := by
  refine ⟨fun v hv => ?_, fun v hv => ?_, fun v d hd => ?_⟩
  · obtain ⟨q1, q2, q3⟩ := h.2 v hv
    by_cases z : mT f0 v
    · have := q1 z; omega
    · have := q2 z; omega
  · have h5 := hM.1.2.1
    have h6 := toZ_in f0
    have hv2 : v < 2541 := by
      obtain ⟨s, e, q1, q2, q3, -⟩ := hv
      omega
    obtain ⟨q1, q2, q3⟩ := h.2 v hv2
    unfold labZ
    rw [q1 hv, q3, if_neg (by omega)]
    rfl
  · obtain ⟨e1, e2, e3⟩ := labZ_some hd
    obtain ⟨q1, q2, q3⟩ := h.2 v e3
    by_cases z : mT f0 v
    · rw [q1 z, q3] at e2
      exact ⟨[], z, e2⟩
    · have := q2 z; omega
theorem lp_40i {d L : Nat} {sw : Bool} {Q : Option Value → am_H → Prop} {f0 g0 : Nat → Nat → Int} (hM : MOk f0 g0) (K : ∀ f g, Fr f0 g0 f g → LI f0 g0 (g 43) (f 44) → mg_D (mE f0 g0) (mT f0) (labZ (g 43) (f 44)) → Q none (53, sh_lt L, iH f, jH g, sh_rt sw)) : ∀ (k a : Nat) (i : Int) (f g : Nat → Nat → Int), i = a → 2541 = a + k → LN f0 g0 a f g → am_Wp (am_call (d + 2)) 40 Q 2 [some (.ref 31), some (.int (iZ i)), none, none, none, none, none, none, none] [] (53, sh_lt L, iH f, jH g, sh_rt sw) (0, 0) := by
  intro k
  have m5 := hM.1
  have h20 := toZ_in f0
  induction k with
  | zero =>
    intro a i f g hi hk hL
    subst hi
    refine ap_go kc_40_2 ?_
    refine ap_iload_n rfl ?_; refine ai_sipush (by decide) ?_
    refine ai_icge rfl rfl (fun hb0 => ?_) (fun hb0 => ?_) ?_
    · refine ap_go kc_40_82 ?_
      refine ai_iconst ?_; refine ap_istore_n rfl ?_; refine ap_nil ?_
      exact am_weak (by first | exact am_le_0 | (repeat (first | exact am_le_0 | refine am_le_n ?_ | refine am_le_s ?_))) (lp_40w hM K _ f g (Nat.lt_succ_self _) hL.1 (LN_LI hM (by rw [show 2541 = a by omega]; exact hL)))
    · exfalso; omega
    all_goals (omega)
  | succ k ih =>
    intro a i f g hi hk hL
    subst hi
    have hF := hL.1
    have e5 : f 31 = f0 31 := hF.1 31 (by decide)
    have e6 := Fr_to hF
    have hM' := Fr_MOk hF hM
    have hT := mT_iff (f0 := f0) (v := a)
    rw [← e5, ← e6, ← Fr_pl hF] at hT
    have eD : ((a : Int) / 21).toNat = a / 21 := by omega
    have hpl := plZ_in hM' (a / 21)
    have hm2 := hM'.1
    refine ap_go kc_40_2 ?_
    refine ap_iload_n rfl ?_; refine ai_sipush (by decide) ?_
    refine ai_icge rfl rfl (fun hb0 => ?_) (fun hb0 => ?_) ?_
    · exfalso; omega
    · refine ap_go kc_40_9 ?_
      refine ap_iload_n rfl ?_; refine ai_bipush (by decide) ?_; refine ai_idiv ?_ ?_; refine ap_aload_n rfl ?_; refine ai_getI ow_40 rf_8_88 rfl rfl ?_
      refine ai_icgt rfl rfl (fun hb1 => ?_) (fun hb1 => ?_) ?_
      · refine ap_go kc_40_50 ?_
        refine ai_iconst ?_; refine ap_nil ?_
        refine ap_go kc_40_51 ?_
        refine ap_istore_n rfl ?_; refine ap_aload_n rfl ?_; refine ap_getR ow_40 rf_8_49 rfl rfl rfl ?_; refine ap_iload_n rfl ?_; refine ap_iload_n rfl ?_
        refine ai_ifeq rfl rfl (fun hb2 => ?_) (fun hb2 => ?_) ?_
        · refine ap_go kc_40_65 ?_
          refine ai_ldc2 (-1) ow_40 kl_8_64 rfl ?_; refine ap_nil ?_
          refine ap_go kc_40_68 ?_
          refine ai_lastore (n := 2541) rfl rfl (by decide) ?_ ?_; refine ap_aload_n rfl ?_; refine ap_getR ow_40 rf_8_52 rfl rfl rfl ?_; refine ap_iload_n rfl ?_; refine ai_iconst ?_; refine ai_iastore (n := 2541) rfl rfl (by decide) ?_ ?_; refine ai_iinc rfl rfl ?_; refine ap_goto rfl ?_
          · first | (exfalso; omega) | exact am_weak (by first | exact am_le_0 | (repeat (first | exact am_le_0 | refine am_le_n ?_ | refine am_le_s ?_))) (ih (a + 1) (a + 1) (am_up f 44 a 0) (am_up g 43 a 0) rfl (by omega) (LN_step hL (fun _ => rfl) (fun z => absurd (hT.mpr ⟨by omega, by omega, by omega⟩) z))) | exact am_weak (by first | exact am_le_0 | (repeat (first | exact am_le_0 | refine am_le_n ?_ | refine am_le_s ?_))) (ih (a + 1) (a + 1) (am_up f 44 a 0) (am_up g 43 a (-1)) rfl (by omega) (LN_step hL (fun z => absurd (hT.mp z) (by omega)) (fun _ => rfl)))
          all_goals (omega)
        · refine ap_go kc_40_61 ?_
          refine ai_lconst 0 rfl ?_; refine ap_goto rfl ?_
          refine ap_go kc_40_68 ?_
          refine ai_lastore (n := 2541) rfl rfl (by decide) ?_ ?_; refine ap_aload_n rfl ?_; refine ap_getR ow_40 rf_8_52 rfl rfl rfl ?_; refine ap_iload_n rfl ?_; refine ai_iconst ?_; refine ai_iastore (n := 2541) rfl rfl (by decide) ?_ ?_; refine ai_iinc rfl rfl ?_; refine ap_goto rfl ?_
          · first | (exfalso; omega) | exact am_weak (by first | exact am_le_0 | (repeat (first | exact am_le_0 | refine am_le_n ?_ | refine am_le_s ?_))) (ih (a + 1) (a + 1) (am_up f 44 a 0) (am_up g 43 a 0) rfl (by omega) (LN_step hL (fun _ => rfl) (fun z => absurd (hT.mpr ⟨by omega, by omega, by omega⟩) z))) | exact am_weak (by first | exact am_le_0 | (repeat (first | exact am_le_0 | refine am_le_n ?_ | refine am_le_s ?_))) (ih (a + 1) (a + 1) (am_up f 44 a 0) (am_up g 43 a (-1)) rfl (by omega) (LN_step hL (fun z => absurd (hT.mp z) (by omega)) (fun _ => rfl)))
          all_goals (omega)
        all_goals (omega)
      · refine ap_go kc_40_20 ?_
        refine ap_iload_n rfl ?_; refine ai_bipush (by decide) ?_; refine ai_irem ?_ ?_; refine ap_aload_n rfl ?_; refine ap_callv0 ow_40 rm_8_127 na_35 mc_35 ms_35 rfl rfl (Nat.le_of_ble_eq_true rfl) (Nat.le_of_ble_eq_true rfl) (Or.inr rfl) (Nat.zero_le _) (Nat.zero_le _) ?_; refine sp_35 ?_ hM'; dsimp only [Option.toList_some, Option.toList_none, List.cons_append, List.nil_append]
        refine ai_icgt rfl rfl (fun hb3 => ?_) (fun hb3 => ?_) ?_
        · refine ap_go kc_40_50 ?_
          refine ai_iconst ?_; refine ap_nil ?_
          refine ap_go kc_40_51 ?_
          refine ap_istore_n rfl ?_; refine ap_aload_n rfl ?_; refine ap_getR ow_40 rf_8_49 rfl rfl rfl ?_; refine ap_iload_n rfl ?_; refine ap_iload_n rfl ?_
          refine ai_ifeq rfl rfl (fun hb4 => ?_) (fun hb4 => ?_) ?_
          · refine ap_go kc_40_65 ?_
            refine ai_ldc2 (-1) ow_40 kl_8_64 rfl ?_; refine ap_nil ?_
            refine ap_go kc_40_68 ?_
            refine ai_lastore (n := 2541) rfl rfl (by decide) ?_ ?_; refine ap_aload_n rfl ?_; refine ap_getR ow_40 rf_8_52 rfl rfl rfl ?_; refine ap_iload_n rfl ?_; refine ai_iconst ?_; refine ai_iastore (n := 2541) rfl rfl (by decide) ?_ ?_; refine ai_iinc rfl rfl ?_; refine ap_goto rfl ?_
            · first | (exfalso; omega) | exact am_weak (by first | exact am_le_0 | (repeat (first | exact am_le_0 | refine am_le_n ?_ | refine am_le_s ?_))) (ih (a + 1) (a + 1) (am_up f 44 a 0) (am_up g 43 a 0) rfl (by omega) (LN_step hL (fun _ => rfl) (fun z => absurd (hT.mpr ⟨by omega, by omega, by omega⟩) z))) | exact am_weak (by first | exact am_le_0 | (repeat (first | exact am_le_0 | refine am_le_n ?_ | refine am_le_s ?_))) (ih (a + 1) (a + 1) (am_up f 44 a 0) (am_up g 43 a (-1)) rfl (by omega) (LN_step hL (fun z => absurd (hT.mp z) (by omega)) (fun _ => rfl)))
            all_goals (omega)
          · refine ap_go kc_40_61 ?_
            refine ai_lconst 0 rfl ?_; refine ap_goto rfl ?_
            refine ap_go kc_40_68 ?_
            refine ai_lastore (n := 2541) rfl rfl (by decide) ?_ ?_; refine ap_aload_n rfl ?_; refine ap_getR ow_40 rf_8_52 rfl rfl rfl ?_; refine ap_iload_n rfl ?_; refine ai_iconst ?_; refine ai_iastore (n := 2541) rfl rfl (by decide) ?_ ?_; refine ai_iinc rfl rfl ?_; refine ap_goto rfl ?_
            · first | (exfalso; omega) | exact am_weak (by first | exact am_le_0 | (repeat (first | exact am_le_0 | refine am_le_n ?_ | refine am_le_s ?_))) (ih (a + 1) (a + 1) (am_up f 44 a 0) (am_up g 43 a 0) rfl (by omega) (LN_step hL (fun _ => rfl) (fun z => absurd (hT.mpr ⟨by omega, by omega, by omega⟩) z))) | exact am_weak (by first | exact am_le_0 | (repeat (first | exact am_le_0 | refine am_le_n ?_ | refine am_le_s ?_))) (ih (a + 1) (a + 1) (am_up f 44 a 0) (am_up g 43 a (-1)) rfl (by omega) (LN_step hL (fun z => absurd (hT.mp z) (by omega)) (fun _ => rfl)))
            all_goals (omega)
          all_goals (omega)
        · refine ap_go kc_40_31 ?_
          refine ap_aload_n rfl ?_; refine ap_iload_n rfl ?_; refine ai_bipush (by decide) ?_; refine ai_idiv ?_ ?_; refine ap_callv0 ow_40 rm_8_116 na_37 mc_37 ms_37 rfl rfl (Nat.le_of_ble_eq_true rfl) (Nat.le_of_ble_eq_true rfl) (Or.inr rfl) (Nat.zero_le _) (Nat.zero_le _) ?_; refine sp_37 ?_ ?_; rw [eD]; dsimp only [Option.toList_some, Option.toList_none, List.cons_append, List.nil_append]; refine ap_aload_n rfl ?_; refine ai_getI ow_40 rf_8_131 rfl rfl ?_
          refine ai_icne rfl rfl (fun hb5 => ?_) (fun hb5 => ?_) ?_
          · refine ap_go kc_40_50 ?_
            refine ai_iconst ?_; refine ap_nil ?_
            refine ap_go kc_40_51 ?_
            refine ap_istore_n rfl ?_; refine ap_aload_n rfl ?_; refine ap_getR ow_40 rf_8_49 rfl rfl rfl ?_; refine ap_iload_n rfl ?_; refine ap_iload_n rfl ?_
            refine ai_ifeq rfl rfl (fun hb6 => ?_) (fun hb6 => ?_) ?_
            · refine ap_go kc_40_65 ?_
              refine ai_ldc2 (-1) ow_40 kl_8_64 rfl ?_; refine ap_nil ?_
              refine ap_go kc_40_68 ?_
              refine ai_lastore (n := 2541) rfl rfl (by decide) ?_ ?_; refine ap_aload_n rfl ?_; refine ap_getR ow_40 rf_8_52 rfl rfl rfl ?_; refine ap_iload_n rfl ?_; refine ai_iconst ?_; refine ai_iastore (n := 2541) rfl rfl (by decide) ?_ ?_; refine ai_iinc rfl rfl ?_; refine ap_goto rfl ?_
              · first | (exfalso; omega) | exact am_weak (by first | exact am_le_0 | (repeat (first | exact am_le_0 | refine am_le_n ?_ | refine am_le_s ?_))) (ih (a + 1) (a + 1) (am_up f 44 a 0) (am_up g 43 a 0) rfl (by omega) (LN_step hL (fun _ => rfl) (fun z => absurd (hT.mpr ⟨by omega, by omega, by omega⟩) z))) | exact am_weak (by first | exact am_le_0 | (repeat (first | exact am_le_0 | refine am_le_n ?_ | refine am_le_s ?_))) (ih (a + 1) (a + 1) (am_up f 44 a 0) (am_up g 43 a (-1)) rfl (by omega) (LN_step hL (fun z => absurd (hT.mp z) (by omega)) (fun _ => rfl)))
              all_goals (omega)
            · refine ap_go kc_40_61 ?_
              refine ai_lconst 0 rfl ?_; refine ap_goto rfl ?_
              refine ap_go kc_40_68 ?_
              refine ai_lastore (n := 2541) rfl rfl (by decide) ?_ ?_; refine ap_aload_n rfl ?_; refine ap_getR ow_40 rf_8_52 rfl rfl rfl ?_; refine ap_iload_n rfl ?_; refine ai_iconst ?_; refine ai_iastore (n := 2541) rfl rfl (by decide) ?_ ?_; refine ai_iinc rfl rfl ?_; refine ap_goto rfl ?_
              · first | (exfalso; omega) | exact am_weak (by first | exact am_le_0 | (repeat (first | exact am_le_0 | refine am_le_n ?_ | refine am_le_s ?_))) (ih (a + 1) (a + 1) (am_up f 44 a 0) (am_up g 43 a 0) rfl (by omega) (LN_step hL (fun _ => rfl) (fun z => absurd (hT.mpr ⟨by omega, by omega, by omega⟩) z))) | exact am_weak (by first | exact am_le_0 | (repeat (first | exact am_le_0 | refine am_le_n ?_ | refine am_le_s ?_))) (ih (a + 1) (a + 1) (am_up f 44 a 0) (am_up g 43 a (-1)) rfl (by omega) (LN_step hL (fun z => absurd (hT.mp z) (by omega)) (fun _ => rfl)))
              all_goals (omega)
            all_goals (omega)
          · refine ap_go kc_40_46 ?_
            refine ai_iconst ?_; refine ap_goto rfl ?_
            refine ap_go kc_40_51 ?_
            refine ap_istore_n rfl ?_; refine ap_aload_n rfl ?_; refine ap_getR ow_40 rf_8_49 rfl rfl rfl ?_; refine ap_iload_n rfl ?_; refine ap_iload_n rfl ?_
            refine ai_ifeq rfl rfl (fun hb7 => ?_) (fun hb7 => ?_) ?_
            · refine ap_go kc_40_65 ?_
              refine ai_ldc2 (-1) ow_40 kl_8_64 rfl ?_; refine ap_nil ?_
              refine ap_go kc_40_68 ?_
              refine ai_lastore (n := 2541) rfl rfl (by decide) ?_ ?_; refine ap_aload_n rfl ?_; refine ap_getR ow_40 rf_8_52 rfl rfl rfl ?_; refine ap_iload_n rfl ?_; refine ai_iconst ?_; refine ai_iastore (n := 2541) rfl rfl (by decide) ?_ ?_; refine ai_iinc rfl rfl ?_; refine ap_goto rfl ?_
              · first | (exfalso; omega) | exact am_weak (by first | exact am_le_0 | (repeat (first | exact am_le_0 | refine am_le_n ?_ | refine am_le_s ?_))) (ih (a + 1) (a + 1) (am_up f 44 a 0) (am_up g 43 a 0) rfl (by omega) (LN_step hL (fun _ => rfl) (fun z => absurd (hT.mpr ⟨by omega, by omega, by omega⟩) z))) | exact am_weak (by first | exact am_le_0 | (repeat (first | exact am_le_0 | refine am_le_n ?_ | refine am_le_s ?_))) (ih (a + 1) (a + 1) (am_up f 44 a 0) (am_up g 43 a (-1)) rfl (by omega) (LN_step hL (fun z => absurd (hT.mp z) (by omega)) (fun _ => rfl)))
              all_goals (omega)
            · refine ap_go kc_40_61 ?_
              refine ai_lconst 0 rfl ?_; refine ap_goto rfl ?_
              refine ap_go kc_40_68 ?_
              refine ai_lastore (n := 2541) rfl rfl (by decide) ?_ ?_; refine ap_aload_n rfl ?_; refine ap_getR ow_40 rf_8_52 rfl rfl rfl ?_; refine ap_iload_n rfl ?_; refine ai_iconst ?_; refine ai_iastore (n := 2541) rfl rfl (by decide) ?_ ?_; refine ai_iinc rfl rfl ?_; refine ap_goto rfl ?_
              · first | (exfalso; omega) | exact am_weak (by first | exact am_le_0 | (repeat (first | exact am_le_0 | refine am_le_n ?_ | refine am_le_s ?_))) (ih (a + 1) (a + 1) (am_up f 44 a 0) (am_up g 43 a 0) rfl (by omega) (LN_step hL (fun _ => rfl) (fun z => absurd (hT.mpr ⟨by omega, by omega, by omega⟩) z))) | exact am_weak (by first | exact am_le_0 | (repeat (first | exact am_le_0 | refine am_le_n ?_ | refine am_le_s ?_))) (ih (a + 1) (a + 1) (am_up f 44 a 0) (am_up g 43 a (-1)) rfl (by omega) (LN_step hL (fun z => absurd (hT.mp z) (by omega)) (fun _ => rfl)))
              all_goals (omega)
            all_goals (omega)
          all_goals (omega)
        all_goals (omega)
      all_goals (omega)
    all_goals (omega)
theorem sp_40 {d L : Nat} {sw : Bool} {f g : Nat → Nat → Int} {Q : Option Value → am_H → Prop} (hM : MOk f g) (K : ∀ f2 g2, Fr f g f2 g2 → LI f g (g2 43) (f2 44) → mg_D (mE f g) (mT f) (labZ (g2 43) (f2 44)) → Q none (53, sh_lt L, iH f2, jH g2, sh_rt sw)) : am_call (d + 3) 40 [.ref 31] (53, sh_lt L, iH f, jH g, sh_rt sw) Q := by
  refine ap_call (by decide) (Nat.le_of_ble_eq_true rfl) rfl ?_
  refine ap_go kc_40_0 ?_
  refine ai_iconst ?_; refine ap_istore_n rfl ?_; refine ap_nil ?_
  exact am_weak (by first | exact am_le_0 | (repeat (first | exact am_le_0 | refine am_le_n ?_ | refine am_le_s ?_))) (lp_40i hM K 2541 0 0 f g rfl rfl ⟨⟨fun _ _ => rfl, fun _ _ => rfl⟩, fun v hv => absurd hv (Nat.not_lt_zero v)⟩)
