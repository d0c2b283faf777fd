/-! THE REFERENCE: costNow() -/
theorem Gm_g {f0 g0 f gb g : Nat → Nat → Int} (h : Gm f0 g0 f gb) (h2 : ∀ a, a ≠ 50 → g a = gb a) : Gm f0 g0 f g := by
  unfold Gm at h ⊢
  rw [h2 34 (by decide), h2 37 (by decide), h2 38 (by decide), h2 40 (by decide), h2 41 (by decide), h2 31 (by decide)]
  exact h
theorem RR_in {i : Nat} {h R : Nat → Int} (hR : RR i h R) {e : Nat} (he : e ≤ 20) : -1 ≤ R e ∧ R e < 562949953421312 := by
  have := hR e he
  unfold rlZ at this
  omega
theorem lp_48c {d L : Nat} {sw : Bool} {Q : Option Value → am_H → Prop} {f0 g0 f gb : Nat → Nat → Int} {i nd : Nat} {t : Int} {h : Nat → Int} (hM : MOk f0 g0) (hi : i ≤ 2600) (hH : HB f0 i h) (hu : uZ f0 g0 nd ≠ 0) (hG : Gm f0 g0 f gb) (K : ∀ g, (∀ a, a ≠ 50 → g a = gb a) → RR i (chZ (uZ f0 g0 nd) h) (g 50) → am_Wp (am_call (d + 1)) 48 Q 206 [some (.ref 31), some (.int (iZ (i : Int))), some (.int (iZ t)), none, none, none, none, none] [] (53, sh_lt L, iH f, jH g, sh_rt sw) (0, 0)) : ∀ (k e : Nat) (x : Int) (g : Nat → Nat → Int), x = (e : Int) + 1 → 20 = e + k → (∀ a, a ≠ 50 → g a = gb a) → RR i (chP (uZ f0 g0 nd) h e) (g 50) → am_Wp (am_call (d + 1)) 48 Q 116 [some (.ref 31), some (.int (iZ (i : Int))), some (.int (iZ t)), none, some (.long (lZ (unZ f0 g0 nd))), none, some (.int (iZ x)), none] [] (53, sh_lt L, iH f, jH g, sh_rt sw) (0, 0) := by
  intro k
  obtain ⟨u1, u2, u3⟩ := uZ_ne hM hu
  have hun := unZ_in hM nd
  have e6 := Gm_to hG
  induction k with
  | zero =>
    intro e x g hx hk hg hR
    subst hx
    have hM' := Gm_MOk (Gm_g hG hg) hM
    refine ap_go kc_48_116 ?_
    refine ap_iload rfl ?_; refine ap_aload_n rfl ?_; refine ap_callv0 ow_48 rm_8_127 na_35 mc_35 ms_35 rfl rfl (Nat.le_of_ble_eq_true rfl) (Nat.le_of_ble_eq_true rfl) (Or.inr rfl) (Nat.zero_le _) (Nat.zero_le _) ?_; refine sp_35 ?_ hM'; dsimp only [Option.toList_some, Option.toList_none, List.cons_append, List.nil_append]
    refine ai_icgt rfl rfl (fun hb0 => ?_) (fun hb0 => ?_) ?_
    · exact am_weak (by first | exact am_le_0 | (repeat (first | exact am_le_0 | refine am_le_n ?_ | refine am_le_s ?_))) (K g hg (fun j hj => by have q := hR j hj; unfold chP at q; rw [if_pos (by omega)] at q; exact q))
    · exfalso; omega
    all_goals (omega)
  | succ k ih =>
    intro e x g hx hk hg hR
    subst hx
    have hM' := Gm_MOk (Gm_g hG hg) hM
    have st := RR_ch hM (by omega) hH hu (e := e) (by omega) hR
    have r1 := RR_in hR (e := e) (by omega)
    have r2 := RR_in hR (e := e + 1) (by omega)
    have e1 : ((e : Int) + 1 - 1).toNat = e := by omega
    have e2 : ((e : Int) + 1).toNat = e + 1 := by omega
    have q1 : g 50 ((e : Int) + 1 - 1).toNat = g 50 e := by rw [e1]
    have q2 : g 50 ((e : Int) + 1).toNat = g 50 (e + 1) := by rw [e2]
    refine ap_go kc_48_116 ?_
    refine ap_iload rfl ?_; refine ap_aload_n rfl ?_; refine ap_callv0 ow_48 rm_8_127 na_35 mc_35 ms_35 rfl rfl (Nat.le_of_ble_eq_true rfl) (Nat.le_of_ble_eq_true rfl) (Or.inr rfl) (Nat.zero_le _) (Nat.zero_le _) ?_; refine sp_35 ?_ hM'; dsimp only [Option.toList_some, Option.toList_none, List.cons_append, List.nil_append]
    refine ai_icgt rfl rfl (fun hb0 => ?_) (fun hb0 => ?_) ?_
    · exfalso; omega
    · refine ap_go kc_48_125 ?_
      refine ap_lload rfl ?_; refine ai_lconst 0 rfl ?_
      refine ai_lclt rfl rfl (fun hb1 => ?_) (fun hb1 => ?_) ?_
      · exfalso; omega
      · refine ap_go kc_48_132 ?_
        refine ap_aload_n rfl ?_; refine ap_getR ow_48 rf_8_76 rfl rfl rfl ?_; refine ap_iload rfl ?_; refine ai_iconst ?_; refine ai_isub ?_; refine ai_laload (n := 21) rfl rfl (by decide) ?_ ?_; refine ai_lconst 0 rfl ?_
        refine ai_lclt rfl rfl (fun hb2 => ?_) (fun hb2 => ?_) ?_
        · refine ap_go kc_48_200 ?_
          refine ai_iinc rfl rfl ?_; refine ap_goto rfl ?_
          first | exact am_weak (by first | exact am_le_0 | (repeat (first | exact am_le_0 | refine am_le_n ?_ | refine am_le_s ?_))) (ih (e + 1) ((e : Int) + 1 + 1) g rfl (by omega) hg (st.2 (by omega))) | exact am_weak (by first | exact am_le_0 | (repeat (first | exact am_le_0 | refine am_le_n ?_ | refine am_le_s ?_))) (ih (e + 1) ((e : Int) + 1 + 1) (am_up g 50 _ _) rfl (by omega) (fun a ha => (am_up_ne ha).trans (hg a ha)) (by rw [am_up_eq, e2, e1]; exact st.1 ⟨by omega, by omega⟩))
        · refine ap_go kc_48_146 ?_
          refine ap_aload_n rfl ?_; refine ap_getR ow_48 rf_8_76 rfl rfl rfl ?_; refine ap_iload rfl ?_; refine ai_laload (n := 21) rfl rfl (by decide) ?_ ?_; refine ai_lconst 0 rfl ?_
          refine ai_lclt rfl rfl (fun hb3 => ?_) (fun hb3 => ?_) ?_
          · refine ap_go kc_48_181 ?_
            refine ap_aload_n rfl ?_; refine ap_getR ow_48 rf_8_76 rfl rfl rfl ?_; refine ap_iload rfl ?_; refine ap_aload_n rfl ?_; refine ap_getR ow_48 rf_8_76 rfl rfl rfl ?_; refine ap_iload rfl ?_; refine ai_iconst ?_; refine ai_isub ?_; refine ai_laload (n := 21) rfl rfl (by decide) ?_ ?_; refine ap_lload rfl ?_; refine ai_ladd ?_; refine ai_lastore (n := 21) rfl rfl (by decide) ?_ ?_; refine ap_nil ?_
            · refine ap_go kc_48_200 ?_
              refine ai_iinc rfl rfl ?_; refine ap_goto rfl ?_
              first | exact am_weak (by first | exact am_le_0 | (repeat (first | exact am_le_0 | refine am_le_n ?_ | refine am_le_s ?_))) (ih (e + 1) ((e : Int) + 1 + 1) g rfl (by omega) hg (st.2 (by omega))) | exact am_weak (by first | exact am_le_0 | (repeat (first | exact am_le_0 | refine am_le_n ?_ | refine am_le_s ?_))) (ih (e + 1) ((e : Int) + 1 + 1) (am_up g 50 _ _) rfl (by omega) (fun a ha => (am_up_ne ha).trans (hg a ha)) (by rw [am_up_eq, e2, e1]; exact st.1 ⟨by omega, by omega⟩))
            all_goals (omega)
          · refine ap_go kc_48_158 ?_
            refine ap_aload_n rfl ?_; refine ap_getR ow_48 rf_8_76 rfl rfl rfl ?_; refine ap_iload rfl ?_; refine ai_laload (n := 21) rfl rfl (by decide) ?_ ?_; refine ap_aload_n rfl ?_; refine ap_getR ow_48 rf_8_76 rfl rfl rfl ?_; refine ap_iload rfl ?_; refine ai_iconst ?_; refine ai_isub ?_; refine ai_laload (n := 21) rfl rfl (by decide) ?_ ?_; refine ap_lload rfl ?_; refine ai_ladd ?_
            refine ai_lcle rfl rfl (fun hb4 => ?_) (fun hb4 => ?_) ?_
            · refine ap_go kc_48_200 ?_
              refine ai_iinc rfl rfl ?_; refine ap_goto rfl ?_
              first | exact am_weak (by first | exact am_le_0 | (repeat (first | exact am_le_0 | refine am_le_n ?_ | refine am_le_s ?_))) (ih (e + 1) ((e : Int) + 1 + 1) g rfl (by omega) hg (st.2 (by omega))) | exact am_weak (by first | exact am_le_0 | (repeat (first | exact am_le_0 | refine am_le_n ?_ | refine am_le_s ?_))) (ih (e + 1) ((e : Int) + 1 + 1) (am_up g 50 _ _) rfl (by omega) (fun a ha => (am_up_ne ha).trans (hg a ha)) (by rw [am_up_eq, e2, e1]; exact st.1 ⟨by omega, by omega⟩))
            · refine ap_go kc_48_181 ?_
              refine ap_aload_n rfl ?_; refine ap_getR ow_48 rf_8_76 rfl rfl rfl ?_; refine ap_iload rfl ?_; refine ap_aload_n rfl ?_; refine ap_getR ow_48 rf_8_76 rfl rfl rfl ?_; refine ap_iload rfl ?_; refine ai_iconst ?_; refine ai_isub ?_; refine ai_laload (n := 21) rfl rfl (by decide) ?_ ?_; refine ap_lload rfl ?_; refine ai_ladd ?_; refine ai_lastore (n := 21) rfl rfl (by decide) ?_ ?_; refine ap_nil ?_
              · refine ap_go kc_48_200 ?_
                refine ai_iinc rfl rfl ?_; refine ap_goto rfl ?_
                first | exact am_weak (by first | exact am_le_0 | (repeat (first | exact am_le_0 | refine am_le_n ?_ | refine am_le_s ?_))) (ih (e + 1) ((e : Int) + 1 + 1) g rfl (by omega) hg (st.2 (by omega))) | exact am_weak (by first | exact am_le_0 | (repeat (first | exact am_le_0 | refine am_le_n ?_ | refine am_le_s ?_))) (ih (e + 1) ((e : Int) + 1 + 1) (am_up g 50 _ _) rfl (by omega) (fun a ha => (am_up_ne ha).trans (hg a ha)) (by rw [am_up_eq, e2, e1]; exact st.1 ⟨by omega, by omega⟩))
              all_goals (omega)
            all_goals (omega)
          all_goals (omega)
        all_goals (omega)
      all_goals (omega)
    all_goals (omega)
theorem lp_48d {d L : Nat} {sw : Bool} {Q : Option Value → am_H → Prop} {f0 g0 f gb : Nat → Nat → Int} {i t : Nat} {h : Nat → Int} (hM : MOk f0 g0) (hi : i ≤ 2600) (hH : HC f0 i h) (ht : t ≤ 120) (hp : 0 ≤ prZ f0 g0 t) (hG : Gm f0 g0 f gb) (K : ∀ g, (∀ a, a ≠ 50 → g a = gb a) → RR (i + 1) (drZ (neZ f0 t).toNat (wZ f0 g0 t) h) (g 50) → am_Wp (am_call (d + 1)) 48 Q 281 [some (.ref 31), some (.int (iZ (i : Int))), none, none, none, none, none, none] [] (53, sh_lt L, iH f, jH g, sh_rt sw) (0, 0)) : ∀ (k e : Nat) (x : Int) (g : Nat → Nat → Int), x = (e : Int) → (toZ f0).toNat + 1 = e + k → (∀ a, a ≠ 50 → g a = gb a) → RD i e h (drZ (neZ f0 t).toNat (wZ f0 g0 t) h) (g 50) → am_Wp (am_call (d + 1)) 48 Q 209 [some (.ref 31), some (.int (iZ (i : Int))), some (.int (iZ (t : Int))), none, none, none, some (.int (iZ x)), none] [] (53, sh_lt L, iH f, jH g, sh_rt sw) (0, 0) := by
  intro k
  have h20 := toZ_in f0
  have hne := neZ_in hM t
  have hpr := prZ_in hM t
  have e6 := Gm_to hG
  induction k with
  | zero =>
    intro e x g hx hk hg hR
    subst hx
    have hM' := Gm_MOk (Gm_g hG hg) hM
    refine ap_go kc_48_209 ?_
    refine ap_iload rfl ?_; refine ap_aload_n rfl ?_; refine ap_callv0 ow_48 rm_8_127 na_35 mc_35 ms_35 rfl rfl (Nat.le_of_ble_eq_true rfl) (Nat.le_of_ble_eq_true rfl) (Or.inr rfl) (Nat.zero_le _) (Nat.zero_le _) ?_; refine sp_35 ?_ hM'; dsimp only [Option.toList_some, Option.toList_none, List.cons_append, List.nil_append]
    refine ai_icgt rfl rfl (fun hb0 => ?_) (fun hb0 => ?_) ?_
    · exact am_weak (by first | exact am_le_0 | (repeat (first | exact am_le_0 | refine am_le_n ?_ | refine am_le_s ?_))) (K g hg (RD_end hH (by rw [hk]; exact hR)))
    · exfalso; omega
    all_goals (omega)
  | succ k ih =>
    intro e x g hx hk hg hR
    subst hx
    have hG' := Gm_g hG hg
    have hM' := Gm_MOk hG' hM
    have e7 := Gm_ne hG' t
    have e8 := Gm_pr hG' t
    have r1 : (e : Int) + neZ f0 t ≤ toZ f0 → -1 ≤ g 50 ((e : Int) + neZ f0 t).toNat ∧ g 50 ((e : Int) + neZ f0 t).toNat < 562949953421312 := by
      intro z
      have := (hR ((e : Int) + neZ f0 t).toNat (by omega)).2 (by omega)
      unfold rlZ at this
      omega
    have st := fun y => RD_st (x := y) hM (by omega) hp hH (e := e) (by omega) hR
    have ex : ((e : Nat) : Int).toNat = e := rfl
    refine ap_go kc_48_209 ?_
    refine ap_iload rfl ?_; refine ap_aload_n rfl ?_; refine ap_callv0 ow_48 rm_8_127 na_35 mc_35 ms_35 rfl rfl (Nat.le_of_ble_eq_true rfl) (Nat.le_of_ble_eq_true rfl) (Or.inr rfl) (Nat.zero_le _) (Nat.zero_le _) ?_; refine sp_35 ?_ hM'; dsimp only [Option.toList_some, Option.toList_none, List.cons_append, List.nil_append]
    refine ai_icgt rfl rfl (fun hb0 => ?_) (fun hb0 => ?_) ?_
    · exfalso; omega
    · refine ap_go kc_48_218 ?_
      refine ap_iload rfl ?_; refine ap_aload_n rfl ?_; refine ap_iload_n rfl ?_; refine ap_callv0 ow_48 rm_8_124 na_36 mc_36 ms_36 rfl rfl (Nat.le_of_ble_eq_true rfl) (Nat.le_of_ble_eq_true rfl) (Or.inr rfl) (Nat.zero_le _) (Nat.zero_le _) ?_; refine sp_36 ?_ hM' ?_; dsimp only [Int.toNat_natCast]; rw [e7]; dsimp only [Option.toList_some, Option.toList_none, List.cons_append, List.nil_append]; refine ai_iadd ?_; refine ap_istore rfl ?_; refine ap_aload_n rfl ?_; refine ap_getR ow_48 rf_8_76 rfl rfl rfl ?_; refine ap_iload rfl ?_; refine ap_iload rfl ?_; refine ap_aload_n rfl ?_; refine ap_callv0 ow_48 rm_8_127 na_35 mc_35 ms_35 rfl rfl (Nat.le_of_ble_eq_true rfl) (Nat.le_of_ble_eq_true rfl) (Or.inr rfl) (Nat.zero_le _) (Nat.zero_le _) ?_; refine sp_35 ?_ hM'; dsimp only [Option.toList_some, Option.toList_none, List.cons_append, List.nil_append]
      refine ai_icgt rfl rfl (fun hb1 => ?_) (fun hb1 => ?_) ?_
      · refine ap_go kc_48_271 ?_
        refine ai_ldc2 (-1) ow_48 kl_8_64 rfl ?_; refine ap_nil ?_
        refine ap_go kc_48_274 ?_
        refine ai_lastore (n := 21) rfl rfl (by decide) ?_ ?_; refine ai_iinc rfl rfl ?_; refine ap_goto rfl ?_
        · first | exact am_weak (by first | exact am_le_0 | (repeat (first | exact am_le_0 | refine am_le_n ?_ | refine am_le_s ?_))) (ih (e + 1) ((e : Int) + 1) (am_up g 50 e (-1)) rfl (by omega) (fun a ha => (am_up_ne ha).trans (hg a ha)) (by rw [am_up_eq]; exact st _ (Or.inr ⟨by omega, rfl⟩))) | exact am_weak (by first | exact am_le_0 | (repeat (first | exact am_le_0 | refine am_le_n ?_ | refine am_le_s ?_))) (ih (e + 1) ((e : Int) + 1) (am_up g 50 e _) rfl (by omega) (fun a ha => (am_up_ne ha).trans (hg a ha)) (by rw [am_up_eq]; exact st _ (Or.inl ⟨by omega, by omega, rfl⟩)))
        all_goals (omega)
      · refine ap_go kc_48_243 ?_
        refine ap_aload_n rfl ?_; refine ap_getR ow_48 rf_8_76 rfl rfl rfl ?_; refine ap_iload rfl ?_; refine ai_laload (n := 21) rfl rfl (by decide) ?_ ?_; refine ai_lconst 0 rfl ?_
        refine ai_lclt rfl rfl (fun hb2 => ?_) (fun hb2 => ?_) ?_
        · refine ap_go kc_48_271 ?_
          refine ai_ldc2 (-1) ow_48 kl_8_64 rfl ?_; refine ap_nil ?_
          refine ap_go kc_48_274 ?_
          refine ai_lastore (n := 21) rfl rfl (by decide) ?_ ?_; refine ai_iinc rfl rfl ?_; refine ap_goto rfl ?_
          · first | exact am_weak (by first | exact am_le_0 | (repeat (first | exact am_le_0 | refine am_le_n ?_ | refine am_le_s ?_))) (ih (e + 1) ((e : Int) + 1) (am_up g 50 e (-1)) rfl (by omega) (fun a ha => (am_up_ne ha).trans (hg a ha)) (by rw [am_up_eq]; exact st _ (Or.inr ⟨by omega, rfl⟩))) | exact am_weak (by first | exact am_le_0 | (repeat (first | exact am_le_0 | refine am_le_n ?_ | refine am_le_s ?_))) (ih (e + 1) ((e : Int) + 1) (am_up g 50 e _) rfl (by omega) (fun a ha => (am_up_ne ha).trans (hg a ha)) (by rw [am_up_eq]; exact st _ (Or.inl ⟨by omega, by omega, rfl⟩)))
          all_goals (omega)
        · refine ap_go kc_48_255 ?_
          refine ap_aload_n rfl ?_; refine ap_getR ow_48 rf_8_76 rfl rfl rfl ?_; refine ap_iload rfl ?_; refine ai_laload (n := 21) rfl rfl (by decide) ?_ ?_; refine ap_aload_n rfl ?_; refine ap_iload_n rfl ?_; refine ap_callv0 ow_48 rm_8_120 na_33 mc_33 ms_33 rfl rfl (Nat.le_of_ble_eq_true rfl) (Nat.le_of_ble_eq_true rfl) (Or.inr rfl) (Nat.zero_le _) (Nat.zero_le _) ?_; refine sp_33 ?_ hM' ?_; dsimp only [Int.toNat_natCast]; rw [e8]; dsimp only [Option.toList_some, Option.toList_none, List.cons_append, List.nil_append]; refine ai_ladd ?_; refine ap_goto rfl ?_
          · refine ap_go kc_48_274 ?_
            refine ai_lastore (n := 21) rfl rfl (by decide) ?_ ?_; refine ai_iinc rfl rfl ?_; refine ap_goto rfl ?_
            · first | exact am_weak (by first | exact am_le_0 | (repeat (first | exact am_le_0 | refine am_le_n ?_ | refine am_le_s ?_))) (ih (e + 1) ((e : Int) + 1) (am_up g 50 e (-1)) rfl (by omega) (fun a ha => (am_up_ne ha).trans (hg a ha)) (by rw [am_up_eq]; exact st _ (Or.inr ⟨by omega, rfl⟩))) | exact am_weak (by first | exact am_le_0 | (repeat (first | exact am_le_0 | refine am_le_n ?_ | refine am_le_s ?_))) (ih (e + 1) ((e : Int) + 1) (am_up g 50 e _) rfl (by omega) (fun a ha => (am_up_ne ha).trans (hg a ha)) (by rw [am_up_eq]; exact st _ (Or.inl ⟨by omega, by omega, rfl⟩)))
            all_goals (omega)
          all_goals (omega)
        all_goals (omega)
      all_goals (omega)
    all_goals (omega)
theorem lp_48l {d L : Nat} {sw : Bool} {Q : Option Value → am_H → Prop} {f0 g0 f g : Nat → Nat → Int} {n : Nat} {h : Nat → Int} (hM : MOk f0 g0) (hn : n < 4096) (hH : HB f0 n h) (hR : RR n h (g 50)) (hG : Gm f0 g0 f g) (K : Q (some (.long (lZ (if 2305843009213693951 ≤ lsZ h 21 then -1 else lsZ h 21 / 4096)))) (53, sh_lt L, iH f, jH g, sh_rt sw)) : ∀ (k e : Nat) (x l : Int), x = (e : Int) → (toZ f0).toNat + 1 = e + k → rlZ n (lsZ h e) l → am_Wp (am_call (d + 1)) 48 Q 293 [some (.ref 31), some (.long (lZ l)), none, some (.int (iZ x)), none, none, none, none] [] (53, sh_lt L, iH f, jH g, sh_rt sw) (0, 0) := by
  intro k
  have h20 := toZ_in f0
  have e6 := Gm_to hG
  have hM' := Gm_MOk hG hM
  induction k with
  | zero =>
    intro e x l hx hk hl
    subst hx
    have hl' := hl
    have hk' : e = (toZ f0).toNat + 1 := by omega
    rw [hk', ls_end hH] at hl'
    unfold rlZ at hl'
    refine ap_go kc_48_293 ?_
    refine ap_iload_n rfl ?_; refine ap_aload_n rfl ?_; refine ap_callv0 ow_48 rm_8_127 na_35 mc_35 ms_35 rfl rfl (Nat.le_of_ble_eq_true rfl) (Nat.le_of_ble_eq_true rfl) (Or.inr rfl) (Nat.zero_le _) (Nat.zero_le _) ?_; refine sp_35 ?_ hM'; dsimp only [Option.toList_some, Option.toList_none, List.cons_append, List.nil_append]
    refine ai_icgt rfl rfl (fun hb0 => ?_) (fun hb0 => ?_) ?_
    · refine ap_go kc_48_346 ?_
      refine ap_lload_n rfl ?_; refine ap_lret rfl ?_
      refine sql K ?_; split <;> omega
    · exfalso; omega
    all_goals (omega)
  | succ k ih =>
    intro e x l hx hk hl
    subst hx
    have r1 := RR_in hR (e := e) (by omega)
    have st := ls_st (by omega) hR (e := e) (by omega) hl
    have ex : g 50 ((e : Nat) : Int).toNat = g 50 e := rfl
    have hl2 : -1 ≤ l ∧ l < 562949953421312 := by unfold rlZ at hl; omega
    refine ap_go kc_48_293 ?_
    refine ap_iload_n rfl ?_; refine ap_aload_n rfl ?_; refine ap_callv0 ow_48 rm_8_127 na_35 mc_35 ms_35 rfl rfl (Nat.le_of_ble_eq_true rfl) (Nat.le_of_ble_eq_true rfl) (Or.inr rfl) (Nat.zero_le _) (Nat.zero_le _) ?_; refine sp_35 ?_ hM'; dsimp only [Option.toList_some, Option.toList_none, List.cons_append, List.nil_append]
    refine ai_icgt rfl rfl (fun hb0 => ?_) (fun hb0 => ?_) ?_
    · exfalso; omega
    · refine ap_go kc_48_301 ?_
      refine ap_aload_n rfl ?_; refine ap_getR ow_48 rf_8_76 rfl rfl rfl ?_; refine ap_iload_n rfl ?_; refine ai_laload (n := 21) rfl rfl (by decide) ?_ ?_; refine ai_lconst 0 rfl ?_
      refine ai_lclt rfl rfl (fun hb1 => ?_) (fun hb1 => ?_) ?_
      · refine ap_go kc_48_338 ?_
        refine ap_lload_n rfl ?_; refine ap_nil ?_
        refine ap_go kc_48_339 ?_
        refine ap_lstore_n rfl ?_; refine ai_iinc rfl rfl ?_; refine ap_goto rfl ?_
        first | exact am_weak (by first | exact am_le_0 | (repeat (first | exact am_le_0 | refine am_le_n ?_ | refine am_le_s ?_))) (ih (e + 1) ((e : Int) + 1) l rfl (by omega) (by rw [if_neg (by omega)] at st; exact st)) | exact am_weak (by first | exact am_le_0 | (repeat (first | exact am_le_0 | refine am_le_n ?_ | refine am_le_s ?_))) (ih (e + 1) ((e : Int) + 1) (g 50 e) rfl (by omega) (by rw [if_pos (by omega)] at st; exact st))
      · refine ap_go kc_48_312 ?_
        refine ap_lload_n rfl ?_; refine ai_lconst 0 rfl ?_
        refine ai_lclt rfl rfl (fun hb2 => ?_) (fun hb2 => ?_) ?_
        · refine ap_go kc_48_329 ?_
          refine ap_aload_n rfl ?_; refine ap_getR ow_48 rf_8_76 rfl rfl rfl ?_; refine ap_iload_n rfl ?_; refine ai_laload (n := 21) rfl rfl (by decide) ?_ ?_; refine ap_goto rfl ?_
          · refine ap_go kc_48_339 ?_
            refine ap_lstore_n rfl ?_; refine ai_iinc rfl rfl ?_; refine ap_goto rfl ?_
            first | exact am_weak (by first | exact am_le_0 | (repeat (first | exact am_le_0 | refine am_le_n ?_ | refine am_le_s ?_))) (ih (e + 1) ((e : Int) + 1) l rfl (by omega) (by rw [if_neg (by omega)] at st; exact st)) | exact am_weak (by first | exact am_le_0 | (repeat (first | exact am_le_0 | refine am_le_n ?_ | refine am_le_s ?_))) (ih (e + 1) ((e : Int) + 1) (g 50 e) rfl (by omega) (by rw [if_pos (by omega)] at st; exact st))
          all_goals (omega)
        · refine ap_go kc_48_318 ?_
          refine ap_aload_n rfl ?_; refine ap_getR ow_48 rf_8_76 rfl rfl rfl ?_; refine ap_iload_n rfl ?_; refine ai_laload (n := 21) rfl rfl (by decide) ?_ ?_; refine ap_lload_n rfl ?_
          refine ai_lcge rfl rfl (fun hb3 => ?_) (fun hb3 => ?_) ?_
          · refine ap_go kc_48_338 ?_
            refine ap_lload_n rfl ?_; refine ap_nil ?_
            refine ap_go kc_48_339 ?_
            refine ap_lstore_n rfl ?_; refine ai_iinc rfl rfl ?_; refine ap_goto rfl ?_
            first | exact am_weak (by first | exact am_le_0 | (repeat (first | exact am_le_0 | refine am_le_n ?_ | refine am_le_s ?_))) (ih (e + 1) ((e : Int) + 1) l rfl (by omega) (by rw [if_neg (by omega)] at st; exact st)) | exact am_weak (by first | exact am_le_0 | (repeat (first | exact am_le_0 | refine am_le_n ?_ | refine am_le_s ?_))) (ih (e + 1) ((e : Int) + 1) (g 50 e) rfl (by omega) (by rw [if_pos (by omega)] at st; exact st))
          · refine ap_go kc_48_329 ?_
            refine ap_aload_n rfl ?_; refine ap_getR ow_48 rf_8_76 rfl rfl rfl ?_; refine ap_iload_n rfl ?_; refine ai_laload (n := 21) rfl rfl (by decide) ?_ ?_; refine ap_goto rfl ?_
            · refine ap_go kc_48_339 ?_
              refine ap_lstore_n rfl ?_; refine ai_iinc rfl rfl ?_; refine ap_goto rfl ?_
              first | exact am_weak (by first | exact am_le_0 | (repeat (first | exact am_le_0 | refine am_le_n ?_ | refine am_le_s ?_))) (ih (e + 1) ((e : Int) + 1) l rfl (by omega) (by rw [if_neg (by omega)] at st; exact st)) | exact am_weak (by first | exact am_le_0 | (repeat (first | exact am_le_0 | refine am_le_n ?_ | refine am_le_s ?_))) (ih (e + 1) ((e : Int) + 1) (g 50 e) rfl (by omega) (by rw [if_pos (by omega)] at st; exact st))
            all_goals (omega)
          all_goals (omega)
        all_goals (omega)
      all_goals (omega)
    all_goals (omega)
