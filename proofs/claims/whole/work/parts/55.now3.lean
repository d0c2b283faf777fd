/-! THE REFERENCE: costNow(), whole; replan() -/
theorem lp_48 {d L : Nat} {sw : Bool} {Q : Option Value → am_H → Prop} {f0 g0 f gb : Nat → Nat → Int} (hM : MOk f0 g0) (hG : Gm f0 g0 f gb) {n : Nat} (hn : f 31 23 = (n : Int)) (hn2 : n ≤ 2600) (hch : chO f0 (f 47) n) (K : ∀ g v, (∀ a, a ≠ 50 → g a = gb a) → TN f0 g0 (f 47) n v → Q (some (.long (lZ v))) (53, sh_lt L, iH f, jH g, sh_rt sw)) : ∀ (k i : Nat) (x : Int) (g : Nat → Nat → Int), x = (i : Int) → n = i + k → (∀ a, a ≠ 50 → g a = gb a) → tnO f0 g0 (f 47) i → HB f0 i (HW f0 g0 (f 47) i) → RR i (HW f0 g0 (f 47) i) (g 50) → am_Wp (am_call (d + 1)) 48 Q 37 [some (.ref 31), some (.int (iZ x)), none, none, none, none, none, none] [] (53, sh_lt L, iH f, jH g, sh_rt sw) (0, 0) := by
  intro k
  have m5 := hM.1.2.1
  have h20 := toZ_in f0
  induction k with
  | zero =>
    intro i x g hx hk hg ho hH hR
    subst hx
    have en : n = i := by omega
    subst en
    have hKn := K g _ hg ⟨fun _ => rfl, fun z => absurd ho z⟩
    refine ap_go kc_48_37 ?_
    refine ap_iload_n rfl ?_; refine ap_aload_n rfl ?_; refine ai_getI ow_48 rf_8_173 rfl rfl ?_
    refine ai_icge rfl rfl (fun hb0 => ?_) (fun hb0 => ?_) ?_
    · refine ap_go kc_48_287 ?_
      refine ai_ldc2 (-1) ow_48 kl_8_64 rfl ?_; refine ap_lstore_n rfl ?_; refine ai_iconst ?_; refine ap_istore_n rfl ?_; refine ap_nil ?_
      exact am_weak (by first | exact am_le_0 | (repeat (first | exact am_le_0 | refine am_le_n ?_ | refine am_le_s ?_))) (lp_48l hM (by omega) hH hR (Gm_g hG hg) hKn ((toZ f0).toNat + 1) 0 0 (-1) rfl (by omega) (Or.inl ⟨rfl, rfl⟩))
    · exfalso; omega
    all_goals (omega)
  | succ k ih =>
    intro i x g hx hk hg ho hH hR
    subst hx
    obtain ⟨c1, c2, c3⟩ := hch i (by omega)
    obtain ⟨t, et⟩ : ∃ t : Nat, f 47 i = (t : Int) := ⟨(f 47 i).toNat, by omega⟩
    rw [et, Int.toNat_natCast] at c3
    rw [et] at c1 c2
    have hG' := Gm_g hG hg
    have hM' := Gm_MOk hG' hM
    have e8 := Gm_pr hG' t
    have hpr := prZ_in hM t
    have e35 : f 35 t = plZ f0 (sP (f 47) i) := by rw [hG.2.1.1]; exact c3
    have hpl := plZ_in hM (sP (f 47) i)
    have hsP : sP (f 47) i ≤ 120 := by
      cases i with
      | zero => exact Nat.zero_le _
      | succ j =>
        have := hch j (by omega)
        show (f 47 j).toNat ≤ 120
        omega
    have hbar := hM.2.1.2.2.2 (121 * sP (f 47) i + t)
    have e42 : f 42 = f0 42 := hG.2.1.2.2.2
    rw [← e42] at hbar
    have hno : ¬ mfZ f0 g0 (sP (f 47) i) t → TN f0 g0 (f 47) n (-1) := fun z => ⟨fun y => absurd (by have := y i (by omega); rw [et] at this; exact this) z, fun _ => rfl⟩
    have hHW : HW f0 g0 (f 47) (i + 1) = drZ (neZ f0 t).toNat (wZ f0 g0 t) (chZ (uZ f0 g0 (plZ f0 (sP (f 47) i)).toNat) (HW f0 g0 (f 47) i)) := by
      show drZ (neZ f0 (f 47 i).toNat).toNat (wZ f0 g0 (f 47 i).toNat) _ = _
      rw [et]; rfl
    have J206 : mfZ f0 g0 (sP (f 47) i) t → ∀ g, (∀ a, a ≠ 50 → g a = gb a) → RR i (chZ (uZ f0 g0 (plZ f0 (sP (f 47) i)).toNat) (HW f0 g0 (f 47) i)) (g 50) → am_Wp (am_call (d + 1)) 48 Q 206 [some (.ref 31), some (.int (iZ (i : Int))), some (.int (iZ (t : Int))), none, none, none, none, none] [] (53, sh_lt L, iH f, jH g, sh_rt sw) (0, 0) := by
      intro hmf g hg hR
      have hHC := HB_HC hM (plZ f0 (sP (f 47) i)).toNat hH
      have J281 : ∀ g, (∀ a, a ≠ 50 → g a = gb a) → RR (i + 1) (drZ (neZ f0 t).toNat (wZ f0 g0 t) (chZ (uZ f0 g0 (plZ f0 (sP (f 47) i)).toNat) (HW f0 g0 (f 47) i))) (g 50) → am_Wp (am_call (d + 1)) 48 Q 281 [some (.ref 31), some (.int (iZ (i : Int))), none, none, none, none, none, none] [] (53, sh_lt L, iH f, jH g, sh_rt sw) (0, 0) := by
        intro g hg hR
        rw [← hHW] at hR
        refine ap_go kc_48_281 ?_
        refine ai_iinc rfl rfl ?_; refine ap_goto rfl ?_
        exact am_weak (by first | exact am_le_0 | (repeat (first | exact am_le_0 | refine am_le_n ?_ | refine am_le_s ?_))) (ih (i + 1) ((i : Int) + 1) g rfl (by omega) hg (fun j hj => by by_cases z : j = i; (subst z; rw [et]; exact hmf); exact ho j (by omega)) (by rw [hHW]; exact HC_HB hM (by omega) hmf.2.1 hHC) hR)
      refine ap_go kc_48_206 ?_
      refine ai_iconst ?_; refine ap_istore rfl ?_; refine ap_nil ?_
      exact am_weak (by first | exact am_le_0 | (repeat (first | exact am_le_0 | refine am_le_n ?_ | refine am_le_s ?_))) (lp_48d hM (by omega) hHC (by omega) hmf.2.1 hG J281 ((toZ f0).toNat + 1) 0 0 g rfl (by omega) hg (fun e he => ⟨fun z => absurd z (Nat.not_lt_zero e), fun _ => hR e he⟩))
    have J101 : mfZ f0 g0 (sP (f 47) i) t → am_Wp (am_call (d + 1)) 48 Q 101 [some (.ref 31), some (.int (iZ (i : Int))), some (.int (iZ (t : Int))), none, none, none, none, none] [] (53, sh_lt L, iH f, jH g, sh_rt sw) (0, 0) := by
      intro hmf
      have J116 : am_Wp (am_call (d + 1)) 48 Q 116 [some (.ref 31), some (.int (iZ (i : Int))), some (.int (iZ (t : Int))), none, some (.long (lZ (unZ f0 g0 (plZ f0 (sP (f 47) i)).toNat))), none, some (.int (iZ 1)), none] [] (53, sh_lt L, iH f, jH g, sh_rt sw) (0, 0) := by
        by_cases hu : uZ f0 g0 (plZ f0 (sP (f 47) i)).toNat = 0
        · have hun : unZ f0 g0 (plZ f0 (sP (f 47) i)).toNat < 0 := by
            apply Classical.byContradiction
            intro z
            have := unZ_pos hM (n := (plZ f0 (sP (f 47) i)).toNat) (by omega)
            unfold uZ at hu
            rw [if_neg z] at hu
            omega
          have hun2 := unZ_in hM (plZ f0 (sP (f 47) i)).toNat
          have e6 := Gm_to hG'
          have J := J206 hmf g hg (by rw [hu]; exact fun e he => by rw [chZ_0]; exact hR e he)
          refine ap_go kc_48_116 ?_
          refine ap_iload rfl ?_; refine ap_aload_n rfl ?_; refine ap_callv0 ow_48 rm_8_127 na_35 mc_35 ms_35 rfl rfl (Nat.le_of_ble_eq_true rfl) (Nat.le_of_ble_eq_true rfl) (Or.inr rfl) (Nat.zero_le _) (Nat.zero_le _) ?_; refine sp_35 ?_ hM'; dsimp only [Option.toList_some, Option.toList_none, List.cons_append, List.nil_append]
          refine ai_icgt rfl rfl (fun hb0 => ?_) (fun hb0 => ?_) ?_
          · exact am_weak (by first | exact am_le_0 | (repeat (first | exact am_le_0 | refine am_le_n ?_ | refine am_le_s ?_))) J
          · refine ap_go kc_48_125 ?_
            refine ap_lload rfl ?_; refine ai_lconst 0 rfl ?_
            refine ai_lclt rfl rfl (fun hb1 => ?_) (fun hb1 => ?_) ?_
            · exact am_weak (by first | exact am_le_0 | (repeat (first | exact am_le_0 | refine am_le_n ?_ | refine am_le_s ?_))) J
            · exfalso; omega
            all_goals (omega)
          all_goals (omega)
        · exact lp_48c hM (by omega) hH hu hG (J206 hmf) 20 0 1 g rfl rfl hg (fun e he => by
            have q := hR e he
            unfold chP
            by_cases z : e ≤ 0
            · rw [if_pos z, show e = 0 by omega]
              rw [show e = 0 by omega] at q
              exact q
            · rw [if_neg z]; exact q)
      have e35' : f 35 ((t : Nat) : Int).toNat = plZ f0 (sP (f 47) i) := e35
      refine ap_go kc_48_101 ?_
      refine ap_aload_n rfl ?_; refine ap_aload_n rfl ?_; refine ap_getR ow_48 rf_8_19 rfl rfl rfl ?_; refine ap_iload_n rfl ?_; refine ai_iaload (n := 121) rfl rfl (by decide) ?_ ?_
      rw [e35']
      refine ap_callv0 ow_48 rm_8_134 na_34 mc_34 ms_34 rfl rfl (Nat.le_of_ble_eq_true rfl) (Nat.le_of_ble_eq_true rfl) (Or.inr rfl) (Nat.zero_le _) (Nat.zero_le _) ?_; refine sp_34 ?_ hM' ?_; rw [Gm_un hG']; dsimp only [Option.toList_some, Option.toList_none, List.cons_append, List.nil_append]; refine ap_lstore rfl ?_; refine ai_iconst ?_; refine ap_istore rfl ?_; refine ap_nil ?_
      · exact am_weak (by first | exact am_le_0 | (repeat (first | exact am_le_0 | refine am_le_n ?_ | refine am_le_s ?_))) J116
      all_goals (omega)
    have J68 : ∀ sI : Int, sI = ((sP (f 47) i : Nat) : Int) → am_Wp (am_call (d + 1)) 48 Q 68 [some (.ref 31), some (.int (iZ (i : Int))), some (.int (iZ (t : Int))), none, none, none, none, none] [.int (iZ sI)] (53, sh_lt L, iH f, jH g, sh_rt sw) (0, 0) := by
      intro sI es
      subst es
      have ei : (121 * ((sP (f 47) i : Nat) : Int) + t).toNat = 121 * sP (f 47) i + t := by omega
      have mf : 0 ≤ prZ f0 g0 t → (sP (f 47) i = 0 ∨ f 42 (121 * sP (f 47) i + t) = 0) → mfZ f0 g0 (sP (f 47) i) t := fun z1 z2 => ⟨c3, z1, by rw [← e42]; exact z2⟩
      have mf2 : mfZ f0 g0 (sP (f 47) i) t → 0 ≤ prZ f0 g0 t ∧ (sP (f 47) i = 0 ∨ f 42 (121 * sP (f 47) i + t) = 0) := fun z => ⟨z.2.1, by rw [e42]; exact z.2.2⟩
      rw [← ei] at hbar mf mf2
      refine ap_go kc_48_68 ?_
      refine ap_istore_n rfl ?_; refine ap_aload_n rfl ?_; refine ap_iload_n rfl ?_; refine ap_callv0 ow_48 rm_8_120 na_33 mc_33 ms_33 rfl rfl (Nat.le_of_ble_eq_true rfl) (Nat.le_of_ble_eq_true rfl) (Or.inr rfl) (Nat.zero_le _) (Nat.zero_le _) ?_; refine sp_33 ?_ hM' ?_; dsimp only [Int.toNat_natCast]; rw [e8]; dsimp only [Option.toList_some, Option.toList_none, List.cons_append, List.nil_append]; refine ai_lconst 0 rfl ?_
      refine ai_lclt rfl rfl (fun hb0 => ?_) (fun hb0 => ?_) ?_
      · refine ap_go kc_48_97 ?_
        refine ai_ldc2 (-1) ow_48 kl_8_64 rfl ?_; refine ap_lret rfl ?_
        exact K g _ hg (hno (fun z => by have := mf2 z; omega))
      · refine ap_go kc_48_79 ?_
        refine ap_iload_n rfl ?_
        refine ai_ifle rfl rfl (fun hb1 => ?_) (fun hb1 => ?_) ?_
        · exact am_weak (by first | exact am_le_0 | (repeat (first | exact am_le_0 | refine am_le_n ?_ | refine am_le_s ?_))) (J101 (mf (by omega) (by omega)))
        · refine ap_go kc_48_83 ?_
          refine ap_aload_n rfl ?_; refine ap_getR ow_48 rf_8_41 rfl rfl rfl ?_; refine ai_bipush (by decide) ?_; refine ap_iload_n rfl ?_; refine ai_imul ?_; refine ap_iload_n rfl ?_; refine ai_iadd ?_; refine ai_baload (n := 14641) rfl rfl (by decide) ?_ ?_
          refine ai_ifeq rfl rfl (fun hb2 => ?_) (fun hb2 => ?_) ?_
          · exact am_weak (by first | exact am_le_0 | (repeat (first | exact am_le_0 | refine am_le_n ?_ | refine am_le_s ?_))) (J101 (mf (by omega) (by omega)))
          · refine ap_go kc_48_97 ?_
            refine ai_ldc2 (-1) ow_48 kl_8_64 rfl ?_; refine ap_lret rfl ?_
            exact K g _ hg (hno (fun z => by have := mf2 z; omega))
          all_goals (omega)
        all_goals (omega)
      all_goals (omega)
    have et' : f 47 ((i : Nat) : Int).toNat = (t : Int) := et
    refine ap_go kc_48_37 ?_
    refine ap_iload_n rfl ?_; refine ap_aload_n rfl ?_; refine ai_getI ow_48 rf_8_173 rfl rfl ?_
    refine ai_icge rfl rfl (fun hb0 => ?_) (fun hb0 => ?_) ?_
    · exfalso; omega
    · refine ap_go kc_48_45 ?_
      refine ap_aload_n rfl ?_; refine ap_getR ow_48 rf_8_61 rfl rfl rfl ?_; refine ap_iload_n rfl ?_; refine ai_iaload (n := 2600) rfl rfl (by decide) ?_ ?_
      rw [et']
      refine ap_istore_n rfl ?_; refine ap_iload_n rfl ?_
      refine ai_ifne rfl rfl (fun hb1 => ?_) (fun hb1 => ?_) ?_
      · refine ap_go kc_48_60 ?_
        refine ap_aload_n rfl ?_; refine ap_getR ow_48 rf_8_61 rfl rfl rfl ?_; refine ap_iload_n rfl ?_; refine ai_iconst ?_; refine ai_isub ?_; refine ai_iaload (n := 2600) rfl rfl (by decide) ?_ ?_; refine ap_nil ?_
        · first | exact am_weak (by first | exact am_le_0 | (repeat (first | exact am_le_0 | refine am_le_n ?_ | refine am_le_s ?_))) (J68 0 (by rw [show i = 0 by omega]; rfl)) | exact am_weak (by first | exact am_le_0 | (repeat (first | exact am_le_0 | refine am_le_n ?_ | refine am_le_s ?_))) (J68 _ (by cases i with | zero => omega | succ j => have := hch j (by omega); show f 47 (((j + 1 : Nat) : Int) - 1).toNat = (((f 47 j).toNat : Nat) : Int); rw [show (((j + 1 : Nat) : Int) - 1).toNat = j by omega]; omega))
        all_goals (omega)
      · refine ap_go kc_48_56 ?_
        refine ai_iconst ?_; refine ap_goto rfl ?_
        first | exact am_weak (by first | exact am_le_0 | (repeat (first | exact am_le_0 | refine am_le_n ?_ | refine am_le_s ?_))) (J68 0 (by rw [show i = 0 by omega]; rfl)) | exact am_weak (by first | exact am_le_0 | (repeat (first | exact am_le_0 | refine am_le_n ?_ | refine am_le_s ?_))) (J68 _ (by cases i with | zero => omega | succ j => have := hch j (by omega); show f 47 (((j + 1 : Nat) : Int) - 1).toNat = (((f 47 j).toNat : Nat) : Int); rw [show (((j + 1 : Nat) : Int) - 1).toNat = j by omega]; omega))
      all_goals (omega)
    all_goals (omega)
theorem lp_48i {d L : Nat} {sw : Bool} {Q : Option Value → am_H → Prop} {f0 g0 f gb : Nat → Nat → Int} (hM : MOk f0 g0) (h18 : f0 31 18 ≤ toZ f0) (hG : Gm f0 g0 f gb) {n : Nat} (hn : f 31 23 = (n : Int)) (hn2 : n ≤ 2600) (hch : chO f0 (f 47) n) (K : ∀ g v, (∀ a, a ≠ 50 → g a = gb a) → TN f0 g0 (f 47) n v → Q (some (.long (lZ v))) (53, sh_lt L, iH f, jH g, sh_rt sw)) : ∀ (k e : Nat) (x : Int) (g : Nat → Nat → Int), x = (e : Int) → 21 = e + k → (∀ a, a ≠ 50 → g a = gb a) → (∀ j, j < e → rlZ 0 (sZ f0 j) (g 50 j)) → am_Wp (am_call (d + 1)) 48 Q 2 [some (.ref 31), some (.int (iZ x)), none, none, none, none, none, none] [] (53, sh_lt L, iH f, jH g, sh_rt sw) (0, 0) := by
  intro k
  have e18 : f 31 18 = f0 31 18 := hG.1.2.2.2.2.2
  have h8 := hM.1.2.2.2.2.2
  induction k with
  | zero =>
    intro e x g hx hk hg hR
    subst hx
    refine ap_go kc_48_2 ?_
    refine ap_iload_n rfl ?_; refine ai_bipush (by decide) ?_
    refine ai_icge rfl rfl (fun hb0 => ?_) (fun hb0 => ?_) ?_
    · refine ap_go kc_48_35 ?_
      refine ai_iconst ?_; refine ap_istore_n rfl ?_; refine ap_nil ?_
      exact am_weak (by first | exact am_le_0 | (repeat (first | exact am_le_0 | refine am_le_n ?_ | refine am_le_s ?_))) (lp_48 hM hG hn hn2 hch K n 0 0 g rfl (by omega) hg (fun j hj => absurd hj (Nat.not_lt_zero j)) (HB_st hM h18) (fun j hj => hR j (by omega)))
    · exfalso; omega
    all_goals (omega)
  | succ k ih =>
    intro e x g hx hk hg hR
    subst hx
    have st : ∀ y : Int, rlZ 0 (sZ f0 e) y → ∀ j, j < e + 1 → rlZ 0 (sZ f0 j) (am_up g 50 e y 50 j) := by
      intro y hy j hj
      rw [am_up_eq]
      by_cases z : j = e
      · subst z; dsimp only; rw [if_pos rfl]; exact hy
      · dsimp only; rw [if_neg z]; exact hR j (by omega)
    refine ap_go kc_48_2 ?_
    refine ap_iload_n rfl ?_; refine ai_bipush (by decide) ?_
    refine ai_icge rfl rfl (fun hb0 => ?_) (fun hb0 => ?_) ?_
    · exfalso; omega
    · refine ap_go kc_48_8 ?_
      refine ap_aload_n rfl ?_; refine ap_getR ow_48 rf_8_76 rfl rfl rfl ?_; refine ap_iload_n rfl ?_; refine ap_iload_n rfl ?_; refine ap_aload_n rfl ?_; refine ai_getI ow_48 rf_8_145 rfl rfl ?_
      refine ai_icne rfl rfl (fun hb1 => ?_) (fun hb1 => ?_) ?_
      · refine ap_go kc_48_25 ?_
        refine ai_ldc2 (-1) ow_48 kl_8_64 rfl ?_; refine ap_nil ?_
        refine ap_go kc_48_28 ?_
        refine ai_lastore (n := 21) rfl rfl (by decide) ?_ ?_; refine ai_iinc rfl rfl ?_; refine ap_goto rfl ?_
        · first | exact am_weak (by first | exact am_le_0 | (repeat (first | exact am_le_0 | refine am_le_n ?_ | refine am_le_s ?_))) (ih (e + 1) ((e : Int) + 1) (am_up g 50 e 0) rfl (by omega) (fun a ha => (am_up_ne ha).trans (hg a ha)) (st 0 (by unfold sZ; rw [if_pos (by omega)]; exact Or.inr ⟨by decide, by decide, by decide⟩))) | exact am_weak (by first | exact am_le_0 | (repeat (first | exact am_le_0 | refine am_le_n ?_ | refine am_le_s ?_))) (ih (e + 1) ((e : Int) + 1) (am_up g 50 e (-1)) rfl (by omega) (fun a ha => (am_up_ne ha).trans (hg a ha)) (st (-1) (by unfold sZ; rw [if_neg (by omega)]; exact Or.inl ⟨rfl, rfl⟩)))
        all_goals (omega)
      · refine ap_go kc_48_21 ?_
        refine ai_lconst 0 rfl ?_; refine ap_goto rfl ?_
        refine ap_go kc_48_28 ?_
        refine ai_lastore (n := 21) rfl rfl (by decide) ?_ ?_; refine ai_iinc rfl rfl ?_; refine ap_goto rfl ?_
        · first | exact am_weak (by first | exact am_le_0 | (repeat (first | exact am_le_0 | refine am_le_n ?_ | refine am_le_s ?_))) (ih (e + 1) ((e : Int) + 1) (am_up g 50 e 0) rfl (by omega) (fun a ha => (am_up_ne ha).trans (hg a ha)) (st 0 (by unfold sZ; rw [if_pos (by omega)]; exact Or.inr ⟨by decide, by decide, by decide⟩))) | exact am_weak (by first | exact am_le_0 | (repeat (first | exact am_le_0 | refine am_le_n ?_ | refine am_le_s ?_))) (ih (e + 1) ((e : Int) + 1) (am_up g 50 e (-1)) rfl (by omega) (fun a ha => (am_up_ne ha).trans (hg a ha)) (st (-1) (by unfold sZ; rw [if_neg (by omega)]; exact Or.inl ⟨rfl, rfl⟩)))
        all_goals (omega)
      all_goals (omega)
    all_goals (omega)
theorem sp_48 {d L : Nat} {sw : Bool} {f g : Nat → Nat → Int} {Q : Option Value → am_H → Prop} {f0 g0 : Nat → Nat → Int} {n : Nat} (K : ∀ G v, (∀ a, a ≠ 50 → G a = g a) → TN f0 g0 (f 47) n v → Q (some (.long (lZ v))) (53, sh_lt L, iH f, jH G, sh_rt sw)) (hM : MOk f0 g0) (h18 : f0 31 18 ≤ toZ f0) (hG : Gm f0 g0 f g) (hn : f 31 23 = (n : Int)) (hn2 : n ≤ 2600) (hch : chO f0 (f 47) n) : am_call (d + 2) 48 [.ref 31] (53, sh_lt L, iH f, jH g, sh_rt sw) Q := by
  refine ap_call (by decide) (Nat.le_of_ble_eq_true rfl) rfl ?_
  refine ap_go kc_48_0 ?_
  refine ai_iconst ?_; refine ap_istore_n rfl ?_; refine ap_nil ?_
  exact am_weak (by first | exact am_le_0 | (repeat (first | exact am_le_0 | refine am_le_n ?_ | refine am_le_s ?_))) (lp_48i hM h18 hG hn hn2 hch K 21 0 0 g rfl rfl (fun _ _ => rfl) (fun j hj => absurd hj (Nat.not_lt_zero j)))
