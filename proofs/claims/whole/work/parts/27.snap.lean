/-! SNAPPING, in the class and in the reference -/
abbrev eX (f g : Nat → Nat → Int) (s : Nat) : Int := g 32 (f 36 s).toNat - g 32 (f 35 s).toNat
abbrev eY (f g : Nat → Nat → Int) (s : Nat) : Int := g 33 (f 36 s).toNat - g 33 (f 35 s).toNat
def sqmZ (px py dx dy qx qy : Int) : Int := if px * dx + py * dy ≤ 0 then px * px + py * py else if 0 ≤ qx * dx + qy * dy then qx * qx + qy * qy else (px * dy - py * dx) * (px * dy - py * dx) / (dx * dx + dy * dy)
/-- the nearest street so far, and its square: as the class, as the reference goes -/
def snC (fit : Nat → Bool) (sq : Nat → Int) : Nat → Int × Int
  | 0 => (0, 2501)
  | k + 1 => if fit (k + 1) = true ∧ sq (k + 1) < (snC fit sq k).2 then ((k + 1 : Nat), sq (k + 1)) else snC fit sq k
def snM (fit : Nat → Bool) (sq : Nat → Int) : Nat → Int × Int
  | 0 => (0, 0)
  | k + 1 => if (if fit (k + 1) = true then sq (k + 1) else 2501) ≤ 2500 ∧ ((snM fit sq k).1 = 0 ∨ (if fit (k + 1) = true then sq (k + 1) else 2501) < (snM fit sq k).2) then ((k + 1 : Nat), if fit (k + 1) = true then sq (k + 1) else 2501) else snM fit sq k
theorem sn_same {fit fit' : Nat → Bool} {sq sq' : Nat → Int} : ∀ n : Nat, (∀ k, 1 ≤ k → k ≤ n → fit k = fit' k ∧ sq k = sq' k) → (snC fit sq n).1 = (snM fit' sq' n).1 ∧ ((snM fit' sq' n).1 = 0 → (snC fit sq n).2 = 2501) ∧ (¬ (snM fit' sq' n).1 = 0 → (snC fit sq n).2 = (snM fit' sq' n).2 ∧ (snC fit sq n).2 ≤ 2500)
  | 0, _ => ⟨rfl, fun _ => rfl, fun h => absurd rfl h⟩
  | n + 1, h => by
    obtain ⟨h1, h2, h3⟩ := sn_same n (fun k a b => h k a (by omega))
    obtain ⟨e1, e2⟩ := h (n + 1) (by omega) (Nat.le_refl _)
    simp only [snC, snM, e1, e2]
    cases hq : fit' (n + 1) with
    | false =>
      simp only [Bool.false_eq_true, false_and, if_false]
      rw [if_neg (by omega)]
      exact ⟨h1, h2, h3⟩
    | true =>
      simp only [true_and, if_true]
      by_cases h0 : (snM fit' sq' n).1 = 0
      · have h2 := h2 h0
        by_cases hs : sq' (n + 1) < (snC fit sq n).2
        · rw [if_pos hs, if_pos (by omega)]
          exact ⟨rfl, fun z => by simp at z; omega, fun _ => ⟨rfl, by simp; omega⟩⟩
        · rw [if_neg hs, if_neg (by omega)]
          exact ⟨h1, fun _ => h2, h3⟩
      · have h3 := h3 h0
        by_cases hs : sq' (n + 1) < (snC fit sq n).2
        · rw [if_pos hs, if_pos (by omega)]
          exact ⟨rfl, fun z => by simp at z; omega, fun _ => ⟨rfl, by simp; omega⟩⟩
        · rw [if_neg hs, if_neg (by omega)]
          exact ⟨h1, h2, fun _ => h3⟩
theorem snC_in {fit : Nat → Bool} {sq : Nat → Int} (hs : ∀ k, lR (sq k)) : ∀ n : Nat, (0 ≤ (snC fit sq n).1 ∧ (snC fit sq n).1 ≤ n) ∧ lR (snC fit sq n).2
  | 0 => ⟨⟨Int.le_refl 0, Int.le_refl 0⟩, ⟨by simp [snC], by simp [snC]⟩⟩
  | n + 1 => by
    have := snC_in hs (fit := fit) n
    simp only [snC]
    split
    · exact ⟨⟨by simp; omega, by simp⟩, hs _⟩
    · exact ⟨⟨this.1.1, by omega⟩, this.2⟩
theorem snM_in {fit : Nat → Bool} {sq : Nat → Int} (hs : ∀ k, lR (sq k)) : ∀ n : Nat, (0 ≤ (snM fit sq n).1 ∧ (snM fit sq n).1 ≤ n) ∧ lR (snM fit sq n).2
  | 0 => ⟨⟨Int.le_refl 0, Int.le_refl 0⟩, ⟨by simp [snM], by simp [snM]⟩⟩
  | n + 1 => by
    have := snM_in hs (fit := fit) n
    have hq := hs (n + 1)
    simp only [snM]
    generalize hd : (if fit (n + 1) = true then sq (n + 1) else 2501) = dd
    have hdd : lR dd := by
      rw [← hd]
      split
      · exact hq
      · omega
    split
    · exact ⟨⟨by simp; omega, by simp⟩, hdd⟩
    · exact ⟨⟨this.1.1, by omega⟩, this.2⟩

theorem sp_54 {d L : Nat} {sw : Bool} {f g : Nat → Nat → Int} {Q : Option Value → am_H → Prop} {x y : Int} (K : Q (some (.int (iZ (octZ x y)))) (53, sh_lt L, iH f, jH g, sh_rt sw)) (hx : -100000 ≤ x ∧ x ≤ 100000) (hy : -100000 ≤ y ∧ y ≤ 100000) : am_call (d + 1) 54 [.long (lZ x), .long (lZ y)] (53, sh_lt L, iH f, jH g, sh_rt sw) Q := by
  refine ap_call (by decide) (Nat.le_of_ble_eq_true rfl) rfl ?_
  refine ap_go kc_54_0 ?_
  refine ap_lload_n rfl ?_; refine ai_lconst 0 rfl ?_
  refine ai_lcne rfl rfl (fun hb0 => ?_) (fun hb0 => ?_) ?_
  · refine ap_go kc_54_14 ?_
    refine ap_lload_n rfl ?_; refine ai_lconst 0 rfl ?_
    refine ai_lcle rfl rfl (fun hb1 => ?_) (fun hb1 => ?_) ?_
    · refine ap_go kc_54_38 ?_
      refine ap_lload_n rfl ?_; refine ai_lconst 0 rfl ?_
      refine ai_lcgt rfl rfl (fun hb2 => ?_) (fun hb2 => ?_) ?_
      · refine ap_go kc_54_63 ?_
        refine ap_lload_n rfl ?_; refine ai_lconst 0 rfl ?_
        refine ai_lcge rfl rfl (fun hb3 => ?_) (fun hb3 => ?_) ?_
        · refine ap_go kc_54_83 ?_
          refine ap_lload_n rfl ?_; refine ap_lload_n rfl ?_; refine ai_lneg ?_
          refine ai_lcge rfl rfl (fun hb4 => ?_) (fun hb4 => ?_) ?_
          · refine ap_go kc_54_95 ?_
            refine ai_bipush (by decide) ?_; refine ap_nil ?_
            refine ap_go kc_54_97 ?_
            refine ap_iret rfl ?_
            refine sq K ?_; unfold octZ; (repeat' split) <;> omega
          · refine ap_go kc_54_90 ?_
            refine ai_bipush (by decide) ?_; refine ap_goto rfl ?_
            refine ap_go kc_54_97 ?_
            refine ap_iret rfl ?_
            refine sq K ?_; unfold octZ; (repeat' split) <;> omega
          all_goals (omega)
        · refine ap_go kc_54_69 ?_
          refine ap_lload_n rfl ?_; refine ai_lneg ?_; refine ap_lload_n rfl ?_; refine ai_lneg ?_
          refine ai_lcge rfl rfl (fun hb5 => ?_) (fun hb5 => ?_) ?_
          · refine ap_go kc_54_81 ?_
            refine ai_iconst ?_; refine ap_nil ?_
            refine ap_go kc_54_82 ?_
            refine ap_iret rfl ?_
            refine sq K ?_; unfold octZ; (repeat' split) <;> omega
          · refine ap_go kc_54_77 ?_
            refine ai_iconst ?_; refine ap_goto rfl ?_
            refine ap_go kc_54_82 ?_
            refine ap_iret rfl ?_
            refine sq K ?_; unfold octZ; (repeat' split) <;> omega
          all_goals (omega)
        all_goals (omega)
      · refine ap_go kc_54_44 ?_
        refine ap_lload_n rfl ?_; refine ai_lconst 0 rfl ?_
        refine ai_lcle rfl rfl (fun hb6 => ?_) (fun hb6 => ?_) ?_
        · refine ap_go kc_54_63 ?_
          refine ap_lload_n rfl ?_; refine ai_lconst 0 rfl ?_
          refine ai_lcge rfl rfl (fun hb7 => ?_) (fun hb7 => ?_) ?_
          · refine ap_go kc_54_83 ?_
            refine ap_lload_n rfl ?_; refine ap_lload_n rfl ?_; refine ai_lneg ?_
            refine ai_lcge rfl rfl (fun hb8 => ?_) (fun hb8 => ?_) ?_
            · refine ap_go kc_54_95 ?_
              refine ai_bipush (by decide) ?_; refine ap_nil ?_
              refine ap_go kc_54_97 ?_
              refine ap_iret rfl ?_
              refine sq K ?_; unfold octZ; (repeat' split) <;> omega
            · refine ap_go kc_54_90 ?_
              refine ai_bipush (by decide) ?_; refine ap_goto rfl ?_
              refine ap_go kc_54_97 ?_
              refine ap_iret rfl ?_
              refine sq K ?_; unfold octZ; (repeat' split) <;> omega
            all_goals (omega)
          · refine ap_go kc_54_69 ?_
            refine ap_lload_n rfl ?_; refine ai_lneg ?_; refine ap_lload_n rfl ?_; refine ai_lneg ?_
            refine ai_lcge rfl rfl (fun hb9 => ?_) (fun hb9 => ?_) ?_
            · refine ap_go kc_54_81 ?_
              refine ai_iconst ?_; refine ap_nil ?_
              refine ap_go kc_54_82 ?_
              refine ap_iret rfl ?_
              refine sq K ?_; unfold octZ; (repeat' split) <;> omega
            · refine ap_go kc_54_77 ?_
              refine ai_iconst ?_; refine ap_goto rfl ?_
              refine ap_go kc_54_82 ?_
              refine ap_iret rfl ?_
              refine sq K ?_; unfold octZ; (repeat' split) <;> omega
            all_goals (omega)
          all_goals (omega)
        · refine ap_go kc_54_50 ?_
          refine ap_lload_n rfl ?_; refine ai_lneg ?_; refine ap_lload_n rfl ?_
          refine ai_lcge rfl rfl (fun hb10 => ?_) (fun hb10 => ?_) ?_
          · refine ap_go kc_54_61 ?_
            refine ai_iconst ?_; refine ap_nil ?_
            refine ap_go kc_54_62 ?_
            refine ap_iret rfl ?_
            refine sq K ?_; unfold octZ; (repeat' split) <;> omega
          · refine ap_go kc_54_57 ?_
            refine ai_iconst ?_; refine ap_goto rfl ?_
            refine ap_go kc_54_62 ?_
            refine ap_iret rfl ?_
            refine sq K ?_; unfold octZ; (repeat' split) <;> omega
          all_goals (omega)
        all_goals (omega)
      all_goals (omega)
    · refine ap_go kc_54_20 ?_
      refine ap_lload_n rfl ?_; refine ai_lconst 0 rfl ?_
      refine ai_lclt rfl rfl (fun hb11 => ?_) (fun hb11 => ?_) ?_
      · refine ap_go kc_54_38 ?_
        refine ap_lload_n rfl ?_; refine ai_lconst 0 rfl ?_
        refine ai_lcgt rfl rfl (fun hb12 => ?_) (fun hb12 => ?_) ?_
        · refine ap_go kc_54_63 ?_
          refine ap_lload_n rfl ?_; refine ai_lconst 0 rfl ?_
          refine ai_lcge rfl rfl (fun hb13 => ?_) (fun hb13 => ?_) ?_
          · refine ap_go kc_54_83 ?_
            refine ap_lload_n rfl ?_; refine ap_lload_n rfl ?_; refine ai_lneg ?_
            refine ai_lcge rfl rfl (fun hb14 => ?_) (fun hb14 => ?_) ?_
            · refine ap_go kc_54_95 ?_
              refine ai_bipush (by decide) ?_; refine ap_nil ?_
              refine ap_go kc_54_97 ?_
              refine ap_iret rfl ?_
              refine sq K ?_; unfold octZ; (repeat' split) <;> omega
            · refine ap_go kc_54_90 ?_
              refine ai_bipush (by decide) ?_; refine ap_goto rfl ?_
              refine ap_go kc_54_97 ?_
              refine ap_iret rfl ?_
              refine sq K ?_; unfold octZ; (repeat' split) <;> omega
            all_goals (omega)
          · refine ap_go kc_54_69 ?_
            refine ap_lload_n rfl ?_; refine ai_lneg ?_; refine ap_lload_n rfl ?_; refine ai_lneg ?_
            refine ai_lcge rfl rfl (fun hb15 => ?_) (fun hb15 => ?_) ?_
            · refine ap_go kc_54_81 ?_
              refine ai_iconst ?_; refine ap_nil ?_
              refine ap_go kc_54_82 ?_
              refine ap_iret rfl ?_
              refine sq K ?_; unfold octZ; (repeat' split) <;> omega
            · refine ap_go kc_54_77 ?_
              refine ai_iconst ?_; refine ap_goto rfl ?_
              refine ap_go kc_54_82 ?_
              refine ap_iret rfl ?_
              refine sq K ?_; unfold octZ; (repeat' split) <;> omega
            all_goals (omega)
          all_goals (omega)
        · refine ap_go kc_54_44 ?_
          refine ap_lload_n rfl ?_; refine ai_lconst 0 rfl ?_
          refine ai_lcle rfl rfl (fun hb16 => ?_) (fun hb16 => ?_) ?_
          · refine ap_go kc_54_63 ?_
            refine ap_lload_n rfl ?_; refine ai_lconst 0 rfl ?_
            refine ai_lcge rfl rfl (fun hb17 => ?_) (fun hb17 => ?_) ?_
            · refine ap_go kc_54_83 ?_
              refine ap_lload_n rfl ?_; refine ap_lload_n rfl ?_; refine ai_lneg ?_
              refine ai_lcge rfl rfl (fun hb18 => ?_) (fun hb18 => ?_) ?_
              · refine ap_go kc_54_95 ?_
                refine ai_bipush (by decide) ?_; refine ap_nil ?_
                refine ap_go kc_54_97 ?_
                refine ap_iret rfl ?_
                refine sq K ?_; unfold octZ; (repeat' split) <;> omega
              · refine ap_go kc_54_90 ?_
                refine ai_bipush (by decide) ?_; refine ap_goto rfl ?_
                refine ap_go kc_54_97 ?_
                refine ap_iret rfl ?_
                refine sq K ?_; unfold octZ; (repeat' split) <;> omega
              all_goals (omega)
            · refine ap_go kc_54_69 ?_
              refine ap_lload_n rfl ?_; refine ai_lneg ?_; refine ap_lload_n rfl ?_; refine ai_lneg ?_
              refine ai_lcge rfl rfl (fun hb19 => ?_) (fun hb19 => ?_) ?_
              · refine ap_go kc_54_81 ?_
                refine ai_iconst ?_; refine ap_nil ?_
                refine ap_go kc_54_82 ?_
                refine ap_iret rfl ?_
                refine sq K ?_; unfold octZ; (repeat' split) <;> omega
              · refine ap_go kc_54_77 ?_
                refine ai_iconst ?_; refine ap_goto rfl ?_
                refine ap_go kc_54_82 ?_
                refine ap_iret rfl ?_
                refine sq K ?_; unfold octZ; (repeat' split) <;> omega
              all_goals (omega)
            all_goals (omega)
          · refine ap_go kc_54_50 ?_
            refine ap_lload_n rfl ?_; refine ai_lneg ?_; refine ap_lload_n rfl ?_
            refine ai_lcge rfl rfl (fun hb20 => ?_) (fun hb20 => ?_) ?_
            · refine ap_go kc_54_61 ?_
              refine ai_iconst ?_; refine ap_nil ?_
              refine ap_go kc_54_62 ?_
              refine ap_iret rfl ?_
              refine sq K ?_; unfold octZ; (repeat' split) <;> omega
            · refine ap_go kc_54_57 ?_
              refine ai_iconst ?_; refine ap_goto rfl ?_
              refine ap_go kc_54_62 ?_
              refine ap_iret rfl ?_
              refine sq K ?_; unfold octZ; (repeat' split) <;> omega
            all_goals (omega)
          all_goals (omega)
        all_goals (omega)
      · refine ap_go kc_54_26 ?_
        refine ap_lload_n rfl ?_; refine ap_lload_n rfl ?_
        refine ai_lcge rfl rfl (fun hb21 => ?_) (fun hb21 => ?_) ?_
        · refine ap_go kc_54_36 ?_
          refine ai_iconst ?_; refine ap_nil ?_
          refine ap_go kc_54_37 ?_
          refine ap_iret rfl ?_
          refine sq K ?_; unfold octZ; (repeat' split) <;> omega
        · refine ap_go kc_54_32 ?_
          refine ai_iconst ?_; refine ap_goto rfl ?_
          refine ap_go kc_54_37 ?_
          refine ap_iret rfl ?_
          refine sq K ?_; unfold octZ; (repeat' split) <;> omega
        all_goals (omega)
      all_goals (omega)
    all_goals (omega)
  · refine ap_go kc_54_6 ?_
    refine ap_lload_n rfl ?_; refine ai_lconst 0 rfl ?_
    refine ai_lcne rfl rfl (fun hb22 => ?_) (fun hb22 => ?_) ?_
    · refine ap_go kc_54_14 ?_
      refine ap_lload_n rfl ?_; refine ai_lconst 0 rfl ?_
      refine ai_lcle rfl rfl (fun hb23 => ?_) (fun hb23 => ?_) ?_
      · refine ap_go kc_54_38 ?_
        refine ap_lload_n rfl ?_; refine ai_lconst 0 rfl ?_
        refine ai_lcgt rfl rfl (fun hb24 => ?_) (fun hb24 => ?_) ?_
        · refine ap_go kc_54_63 ?_
          refine ap_lload_n rfl ?_; refine ai_lconst 0 rfl ?_
          refine ai_lcge rfl rfl (fun hb25 => ?_) (fun hb25 => ?_) ?_
          · refine ap_go kc_54_83 ?_
            refine ap_lload_n rfl ?_; refine ap_lload_n rfl ?_; refine ai_lneg ?_
            refine ai_lcge rfl rfl (fun hb26 => ?_) (fun hb26 => ?_) ?_
            · refine ap_go kc_54_95 ?_
              refine ai_bipush (by decide) ?_; refine ap_nil ?_
              refine ap_go kc_54_97 ?_
              refine ap_iret rfl ?_
              refine sq K ?_; unfold octZ; (repeat' split) <;> omega
            · refine ap_go kc_54_90 ?_
              refine ai_bipush (by decide) ?_; refine ap_goto rfl ?_
              refine ap_go kc_54_97 ?_
              refine ap_iret rfl ?_
              refine sq K ?_; unfold octZ; (repeat' split) <;> omega
            all_goals (omega)
          · refine ap_go kc_54_69 ?_
            refine ap_lload_n rfl ?_; refine ai_lneg ?_; refine ap_lload_n rfl ?_; refine ai_lneg ?_
            refine ai_lcge rfl rfl (fun hb27 => ?_) (fun hb27 => ?_) ?_
            · refine ap_go kc_54_81 ?_
              refine ai_iconst ?_; refine ap_nil ?_
              refine ap_go kc_54_82 ?_
              refine ap_iret rfl ?_
              refine sq K ?_; unfold octZ; (repeat' split) <;> omega
            · refine ap_go kc_54_77 ?_
              refine ai_iconst ?_; refine ap_goto rfl ?_
              refine ap_go kc_54_82 ?_
              refine ap_iret rfl ?_
              refine sq K ?_; unfold octZ; (repeat' split) <;> omega
            all_goals (omega)
          all_goals (omega)
        · refine ap_go kc_54_44 ?_
          refine ap_lload_n rfl ?_; refine ai_lconst 0 rfl ?_
          refine ai_lcle rfl rfl (fun hb28 => ?_) (fun hb28 => ?_) ?_
          · refine ap_go kc_54_63 ?_
            refine ap_lload_n rfl ?_; refine ai_lconst 0 rfl ?_
            refine ai_lcge rfl rfl (fun hb29 => ?_) (fun hb29 => ?_) ?_
            · refine ap_go kc_54_83 ?_
              refine ap_lload_n rfl ?_; refine ap_lload_n rfl ?_; refine ai_lneg ?_
              refine ai_lcge rfl rfl (fun hb30 => ?_) (fun hb30 => ?_) ?_
              · refine ap_go kc_54_95 ?_
                refine ai_bipush (by decide) ?_; refine ap_nil ?_
                refine ap_go kc_54_97 ?_
                refine ap_iret rfl ?_
                refine sq K ?_; unfold octZ; (repeat' split) <;> omega
              · refine ap_go kc_54_90 ?_
                refine ai_bipush (by decide) ?_; refine ap_goto rfl ?_
                refine ap_go kc_54_97 ?_
                refine ap_iret rfl ?_
                refine sq K ?_; unfold octZ; (repeat' split) <;> omega
              all_goals (omega)
            · refine ap_go kc_54_69 ?_
              refine ap_lload_n rfl ?_; refine ai_lneg ?_; refine ap_lload_n rfl ?_; refine ai_lneg ?_
              refine ai_lcge rfl rfl (fun hb31 => ?_) (fun hb31 => ?_) ?_
              · refine ap_go kc_54_81 ?_
                refine ai_iconst ?_; refine ap_nil ?_
                refine ap_go kc_54_82 ?_
                refine ap_iret rfl ?_
                refine sq K ?_; unfold octZ; (repeat' split) <;> omega
              · refine ap_go kc_54_77 ?_
                refine ai_iconst ?_; refine ap_goto rfl ?_
                refine ap_go kc_54_82 ?_
                refine ap_iret rfl ?_
                refine sq K ?_; unfold octZ; (repeat' split) <;> omega
              all_goals (omega)
            all_goals (omega)
          · refine ap_go kc_54_50 ?_
            refine ap_lload_n rfl ?_; refine ai_lneg ?_; refine ap_lload_n rfl ?_
            refine ai_lcge rfl rfl (fun hb32 => ?_) (fun hb32 => ?_) ?_
            · refine ap_go kc_54_61 ?_
              refine ai_iconst ?_; refine ap_nil ?_
              refine ap_go kc_54_62 ?_
              refine ap_iret rfl ?_
              refine sq K ?_; unfold octZ; (repeat' split) <;> omega
            · refine ap_go kc_54_57 ?_
              refine ai_iconst ?_; refine ap_goto rfl ?_
              refine ap_go kc_54_62 ?_
              refine ap_iret rfl ?_
              refine sq K ?_; unfold octZ; (repeat' split) <;> omega
            all_goals (omega)
          all_goals (omega)
        all_goals (omega)
      · refine ap_go kc_54_20 ?_
        refine ap_lload_n rfl ?_; refine ai_lconst 0 rfl ?_
        refine ai_lclt rfl rfl (fun hb33 => ?_) (fun hb33 => ?_) ?_
        · refine ap_go kc_54_38 ?_
          refine ap_lload_n rfl ?_; refine ai_lconst 0 rfl ?_
          refine ai_lcgt rfl rfl (fun hb34 => ?_) (fun hb34 => ?_) ?_
          · refine ap_go kc_54_63 ?_
            refine ap_lload_n rfl ?_; refine ai_lconst 0 rfl ?_
            refine ai_lcge rfl rfl (fun hb35 => ?_) (fun hb35 => ?_) ?_
            · refine ap_go kc_54_83 ?_
              refine ap_lload_n rfl ?_; refine ap_lload_n rfl ?_; refine ai_lneg ?_
              refine ai_lcge rfl rfl (fun hb36 => ?_) (fun hb36 => ?_) ?_
              · refine ap_go kc_54_95 ?_
                refine ai_bipush (by decide) ?_; refine ap_nil ?_
                refine ap_go kc_54_97 ?_
                refine ap_iret rfl ?_
                refine sq K ?_; unfold octZ; (repeat' split) <;> omega
              · refine ap_go kc_54_90 ?_
                refine ai_bipush (by decide) ?_; refine ap_goto rfl ?_
                refine ap_go kc_54_97 ?_
                refine ap_iret rfl ?_
                refine sq K ?_; unfold octZ; (repeat' split) <;> omega
              all_goals (omega)
            · refine ap_go kc_54_69 ?_
              refine ap_lload_n rfl ?_; refine ai_lneg ?_; refine ap_lload_n rfl ?_; refine ai_lneg ?_
              refine ai_lcge rfl rfl (fun hb37 => ?_) (fun hb37 => ?_) ?_
              · refine ap_go kc_54_81 ?_
                refine ai_iconst ?_; refine ap_nil ?_
                refine ap_go kc_54_82 ?_
                refine ap_iret rfl ?_
                refine sq K ?_; unfold octZ; (repeat' split) <;> omega
              · refine ap_go kc_54_77 ?_
                refine ai_iconst ?_; refine ap_goto rfl ?_
                refine ap_go kc_54_82 ?_
                refine ap_iret rfl ?_
                refine sq K ?_; unfold octZ; (repeat' split) <;> omega
              all_goals (omega)
            all_goals (omega)
          · refine ap_go kc_54_44 ?_
            refine ap_lload_n rfl ?_; refine ai_lconst 0 rfl ?_
            refine ai_lcle rfl rfl (fun hb38 => ?_) (fun hb38 => ?_) ?_
            · refine ap_go kc_54_63 ?_
              refine ap_lload_n rfl ?_; refine ai_lconst 0 rfl ?_
              refine ai_lcge rfl rfl (fun hb39 => ?_) (fun hb39 => ?_) ?_
              · refine ap_go kc_54_83 ?_
                refine ap_lload_n rfl ?_; refine ap_lload_n rfl ?_; refine ai_lneg ?_
                refine ai_lcge rfl rfl (fun hb40 => ?_) (fun hb40 => ?_) ?_
                · refine ap_go kc_54_95 ?_
                  refine ai_bipush (by decide) ?_; refine ap_nil ?_
                  refine ap_go kc_54_97 ?_
                  refine ap_iret rfl ?_
                  refine sq K ?_; unfold octZ; (repeat' split) <;> omega
                · refine ap_go kc_54_90 ?_
                  refine ai_bipush (by decide) ?_; refine ap_goto rfl ?_
                  refine ap_go kc_54_97 ?_
                  refine ap_iret rfl ?_
                  refine sq K ?_; unfold octZ; (repeat' split) <;> omega
                all_goals (omega)
              · refine ap_go kc_54_69 ?_
                refine ap_lload_n rfl ?_; refine ai_lneg ?_; refine ap_lload_n rfl ?_; refine ai_lneg ?_
                refine ai_lcge rfl rfl (fun hb41 => ?_) (fun hb41 => ?_) ?_
                · refine ap_go kc_54_81 ?_
                  refine ai_iconst ?_; refine ap_nil ?_
                  refine ap_go kc_54_82 ?_
                  refine ap_iret rfl ?_
                  refine sq K ?_; unfold octZ; (repeat' split) <;> omega
                · refine ap_go kc_54_77 ?_
                  refine ai_iconst ?_; refine ap_goto rfl ?_
                  refine ap_go kc_54_82 ?_
                  refine ap_iret rfl ?_
                  refine sq K ?_; unfold octZ; (repeat' split) <;> omega
                all_goals (omega)
              all_goals (omega)
            · refine ap_go kc_54_50 ?_
              refine ap_lload_n rfl ?_; refine ai_lneg ?_; refine ap_lload_n rfl ?_
              refine ai_lcge rfl rfl (fun hb42 => ?_) (fun hb42 => ?_) ?_
              · refine ap_go kc_54_61 ?_
                refine ai_iconst ?_; refine ap_nil ?_
                refine ap_go kc_54_62 ?_
                refine ap_iret rfl ?_
                refine sq K ?_; unfold octZ; (repeat' split) <;> omega
              · refine ap_go kc_54_57 ?_
                refine ai_iconst ?_; refine ap_goto rfl ?_
                refine ap_go kc_54_62 ?_
                refine ap_iret rfl ?_
                refine sq K ?_; unfold octZ; (repeat' split) <;> omega
              all_goals (omega)
            all_goals (omega)
          all_goals (omega)
        · refine ap_go kc_54_26 ?_
          refine ap_lload_n rfl ?_; refine ap_lload_n rfl ?_
          refine ai_lcge rfl rfl (fun hb43 => ?_) (fun hb43 => ?_) ?_
          · refine ap_go kc_54_36 ?_
            refine ai_iconst ?_; refine ap_nil ?_
            refine ap_go kc_54_37 ?_
            refine ap_iret rfl ?_
            refine sq K ?_; unfold octZ; (repeat' split) <;> omega
          · refine ap_go kc_54_32 ?_
            refine ai_iconst ?_; refine ap_goto rfl ?_
            refine ap_go kc_54_37 ?_
            refine ap_iret rfl ?_
            refine sq K ?_; unfold octZ; (repeat' split) <;> omega
          all_goals (omega)
        all_goals (omega)
      all_goals (omega)
    · refine ap_go kc_54_12 ?_
      refine ai_iconst ?_; refine ap_iret rfl ?_
      refine sq K ?_; unfold octZ; (repeat' split) <;> omega
    all_goals (omega)
  all_goals (omega)

theorem sp_55 {d L : Nat} {sw : Bool} {f g : Nat → Nat → Int} {Q : Option Value → am_H → Prop} {s a b : Int} (K : Q (some (.long (lZ (sqmZ (a - g 32 (f 35 s.toNat).toNat) (b - g 33 (f 35 s.toNat).toNat) (eX f g s.toNat) (eY f g s.toNat) (a - g 32 (f 36 s.toNat).toNat) (b - g 33 (f 36 s.toNat).toNat))))) (53, sh_lt L, iH f, jH g, sh_rt sw)) (hs : 0 ≤ s ∧ s < 121) (h6 : 0 ≤ f 35 s.toNat ∧ f 35 s.toNat < 61) (h7 : 0 ≤ f 36 s.toNat ∧ f 36 s.toNat < 61) (h1 : lR ((a - g 32 (f 35 s.toNat).toNat) * eX f g s.toNat + (b - g 33 (f 35 s.toNat).toNat) * eY f g s.toNat)) (h2 : lR ((a - g 32 (f 36 s.toNat).toNat) * eX f g s.toNat + (b - g 33 (f 36 s.toNat).toNat) * eY f g s.toNat)) (h3 : 0 ≤ ((a - g 32 (f 35 s.toNat).toNat) * eY f g s.toNat - (b - g 33 (f 35 s.toNat).toNat) * eX f g s.toNat) * ((a - g 32 (f 35 s.toNat).toNat) * eY f g s.toNat - (b - g 33 (f 35 s.toNat).toNat) * eX f g s.toNat) ∧ ((a - g 32 (f 35 s.toNat).toNat) * eY f g s.toNat - (b - g 33 (f 35 s.toNat).toNat) * eX f g s.toNat) * ((a - g 32 (f 35 s.toNat).toNat) * eY f g s.toNat - (b - g 33 (f 35 s.toNat).toNat) * eX f g s.toNat) < 9223372036854775808) (h4 : 0 ≤ eX f g s.toNat * eX f g s.toNat + eY f g s.toNat * eY f g s.toNat ∧ eX f g s.toNat * eX f g s.toNat + eY f g s.toNat * eY f g s.toNat < 9223372036854775808) (h5 : ¬ (a - g 32 (f 35 s.toNat).toNat) * eX f g s.toNat + (b - g 33 (f 35 s.toNat).toNat) * eY f g s.toNat ≤ 0 → 0 < eX f g s.toNat * eX f g s.toNat + eY f g s.toNat * eY f g s.toNat) : am_call (d + 1) 55 [.ref 31, .int (iZ s), .long (lZ a), .long (lZ b)] (53, sh_lt L, iH f, jH g, sh_rt sw) Q := by
  refine ap_call (by decide) (Nat.le_of_ble_eq_true rfl) rfl ?_
  refine ap_go kc_55_0 ?_
  refine ap_aload_n rfl ?_; refine ap_getR ow_55 rf_8_7 rfl rfl rfl ?_; refine ap_aload_n rfl ?_; refine ap_getR ow_55 rf_8_23 rfl rfl rfl ?_; refine ap_iload_n rfl ?_; refine ai_iaload (n := 121) rfl rfl (by decide) ?_ ?_; refine ai_laload (n := 61) rfl rfl (by decide) ?_ ?_; refine ap_aload_n rfl ?_; refine ap_getR ow_55 rf_8_7 rfl rfl rfl ?_; refine ap_aload_n rfl ?_; refine ap_getR ow_55 rf_8_19 rfl rfl rfl ?_; refine ap_iload_n rfl ?_; refine ai_iaload (n := 121) rfl rfl (by decide) ?_ ?_; refine ai_laload (n := 61) rfl rfl (by decide) ?_ ?_; refine ai_lsub ?_; refine ap_lstore rfl ?_; refine ap_aload_n rfl ?_; refine ap_getR ow_55 rf_8_13 rfl rfl rfl ?_; refine ap_aload_n rfl ?_; refine ap_getR ow_55 rf_8_23 rfl rfl rfl ?_; refine ap_iload_n rfl ?_; refine ai_iaload (n := 121) rfl rfl (by decide) ?_ ?_; refine ai_laload (n := 61) rfl rfl (by decide) ?_ ?_; refine ap_aload_n rfl ?_; refine ap_getR ow_55 rf_8_13 rfl rfl rfl ?_; refine ap_aload_n rfl ?_; refine ap_getR ow_55 rf_8_19 rfl rfl rfl ?_; refine ap_iload_n rfl ?_; refine ai_iaload (n := 121) rfl rfl (by decide) ?_ ?_; refine ai_laload (n := 61) rfl rfl (by decide) ?_ ?_; refine ai_lsub ?_; refine ap_lstore rfl ?_; refine ap_lload_n rfl ?_; refine ap_aload_n rfl ?_; refine ap_getR ow_55 rf_8_7 rfl rfl rfl ?_; refine ap_aload_n rfl ?_; refine ap_getR ow_55 rf_8_19 rfl rfl rfl ?_; refine ap_iload_n rfl ?_; refine ai_iaload (n := 121) rfl rfl (by decide) ?_ ?_; refine ai_laload (n := 61) rfl rfl (by decide) ?_ ?_; refine ai_lsub ?_; refine ap_lstore rfl ?_; refine ap_lload rfl ?_; refine ap_aload_n rfl ?_; refine ap_getR ow_55 rf_8_13 rfl rfl rfl ?_; refine ap_aload_n rfl ?_; refine ap_getR ow_55 rf_8_19 rfl rfl rfl ?_; refine ap_iload_n rfl ?_; refine ai_iaload (n := 121) rfl rfl (by decide) ?_ ?_; refine ai_laload (n := 61) rfl rfl (by decide) ?_ ?_; refine ai_lsub ?_; refine ap_lstore rfl ?_; refine ap_lload_n rfl ?_; refine ap_aload_n rfl ?_; refine ap_getR ow_55 rf_8_7 rfl rfl rfl ?_; refine ap_aload_n rfl ?_; refine ap_getR ow_55 rf_8_23 rfl rfl rfl ?_; refine ap_iload_n rfl ?_; refine ai_iaload (n := 121) rfl rfl (by decide) ?_ ?_; refine ai_laload (n := 61) rfl rfl (by decide) ?_ ?_; refine ai_lsub ?_; refine ap_lstore rfl ?_; refine ap_lload rfl ?_; refine ap_aload_n rfl ?_; refine ap_getR ow_55 rf_8_13 rfl rfl rfl ?_; refine ap_aload_n rfl ?_; refine ap_getR ow_55 rf_8_23 rfl rfl rfl ?_; refine ap_iload_n rfl ?_; refine ai_iaload (n := 121) rfl rfl (by decide) ?_ ?_; refine ai_laload (n := 61) rfl rfl (by decide) ?_ ?_; refine ai_lsub ?_; refine ap_lstore rfl ?_; refine ap_lload rfl ?_; refine ap_lload rfl ?_; refine ai_lmul ?_; refine ap_lload rfl ?_; refine ap_lload rfl ?_; refine ai_lmul ?_; refine ai_ladd ?_; refine ai_lconst 0 rfl ?_
  refine ai_lcgt rfl rfl (fun hb0 => ?_) (fun hb0 => ?_) ?_
  · refine ap_go kc_55_140 ?_
    refine ap_lload rfl ?_; refine ap_lload rfl ?_; refine ai_lmul ?_; refine ap_lload rfl ?_; refine ap_lload rfl ?_; refine ai_lmul ?_; refine ai_ladd ?_; refine ai_lconst 0 rfl ?_
    refine ai_lclt rfl rfl (fun hb1 => ?_) (fun hb1 => ?_) ?_
    · refine ap_go kc_55_168 ?_
      refine ap_lload rfl ?_; refine ap_lload rfl ?_; refine ai_lmul ?_; refine ap_lload rfl ?_; refine ap_lload rfl ?_; refine ai_lmul ?_; refine ai_lsub ?_; refine ap_lstore rfl ?_; refine ap_lload rfl ?_; refine ap_lload rfl ?_; refine ai_lmul ?_; refine ap_lload rfl ?_; refine ap_lload rfl ?_; refine ai_lmul ?_; refine ap_lload rfl ?_; refine ap_lload rfl ?_; refine ai_lmul ?_; refine ai_ladd ?_; refine ai_ldiv ?_ ?_; refine ap_lret rfl ?_
      · refine sql K ?_; unfold sqmZ; first | rw [if_pos (Int.not_lt.mp hb0)] | rw [if_neg (Int.not_le.mpr hb0), if_pos (Int.not_lt.mp hb1)] | rw [if_neg (Int.not_le.mpr hb0), if_neg (Int.not_le.mpr hb1)]
      all_goals (first | assumption | exact ⟨h1, by decide, by decide⟩ | exact ⟨h2, by decide, by decide⟩ | exact ⟨h3.1, h3.2, h5 (Int.not_le.mpr hb0), h4.2⟩ | omega)
    · refine ap_go kc_55_156 ?_
      refine ap_lload rfl ?_; refine ap_lload rfl ?_; refine ai_lmul ?_; refine ap_lload rfl ?_; refine ap_lload rfl ?_; refine ai_lmul ?_; refine ai_ladd ?_; refine ap_lret rfl ?_
      refine sql K ?_; unfold sqmZ; first | rw [if_pos (Int.not_lt.mp hb0)] | rw [if_neg (Int.not_le.mpr hb0), if_pos (Int.not_lt.mp hb1)] | rw [if_neg (Int.not_le.mpr hb0), if_neg (Int.not_le.mpr hb1)]
    all_goals (first | assumption | exact ⟨h1, by decide, by decide⟩ | exact ⟨h2, by decide, by decide⟩ | exact ⟨h3.1, h3.2, h5 (Int.not_le.mpr hb0), h4.2⟩ | omega)
  · refine ap_go kc_55_128 ?_
    refine ap_lload rfl ?_; refine ap_lload rfl ?_; refine ai_lmul ?_; refine ap_lload rfl ?_; refine ap_lload rfl ?_; refine ai_lmul ?_; refine ai_ladd ?_; refine ap_lret rfl ?_
    refine sql K ?_; unfold sqmZ; first | rw [if_pos (Int.not_lt.mp hb0)] | rw [if_neg (Int.not_le.mpr hb0), if_pos (Int.not_lt.mp hb1)] | rw [if_neg (Int.not_le.mpr hb0), if_neg (Int.not_le.mpr hb1)]
  all_goals (first | assumption | exact ⟨h1, by decide, by decide⟩ | exact ⟨h2, by decide, by decide⟩ | exact ⟨h3.1, h3.2, h5 (Int.not_le.mpr hb0), h4.2⟩ | omega)
