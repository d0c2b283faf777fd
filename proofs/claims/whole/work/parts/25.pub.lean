/-! THE CLASS: steps, headings, names, the simple calls of the face -/
theorem bz {c : Prop} [Decidable c] : ((if c then (1 : Int) else 0) = 0) ↔ ¬ c := by split <;> simp_all
def bAll (p : Nat → Bool) : Nat → Bool
  | 0 => true
  | n + 1 => bAll p n && p n
abbrev dX (f g : Nat → Nat → Int) (s : Nat) : Int := g 2 (f 7 s).toNat - g 2 (f 6 s).toNat
abbrev dY (f g : Nat → Nat → Int) (s : Nat) : Int := g 3 (f 7 s).toNat - g 3 (f 6 s).toNat

theorem sp_19 {d L : Nat} {sw : Bool} {f g : Nat → Nat → Int} {Q : Option Value → am_H → Prop} {s : Int} (K : Q (some (.long (lZ (dX f g s.toNat)))) (53, sh_lt L, iH f, jH g, sh_rt sw)) (hs : 0 ≤ s ∧ s < 121) (h6 : 0 ≤ f 6 s.toNat ∧ f 6 s.toNat < 61) (h7 : 0 ≤ f 7 s.toNat ∧ f 7 s.toNat < 61) : am_call (d + 2) 19 [.ref 0, .int (iZ s)] (53, sh_lt L, iH f, jH g, sh_rt sw) Q := by
  refine ap_call (by decide) (Nat.le_of_ble_eq_true rfl) rfl ?_
  refine ap_go kc_19_0 ?_
  refine ap_aload_n rfl ?_; refine ap_getR ow_19 rf_7_14 rfl rfl rfl ?_; refine ap_aload_n rfl ?_; refine ap_getR ow_19 rf_7_21 rfl rfl rfl ?_; refine ap_iload_n rfl ?_; refine ap_callv0 ow_19 rm_7_108 na_99 mc_99 ms_99 rfl rfl (Nat.le_of_ble_eq_true rfl) (Nat.le_of_ble_eq_true rfl) (Or.inr rfl) (Nat.zero_le _) (Nat.zero_le _) ?_; refine sp_99 ?_ ?_; dsimp only [Option.toList_some, Option.toList_none, List.cons_append, List.nil_append]; refine ap_callv0 ow_19 rm_7_227 na_85 mc_85 ms_85 rfl rfl (Nat.le_of_ble_eq_true rfl) (Nat.le_of_ble_eq_true rfl) (Or.inr rfl) (Nat.zero_le _) (Nat.zero_le _) ?_; refine sp_85 ?_ ?_; dsimp only [Option.toList_some, Option.toList_none, List.cons_append, List.nil_append]; refine ap_aload_n rfl ?_; refine ap_getR ow_19 rf_7_14 rfl rfl rfl ?_; refine ap_aload_n rfl ?_; refine ap_getR ow_19 rf_7_21 rfl rfl rfl ?_; refine ap_iload_n rfl ?_; refine ap_callv0 ow_19 rm_7_104 na_98 mc_98 ms_98 rfl rfl (Nat.le_of_ble_eq_true rfl) (Nat.le_of_ble_eq_true rfl) (Or.inr rfl) (Nat.zero_le _) (Nat.zero_le _) ?_; refine sp_98 ?_ ?_; dsimp only [Option.toList_some, Option.toList_none, List.cons_append, List.nil_append]; refine ap_callv0 ow_19 rm_7_227 na_85 mc_85 ms_85 rfl rfl (Nat.le_of_ble_eq_true rfl) (Nat.le_of_ble_eq_true rfl) (Or.inr rfl) (Nat.zero_le _) (Nat.zero_le _) ?_; refine sp_85 ?_ ?_; dsimp only [Option.toList_some, Option.toList_none, List.cons_append, List.nil_append]; refine ai_lsub ?_; refine ap_lret rfl ?_
  · exact K
  all_goals (omega)

theorem sp_20 {d L : Nat} {sw : Bool} {f g : Nat → Nat → Int} {Q : Option Value → am_H → Prop} {s : Int} (K : Q (some (.long (lZ (dY f g s.toNat)))) (53, sh_lt L, iH f, jH g, sh_rt sw)) (hs : 0 ≤ s ∧ s < 121) (h6 : 0 ≤ f 6 s.toNat ∧ f 6 s.toNat < 61) (h7 : 0 ≤ f 7 s.toNat ∧ f 7 s.toNat < 61) : am_call (d + 2) 20 [.ref 0, .int (iZ s)] (53, sh_lt L, iH f, jH g, sh_rt sw) Q := by
  refine ap_call (by decide) (Nat.le_of_ble_eq_true rfl) rfl ?_
  refine ap_go kc_20_0 ?_
  refine ap_aload_n rfl ?_; refine ap_getR ow_20 rf_7_14 rfl rfl rfl ?_; refine ap_aload_n rfl ?_; refine ap_getR ow_20 rf_7_21 rfl rfl rfl ?_; refine ap_iload_n rfl ?_; refine ap_callv0 ow_20 rm_7_108 na_99 mc_99 ms_99 rfl rfl (Nat.le_of_ble_eq_true rfl) (Nat.le_of_ble_eq_true rfl) (Or.inr rfl) (Nat.zero_le _) (Nat.zero_le _) ?_; refine sp_99 ?_ ?_; dsimp only [Option.toList_some, Option.toList_none, List.cons_append, List.nil_append]; refine ap_callv0 ow_20 rm_7_231 na_86 mc_86 ms_86 rfl rfl (Nat.le_of_ble_eq_true rfl) (Nat.le_of_ble_eq_true rfl) (Or.inr rfl) (Nat.zero_le _) (Nat.zero_le _) ?_; refine sp_86 ?_ ?_; dsimp only [Option.toList_some, Option.toList_none, List.cons_append, List.nil_append]; refine ap_aload_n rfl ?_; refine ap_getR ow_20 rf_7_14 rfl rfl rfl ?_; refine ap_aload_n rfl ?_; refine ap_getR ow_20 rf_7_21 rfl rfl rfl ?_; refine ap_iload_n rfl ?_; refine ap_callv0 ow_20 rm_7_104 na_98 mc_98 ms_98 rfl rfl (Nat.le_of_ble_eq_true rfl) (Nat.le_of_ble_eq_true rfl) (Or.inr rfl) (Nat.zero_le _) (Nat.zero_le _) ?_; refine sp_98 ?_ ?_; dsimp only [Option.toList_some, Option.toList_none, List.cons_append, List.nil_append]; refine ap_callv0 ow_20 rm_7_231 na_86 mc_86 ms_86 rfl rfl (Nat.le_of_ble_eq_true rfl) (Nat.le_of_ble_eq_true rfl) (Or.inr rfl) (Nat.zero_le _) (Nat.zero_le _) ?_; refine sp_86 ?_ ?_; dsimp only [Option.toList_some, Option.toList_none, List.cons_append, List.nil_append]; refine ai_lsub ?_; refine ap_lret rfl ?_
  · exact K
  all_goals (omega)

theorem sp_21 {d L : Nat} {sw : Bool} {f g : Nat → Nat → Int} {Q : Option Value → am_H → Prop} {s t : Int} (K : Q (some (.int (iZ (advZ (dX f g s.toNat * dY f g t.toNat - dY f g s.toNat * dX f g t.toNat) (dX f g s.toNat * dX f g t.toNat + dY f g s.toNat * dY f g t.toNat))))) (53, sh_lt L, iH f, jH g, sh_rt sw)) (hs : 0 ≤ s ∧ s < 121) (h6 : 0 ≤ f 6 s.toNat ∧ f 6 s.toNat < 61) (h7 : 0 ≤ f 7 s.toNat ∧ f 7 s.toNat < 61) (ht : 0 ≤ t ∧ t < 121) (g6 : 0 ≤ f 6 t.toNat ∧ f 6 t.toNat < 61) (g7 : 0 ≤ f 7 t.toNat ∧ f 7 t.toNat < 61) (h1 : -2000000000 ≤ dX f g s.toNat * dY f g t.toNat - dY f g s.toNat * dX f g t.toNat ∧ dX f g s.toNat * dY f g t.toNat - dY f g s.toNat * dX f g t.toNat ≤ 2000000000) (h2 : -2000000000 ≤ dX f g s.toNat * dX f g t.toNat + dY f g s.toNat * dY f g t.toNat ∧ dX f g s.toNat * dX f g t.toNat + dY f g s.toNat * dY f g t.toNat ≤ 2000000000) : am_call (d + 3) 21 [.ref 0, .int (iZ s), .int (iZ t)] (53, sh_lt L, iH f, jH g, sh_rt sw) Q := by
  refine ap_call (by decide) (Nat.le_of_ble_eq_true rfl) rfl ?_
  refine ap_go kc_21_0 ?_
  refine ap_aload_n rfl ?_; refine ap_iload_n rfl ?_; refine ap_callv0 ow_21 rm_7_234 na_19 mc_19 ms_19 rfl rfl (Nat.le_of_ble_eq_true rfl) (Nat.le_of_ble_eq_true rfl) (Or.inr rfl) (Nat.zero_le _) (Nat.zero_le _) ?_; refine sp_19 ?_ ?_ ?_ ?_; dsimp only [Option.toList_some, Option.toList_none, List.cons_append, List.nil_append]; refine ap_aload_n rfl ?_; refine ap_iload_n rfl ?_; refine ap_callv0 ow_21 rm_7_237 na_20 mc_20 ms_20 rfl rfl (Nat.le_of_ble_eq_true rfl) (Nat.le_of_ble_eq_true rfl) (Or.inr rfl) (Nat.zero_le _) (Nat.zero_le _) ?_; refine sp_20 ?_ ?_ ?_ ?_; dsimp only [Option.toList_some, Option.toList_none, List.cons_append, List.nil_append]; refine ap_aload_n rfl ?_; refine ap_iload_n rfl ?_; refine ap_callv0 ow_21 rm_7_234 na_19 mc_19 ms_19 rfl rfl (Nat.le_of_ble_eq_true rfl) (Nat.le_of_ble_eq_true rfl) (Or.inr rfl) (Nat.zero_le _) (Nat.zero_le _) ?_; refine sp_19 ?_ ?_ ?_ ?_; dsimp only [Option.toList_some, Option.toList_none, List.cons_append, List.nil_append]; refine ap_aload_n rfl ?_; refine ap_iload_n rfl ?_; refine ap_callv0 ow_21 rm_7_237 na_20 mc_20 ms_20 rfl rfl (Nat.le_of_ble_eq_true rfl) (Nat.le_of_ble_eq_true rfl) (Or.inr rfl) (Nat.zero_le _) (Nat.zero_le _) ?_; refine sp_20 ?_ ?_ ?_ ?_; dsimp only [Option.toList_some, Option.toList_none, List.cons_append, List.nil_append]; refine ap_calls0 ow_21 rm_7_240 na_67 mc_67 ms_67 rfl rfl (Nat.le_of_ble_eq_true rfl) (Nat.le_of_ble_eq_true rfl) rfl (Nat.zero_le _) (Nat.zero_le _) ?_; refine sp_67 ?_ ?_ ?_; dsimp only [Option.toList_some, Option.toList_none, List.cons_append, List.nil_append]; refine ap_iret rfl ?_
  · exact K
  all_goals (first | assumption | omega)

theorem oct_in (x y : Int) : -1 ≤ octZ x y ∧ octZ x y ≤ 7 := by
  unfold octZ
  (repeat' split) <;> omega
def fitB (o h : Int) : Bool := decide (h < 0) || (decide (0 ≤ o) && (decide ((o - h) % 8 ≤ 1) || decide ((o - h) % 8 = 7)))
theorem b_7 {a b : Int} (ha : 0 ≤ a ∧ a < 8) (hb : 0 ≤ b ∧ b < 8) : b_and (a - b) 7 = (a - b) % 8 := by
  have := b_and7 a.toNat (by omega) b.toNat (by omega)
  rw [show ((a.toNat : Nat) : Int) = a by omega, show ((b.toNat : Nat) : Int) = b by omega] at this
  exact this

theorem sp_22 {d L : Nat} {sw : Bool} {f g : Nat → Nat → Int} {Q : Option Value → am_H → Prop} {s h : Int} (K : Q (some (.int (iZ (if fitB (octZ (dX f g s.toNat) (dY f g s.toNat)) h = true then 1 else 0)))) (53, sh_lt L, iH f, jH g, sh_rt sw)) (hs : 0 ≤ s ∧ s < 121) (h6 : 0 ≤ f 6 s.toNat ∧ f 6 s.toNat < 61) (h7 : 0 ≤ f 7 s.toNat ∧ f 7 s.toNat < 61) (hx : -100000 ≤ dX f g s.toNat ∧ dX f g s.toNat ≤ 100000) (hy : -100000 ≤ dY f g s.toNat ∧ dY f g s.toNat ≤ 100000) (hh : -1 ≤ h ∧ h ≤ 7) : am_call (d + 3) 22 [.ref 0, .int (iZ s), .int (iZ h)] (53, sh_lt L, iH f, jH g, sh_rt sw) Q := by
  have ho := oct_in (dX f g s.toNat) (dY f g s.toNat)
  refine ap_call (by decide) (Nat.le_of_ble_eq_true rfl) rfl ?_
  refine ap_go kc_22_0 ?_
  refine ap_iload_n rfl ?_
  refine ai_ifge rfl rfl (fun hb0 => ?_) (fun hb0 => ?_) ?_
  · refine ap_go kc_22_6 ?_
    refine ap_aload_n rfl ?_; refine ap_iload_n rfl ?_; refine ap_callv0 ow_22 rm_7_234 na_19 mc_19 ms_19 rfl rfl (Nat.le_of_ble_eq_true rfl) (Nat.le_of_ble_eq_true rfl) (Or.inr rfl) (Nat.zero_le _) (Nat.zero_le _) ?_; refine sp_19 ?_ ?_ ?_ ?_; dsimp only [Option.toList_some, Option.toList_none, List.cons_append, List.nil_append]; refine ap_aload_n rfl ?_; refine ap_iload_n rfl ?_; refine ap_callv0 ow_22 rm_7_237 na_20 mc_20 ms_20 rfl rfl (Nat.le_of_ble_eq_true rfl) (Nat.le_of_ble_eq_true rfl) (Or.inr rfl) (Nat.zero_le _) (Nat.zero_le _) ?_; refine sp_20 ?_ ?_ ?_ ?_; dsimp only [Option.toList_some, Option.toList_none, List.cons_append, List.nil_append]; refine ap_calls0 ow_22 rm_7_246 na_68 mc_68 ms_68 rfl rfl (Nat.le_of_ble_eq_true rfl) (Nat.le_of_ble_eq_true rfl) rfl (Nat.zero_le _) (Nat.zero_le _) ?_; refine sp_68 ?_ ?_ ?_; dsimp only [Option.toList_some, Option.toList_none, List.cons_append, List.nil_append]; refine ap_istore_n rfl ?_; refine ap_iload_n rfl ?_
    refine ai_ifge rfl rfl (fun hb1 => ?_) (fun hb1 => ?_) ?_
    · refine ap_go kc_22_26 ?_
      refine ap_iload_n rfl ?_; refine ap_iload_n rfl ?_; refine ai_isub ?_; refine ai_bipush (by decide) ?_; refine ai_iand ?_; refine ap_istore rfl ?_; refine ap_iload rfl ?_; refine ai_iconst ?_
      refine ai_icle rfl rfl (fun hb2 => ?_) (fun hb2 => ?_) ?_
      · refine ap_go kc_22_47 ?_
        refine ai_iconst ?_; refine ap_goto rfl ?_
        refine ap_go kc_22_52 ?_
        refine ai_zret rfl ?_ ?_
        · (try rw [b_7 (by omega) (by omega)] at hb2); (try rw [b_7 (by omega) (by omega)] at hb3); refine sq K ?_; unfold fitB; simp only [Bool.or_eq_true, Bool.and_eq_true, decide_eq_true_eq]; split <;> omega
        all_goals (first | omega | assumption | exact ⟨iR_T _, by decide, by decide⟩)
      · refine ap_go kc_22_40 ?_
        refine ap_iload rfl ?_; refine ai_bipush (by decide) ?_
        refine ai_icne rfl rfl (fun hb3 => ?_) (fun hb3 => ?_) ?_
        · refine ap_go kc_22_51 ?_
          refine ai_iconst ?_; refine ap_nil ?_
          refine ap_go kc_22_52 ?_
          refine ai_zret rfl ?_ ?_
          · (try rw [b_7 (by omega) (by omega)] at hb2); (try rw [b_7 (by omega) (by omega)] at hb3); refine sq K ?_; unfold fitB; simp only [Bool.or_eq_true, Bool.and_eq_true, decide_eq_true_eq]; split <;> omega
          all_goals (first | omega | assumption | exact ⟨iR_T _, by decide, by decide⟩)
        · refine ap_go kc_22_47 ?_
          refine ai_iconst ?_; refine ap_goto rfl ?_
          refine ap_go kc_22_52 ?_
          refine ai_zret rfl ?_ ?_
          · (try rw [b_7 (by omega) (by omega)] at hb2); (try rw [b_7 (by omega) (by omega)] at hb3); refine sq K ?_; unfold fitB; simp only [Bool.or_eq_true, Bool.and_eq_true, decide_eq_true_eq]; split <;> omega
          all_goals (first | omega | assumption | exact ⟨iR_T _, by decide, by decide⟩)
        all_goals (first | omega | assumption | exact ⟨iR_T _, by decide, by decide⟩)
      all_goals (first | omega | assumption | exact ⟨iR_T _, by decide, by decide⟩)
    · refine ap_go kc_22_24 ?_
      refine ai_iconst ?_; refine ai_zret rfl ?_ ?_
      · (try rw [b_7 (by omega) (by omega)] at hb2); (try rw [b_7 (by omega) (by omega)] at hb3); refine sq K ?_; unfold fitB; simp only [Bool.or_eq_true, Bool.and_eq_true, decide_eq_true_eq]; split <;> omega
      all_goals (first | omega | assumption | exact ⟨iR_T _, by decide, by decide⟩)
    all_goals (first | omega | assumption | exact ⟨iR_T _, by decide, by decide⟩)
  · refine ap_go kc_22_4 ?_
    refine ai_iconst ?_; refine ai_zret rfl ?_ ?_
    · (try rw [b_7 (by omega) (by omega)] at hb2); (try rw [b_7 (by omega) (by omega)] at hb3); refine sq K ?_; unfold fitB; simp only [Bool.or_eq_true, Bool.and_eq_true, decide_eq_true_eq]; split <;> omega
    all_goals (first | omega | assumption | exact ⟨iR_T _, by decide, by decide⟩)
  all_goals (first | omega | assumption | exact ⟨iR_T _, by decide, by decide⟩)

theorem sp_23 {d L : Nat} {sw : Bool} {f g : Nat → Nat → Int} {Q : Option Value → am_H → Prop} {s x y : Int} (K : Q (some (.long (lZ (sqrZ (x - g 2 (f 6 s.toNat).toNat) (y - g 3 (f 6 s.toNat).toNat) (dX f g s.toNat) (dY f g s.toNat))))) (53, sh_lt L, iH f, jH g, sh_rt sw)) (hs : 0 ≤ s ∧ s < 121) (h6 : 0 ≤ f 6 s.toNat ∧ f 6 s.toNat < 61) (h7 : 0 ≤ f 7 s.toNat ∧ f 7 s.toNat < 61) (h1 : -10000000000 ≤ ((x - g 2 (f 6 s.toNat).toNat) * dX f g s.toNat + (y - g 3 (f 6 s.toNat).toNat) * dY f g s.toNat) ∧ ((x - g 2 (f 6 s.toNat).toNat) * dX f g s.toNat + (y - g 3 (f 6 s.toNat).toNat) * dY f g s.toNat) ≤ 10000000000) (h2 : 0 ≤ (dX f g s.toNat * dX f g s.toNat + dY f g s.toNat * dY f g s.toNat) ∧ (dX f g s.toNat * dX f g s.toNat + dY f g s.toNat * dY f g s.toNat) ≤ 10000000000) (h3 : 0 ≤ ((x - g 2 (f 6 s.toNat).toNat) * dY f g s.toNat - (y - g 3 (f 6 s.toNat).toNat) * dX f g s.toNat) * ((x - g 2 (f 6 s.toNat).toNat) * dY f g s.toNat - (y - g 3 (f 6 s.toNat).toNat) * dX f g s.toNat) ∧ ((x - g 2 (f 6 s.toNat).toNat) * dY f g s.toNat - (y - g 3 (f 6 s.toNat).toNat) * dX f g s.toNat) * ((x - g 2 (f 6 s.toNat).toNat) * dY f g s.toNat - (y - g 3 (f 6 s.toNat).toNat) * dX f g s.toNat) < 9223372036854775808) : am_call (d + 3) 23 [.ref 0, .int (iZ s), .long (lZ x), .long (lZ y)] (53, sh_lt L, iH f, jH g, sh_rt sw) Q := by
  refine ap_call (by decide) (Nat.le_of_ble_eq_true rfl) rfl ?_
  refine ap_go kc_23_0 ?_
  refine ap_aload_n rfl ?_; refine ap_getR ow_23 rf_7_21 rfl rfl rfl ?_; refine ap_iload_n rfl ?_; refine ap_callv0 ow_23 rm_7_104 na_98 mc_98 ms_98 rfl rfl (Nat.le_of_ble_eq_true rfl) (Nat.le_of_ble_eq_true rfl) (Or.inr rfl) (Nat.zero_le _) (Nat.zero_le _) ?_; refine sp_98 ?_ ?_; dsimp only [Option.toList_some, Option.toList_none, List.cons_append, List.nil_append]; refine ap_istore rfl ?_; refine ap_lload_n rfl ?_; refine ap_aload_n rfl ?_; refine ap_getR ow_23 rf_7_14 rfl rfl rfl ?_; refine ap_iload rfl ?_; refine ap_callv0 ow_23 rm_7_227 na_85 mc_85 ms_85 rfl rfl (Nat.le_of_ble_eq_true rfl) (Nat.le_of_ble_eq_true rfl) (Or.inr rfl) (Nat.zero_le _) (Nat.zero_le _) ?_; refine sp_85 ?_ ?_; dsimp only [Option.toList_some, Option.toList_none, List.cons_append, List.nil_append]; refine ai_lsub ?_; refine ap_lload rfl ?_; refine ap_aload_n rfl ?_; refine ap_getR ow_23 rf_7_14 rfl rfl rfl ?_; refine ap_iload rfl ?_; refine ap_callv0 ow_23 rm_7_231 na_86 mc_86 ms_86 rfl rfl (Nat.le_of_ble_eq_true rfl) (Nat.le_of_ble_eq_true rfl) (Or.inr rfl) (Nat.zero_le _) (Nat.zero_le _) ?_; refine sp_86 ?_ ?_; dsimp only [Option.toList_some, Option.toList_none, List.cons_append, List.nil_append]; refine ai_lsub ?_; refine ap_aload_n rfl ?_; refine ap_iload_n rfl ?_; refine ap_callv0 ow_23 rm_7_234 na_19 mc_19 ms_19 rfl rfl (Nat.le_of_ble_eq_true rfl) (Nat.le_of_ble_eq_true rfl) (Or.inr rfl) (Nat.zero_le _) (Nat.zero_le _) ?_; refine sp_19 ?_ ?_ ?_ ?_; dsimp only [Option.toList_some, Option.toList_none, List.cons_append, List.nil_append]; refine ap_aload_n rfl ?_; refine ap_iload_n rfl ?_; refine ap_callv0 ow_23 rm_7_237 na_20 mc_20 ms_20 rfl rfl (Nat.le_of_ble_eq_true rfl) (Nat.le_of_ble_eq_true rfl) (Or.inr rfl) (Nat.zero_le _) (Nat.zero_le _) ?_; refine sp_20 ?_ ?_ ?_ ?_; dsimp only [Option.toList_some, Option.toList_none, List.cons_append, List.nil_append]; refine ap_calls0 ow_23 rm_7_249 na_69 mc_69 ms_69 rfl rfl (Nat.le_of_ble_eq_true rfl) (Nat.le_of_ble_eq_true rfl) rfl (Nat.zero_le _) (Nat.zero_le _) ?_; refine sp_69 ?_ ?_ ?_ ?_; dsimp only [Option.toList_some, Option.toList_none, List.cons_append, List.nil_append]; refine ap_lret rfl ?_
  · exact K
  all_goals (first | assumption | omega)

abbrev begB (f : Nat → Nat → Int) (n : Int) : Bool := bAll (fun i => decide (f 25 i = letZ n i)) (f 24 1).toNat
theorem bAll_f {p : Nat → Bool} {k : Nat} (h : p k = false) : ∀ n, k < n → bAll p n = false
  | 0, q => absurd q (by omega)
  | n + 1, q => by
    by_cases e : k = n
    · subst e; simp [bAll, h]
    · simp [bAll, bAll_f h n (by omega)]
theorem let_in {n i : Int} (h : 0 ≤ n ∧ n < 2147483648) : iR (letZ n i) := by
  unfold letZ
  repeat' split
  all_goals omega
theorem lp_78 {d L : Nat} {sw : Bool} {f g : Nat → Nat → Int} {Q : Option Value → am_H → Prop} {n : Int} (hs : 0 ≤ f 24 1 ∧ f 24 1 ≤ 3) (hn : 0 ≤ n ∧ n < 2147483648) (hv : ∀ k, iR (f 25 k)) (K : Q (some (.int (iZ (if begB f n = true then 1 else 0)))) (53, sh_lt L, iH f, jH g, sh_rt sw)) : ∀ (m k : Nat) (i : Int), (f 24 1).toNat = k + m → bAll (fun i => decide (f 25 i = letZ n i)) k = true → i = k → am_Wp (am_call (d + 1)) 78 Q 2 [some (.ref 24), some (.int (iZ n)), some (.int (iZ i))] [] (53, sh_lt L, iH f, jH g, sh_rt sw) (0, 0) := by
  intro m
  induction m with
  | zero =>
    intro k i hk hb ei
    refine ap_go kc_78_2 ?_
    refine ap_iload_n rfl ?_; refine ap_aload_n rfl ?_; refine ai_getI ow_78 rf_2_13 rfl rfl ?_
    refine ai_icge rfl rfl (fun hc0 => ?_) (fun hc0 => ?_) ?_
    · refine ap_go kc_78_32 ?_
      refine ai_iconst ?_; refine ai_zret rfl ?_ ?_
      · rw [if_pos (by unfold begB; rw [hk]; exact hb)] at K; exact K
      all_goals (omega)
    · exfalso; omega
    all_goals (omega)
  | succ m ih =>
    intro k i hk hb ei
    have e1 : i.toNat = k := by omega
    refine ap_go kc_78_2 ?_
    refine ap_iload_n rfl ?_; refine ap_aload_n rfl ?_; refine ai_getI ow_78 rf_2_13 rfl rfl ?_
    refine ai_icge rfl rfl (fun hc0 => ?_) (fun hc0 => ?_) ?_
    · exfalso; omega
    · refine ap_go kc_78_10 ?_
      refine ap_aload_n rfl ?_; refine ap_getR ow_78 rf_2_9 rfl rfl rfl ?_; refine ap_iload_n rfl ?_; refine ai_iaload (n := 3) rfl rfl (by decide) ?_ ?_; refine ap_iload_n rfl ?_; refine ap_iload_n rfl ?_; refine ap_calls0 ow_78 rm_2_21 na_79 mc_79 ms_79 rfl rfl (Nat.le_of_ble_eq_true rfl) (Nat.le_of_ble_eq_true rfl) rfl (Nat.zero_le _) (Nat.zero_le _) ?_; refine sp_79 ?_ ?_ ?_; dsimp only [Option.toList_some, Option.toList_none, List.cons_append, List.nil_append]
      refine ai_iceq rfl rfl (fun hc1 => ?_) (fun hc1 => ?_) ?_
      · refine ap_go kc_78_26 ?_
        refine ai_iinc rfl rfl ?_; refine ap_goto rfl ?_
        exact ih (k + 1) _ (by omega) (by rw [e1, ei] at hc1; simp [bAll, hb, hc1]) (by omega)
      · refine ap_go kc_78_24 ?_
        refine ai_iconst ?_; refine ai_zret rfl ?_ ?_
        · rw [if_neg (by unfold begB; rw [bAll_f (k := k) (by rw [e1, ei] at hc1; exact decide_eq_false hc1) _ (by omega)]; decide)] at K; exact K
        all_goals (first | omega | exact ⟨hv _, let_in hn⟩)
      all_goals (first | omega | exact ⟨hv _, let_in hn⟩)
    all_goals (first | omega | exact ⟨hv _, let_in hn⟩)
theorem sp_78 {d L : Nat} {sw : Bool} {f g : Nat → Nat → Int} {Q : Option Value → am_H → Prop} {n : Int} (K : Q (some (.int (iZ (if begB f n = true then 1 else 0)))) (53, sh_lt L, iH f, jH g, sh_rt sw)) (hs : 0 ≤ f 24 1 ∧ f 24 1 ≤ 3) (hn : 0 ≤ n ∧ n < 2147483648) (hv : ∀ k, iR (f 25 k)) : am_call (d + 2) 78 [.ref 24, .int (iZ n)] (53, sh_lt L, iH f, jH g, sh_rt sw) Q := by
  refine ap_call (by decide) (Nat.le_of_ble_eq_true rfl) rfl ?_
  refine ap_go kc_78_0 ?_
  refine ai_iconst ?_; refine ap_istore_n rfl ?_; refine ap_nil ?_
  exact lp_78 hs hn hv K (f 24 1).toNat 0 0 (by omega) rfl rfl
theorem lp_77 {d L : Nat} {sw : Bool} {f g : Nat → Nat → Int} {Q : Option Value → am_H → Prop} {N : Int} (hs : 0 ≤ f 24 1 ∧ f 24 1 ≤ 3) (hN : 0 ≤ N ∧ N ≤ 60) (hv : ∀ k, iR (f 25 k)) (K : Q (some (.int (iZ (cZ (fun n => begB f n) N.toNat)))) (53, sh_lt L, iH f, jH g, sh_rt sw)) : ∀ (m k : Nat) (c i : Int), N.toNat = k + m → c = cZ (fun n => begB f n) k → i = k + 1 → am_Wp (am_call (d + 2)) 77 Q 4 [some (.ref 24), some (.int (iZ N)), some (.int (iZ c)), some (.int (iZ i))] [] (53, sh_lt L, iH f, jH g, sh_rt sw) (0, 0) := by
  intro m
  induction m with
  | zero =>
    intro k c i hk ec ei
    have hb := cZ_in (fun n => begB f n) k
    refine ap_go kc_77_4 ?_
    refine ap_iload_n rfl ?_; refine ap_iload_n rfl ?_
    refine ai_icgt rfl rfl (fun hc0 => ?_) (fun hc0 => ?_) ?_
    · refine ap_go kc_77_26 ?_
      refine ap_iload_n rfl ?_; refine ap_iret rfl ?_
      rw [hk] at K; rw [ec]; exact K
    · exfalso; omega
    all_goals (omega)
  | succ m ih =>
    intro k c i hk ec ei
    have hb := cZ_in (fun n => begB f n) k
    have ei' : i = ((k + 1 : Nat) : Int) := by omega
    refine ap_go kc_77_4 ?_
    refine ap_iload_n rfl ?_; refine ap_iload_n rfl ?_
    refine ai_icgt rfl rfl (fun hc0 => ?_) (fun hc0 => ?_) ?_
    · exfalso; omega
    · refine ap_go kc_77_9 ?_
      refine ap_aload_n rfl ?_; refine ap_iload_n rfl ?_; refine ap_callv0 ow_77 rm_2_17 na_78 mc_78 ms_78 rfl rfl (Nat.le_of_ble_eq_true rfl) (Nat.le_of_ble_eq_true rfl) (Or.inr rfl) (Nat.zero_le _) (Nat.zero_le _) ?_; refine sp_78 ?_ ?_ ?_ ?_; dsimp only [Option.toList_some, Option.toList_none, List.cons_append, List.nil_append]
      refine ai_ifeq rfl rfl (fun hc1 => ?_) (fun hc1 => ?_) ?_
      · refine ap_go kc_77_20 ?_
        refine ai_iinc rfl rfl ?_; refine ap_goto rfl ?_
        exact ih (k + 1) _ _ (by omega) (by rw [ei'] at hc1; simp only [cZ]; split at hc1 <;> split <;> first | omega | contradiction) (by omega)
      · refine ap_go kc_77_17 ?_
        refine ai_iinc rfl rfl ?_; refine ap_nil ?_
        refine ap_go kc_77_20 ?_
        refine ai_iinc rfl rfl ?_; refine ap_goto rfl ?_
        exact ih (k + 1) _ _ (by omega) (by rw [ei'] at hc1; simp only [cZ]; split at hc1 <;> split <;> first | omega | contradiction) (by omega)
      all_goals (first | omega | exact hv | (split <;> omega))
    all_goals (first | omega | exact hv | (split <;> omega))
theorem sp_77 {d L : Nat} {sw : Bool} {f g : Nat → Nat → Int} {Q : Option Value → am_H → Prop} {N : Int} (K : Q (some (.int (iZ (cZ (fun n => begB f n) N.toNat)))) (53, sh_lt L, iH f, jH g, sh_rt sw)) (hs : 0 ≤ f 24 1 ∧ f 24 1 ≤ 3) (hN : 0 ≤ N ∧ N ≤ 60) (hv : ∀ k, iR (f 25 k)) : am_call (d + 3) 77 [.ref 24, .int (iZ N)] (53, sh_lt L, iH f, jH g, sh_rt sw) Q := by
  refine ap_call (by decide) (Nat.le_of_ble_eq_true rfl) rfl ?_
  refine ap_go kc_77_0 ?_
  refine ai_iconst ?_; refine ap_istore_n rfl ?_; refine ai_iconst ?_; refine ap_istore_n rfl ?_; refine ap_nil ?_
  exact lp_77 hs hN hv K N.toNat 0 0 1 (by omega) rfl rfl

theorem sp_1 {d L : Nat} {sw : Bool} {f g : Nat → Nat → Int} {Q : Option Value → am_H → Prop} {x y : Int} (K1 : ¬ (-10000 ≤ x ∧ x ≤ 10000 ∧ -10000 ≤ y ∧ y ≤ 10000) → Q (some (.int (iZ (-2)))) (53, sh_lt L, iH f, jH g, sh_rt sw)) (K2 : (-10000 ≤ x ∧ x ≤ 10000 ∧ -10000 ≤ y ∧ y ≤ 10000) ∧ f 1 3 = 60 → Q (some (.int (iZ (-4)))) (53, sh_lt L, iH f, jH g, sh_rt sw)) (K3 : (-10000 ≤ x ∧ x ≤ 10000 ∧ -10000 ≤ y ∧ y ≤ 10000) ∧ f 1 3 < 60 → Q (some (.int (iZ (f 1 3 + 1)))) (53, sh_lt L, iH (am_up f 1 3 (f 1 3 + 1)), jH (am_up (am_up g 2 (f 1 3 + 1).toNat x) 3 (f 1 3 + 1).toNat y), sh_rt sw)) (hx : lR x) (hy : lR y) (hc : 0 ≤ f 1 3 ∧ f 1 3 ≤ 60) : am_call (d + 2) 1 [.ref 0, .long (lZ x), .long (lZ y)] (53, sh_lt L, iH f, jH g, sh_rt sw) Q := by
  refine ap_call (by decide) (Nat.le_of_ble_eq_true rfl) rfl ?_
  refine ap_go kc_1_0 ?_
  refine ap_lload_n rfl ?_; refine ai_ldc2 (10000) ow_1 kl_7_70 rfl ?_; refine ap_calls0 ow_1 rm_7_72 na_15 mc_15 ms_15 rfl rfl (Nat.le_of_ble_eq_true rfl) (Nat.le_of_ble_eq_true rfl) rfl (Nat.zero_le _) (Nat.zero_le _) ?_; refine sp_15 ?_ ?_ ?_; dsimp only [Option.toList_some, Option.toList_none, List.cons_append, List.nil_append]
  refine ai_ifeq rfl rfl (fun hb0 => ?_) (fun hb0 => ?_) ?_
  · refine ap_go kc_1_20 ?_
    refine ai_bipush (by decide) ?_; refine ap_iret rfl ?_
    (try simp only [bz, Decidable.not_not] at *); first | exact K1  (by omega) | exact K2  (by omega) | exact K3  (by omega)
  · refine ap_go kc_1_10 ?_
    refine ap_lload_n rfl ?_; refine ai_ldc2 (10000) ow_1 kl_7_70 rfl ?_; refine ap_calls0 ow_1 rm_7_72 na_15 mc_15 ms_15 rfl rfl (Nat.le_of_ble_eq_true rfl) (Nat.le_of_ble_eq_true rfl) rfl (Nat.zero_le _) (Nat.zero_le _) ?_; refine sp_15 ?_ ?_ ?_; dsimp only [Option.toList_some, Option.toList_none, List.cons_append, List.nil_append]
    refine ai_ifne rfl rfl (fun hb1 => ?_) (fun hb1 => ?_) ?_
    · refine ap_go kc_1_23 ?_
      refine ap_aload_n rfl ?_; refine ap_getR ow_1 rf_7_14 rfl rfl rfl ?_; refine ap_callv0 ow_1 rm_7_76 na_83 mc_83 ms_83 rfl rfl (Nat.le_of_ble_eq_true rfl) (Nat.le_of_ble_eq_true rfl) (Or.inr rfl) (Nat.zero_le _) (Nat.zero_le _) ?_; refine sp_83 ?_ ?_; dsimp only [Option.toList_some, Option.toList_none, List.cons_append, List.nil_append]
      refine ai_ifeq rfl rfl (fun hb2 => ?_) (fun hb2 => ?_) ?_
      · refine ap_go kc_1_36 ?_
        refine ap_aload_n rfl ?_; refine ap_getR ow_1 rf_7_14 rfl rfl rfl ?_; refine ap_lload_n rfl ?_; refine ap_lload_n rfl ?_; refine ap_callv0 ow_1 rm_7_80 na_84 mc_84 ms_84 rfl rfl (Nat.le_of_ble_eq_true rfl) (Nat.le_of_ble_eq_true rfl) (Or.inr rfl) (Nat.zero_le _) (Nat.zero_le _) ?_; refine sp_84 ?_ ?_; dsimp only [Option.toList_some, Option.toList_none, List.cons_append, List.nil_append]; refine ap_iret rfl ?_
        · (try simp only [bz, Decidable.not_not] at *); first | exact K1  (by omega) | exact K2  (by omega) | exact K3  (by omega)
        all_goals (first | omega | (split <;> omega) | (simp only [bz, Decidable.not_not] at *; omega))
      · refine ap_go kc_1_33 ?_
        refine ai_bipush (by decide) ?_; refine ap_iret rfl ?_
        (try simp only [bz, Decidable.not_not] at *); first | exact K1  (by omega) | exact K2  (by omega) | exact K3  (by omega)
      all_goals (first | omega | (split <;> omega) | (simp only [bz, Decidable.not_not] at *; omega))
    · refine ap_go kc_1_20 ?_
      refine ai_bipush (by decide) ?_; refine ap_iret rfl ?_
      (try simp only [bz, Decidable.not_not] at *); first | exact K1  (by omega) | exact K2  (by omega) | exact K3  (by omega)
    all_goals (first | omega | (split <;> omega) | (simp only [bz, Decidable.not_not] at *; omega))
  all_goals (first | omega | (split <;> omega) | (simp only [bz, Decidable.not_not] at *; omega))

theorem sp_4 {d L : Nat} {sw : Bool} {f g : Nat → Nat → Int} {Q : Option Value → am_H → Prop} {n p : Int} (K1 : ¬ (1 ≤ n ∧ n ≤ f 1 3) → Q (some (.int (iZ (-1)))) (53, sh_lt L, iH f, jH g, sh_rt sw)) (K2 : (1 ≤ n ∧ n ≤ f 1 3) ∧ ¬ (0 ≤ p ∧ p ≤ 1000000) → Q (some (.int (iZ (-2)))) (53, sh_lt L, iH f, jH g, sh_rt sw)) (K3 : (1 ≤ n ∧ n ≤ f 1 3) ∧ (0 ≤ p ∧ p ≤ 1000000) → Q (some (.int (iZ (cZ (fun k => decide (0 < am_up g 4 n.toNat p 4 k)) (f 1 3).toNat)))) (53, sh_lt L, iH f, jH (am_up g 4 n.toNat p), sh_rt sw)) (hn : iR n) (hp : lR p) (hc : 0 ≤ f 1 3 ∧ f 1 3 ≤ 60) (hr : ∀ k, lR (g 4 k)) : am_call (d + 3) 4 [.ref 0, .int (iZ n), .long (lZ p)] (53, sh_lt L, iH f, jH g, sh_rt sw) Q := by
  refine ap_call (by decide) (Nat.le_of_ble_eq_true rfl) rfl ?_
  refine ap_go kc_4_0 ?_
  refine ap_aload_n rfl ?_; refine ap_getR ow_4 rf_7_14 rfl rfl rfl ?_; refine ap_iload_n rfl ?_; refine ap_callv0 ow_4 rm_7_84 na_82 mc_82 ms_82 rfl rfl (Nat.le_of_ble_eq_true rfl) (Nat.le_of_ble_eq_true rfl) (Or.inr rfl) (Nat.zero_le _) (Nat.zero_le _) ?_; refine sp_82 ?_ ?_ ?_; dsimp only [Option.toList_some, Option.toList_none, List.cons_append, List.nil_append]
  refine ai_ifne rfl rfl (fun hb0 => ?_) (fun hb0 => ?_) ?_
  · refine ap_go kc_4_13 ?_
    refine ap_lload_n rfl ?_; refine ai_lconst 0 rfl ?_
    refine ai_lclt rfl rfl (fun hb1 => ?_) (fun hb1 => ?_) ?_
    · refine ap_go kc_4_27 ?_
      refine ai_bipush (by decide) ?_; refine ap_iret rfl ?_
      (try simp only [bz, Decidable.not_not] at *); first | exact K1  (by omega) | exact K2  (by omega) | exact K3  (by omega)
    · refine ap_go kc_4_19 ?_
      refine ap_lload_n rfl ?_; refine ai_ldc2 (1000000) ow_4 kl_7_119 rfl ?_
      refine ai_lcle rfl rfl (fun hb2 => ?_) (fun hb2 => ?_) ?_
      · refine ap_go kc_4_30 ?_
        refine ap_aload_n rfl ?_; refine ap_getR ow_4 rf_7_14 rfl rfl rfl ?_; refine ap_iload_n rfl ?_; refine ap_lload_n rfl ?_; refine ap_callv0 ow_4 rm_7_121 na_88 mc_88 ms_88 rfl rfl (Nat.le_of_ble_eq_true rfl) (Nat.le_of_ble_eq_true rfl) (Or.inr rfl) (Nat.zero_le _) (Nat.zero_le _) ?_; refine sp_88 ?_ ?_; dsimp only [Option.toList_some, Option.toList_none, List.cons_append, List.nil_append]; refine ap_aload_n rfl ?_; refine ap_getR ow_4 rf_7_14 rfl rfl rfl ?_; refine ap_callv0 ow_4 rm_7_125 na_91 mc_91 ms_91 rfl rfl (Nat.le_of_ble_eq_true rfl) (Nat.le_of_ble_eq_true rfl) (Or.inr rfl) (Nat.zero_le _) (Nat.zero_le _) ?_; refine sp_91 ?_ ?_ ?_; dsimp only [Option.toList_some, Option.toList_none, List.cons_append, List.nil_append]; refine ap_iret rfl ?_
        · (try simp only [bz, Decidable.not_not] at *); first | exact K1  (by omega) | exact K2  (by omega) | exact K3  (by omega)
        all_goals (first | omega | (split <;> omega) | (intro k; simp only [am_up]; split <;> first | omega | exact hr k) | (simp only [bz, Decidable.not_not] at *; omega))
      · refine ap_go kc_4_27 ?_
        refine ai_bipush (by decide) ?_; refine ap_iret rfl ?_
        (try simp only [bz, Decidable.not_not] at *); first | exact K1  (by omega) | exact K2  (by omega) | exact K3  (by omega)
      all_goals (first | omega | (split <;> omega) | (intro k; simp only [am_up]; split <;> first | omega | exact hr k) | (simp only [bz, Decidable.not_not] at *; omega))
    all_goals (first | omega | (split <;> omega) | (intro k; simp only [am_up]; split <;> first | omega | exact hr k) | (simp only [bz, Decidable.not_not] at *; omega))
  · refine ap_go kc_4_11 ?_
    refine ai_iconst ?_; refine ap_iret rfl ?_
    (try simp only [bz, Decidable.not_not] at *); first | exact K1  (by omega) | exact K2  (by omega) | exact K3  (by omega)
  all_goals (first | omega | (split <;> omega) | (intro k; simp only [am_up]; split <;> first | omega | exact hr k) | (simp only [bz, Decidable.not_not] at *; omega))

theorem sp_3 {d L : Nat} {sw : Bool} {f g : Nat → Nat → Int} {Q : Option Value → am_H → Prop} {s t b : Int} (K1 : ¬ ((1 ≤ s ∧ s ≤ f 5 8) ∧ (1 ≤ t ∧ t ≤ f 5 8)) → Q (some (.int (iZ (-1)))) (53, sh_lt L, iH f, jH g, sh_rt sw)) (K2 : ((1 ≤ s ∧ s ≤ f 5 8) ∧ (1 ≤ t ∧ t ≤ f 5 8)) ∧ ¬ f 6 t.toNat = f 7 s.toNat → Q (some (.int (iZ (-2)))) (53, sh_lt L, iH f, jH g, sh_rt sw)) (K3 : ((1 ≤ s ∧ s ≤ f 5 8) ∧ (1 ≤ t ∧ t ≤ f 5 8)) ∧ f 6 t.toNat = f 7 s.toNat → (if w_bit (g 13 (2 * s + t / 64).toNat) (t % 64).toNat = true then (1 : Int) else 0) = b → Q (some (.int (iZ (0)))) (53, sh_lt L, iH f, jH g, sh_rt sw)) (K4 : ((1 ≤ s ∧ s ≤ f 5 8) ∧ (1 ≤ t ∧ t ≤ f 5 8)) ∧ f 6 t.toNat = f 7 s.toNat → ¬ (if w_bit (g 13 (2 * s + t / 64).toNat) (t % 64).toNat = true then (1 : Int) else 0) = b → Q (some (.int (iZ (1)))) (53, sh_lt L, iH f, jH (am_up g 13 (s * 2 + t / 64).toNat (w_xor (g 13 (s * 2 + t / 64).toNat) (w_shl 1 (t % 64)))), sh_rt sw)) (hs : iR s) (ht : iR t) (hb : b = 0 ∨ b = 1) (hc : 0 ≤ f 5 8 ∧ f 5 8 ≤ 120) (h6 : ∀ k, iR (f 6 k)) (h7 : ∀ k, iR (f 7 k)) : am_call (d + 2) 3 [.ref 0, .int (iZ s), .int (iZ t), .int (iZ b)] (53, sh_lt L, iH f, jH g, sh_rt sw) Q := by
  refine ap_call (by decide) (Nat.le_of_ble_eq_true rfl) rfl ?_
  refine ap_go kc_3_0 ?_
  refine ap_aload_n rfl ?_; refine ap_getR ow_3 rf_7_21 rfl rfl rfl ?_; refine ap_iload_n rfl ?_; refine ap_callv0 ow_3 rm_7_103 na_94 mc_94 ms_94 rfl rfl (Nat.le_of_ble_eq_true rfl) (Nat.le_of_ble_eq_true rfl) (Or.inr rfl) (Nat.zero_le _) (Nat.zero_le _) ?_; refine sp_94 ?_ ?_ ?_; dsimp only [Option.toList_some, Option.toList_none, List.cons_append, List.nil_append]
  refine ai_ifeq rfl rfl (fun hb0 => ?_) (fun hb0 => ?_) ?_
  · refine ap_go kc_3_22 ?_
    refine ai_iconst ?_; refine ap_iret rfl ?_
    (try simp only [bz, Decidable.not_not] at *); first | exact K1  (by omega) | exact K2  (by omega) | exact K3 (by omega) (by omega) | exact K4 (by omega) (by omega)
  · refine ap_go kc_3_11 ?_
    refine ap_aload_n rfl ?_; refine ap_getR ow_3 rf_7_21 rfl rfl rfl ?_; refine ap_iload_n rfl ?_; refine ap_callv0 ow_3 rm_7_103 na_94 mc_94 ms_94 rfl rfl (Nat.le_of_ble_eq_true rfl) (Nat.le_of_ble_eq_true rfl) (Or.inr rfl) (Nat.zero_le _) (Nat.zero_le _) ?_; refine sp_94 ?_ ?_ ?_; dsimp only [Option.toList_some, Option.toList_none, List.cons_append, List.nil_append]
    refine ai_ifne rfl rfl (fun hb1 => ?_) (fun hb1 => ?_) ?_
    · refine ap_go kc_3_24 ?_
      refine ap_aload_n rfl ?_; refine ap_getR ow_3 rf_7_21 rfl rfl rfl ?_; refine ap_iload_n rfl ?_; refine ap_callv0 ow_3 rm_7_104 na_98 mc_98 ms_98 rfl rfl (Nat.le_of_ble_eq_true rfl) (Nat.le_of_ble_eq_true rfl) (Or.inr rfl) (Nat.zero_le _) (Nat.zero_le _) ?_; refine sp_98 ?_ ?_; dsimp only [Option.toList_some, Option.toList_none, List.cons_append, List.nil_append]; refine ap_aload_n rfl ?_; refine ap_getR ow_3 rf_7_21 rfl rfl rfl ?_; refine ap_iload_n rfl ?_; refine ap_callv0 ow_3 rm_7_108 na_99 mc_99 ms_99 rfl rfl (Nat.le_of_ble_eq_true rfl) (Nat.le_of_ble_eq_true rfl) (Or.inr rfl) (Nat.zero_le _) (Nat.zero_le _) ?_; refine sp_99 ?_ ?_; dsimp only [Option.toList_some, Option.toList_none, List.cons_append, List.nil_append]
      refine ai_iceq rfl rfl (fun hb2 => ?_) (fun hb2 => ?_) ?_
      · refine ap_go kc_3_46 ?_
        refine ap_aload_n rfl ?_; refine ap_getR ow_3 rf_7_21 rfl rfl rfl ?_; refine ap_iload_n rfl ?_; refine ap_iload_n rfl ?_; refine ap_callv0 ow_3 rm_7_111 na_102 mc_102 ms_102 rfl rfl (Nat.le_of_ble_eq_true rfl) (Nat.le_of_ble_eq_true rfl) (Or.inr rfl) (Nat.zero_le _) (Nat.zero_le _) ?_; refine sp_102 ?_ ?_ ?_; dsimp only [Option.toList_some, Option.toList_none, List.cons_append, List.nil_append]; refine ap_iload_n rfl ?_
        refine ai_icne rfl rfl (fun hb3 => ?_) (fun hb3 => ?_) ?_
        · refine ap_go kc_3_61 ?_
          refine ap_aload_n rfl ?_; refine ap_getR ow_3 rf_7_21 rfl rfl rfl ?_; refine ap_iload_n rfl ?_; refine ap_iload_n rfl ?_; refine ap_callv0 ow_3 rm_7_115 na_103 mc_103 ms_103 rfl rfl (Nat.le_of_ble_eq_true rfl) (Nat.le_of_ble_eq_true rfl) (Or.inr rfl) (Nat.zero_le _) (Nat.zero_le _) ?_; refine sp_103 ?_ ?_ ?_; dsimp only [Option.toList_some, Option.toList_none, List.cons_append, List.nil_append]; refine ai_iconst ?_; refine ap_iret rfl ?_
          · (try simp only [bz, Decidable.not_not] at *); first | exact K1  (by omega) | exact K2  (by omega) | exact K3 (by omega) (by omega) | exact K4 (by omega) (by omega)
          all_goals (first | omega | exact ⟨h6 _, h7 _⟩ | (split <;> omega) | (simp only [bz, Decidable.not_not] at *; omega))
        · refine ap_go kc_3_59 ?_
          refine ai_iconst ?_; refine ap_iret rfl ?_
          (try simp only [bz, Decidable.not_not] at *); first | exact K1  (by omega) | exact K2  (by omega) | exact K3 (by omega) (by omega) | exact K4 (by omega) (by omega)
        all_goals (first | omega | exact ⟨h6 _, h7 _⟩ | (split <;> omega) | (simp only [bz, Decidable.not_not] at *; omega))
      · refine ap_go kc_3_43 ?_
        refine ai_bipush (by decide) ?_; refine ap_iret rfl ?_
        (try simp only [bz, Decidable.not_not] at *); first | exact K1  (by omega) | exact K2  (by omega) | exact K3 (by omega) (by omega) | exact K4 (by omega) (by omega)
      all_goals (first | omega | exact ⟨h6 _, h7 _⟩ | (split <;> omega) | (simp only [bz, Decidable.not_not] at *; omega))
    · refine ap_go kc_3_22 ?_
      refine ai_iconst ?_; refine ap_iret rfl ?_
      (try simp only [bz, Decidable.not_not] at *); first | exact K1  (by omega) | exact K2  (by omega) | exact K3 (by omega) (by omega) | exact K4 (by omega) (by omega)
    all_goals (first | omega | exact ⟨h6 _, h7 _⟩ | (split <;> omega) | (simp only [bz, Decidable.not_not] at *; omega))
  all_goals (first | omega | exact ⟨h6 _, h7 _⟩ | (split <;> omega) | (simp only [bz, Decidable.not_not] at *; omega))

theorem sp_9 {d L : Nat} {sw : Bool} {f g : Nat → Nat → Int} {Q : Option Value → am_H → Prop} {s v w : Int} (K1 : ¬ (1 ≤ s ∧ s ≤ f 5 8) → Q (some (.int (iZ (-1)))) (53, sh_lt L, iH f, jH g, sh_rt sw)) (K2 : (1 ≤ s ∧ s ≤ f 5 8) ∧ ¬ (0 ≤ v ∧ v ≤ 1000 ∧ 0 ≤ w) → Q (some (.int (iZ (-2)))) (53, sh_lt L, iH f, jH g, sh_rt sw)) (K3 : (1 ≤ s ∧ s ≤ f 5 8) ∧ (0 ≤ v ∧ v ≤ 1000 ∧ 0 ≤ w) → Q (some (.int (iZ (cZ (fun k => decide (g 0 8 + 1 ≤ am_up (am_up g 11 s.toNat v) 12 s.toNat w 12 k)) (f 5 8).toNat)))) (53, sh_lt L, iH f, jH (am_up (am_up g 11 s.toNat v) 12 s.toNat w), sh_rt sw)) (hs : iR s) (hv : lR v) (hw : lR w) (hc : 0 ≤ f 5 8 ∧ f 5 8 ≤ 120) (hp : 0 ≤ g 0 8 ∧ g 0 8 < 1000000) (hr : ∀ k, lR (g 12 k)) : am_call (d + 2) 9 [.ref 0, .int (iZ s), .long (lZ v), .long (lZ w)] (53, sh_lt L, iH f, jH g, sh_rt sw) Q := by
  refine ap_call (by decide) (Nat.le_of_ble_eq_true rfl) rfl ?_
  refine ap_go kc_9_0 ?_
  refine ap_aload_n rfl ?_; refine ap_getR ow_9 rf_7_21 rfl rfl rfl ?_; refine ap_iload_n rfl ?_; refine ap_callv0 ow_9 rm_7_103 na_94 mc_94 ms_94 rfl rfl (Nat.le_of_ble_eq_true rfl) (Nat.le_of_ble_eq_true rfl) (Or.inr rfl) (Nat.zero_le _) (Nat.zero_le _) ?_; refine sp_94 ?_ ?_ ?_; dsimp only [Option.toList_some, Option.toList_none, List.cons_append, List.nil_append]
  refine ai_ifne rfl rfl (fun hb0 => ?_) (fun hb0 => ?_) ?_
  · refine ap_go kc_9_13 ?_
    refine ap_lload_n rfl ?_; refine ai_lconst 0 rfl ?_
    refine ai_lclt rfl rfl (fun hb1 => ?_) (fun hb1 => ?_) ?_
    · refine ap_go kc_9_34 ?_
      refine ai_bipush (by decide) ?_; refine ap_iret rfl ?_
      (try simp only [bz, Decidable.not_not] at *); first | exact K1  (by omega) | exact K2  (by omega) | exact K3  (by omega)
    · refine ap_go kc_9_19 ?_
      refine ap_lload_n rfl ?_; refine ai_ldc2 (1000) ow_9 kl_7_90 rfl ?_
      refine ai_lcgt rfl rfl (fun hb2 => ?_) (fun hb2 => ?_) ?_
      · refine ap_go kc_9_34 ?_
        refine ai_bipush (by decide) ?_; refine ap_iret rfl ?_
        (try simp only [bz, Decidable.not_not] at *); first | exact K1  (by omega) | exact K2  (by omega) | exact K3  (by omega)
      · refine ap_go kc_9_27 ?_
        refine ap_lload rfl ?_; refine ai_lconst 0 rfl ?_
        refine ai_lcge rfl rfl (fun hb3 => ?_) (fun hb3 => ?_) ?_
        · refine ap_go kc_9_37 ?_
          refine ap_aload_n rfl ?_; refine ap_getR ow_9 rf_7_21 rfl rfl rfl ?_; refine ap_iload_n rfl ?_; refine ap_lload_n rfl ?_; refine ap_lload rfl ?_; refine ap_callv0 ow_9 rm_7_173 na_104 mc_104 ms_104 rfl rfl (Nat.le_of_ble_eq_true rfl) (Nat.le_of_ble_eq_true rfl) (Or.inr rfl) (Nat.zero_le _) (Nat.zero_le _) ?_; refine sp_104 ?_ ?_; dsimp only [Option.toList_some, Option.toList_none, List.cons_append, List.nil_append]; refine ap_aload_n rfl ?_; refine ap_getR ow_9 rf_7_21 rfl rfl rfl ?_; refine ap_aload_n rfl ?_; refine ai_getJ ow_9 rf_7_62 rfl rfl ?_; refine ai_lconst 1 rfl ?_; refine ai_ladd ?_; refine ap_callv0 ow_9 rm_7_177 na_105 mc_105 ms_105 rfl rfl (Nat.le_of_ble_eq_true rfl) (Nat.le_of_ble_eq_true rfl) (Or.inr rfl) (Nat.zero_le _) (Nat.zero_le _) ?_; refine sp_105 ?_ ?_ ?_ ?_; dsimp only [Option.toList_some, Option.toList_none, List.cons_append, List.nil_append]; refine ap_iret rfl ?_
          · (try simp only [bz, Decidable.not_not] at *); first | exact K1  (by omega) | exact K2  (by omega) | exact K3  (by omega)
          all_goals (first | omega | (simp [am_up] <;> omega) | (intro k; simp only [am_up]; split <;> first | omega | (split <;> first | omega | exact hr k) | exact hr k) | (split <;> omega) | (simp only [bz, Decidable.not_not] at *; omega))
        · refine ap_go kc_9_34 ?_
          refine ai_bipush (by decide) ?_; refine ap_iret rfl ?_
          (try simp only [bz, Decidable.not_not] at *); first | exact K1  (by omega) | exact K2  (by omega) | exact K3  (by omega)
        all_goals (first | omega | (simp [am_up] <;> omega) | (intro k; simp only [am_up]; split <;> first | omega | (split <;> first | omega | exact hr k) | exact hr k) | (split <;> omega) | (simp only [bz, Decidable.not_not] at *; omega))
      all_goals (first | omega | (simp [am_up] <;> omega) | (intro k; simp only [am_up]; split <;> first | omega | (split <;> first | omega | exact hr k) | exact hr k) | (split <;> omega) | (simp only [bz, Decidable.not_not] at *; omega))
    all_goals (first | omega | (simp [am_up] <;> omega) | (intro k; simp only [am_up]; split <;> first | omega | (split <;> first | omega | exact hr k) | exact hr k) | (split <;> omega) | (simp only [bz, Decidable.not_not] at *; omega))
  · refine ap_go kc_9_11 ?_
    refine ai_iconst ?_; refine ap_iret rfl ?_
    (try simp only [bz, Decidable.not_not] at *); first | exact K1  (by omega) | exact K2  (by omega) | exact K3  (by omega)
  all_goals (first | omega | (simp [am_up] <;> omega) | (intro k; simp only [am_up]; split <;> first | omega | (split <;> first | omega | exact hr k) | exact hr k) | (split <;> omega) | (simp only [bz, Decidable.not_not] at *; omega))

theorem sp_12 {d L : Nat} {sw : Bool} {f g : Nat → Nat → Int} {Q : Option Value → am_H → Prop} {c : Int} (K1 : ¬ (c = 0 ∨ 97 ≤ c ∧ c ≤ 122) → Q (some (.int (iZ (-2)))) (53, sh_lt L, iH f, jH g, sh_rt sw)) (K2 : 97 ≤ c ∧ c ≤ 122 ∧ f 24 1 = 3 → Q (some (.int (iZ (-3)))) (53, sh_lt L, iH f, jH g, sh_rt sw)) (K3 : c = 0 → Q (some (.int (iZ (cZ (fun n => begB (am_up f 24 1 0) n) (f 1 3).toNat)))) (53, sh_lt L, iH (am_up f 24 1 0), jH g, sh_rt sw)) (K4 : 97 ≤ c ∧ c ≤ 122 ∧ f 24 1 < 3 → Q (some (.int (iZ (cZ (fun n => begB (am_up (am_up f 25 (f 24 1).toNat (c - 97)) 24 1 (f 24 1 + 1)) n) (f 1 3).toNat)))) (53, sh_lt L, iH (am_up (am_up f 25 (f 24 1).toNat (c - 97)) 24 1 (f 24 1 + 1)), jH g, sh_rt sw)) (hc : iR c) (hs : 0 ≤ f 24 1 ∧ f 24 1 ≤ 3) (hn : 0 ≤ f 1 3 ∧ f 1 3 ≤ 60) (hv : ∀ k, iR (f 25 k)) : am_call (d + 4) 12 [.ref 0, .int (iZ c)] (53, sh_lt L, iH f, jH g, sh_rt sw) Q := by
  refine ap_call (by decide) (Nat.le_of_ble_eq_true rfl) rfl ?_
  refine ap_go kc_12_0 ?_
  refine ap_iload_n rfl ?_
  refine ai_ifeq rfl rfl (fun hb0 => ?_) (fun hb0 => ?_) ?_
  · refine ap_go kc_12_18 ?_
    refine ap_iload_n rfl ?_
    refine ai_ifne rfl rfl (fun hb1 => ?_) (fun hb1 => ?_) ?_
    · refine ap_go kc_12_32 ?_
      refine ap_aload_n rfl ?_; refine ap_getR ow_12 rf_7_37 rfl rfl rfl ?_; refine ap_callv0 ow_12 rm_7_198 na_74 mc_74 ms_74 rfl rfl (Nat.le_of_ble_eq_true rfl) (Nat.le_of_ble_eq_true rfl) (Or.inr rfl) (Nat.zero_le _) (Nat.zero_le _) ?_; refine sp_74 ?_ ?_; dsimp only [Option.toList_some, Option.toList_none, List.cons_append, List.nil_append]
      refine ai_ifeq rfl rfl (fun hb2 => ?_) (fun hb2 => ?_) ?_
      · refine ap_go kc_12_45 ?_
        refine ap_aload_n rfl ?_; refine ap_getR ow_12 rf_7_37 rfl rfl rfl ?_; refine ap_iload_n rfl ?_; refine ap_callv0 ow_12 rm_7_199 na_76 mc_76 ms_76 rfl rfl (Nat.le_of_ble_eq_true rfl) (Nat.le_of_ble_eq_true rfl) (Or.inr rfl) (Nat.zero_le _) (Nat.zero_le _) ?_; refine sp_76 ?_ ?_; dsimp only [Option.toList_some, Option.toList_none, List.cons_append, List.nil_append]; refine ap_nil ?_
        · refine ap_go kc_12_53 ?_
          refine ap_aload_n rfl ?_; refine ap_getR ow_12 rf_7_37 rfl rfl rfl ?_; refine ap_aload_n rfl ?_; refine ap_getR ow_12 rf_7_14 rfl rfl rfl ?_; refine ap_callv0 ow_12 rm_7_202 na_81 mc_81 ms_81 rfl rfl (Nat.le_of_ble_eq_true rfl) (Nat.le_of_ble_eq_true rfl) (Or.inr rfl) (Nat.zero_le _) (Nat.zero_le _) ?_; refine sp_81 ?_; dsimp only [Option.toList_some, Option.toList_none, List.cons_append, List.nil_append]; refine ap_callv0 ow_12 rm_7_203 na_77 mc_77 ms_77 rfl rfl (Nat.le_of_ble_eq_true rfl) (Nat.le_of_ble_eq_true rfl) (Or.inr rfl) (Nat.zero_le _) (Nat.zero_le _) ?_; refine sp_77 ?_ ?_ ?_ ?_; dsimp only [Option.toList_some, Option.toList_none, List.cons_append, List.nil_append]; refine ap_iret rfl ?_
          · (try simp only [bz, Decidable.not_not] at *); first | exact K1  (by omega) | exact K2  (by omega) | exact K3  (by omega) | exact K4  (by omega)
          all_goals (first | omega | (simp [am_up] <;> omega) | (intro k; simp only [am_up]; split <;> first | omega | (split <;> first | omega | exact hv k) | exact hv k) | (simp only [bz, Decidable.not_not] at *; omega) | (simp only [bz, Decidable.not_not] at *; simp [am_up] <;> omega))
        all_goals (first | omega | (simp [am_up] <;> omega) | (intro k; simp only [am_up]; split <;> first | omega | (split <;> first | omega | exact hv k) | exact hv k) | (simp only [bz, Decidable.not_not] at *; omega) | (simp only [bz, Decidable.not_not] at *; simp [am_up] <;> omega))
      · refine ap_go kc_12_42 ?_
        refine ai_bipush (by decide) ?_; refine ap_iret rfl ?_
        (try simp only [bz, Decidable.not_not] at *); first | exact K1  (by omega) | exact K2  (by omega) | exact K3  (by omega) | exact K4  (by omega)
      all_goals (first | omega | (simp [am_up] <;> omega) | (intro k; simp only [am_up]; split <;> first | omega | (split <;> first | omega | exact hv k) | exact hv k) | (simp only [bz, Decidable.not_not] at *; omega) | (simp only [bz, Decidable.not_not] at *; simp [am_up] <;> omega))
    · refine ap_go kc_12_22 ?_
      refine ap_aload_n rfl ?_; refine ap_getR ow_12 rf_7_37 rfl rfl rfl ?_; refine ap_callv0 ow_12 rm_7_195 na_75 mc_75 ms_75 rfl rfl (Nat.le_of_ble_eq_true rfl) (Nat.le_of_ble_eq_true rfl) (Or.inr rfl) (Nat.zero_le _) (Nat.zero_le _) ?_; refine sp_75 ?_; dsimp only [Option.toList_some, Option.toList_none, List.cons_append, List.nil_append]; refine ap_goto rfl ?_
      refine ap_go kc_12_53 ?_
      refine ap_aload_n rfl ?_; refine ap_getR ow_12 rf_7_37 rfl rfl rfl ?_; refine ap_aload_n rfl ?_; refine ap_getR ow_12 rf_7_14 rfl rfl rfl ?_; refine ap_callv0 ow_12 rm_7_202 na_81 mc_81 ms_81 rfl rfl (Nat.le_of_ble_eq_true rfl) (Nat.le_of_ble_eq_true rfl) (Or.inr rfl) (Nat.zero_le _) (Nat.zero_le _) ?_; refine sp_81 ?_; dsimp only [Option.toList_some, Option.toList_none, List.cons_append, List.nil_append]; refine ap_callv0 ow_12 rm_7_203 na_77 mc_77 ms_77 rfl rfl (Nat.le_of_ble_eq_true rfl) (Nat.le_of_ble_eq_true rfl) (Or.inr rfl) (Nat.zero_le _) (Nat.zero_le _) ?_; refine sp_77 ?_ ?_ ?_ ?_; dsimp only [Option.toList_some, Option.toList_none, List.cons_append, List.nil_append]; refine ap_iret rfl ?_
      · (try simp only [bz, Decidable.not_not] at *); first | exact K1  (by omega) | exact K2  (by omega) | exact K3  (by omega) | exact K4  (by omega)
      all_goals (first | omega | (simp [am_up] <;> omega) | (intro k; simp only [am_up]; split <;> first | omega | (split <;> first | omega | exact hv k) | exact hv k) | (simp only [bz, Decidable.not_not] at *; omega) | (simp only [bz, Decidable.not_not] at *; simp [am_up] <;> omega))
    all_goals (first | omega | (simp [am_up] <;> omega) | (intro k; simp only [am_up]; split <;> first | omega | (split <;> first | omega | exact hv k) | exact hv k) | (simp only [bz, Decidable.not_not] at *; omega) | (simp only [bz, Decidable.not_not] at *; simp [am_up] <;> omega))
  · refine ap_go kc_12_4 ?_
    refine ap_aload_n rfl ?_; refine ap_getR ow_12 rf_7_37 rfl rfl rfl ?_; refine ap_iload_n rfl ?_; refine ap_callv0 ow_12 rm_7_192 na_73 mc_73 ms_73 rfl rfl (Nat.le_of_ble_eq_true rfl) (Nat.le_of_ble_eq_true rfl) (Or.inr rfl) (Nat.zero_le _) (Nat.zero_le _) ?_; refine sp_73 ?_ ?_; dsimp only [Option.toList_some, Option.toList_none, List.cons_append, List.nil_append]
    refine ai_ifne rfl rfl (fun hb3 => ?_) (fun hb3 => ?_) ?_
    · refine ap_go kc_12_18 ?_
      refine ap_iload_n rfl ?_
      refine ai_ifne rfl rfl (fun hb4 => ?_) (fun hb4 => ?_) ?_
      · refine ap_go kc_12_32 ?_
        refine ap_aload_n rfl ?_; refine ap_getR ow_12 rf_7_37 rfl rfl rfl ?_; refine ap_callv0 ow_12 rm_7_198 na_74 mc_74 ms_74 rfl rfl (Nat.le_of_ble_eq_true rfl) (Nat.le_of_ble_eq_true rfl) (Or.inr rfl) (Nat.zero_le _) (Nat.zero_le _) ?_; refine sp_74 ?_ ?_; dsimp only [Option.toList_some, Option.toList_none, List.cons_append, List.nil_append]
        refine ai_ifeq rfl rfl (fun hb5 => ?_) (fun hb5 => ?_) ?_
        · refine ap_go kc_12_45 ?_
          refine ap_aload_n rfl ?_; refine ap_getR ow_12 rf_7_37 rfl rfl rfl ?_; refine ap_iload_n rfl ?_; refine ap_callv0 ow_12 rm_7_199 na_76 mc_76 ms_76 rfl rfl (Nat.le_of_ble_eq_true rfl) (Nat.le_of_ble_eq_true rfl) (Or.inr rfl) (Nat.zero_le _) (Nat.zero_le _) ?_; refine sp_76 ?_ ?_; dsimp only [Option.toList_some, Option.toList_none, List.cons_append, List.nil_append]; refine ap_nil ?_
          · refine ap_go kc_12_53 ?_
            refine ap_aload_n rfl ?_; refine ap_getR ow_12 rf_7_37 rfl rfl rfl ?_; refine ap_aload_n rfl ?_; refine ap_getR ow_12 rf_7_14 rfl rfl rfl ?_; refine ap_callv0 ow_12 rm_7_202 na_81 mc_81 ms_81 rfl rfl (Nat.le_of_ble_eq_true rfl) (Nat.le_of_ble_eq_true rfl) (Or.inr rfl) (Nat.zero_le _) (Nat.zero_le _) ?_; refine sp_81 ?_; dsimp only [Option.toList_some, Option.toList_none, List.cons_append, List.nil_append]; refine ap_callv0 ow_12 rm_7_203 na_77 mc_77 ms_77 rfl rfl (Nat.le_of_ble_eq_true rfl) (Nat.le_of_ble_eq_true rfl) (Or.inr rfl) (Nat.zero_le _) (Nat.zero_le _) ?_; refine sp_77 ?_ ?_ ?_ ?_; dsimp only [Option.toList_some, Option.toList_none, List.cons_append, List.nil_append]; refine ap_iret rfl ?_
            · (try simp only [bz, Decidable.not_not] at *); first | exact K1  (by omega) | exact K2  (by omega) | exact K3  (by omega) | exact K4  (by omega)
            all_goals (first | omega | (simp [am_up] <;> omega) | (intro k; simp only [am_up]; split <;> first | omega | (split <;> first | omega | exact hv k) | exact hv k) | (simp only [bz, Decidable.not_not] at *; omega) | (simp only [bz, Decidable.not_not] at *; simp [am_up] <;> omega))
          all_goals (first | omega | (simp [am_up] <;> omega) | (intro k; simp only [am_up]; split <;> first | omega | (split <;> first | omega | exact hv k) | exact hv k) | (simp only [bz, Decidable.not_not] at *; omega) | (simp only [bz, Decidable.not_not] at *; simp [am_up] <;> omega))
        · refine ap_go kc_12_42 ?_
          refine ai_bipush (by decide) ?_; refine ap_iret rfl ?_
          (try simp only [bz, Decidable.not_not] at *); first | exact K1  (by omega) | exact K2  (by omega) | exact K3  (by omega) | exact K4  (by omega)
        all_goals (first | omega | (simp [am_up] <;> omega) | (intro k; simp only [am_up]; split <;> first | omega | (split <;> first | omega | exact hv k) | exact hv k) | (simp only [bz, Decidable.not_not] at *; omega) | (simp only [bz, Decidable.not_not] at *; simp [am_up] <;> omega))
      · refine ap_go kc_12_22 ?_
        refine ap_aload_n rfl ?_; refine ap_getR ow_12 rf_7_37 rfl rfl rfl ?_; refine ap_callv0 ow_12 rm_7_195 na_75 mc_75 ms_75 rfl rfl (Nat.le_of_ble_eq_true rfl) (Nat.le_of_ble_eq_true rfl) (Or.inr rfl) (Nat.zero_le _) (Nat.zero_le _) ?_; refine sp_75 ?_; dsimp only [Option.toList_some, Option.toList_none, List.cons_append, List.nil_append]; refine ap_goto rfl ?_
        refine ap_go kc_12_53 ?_
        refine ap_aload_n rfl ?_; refine ap_getR ow_12 rf_7_37 rfl rfl rfl ?_; refine ap_aload_n rfl ?_; refine ap_getR ow_12 rf_7_14 rfl rfl rfl ?_; refine ap_callv0 ow_12 rm_7_202 na_81 mc_81 ms_81 rfl rfl (Nat.le_of_ble_eq_true rfl) (Nat.le_of_ble_eq_true rfl) (Or.inr rfl) (Nat.zero_le _) (Nat.zero_le _) ?_; refine sp_81 ?_; dsimp only [Option.toList_some, Option.toList_none, List.cons_append, List.nil_append]; refine ap_callv0 ow_12 rm_7_203 na_77 mc_77 ms_77 rfl rfl (Nat.le_of_ble_eq_true rfl) (Nat.le_of_ble_eq_true rfl) (Or.inr rfl) (Nat.zero_le _) (Nat.zero_le _) ?_; refine sp_77 ?_ ?_ ?_ ?_; dsimp only [Option.toList_some, Option.toList_none, List.cons_append, List.nil_append]; refine ap_iret rfl ?_
        · (try simp only [bz, Decidable.not_not] at *); first | exact K1  (by omega) | exact K2  (by omega) | exact K3  (by omega) | exact K4  (by omega)
        all_goals (first | omega | (simp [am_up] <;> omega) | (intro k; simp only [am_up]; split <;> first | omega | (split <;> first | omega | exact hv k) | exact hv k) | (simp only [bz, Decidable.not_not] at *; omega) | (simp only [bz, Decidable.not_not] at *; simp [am_up] <;> omega))
      all_goals (first | omega | (simp [am_up] <;> omega) | (intro k; simp only [am_up]; split <;> first | omega | (split <;> first | omega | exact hv k) | exact hv k) | (simp only [bz, Decidable.not_not] at *; omega) | (simp only [bz, Decidable.not_not] at *; simp [am_up] <;> omega))
    · refine ap_go kc_12_15 ?_
      refine ai_bipush (by decide) ?_; refine ap_iret rfl ?_
      (try simp only [bz, Decidable.not_not] at *); first | exact K1  (by omega) | exact K2  (by omega) | exact K3  (by omega) | exact K4  (by omega)
    all_goals (first | omega | (simp [am_up] <;> omega) | (intro k; simp only [am_up]; split <;> first | omega | (split <;> first | omega | exact hv k) | exact hv k) | (simp only [bz, Decidable.not_not] at *; omega) | (simp only [bz, Decidable.not_not] at *; simp [am_up] <;> omega))
  all_goals (first | omega | (simp [am_up] <;> omega) | (intro k; simp only [am_up]; split <;> first | omega | (split <;> first | omega | exact hv k) | exact hv k) | (simp only [bz, Decidable.not_not] at *; omega) | (simp only [bz, Decidable.not_not] at *; simp [am_up] <;> omega))

theorem sp_13 {d L : Nat} {sw : Bool} {f g : Nat → Nat → Int} {Q : Option Value → am_H → Prop}  (K1 : Q (some (.int (iZ (f 0 9)))) (53, sh_lt L, iH f, jH g, sh_rt sw))  : am_call (d + 1) 13 [.ref 0] (53, sh_lt L, iH f, jH g, sh_rt sw) Q := by
  refine ap_call (by decide) (Nat.le_of_ble_eq_true rfl) rfl ?_
  refine ap_go kc_13_0 ?_
  refine ap_aload_n rfl ?_; refine ai_getI ow_13 rf_7_66 rfl rfl ?_; refine ap_iret rfl ?_
  (try simp only [bz, Decidable.not_not] at *); first | exact K1
