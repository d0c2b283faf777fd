/-! THE LAW'S WALK: street(), the loop, the start -/
theorem cl_st {d L N : Nat} {sw : Bool} {f g : Nat → Nat → Int} {Z : Option Value → am_H → Prop} (a b c : Int32) (m v : Int64) (hV : LVq N sw f g) (K1 : thr f a.toInt b.toInt m.toInt v.toInt c.toInt → Z (some (.int 1)) (53, sh_lt L, iH f, jH g, sh_rt sw))
    (K0 : ∀ (x : Int) (F G : Nat → Nat → Int) (sw' : Bool), iR x → F 1000 = f 1000 → am_call (d + 7) 29 [.ref 31, .int a, .int b, .long m, .long v, .int c] (53, sh_lt L, iH F, jH (am_up G 52 0 x), sh_rt sw') (fun v' h' => v' = some (.int (iZ x)) ∧ ∃ F' G', h' = (53, sh_lt L, iH F', jH G', sh_rt sw') ∧ LVq (N + 1) sw' F' G' ∧ F' 31 0 = 0 ∧ G' 52 0 = x) → Z (some (.int 0)) (53, sh_lt L, iH F, jH (am_up G 52 0 x), sh_rt sw')) : lwC (d + 7) 139 [.ref 0, .int a, .int b, .long m, .long v, .int c, .ref 52] (53, sh_lt L, iH f, jH g, sh_rt sw) Z := by
  unfold lwC
  rw [if_pos rfl]
  refine ⟨L, N, sw, f, g, a.toInt, b.toInt, m.toInt, v.toInt, c.toInt, ⟨iR_t a, iR_t b, lR_t m, lR_t v, iR_t c⟩, hV, rfl, by rw [iZ_i, iZ_i, lZ_l, lZ_l, iZ_i], ?_⟩
  by_cases ht : thr f a.toInt b.toInt m.toInt v.toInt c.toInt
  · exact Or.inr ⟨ht, K1 ht⟩
  · refine Or.inl ⟨ht, am_call_mono _ _ _ _ _ _ (fun r h' q => ?_) (pr_2 (d := d) (L := L) hV (iR_t a) (iR_t b) (lR_t m) (lR_t v) (iR_t c) ht)⟩
    obtain ⟨x, F, G, sw', q1, q2, q3, q4⟩ := q
    refine ⟨x, F, G, sw', q1, q2, q3, fun s => ?_⟩
    subst q3
    rw [iZ_i, iZ_i, lZ_l, lZ_l, iZ_i] at q4
    have e := scr_H s
    rw [← e] at q4 ⊢
    exact K0 x (scr F (f 1000)) G sw' q1 (funext fun j => if_pos rfl) q4
theorem cl_25 {D L : Nat} {sw : Bool} {f g : Nat → Nat → Int} {Z : Option Value → am_H → Prop} (K : Z (some (.int (iZ (f 31 0)))) (53, sh_lt L, iH f, jH g, sh_rt sw)) : lwC (D + 1) 25 [.ref 31] (53, sh_lt L, iH f, jH g, sh_rt sw) Z := by
  unfold lwC
  rw [if_neg (by decide)]
  exact sp_25 (fun _ => K)
theorem pr_2t' {d L N : Nat} {sw : Bool} {f g : Nat → Nat → Int} {a b c : Int32} {m v : Int64} (h : LVq N sw f g) (ht : thr f a.toInt b.toInt m.toInt v.toInt c.toInt) : am_call (d + 7) 29 [.ref 31, .int a, .int b, .long m, .long v, .int c] (53, sh_lt L, iH f, jH g, sh_rt sw) (fun v' h' => v' = some (.int (iZ 0)) ∧ ∃ F' G', h' = (53, sh_lt L, iH F', jH G', sh_rt sw) ∧ LVq (N + 1) sw F' G' ∧ F' 31 0 = 1) := by
  have := pr_2t (d := d) (L := L) h (iR_t a) (iR_t b) (lR_t m) (lR_t v) (iR_t c) ht
  rw [iZ_i, iZ_i, lZ_l, lZ_l, iZ_i] at this
  exact this
theorem ca_1 {d L n : Nat} {Q : Option Value → am_H → Prop} {u : am_U} {X : Nat → Int} (hL : L ≤ 4096) (hn : 8 * n + 8 ≤ L) (hu9 : u.1 + am_mc 139 ≤ am_mc 140 ∧ u.2 + am_ms 139 ≤ am_ms 140) {f g : Nat → Nat → Int} {sw : Bool} (hX : f 1000 = X) (hV : LVq n sw f g) (K : ∀ (F G : Nat → Nat → Int) (sw : Bool), F 1000 = X → LVq (n + 1) sw F G → am_Wp (lwC (d + 7)) 140 Q 1046 [some (.ref 1000), some (.ref 0), some (.ref 31), some (.ref 52), some (.int (iZ (8 * (n : Int)))), none, none] [] (53, sh_lt L, iH F, jH G, sh_rt sw) (u.1 + am_mc 139, u.2 + am_ms 139)) : am_Wp (lwC (d + 7)) 140 Q 213 [some (.ref 1000), some (.ref 0), some (.ref 31), some (.ref 52), some (.int (iZ (8 * (n : Int)))), none, none] [] (53, sh_lt L, iH f, jH g, sh_rt sw) u := by
  have J382 : ∀ (F G : Nat → Nat → Int) (sw2 : Bool), F 1000 = X → LVq (n + 1) sw2 F G → am_Wp (lwC (d + 7)) 140 Q 382 [some (.ref 1000), some (.ref 0), some (.ref 31), some (.ref 52), some (.int (iZ (8 * (n : Int)))), none, none] [] (53, sh_lt L, iH F, jH G, sh_rt sw2) (u.1 + am_mc 139, u.2 + am_ms 139) := by
    intro F G sw2 h1 h2
    refine ax_go kc_140_382 ?_
    refine ap_goto rfl ?_
    exact ax_weak (by first | exact am_le_0 | (repeat (first | exact am_le_0 | refine am_le_n ?_ | refine am_le_s ?_))) (K F G sw2 h1 h2)
  refine ax_go kc_140_213 ?_
  refine ap_aload_n rfl ?_; refine ap_aload_n rfl ?_; refine ap_iload rfl ?_; refine ai_iconst ?_; refine ai_iadd ?_; refine ax_scr hX hL (by omega) ?_; refine ap_aload_n rfl ?_; refine ap_iload rfl ?_; refine ai_iconst ?_; refine ai_iadd ?_; refine ax_scr hX hL (by omega) ?_; refine ap_aload_n rfl ?_; refine ap_iload rfl ?_; refine ai_iconst ?_; refine ai_iadd ?_; refine ax_scr hX hL (by omega) ?_; refine ap_i2l ?_; refine ai_bipush (by decide) ?_; refine ap_lshl ?_; refine ap_aload_n rfl ?_; refine ap_iload rfl ?_; refine ai_iconst ?_; refine ai_iadd ?_; refine ax_scr hX hL (by omega) ?_; refine ap_i2l ?_; refine ai_ldc2 (4294967295) ow_140 kl_10_19 rfl ?_; refine ap_land ?_; refine ap_lor ?_; refine ap_aload_n rfl ?_; refine ap_iload rfl ?_; refine ai_iconst ?_; refine ai_iadd ?_; refine ax_scr hX hL (by omega) ?_; refine ap_i2l ?_; refine ai_bipush (by decide) ?_; refine ap_lshl ?_; refine ap_aload_n rfl ?_; refine ap_iload rfl ?_; refine ai_bipush (by decide) ?_; refine ai_iadd ?_; refine ax_scr hX hL (by omega) ?_; refine ap_i2l ?_; refine ai_ldc2 (4294967295) ow_140 kl_10_19 rfl ?_; refine ap_land ?_; refine ap_lor ?_; refine ap_aload_n rfl ?_; refine ap_iload rfl ?_; refine ai_bipush (by decide) ?_; refine ai_iadd ?_; refine ax_scr hX hL (by omega) ?_; refine ap_aload_n rfl ?_
  refine ap_calls ow_140 rm_10_26 na_139 rfl rfl (Nat.le_of_ble_eq_true rfl) (Nat.le_of_ble_eq_true rfl) (Or.inl rfl) hu9.1 hu9.2 ?_; refine cl_st _ _ _ _ _ hV (fun ht => ?_) (fun x F G sw2 hx hF hM => ?_); dsimp only [Option.toList_some, Option.toList_none, List.cons_append, List.nil_append]
  · refine ap_istore rfl ?_; refine ap_aload_n rfl ?_; refine ap_aload_n rfl ?_; refine ap_iload rfl ?_; refine ai_iconst ?_; refine ai_iadd ?_; refine ax_scr hX hL (by omega) ?_; refine ap_aload_n rfl ?_; refine ap_iload rfl ?_; refine ai_iconst ?_; refine ai_iadd ?_; refine ax_scr hX hL (by omega) ?_; refine ap_aload_n rfl ?_; refine ap_iload rfl ?_; refine ai_iconst ?_; refine ai_iadd ?_; refine ax_scr hX hL (by omega) ?_; refine ap_i2l ?_; refine ai_bipush (by decide) ?_; refine ap_lshl ?_; refine ap_aload_n rfl ?_; refine ap_iload rfl ?_; refine ai_iconst ?_; refine ai_iadd ?_; refine ax_scr hX hL (by omega) ?_; refine ap_i2l ?_; refine ai_ldc2 (4294967295) ow_140 kl_10_19 rfl ?_; refine ap_land ?_; refine ap_lor ?_; refine ap_aload_n rfl ?_; refine ap_iload rfl ?_; refine ai_iconst ?_; refine ai_iadd ?_; refine ax_scr hX hL (by omega) ?_; refine ap_i2l ?_; refine ai_bipush (by decide) ?_; refine ap_lshl ?_; refine ap_aload_n rfl ?_; refine ap_iload rfl ?_; refine ai_bipush (by decide) ?_; refine ai_iadd ?_; refine ax_scr hX hL (by omega) ?_; refine ap_i2l ?_; refine ai_ldc2 (4294967295) ow_140 kl_10_19 rfl ?_; refine ap_land ?_; refine ap_lor ?_; refine ap_aload_n rfl ?_; refine ap_iload rfl ?_; refine ai_bipush (by decide) ?_; refine ai_iadd ?_; refine ax_scr hX hL (by omega) ?_
    refine ap_callv0 ow_140 rm_10_31 na_29 mc_29 ms_29 rfl rfl (Nat.le_of_ble_eq_true rfl) (Nat.le_of_ble_eq_true rfl) (Or.inr rfl) hu9.1 hu9.2 ?_; refine cl_finS (P := fun F' _ => F' 31 0 = 1) (fun F G x h => by rw [scr_ne (by decide)]; exact h) (by decide) (pr_2t' hV ht) (fun F2 G2 hF2 hV2 hP => ?_); dsimp only [Option.toList_some, Option.toList_none, List.cons_append, List.nil_append]
    refine ap_istore rfl ?_; refine ap_aload_n rfl ?_
    refine ap_callv0 ow_140 rm_10_32 na_25 mc_25 ms_25 rfl rfl (Nat.le_of_ble_eq_true rfl) (Nat.le_of_ble_eq_true rfl) (Or.inr rfl) hu9.1 hu9.2 ?_; refine cl_25 ?_; dsimp only [Option.toList_some, Option.toList_none, List.cons_append, List.nil_append]
    refine ap_iload rfl ?_
    refine ap_iceq rfl rfl (fun _ => ?_) (fun hb => absurd (by rw [hP]; rfl) hb)
    refine ax_go kc_140_365 ?_
    refine ap_iload rfl ?_
    refine ap_ifne rfl rfl (fun _ => ?_) (fun hb => absurd (by decide) hb)
    exact ax_weak (by first | exact am_le_0 | (repeat (first | exact am_le_0 | refine am_le_n ?_ | refine am_le_s ?_))) (J382 F2 G2 sw (hF2.trans hX) hV2)
  · refine ap_istore rfl ?_; refine ap_aload_n rfl ?_; refine ap_aload_n rfl ?_; refine ap_iload rfl ?_; refine ai_iconst ?_; refine ai_iadd ?_; refine ax_scr (hF.trans hX) hL (by omega) ?_; refine ap_aload_n rfl ?_; refine ap_iload rfl ?_; refine ai_iconst ?_; refine ai_iadd ?_; refine ax_scr (hF.trans hX) hL (by omega) ?_; refine ap_aload_n rfl ?_; refine ap_iload rfl ?_; refine ai_iconst ?_; refine ai_iadd ?_; refine ax_scr (hF.trans hX) hL (by omega) ?_; refine ap_i2l ?_; refine ai_bipush (by decide) ?_; refine ap_lshl ?_; refine ap_aload_n rfl ?_; refine ap_iload rfl ?_; refine ai_iconst ?_; refine ai_iadd ?_; refine ax_scr (hF.trans hX) hL (by omega) ?_; refine ap_i2l ?_; refine ai_ldc2 (4294967295) ow_140 kl_10_19 rfl ?_; refine ap_land ?_; refine ap_lor ?_; refine ap_aload_n rfl ?_; refine ap_iload rfl ?_; refine ai_iconst ?_; refine ai_iadd ?_; refine ax_scr (hF.trans hX) hL (by omega) ?_; refine ap_i2l ?_; refine ai_bipush (by decide) ?_; refine ap_lshl ?_; refine ap_aload_n rfl ?_; refine ap_iload rfl ?_; refine ai_bipush (by decide) ?_; refine ai_iadd ?_; refine ax_scr (hF.trans hX) hL (by omega) ?_; refine ap_i2l ?_; refine ai_ldc2 (4294967295) ow_140 kl_10_19 rfl ?_; refine ap_land ?_; refine ap_lor ?_; refine ap_aload_n rfl ?_; refine ap_iload rfl ?_; refine ai_bipush (by decide) ?_; refine ai_iadd ?_; refine ax_scr (hF.trans hX) hL (by omega) ?_
    refine ap_callv0 ow_140 rm_10_31 na_29 mc_29 ms_29 rfl rfl (Nat.le_of_ble_eq_true rfl) (Nat.le_of_ble_eq_true rfl) (Or.inr rfl) hu9.1 hu9.2 ?_; refine cl_finS (P := fun F' G' => F' 31 0 = 0 ∧ G' 52 0 = x) (fun F G y h => ⟨by rw [scr_ne (by decide)]; exact h.1, h.2⟩) (by decide) hM (fun F2 G2 hF2 hV2 hP => ?_); dsimp only [Option.toList_some, Option.toList_none, List.cons_append, List.nil_append]
    refine ap_istore rfl ?_; refine ap_aload_n rfl ?_
    refine ap_callv0 ow_140 rm_10_32 na_25 mc_25 ms_25 rfl rfl (Nat.le_of_ble_eq_true rfl) (Nat.le_of_ble_eq_true rfl) (Or.inr rfl) hu9.1 hu9.2 ?_; refine cl_25 ?_; dsimp only [Option.toList_some, Option.toList_none, List.cons_append, List.nil_append]
    refine ap_iload rfl ?_
    refine ap_iceq rfl rfl (fun _ => ?_) (fun hb => absurd (by rw [hP.1]; rfl) hb)
    refine ax_go kc_140_365 ?_
    refine ap_iload rfl ?_
    refine ap_ifne rfl rfl (fun hb => absurd rfl hb) (fun _ => ?_)
    refine ax_go kc_140_370 ?_
    refine ap_aload_n rfl ?_; refine ai_iconst ?_; refine ai_laload (n := 1) rfl rfl (by decide) ?_ (by decide); refine ap_iload rfl ?_; refine ai_i2l ?_ hx
    refine ai_lceq rfl rfl (fun _ => ?_) (fun hb => absurd hP.2 hb) ⟨by rw [show G2 52 (0 : Int).toNat = x from hP.2]; omega, by omega⟩
    exact ax_weak (by first | exact am_le_0 | (repeat (first | exact am_le_0 | refine am_le_n ?_ | refine am_le_s ?_))) (J382 F2 G2 sw2 (hF2.trans (hF.trans hX)) hV2)
