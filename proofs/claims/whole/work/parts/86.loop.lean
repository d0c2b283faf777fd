/-! THE LAW'S WALK: the loop, the start -/
theorem ax_tsw {C : am_C} {Q : Option Value → am_H → Prop} {Xx : am_X} {r : List Jvm.ClassFile.Instr} {pc j : Nat} {ls : am_L} {st : List Value} {h : am_H} {u : am_U} {dd lo hi : Int} {offs : Array Int} {x : Int32} (K : Xx (if x.toInt < lo ∨ hi < x.toInt then am_tg pc dd else am_tg pc (offs.toList.getD (x.toInt - lo).toNat dd)) ls st h u) : am_run j C Q Xx (.tableswitch dd lo hi offs :: r) pc (ls, .int x :: st, h, u) := ⟨trivial, K⟩
theorem LV_up {N : Nat} {sw : Bool} {f g : Nat → Nat → Int} (h : LVq N sw f g) : LVq (N + 1) sw f g := LV_code h (wy_ne sw) (Nat.le_succ N) (fun _ _ => rfl) (fun _ _ => rfl)
theorem lp_law {d L : Nat} {Q : Option Value → am_H → Prop} {X : Nat → Int} (hL : L ≤ 4096) (hQ : ∀ h, Q (some (.int (iZ 1))) h) : ∀ (k n : Nat) (u : am_U) (f g : Nat → Nat → Int) (sw : Bool), L / 8 = n + k → u.1 ≤ 53 + 2 * n ∧ u.2 ≤ 47891 + 16 * n → f 1000 = X → LVq n sw f g → am_Wp (lwC (d + 7)) 140 Q 23 [some (.ref 1000), some (.ref 0), some (.ref 31), some (.ref 52), some (.int (iZ (8 * (n : Int)))), none, none] [] (53, sh_lt L, iH f, jH g, sh_rt sw) u := by
  intro k
  induction k with
  | zero =>
    intro n u f g sw hk hu hX hV
    refine ax_go kc_140_23 ?_
    refine ap_iload rfl ?_; refine ap_aload_n rfl ?_; refine ax_len ?_; refine ai_bipush (by decide) ?_; refine ai_isub ?_
    refine ai_icgt rfl rfl (fun _ => ?_) (fun hb => ?_) (by omega)
    · refine ax_go kc_140_1052 ?_
      refine ai_iconst ?_; exact ai_zret rfl (hQ _) (Or.inr rfl)
    · exfalso; omega
  | succ k ih =>
    intro n u f g sw hk hu hX hV
    have hn : 8 * n + 8 ≤ L := by omega
    have m140 : am_mc 140 = 1078 := rfl
    have s140 : am_ms 140 = 56089 := rfl
    have m139 : am_mc 139 = 2 := rfl
    have s139 : am_ms 139 = 16 := rfl
    have J : ∀ (u' : am_U), u'.1 ≤ 53 + 2 * (n + 1) ∧ u'.2 ≤ 47891 + 16 * (n + 1) → ∀ (F G : Nat → Nat → Int) (sw : Bool), F 1000 = X → LVq (n + 1) sw F G → am_Wp (lwC (d + 7)) 140 Q 1046 [some (.ref 1000), some (.ref 0), some (.ref 31), some (.ref 52), some (.int (iZ (8 * (n : Int)))), none, none] [] (53, sh_lt L, iH F, jH G, sh_rt sw) u' := by
      intro u' hu' F G sw' hF hV'
      have JJ := ih (n + 1) u' F G sw' (by omega) hu' hF hV'
      have e : (8 * ((n + 1 : Nat) : Int)) = 8 * (n : Int) + 8 := by omega
      rw [e] at JJ
      refine ax_go kc_140_1046 ?_
      refine ai_iinc rfl rfl ?_; refine ap_goto rfl ?_
      exact ax_weak (by first | exact am_le_0 | (repeat (first | exact am_le_0 | refine am_le_n ?_ | refine am_le_s ?_))) JJ
    have Ju := J u ⟨by omega, by omega⟩
    have hu0 : u.1 ≤ am_mc 140 ∧ u.2 ≤ am_ms 140 := by rw [m140, s140]; omega
    have hu9 : u.1 + am_mc 139 ≤ am_mc 140 ∧ u.2 + am_ms 139 ≤ am_ms 140 := by rw [m140, s140, m139, s139]; omega
    have J9 := J (u.1 + am_mc 139, u.2 + am_ms 139) ⟨by rw [m139]; omega, by rw [s139]; omega⟩
    refine ax_go kc_140_23 ?_
    refine ap_iload rfl ?_; refine ap_aload_n rfl ?_; refine ax_len ?_; refine ai_bipush (by decide) ?_; refine ai_isub ?_
    refine ai_icgt rfl rfl (fun hb => ?_) (fun _ => ?_) (by omega)
    · exfalso; omega
    refine ax_go kc_140_33 ?_
    refine ap_aload_n rfl ?_; refine ap_iload rfl ?_; refine ax_scr hX hL (by omega) ?_; refine ai_bipush (by decide) ?_; refine ap_iand ?_; refine ax_tsw ?_
    generalize (iZ (X (8 * (n : Int)).toNat) &&& iZ 15).toInt = y
    by_cases hy : y < 0 ∨ 13 < y
    · rw [if_pos hy]
      exact ax_weak (by first | exact am_le_0 | (repeat (first | exact am_le_0 | refine am_le_n ?_ | refine am_le_s ?_))) (Ju f g sw hX (LV_up hV))
    · rw [if_neg hy]
      have : y = 0 ∨ y = 1 ∨ y = 2 ∨ y = 3 ∨ y = 4 ∨ y = 5 ∨ y = 6 ∨ y = 7 ∨ y = 8 ∨ y = 9 ∨ y = 10 ∨ y = 11 ∨ y = 12 ∨ y = 13 := by omega
      rcases this with rfl | rfl | rfl | rfl | rfl | rfl | rfl | rfl | rfl | rfl | rfl | rfl | rfl | rfl
      · exact ax_weak (by first | exact am_le_0 | (repeat (first | exact am_le_0 | refine am_le_n ?_ | refine am_le_s ?_))) (ca_0 hL hn hu0 hX hV Ju)
      · exact ax_weak (by first | exact am_le_0 | (repeat (first | exact am_le_0 | refine am_le_n ?_ | refine am_le_s ?_))) (ca_1 hL hn hu9 hX hV J9)
      · exact ax_weak (by first | exact am_le_0 | (repeat (first | exact am_le_0 | refine am_le_n ?_ | refine am_le_s ?_))) (ca_2 hL hn hu0 hX hV Ju)
      · exact ax_weak (by first | exact am_le_0 | (repeat (first | exact am_le_0 | refine am_le_n ?_ | refine am_le_s ?_))) (ca_3 hL hn hu0 hX hV Ju)
      · exact ax_weak (by first | exact am_le_0 | (repeat (first | exact am_le_0 | refine am_le_n ?_ | refine am_le_s ?_))) (ca_4 hL hn hu0 hX hV Ju)
      · exact ax_weak (by first | exact am_le_0 | (repeat (first | exact am_le_0 | refine am_le_n ?_ | refine am_le_s ?_))) (ca_5 hL hn hu0 hX hV Ju)
      · exact ax_weak (by first | exact am_le_0 | (repeat (first | exact am_le_0 | refine am_le_n ?_ | refine am_le_s ?_))) (ca_6 hL hn hu0 hX hV Ju)
      · exact ax_weak (by first | exact am_le_0 | (repeat (first | exact am_le_0 | refine am_le_n ?_ | refine am_le_s ?_))) (ca_7 hL hn hu0 hX hV Ju)
      · exact ax_weak (by first | exact am_le_0 | (repeat (first | exact am_le_0 | refine am_le_n ?_ | refine am_le_s ?_))) (ca_8 hL hn hu0 hX hV Ju)
      · exact ax_weak (by first | exact am_le_0 | (repeat (first | exact am_le_0 | refine am_le_n ?_ | refine am_le_s ?_))) (ca_9 hL hn hu0 hX hV Ju)
      · exact ax_weak (by first | exact am_le_0 | (repeat (first | exact am_le_0 | refine am_le_n ?_ | refine am_le_s ?_))) (ca_10 hL hn hu0 hX hV Ju)
      · exact ax_weak (by first | exact am_le_0 | (repeat (first | exact am_le_0 | refine am_le_n ?_ | refine am_le_s ?_))) (ca_11 hL hn hu0 hX hV Ju)
      · exact ax_weak (by first | exact am_le_0 | (repeat (first | exact am_le_0 | refine am_le_n ?_ | refine am_le_s ?_))) (ca_12 hL hn hu0 hX hV Ju)
      · exact ax_weak (by first | exact am_le_0 | (repeat (first | exact am_le_0 | refine am_le_n ?_ | refine am_le_s ?_))) (ca_13 hL hn hu0 hX hV Ju)
theorem LV_init (X : Nat → Int) : LVq 0 false (am_up (fI X) 31 17 (-1)) (am_up gI 31 25 (-1)) := by
  have wb : ∀ t, w_bit 0 t = false := fun t => by
    show (Int64.ofInt 0).toBitVec.getLsbD t = false
    exact BitVec.getLsbD_zero
  refine ⟨⟨⟨rfl, (by decide : (0 : Int) ≤ 0), (by decide : (0 : Int) ≤ 60)⟩, fun k => ⟨rfl, rfl, rfl⟩, fun k => ⟨⟨(by decide : (-10000 : Int) ≤ 0), (by decide : (0 : Int) ≤ 10000)⟩, (by decide : (-10000 : Int) ≤ 0), (by decide : (0 : Int) ≤ 10000)⟩, fun k => ⟨(by decide : (0 : Int) ≤ 0), (by decide : (0 : Int) ≤ 1000000)⟩⟩, ⟨⟨rfl, (by decide : (0 : Int) ≤ 0), (by decide : (0 : Int) ≤ 120)⟩, fun k _ => ⟨rfl, rfl⟩, fun k => ⟨rfl, rfl, fun _ => (by decide : (0 : Int) ≤ 0)⟩, fun k => ⟨⟨(by decide : (0 : Int) ≤ 0), (by decide : (0 : Int) ≤ 60)⟩, ⟨(by decide : (0 : Int) ≤ 0), (by decide : (0 : Int) ≤ 60)⟩, ⟨(by decide : (0 : Int) ≤ 0), (by decide : (0 : Int) ≤ 21)⟩, ⟨(by decide : (0 : Int) ≤ 0), (by decide : (0 : Int) ≤ 3)⟩, ⟨(by decide : (0 : Int) ≤ 0), (by decide : (0 : Int) ≤ 100000)⟩, ⟨(by decide : (0 : Int) ≤ 0), (by decide : (0 : Int) ≤ 1000)⟩⟩, fun k h1 h2 => ?_, ⟨(by decide : (0 : Int) ≤ 0), (by decide : (0 : Int) ≤ 60)⟩, ⟨(by decide : (0 : Int) ≤ 0), (by decide : (0 : Int) ≤ 60)⟩⟩, ⟨fun k => ⟨Or.inl ⟨rfl, rfl⟩, (by decide : lR 0), (by decide : lR 0), (by decide : lR 0), (by decide : (0 : Int) ≤ 0), (by decide : (0 : Int) ≤ 1000)⟩, rfl, (by decide : (0 : Int) ≤ 0), (by decide : (0 : Int) ≤ 0)⟩, ⟨fun k => Or.inl rfl, fun s t _ _ => ⟨fun h => ?_, fun h => ?_⟩, fun t _ => rfl⟩, Or.inl ⟨rfl, rfl⟩, ⟨Or.inl rfl, fun h => ?_, fun _ => ⟨rfl, rfl⟩, ⟨rfl, (by decide : (0 : Int) ≤ 0), (by decide : (0 : Int) ≤ 2400)⟩, fun i h => ?_, fun k _ => Or.inl rfl, fun i h => absurd h (Nat.not_lt_zero i), fun k => ⟨⟨(by decide : (-120 : Int) ≤ 0), (by decide : (0 : Int) ≤ 120)⟩, (by decide : (-120 : Int) ≤ 0), (by decide : (0 : Int) ≤ 120)⟩⟩, ⟨rfl, (by decide : (0 : Int) ≤ 0), (by decide : (0 : Int) ≤ 3)⟩, fun i h => ?_, fun k => ⟨(by decide : iR 0), (by decide : iR 0)⟩, ⟨rfl, rfl, (by decide : iR 0), (by decide : iR 0), fun _ => rfl⟩, rfl, (by decide : iR 0)⟩
  · have : (k : Int) ≤ 0 := h2
    omega
  · have : w_bit 0 (t % 64) = true := h
    rw [wb] at this; cases this
  · have : (0 : Int) = 1 := h
    omega
  · have : (0 : Int) = 1 := h
    omega
  · have : (i : Int) < 0 := h
    omega
  · have : (i : Int) < 0 := h
    omega
theorem cl_pl {D k : Nat} {as : List Value} {h : am_H} {Z : Option Value → am_H → Prop} (hk : k ≠ am_lst) (e : am_call D k as h Z) : lwC D k as h Z := by
  unfold lwC
  rw [if_neg hk]
  exact am_call_mono _ _ _ _ _ _ (fun v h' z _ => z) e
theorem law_start {d L : Nat} {Q : Option Value → am_H → Prop} {X : Nat → Int} (hL : L ≤ 4096) (hQ : ∀ h, Q (some (.int (iZ 1))) h) : am_Wp (lwC (d + 7)) 140 Q 0 [some (.ref 1000), none, none, none, none, none, none] [] (0, sh_lt L, iH (fI X), jH gI, rl []) (0, 0) := by
  have J : ∀ u : am_U, u.1 ≤ 53 ∧ u.2 ≤ 47891 → am_Wp (lwC (d + 7)) 140 Q 23 [some (.ref 1000), some (.ref 0), some (.ref 31), some (.ref 52), some (.int (iZ (0))), none, none] [] (53, sh_lt L, iH (am_up (fI X) 31 17 (-1)), jH (am_up gI 31 25 (-1)), rl [(31, 33, 52), (31, 31, 51), (31, 28, 50), (31, 26, 49), (31, 24, 48), (31, 22, 47), (31, 21, 46), (31, 20, 45), (31, 19, 44), (31, 13, 43), (31, 12, 42), (31, 11, 41), (31, 10, 40), (31, 9, 39), (31, 8, 38), (31, 7, 37), (31, 6, 36), (31, 4, 35), (31, 3, 34), (31, 2, 33), (0, 6, 30), (29, 0, 31), (0, 5, 28), (27, 0, 29), (0, 4, 27), (0, 3, 25), (24, 0, 26), (0, 2, 15), (14, 1, 6), (14, 0, 2), (14, 7, 24), (14, 6, 23), (14, 5, 22), (14, 4, 21), (14, 3, 20), (14, 2, 16), (15, 2, 19), (15, 1, 18), (15, 0, 17), (0, 1, 6), (5, 7, 14), (5, 6, 13), (5, 5, 12), (5, 4, 11), (5, 3, 10), (5, 2, 9), (5, 1, 8), (5, 0, 7), (0, 0, 2), (1, 2, 5), (1, 1, 4), (1, 0, 3)]) u := by
    intro u hu
    rw [rl_all]
    exact lp_law (X := X) hL hQ (L / 8) 0 u _ _ false (by omega) (by omega) rfl (LV_init X)
  refine ax_go kc_140_0 ?_
  refine ax_new (c := 7) ow_140 rfl rfl (Nat.le_of_ble_eq_true rfl) (fun k => ⟨rfl, rfl, rfl⟩) (Nat.le_of_ble_eq_true rfl) (Nat.le_of_ble_eq_true rfl) ?_; refine ap_dup rfl ?_
  refine ap_calli ow_140 rfl na_0 rfl rfl (Nat.le_of_ble_eq_true rfl) (Nat.le_of_ble_eq_true rfl) (Or.inr rfl) (Nat.le_of_ble_eq_true rfl) (Nat.le_of_ble_eq_true rfl) ?_; refine cl_pl (by decide) (sp_0 ?_); dsimp only [Option.toList_some, Option.toList_none, List.cons_append, List.nil_append]
  refine ap_astore_n rfl ?_
  refine ax_new (c := 8) ow_140 rfl rfl (Nat.le_of_ble_eq_true rfl) (fun k => ⟨rfl, rfl, rfl⟩) (Nat.le_of_ble_eq_true rfl) (Nat.le_of_ble_eq_true rfl) ?_; refine ap_dup rfl ?_
  refine ap_calli ow_140 rfl na_24 rfl rfl (Nat.le_of_ble_eq_true rfl) (Nat.le_of_ble_eq_true rfl) (Or.inr rfl) (Nat.le_of_ble_eq_true rfl) (Nat.le_of_ble_eq_true rfl) ?_; refine cl_pl (by decide) (sp_24 ?_); dsimp only [Option.toList_some, Option.toList_none, List.cons_append, List.nil_append]
  refine ap_astore_n rfl ?_
  refine ai_iconst ?_; refine ax_newarray (m := 1) rfl rfl (by decide) (Nat.le_of_ble_eq_true rfl) (fun k => ⟨rfl, rfl, rfl⟩) (Nat.le_of_ble_eq_true rfl) (Nat.le_of_ble_eq_true rfl) ?_; refine ap_astore_n rfl ?_; refine ai_iconst ?_; refine ap_istore rfl ?_; refine ap_nil ?_
  exact ax_weak (by first | exact am_le_0 | (repeat (first | exact am_le_0 | refine am_le_n ?_ | refine am_le_s ?_))) (J _ ⟨(Nat.le_of_ble_eq_true rfl), (Nat.le_of_ble_eq_true rfl)⟩)
