/-! ===== the model: the text's beginning; fault, post ===== -/
theorem RM.scd {τ τ' : xT} {m : Nat} {S : SA} (h : RM τ m S) (e : xrd τ τ') : RM τ' m S := by
  obtain ⟨g1, g2, g3, g4, g5, g6, g7, g8⟩ := h
  have hs : ∀ i, i < 3 → τ'.1 1 i = τ.1 1 i := fun i hi => e.2.1 i (by simp; omega)
  exact ⟨g1, fun i hi => by rw [(e.1 8 (by decide)).1]; exact g2 i hi, by rw [e.2.1 13 (by decide)]; exact g3, g4.rows hs (e.1 2 (by decide)).1 (e.1 3 (by decide)).1, g5.row (e.1 4 (by decide)).1, g6.rows (e.2.1 17 (by decide)) (e.2.1 16 (by decide)) (e.1 9 (by decide)).1, g7.rows (e.1 11 (by decide)).1 (e.1 12 (by decide)).1, by rw [e.2.2]; exact g8⟩
theorem rd1 (T : Nat → Nat) (h : T 0 = 80) : rdP T 1 = .inl (1, 0, (0, 0, 1, fun _ => 0, fun _ => 0), fun _ => 0) := rdP_go (q := rdI) (i := 0) rfl (by rw [h]; rfl)
theorem rdS1 {a c : Nat} {P : PT} {w : Nat → Nat} : rdS (1, a, P, w) c = match fig c with | some f => some (2, a, (pn P, f, pr P, pk P, px P), w) | none => none := rfl
theorem rdS2 {a c : Nat} {P : PT} {w : Nat → Nat} : rdS (2, a, P, w) c = match fig c with | some f => if 1 ≤ f ∧ f ≤ 3 then some (3, a, (pn P, pp P, f, pk P, px P), w) else none | none => none := rfl
theorem lt_or13 (g : Nat) (h : ¬ (1 ≤ g ∧ g ≤ 3)) : g < 1 ∨ 3 < g := by omega
theorem EX0 (f g : Nat) : EXok (0, f, g, fun _ => 0, fun _ => 0) := fun j i _ _ h => by
  have h : 0 / 2 ^ i % 2 = 1 := h
  rw [Nat.zero_div] at h
  exact absurd h (by decide)
section MV
variable (cx : xC)
set_option maxHeartbeats 4000000
set_option maxRecDepth 100000
theorem l2_r37 {τ τ' : xT} {T : Nat → Nat} {L : Nat} (hX0 : TX τ T L) (hr : xrd τ τ') (hfa : τ'.1 1 15 = -9) (h9 : τ'.1 1 9 = nI 0) (h7 : ∀ k, k < 6 → τ'.1 7 k = nI 0) : X cx m_X5_readText PM (qI PM (RR T L τ)) 37 [(0, .ref 1)] [] PM τ' := by
  have hX := hr.tx hX0
  have hL := hX.2.2.1
  by_cases hL0 : L = 0
  · subst hL0
    refine X_aload_n (i := 0) (pc' := 38) dX5_readText_37 rfl rfl rfl ?_
    refine X_get (pc' := 41) (v := .int _) dX5_readText_38 rfl (gf_X5_54 _ rfl) o_M_1 rfl rfl ?_
    refine X_eqi (nI 0) (hX.1) ?_
    refine X_if_eq (pc' := 44) (tgt := 55) dX5_readText_41 rfl (by decide) (fun h_41 => ?_) (fun h_41 => absurd (rfl) h_41)
    refine X_iconst (pc' := 56) (v := nI 0) dX5_readText_55 rfl (by decide) ?_
    refine X_ri dX5_readText_56 rfl ⟨rfl, rfl⟩ ?_
    exact ⟨rfl, hr, fun q hq h3 => by cases hq; cases h3⟩
  · have hT := hX.2.2.2 0 (by omega)
    have hlz : ¬ nI L = 0 := fun q => hL0 ((nI_eq (by omega) (by decide)).mp q)
    by_cases h80 : T 0 = 80
    · have hq1 := rd1 T h80
      have hX1 : TX (xsi τ' 1 14 (nI 1)) T L := hX.s1 _ (by decide)
      have hfa1 : (xsi τ' 1 14 (nI 1)).1 1 15 = -9 := by rw [xsi_un _ _ (by decide)]; exact hfa
      have hat1 : (xsi τ' 1 14 (nI 1)).1 1 14 = nI 1 := xsi_at _ _ _ _
      by_cases hg1 : ∃ f, 1 < L ∧ fig (T 1) = some f
      · obtain ⟨f, hi1, hf⟩ := hg1
        have hf9 := fig_le hf
        have hq2 : rdP T 2 = .inl (2, 0, (0, f, 1, fun _ => 0, fun _ => 0), fun _ => 0) := rdP_go hq1 (by rw [rdS1, hf])
        have hX2 : TX (xsi (xsi (xsi τ' 1 14 (nI 1)) 1 14 (nI (1 + 1))) 1 10 (nI f)) T L := (hX1.s1 _ (by decide)).s1 _ (by decide)
        have hfa2 : (xsi (xsi (xsi τ' 1 14 (nI 1)) 1 14 (nI (1 + 1))) 1 10 (nI f)).1 1 15 = -9 := by rw [xsi_un _ _ (by decide), xsi_un _ _ (by decide)]; exact hfa1
        have hat2 : (xsi (xsi (xsi τ' 1 14 (nI 1)) 1 14 (nI (1 + 1))) 1 10 (nI f)).1 1 14 = nI 2 := by rw [xsi_un _ _ (by decide), xsi_at]
        by_cases hg2 : ∃ g, 2 < L ∧ fig (T 2) = some g ∧ (1 ≤ g ∧ g ≤ 3)
        · obtain ⟨g, hi2, hg, hg3⟩ := hg2
          have hq3 : rdP T 3 = .inl (3, 0, (0, f, g, fun _ => 0, fun _ => 0), fun _ => 0) := rdP_go hq2 (by rw [rdS2, hg]; exact if_pos hg3)
          refine X_aload_n (i := 0) (pc' := 38) dX5_readText_37 rfl rfl rfl ?_
          refine X_get (pc' := 41) (v := .int _) dX5_readText_38 rfl (gf_X5_54 _ rfl) o_M_1 rfl rfl ?_
          refine X_eqi (nI L) (hX.1) ?_
          refine X_if_eq (pc' := 44) (tgt := 55) dX5_readText_41 rfl (by decide) (fun h_41 => absurd h_41 (hlz)) (fun h_41 => ?_)
          refine X_aload_n (i := 0) (pc' := 45) dX5_readText_44 rfl rfl rfl ?_
          refine X_get (pc' := 48) (v := .ref 8) dX5_readText_45 rfl (gf_X5_28 _ rfl) o_M_1 rfl rfl ?_
          refine X_iconst (pc' := 49) (v := nI 0) dX5_readText_48 rfl (by decide) ?_
          refine X_iald (pc' := 50) (j := 0) dX5_readText_49 rfl (Or.inl r_M_8) (rfl) (by decide) ?_
          refine X_eqi (nI 80) (by rw [hX.2.1 0 (by omega), h80]) ?_
          refine X_bipush (pc' := 52) (v := nI 80) dX5_readText_50 rfl (by decide) ?_
          refine X_icmp_eq (pc' := 55) (tgt := 57) dX5_readText_52 rfl (by decide) (fun h_52 => ?_) (fun h_52 => absurd (rfl) h_52)
          refine X_aload_n (i := 0) (pc' := 58) dX5_readText_57 rfl rfl rfl ?_
          refine X_iconst (pc' := 59) (v := nI 1) dX5_readText_58 rfl (by decide) ?_
          refine X_putI (pc' := 62) dX5_readText_59 rfl (pf_X5_60 _ rfl) o_M_1 rfl ?_
          refine X_aload_n (i := 0) (pc' := 63) dX5_readText_62 rfl rfl rfl ?_
          refine X_aload_n (i := 0) (pc' := 64) dX5_readText_63 rfl rfl rfl ?_
          refine X_iconst (pc' := 65) (v := nI 0) dX5_readText_64 rfl (by decide) ?_
          refine X_bipush (pc' := 67) (v := nI 9) dX5_readText_65 rfl (by decide) ?_
          refine X_OI (As := [_, _]) (rest := [_]) (pc' := 70) dX5_readText_67 rfl k_X5_figure l_X5_76 v_X5_figure o_M_1 rfl ⟨by decide, by decide⟩ rfl rfl (Nat.le_of_ble_eq_true rfl) (d_figA cx _ (lo := 0) (hi := 9) hX1 (by decide) (by decide) hi1 hfa1 hat1 hf (by omega) (by omega)) (fun x_67 τ_67 h_67 => ?_)
          refine X_eqi (nI f) (h_67.1) ?_
          obtain ⟨-, e67⟩ := h_67
          subst e67
          refine X_putI (pc' := 73) dX5_readText_70 rfl (pf_X5_80 _ rfl) o_M_1 rfl ?_
          refine X_aload_n (i := 0) (pc' := 74) dX5_readText_73 rfl rfl rfl ?_
          refine X_aload_n (i := 0) (pc' := 75) dX5_readText_74 rfl rfl rfl ?_
          refine X_iconst (pc' := 76) (v := nI 1) dX5_readText_75 rfl (by decide) ?_
          refine X_iconst (pc' := 77) (v := nI 3) dX5_readText_76 rfl (by decide) ?_
          refine X_OI (As := [_, _]) (rest := [_]) (pc' := 80) dX5_readText_77 rfl k_X5_figure l_X5_76 v_X5_figure o_M_1 rfl ⟨by decide, by decide⟩ rfl rfl (Nat.le_of_ble_eq_true rfl) (d_figA cx _ (lo := 1) (hi := 3) hX2 (by decide) (by decide) hi2 hfa2 hat2 hg hg3.1 hg3.2) (fun x_77 τ_77 h_77 => ?_)
          refine X_eqi (nI g) (h_77.1) ?_
          obtain ⟨-, e77⟩ := h_77
          subst e77
          refine X_putI (pc' := 83) dX5_readText_80 rfl (pf_X5_83 _ rfl) o_M_1 rfl ?_
          refine X_lv _ (by simp) (l2_rloop cx hX0 L 3 _ (3, 0, (0, f, g, fun _ => 0, fun _ => 0), fun _ => 0) (by omega) (by omega) (((((hr.s1 14 _ (by decide)).s1 14 _ (by decide)).s1 10 _ (by decide)).s1 14 _ (by decide)).s1 11 _ (by decide)) ?_ (rdP_ok hq3) (EX0 f g) rfl (by simp [xsi, upd]; exact hfa) (by simp [xsi, upd]) hq3)
          exact ⟨by simp [xsi, upd]; exact h9, by simp [xsi, upd], by simp [xsi, upd], fun k hk => absurd hk (Nat.not_lt_zero k), fun k hk => absurd hk (Nat.not_lt_zero k), fun k hk => by simp [xsi, upd]; exact h7 k hk⟩
        · have hbad : Bad T L 2 := bad_of hq2 (by omega) (Or.inr (by simp)) (fun hl => by
            rw [rdS2]
            rcases hg : fig (T 2) with _ | g
            · rfl
            · exact if_neg (fun h3 => hg2 ⟨g, hl, hg, h3⟩))
          refine X_aload_n (i := 0) (pc' := 38) dX5_readText_37 rfl rfl rfl ?_
          refine X_get (pc' := 41) (v := .int _) dX5_readText_38 rfl (gf_X5_54 _ rfl) o_M_1 rfl rfl ?_
          refine X_eqi (nI L) (hX.1) ?_
          refine X_if_eq (pc' := 44) (tgt := 55) dX5_readText_41 rfl (by decide) (fun h_41 => absurd h_41 (hlz)) (fun h_41 => ?_)
          refine X_aload_n (i := 0) (pc' := 45) dX5_readText_44 rfl rfl rfl ?_
          refine X_get (pc' := 48) (v := .ref 8) dX5_readText_45 rfl (gf_X5_28 _ rfl) o_M_1 rfl rfl ?_
          refine X_iconst (pc' := 49) (v := nI 0) dX5_readText_48 rfl (by decide) ?_
          refine X_iald (pc' := 50) (j := 0) dX5_readText_49 rfl (Or.inl r_M_8) (rfl) (by decide) ?_
          refine X_eqi (nI 80) (by rw [hX.2.1 0 (by omega), h80]) ?_
          refine X_bipush (pc' := 52) (v := nI 80) dX5_readText_50 rfl (by decide) ?_
          refine X_icmp_eq (pc' := 55) (tgt := 57) dX5_readText_52 rfl (by decide) (fun h_52 => ?_) (fun h_52 => absurd (rfl) h_52)
          refine X_aload_n (i := 0) (pc' := 58) dX5_readText_57 rfl rfl rfl ?_
          refine X_iconst (pc' := 59) (v := nI 1) dX5_readText_58 rfl (by decide) ?_
          refine X_putI (pc' := 62) dX5_readText_59 rfl (pf_X5_60 _ rfl) o_M_1 rfl ?_
          refine X_aload_n (i := 0) (pc' := 63) dX5_readText_62 rfl rfl rfl ?_
          refine X_aload_n (i := 0) (pc' := 64) dX5_readText_63 rfl rfl rfl ?_
          refine X_iconst (pc' := 65) (v := nI 0) dX5_readText_64 rfl (by decide) ?_
          refine X_bipush (pc' := 67) (v := nI 9) dX5_readText_65 rfl (by decide) ?_
          refine X_OI (As := [_, _]) (rest := [_]) (pc' := 70) dX5_readText_67 rfl k_X5_figure l_X5_76 v_X5_figure o_M_1 rfl ⟨by decide, by decide⟩ rfl rfl (Nat.le_of_ble_eq_true rfl) (d_figA cx _ (lo := 0) (hi := 9) hX1 (by decide) (by decide) hi1 hfa1 hat1 hf (by omega) (by omega)) (fun x_67 τ_67 h_67 => ?_)
          refine X_eqi (nI f) (h_67.1) ?_
          obtain ⟨-, e67⟩ := h_67
          subst e67
          refine X_putI (pc' := 73) dX5_readText_70 rfl (pf_X5_80 _ rfl) o_M_1 rfl ?_
          refine X_aload_n (i := 0) (pc' := 74) dX5_readText_73 rfl rfl rfl ?_
          refine X_aload_n (i := 0) (pc' := 75) dX5_readText_74 rfl rfl rfl ?_
          refine X_iconst (pc' := 76) (v := nI 1) dX5_readText_75 rfl (by decide) ?_
          refine X_iconst (pc' := 77) (v := nI 3) dX5_readText_76 rfl (by decide) ?_
          refine X_OI (As := [_, _]) (rest := [_]) (pc' := 80) dX5_readText_77 rfl k_X5_figure l_X5_76 v_X5_figure o_M_1 rfl ⟨by decide, by decide⟩ rfl rfl (Nat.le_of_ble_eq_true rfl) (d_figB cx _ (lo := 1) (hi := 3) hX2 (by decide) (by decide) (by omega) hfa2 hat2 (fun g hl hg => lt_or13 g (fun h3 => hg2 ⟨g, hl, hg, h3⟩))) (fun x_77 τ_77 h_77 => ?_)
          refine X_eqi (nI 1) (h_77.1) ?_
          obtain ⟨-, e77⟩ := h_77
          subst e77
          refine X_putI (pc' := 83) dX5_readText_80 rfl (pf_X5_83 _ rfl) o_M_1 rfl ?_
          exact X_lv _ (by simp) (l2_rexit cx (j := 2) (by omega) (by simp [xsi, upd]) hbad (((((hr.s1 14 _ (by decide)).s1 14 _ (by decide)).s1 10 _ (by decide)).s1 15 _ (by decide)).s1 11 _ (by decide)))
      · have hbad : Bad T L 1 := bad_of hq1 (by omega) (Or.inr (by simp)) (fun hl => by
          rw [rdS1]
          rcases hf : fig (T 1) with _ | f
          · rfl
          · exact absurd ⟨f, hl, hf⟩ hg1)
        refine X_aload_n (i := 0) (pc' := 38) dX5_readText_37 rfl rfl rfl ?_
        refine X_get (pc' := 41) (v := .int _) dX5_readText_38 rfl (gf_X5_54 _ rfl) o_M_1 rfl rfl ?_
        refine X_eqi (nI L) (hX.1) ?_
        refine X_if_eq (pc' := 44) (tgt := 55) dX5_readText_41 rfl (by decide) (fun h_41 => absurd h_41 (hlz)) (fun h_41 => ?_)
        refine X_aload_n (i := 0) (pc' := 45) dX5_readText_44 rfl rfl rfl ?_
        refine X_get (pc' := 48) (v := .ref 8) dX5_readText_45 rfl (gf_X5_28 _ rfl) o_M_1 rfl rfl ?_
        refine X_iconst (pc' := 49) (v := nI 0) dX5_readText_48 rfl (by decide) ?_
        refine X_iald (pc' := 50) (j := 0) dX5_readText_49 rfl (Or.inl r_M_8) (rfl) (by decide) ?_
        refine X_eqi (nI 80) (by rw [hX.2.1 0 (by omega), h80]) ?_
        refine X_bipush (pc' := 52) (v := nI 80) dX5_readText_50 rfl (by decide) ?_
        refine X_icmp_eq (pc' := 55) (tgt := 57) dX5_readText_52 rfl (by decide) (fun h_52 => ?_) (fun h_52 => absurd (rfl) h_52)
        refine X_aload_n (i := 0) (pc' := 58) dX5_readText_57 rfl rfl rfl ?_
        refine X_iconst (pc' := 59) (v := nI 1) dX5_readText_58 rfl (by decide) ?_
        refine X_putI (pc' := 62) dX5_readText_59 rfl (pf_X5_60 _ rfl) o_M_1 rfl ?_
        refine X_aload_n (i := 0) (pc' := 63) dX5_readText_62 rfl rfl rfl ?_
        refine X_aload_n (i := 0) (pc' := 64) dX5_readText_63 rfl rfl rfl ?_
        refine X_iconst (pc' := 65) (v := nI 0) dX5_readText_64 rfl (by decide) ?_
        refine X_bipush (pc' := 67) (v := nI 9) dX5_readText_65 rfl (by decide) ?_
        refine X_OI (As := [_, _]) (rest := [_]) (pc' := 70) dX5_readText_67 rfl k_X5_figure l_X5_76 v_X5_figure o_M_1 rfl ⟨by decide, by decide⟩ rfl rfl (Nat.le_of_ble_eq_true rfl) (d_figB cx _ (lo := 0) (hi := 9) hX1 (by decide) (by decide) (by omega) hfa1 hat1 (fun f hl hf => absurd ⟨f, hl, hf⟩ hg1)) (fun x_67 τ_67 h_67 => ?_)
        refine X_eqi (nI 0) (h_67.1) ?_
        obtain ⟨-, e67⟩ := h_67
        subst e67
        refine X_putI (pc' := 73) dX5_readText_70 rfl (pf_X5_80 _ rfl) o_M_1 rfl ?_
        refine X_aload_n (i := 0) (pc' := 74) dX5_readText_73 rfl rfl rfl ?_
        refine X_aload_n (i := 0) (pc' := 75) dX5_readText_74 rfl rfl rfl ?_
        refine X_iconst (pc' := 76) (v := nI 1) dX5_readText_75 rfl (by decide) ?_
        refine X_iconst (pc' := 77) (v := nI 3) dX5_readText_76 rfl (by decide) ?_
        refine X_OI (As := [_, _]) (rest := [_]) (pc' := 80) dX5_readText_77 rfl k_X5_figure l_X5_76 v_X5_figure o_M_1 rfl ⟨by decide, by decide⟩ rfl rfl (Nat.le_of_ble_eq_true rfl) (d_figC cx _ (lo := 1) (hi := 3) (j := 1) (by decide) (by decide) (by omega) (by simp [xsi, upd])) (fun x_77 τ_77 h_77 => ?_)
        refine X_eqi (nI 1) (h_77.1) ?_
        obtain ⟨-, e77⟩ := h_77
        subst e77
        refine X_putI (pc' := 83) dX5_readText_80 rfl (pf_X5_83 _ rfl) o_M_1 rfl ?_
        exact X_lv _ (by simp) (l2_rexit cx (j := 1) (by omega) (by simp [xsi, upd]) hbad (((((hr.s1 14 _ (by decide)).s1 15 _ (by decide)).s1 10 _ (by decide)).s1 15 _ (by decide)).s1 11 _ (by decide)))
    · have hbad : Bad T L 0 := bad_of (q := rdI) rfl (by omega) (Or.inl (by omega)) (fun _ => if_neg h80)
      have h80n : ¬ nI (T 0) = nI 80 := fun q => h80 ((nI_eq (by omega) (by decide)).mp q)
      refine X_aload_n (i := 0) (pc' := 38) dX5_readText_37 rfl rfl rfl ?_
      refine X_get (pc' := 41) (v := .int _) dX5_readText_38 rfl (gf_X5_54 _ rfl) o_M_1 rfl rfl ?_
      refine X_eqi (nI L) (hX.1) ?_
      refine X_if_eq (pc' := 44) (tgt := 55) dX5_readText_41 rfl (by decide) (fun h_41 => absurd h_41 (hlz)) (fun h_41 => ?_)
      refine X_aload_n (i := 0) (pc' := 45) dX5_readText_44 rfl rfl rfl ?_
      refine X_get (pc' := 48) (v := .ref 8) dX5_readText_45 rfl (gf_X5_28 _ rfl) o_M_1 rfl rfl ?_
      refine X_iconst (pc' := 49) (v := nI 0) dX5_readText_48 rfl (by decide) ?_
      refine X_iald (pc' := 50) (j := 0) dX5_readText_49 rfl (Or.inl r_M_8) (rfl) (by decide) ?_
      refine X_eqi (nI (T 0)) (hX.2.1 0 (by omega)) ?_
      refine X_bipush (pc' := 52) (v := nI 80) dX5_readText_50 rfl (by decide) ?_
      refine X_icmp_eq (pc' := 55) (tgt := 57) dX5_readText_52 rfl (by decide) (fun h_52 => absurd h_52 (h80n)) (fun h_52 => ?_)
      refine X_iconst (pc' := 56) (v := nI 0) dX5_readText_55 rfl (by decide) ?_
      refine X_ri dX5_readText_56 rfl ⟨rfl, rfl⟩ ?_
      exact ⟨hbad.1.symm, hr, fun q hq h3 => absurd h3 (hbad.2 q hq)⟩
theorem d_readText (τ : xT) {T : Nat → Nat} {L : Nat} (hX : TX τ T L) : CI cx m_X5_readText [.ref 1] PM τ (RR T L τ) := by
  have hl : ∀ (j : Nat) (τ' : xT), j ≤ 6 → (xrd τ τ' ∧ τ'.1 1 15 = -9 ∧ τ'.1 1 9 = nI 0 ∧ ∀ k, k < j → τ'.1 7 k = nI 0) → X cx m_X5_readText PM (qI PM (RR T L τ)) 18 [(1, .int (nI j)), (0, .ref 1)] [] PM τ' := by
    refine xloop _ _ 6 (fun τ' g => ?_) (fun j τ' hj g ih => ?_)
    · refine X_iload_n (i := 1) (pc' := 19) dX5_readText_18 rfl rfl rfl ?_
      refine X_bipush (pc' := 21) (v := nI 6) dX5_readText_19 rfl (by decide) ?_
      refine X_icmp_ge (pc' := 24) (tgt := 37) dX5_readText_21 rfl (by decide) (fun h_21 => ?_) (fun h_21 => absurd (nI_le (Nat.le_refl _) (by omega)) h_21)
      exact X_lv _ (by simp) (l2_r37 cx hX g.1 g.2.1 g.2.2.1 g.2.2.2)
    · obtain ⟨g1, g2, g3, g4⟩ := g
      refine X_iload_n (i := 1) (pc' := 19) dX5_readText_18 rfl rfl rfl ?_
      refine X_bipush (pc' := 21) (v := nI 6) dX5_readText_19 rfl (by decide) ?_
      refine X_icmp_ge (pc' := 24) (tgt := 37) dX5_readText_21 rfl (by decide) (fun h_21 => absurd h_21 (nI_ge hj (by omega))) (fun h_21 => ?_)
      refine X_aload_n (i := 0) (pc' := 25) dX5_readText_24 rfl rfl rfl ?_
      refine X_get (pc' := 28) (v := .ref 7) dX5_readText_25 rfl (gf_X5_25 _ rfl) o_M_1 rfl rfl ?_
      refine X_iload_n (i := 1) (pc' := 29) dX5_readText_28 rfl rfl rfl ?_
      refine X_iconst (pc' := 30) (v := nI 0) dX5_readText_29 rfl (by decide) ?_
      refine X_iast (pc' := 31) (j := j) dX5_readText_30 rfl r_M_7 (rfl) (by omega) ?_
      refine X_iinc (pc' := 34) (v := nI (j + 1)) (lv' := [(1, _), (0, _)]) dX5_readText_31 rfl rfl ((nI_succ j).symm) (Nat.le_of_ble_eq_true rfl) rfl ?_
      refine X_goto (pc' := 0) (tgt := 18) dX5_readText_34 (by decide) ?_
      refine X_lv _ (by simp) (ih _ ⟨g1.sc 7 _ _ (by decide), by rw [xsi_ne _ _ _ (by decide)]; exact g2, by rw [xsi_ne _ _ _ (by decide)]; exact g3, fun k hk => ?_⟩)
      by_cases e : k = j
      · rw [e, xsi_at]
      · rw [xsi_un _ _ e]; exact g4 k (by omega)
  refine Ct_of (by decide) (Nat.le_of_ble_eq_true rfl) (lv := [(0, _)]) rfl ?_
  refine X_aload_n (i := 0) (pc' := 1) dX5_readText_0 rfl rfl rfl ?_
  refine X_iconst (pc' := 2) (v := nI 0) dX5_readText_1 rfl (by decide) ?_
  refine X_putI (pc' := 5) dX5_readText_2 rfl (pf_X5_60 _ rfl) o_M_1 rfl ?_
  refine X_aload_n (i := 0) (pc' := 6) dX5_readText_5 rfl rfl rfl ?_
  refine X_bipush (pc' := 8) (v := (-9)) dX5_readText_6 rfl (by decide) ?_
  refine X_putI (pc' := 11) dX5_readText_8 rfl (pf_X5_57 _ rfl) o_M_1 rfl ?_
  refine X_aload_n (i := 0) (pc' := 12) dX5_readText_11 rfl rfl rfl ?_
  refine X_iconst (pc' := 13) (v := nI 0) dX5_readText_12 rfl (by decide) ?_
  refine X_putI (pc' := 16) dX5_readText_13 rfl (pf_X5_69 _ rfl) o_M_1 rfl ?_
  refine X_iconst (pc' := 17) (v := nI 0) dX5_readText_16 rfl (by decide) ?_
  refine X_istore_n (i := 1) (pc' := 18) (lv' := [(1, _), (0, _)]) dX5_readText_17 rfl rfl (Nat.le_of_ble_eq_true rfl) rfl ?_
  exact X_lv _ (by simp) (hl 0 _ (by decide) ⟨((xrd.rf.s1 14 _ (by decide)).s1 15 _ (by decide)).s1 9 _ (by decide), by rw [xsi_un _ _ (by decide), xsi_at], by rw [xsi_at], fun k hk => absurd hk (Nat.not_lt_zero k)⟩)
theorem RM.tx {τ : xT} {m : Nat} {S : SA} (h : RM τ m S) : TX τ (aT S) (aL S) := ⟨h.2.2.1, h.2.1, h.1.1, h.1.2.1⟩
theorem d_fault (τ : xT) {S : SA} {m : Nat} (h : RM τ m S) : CI cx m_X5_fault [.ref 1] PM τ (fun v τ' => v = faultF (aT S) (aL S) ∧ RM τ' (m + 1) S) := by
  refine Ct_of (by decide) (Nat.le_of_ble_eq_true rfl) (lv := [(0, _)]) rfl ?_
  refine X_aload_n (i := 0) (pc' := 1) dX5_fault_0 rfl rfl rfl ?_
  refine X_OI (As := []) (rest := []) (pc' := 4) dX5_fault_1 rfl k_X5_readText l_X5_93 v_X5_readText o_M_1 rfl ⟨by decide, by decide⟩ rfl rfl (Nat.le_of_ble_eq_true rfl) (d_readText cx τ h.tx) (fun x_1 τ_1 h_1 => ?_)
  refine X_ri dX5_fault_4 rfl ⟨rfl, rfl⟩ ?_
  exact ⟨h_1.1, (h.scd h_1.2.1).mono (by omega)⟩
theorem l2_post3 {τ2 τ' : xT} {m : Nat} {T : Nat → Nat} {L : Nat} {P : PT} {w : Nat → Nat} {c : Int64} {q : PS} (hqP : q.2.2.1 = P) (hqw : q.2.2.2 = w) (hok : Rok q) (hTL : L ≤ 48 ∧ ∀ i, i < L → T i < 256) (h8 : ∀ i, i < L → τ2.1 8 i = nI (T i)) (h13 : τ2.1 1 13 = nI L) (h0 : τ2.1 1 0 = nI (pn P)) (h1 : τ2.1 1 1 = nI (pp P)) (h2 : τ2.1 1 2 = nI (pr P)) (hnx : ∃ nx, nx < 14 ∧ τ2.1 1 17 = nI nx) (hc : τ2.2.1 1 21 = c) (e : xeq [2, 3, 4] τ2 τ') (g1 : ∀ i, i < 17 → 6 ≤ i → τ'.1 4 i = nI 0) (g2 : ∀ i, i < 6 → τ'.1 4 i = (if i < pn P then nI (w i) else nI 0) ∧ (i < pn P → τ'.1 2 i = nI (pk P i)) ∧ τ'.1 3 i = nI (px P i)) : X cx m_X5_post PM (qI PM (fun v τf => v = nI (pn P) ∧ RM τf (m + 1) (T, L, P, newS w, [], fun _ => none, c))) 119 [(0, .ref 1)] [] PM τ' := by
  subst hqP
  subst hqw
  have hn6 := hok.1
  have r1 := e 1 (by decide)
  refine X_aload_n (i := 0) (pc' := 120) dX5_post_119 rfl rfl rfl ?_
  refine X_iconst (pc' := 121) (v := nI 0) dX5_post_120 rfl (by decide) ?_
  refine X_putI (pc' := 124) dX5_post_121 rfl (pf_X5_102 _ rfl) o_M_1 rfl ?_
  refine X_aload_n (i := 0) (pc' := 125) dX5_post_124 rfl rfl rfl ?_
  refine X_get (pc' := 128) (v := .ref 11) dX5_post_125 rfl (gf_X5_37 _ rfl) o_M_1 rfl rfl ?_
  refine X_iconst (pc' := 129) (v := nI 0) dX5_post_128 rfl (by decide) ?_
  refine X_iconst (pc' := 130) (v := nI 0) dX5_post_129 rfl (by decide) ?_
  refine X_zast (pc' := 131) (j := 0) dX5_post_130 rfl r_M_11 (rfl) (by decide) (rfl) ?_
  refine X_aload_n (i := 0) (pc' := 132) dX5_post_131 rfl rfl rfl ?_
  refine X_get (pc' := 135) (v := .ref 11) dX5_post_132 rfl (gf_X5_37 _ rfl) o_M_1 rfl rfl ?_
  refine X_iconst (pc' := 136) (v := nI 1) dX5_post_135 rfl (by decide) ?_
  refine X_iconst (pc' := 137) (v := nI 0) dX5_post_136 rfl (by decide) ?_
  refine X_zast (pc' := 138) (j := 1) dX5_post_137 rfl r_M_11 (rfl) (by decide) (rfl) ?_
  refine X_aload_n (i := 0) (pc' := 139) dX5_post_138 rfl rfl rfl ?_
  refine X_get (pc' := 142) (v := .int _) dX5_post_139 rfl (gf_X5_96 _ rfl) o_M_1 rfl rfl ?_
  refine X_ri dX5_post_142 rfl ⟨rfl, rfl⟩ ?_
  refine ⟨?_, ⟨hTL.1, hTL.2, hok.p, newS_ok hok _, Nat.zero_le _, fun a (ha : a ∈ ([] : List SN)) => absurd ha (by simp), fun j a (ha : (none : Option SN) = some a) => absurd ha (by simp)⟩, fun i hi => ?_, ?_, ?_, ?_, ?_, fun j hj => ⟨?_, fun s hs => by cases hs⟩, ?_⟩
  · rw [xsi_ne _ _ _ (by decide), xsi_ne _ _ _ (by decide), xsi_un _ _ (by decide), r1.1]; exact h0
  · rw [xsi_ne _ _ _ (by decide), xsi_ne _ _ _ (by decide), xsi_ne _ _ _ (by decide), (e 8 (by decide)).1]; exact h8 i hi
  · rw [xsi_ne _ _ _ (by decide), xsi_ne _ _ _ (by decide), xsi_un _ _ (by decide), r1.1]; exact h13
  · refine ⟨?_, ?_, ?_, fun i hi => ?_, fun i hi => ?_⟩
    · rw [xsi_ne _ _ _ (by decide), xsi_ne _ _ _ (by decide), xsi_un _ _ (by decide), r1.1]; exact h0
    · rw [xsi_ne _ _ _ (by decide), xsi_ne _ _ _ (by decide), xsi_un _ _ (by decide), r1.1]; exact h1
    · rw [xsi_ne _ _ _ (by decide), xsi_ne _ _ _ (by decide), xsi_un _ _ (by decide), r1.1]; exact h2
    · have hi : i < pn q.2.2.1 := hi
      rw [xsi_ne _ _ _ (by decide), xsi_ne _ _ _ (by decide), xsi_ne _ _ _ (by decide)]; exact (g2 i (by omega)).2.1 hi
    · have hi : i < pn q.2.2.1 := hi
      rw [xsi_ne _ _ _ (by decide), xsi_ne _ _ _ (by decide), xsi_ne _ _ _ (by decide)]; exact (g2 i (by omega)).2.2
  · have hm : MS τ' 4 0 (pn q.2.2.1) (newS q.2.2.2) := by
      refine ⟨fun i hi => ?_, fun i hi => ?_, g1 _ (by decide) (by decide), g1 _ (by decide) (by decide), g1 _ (by decide) (by decide), g1 _ (by decide) (by decide), g1 _ (by decide) (by decide)⟩
      · rw [Nat.zero_add]
        exact (g2 i (by omega)).1.trans (if_pos hi)
      · exact g1 _ (by omega) (by omega)
    exact hm.row (by rw [xsi_ne _ _ _ (by decide), xsi_ne _ _ _ (by decide), xsi_ne _ _ _ (by decide)])
  · obtain ⟨nx, n1, n2⟩ := hnx
    refine ⟨nx, n1, ?_, ?_, Nat.zero_le _, fun j s hs => by cases hs⟩
    · rw [xsi_ne _ _ _ (by decide), xsi_ne _ _ _ (by decide), xsi_un _ _ (by decide), r1.1]; exact n2
    · rw [xsi_ne _ _ _ (by decide), xsi_ne _ _ _ (by decide), xsi_at]; rfl
  · have : j = 0 ∨ j = 1 := by omega
    rcases this with rfl | rfl
    · rw [xsi_un _ _ (by decide), xsi_at]; rfl
    · rw [xsi_at]; rfl
  · show τ'.2.1 1 21 = c
    rw [r1.2.1]; exact hc
end MV
