/-! ===== the model: letter, cheapest, waits ===== -/
theorem nI_z (b : Nat) (h : b < 2) : nI b = zI (b = 1) := by
  have : b = 0 ∨ b = 1 := by omega
  rcases this with e | e <;> subst e <;> rfl
section M5
variable (cx : xC)
set_option maxHeartbeats 4000000
set_option maxRecDepth 100000
theorem d_letter (τ : xT) {P : PT} (hP : Pok P) (h : MT τ P) {m : Nat} {s : SN} (hs : MS τ 4 0 (pn P) s) (ho : Sok P m s) (hm : m < 4500) (l w : Int32) : CI cx m_X5_letter [.ref 1, .int l, .int w] PM τ (fun x τ' => τ' = τ ∧ x = letterF P s l w) := by
  obtain ⟨h0, h1, h2, h3, h4, h5, h6⟩ := id hs
  have hn6 := hP.1
  have h26 := two6 hP
  have hst := ho.2.1
  have htn := ho.2.2.2.1
  refine Ct_of (by decide) (Nat.le_of_ble_eq_true rfl) (lv := [(0, _), (1, _), (2, _)]) rfl ?_
  refine X_aload_n (i := 0) (pc' := 1) dX5_letter_0 rfl rfl rfl ?_
  refine X_iload_n (i := 1) (pc' := 2) dX5_letter_1 rfl rfl rfl ?_
  refine X_OIp (As := [_]) (rest := []) (pc' := 5) dX5_letter_2 rfl k_X5_isLetter l_X5_112 v_X5_isLetter o_M_1 rfl ⟨by decide, by decide⟩ rfl rfl (Nat.le_of_ble_eq_true rfl) (d_isLetter cx τ hP h l) ?_
  refine X_if_ne (pc' := 8) (tgt := 10) dX5_letter_5 rfl (by decide) (fun h_5 => ?_) (fun h_5 => ?_)
  · obtain ⟨k, hk, rfl⟩ := kn_of (zI_1 h_5)
    rw [letterF, onL_in hP hk]
    refine X_iload_n (i := 2) (pc' := 11) dX5_letter_10 rfl rfl rfl ?_
    rcases Classical.em (w.toInt < 0 ∨ 6 < w.toInt) with hs_11 | hs_11
    · refine X_tabOut (pc' := 0) (tgt := 128) dX5_letter_11 hs_11 (by decide) ?_
      refine X_bipush (pc' := 130) (v := (-2)) dX5_letter_128 rfl (by decide) ?_
      refine X_ri dX5_letter_130 rfl ⟨rfl, rfl⟩ ?_
      exact ⟨rfl, (swF_out hs_11).symm⟩
    · obtain ⟨j_11, hj_11, rfl⟩ := xsw_of (n := 6) hs_11 (by decide)
      rcases (show j_11 = 0 ∨ j_11 = 1 ∨ j_11 = 2 ∨ j_11 = 3 ∨ j_11 = 4 ∨ j_11 = 5 ∨ j_11 = 6 by omega) with rfl | rfl | rfl | rfl | rfl | rfl | rfl
      · refine X_tabIn (pc' := 0) (off := 41) (tgt := 52) dX5_letter_11 (by decide) (by decide) rfl (by decide) ?_
        refine X_aload_n (i := 0) (pc' := 53) dX5_letter_52 rfl rfl rfl ?_
        refine X_get (pc' := 56) (v := .ref 4) dX5_letter_53 rfl (gf_X5_16 _ rfl) o_M_1 rfl rfl ?_
        refine X_iload_n (i := 1) (pc' := 57) dX5_letter_56 rfl rfl rfl ?_
        refine X_iald (pc' := 58) (j := k) dX5_letter_57 rfl (Or.inl r_M_4) (rfl) (by omega) ?_
        refine X_ri dX5_letter_58 rfl ⟨rfl, rfl⟩ ?_
        rw [swF_in (by decide) (by decide)]; exact ⟨rfl, by have q := h0 k hk; rw [Nat.zero_add] at q; exact q⟩
      · refine X_tabIn (pc' := 0) (off := 48) (tgt := 59) dX5_letter_11 (by decide) (by decide) rfl (by decide) ?_
        refine X_aload_n (i := 0) (pc' := 60) dX5_letter_59 rfl rfl rfl ?_
        refine X_get (pc' := 63) (v := .ref 2) dX5_letter_60 rfl (gf_X5_7 _ rfl) o_M_1 rfl rfl ?_
        refine X_iload_n (i := 1) (pc' := 64) dX5_letter_63 rfl rfl rfl ?_
        refine X_iald (pc' := 65) (j := k) dX5_letter_64 rfl (Or.inl r_M_2) (rfl) (by omega) ?_
        refine X_ri dX5_letter_65 rfl ⟨rfl, rfl⟩ ?_
        rw [swF_in (by decide) (by decide)]; exact ⟨rfl, h.2.2.2.1 k hk⟩
      · refine X_tabIn (pc' := 0) (off := 55) (tgt := 66) dX5_letter_11 (by decide) (by decide) rfl (by decide) ?_
        refine X_aload_n (i := 0) (pc' := 67) dX5_letter_66 rfl rfl rfl ?_
        refine X_get (pc' := 70) (v := .ref 3) dX5_letter_67 rfl (gf_X5_13 _ rfl) o_M_1 rfl rfl ?_
        refine X_iload_n (i := 1) (pc' := 71) dX5_letter_70 rfl rfl rfl ?_
        refine X_iald (pc' := 72) (j := k) dX5_letter_71 rfl (Or.inl r_M_3) (rfl) (by omega) ?_
        refine X_ri dX5_letter_72 rfl ⟨rfl, rfl⟩ ?_
        rw [swF_in (by decide) (by decide)]; exact ⟨rfl, h.2.2.2.2 k hk⟩
      · refine X_tabIn (pc' := 0) (off := 62) (tgt := 73) dX5_letter_11 (by decide) (by decide) rfl (by decide) ?_
        refine X_aload_n (i := 0) (pc' := 74) dX5_letter_73 rfl rfl rfl ?_
        refine X_get (pc' := 77) (v := .ref 4) dX5_letter_74 rfl (gf_X5_16 _ rfl) o_M_1 rfl rfl ?_
        refine X_bipush (pc' := 79) (v := nI 13) dX5_letter_77 rfl (by decide) ?_
        refine X_iald (pc' := 80) (j := 13) dX5_letter_79 rfl (Or.inl r_M_4) (rfl) (by decide) ?_
        refine X_eqi (nI (sSt s)) (h3) ?_
        refine X_iload_n (i := 1) (pc' := 81) dX5_letter_80 rfl rfl rfl ?_
        refine X_ishr (pc' := 82) dX5_letter_81 rfl ?_
        refine X_iconst (pc' := 83) (v := nI 1) dX5_letter_82 rfl (by decide) ?_
        refine X_iand (pc' := 84) dX5_letter_83 rfl ?_
        refine X_eqi (nI (sSt s / 2 ^ k % 2)) (bt_shr (by omega) (by omega)) ?_
        refine X_ri dX5_letter_84 rfl ⟨rfl, rfl⟩ ?_
        rw [swF_in (by decide) (by decide)]; exact ⟨rfl, nI_z _ (Nat.mod_lt _ (by decide))⟩
      · refine X_tabIn (pc' := 0) (off := 74) (tgt := 85) dX5_letter_11 (by decide) (by decide) rfl (by decide) ?_
        refine X_aload_n (i := 0) (pc' := 86) dX5_letter_85 rfl rfl rfl ?_
        refine X_get (pc' := 89) (v := .ref 4) dX5_letter_86 rfl (gf_X5_16 _ rfl) o_M_1 rfl rfl ?_
        refine X_bipush (pc' := 91) (v := nI 12) dX5_letter_89 rfl (by decide) ?_
        refine X_iald (pc' := 92) (j := 12) dX5_letter_91 rfl (Or.inl r_M_4) (rfl) (by decide) ?_
        refine X_eqi (nI (sTn s)) (h2) ?_
        refine X_iload_n (i := 1) (pc' := 93) dX5_letter_92 rfl rfl rfl ?_
        refine X_ishr (pc' := 94) dX5_letter_93 rfl ?_
        refine X_iconst (pc' := 95) (v := nI 1) dX5_letter_94 rfl (by decide) ?_
        refine X_iand (pc' := 96) dX5_letter_95 rfl ?_
        refine X_eqi (nI (sTn s / 2 ^ k % 2)) (bt_shr (by omega) (by omega)) ?_
        refine X_ri dX5_letter_96 rfl ⟨rfl, rfl⟩ ?_
        rw [swF_in (by decide) (by decide)]; exact ⟨rfl, nI_z _ (Nat.mod_lt _ (by decide))⟩
      · refine X_tabIn (pc' := 0) (off := 86) (tgt := 97) dX5_letter_11 (by decide) (by decide) rfl (by decide) ?_
        refine X_aload_n (i := 0) (pc' := 98) dX5_letter_97 rfl rfl rfl ?_
        refine X_get (pc' := 101) (v := .ref 4) dX5_letter_98 rfl (gf_X5_16 _ rfl) o_M_1 rfl rfl ?_
        refine X_bipush (pc' := 103) (v := nI 6) dX5_letter_101 rfl (by decide) ?_
        refine X_iload_n (i := 1) (pc' := 104) dX5_letter_103 rfl rfl rfl ?_
        refine X_iadd (pc' := 105) dX5_letter_104 rfl ?_
        refine X_iald (pc' := 106) (j := 6 + k) dX5_letter_105 rfl (Or.inl r_M_4) (nI_add _ _) (by omega) ?_
        refine X_ri dX5_letter_106 rfl ⟨rfl, rfl⟩ ?_
        rw [swF_in (by decide) (by decide)]; exact ⟨rfl, h1 k hk⟩
      · refine X_tabIn (pc' := 0) (off := 96) (tgt := 107) dX5_letter_11 (by decide) (by decide) rfl (by decide) ?_
        refine X_aload_n (i := 0) (pc' := 108) dX5_letter_107 rfl rfl rfl ?_
        refine X_iconst (pc' := 109) (v := nI 0) dX5_letter_108 rfl (by decide) ?_
        refine X_iload_n (i := 1) (pc' := 110) dX5_letter_109 rfl rfl rfl ?_
        refine X_OIp (As := [_, _]) (rest := []) (pc' := 113) dX5_letter_110 rfl k_X5_isSent l_X5_116 v_X5_isSent o_M_1 rfl ⟨by decide, by decide⟩ rfl rfl (Nat.le_of_ble_eq_true rfl) (d_isSent cx τ (lev := 0) (by decide) hs (by omega) (show k < 31 by omega)) ?_
        refine X_if_eq (pc' := 116) (tgt := 121) dX5_letter_113 rfl (by decide) (fun h_113 => ?_) (fun h_113 => ?_)
        · refine X_aload_n (i := 0) (pc' := 122) dX5_letter_121 rfl rfl rfl ?_
          refine X_iconst (pc' := 123) (v := nI 0) dX5_letter_122 rfl (by decide) ?_
          refine X_iload_n (i := 1) (pc' := 124) dX5_letter_123 rfl rfl rfl ?_
          refine X_OIp (As := [_, _]) (rest := []) (pc' := 127) dX5_letter_124 rfl k_X5_priceOn l_X5_119 v_X5_priceOn o_M_1 rfl ⟨by decide, by decide⟩ rfl rfl (Nat.le_of_ble_eq_true rfl) (d_priceOn cx τ hP h (lev := 0) (by decide) hs ho (by omega) hk) ?_
          refine X_ri dX5_letter_127 rfl ⟨rfl, rfl⟩ ?_
          rw [swF_in (by decide) (by decide)]
          first
            | exact ⟨rfl, (if_neg (zI_0.mp h_113)).symm⟩
            | exact ⟨rfl, (if_pos (zI_1 h_113)).symm⟩
        · refine X_bipush (pc' := 118) (v := (-9)) dX5_letter_116 rfl (by decide) ?_
          refine X_goto (pc' := 0) (tgt := 127) dX5_letter_118 (by decide) ?_
          refine X_ri dX5_letter_127 rfl ⟨rfl, rfl⟩ ?_
          rw [swF_in (by decide) (by decide)]
          first
            | exact ⟨rfl, (if_neg (zI_0.mp h_113)).symm⟩
            | exact ⟨rfl, (if_pos (zI_1 h_113)).symm⟩
  · refine X_iconst (pc' := 9) (v := (-1)) dX5_letter_8 rfl (by decide) ?_
    refine X_ri dX5_letter_9 rfl ⟨rfl, rfl⟩ ?_
    exact ⟨rfl, (onL_out (zI_0.mp h_5)).symm⟩
end M5
