section TY
variable (cx : xC)
set_option maxHeartbeats 4000000
set_option maxRecDepth 100000
theorem l_years1 {P : PT} {m j n : Nat} (hP : Pok P) {S0 : SA} (hS0 : aP S0 = P) {sj : SN} {cj c1 : Int64} (hc1 : cj * 6364136223846793005 + 1442695040888963407 = c1) {d : Nat} (hd : nI (c1.toUInt64.toNat / 2 ^ 33) - nI (c1.toUInt64.toNat / 2 ^ 33) / nI 9 * nI 9 = nI d) (hd9 : d < 9) (hj : j < n) (hn : n ≤ 30) (τ' : xT) (h1 : RW τ' m S0) (hc : τ'.2.1 1 12 = cj) (h2 : SR τ' 15 (pn P) sj) (ho : Sok P (m + j) sj) (hm : m < 4000) {Q : Option Value → xP → xT → Prop}
    (ih : ∀ τ2 : xT, RW τ2 m (aT S0, aL S0, aP S0, aS S0, aA S0, aK S0, c1) → SR τ2 15 (pn P) (stY P sj d) → X cx m_X4_years PW Q 27 [(2, .int (nI (j + 1))), (0, .ref 1), (1, .int (nI n))] [] PW τ2) : X cx m_X4_years PW Q 27 [(2, .int (nI j)), (0, .ref 1), (1, .int (nI n))] [] PW τ' := by
  have h3 := RW_seed h1 c1
  have h4 : SR (xsl τ' 1 12 c1) 15 (pn P) sj := h2
  have hT3 : TR (xsl τ' 1 12 c1) 8 P := hS0 ▸ h3.2.2.2.1
  refine X_iload_n (i := 2) (pc' := 28) dX4_years_27 rfl rfl rfl ?_
  refine X_iload_n (i := 1) (pc' := 29) dX4_years_28 rfl rfl rfl ?_
  refine X_icmp_ge (pc' := 32) (tgt := 111) dX4_years_29 rfl (by decide) (fun h_29 => absurd h_29 (nI_ge hj (by omega))) (fun h_29 => ?_)
  refine X_aload_n (i := 0) (pc' := 33) dX4_years_32 rfl rfl rfl ?_
  refine X_aload_n (i := 0) (pc' := 34) dX4_years_33 rfl rfl rfl ?_
  refine X_get (pc' := 37) (v := .long _) dX4_years_34 rfl (gf_X4_206 _ rfl) o_W_1 rfl rfl ?_
  refine X_eql (cj) (hc) ?_
  refine X_ldc2 (pc' := 40) (v := (6364136223846793005 : Int64)) dX4_years_37 rfl cn_X4_210 ?_
  refine X_lmul (pc' := 41) dX4_years_40 rfl ?_
  refine X_ldc2 (pc' := 44) (v := (1442695040888963407 : Int64)) dX4_years_41 rfl cn_X4_212 ?_
  refine X_ladd (pc' := 45) dX4_years_44 rfl ?_
  refine X_eql (c1) (hc1) ?_
  refine X_putL (pc' := 48) dX4_years_45 rfl (pf_X4_206 _ rfl) o_W_1 rfl ?_
  refine X_aload_n (i := 0) (pc' := 49) dX4_years_48 rfl rfl rfl ?_
  refine X_get (pc' := 52) (v := .long _) dX4_years_49 rfl (gf_X4_206 _ rfl) o_W_1 rfl rfl ?_
  refine X_eql (c1) (by rw [xsl_self, pk_uLs]) ?_
  refine X_bipush (pc' := 54) (v := nI 33) dX4_years_52 rfl (by decide) ?_
  refine X_lushr (pc' := 55) dX4_years_54 rfl ?_
  refine X_l2i (pc' := 56) dX4_years_55 rfl ?_
  refine X_eqi (nI (c1.toUInt64.toNat / 2 ^ 33)) (ushr33 _) ?_
  refine X_bipush (pc' := 58) (v := nI 9) dX4_years_56 rfl (by decide) ?_
  refine X_irem (pc' := 59) dX4_years_58 rfl (by decide) ?_
  refine X_eqi (nI d) (hd) ?_
  refine X_istore_n (i := 3) (pc' := 60) (lv' := [(3, _), (2, _), (0, _), (1, _)]) dX4_years_59 rfl rfl (Nat.le_of_ble_eq_true rfl) rfl ?_
  refine X_iload_n (i := 3) (pc' := 61) dX4_years_60 rfl rfl rfl ?_
  refine X_bipush (pc' := 63) (v := nI 6) dX4_years_61 rfl (by decide) ?_
  refine X_icmp_lt (pc' := 66) (tgt := 83) dX4_years_63 rfl (by decide) (fun h_63 => ?_) (fun h_63 => ?_)
  · refine X_aload_n (i := 0) (pc' := 84) dX4_years_83 rfl rfl rfl ?_
    refine X_aload_n (i := 0) (pc' := 85) dX4_years_84 rfl rfl rfl ?_
    refine X_get (pc' := 88) (v := .ref 15) dX4_years_85 rfl (gf_X4_34 _ rfl) o_W_1 rfl rfl ?_
    refine X_iload_n (i := 3) (pc' := 89) dX4_years_88 rfl rfl rfl ?_
    refine X_OIp (As := [_, _]) (rest := []) (pc' := 92) dX4_years_89 rfl k_X4_canBeSent l_X4_115 v_X4_canBeSent o_W_1 rfl ⟨by decide, by decide⟩ rfl rfl (Nat.le_of_ble_eq_true rfl) (c_canBeSent cx (xsl τ' 1 12 c1) (by decide) hT3 h4 hP ho (nI d)) ?_
    refine X_if_eq (pc' := 95) (tgt := 105) dX4_years_92 rfl (by decide) (fun h_92 => ?_) (fun h_92 => ?_)
    · refine X_iinc (pc' := 108) (v := nI (j + 1)) (lv' := [(2, _), (3, _), (0, _), (1, _)]) dX4_years_105 rfl rfl ((nI_succ j).symm) (Nat.le_of_ble_eq_true rfl) rfl ?_
      refine X_goto (pc' := 0) (tgt := 27) dX4_years_108 (by decide) ?_
      first
        | (have h6 : 6 ≤ d := by
            rcases Nat.lt_or_ge d 6 with q | q
            · exact absurd (nI_lt q (by decide)) h_63
            · exact q
           have hY : stY P sj d = pass sj := by unfold stY; rw [if_pos h6]
           exact X_lv _ (by simp) (ih τ_77 (h3.scr (h_77.1.mono (by decide))) (by rw [hY]; exact h_77.2)))
        | (have h6 : ¬ 6 ≤ d := fun q => nI_nlt q (by omega) h_63
           have hY : stY P sj d = sendS P sj d := by unfold stY; rw [if_neg h6, if_pos hcan]
           exact X_lv _ (by simp) (ih τ_101 (h3.scr (h_101.1.1.mono (by decide))) (by rw [hY]; exact h_101.1.2)))
        | (have h6 : ¬ 6 ≤ d := fun q => nI_nlt q (by omega) h_63
           have hnc : ¬ can P sj d := fun q => (zI_0.mp h_92) ((cani_nI hP (by omega)).mpr q)
           have hY : stY P sj d = sj := by unfold stY; rw [if_neg h6, if_neg hnc]
           exact X_lv _ (by simp) (ih _ h3 (by rw [hY]; exact h4)))
    · have hcan := (cani_nI hP (by omega)).mp (zI_1 h_92)
      refine X_aload_n (i := 0) (pc' := 96) dX4_years_95 rfl rfl rfl ?_
      refine X_aload_n (i := 0) (pc' := 97) dX4_years_96 rfl rfl rfl ?_
      refine X_get (pc' := 100) (v := .ref 15) dX4_years_97 rfl (gf_X4_34 _ rfl) o_W_1 rfl rfl ?_
      refine X_iload_n (i := 3) (pc' := 101) dX4_years_100 rfl rfl rfl ?_
      refine X_OI (As := [_, _]) (rest := []) (pc' := 104) dX4_years_101 rfl k_X4_putSent l_X4_122 v_X4_putSent o_W_1 rfl ⟨by decide, by decide⟩ rfl rfl (Nat.le_of_ble_eq_true rfl) (c_putSent cx (xsl τ' 1 12 c1) (by decide) hT3 h4 hP ho (by omega) hcan.1) (fun x_101 τ_101 h_101 => ?_)
      refine X_pop (pc' := 105) dX4_years_104 rfl rfl ?_
      refine X_iinc (pc' := 108) (v := nI (j + 1)) (lv' := [(2, _), (3, _), (0, _), (1, _)]) dX4_years_105 rfl rfl ((nI_succ j).symm) (Nat.le_of_ble_eq_true rfl) rfl ?_
      refine X_goto (pc' := 0) (tgt := 27) dX4_years_108 (by decide) ?_
      first
        | (have h6 : 6 ≤ d := by
            rcases Nat.lt_or_ge d 6 with q | q
            · exact absurd (nI_lt q (by decide)) h_63
            · exact q
           have hY : stY P sj d = pass sj := by unfold stY; rw [if_pos h6]
           exact X_lv _ (by simp) (ih τ_77 (h3.scr (h_77.1.mono (by decide))) (by rw [hY]; exact h_77.2)))
        | (have h6 : ¬ 6 ≤ d := fun q => nI_nlt q (by omega) h_63
           have hY : stY P sj d = sendS P sj d := by unfold stY; rw [if_neg h6, if_pos hcan]
           exact X_lv _ (by simp) (ih τ_101 (h3.scr (h_101.1.1.mono (by decide))) (by rw [hY]; exact h_101.1.2)))
        | (have h6 : ¬ 6 ≤ d := fun q => nI_nlt q (by omega) h_63
           have hnc : ¬ can P sj d := fun q => (zI_0.mp h_92) ((cani_nI hP (by omega)).mpr q)
           have hY : stY P sj d = sj := by unfold stY; rw [if_neg h6, if_neg hnc]
           exact X_lv _ (by simp) (ih _ h3 (by rw [hY]; exact h4)))
  · refine X_aload_n (i := 0) (pc' := 67) dX4_years_66 rfl rfl rfl ?_
    refine X_get (pc' := 70) (v := .ref 15) dX4_years_67 rfl (gf_X4_34 _ rfl) o_W_1 rfl rfl ?_
    refine X_aload_n (i := 0) (pc' := 71) dX4_years_70 rfl rfl rfl ?_
    refine X_get (pc' := 74) (v := .ref 8) dX4_years_71 rfl (gf_X4_23 _ rfl) o_W_1 rfl rfl ?_
    refine X_get (pc' := 77) (v := .int _) dX4_years_74 rfl (gf_X4_78 _ rfl) o_W_8 rfl rfl ?_
    refine X_eqi (nI (pn P)) (hT3.2.2.1) ?_
    refine X_OV (As := [_]) (rest := []) (pc' := 80) dX4_years_77 rfl k_X2_passDay l_X4_126 v_X2_passDay o_W_15 rfl ⟨by decide, by decide⟩ rfl rfl (Nat.le_of_ble_eq_true rfl) (c_passDay cx (xsl τ' 1 12 c1) (by decide) hP rfl h4 ho (by omega)) (fun τ_77 h_77 => ?_)
    refine X_goto (pc' := 0) (tgt := 105) dX4_years_80 (by decide) ?_
    refine X_iinc (pc' := 108) (v := nI (j + 1)) (lv' := [(2, _), (3, _), (0, _), (1, _)]) dX4_years_105 rfl rfl ((nI_succ j).symm) (Nat.le_of_ble_eq_true rfl) rfl ?_
    refine X_goto (pc' := 0) (tgt := 27) dX4_years_108 (by decide) ?_
    first
      | (have h6 : 6 ≤ d := by
          rcases Nat.lt_or_ge d 6 with q | q
          · exact absurd (nI_lt q (by decide)) h_63
          · exact q
         have hY : stY P sj d = pass sj := by unfold stY; rw [if_pos h6]
         exact X_lv _ (by simp) (ih τ_77 (h3.scr (h_77.1.mono (by decide))) (by rw [hY]; exact h_77.2)))
      | (have h6 : ¬ 6 ≤ d := fun q => nI_nlt q (by omega) h_63
         have hY : stY P sj d = sendS P sj d := by unfold stY; rw [if_neg h6, if_pos hcan]
         exact X_lv _ (by simp) (ih τ_101 (h3.scr (h_101.1.1.mono (by decide))) (by rw [hY]; exact h_101.1.2)))
      | (have h6 : ¬ 6 ≤ d := fun q => nI_nlt q (by omega) h_63
         have hnc : ¬ can P sj d := fun q => (zI_0.mp h_92) ((cani_nI hP (by omega)).mpr q)
         have hY : stY P sj d = sj := by unfold stY; rw [if_neg h6, if_neg hnc]
         exact X_lv _ (by simp) (ih _ h3 (by rw [hY]; exact h4)))
theorem l_years (τ : xT) {S : SA} {m : Nat} (h : RW τ m S) (hm : m < 4000) {n : Nat} (hn : n ≤ 30) {r : Int32 × SA} (hr1 : r.1 = nI (sPd (yrN (aP S) (aS S) (aC S) n).1) - nI (sPd (aS S))) (hr2 : r.2 = (aT S, aL S, aP S, aS S, aA S, aK S, (yrN (aP S) (aS S) (aC S) n).2)) : ∀ (j : Nat) (τ' : xT), j ≤ n → (RW τ' m (aT S, aL S, aP S, aS S, aA S, aK S, (yrN (aP S) (aS S) (aC S) j).2) ∧ SR τ' 15 (pn (aP S)) (yrN (aP S) (aS S) (aC S) j).1) → X cx m_X4_years PW (qI PW (fun x τ' => x = r.1 ∧ RW τ' (m + 1) r.2)) 27 [(2, .int (nI j)), (0, .ref 1), (1, .int (nI n))] [] PW τ' := by
  refine xloop _ _ n (fun τ' h => ?_) (fun j τ' hj h' ih => ?_)
  · rw [hr1, hr2]
    refine X_iload_n (i := 2) (pc' := 28) dX4_years_27 rfl rfl rfl ?_
    refine X_iload_n (i := 1) (pc' := 29) dX4_years_28 rfl rfl rfl ?_
    refine X_icmp_ge (pc' := 32) (tgt := 111) dX4_years_29 rfl (by decide) (fun h_29 => ?_) (fun h_29 => absurd (nI_le (Nat.le_refl _) (by omega)) h_29)
    refine X_aload_n (i := 0) (pc' := 112) dX4_years_111 rfl rfl rfl ?_
    refine X_get (pc' := 115) (v := .ref 15) dX4_years_112 rfl (gf_X4_34 _ rfl) o_W_1 rfl rfl ?_
    refine X_get (pc' := 118) (v := .int _) dX4_years_115 rfl (gf_X4_169 _ rfl) o_W_15 rfl rfl ?_
    refine X_eqi (nI (sPd (yrN (aP S) (aS S) (aC S) n).1)) (h.2.2.2.2.2.1) ?_
    refine X_aload_n (i := 0) (pc' := 119) dX4_years_118 rfl rfl rfl ?_
    refine X_get (pc' := 122) (v := .ref 12) dX4_years_119 rfl (gf_X4_30 _ rfl) o_W_1 rfl rfl ?_
    refine X_get (pc' := 125) (v := .int _) dX4_years_122 rfl (gf_X4_169 _ rfl) o_W_12 rfl rfl ?_
    refine X_eqi (nI (sPd (aS S))) (h.1.2.2.2.2.1.2.2.2.2.1) ?_
    refine X_isub (pc' := 126) dX4_years_125 rfl ?_
    refine X_ri dX4_years_126 rfl ⟨rfl, rfl⟩ ?_
    exact ⟨rfl, h.1.mono (by omega)⟩
  · obtain ⟨h1, h2⟩ := h'
    have hP := h.1.2.2.1
    have ho := yrN_ok hP h.1.2.2.2.1 (aC S) j
    have hY1 := yrN_s (aP S) (aS S) (aC S) j
    rcases hq : yrN (aP S) (aS S) (aC S) j with ⟨sj, cj⟩
    rw [hq] at h1 h2 ho hY1
    rw [yrS_def] at hY1
    refine l_years1 cx hP (S0 := (aT S, aL S, aP S, aS S, aA S, aK S, cj)) rfl (seedN_def cj) (draw_rem (seedN cj)) (drawN_lt _) hj hn τ' h1 h1.2.2.2.2.2.2.2 h2 ho hm (fun τ2 g1 g2 => ih τ2 ?_)
    rw [hY1]
    exact ⟨g1, g2⟩
theorem c_years (τ : xT) {S : SA} {m : Nat} (h : RW τ m S) (hm : m < 4000) (n : Int32) : CI cx m_X4_years [.ref 1, .int n] PW τ (fun x τ' => x = (yearsA S n).1 ∧ RW τ' (m + 1) (yearsA S n).2) := by
  have hn6 := h.1.2.2.1.1
  refine Ct_of (by decide) (Nat.le_of_ble_eq_true rfl) (lv := [(0, _), (1, _)]) rfl ?_
  unfold yearsA
  refine X_iload_n (i := 1) (pc' := 1) dX4_years_0 rfl rfl rfl ?_
  refine X_iconst (pc' := 2) (v := nI 1) dX4_years_1 rfl (by decide) ?_
  refine X_icmp_lt (pc' := 5) (tgt := 11) dX4_years_2 rfl (by decide) (fun h_2 => ?_) (fun h_2 => ?_)
  · refine X_bipush (pc' := 13) (v := (-2)) dX4_years_11 rfl (by decide) ?_
    refine X_ri dX4_years_13 rfl ⟨rfl, rfl⟩ ?_
    rw [if_neg (fun q => by simp only [ltI (n := 1) (by decide), leI (n := 30) (by decide)] at *; omega)]
    exact ⟨rfl, h.mono (by omega)⟩
  · refine X_iload_n (i := 1) (pc' := 6) dX4_years_5 rfl rfl rfl ?_
    refine X_bipush (pc' := 8) (v := nI 30) dX4_years_6 rfl (by decide) ?_
    refine X_icmp_le (pc' := 11) (tgt := 14) dX4_years_8 rfl (by decide) (fun h_8 => ?_) (fun h_8 => ?_)
    · have hc : 1 ≤ n.toInt ∧ n.toInt ≤ 30 := by simp only [ltI (n := 1) (by decide), leI (n := 30) (by decide)] at *; omega
      rw [if_pos hc]
      obtain ⟨v, hv, rfl⟩ := xsw_of (x := n) (n := 30) (by omega) (by decide)
      rw [show (nI v).toInt.toNat = v by rw [nI_toInt (by omega)]; rfl]
      refine X_aload_n (i := 0) (pc' := 15) dX4_years_14 rfl rfl rfl ?_
      refine X_get (pc' := 18) (v := .ref 15) dX4_years_15 rfl (gf_X4_34 _ rfl) o_W_1 rfl rfl ?_
      refine X_aload_n (i := 0) (pc' := 19) dX4_years_18 rfl rfl rfl ?_
      refine X_get (pc' := 22) (v := .ref 12) dX4_years_19 rfl (gf_X4_30 _ rfl) o_W_1 rfl rfl ?_
      refine X_OV (As := [_]) (rest := []) (pc' := 25) dX4_years_22 rfl k_X2_take l_X4_141 v_X2_take o_W_15 rfl ⟨by decide, by decide⟩ rfl rfl (Nat.le_of_ble_eq_true rfl) (ct_take cx τ (k := 15) (by decide) (by decide) (by decide) hn6 h.2.2.2.2.1) (fun τ_22 h_22 => ?_)
      refine X_iconst (pc' := 26) (v := nI 0) dX4_years_25 rfl (by decide) ?_
      refine X_istore_n (i := 2) (pc' := 27) (lv' := [(2, _), (0, _), (1, _)]) dX4_years_26 rfl rfl (Nat.le_of_ble_eq_true rfl) rfl ?_
      exact X_lv _ (by simp) (l_years cx τ h hm hv rfl rfl 0 τ_22 (by omega) ⟨h.scr (h_22.1.mono (by decide)), h_22.2⟩)
    · refine X_bipush (pc' := 13) (v := (-2)) dX4_years_11 rfl (by decide) ?_
      refine X_ri dX4_years_13 rfl ⟨rfl, rfl⟩ ?_
      rw [if_neg (fun q => by simp only [ltI (n := 1) (by decide), leI (n := 30) (by decide)] at *; omega)]
      exact ⟨rfl, h.mono (by omega)⟩
end TY
