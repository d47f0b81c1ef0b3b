/-! ===== the model: years ===== -/
theorem ushrL (c : Int64) : (c.toUInt64 >>> ((nI 33).toInt64.toUInt64 &&& Int64.toUInt64 63)).toInt64 = lN (c.toUInt64.toNat / 2 ^ 33) := by
  have h1 : ((nI 33).toInt64.toUInt64 &&& Int64.toUInt64 63) = 33 := by decide
  rw [h1]
  apply Int64.toBitVec_inj.mp
  apply BitVec.eq_of_toNat_eq
  have h2 : c.toUInt64.toNat / 2 ^ 33 < 2 ^ 31 := by
    have := c.toUInt64.toNat_lt
    omega
  have h3 : (c.toUInt64 >>> 33).toBitVec.toNat = c.toUInt64.toNat / 2 ^ 33 := by
    show (c.toUInt64 >>> 33).toNat = _
    rw [UInt64.toNat_shiftRight]
    show c.toUInt64.toNat >>> (33 % 64) = _
    rw [Nat.shiftRight_eq_div_pow]
  refine Eq.trans h3 ?_
  show _ = (BitVec.ofNat 64 (c.toUInt64.toNat / 2 ^ 33)).toNat
  rw [BitVec.toNat_ofNat, Nat.mod_eq_of_lt (by omega)]
theorem drawL (c : Int64) : (lN (c.toUInt64.toNat / 2 ^ 33 % 9)).toInt32 = nI (drawN c) := by
  unfold drawN
  exact lN_i _
theorem RM_seed {τ : xT} {m : Nat} {S : SA} (h : RM τ m S) (v : Int64) : RM (xsl τ 1 21 v) m (aT S, aL S, aP S, aS S, aA S, aK S, v) := by
  obtain ⟨g1, g2, g3, g4, g5, g6, g7, g8⟩ := h
  refine ⟨g1, g2, g3, g4, g5, g6, g7, ?_⟩
  rw [xsl_self, pk_uLs]
section MY
variable (cx : xC)
set_option maxHeartbeats 4000000
set_option maxRecDepth 100000
theorem l2_years1 {P : PT} {m j n : Nat} (hP : Pok P) {S0 : SA} (hS0 : aP S0 = P) {sj : SN} {cj c1 : Int64} (hc1 : cj * 6364136223846793005 + 1442695040888963407 = c1) {d w : Nat} (hw : (c1.toUInt64 >>> ((nI 33).toInt64.toUInt64 &&& Int64.toUInt64 63)).toInt64 = lN w) (hw31 : w < 2 ^ 31) (hd : (lN (w % 9)).toInt32 = nI d) (hd9 : d < 9) (hj : j < n) (hn : n ≤ 30) (τ' : xT) (h1 : RM τ' m S0) (hc : τ'.2.1 1 21 = cj) (h2 : MS τ' 4 17 (pn P) sj) (ho : Sok P (m + j) sj) (hm : m < 4000) {Q : Option Value → xP → xT → Prop}
    (ih : ∀ τ2 : xT, RM τ2 m (aT S0, aL S0, aP S0, aS S0, aA S0, aK S0, c1) → MS τ2 4 17 (pn P) (stY P sj d) → X cx m_X5_years PM Q 21 [(2, .int (nI (j + 1))), (0, .ref 1), (1, .int (nI n))] [] PM τ2) : X cx m_X5_years PM Q 21 [(2, .int (nI j)), (0, .ref 1), (1, .int (nI n))] [] PM τ' := by
  have h3 := RM_seed h1 c1
  have h4 : MS (xsl τ' 1 21 c1) 4 17 (pn P) sj := h2
  have hT3 : MT (xsl τ' 1 21 c1) P := hS0 ▸ h3.2.2.2.1
  refine X_iload_n (i := 2) (pc' := 22) dX5_years_21 rfl rfl rfl ?_
  refine X_iload_n (i := 1) (pc' := 23) dX5_years_22 rfl rfl rfl ?_
  refine X_icmp_ge (pc' := 26) (tgt := 90) dX5_years_23 rfl (by decide) (fun h_23 => absurd h_23 (nI_ge hj (by omega))) (fun h_23 => ?_)
  refine X_aload_n (i := 0) (pc' := 27) dX5_years_26 rfl rfl rfl ?_
  refine X_aload_n (i := 0) (pc' := 28) dX5_years_27 rfl rfl rfl ?_
  refine X_get (pc' := 31) (v := .long _) dX5_years_28 rfl (gf_X5_197 _ rfl) o_M_1 rfl rfl ?_
  refine X_eql (cj) (hc) ?_
  refine X_ldc2 (pc' := 34) (v := (6364136223846793005 : Int64)) dX5_years_31 rfl cn_X5_203 ?_
  refine X_lmul (pc' := 35) dX5_years_34 rfl ?_
  refine X_ldc2 (pc' := 38) (v := (1442695040888963407 : Int64)) dX5_years_35 rfl cn_X5_205 ?_
  refine X_ladd (pc' := 39) dX5_years_38 rfl ?_
  refine X_eql (c1) (hc1) ?_
  refine X_putL (pc' := 42) dX5_years_39 rfl (pf_X5_197 _ rfl) o_M_1 rfl ?_
  refine X_aload_n (i := 0) (pc' := 43) dX5_years_42 rfl rfl rfl ?_
  refine X_get (pc' := 46) (v := .long _) dX5_years_43 rfl (gf_X5_197 _ rfl) o_M_1 rfl rfl ?_
  refine X_eql (c1) (by rw [xsl_self, pk_uLs]) ?_
  refine X_bipush (pc' := 48) (v := nI 33) dX5_years_46 rfl (by decide) ?_
  refine X_lushr (pc' := 49) dX5_years_48 rfl ?_
  refine X_eql (lN w) (hw) ?_
  refine X_ldc2 (pc' := 52) (v := lN 9) dX5_years_49 rfl cn_X5_63 ?_
  refine X_lrem (pc' := 53) dX5_years_52 rfl (by decide) ?_
  refine X_eql (lN (w % 9)) (pk_lRem (by omega) (by decide) (by omega)) ?_
  refine X_l2i (pc' := 54) dX5_years_53 rfl ?_
  refine X_eqi (nI d) (hd) ?_
  refine X_istore_n (i := 3) (pc' := 55) (lv' := [(3, _), (2, _), (0, _), (1, _)]) dX5_years_54 rfl rfl (Nat.le_of_ble_eq_true rfl) rfl ?_
  refine X_iload_n (i := 3) (pc' := 56) dX5_years_55 rfl rfl rfl ?_
  refine X_iconst (pc' := 57) (v := nI 5) dX5_years_56 rfl (by decide) ?_
  refine X_icmp_le (pc' := 60) (tgt := 68) dX5_years_57 rfl (by decide) (fun h_57 => ?_) (fun h_57 => ?_)
  · refine X_aload_n (i := 0) (pc' := 69) dX5_years_68 rfl rfl rfl ?_
    refine X_iconst (pc' := 70) (v := nI 1) dX5_years_69 rfl (by decide) ?_
    refine X_iload_n (i := 3) (pc' := 71) dX5_years_70 rfl rfl rfl ?_
    refine X_OIp (As := [_, _]) (rest := []) (pc' := 74) dX5_years_71 rfl k_X5_canSend l_X5_148 v_X5_canSend o_M_1 rfl ⟨by decide, by decide⟩ rfl rfl (Nat.le_of_ble_eq_true rfl) (d_canSend cx (xsl τ' 1 21 c1) hP hT3 (lev := 1) (by decide) h4 ho (nI d)) ?_
    refine X_if_eq (pc' := 77) (tgt := 84) dX5_years_74 rfl (by decide) (fun h_74 => ?_) (fun h_74 => ?_)
    · refine X_iinc (pc' := 87) (v := nI (j + 1)) (lv' := [(2, _), (3, _), (0, _), (1, _)]) dX5_years_84 rfl rfl ((nI_succ j).symm) (Nat.le_of_ble_eq_true rfl) rfl ?_
      refine X_goto (pc' := 0) (tgt := 21) dX5_years_87 (by decide) ?_
      by_cases h6 : 6 ≤ d
      · have hY : stY P sj d = pass sj := by unfold stY; rw [if_pos h6]
        first
          | exact X_lv _ (by simp) (ih τ_62 (h3.scr ⟨h_62.1, fun i hi => h_62.2.1 i (Or.inl (by omega))⟩) (by rw [hY]; exact h_62.2.2))
          | exact absurd (nI_le (show d ≤ 5 from (by
              have := h_57
              rw [leI (by decide), nI_toInt (by omega)] at this
              omega)) (by decide)) (fun _ => absurd h6 (by have := h_57; rw [leI (by decide), nI_toInt (by omega)] at this; omega))
      · first
          | (have hY : stY P sj d = sendS P sj d := by unfold stY; rw [if_neg h6, if_pos hcan]
             exact X_lv _ (by simp) (ih τ_80 (h3.scr ⟨h_80.2.1, fun i hi => h_80.2.2.1 i (Or.inl (by omega))⟩) (by rw [hY]; exact h_80.2.2.2)))
          | (have hnc : ¬ can P sj d := fun q => (zI_0.mp h_74) ((cani_nI hP (by omega)).mpr q)
             have hY : stY P sj d = sj := by unfold stY; rw [if_neg h6, if_neg hnc]
             exact X_lv _ (by simp) (ih _ h3 (by rw [hY]; exact h4)))
          | exact absurd (nI_le (show d ≤ 5 by omega) (by decide)) h_57
    · have hcan := (cani_nI hP (by omega)).mp (zI_1 h_74)
      refine X_aload_n (i := 0) (pc' := 78) dX5_years_77 rfl rfl rfl ?_
      refine X_iconst (pc' := 79) (v := nI 1) dX5_years_78 rfl (by decide) ?_
      refine X_iload_n (i := 3) (pc' := 80) dX5_years_79 rfl rfl rfl ?_
      refine X_OI (As := [_, _]) (rest := []) (pc' := 83) dX5_years_80 rfl k_X5_sendOn l_X5_128 v_X5_sendOn o_M_1 rfl ⟨by decide, by decide⟩ rfl rfl (Nat.le_of_ble_eq_true rfl) (d_sendOn cx (xsl τ' 1 21 c1) hP hT3 (lev := 1) (by decide) h4 ho (by omega) hcan.1) (fun x_80 τ_80 h_80 => ?_)
      refine X_pop (pc' := 84) dX5_years_83 rfl rfl ?_
      refine X_iinc (pc' := 87) (v := nI (j + 1)) (lv' := [(2, _), (3, _), (0, _), (1, _)]) dX5_years_84 rfl rfl ((nI_succ j).symm) (Nat.le_of_ble_eq_true rfl) rfl ?_
      refine X_goto (pc' := 0) (tgt := 21) dX5_years_87 (by decide) ?_
      by_cases h6 : 6 ≤ d
      · have hY : stY P sj d = pass sj := by unfold stY; rw [if_pos h6]
        first
          | exact X_lv _ (by simp) (ih τ_62 (h3.scr ⟨h_62.1, fun i hi => h_62.2.1 i (Or.inl (by omega))⟩) (by rw [hY]; exact h_62.2.2))
          | exact absurd (nI_le (show d ≤ 5 from (by
              have := h_57
              rw [leI (by decide), nI_toInt (by omega)] at this
              omega)) (by decide)) (fun _ => absurd h6 (by have := h_57; rw [leI (by decide), nI_toInt (by omega)] at this; omega))
      · first
          | (have hY : stY P sj d = sendS P sj d := by unfold stY; rw [if_neg h6, if_pos hcan]
             exact X_lv _ (by simp) (ih τ_80 (h3.scr ⟨h_80.2.1, fun i hi => h_80.2.2.1 i (Or.inl (by omega))⟩) (by rw [hY]; exact h_80.2.2.2)))
          | (have hnc : ¬ can P sj d := fun q => (zI_0.mp h_74) ((cani_nI hP (by omega)).mpr q)
             have hY : stY P sj d = sj := by unfold stY; rw [if_neg h6, if_neg hnc]
             exact X_lv _ (by simp) (ih _ h3 (by rw [hY]; exact h4)))
          | exact absurd (nI_le (show d ≤ 5 by omega) (by decide)) h_57
  · refine X_aload_n (i := 0) (pc' := 61) dX5_years_60 rfl rfl rfl ?_
    refine X_iconst (pc' := 62) (v := nI 1) dX5_years_61 rfl (by decide) ?_
    refine X_OV (As := [_]) (rest := []) (pc' := 65) dX5_years_62 rfl k_X5_passOn l_X5_131 v_X5_passOn o_M_1 rfl ⟨by decide, by decide⟩ rfl rfl (Nat.le_of_ble_eq_true rfl) (d_passOn cx (xsl τ' 1 21 c1) hP hT3 (lev := 1) (by decide) h4 ho (by omega)) (fun τ_62 h_62 => ?_)
    refine X_goto (pc' := 0) (tgt := 84) dX5_years_65 (by decide) ?_
    refine X_iinc (pc' := 87) (v := nI (j + 1)) (lv' := [(2, _), (3, _), (0, _), (1, _)]) dX5_years_84 rfl rfl ((nI_succ j).symm) (Nat.le_of_ble_eq_true rfl) rfl ?_
    refine X_goto (pc' := 0) (tgt := 21) dX5_years_87 (by decide) ?_
    by_cases h6 : 6 ≤ d
    · have hY : stY P sj d = pass sj := by unfold stY; rw [if_pos h6]
      first
        | exact X_lv _ (by simp) (ih τ_62 (h3.scr ⟨h_62.1, fun i hi => h_62.2.1 i (Or.inl (by omega))⟩) (by rw [hY]; exact h_62.2.2))
        | exact absurd (nI_le (show d ≤ 5 from (by
            have := h_57
            rw [leI (by decide), nI_toInt (by omega)] at this
            omega)) (by decide)) (fun _ => absurd h6 (by have := h_57; rw [leI (by decide), nI_toInt (by omega)] at this; omega))
    · first
        | (have hY : stY P sj d = sendS P sj d := by unfold stY; rw [if_neg h6, if_pos hcan]
           exact X_lv _ (by simp) (ih τ_80 (h3.scr ⟨h_80.2.1, fun i hi => h_80.2.2.1 i (Or.inl (by omega))⟩) (by rw [hY]; exact h_80.2.2.2)))
        | (have hnc : ¬ can P sj d := fun q => (zI_0.mp h_74) ((cani_nI hP (by omega)).mpr q)
           have hY : stY P sj d = sj := by unfold stY; rw [if_neg h6, if_neg hnc]
           exact X_lv _ (by simp) (ih _ h3 (by rw [hY]; exact h4)))
        | exact absurd (nI_le (show d ≤ 5 by omega) (by decide)) h_57
theorem l2_years (τ : xT) {S : SA} {m : Nat} (h : RM τ m S) (hm : m < 4000) {n : Nat} (hn : n ≤ 30) {r : Int32 × SA} (hr1 : r.1 = nI (sPd (yrN (aP S) (aS S) (aC S) n).1) - nI (sPd (aS S))) (hr2 : r.2 = (aT S, aL S, aP S, aS S, aA S, aK S, (yrN (aP S) (aS S) (aC S) n).2)) : ∀ (j : Nat) (τ' : xT), j ≤ n → (RM τ' m (aT S, aL S, aP S, aS S, aA S, aK S, (yrN (aP S) (aS S) (aC S) j).2) ∧ MS τ' 4 17 (pn (aP S)) (yrN (aP S) (aS S) (aC S) j).1) → X cx m_X5_years PM (qI PM (fun x τ' => x = r.1 ∧ RM τ' (m + 1) r.2)) 21 [(2, .int (nI j)), (0, .ref 1), (1, .int (nI n))] [] PM τ' := by
  refine xloop _ _ n (fun τ' h => ?_) (fun j τ' hj h' ih => ?_)
  · rw [hr1, hr2]
    refine X_iload_n (i := 2) (pc' := 22) dX5_years_21 rfl rfl rfl ?_
    refine X_iload_n (i := 1) (pc' := 23) dX5_years_22 rfl rfl rfl ?_
    refine X_icmp_ge (pc' := 26) (tgt := 90) dX5_years_23 rfl (by decide) (fun h_23 => ?_) (fun h_23 => absurd (nI_le (Nat.le_refl _) (by omega)) h_23)
    refine X_aload_n (i := 0) (pc' := 91) dX5_years_90 rfl rfl rfl ?_
    refine X_get (pc' := 94) (v := .ref 4) dX5_years_91 rfl (gf_X5_16 _ rfl) o_M_1 rfl rfl ?_
    refine X_bipush (pc' := 96) (v := nI 33) dX5_years_94 rfl (by decide) ?_
    refine X_iald (pc' := 97) (j := 33) dX5_years_96 rfl (Or.inl r_M_4) (rfl) (by decide) ?_
    refine X_eqi (nI (sPd (yrN (aP S) (aS S) (aC S) n).1)) (h.2.2.2.2.2.2.2) ?_
    refine X_aload_n (i := 0) (pc' := 98) dX5_years_97 rfl rfl rfl ?_
    refine X_get (pc' := 101) (v := .ref 4) dX5_years_98 rfl (gf_X5_16 _ rfl) o_M_1 rfl rfl ?_
    refine X_bipush (pc' := 103) (v := nI 16) dX5_years_101 rfl (by decide) ?_
    refine X_iald (pc' := 104) (j := 16) dX5_years_103 rfl (Or.inl r_M_4) (rfl) (by decide) ?_
    refine X_eqi (nI (sPd (aS S))) (h.1.2.2.2.2.1.2.2.2.2.2.2) ?_
    refine X_isub (pc' := 105) dX5_years_104 rfl ?_
    refine X_ri dX5_years_105 rfl ⟨rfl, rfl⟩ ?_
    exact ⟨rfl, h.1.mono (by omega)⟩
  · obtain ⟨h1, h2⟩ := h'
    have hP := h.1.2.2.1
    have ho := yrN_ok hP h.1.2.2.2.1 (aC S) j
    have hY1 := yrN_s (aP S) (aS S) (aC S) j
    rcases hq : yrN (aP S) (aS S) (aC S) j with ⟨sj, cj⟩
    rw [hq] at h1 h2 ho hY1
    rw [yrS_def] at hY1
    refine l2_years1 cx hP (S0 := (aT S, aL S, aP S, aS S, aA S, aK S, cj)) rfl (seedN_def cj) (ushrL (seedN cj)) (draw31 _) (drawL (seedN cj)) (drawN_lt _) hj hn τ' h1 h1.2.2.2.2.2.2.2 h2 ho hm (fun τ2 g1 g2 => ih τ2 ?_)
    rw [hY1]
    exact ⟨g1, g2⟩
theorem d_years (τ : xT) {S : SA} {m : Nat} (h : RM τ m S) (hm : m < 4000) (n : Int32) : CI cx m_X5_years [.ref 1, .int n] PM τ (fun x τ' => x = (yearsA S n).1 ∧ RM τ' (m + 1) (yearsA S n).2) := by
  have hn6 := h.1.2.2.1.1
  have e1 : n.toInt64.toInt = n.toInt := Int32.toInt_toInt64 n
  have f1 : (lN 1).toInt = 1 := rfl
  have f30 : (lN 30).toInt = 30 := rfl
  refine Ct_of (by decide) (Nat.le_of_ble_eq_true rfl) (lv := [(0, _), (1, _)]) rfl ?_
  unfold yearsA
  refine X_iload_n (i := 1) (pc' := 1) dX5_years_0 rfl rfl rfl ?_
  refine X_i2l (pc' := 2) dX5_years_1 rfl ?_
  refine X_lconst (pc' := 3) (v := lN 1) dX5_years_2 rfl rfl ?_
  refine X_ldc2 (pc' := 6) (v := lN 30) dX5_years_3 rfl cn_X5_201 ?_
  refine X_SIp (As := [_, _, _]) (rest := []) (pc' := 9) dX5_years_6 rfl k_X5_in l_X5_50 s_X5_in ⟨by decide, by decide⟩ rfl rfl (Nat.le_of_ble_eq_true rfl) (d_in cx τ _ _ _) ?_
  refine X_if_ne (pc' := 12) (tgt := 15) dX5_years_9 rfl (by decide) (fun h_9 => ?_) (fun h_9 => ?_)
  · have hc := zI_1 h_9
    rw [e1, f1, f30] at hc
    rw [if_pos hc]
    obtain ⟨v, hv, rfl⟩ := xsw_of (x := n) (n := 30) (by omega) (by decide)
    rw [show (nI v).toInt.toNat = v by rw [nI_toInt (by omega)]; rfl]
    refine X_aload_n (i := 0) (pc' := 16) dX5_years_15 rfl rfl rfl ?_
    refine X_OV (As := []) (rest := []) (pc' := 19) dX5_years_16 rfl k_X5_layTrial l_X5_135 v_X5_layTrial o_M_1 rfl ⟨by decide, by decide⟩ rfl rfl (Nat.le_of_ble_eq_true rfl) (d_layTrial cx τ) (fun τ_16 h_16 => ?_)
    refine X_iconst (pc' := 20) (v := nI 0) dX5_years_19 rfl (by decide) ?_
    refine X_istore_n (i := 2) (pc' := 21) (lv' := [(2, _), (0, _), (1, _)]) dX5_years_20 rfl rfl (Nat.le_of_ble_eq_true rfl) rfl ?_
    exact X_lv _ (by simp) (l2_years cx τ h hm hv rfl rfl 0 _ (by omega) ⟨h.scr ⟨h_16.1, h_16.2.1⟩, h.2.2.2.2.1.copy hn6 (fun i hi => by rw [Nat.zero_add]; exact h_16.2.2 i hi)⟩)
  · refine X_bipush (pc' := 14) (v := (-2)) dX5_years_12 rfl (by decide) ?_
    refine X_ri dX5_years_14 rfl ⟨rfl, rfl⟩ ?_
    have hc := zI_0.mp h_9
    rw [e1, f1, f30] at hc
    rw [if_neg hc]
    exact ⟨rfl, h.mono (by omega)⟩
end MY
