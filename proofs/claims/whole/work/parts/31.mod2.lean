/-! ===== the model: a letter sent, a day passed, the trial laid ===== -/
theorem xsi_at (τ : xT) (a k : Nat) (v : Int32) : (xsi τ a k v).1 a k = v := by rw [xsi_self, pk_us]
theorem xsi_un (τ : xT) {a k i : Nat} (v : Int32) (h : i ≠ k) : (xsi τ a k v).1 a i = τ.1 a i := by rw [xsi_self, pk_un h]
section M2
variable (cx : xC)
set_option maxHeartbeats 4000000
set_option maxRecDepth 100000
theorem d_layTrial (τ : xT) : CV cx m_X5_layTrial [.ref 1] PM τ (fun τ' => xeq [4] τ τ' ∧ (∀ i, i < 17 → τ'.1 4 i = τ.1 4 i) ∧ ∀ i, i < 17 → τ'.1 4 (17 + i) = τ.1 4 i) := by
  have hl : ∀ (j : Nat) (τ' : xT), j ≤ 17 → (xeq [4] τ τ' ∧ (∀ i, i < 17 → τ'.1 4 i = τ.1 4 i) ∧ ∀ i, i < j → τ'.1 4 (17 + i) = τ.1 4 i) → X cx m_X5_layTrial PM (qV PM (fun τ' => xeq [4] τ τ' ∧ (∀ i, i < 17 → τ'.1 4 i = τ.1 4 i) ∧ ∀ i, i < 17 → τ'.1 4 (17 + i) = τ.1 4 i)) 2 [(1, .int (nI j)), (0, .ref 1)] [] PM τ' := by
    refine xloop _ _ 17 (fun τ' h => ?_) (fun j τ' hj h ih => ?_)
    · refine X_iload_n (i := 1) (pc' := 3) dX5_layTrial_2 rfl rfl rfl ?_
      refine X_bipush (pc' := 5) (v := nI 17) dX5_layTrial_3 rfl (by decide) ?_
      refine X_icmp_ge (pc' := 8) (tgt := 29) dX5_layTrial_5 rfl (by decide) (fun h_5 => ?_) (fun h_5 => absurd (nI_le (Nat.le_refl _) (by omega)) h_5)
      refine X_rv dX5_layTrial_29 rfl ⟨rfl, rfl⟩ ?_
      exact h
    · obtain ⟨g1, g2, g3⟩ := h
      refine X_iload_n (i := 1) (pc' := 3) dX5_layTrial_2 rfl rfl rfl ?_
      refine X_bipush (pc' := 5) (v := nI 17) dX5_layTrial_3 rfl (by decide) ?_
      refine X_icmp_ge (pc' := 8) (tgt := 29) dX5_layTrial_5 rfl (by decide) (fun h_5 => absurd h_5 (nI_ge hj (by omega))) (fun h_5 => ?_)
      refine X_aload_n (i := 0) (pc' := 9) dX5_layTrial_8 rfl rfl rfl ?_
      refine X_get (pc' := 12) (v := .ref 4) dX5_layTrial_9 rfl (gf_X5_16 _ rfl) o_M_1 rfl rfl ?_
      refine X_bipush (pc' := 14) (v := nI 17) dX5_layTrial_12 rfl (by decide) ?_
      refine X_iload_n (i := 1) (pc' := 15) dX5_layTrial_14 rfl rfl rfl ?_
      refine X_iadd (pc' := 16) dX5_layTrial_15 rfl ?_
      refine X_aload_n (i := 0) (pc' := 17) dX5_layTrial_16 rfl rfl rfl ?_
      refine X_get (pc' := 20) (v := .ref 4) dX5_layTrial_17 rfl (gf_X5_16 _ rfl) o_M_1 rfl rfl ?_
      refine X_iload_n (i := 1) (pc' := 21) dX5_layTrial_20 rfl rfl rfl ?_
      refine X_iald (pc' := 22) (j := j) dX5_layTrial_21 rfl (Or.inl r_M_4) (rfl) (by omega) ?_
      refine X_eqi (τ.1 4 j) (g2 j hj) ?_
      refine X_iast (pc' := 23) (j := 17 + j) dX5_layTrial_22 rfl r_M_4 (nI_add _ _) (by omega) ?_
      refine X_iinc (pc' := 26) (v := nI (j + 1)) (lv' := [(1, _), (0, _)]) dX5_layTrial_23 rfl rfl (nI_add _ _) (Nat.le_of_ble_eq_true rfl) rfl ?_
      refine X_goto (pc' := 0) (tgt := 2) dX5_layTrial_26 (by decide) ?_
      refine X_lv _ (by simp) (ih _ ⟨g1.si (by simp), fun i hi => ?_, fun i hi => ?_⟩)
      · rw [xsi_un _ _ (by omega)]; exact g2 i hi
      · by_cases e : i = j
        · rw [e, xsi_at]
        · rw [xsi_un _ _ (by omega)]; exact g3 i (by omega)
  refine Ct_of (by decide) (Nat.le_of_ble_eq_true rfl) (lv := [(0, _)]) rfl ?_
  refine X_iconst (pc' := 1) (v := nI 0) dX5_layTrial_0 rfl (by decide) ?_
  refine X_istore_n (i := 1) (pc' := 2) (lv' := [(1, _), (0, _)]) dX5_layTrial_1 rfl rfl (Nat.le_of_ble_eq_true rfl) rfl ?_
  exact X_lv _ (by simp) (hl 0 τ (by decide) ⟨xeq.rf, fun i hi => rfl, fun i hi => absurd hi (Nat.not_lt_zero i)⟩)
theorem d_sendOn (τ : xT) {P : PT} (hP : Pok P) (h : MT τ P) {m lev : Nat} {s : SN} (hl : lev < 2) (hs : MS τ 4 (17 * lev) (pn P) s) (ho : Sok P m s) (hm : m < 5000) {k : Nat} (hk : k < pn P) : CI cx m_X5_sendOn [.ref 1, .int (nI lev), .int (nI k)] PM τ (fun x τ' => x = nI (price P s k) ∧ xeq [4] τ τ' ∧ (∀ i, i < 17 * lev ∨ 17 * lev + 17 ≤ i → τ'.1 4 i = τ.1 4 i) ∧ MS τ' 4 (17 * lev) (pn P) (sendS P s k)) := by
  have hc := d_priceOn cx τ hP h hl hs ho hm hk
  obtain ⟨h0, h1, h2, h3, h4, h5, h6⟩ := hs
  have hn6 := hP.1
  have h26 := two6 hP
  obtain ⟨o0, o1, o2, o3, o4, o5, o6⟩ := ho
  refine Ct_of (by decide) (Nat.le_of_ble_eq_true rfl) (lv := [(0, _), (1, _), (2, _)]) rfl ?_
  refine X_bipush (pc' := 2) (v := nI 17) dX5_sendOn_0 rfl (by decide) ?_
  refine X_iload_n (i := 1) (pc' := 3) dX5_sendOn_2 rfl rfl rfl ?_
  refine X_imul (pc' := 4) dX5_sendOn_3 rfl ?_
  refine X_eqi (nI (17 * lev)) (pk_mul _ _) ?_
  refine X_istore_n (i := 3) (pc' := 5) (lv' := [(3, _), (0, _), (1, _), (2, _)]) dX5_sendOn_4 rfl rfl (Nat.le_of_ble_eq_true rfl) rfl ?_
  refine X_aload_n (i := 0) (pc' := 6) dX5_sendOn_5 rfl rfl rfl ?_
  refine X_iload_n (i := 1) (pc' := 7) dX5_sendOn_6 rfl rfl rfl ?_
  refine X_iload_n (i := 2) (pc' := 8) dX5_sendOn_7 rfl rfl rfl ?_
  refine X_OIp (As := [_, _]) (rest := []) (pc' := 11) dX5_sendOn_8 rfl k_X5_priceOn l_X5_119 v_X5_priceOn o_M_1 rfl ⟨by decide, by decide⟩ rfl rfl (Nat.le_of_ble_eq_true rfl) (hc) ?_
  refine X_istore (pc' := 13) (lv' := [(4, _), (3, _), (0, _), (1, _), (2, _)]) dX5_sendOn_11 rfl (Nat.le_of_ble_eq_true rfl) rfl ?_
  refine X_aload_n (i := 0) (pc' := 14) dX5_sendOn_13 rfl rfl rfl ?_
  refine X_get (pc' := 17) (v := .ref 4) dX5_sendOn_14 rfl (gf_X5_16 _ rfl) o_M_1 rfl rfl ?_
  refine X_iload_n (i := 3) (pc' := 18) dX5_sendOn_17 rfl rfl rfl ?_
  refine X_bipush (pc' := 20) (v := nI 13) dX5_sendOn_18 rfl (by decide) ?_
  refine X_iadd (pc' := 21) dX5_sendOn_20 rfl ?_
  refine X_eqi (nI (17 * lev + 13)) (nI_add _ _) ?_
  refine X_dup2 (pc' := 22) dX5_sendOn_21 rfl rfl rfl ?_
  refine X_iald (pc' := 23) (j := 17 * lev + 13) dX5_sendOn_22 rfl (Or.inl r_M_4) (rfl) (by omega) ?_
  refine X_eqi (nI (sSt s)) (h3) ?_
  refine X_iconst (pc' := 24) (v := nI 1) dX5_sendOn_23 rfl (by decide) ?_
  refine X_iload_n (i := 2) (pc' := 25) dX5_sendOn_24 rfl rfl rfl ?_
  refine X_ishl (pc' := 26) dX5_sendOn_25 rfl ?_
  refine X_eqi (nI (2 ^ k)) (bt_shl (by omega)) ?_
  refine X_ior (pc' := 27) dX5_sendOn_26 rfl ?_
  refine X_eqi (nI (sSt s ||| 2 ^ k)) (nI_or (by omega) (Nat.pow_lt_pow_right (by decide) (by omega))) ?_
  refine X_iast (pc' := 28) (j := 17 * lev + 13) dX5_sendOn_27 rfl r_M_4 (rfl) (by omega) ?_
  refine X_aload_n (i := 0) (pc' := 29) dX5_sendOn_28 rfl rfl rfl ?_
  refine X_get (pc' := 32) (v := .ref 4) dX5_sendOn_29 rfl (gf_X5_16 _ rfl) o_M_1 rfl rfl ?_
  refine X_iload_n (i := 3) (pc' := 33) dX5_sendOn_32 rfl rfl rfl ?_
  refine X_bipush (pc' := 35) (v := nI 15) dX5_sendOn_33 rfl (by decide) ?_
  refine X_iadd (pc' := 36) dX5_sendOn_35 rfl ?_
  refine X_eqi (nI (17 * lev + 15)) (nI_add _ _) ?_
  refine X_dup2 (pc' := 37) dX5_sendOn_36 rfl rfl rfl ?_
  refine X_iald (pc' := 38) (j := 17 * lev + 15) dX5_sendOn_37 rfl (Or.inl r_M_4) (rfl) (by omega) ?_
  refine X_eqi (nI (sTd s)) (by rw [xsi_un _ _ (by omega)]; exact h5) ?_
  refine X_iconst (pc' := 39) (v := nI 1) dX5_sendOn_38 rfl (by decide) ?_
  refine X_iadd (pc' := 40) dX5_sendOn_39 rfl ?_
  refine X_eqi (nI (sTd s + 1)) (nI_add _ _) ?_
  refine X_iast (pc' := 41) (j := 17 * lev + 15) dX5_sendOn_40 rfl r_M_4 (rfl) (by omega) ?_
  refine X_aload_n (i := 0) (pc' := 42) dX5_sendOn_41 rfl rfl rfl ?_
  refine X_get (pc' := 45) (v := .ref 4) dX5_sendOn_42 rfl (gf_X5_16 _ rfl) o_M_1 rfl rfl ?_
  refine X_iload_n (i := 3) (pc' := 46) dX5_sendOn_45 rfl rfl rfl ?_
  refine X_bipush (pc' := 48) (v := nI 16) dX5_sendOn_46 rfl (by decide) ?_
  refine X_iadd (pc' := 49) dX5_sendOn_48 rfl ?_
  refine X_eqi (nI (17 * lev + 16)) (nI_add _ _) ?_
  refine X_dup2 (pc' := 50) dX5_sendOn_49 rfl rfl rfl ?_
  refine X_iald (pc' := 51) (j := 17 * lev + 16) dX5_sendOn_50 rfl (Or.inl r_M_4) (rfl) (by omega) ?_
  refine X_eqi (nI (sPd s)) (by rw [xsi_un _ _ (by omega), xsi_un _ _ (by omega)]; exact h6) ?_
  refine X_iload (pc' := 53) dX5_sendOn_51 rfl rfl ?_
  refine X_iadd (pc' := 54) dX5_sendOn_53 rfl ?_
  refine X_eqi (nI (sPd s + price P s k)) (nI_add _ _) ?_
  refine X_iast (pc' := 55) (j := 17 * lev + 16) dX5_sendOn_54 rfl r_M_4 (rfl) (by omega) ?_
  refine X_iload (pc' := 57) dX5_sendOn_55 rfl rfl ?_
  refine X_ri dX5_sendOn_57 rfl ⟨rfl, rfl⟩ ?_
  refine ⟨rfl, ((xeq.rf.si (by simp)).si (by simp)).si (by simp), fun i hi => ?_, fun i hi => ?_, fun i hi => ?_, ?_, ?_, ?_, ?_, ?_⟩
  · rw [xsi_un _ _ (by omega), xsi_un _ _ (by omega), xsi_un _ _ (by omega)]
  · rw [xsi_un _ _ (by omega), xsi_un _ _ (by omega), xsi_un _ _ (by omega)]; exact h0 i hi
  · rw [xsi_un _ _ (by omega), xsi_un _ _ (by omega), xsi_un _ _ (by omega)]; exact h1 i hi
  · rw [xsi_un _ _ (by omega), xsi_un _ _ (by omega), xsi_un _ _ (by omega)]; exact h2
  · rw [xsi_un _ _ (by omega), xsi_un _ _ (by omega), xsi_at]; rfl
  · rw [xsi_un _ _ (by omega), xsi_un _ _ (by omega), xsi_un _ _ (by omega)]; exact h4
  · rw [xsi_un _ _ (by omega), xsi_at]; rfl
  · rw [xsi_at]; rfl
/-- while a day passes: the first j letters are done -/
def pI (τ τ' : xT) (b j : Nat) (n : Nat) (s : SN) : Prop := xeq [4] τ τ' ∧ (∀ i, i < b ∨ b + 12 ≤ i → τ'.1 4 i = τ.1 4 i) ∧ (∀ i, i < n → τ'.1 4 (b + i) = nI (if i < j then sWt (pass s) i else sWt s i)) ∧ ∀ i, i < n → τ'.1 4 (b + 6 + i) = nI (if i < j then sCk (pass s) i else sCk s i)
theorem pI.same {τ τ' : xT} {b j n : Nat} {s : SN} (h : pI τ τ' b j n s) (hw : sWt (pass s) j = sWt s j) (hc : sCk (pass s) j = sCk s j) : pI τ τ' b (j + 1) n s := by
  obtain ⟨g1, g2, g3, g4⟩ := h
  refine ⟨g1, g2, fun i hi => (g3 i hi).trans ?_, fun i hi => (g4 i hi).trans ?_⟩
  · by_cases e : i = j
    · rw [e, if_neg (by omega), if_pos (by omega), hw]
    · by_cases e2 : i < j
      · rw [if_pos e2, if_pos (by omega)]
      · rw [if_neg e2, if_neg (by omega)]
  · by_cases e : i = j
    · rw [e, if_neg (by omega), if_pos (by omega), hc]
    · by_cases e2 : i < j
      · rw [if_pos e2, if_pos (by omega)]
      · rw [if_neg e2, if_neg (by omega)]
theorem pI.wt {τ τ' : xT} {b j n : Nat} {s : SN} (hj : j < n) (hn : n ≤ 6) (h : pI τ τ' b j n s) (hc : sCk (pass s) j = sCk s j) : pI τ (xsi τ' 4 (b + j) (nI (sWt (pass s) j))) b (j + 1) n s := by
  obtain ⟨g1, g2, g3, g4⟩ := h
  refine ⟨g1.si (by simp), fun i hi => by rw [xsi_un _ _ (by omega)]; exact g2 i hi, fun i hi => ?_, fun i hi => ?_⟩
  · by_cases e : i = j
    · rw [e, xsi_at, if_pos (by omega)]
    · rw [xsi_un _ _ (by omega), g3 i hi]
      by_cases e2 : i < j
      · rw [if_pos e2, if_pos (by omega)]
      · rw [if_neg e2, if_neg (by omega)]
  · rw [xsi_un _ _ (by omega), g4 i hi]
    by_cases e : i = j
    · rw [e, if_neg (by omega), if_pos (by omega), hc]
    · by_cases e2 : i < j
      · rw [if_pos e2, if_pos (by omega)]
      · rw [if_neg e2, if_neg (by omega)]
theorem pI.ck {τ τ' : xT} {b j n : Nat} {s : SN} (hj : j < n) (hn : n ≤ 6) (h : pI τ τ' b j n s) (hw : sWt (pass s) j = sWt s j) : pI τ (xsi τ' 4 (b + 6 + j) (nI (sCk (pass s) j))) b (j + 1) n s := by
  obtain ⟨g1, g2, g3, g4⟩ := h
  refine ⟨g1.si (by simp), fun i hi => by rw [xsi_un _ _ (by omega)]; exact g2 i hi, fun i hi => ?_, fun i hi => ?_⟩
  · rw [xsi_un _ _ (by omega), g3 i hi]
    by_cases e : i = j
    · rw [e, if_neg (by omega), if_pos (by omega), hw]
    · by_cases e2 : i < j
      · rw [if_pos e2, if_pos (by omega)]
      · rw [if_neg e2, if_neg (by omega)]
  · by_cases e : i = j
    · rw [e, xsi_at, if_pos (by omega)]
    · rw [xsi_un _ _ (by omega), g4 i hi]
      by_cases e2 : i < j
      · rw [if_pos e2, if_pos (by omega)]
      · rw [if_neg e2, if_neg (by omega)]
def mixS (s : SN) (j : Nat) : SN := (sDy s, sSt s, sTd s, sTn s, sPd s, fun i => if i < j then sWt (pass s) i else sWt s i, fun i => if i < j then sCk (pass s) i else sCk s i)
theorem pI.ms {τ τ' : xT} {b j n : Nat} {s : SN} (h : pI τ τ' b j n s) (hs : MS τ 4 b n s) : MS τ' 4 b n (mixS s j) := by
  obtain ⟨h0, h1, h2, h3, h4, h5, h6⟩ := hs
  obtain ⟨g1, g2, g3, g4⟩ := h
  exact ⟨g3, g4, (g2 _ (by omega)).trans h2, (g2 _ (by omega)).trans h3, (g2 _ (by omega)).trans h4, (g2 _ (by omega)).trans h5, (g2 _ (by omega)).trans h6⟩
theorem pass_sent {s : SN} {j : Nat} (h : bt (sSt s) j) : sWt (pass s) j = sWt s j ∧ sCk (pass s) j = sCk s j := ⟨if_pos h, if_pos h⟩
theorem pass_ck {s : SN} {j : Nat} (h : ¬ bt (sSt s) j) (hc : 0 < sCk s j) : sWt (pass s) j = sWt s j ∧ sCk (pass s) j = sCk s j - 1 := ⟨(if_neg h).trans (if_pos hc), if_neg h⟩
theorem pass_wt {s : SN} {j : Nat} (h : ¬ bt (sSt s) j) (hc : ¬ 0 < sCk s j) : sWt (pass s) j = min 99 (sWt s j + 1) ∧ sCk (pass s) j = sCk s j := ⟨(if_neg h).trans (if_neg hc), (if_neg h).trans (by omega)⟩
theorem d_passOn (τ : xT) {P : PT} (hP : Pok P) (h : MT τ P) {m lev : Nat} {s : SN} (hl : lev < 2) (hs : MS τ 4 (17 * lev) (pn P) s) (ho : Sok P m s) (hm : m < 5000) : CV cx m_X5_passOn [.ref 1, .int (nI lev)] PM τ (fun τ' => xeq [4] τ τ' ∧ (∀ i, i < 17 * lev ∨ 17 * lev + 17 ≤ i → τ'.1 4 i = τ.1 4 i) ∧ MS τ' 4 (17 * lev) (pn P) (pass s)) := by
  have hn6 := hP.1
  have h26 := two6 hP
  have ho2 := ho
  obtain ⟨o0, o1, o2, o3, o4, o5, o6⟩ := ho2
  have hlp : ∀ (j : Nat) (τ' : xT), j ≤ pn P → pI τ τ' (17 * lev) j (pn P) s → X cx m_X5_passOn PM (qV PM (fun τ' => xeq [4] τ τ' ∧ (∀ i, i < 17 * lev ∨ 17 * lev + 17 ≤ i → τ'.1 4 i = τ.1 4 i) ∧ MS τ' 4 (17 * lev) (pn P) (pass s))) 7 [(3, .int (nI j)), (2, .int (nI (17 * lev))), (0, .ref 1), (1, .int (nI lev))] [] PM τ' := by
    refine xloop _ _ (pn P) (fun τ' g => ?_) (fun j τ' hj g ih => ?_)
    · have gm := g.ms hs
      have r1 : τ'.1 1 0 = nI (pn P) := by rw [(g.1 1 (by simp)).1]; exact h.1
      obtain ⟨m0, m1, m2, m3, m4, m5, m6⟩ := gm
      refine X_iload_n (i := 3) (pc' := 8) dX5_passOn_7 rfl rfl rfl ?_
      refine X_aload_n (i := 0) (pc' := 9) dX5_passOn_8 rfl rfl rfl ?_
      refine X_get (pc' := 12) (v := .int _) dX5_passOn_9 rfl (gf_X5_96 _ rfl) o_M_1 rfl rfl ?_
      refine X_eqi (nI (pn P)) (r1) ?_
      refine X_icmp_ge (pc' := 15) (tgt := 87) dX5_passOn_12 rfl (by decide) (fun h_12 => ?_) (fun h_12 => absurd (nI_le (Nat.le_refl _) (by omega)) h_12)
      refine X_aload_n (i := 0) (pc' := 88) dX5_passOn_87 rfl rfl rfl ?_
      refine X_get (pc' := 91) (v := .ref 4) dX5_passOn_88 rfl (gf_X5_16 _ rfl) o_M_1 rfl rfl ?_
      refine X_iload_n (i := 2) (pc' := 92) dX5_passOn_91 rfl rfl rfl ?_
      refine X_bipush (pc' := 94) (v := nI 14) dX5_passOn_92 rfl (by decide) ?_
      refine X_iadd (pc' := 95) dX5_passOn_94 rfl ?_
      refine X_eqi (nI (17 * lev + 14)) (nI_add _ _) ?_
      refine X_dup2 (pc' := 96) dX5_passOn_95 rfl rfl rfl ?_
      refine X_iald (pc' := 97) (j := 17 * lev + 14) dX5_passOn_96 rfl (Or.inl r_M_4) (rfl) (by omega) ?_
      refine X_eqi (nI (sDy s)) (m4) ?_
      refine X_iconst (pc' := 98) (v := nI 1) dX5_passOn_97 rfl (by decide) ?_
      refine X_iadd (pc' := 99) dX5_passOn_98 rfl ?_
      refine X_eqi (nI (sDy s + 1)) (nI_add _ _) ?_
      refine X_iast (pc' := 100) (j := 17 * lev + 14) dX5_passOn_99 rfl r_M_4 (rfl) (by omega) ?_
      refine X_aload_n (i := 0) (pc' := 101) dX5_passOn_100 rfl rfl rfl ?_
      refine X_get (pc' := 104) (v := .ref 4) dX5_passOn_101 rfl (gf_X5_16 _ rfl) o_M_1 rfl rfl ?_
      refine X_iload_n (i := 2) (pc' := 105) dX5_passOn_104 rfl rfl rfl ?_
      refine X_bipush (pc' := 107) (v := nI 15) dX5_passOn_105 rfl (by decide) ?_
      refine X_iadd (pc' := 108) dX5_passOn_107 rfl ?_
      refine X_iconst (pc' := 109) (v := nI 0) dX5_passOn_108 rfl (by decide) ?_
      refine X_iast (pc' := 110) (j := 17 * lev + 15) dX5_passOn_109 rfl r_M_4 (nI_add _ _) (by omega) ?_
      refine X_rv dX5_passOn_110 rfl ⟨rfl, rfl⟩ ?_
      refine ⟨(g.1.si (by simp)).si (by simp), fun i hi => ?_, fun i hi => ?_, fun i hi => ?_, ?_, ?_, ?_, ?_, ?_⟩
      · rw [xsi_un _ _ (by omega), xsi_un _ _ (by omega)]; exact g.2.1 i (by omega)
      · rw [xsi_un _ _ (by omega), xsi_un _ _ (by omega), g.2.2.1 i hi, if_pos hi]
      · rw [xsi_un _ _ (by omega), xsi_un _ _ (by omega), g.2.2.2 i hi, if_pos hi]
      · rw [xsi_un _ _ (by omega), xsi_un _ _ (by omega)]; exact m2
      · rw [xsi_un _ _ (by omega), xsi_un _ _ (by omega)]; exact m3
      · rw [xsi_un _ _ (by omega), xsi_at]; rfl
      · rw [xsi_at]; rfl
      · rw [xsi_un _ _ (by omega), xsi_un _ _ (by omega)]; exact m6
    · have gm := g.ms hs
      have r1 : τ'.1 1 0 = nI (pn P) := by rw [(g.1 1 (by simp)).1]; exact h.1
      have hwj : τ'.1 4 (17 * lev + j) = nI (sWt s j) := (g.2.2.1 j hj).trans (by rw [if_neg (Nat.lt_irrefl j)])
      have hcj : τ'.1 4 (17 * lev + 6 + j) = nI (sCk s j) := (g.2.2.2 j hj).trans (by rw [if_neg (Nat.lt_irrefl j)])
      have b5 := o5 j hj
      have b6 := o6 j hj
      have hsd := d_isSent cx τ' hl gm (show sSt (mixS s j) < 64 from (by show sSt s < 64; omega)) (show j < 31 by omega)
      refine X_iload_n (i := 3) (pc' := 8) dX5_passOn_7 rfl rfl rfl ?_
      refine X_aload_n (i := 0) (pc' := 9) dX5_passOn_8 rfl rfl rfl ?_
      refine X_get (pc' := 12) (v := .int _) dX5_passOn_9 rfl (gf_X5_96 _ rfl) o_M_1 rfl rfl ?_
      refine X_eqi (nI (pn P)) (r1) ?_
      refine X_icmp_ge (pc' := 15) (tgt := 87) dX5_passOn_12 rfl (by decide) (fun h_12 => absurd h_12 (nI_ge hj (by omega))) (fun h_12 => ?_)
      refine X_aload_n (i := 0) (pc' := 16) dX5_passOn_15 rfl rfl rfl ?_
      refine X_iload_n (i := 1) (pc' := 17) dX5_passOn_16 rfl rfl rfl ?_
      refine X_iload_n (i := 3) (pc' := 18) dX5_passOn_17 rfl rfl rfl ?_
      refine X_OIp (As := [_, _]) (rest := []) (pc' := 21) dX5_passOn_18 rfl k_X5_isSent l_X5_116 v_X5_isSent o_M_1 rfl ⟨by decide, by decide⟩ rfl rfl (Nat.le_of_ble_eq_true rfl) (hsd) ?_
      refine X_if_ne (pc' := 24) (tgt := 81) dX5_passOn_21 rfl (by decide) (fun h_21 => ?_) (fun h_21 => ?_)
      · refine X_iinc (pc' := 84) (v := nI (j + 1)) (lv' := [(3, _), (2, _), (0, _), (1, _)]) dX5_passOn_81 rfl rfl (nI_add _ _) (Nat.le_of_ble_eq_true rfl) rfl ?_
        refine X_goto (pc' := 0) (tgt := 7) dX5_passOn_84 (by decide) ?_
        first
        | exact X_lv _ (by simp) (ih _ (g.ck hj hn6 hps.1))
        | exact X_lv _ (by simp) (ih _ (g.wt hj hn6 hps.2))
        | exact X_lv _ (by simp) (ih _ (g.same (pass_sent (s := s) (zI_1 h_21)).1 (pass_sent (s := s) (zI_1 h_21)).2))
        | exact X_lv _ (by simp) (ih _ (g.same (hps.1.trans (by rw [geI (by omega), nI_toInt (by omega)] at h_66; omega)) hps.2))
      · refine X_aload_n (i := 0) (pc' := 25) dX5_passOn_24 rfl rfl rfl ?_
        refine X_get (pc' := 28) (v := .ref 4) dX5_passOn_25 rfl (gf_X5_16 _ rfl) o_M_1 rfl rfl ?_
        refine X_iload_n (i := 2) (pc' := 29) dX5_passOn_28 rfl rfl rfl ?_
        refine X_bipush (pc' := 31) (v := nI 6) dX5_passOn_29 rfl (by decide) ?_
        refine X_iadd (pc' := 32) dX5_passOn_31 rfl ?_
        refine X_eqi (nI (17 * lev + 6)) (nI_add _ _) ?_
        refine X_iload_n (i := 3) (pc' := 33) dX5_passOn_32 rfl rfl rfl ?_
        refine X_iadd (pc' := 34) dX5_passOn_33 rfl ?_
        refine X_iald (pc' := 35) (j := 17 * lev + 6 + j) dX5_passOn_34 rfl (Or.inl r_M_4) (nI_add _ _) (by omega) ?_
        refine X_eqi (nI (sCk s j)) (hcj) ?_
        refine X_if_le (pc' := 38) (tgt := 56) dX5_passOn_35 rfl (by decide) (fun h_35 => ?_) (fun h_35 => ?_)
        · have hpc : ¬ 0 < sCk s j := by first | (rw [gt0, nI_toInt (by omega)] at h_35; omega) | (rw [Int32.not_le, gt0, nI_toInt (by omega)] at h_35; omega) | (intro q; rw [← Int32.not_lt, gt0, nI_toInt (by omega)] at h_35; omega)
          have hps := pass_wt (s := s) (zI_0.mp h_21) hpc
          refine X_aload_n (i := 0) (pc' := 57) dX5_passOn_56 rfl rfl rfl ?_
          refine X_get (pc' := 60) (v := .ref 4) dX5_passOn_57 rfl (gf_X5_16 _ rfl) o_M_1 rfl rfl ?_
          refine X_iload_n (i := 2) (pc' := 61) dX5_passOn_60 rfl rfl rfl ?_
          refine X_iload_n (i := 3) (pc' := 62) dX5_passOn_61 rfl rfl rfl ?_
          refine X_iadd (pc' := 63) dX5_passOn_62 rfl ?_
          refine X_iald (pc' := 64) (j := 17 * lev + j) dX5_passOn_63 rfl (Or.inl r_M_4) (nI_add _ _) (by omega) ?_
          refine X_eqi (nI (sWt s j)) (hwj) ?_
          refine X_bipush (pc' := 66) (v := nI 99) dX5_passOn_64 rfl (by decide) ?_
          refine X_icmp_ge (pc' := 69) (tgt := 81) dX5_passOn_66 rfl (by decide) (fun h_66 => ?_) (fun h_66 => ?_)
          · refine X_iinc (pc' := 84) (v := nI (j + 1)) (lv' := [(3, _), (2, _), (0, _), (1, _)]) dX5_passOn_81 rfl rfl (nI_add _ _) (Nat.le_of_ble_eq_true rfl) rfl ?_
            refine X_goto (pc' := 0) (tgt := 7) dX5_passOn_84 (by decide) ?_
            first
            | exact X_lv _ (by simp) (ih _ (g.ck hj hn6 hps.1))
            | exact X_lv _ (by simp) (ih _ (g.wt hj hn6 hps.2))
            | exact X_lv _ (by simp) (ih _ (g.same (pass_sent (s := s) (zI_1 h_21)).1 (pass_sent (s := s) (zI_1 h_21)).2))
            | exact X_lv _ (by simp) (ih _ (g.same (hps.1.trans (by rw [geI (by omega), nI_toInt (by omega)] at h_66; omega)) hps.2))
          · refine X_aload_n (i := 0) (pc' := 70) dX5_passOn_69 rfl rfl rfl ?_
            refine X_get (pc' := 73) (v := .ref 4) dX5_passOn_70 rfl (gf_X5_16 _ rfl) o_M_1 rfl rfl ?_
            refine X_iload_n (i := 2) (pc' := 74) dX5_passOn_73 rfl rfl rfl ?_
            refine X_iload_n (i := 3) (pc' := 75) dX5_passOn_74 rfl rfl rfl ?_
            refine X_iadd (pc' := 76) dX5_passOn_75 rfl ?_
            refine X_eqi (nI (17 * lev + j)) (nI_add _ _) ?_
            refine X_dup2 (pc' := 77) dX5_passOn_76 rfl rfl rfl ?_
            refine X_iald (pc' := 78) (j := 17 * lev + j) dX5_passOn_77 rfl (Or.inl r_M_4) (rfl) (by omega) ?_
            refine X_eqi (nI (sWt s j)) (hwj) ?_
            refine X_iconst (pc' := 79) (v := nI 1) dX5_passOn_78 rfl (by decide) ?_
            refine X_iadd (pc' := 80) dX5_passOn_79 rfl ?_
            refine X_eqi (nI (sWt (pass s) j)) (by rw [hps.1]; rw [geI (by omega), nI_toInt (by omega)] at h_66; rw [nI_add]; congr 1; omega) ?_
            refine X_iast (pc' := 81) (j := 17 * lev + j) dX5_passOn_80 rfl r_M_4 (rfl) (by omega) ?_
            refine X_iinc (pc' := 84) (v := nI (j + 1)) (lv' := [(3, _), (2, _), (0, _), (1, _)]) dX5_passOn_81 rfl rfl (nI_add _ _) (Nat.le_of_ble_eq_true rfl) rfl ?_
            refine X_goto (pc' := 0) (tgt := 7) dX5_passOn_84 (by decide) ?_
            first
            | exact X_lv _ (by simp) (ih _ (g.ck hj hn6 hps.1))
            | exact X_lv _ (by simp) (ih _ (g.wt hj hn6 hps.2))
            | exact X_lv _ (by simp) (ih _ (g.same (pass_sent (s := s) (zI_1 h_21)).1 (pass_sent (s := s) (zI_1 h_21)).2))
            | exact X_lv _ (by simp) (ih _ (g.same (hps.1.trans (by rw [geI (by omega), nI_toInt (by omega)] at h_66; omega)) hps.2))
        · refine X_aload_n (i := 0) (pc' := 39) dX5_passOn_38 rfl rfl rfl ?_
          refine X_get (pc' := 42) (v := .ref 4) dX5_passOn_39 rfl (gf_X5_16 _ rfl) o_M_1 rfl rfl ?_
          refine X_iload_n (i := 2) (pc' := 43) dX5_passOn_42 rfl rfl rfl ?_
          refine X_bipush (pc' := 45) (v := nI 6) dX5_passOn_43 rfl (by decide) ?_
          refine X_iadd (pc' := 46) dX5_passOn_45 rfl ?_
          refine X_eqi (nI (17 * lev + 6)) (nI_add _ _) ?_
          refine X_iload_n (i := 3) (pc' := 47) dX5_passOn_46 rfl rfl rfl ?_
          refine X_iadd (pc' := 48) dX5_passOn_47 rfl ?_
          refine X_eqi (nI (17 * lev + 6 + j)) (nI_add _ _) ?_
          refine X_dup2 (pc' := 49) dX5_passOn_48 rfl rfl rfl ?_
          refine X_iald (pc' := 50) (j := 17 * lev + 6 + j) dX5_passOn_49 rfl (Or.inl r_M_4) (rfl) (by omega) ?_
          refine X_eqi (nI (sCk s j)) (hcj) ?_
          refine X_iconst (pc' := 51) (v := nI 1) dX5_passOn_50 rfl (by decide) ?_
          have hpc : 0 < sCk s j := by first | (rw [gt0, nI_toInt (by omega)] at h_35; omega) | (rw [Int32.not_le, gt0, nI_toInt (by omega)] at h_35; omega)
          have hps := pass_ck (s := s) (zI_0.mp h_21) hpc
          refine X_isub (pc' := 52) dX5_passOn_51 rfl ?_
          refine X_eqi (nI (sCk (pass s) j)) (by rw [hps.2]; exact pk_sub (by omega)) ?_
          refine X_iast (pc' := 53) (j := 17 * lev + 6 + j) dX5_passOn_52 rfl r_M_4 (rfl) (by omega) ?_
          refine X_goto (pc' := 0) (tgt := 81) dX5_passOn_53 (by decide) ?_
          refine X_iinc (pc' := 84) (v := nI (j + 1)) (lv' := [(3, _), (2, _), (0, _), (1, _)]) dX5_passOn_81 rfl rfl (nI_add _ _) (Nat.le_of_ble_eq_true rfl) rfl ?_
          refine X_goto (pc' := 0) (tgt := 7) dX5_passOn_84 (by decide) ?_
          first
          | exact X_lv _ (by simp) (ih _ (g.ck hj hn6 hps.1))
          | exact X_lv _ (by simp) (ih _ (g.wt hj hn6 hps.2))
          | exact X_lv _ (by simp) (ih _ (g.same (pass_sent (s := s) (zI_1 h_21)).1 (pass_sent (s := s) (zI_1 h_21)).2))
          | exact X_lv _ (by simp) (ih _ (g.same (hps.1.trans (by rw [geI (by omega), nI_toInt (by omega)] at h_66; omega)) hps.2))
  refine Ct_of (by decide) (Nat.le_of_ble_eq_true rfl) (lv := [(0, _), (1, _)]) rfl ?_
  refine X_bipush (pc' := 2) (v := nI 17) dX5_passOn_0 rfl (by decide) ?_
  refine X_iload_n (i := 1) (pc' := 3) dX5_passOn_2 rfl rfl rfl ?_
  refine X_imul (pc' := 4) dX5_passOn_3 rfl ?_
  refine X_eqi (nI (17 * lev)) (pk_mul _ _) ?_
  refine X_istore_n (i := 2) (pc' := 5) (lv' := [(2, _), (0, _), (1, _)]) dX5_passOn_4 rfl rfl (Nat.le_of_ble_eq_true rfl) rfl ?_
  refine X_iconst (pc' := 6) (v := nI 0) dX5_passOn_5 rfl (by decide) ?_
  refine X_istore_n (i := 3) (pc' := 7) (lv' := [(3, _), (2, _), (0, _), (1, _)]) dX5_passOn_6 rfl rfl (Nat.le_of_ble_eq_true rfl) rfl ?_
  exact X_lv _ (by simp) (hlp 0 τ (Nat.zero_le _) ⟨xeq.rf, fun i hi => rfl, fun i hi => (hs.1 i hi).trans (by rw [if_neg (Nat.not_lt_zero i)]), fun i hi => (hs.2.1 i hi).trans (by rw [if_neg (Nat.not_lt_zero i)])⟩)
end M2
