/-! ===== the model: a letter sent, a day passed, the trial laid ===== -/
theorem xsi_at (τ : xT) (a k : Nat) (v : Int32) : (xsi τ a k v).1 a k = v := by rw [xsi_self, pk_us]
theorem xsi_un (τ : xT) {a k i : Nat} (v : Int32) (h : i ≠ k) : (xsi τ a k v).1 a i = τ.1 a i := by rw [xsi_self, pk_un h]
section M2
variable (cx : xC)
set_option maxHeartbeats 4000000
set_option maxRecDepth 100000
theorem d_layTrial (τ : xT) : CV cx m_X5_layTrial [.ref 1] PM τ (fun τ' => xeq [4] τ τ' ∧ (∀ i, i < 17 → τ'.1 4 i = τ.1 4 i) ∧ ∀ i, i < 17 → τ'.1 4 (17 + i) = τ.1 4 i) := by
  have hl : ∀ (j : Nat) (τ' : xT), j ≤ 17 → (xeq [4] τ τ' ∧ (∀ i, i < 17 → τ'.1 4 i = τ.1 4 i) ∧ ∀ i, i < j → τ'.1 4 (17 + i) = τ.1 4 i) → X cx m_X5_layTrial PM (qV PM (fun τ' => xeq [4] τ τ' ∧ (∀ i, i < 17 → τ'.1 4 i = τ.1 4 i) ∧ ∀ i, i < 17 → τ'.1 4 (17 + i) = τ.1 4 i)) 2 [(1, .int (nI j)), (0, .ref 1)] [] PM τ' := by
    refine xloop _ _ 17 (fun τ' h => ?_) (fun j τ' hj h ih => ?_)
    · refine X_iload_n (i := 1) (pc' := 3) dX5_layTrial_2 rfl rfl rfl ?_
      refine X_bipush (pc' := 5) (v := nI 17) dX5_layTrial_3 rfl (by decide) ?_
      refine X_icmp_ge (pc' := 8) (tgt := 29) dX5_layTrial_5 rfl (by decide) (fun h_5 => ?_) (fun h_5 => absurd (nI_le (Nat.le_refl _) (by omega)) h_5)
      refine X_rv dX5_layTrial_29 rfl ⟨rfl, rfl⟩ ?_
      exact h
    · obtain ⟨g1, g2, g3⟩ := h
      refine X_iload_n (i := 1) (pc' := 3) dX5_layTrial_2 rfl rfl rfl ?_
      refine X_bipush (pc' := 5) (v := nI 17) dX5_layTrial_3 rfl (by decide) ?_
      refine X_icmp_ge (pc' := 8) (tgt := 29) dX5_layTrial_5 rfl (by decide) (fun h_5 => absurd h_5 (nI_ge hj (by omega))) (fun h_5 => ?_)
      refine X_aload_n (i := 0) (pc' := 9) dX5_layTrial_8 rfl rfl rfl ?_
      refine X_get (pc' := 12) (v := .ref 4) dX5_layTrial_9 rfl (gf_X5_16 _ rfl) o_M_1 rfl rfl ?_
      refine X_bipush (pc' := 14) (v := nI 17) dX5_layTrial_12 rfl (by decide) ?_
      refine X_iload_n (i := 1) (pc' := 15) dX5_layTrial_14 rfl rfl rfl ?_
      refine X_iadd (pc' := 16) dX5_layTrial_15 rfl ?_
      refine X_aload_n (i := 0) (pc' := 17) dX5_layTrial_16 rfl rfl rfl ?_
      refine X_get (pc' := 20) (v := .ref 4) dX5_layTrial_17 rfl (gf_X5_16 _ rfl) o_M_1 rfl rfl ?_
      refine X_iload_n (i := 1) (pc' := 21) dX5_layTrial_20 rfl rfl rfl ?_
      refine X_iald (pc' := 22) (j := j) dX5_layTrial_21 rfl (Or.inl r_M_4) (rfl) (by omega) ?_
      refine X_eqi (τ.1 4 j) (g2 j hj) ?_
      refine X_iast (pc' := 23) (j := 17 + j) dX5_layTrial_22 rfl r_M_4 (nI_add _ _) (by omega) ?_
      refine X_iinc (pc' := 26) (v := nI (j + 1)) (lv' := [(1, _), (0, _)]) dX5_layTrial_23 rfl rfl (nI_add _ _) (Nat.le_of_ble_eq_true rfl) rfl ?_
      refine X_goto (pc' := 0) (tgt := 2) dX5_layTrial_26 (by decide) ?_
      refine X_lv _ (by simp) (ih _ ⟨g1.si (by simp), fun i hi => ?_, fun i hi => ?_⟩)
      · rw [xsi_un _ _ (by omega)]; exact g2 i hi
      · by_cases e : i = j
        · rw [e, xsi_at]
        · rw [xsi_un _ _ (by omega)]; exact g3 i (by omega)
  refine Ct_of (by decide) (Nat.le_of_ble_eq_true rfl) (lv := [(0, _)]) rfl ?_
  refine X_iconst (pc' := 1) (v := nI 0) dX5_layTrial_0 rfl (by decide) ?_
  refine X_istore_n (i := 1) (pc' := 2) (lv' := [(1, _), (0, _)]) dX5_layTrial_1 rfl rfl (Nat.le_of_ble_eq_true rfl) rfl ?_
  exact X_lv _ (by simp) (hl 0 τ (by decide) ⟨xeq.rf, fun i hi => rfl, fun i hi => absurd hi (Nat.not_lt_zero i)⟩)
theorem d_sendOn (τ : xT) {P : PT} (hP : Pok P) (h : MT τ P) {m lev : Nat} {s : SN} (hl : lev < 2) (hs : MS τ 4 (17 * lev) (pn P) s) (ho : Sok P m s) (hm : m < 5000) {k : Nat} (hk : k < pn P) : CI cx m_X5_sendOn [.ref 1, .int (nI lev), .int (nI k)] PM τ (fun x τ' => x = nI (price P s k) ∧ xeq [4] τ τ' ∧ (∀ i, i < 17 * lev ∨ 17 * lev + 17 ≤ i → τ'.1 4 i = τ.1 4 i) ∧ MS τ' 4 (17 * lev) (pn P) (sendS P s k)) := by
  have hc := d_priceOn cx τ hP h hl hs ho hm hk
  obtain ⟨h0, h1, h2, h3, h4, h5, h6⟩ := hs
  have hn6 := hP.1
  have h26 := two6 hP
  obtain ⟨o0, o1, o2, o3, o4, o5, o6⟩ := ho
  refine Ct_of (by decide) (Nat.le_of_ble_eq_true rfl) (lv := [(0, _), (1, _), (2, _)]) rfl ?_
  refine X_bipush (pc' := 2) (v := nI 17) dX5_sendOn_0 rfl (by decide) ?_
  refine X_iload_n (i := 1) (pc' := 3) dX5_sendOn_2 rfl rfl rfl ?_
  refine X_imul (pc' := 4) dX5_sendOn_3 rfl ?_
  refine X_eqi (nI (17 * lev)) (pk_mul _ _) ?_
  refine X_istore_n (i := 3) (pc' := 5) (lv' := [(3, _), (0, _), (1, _), (2, _)]) dX5_sendOn_4 rfl rfl (Nat.le_of_ble_eq_true rfl) rfl ?_
  refine X_aload_n (i := 0) (pc' := 6) dX5_sendOn_5 rfl rfl rfl ?_
  refine X_iload_n (i := 1) (pc' := 7) dX5_sendOn_6 rfl rfl rfl ?_
  refine X_iload_n (i := 2) (pc' := 8) dX5_sendOn_7 rfl rfl rfl ?_
  refine X_OIp (As := [_, _]) (rest := []) (pc' := 11) dX5_sendOn_8 rfl k_X5_priceOn l_X5_119 v_X5_priceOn o_M_1 rfl ⟨by decide, by decide⟩ rfl rfl (Nat.le_of_ble_eq_true rfl) (hc) ?_
  refine X_istore (pc' := 13) (lv' := [(4, _), (3, _), (0, _), (1, _), (2, _)]) dX5_sendOn_11 rfl (Nat.le_of_ble_eq_true rfl) rfl ?_
  refine X_aload_n (i := 0) (pc' := 14) dX5_sendOn_13 rfl rfl rfl ?_
  refine X_get (pc' := 17) (v := .ref 4) dX5_sendOn_14 rfl (gf_X5_16 _ rfl) o_M_1 rfl rfl ?_
  refine X_iload_n (i := 3) (pc' := 18) dX5_sendOn_17 rfl rfl rfl ?_
  refine X_bipush (pc' := 20) (v := nI 13) dX5_sendOn_18 rfl (by decide) ?_
  refine X_iadd (pc' := 21) dX5_sendOn_20 rfl ?_
  refine X_eqi (nI (17 * lev + 13)) (nI_add _ _) ?_
  refine X_dup2 (pc' := 22) dX5_sendOn_21 rfl rfl rfl ?_
  refine X_iald (pc' := 23) (j := 17 * lev + 13) dX5_sendOn_22 rfl (Or.inl r_M_4) (rfl) (by omega) ?_
  refine X_eqi (nI (sSt s)) (h3) ?_
  refine X_iconst (pc' := 24) (v := nI 1) dX5_sendOn_23 rfl (by decide) ?_
  refine X_iload_n (i := 2) (pc' := 25) dX5_sendOn_24 rfl rfl rfl ?_
  refine X_ishl (pc' := 26) dX5_sendOn_25 rfl ?_
  refine X_eqi (nI (2 ^ k)) (bt_shl (by omega)) ?_
  refine X_ior (pc' := 27) dX5_sendOn_26 rfl ?_
  refine X_eqi (nI (sSt s ||| 2 ^ k)) (nI_or (by omega) (Nat.pow_lt_pow_right (by decide) (by omega))) ?_
  refine X_iast (pc' := 28) (j := 17 * lev + 13) dX5_sendOn_27 rfl r_M_4 (rfl) (by omega) ?_
  refine X_aload_n (i := 0) (pc' := 29) dX5_sendOn_28 rfl rfl rfl ?_
  refine X_get (pc' := 32) (v := .ref 4) dX5_sendOn_29 rfl (gf_X5_16 _ rfl) o_M_1 rfl rfl ?_
  refine X_iload_n (i := 3) (pc' := 33) dX5_sendOn_32 rfl rfl rfl ?_
  refine X_bipush (pc' := 35) (v := nI 15) dX5_sendOn_33 rfl (by decide) ?_
  refine X_iadd (pc' := 36) dX5_sendOn_35 rfl ?_
  refine X_eqi (nI (17 * lev + 15)) (nI_add _ _) ?_
  refine X_dup2 (pc' := 37) dX5_sendOn_36 rfl rfl rfl ?_
  refine X_iald (pc' := 38) (j := 17 * lev + 15) dX5_sendOn_37 rfl (Or.inl r_M_4) (rfl) (by omega) ?_
  refine X_eqi (nI (sTd s)) (by rw [xsi_un _ _ (by omega)]; exact h5) ?_
  refine X_iconst (pc' := 39) (v := nI 1) dX5_sendOn_38 rfl (by decide) ?_
  refine X_iadd (pc' := 40) dX5_sendOn_39 rfl ?_
  refine X_eqi (nI (sTd s + 1)) (nI_add _ _) ?_
  refine X_iast (pc' := 41) (j := 17 * lev + 15) dX5_sendOn_40 rfl r_M_4 (rfl) (by omega) ?_
  refine X_aload_n (i := 0) (pc' := 42) dX5_sendOn_41 rfl rfl rfl ?_
  refine X_get (pc' := 45) (v := .ref 4) dX5_sendOn_42 rfl (gf_X5_16 _ rfl) o_M_1 rfl rfl ?_
  refine X_iload_n (i := 3) (pc' := 46) dX5_sendOn_45 rfl rfl rfl ?_
  refine X_bipush (pc' := 48) (v := nI 16) dX5_sendOn_46 rfl (by decide) ?_
  refine X_iadd (pc' := 49) dX5_sendOn_48 rfl ?_
  refine X_eqi (nI (17 * lev + 16)) (nI_add _ _) ?_
  refine X_dup2 (pc' := 50) dX5_sendOn_49 rfl rfl rfl ?_
  refine X_iald (pc' := 51) (j := 17 * lev + 16) dX5_sendOn_50 rfl (Or.inl r_M_4) (rfl) (by omega) ?_
  refine X_eqi (nI (sPd s)) (by rw [xsi_un _ _ (by omega), xsi_un _ _ (by omega)]; exact h6) ?_
  refine X_iload (pc' := 53) dX5_sendOn_51 rfl rfl ?_
  refine X_iadd (pc' := 54) dX5_sendOn_53 rfl ?_
  refine X_eqi (nI (sPd s + price P s k)) (nI_add _ _) ?_
  refine X_iast (pc' := 55) (j := 17 * lev + 16) dX5_sendOn_54 rfl r_M_4 (rfl) (by omega) ?_
  refine X_iload (pc' := 57) dX5_sendOn_55 rfl rfl ?_
  refine X_ri dX5_sendOn_57 rfl ⟨rfl, rfl⟩ ?_
  refine ⟨rfl, ((xeq.rf.si (by simp)).si (by simp)).si (by simp), fun i hi => ?_, fun i hi => ?_, fun i hi => ?_, ?_, ?_, ?_, ?_, ?_⟩
  · rw [xsi_un _ _ (by omega), xsi_un _ _ (by omega), xsi_un _ _ (by omega)]
  · rw [xsi_un _ _ (by omega), xsi_un _ _ (by omega), xsi_un _ _ (by omega)]; exact h0 i hi
  · rw [xsi_un _ _ (by omega), xsi_un _ _ (by omega), xsi_un _ _ (by omega)]; exact h1 i hi
  · rw [xsi_un _ _ (by omega), xsi_un _ _ (by omega), xsi_un _ _ (by omega)]; exact h2
  · rw [xsi_un _ _ (by omega), xsi_un _ _ (by omega), xsi_at]; rfl
  · rw [xsi_un _ _ (by omega), xsi_un _ _ (by omega), xsi_un _ _ (by omega)]; exact h4
  · rw [xsi_un _ _ (by omega), xsi_at]; rfl
  · rw [xsi_at]; rfl
/-- while a day passes: the first j letters are done -/
def pI (τ τ' : xT) (b j : Nat) (n : Nat) (s : SN) : Prop := xeq [4] τ τ' ∧ (∀ i, i < b ∨ b + 12 ≤ i → τ'.1 4 i = τ.1 4 i) ∧ (∀ i, i < n → τ'.1 4 (b + i) = nI (if i < j then sWt (pass s) i else sWt s i)) ∧ ∀ i, i < n → τ'.1 4 (b + 6 + i) = nI (if i < j then sCk (pass s) i else sCk s i)
theorem pI.same {τ τ' : xT} {b j n : Nat} {s : SN} (h : pI τ τ' b j n s) (hw : sWt (pass s) j = sWt s j) (hc : sCk (pass s) j = sCk s j) : pI τ τ' b (j + 1) n s := by
  obtain ⟨g1, g2, g3, g4⟩ := h
  refine ⟨g1, g2, fun i hi => (g3 i hi).trans ?_, fun i hi => (g4 i hi).trans ?_⟩
  · by_cases e : i = j
    · rw [e, if_neg (by omega), if_pos (by omega), hw]
    · by_cases e2 : i < j
      · rw [if_pos e2, if_pos (by omega)]
      · rw [if_neg e2, if_neg (by omega)]
  · by_cases e : i = j
    · rw [e, if_neg (by omega), if_pos (by omega), hc]
    · by_cases e2 : i < j
      · rw [if_pos e2, if_pos (by omega)]
      · rw [if_neg e2, if_neg (by omega)]
theorem pI.wt {τ τ' : xT} {b j n : Nat} {s : SN} (hj : j < n) (hn : n ≤ 6) (h : pI τ τ' b j n s) (hc : sCk (pass s) j = sCk s j) : pI τ (xsi τ' 4 (b + j) (nI (sWt (pass s) j))) b (j + 1) n s := by
  obtain ⟨g1, g2, g3, g4⟩ := h
  refine ⟨g1.si (by simp), fun i hi => by rw [xsi_un _ _ (by omega)]; exact g2 i hi, fun i hi => ?_, fun i hi => ?_⟩
  · by_cases e : i = j
    · rw [e, xsi_at, if_pos (by omega)]
    · rw [xsi_un _ _ (by omega), g3 i hi]
      by_cases e2 : i < j
      · rw [if_pos e2, if_pos (by omega)]
      · rw [if_neg e2, if_neg (by omega)]
  · rw [xsi_un _ _ (by omega), g4 i hi]
    by_cases e : i = j
    · rw [e, if_neg (by omega), if_pos (by omega), hc]
    · by_cases e2 : i < j
      · rw [if_pos e2, if_pos (by omega)]
      · rw [if_neg e2, if_neg (by omega)]
theorem pI.ck {τ τ' : xT} {b j n : Nat} {s : SN} (hj : j < n) (hn : n ≤ 6) (h : pI τ τ' b j n s) (hw : sWt (pass s) j = sWt s j) : pI τ (xsi τ' 4 (b + 6 + j) (nI (sCk (pass s) j))) b (j + 1) n s := by
  obtain ⟨g1, g2, g3, g4⟩ := h
  refine ⟨g1.si (by simp), fun i hi => by rw [xsi_un _ _ (by omega)]; exact g2 i hi, fun i hi => ?_, fun i hi => ?_⟩
  · rw [xsi_un _ _ (by omega), g3 i hi]
    by_cases e : i = j
    · rw [e, if_neg (by omega), if_pos (by omega), hw]
    · by_cases e2 : i < j
      · rw [if_pos e2, if_pos (by omega)]
      · rw [if_neg e2, if_neg (by omega)]
  · by_cases e : i = j
    · rw [e, xsi_at, if_pos (by omega)]
    · rw [xsi_un _ _ (by omega), g4 i hi]
      by_cases e2 : i < j
      · rw [if_pos e2, if_pos (by omega)]
      · rw [if_neg e2, if_neg (by omega)]
end M2
