/-! ===== the model: what is asked of its letters ===== -/
def passD (s : SN) : Nat → SN | 0 => s | d + 1 => pass (passD s d)
theorem passD_sent (s : SN) (d : Nat) : sSt (passD s d) = sSt s ∧ sTn (passD s d) = sTn s ∧ sPd (passD s d) = sPd s ∧ sDy (passD s d) = sDy s + d := by
  induction d with
  | zero => exact ⟨rfl, rfl, rfl, rfl⟩
  | succ d ih => exact ⟨ih.1, ih.2.1, ih.2.2.1, (congrArg (· + 1) ih.2.2.2).trans (Nat.add_assoc _ _ _)⟩
theorem passD_ck {s : SN} {k : Nat} (h : ¬ bt (sSt s) k) (d : Nat) : sCk (passD s d) k = sCk s k - d := by
  induction d with
  | zero => rfl
  | succ d ih =>
    have e : sCk (pass (passD s d)) k = sCk (passD s d) k - 1 := if_neg (by rw [(passD_sent s d).1]; exact h)
    show sCk (pass (passD s d)) k = _
    rw [e, ih]; omega
theorem passD_wt {s : SN} {k : Nat} (h : ¬ bt (sSt s) k) (hw : sWt s k ≤ 99) (d : Nat) : sWt (passD s d) k = min 99 (sWt s k + (d - sCk s k)) := by
  induction d with
  | zero => show sWt s k = _; omega
  | succ d ih =>
    have hb : ¬ bt (sSt (passD s d)) k := by rw [(passD_sent s d).1]; exact h
    have hc := passD_ck h d
    show sWt (pass (passD s d)) k = _
    by_cases q : 0 < sCk (passD s d) k
    · rw [show sWt (pass (passD s d)) k = sWt (passD s d) k from (if_neg hb).trans (if_pos q), ih]; omega
    · rw [show sWt (pass (passD s d)) k = min 99 (sWt (passD s d) k + 1) from (if_neg hb).trans (if_neg q), ih]; omega
theorem price_passD {P : PT} {s : SN} {k : Nat} (h : ¬ bt (sSt s) k) (hw : sWt s k ≤ 99) (d : Nat) : price P (passD s d) k = costIn P s k d (sSt s) := by
  obtain ⟨h1, h2, h3, h4⟩ := passD_sent s d
  unfold price costIn
  rw [passD_wt h hw d]
  simp only [h1, h2, h4]
theorem passD_ok {P : PT} {m : Nat} {s : SN} (h : Sok P m s) (d : Nat) : Sok P (m + d) (passD s d) := by
  induction d with
  | zero => exact h
  | succ d ih => exact pass_ok ih
section M3
variable (cx : xC)
set_option maxHeartbeats 4000000
set_option maxRecDepth 100000
/-- only the trial's row of the model has changed -/
def xtr (τ τ' : xT) : Prop := xeq [4] τ τ' ∧ ∀ i, i < 17 → τ'.1 4 i = τ.1 4 i
theorem xtr.tr {τ τ' τ2 : xT} (h : xtr τ τ') (h2 : xtr τ' τ2) : xtr τ τ2 := ⟨h.1.tr h2.1, fun i hi => (h2.2 i hi).trans (h.2 i hi)⟩
theorem xtr.ms {τ τ' : xT} {n : Nat} {s : SN} (hn : n ≤ 6) (h : xtr τ τ') (hs : MS τ 4 0 n s) : MS τ' 4 0 n s := hs.copy hn (fun i hi => by rw [Nat.zero_add]; exact h.2 i hi)
theorem xtr.mt {τ τ' : xT} {P : PT} (h : xtr τ τ') (hs : MT τ P) : MT τ' P := hs.kept h.1 (by decide) (by decide) (by decide)
theorem d_priceIn (τ : xT) {P : PT} (hP : Pok P) (h : MT τ P) {m : Nat} {s : SN} (hs : MS τ 4 0 (pn P) s) (ho : Sok P m s) (hm : m < 4500) {k n : Nat} (hk : k < pn P) (hn : n < 100) (hb : ¬ bt (sSt s) k) : CI cx m_X5_priceIn [.ref 1, .int (nI k), .int (nI n)] PM τ (fun x τ' => x = nI (costIn P s k n (sSt s)) ∧ xtr τ τ') := by
  have hn6 := hP.1
  have hlp : ∀ (j : Nat) (τ' : xT), j ≤ n → (xtr τ τ' ∧ MS τ' 4 17 (pn P) (passD s j)) → X cx m_X5_priceIn PM (qI PM (fun x τ' => x = nI (costIn P s k n (sSt s)) ∧ xtr τ τ')) 6 [(3, .int (nI j)), (0, .ref 1), (1, .int (nI k)), (2, .int (nI n))] [] PM τ' := by
    refine xloop _ _ n (fun τ' g => ?_) (fun j τ' hj g ih => ?_)
    · refine X_iload_n (i := 3) (pc' := 7) dX5_priceIn_6 rfl rfl rfl ?_
      refine X_iload_n (i := 2) (pc' := 8) dX5_priceIn_7 rfl rfl rfl ?_
      refine X_icmp_ge (pc' := 11) (tgt := 22) dX5_priceIn_8 rfl (by decide) (fun h_8 => ?_) (fun h_8 => absurd (nI_le (Nat.le_refl _) (by omega)) h_8)
      refine X_aload_n (i := 0) (pc' := 23) dX5_priceIn_22 rfl rfl rfl ?_
      refine X_iconst (pc' := 24) (v := nI 1) dX5_priceIn_23 rfl (by decide) ?_
      refine X_iload_n (i := 1) (pc' := 25) dX5_priceIn_24 rfl rfl rfl ?_
      refine X_OIp (As := [_, _]) (rest := []) (pc' := 28) dX5_priceIn_25 rfl k_X5_priceOn l_X5_119 v_X5_priceOn o_M_1 rfl ⟨by decide, by decide⟩ rfl rfl (Nat.le_of_ble_eq_true rfl) (d_priceOn cx τ' hP (g.1.mt h) (lev := 1) (by decide) g.2 (passD_ok ho n) (by omega) hk) ?_
      refine X_ri dX5_priceIn_28 rfl ⟨rfl, rfl⟩ ?_
      exact ⟨by rw [price_passD hb (ho.2.2.2.2.2.1 k hk)], g.1⟩
    · refine X_iload_n (i := 3) (pc' := 7) dX5_priceIn_6 rfl rfl rfl ?_
      refine X_iload_n (i := 2) (pc' := 8) dX5_priceIn_7 rfl rfl rfl ?_
      refine X_icmp_ge (pc' := 11) (tgt := 22) dX5_priceIn_8 rfl (by decide) (fun h_8 => absurd h_8 (nI_ge hj (by omega))) (fun h_8 => ?_)
      refine X_aload_n (i := 0) (pc' := 12) dX5_priceIn_11 rfl rfl rfl ?_
      refine X_iconst (pc' := 13) (v := nI 1) dX5_priceIn_12 rfl (by decide) ?_
      refine X_OV (As := [_]) (rest := []) (pc' := 16) dX5_priceIn_13 rfl k_X5_passOn l_X5_131 v_X5_passOn o_M_1 rfl ⟨by decide, by decide⟩ rfl rfl (Nat.le_of_ble_eq_true rfl) (d_passOn cx τ' hP (g.1.mt h) (lev := 1) (by decide) g.2 (passD_ok ho j) (by omega)) (fun τ_13 h_13 => ?_)
      refine X_iinc (pc' := 19) (v := nI (j + 1)) (lv' := [(3, _), (0, _), (1, _), (2, _)]) dX5_priceIn_16 rfl rfl (nI_add _ _) (Nat.le_of_ble_eq_true rfl) rfl ?_
      refine X_goto (pc' := 0) (tgt := 6) dX5_priceIn_19 (by decide) ?_
      exact X_lv _ (by simp) (ih _ ⟨g.1.tr ⟨h_13.1, fun i hi => h_13.2.1 i (Or.inl (by omega))⟩, h_13.2.2⟩)
  refine Ct_of (by decide) (Nat.le_of_ble_eq_true rfl) (lv := [(0, _), (1, _), (2, _)]) rfl ?_
  refine X_aload_n (i := 0) (pc' := 1) dX5_priceIn_0 rfl rfl rfl ?_
  refine X_OV (As := []) (rest := []) (pc' := 4) dX5_priceIn_1 rfl k_X5_layTrial l_X5_135 v_X5_layTrial o_M_1 rfl ⟨by decide, by decide⟩ rfl rfl (Nat.le_of_ble_eq_true rfl) (d_layTrial cx τ) (fun τ_1 h_1 => ?_)
  refine X_iconst (pc' := 5) (v := nI 0) dX5_priceIn_4 rfl (by decide) ?_
  refine X_istore_n (i := 3) (pc' := 6) (lv' := [(3, _), (0, _), (1, _), (2, _)]) dX5_priceIn_5 rfl rfl (Nat.le_of_ble_eq_true rfl) rfl ?_
  exact X_lv _ (by simp) (hlp 0 _ (Nat.zero_le _) ⟨⟨h_1.1, h_1.2.1⟩, hs.copy hn6 (fun i hi => by rw [Nat.zero_add]; exact h_1.2.2 i hi)⟩)
end M3
