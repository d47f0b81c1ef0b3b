/-! ===== the model: what is asked of its letters ===== -/
def passD (s : SN) : Nat → SN | 0 => s | d + 1 => pass (passD s d)
theorem passD_sent (s : SN) (d : Nat) : sSt (passD s d) = sSt s ∧ sTn (passD s d) = sTn s ∧ sPd (passD s d) = sPd s ∧ sDy (passD s d) = sDy s + d := by
  induction d with
  | zero => exact ⟨rfl, rfl, rfl, rfl⟩
  | succ d ih => exact ⟨ih.1, ih.2.1, ih.2.2.1, (congrArg (· + 1) ih.2.2.2).trans (Nat.add_assoc _ _ _)⟩
theorem passD_ck {s : SN} {k : Nat} (h : ¬ bt (sSt s) k) (d : Nat) : sCk (passD s d) k = sCk s k - d := by
  induction d with
  | zero => rfl
  | succ d ih =>
    have e : sCk (pass (passD s d)) k = sCk (passD s d) k - 1 := if_neg (by rw [(passD_sent s d).1]; exact h)
    show sCk (pass (passD s d)) k = _
    rw [e, ih]; omega
theorem passD_wt {s : SN} {k : Nat} (h : ¬ bt (sSt s) k) (hw : sWt s k ≤ 99) (d : Nat) : sWt (passD s d) k = min 99 (sWt s k + (d - sCk s k)) := by
  induction d with
  | zero => show sWt s k = _; omega
  | succ d ih =>
    have hb : ¬ bt (sSt (passD s d)) k := by rw [(passD_sent s d).1]; exact h
    have hc := passD_ck h d
    show sWt (pass (passD s d)) k = _
    by_cases q : 0 < sCk (passD s d) k
    · rw [show sWt (pass (passD s d)) k = sWt (passD s d) k from (if_neg hb).trans (if_pos q), ih]; omega
    · rw [show sWt (pass (passD s d)) k = min 99 (sWt (passD s d) k + 1) from (if_neg hb).trans (if_neg q), ih]; omega
theorem price_passD {P : PT} {s : SN} {k : Nat} (h : ¬ bt (sSt s) k) (hw : sWt s k ≤ 99) (d : Nat) : price P (passD s d) k = costIn P s k d (sSt s) := by
  obtain ⟨h1, h2, h3, h4⟩ := passD_sent s d
  unfold price costIn
  rw [passD_wt h hw d]
  simp only [h1, h2, h4]
theorem passD_ok {P : PT} {m : Nat} {s : SN} (h : Sok P m s) (d : Nat) : Sok P (m + d) (passD s d) := by
  induction d with
  | zero => exact h
  | succ d ih => exact pass_ok ih
