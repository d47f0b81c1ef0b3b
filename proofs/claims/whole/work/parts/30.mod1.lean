/-! ===== the model: its small methods; a row of its standings ===== -/
/-- what is told, in the model's places -/
def MT (τ : xT) (P : PT) : Prop := τ.1 1 0 = nI (pn P) ∧ τ.1 1 1 = nI (pp P) ∧ τ.1 1 2 = nI (pr P) ∧ (∀ i, i < pn P → τ.1 2 i = nI (pk P i)) ∧ ∀ i, i < pn P → τ.1 3 i = nI (px P i)
/-- a standing in 17 places of row c from b on -/
def MS (τ : xT) (c b n : Nat) (s : SN) : Prop := (∀ i, i < n → τ.1 c (b + i) = nI (sWt s i)) ∧ (∀ i, i < n → τ.1 c (b + 6 + i) = nI (sCk s i)) ∧ τ.1 c (b + 12) = nI (sTn s) ∧ τ.1 c (b + 13) = nI (sSt s) ∧ τ.1 c (b + 14) = nI (sDy s) ∧ τ.1 c (b + 15) = nI (sTd s) ∧ τ.1 c (b + 16) = nI (sPd s)
theorem MS.copy {τ τ' : xT} {c b c' b' n : Nat} {s : SN} (hn : n ≤ 6) (h : MS τ c b n s) (e : ∀ i, i < 17 → τ'.1 c' (b' + i) = τ.1 c (b + i)) : MS τ' c' b' n s := by
  obtain ⟨h0, h1, h2, h3, h4, h5, h6⟩ := h
  exact ⟨fun i hi => (e i (by omega)).trans (h0 i hi), fun i hi => by rw [Nat.add_assoc, e (6 + i) (by omega), ← Nat.add_assoc]; exact h1 i hi, (e 12 (by omega)).trans h2, (e 13 (by omega)).trans h3, (e 14 (by omega)).trans h4, (e 15 (by omega)).trans h5, (e 16 (by omega)).trans h6⟩
theorem MT.kept {τ τ' : xT} {P : PT} {R : List Nat} (h : MT τ P) (e : xeq R τ τ') (h1 : 1 ∉ R) (h2 : 2 ∉ R) (h3 : 3 ∉ R) : MT τ' P := by
  unfold MT
  rw [(e 1 h1).1, (e 2 h2).1, (e 3 h3).1]
  exact h
theorem ones_le64 : ∀ s, s < 64 → ones s = s / 2 ^ 0 % 2 + s / 2 ^ 1 % 2 + s / 2 ^ 2 % 2 + s / 2 ^ 3 % 2 + s / 2 ^ 4 % 2 + s / 2 ^ 5 % 2 := by decide +kernel
/-- the first j bits' count -/
def onesTo (s : Nat) : Nat → Nat | 0 => 0 | j + 1 => onesTo s j + s / 2 ^ j % 2
theorem onesTo_6 {s : Nat} (h : s < 64) : onesTo s 6 = ones s := by rw [ones_le64 s h]; simp [onesTo]
theorem onesTo_le (s j : Nat) : onesTo s j ≤ j := by
  induction j with
  | zero => exact Nat.le_refl _
  | succ j ih => show onesTo s j + s / 2 ^ j % 2 ≤ j + 1; omega
theorem rate3 {k : Nat} (h : k ≤ 3) (h3 : ¬ k = 3) : nI k + nI 1 = nI (rate k) := by
  have : k = 0 ∨ k = 1 ∨ k = 2 := by omega
  rcases this with e | e | e <;> rw [e] <;> rfl
section M1
variable (cx : xC)
set_option maxHeartbeats 4000000
set_option maxRecDepth 100000
theorem d_has {P : xP} (τ : xT) (s k : Nat) (hs : s < 2 ^ 31) (hk : k < 31) : CI cx m_X5_has [.int (nI s), .int (nI k)] P τ (fun x τ' => τ' = τ ∧ x = zI (bt s k)) := by
  refine Ct_of (by decide) (Nat.le_of_ble_eq_true rfl) (lv := [(0, _), (1, _)]) rfl ?_
  refine X_iload_n (i := 0) (pc' := 1) dX5_has_0 rfl rfl rfl ?_
  refine X_iload_n (i := 1) (pc' := 2) dX5_has_1 rfl rfl rfl ?_
  refine X_ishr (pc' := 3) dX5_has_2 rfl ?_
  refine X_iconst (pc' := 4) (v := nI 1) dX5_has_3 rfl (by decide) ?_
  refine X_iand (pc' := 5) dX5_has_4 rfl ?_
  refine X_eqi (nI (s / 2 ^ k % 2)) (bt_shr hs hk) ?_
  refine X_iconst (pc' := 6) (v := nI 1) dX5_has_5 rfl (by decide) ?_
  refine X_icmp_ne (pc' := 9) (tgt := 13) dX5_has_6 rfl (by decide) (fun h_6 => ?_) (fun h_6 => ?_)
  · refine X_iconst (pc' := 14) (v := nI 0) dX5_has_13 rfl (by decide) ?_
    refine X_rz dX5_has_14 rfl (rfl) ⟨rfl, rfl⟩ ?_
    first
    | exact ⟨rfl, (zI_f (fun q => h_6 (congrArg nI q))).symm⟩
    | exact ⟨rfl, (zI_t ((nI_eq (by have h2 : s / 2 ^ k % 2 < 2 := Nat.mod_lt _ (by decide); omega) (by decide)).mp h_6)).symm⟩
  · refine X_iconst (pc' := 10) (v := nI 1) dX5_has_9 rfl (by decide) ?_
    refine X_goto (pc' := 0) (tgt := 14) dX5_has_10 (by decide) ?_
    refine X_rz dX5_has_14 rfl (rfl) ⟨rfl, rfl⟩ ?_
    first
    | exact ⟨rfl, (zI_f (fun q => h_6 (congrArg nI q))).symm⟩
    | exact ⟨rfl, (zI_t ((nI_eq (by have h2 : s / 2 ^ k % 2 < 2 := Nat.mod_lt _ (by decide); omega) (by decide)).mp h_6)).symm⟩
theorem d_in {P : xP} (τ : xT) (a b c : Int64) : CI cx m_X5_in [.long a, .long b, .long c] P τ (fun x τ' => τ' = τ ∧ x = zI (b.toInt ≤ a.toInt ∧ a.toInt ≤ c.toInt)) := by
  refine Ct_of (by decide) (Nat.le_of_ble_eq_true rfl) (lv := [(0, _), (2, _), (4, _)]) rfl ?_
  refine X_lload_n (i := 0) (pc' := 1) dX5_in_0 rfl rfl rfl ?_
  refine X_lload_n (i := 2) (pc' := 2) dX5_in_1 rfl rfl rfl ?_
  refine X_lcmp (pc' := 3) dX5_in_2 rfl ?_
  refine X_if_lt (pc' := 6) (tgt := 17) dX5_in_3 rfl (by decide) (fun h_3 => ?_) (fun h_3 => ?_)
  · refine X_iconst (pc' := 18) (v := nI 0) dX5_in_17 rfl (by decide) ?_
    refine X_rz dX5_in_18 rfl (rfl) ⟨rfl, rfl⟩ ?_
    refine ⟨rfl, ?_⟩
    simp only [lg_cmp_lt, lg_cmp_gt, Int64.lt_iff_toInt_lt] at *
    first
      | exact (zI_t ⟨by omega, by omega⟩).symm
      | exact (zI_f (fun q => by omega)).symm
  · refine X_lload_n (i := 0) (pc' := 7) dX5_in_6 rfl rfl rfl ?_
    refine X_lload (pc' := 9) dX5_in_7 rfl rfl ?_
    refine X_lcmp (pc' := 10) dX5_in_9 rfl ?_
    refine X_if_gt (pc' := 13) (tgt := 17) dX5_in_10 rfl (by decide) (fun h_10 => ?_) (fun h_10 => ?_)
    · refine X_iconst (pc' := 18) (v := nI 0) dX5_in_17 rfl (by decide) ?_
      refine X_rz dX5_in_18 rfl (rfl) ⟨rfl, rfl⟩ ?_
      refine ⟨rfl, ?_⟩
      simp only [lg_cmp_lt, lg_cmp_gt, Int64.lt_iff_toInt_lt] at *
      first
        | exact (zI_t ⟨by omega, by omega⟩).symm
        | exact (zI_f (fun q => by omega)).symm
    · refine X_iconst (pc' := 14) (v := nI 1) dX5_in_13 rfl (by decide) ?_
      refine X_goto (pc' := 0) (tgt := 18) dX5_in_14 (by decide) ?_
      refine X_rz dX5_in_18 rfl (rfl) ⟨rfl, rfl⟩ ?_
      refine ⟨rfl, ?_⟩
      simp only [lg_cmp_lt, lg_cmp_gt, Int64.lt_iff_toInt_lt] at *
      first
        | exact (zI_t ⟨by omega, by omega⟩).symm
        | exact (zI_f (fun q => by omega)).symm
theorem d_ones {P : xP} (τ : xT) (s : Nat) (hs : s < 64) : CI cx m_X5_ones [.int (nI s)] P τ (fun x τ' => τ' = τ ∧ x = nI (ones s)) := by
  have hl : ∀ (j : Nat) (u : Unit), j ≤ 6 → True → X cx m_X5_ones P (qI P (fun x τ' => τ' = τ ∧ x = nI (ones s))) 4 [(2, .int (nI j)), (1, .int (nI (onesTo s j))), (0, .int (nI s))] [] P τ := by
    refine xloop (fun j (_ : Unit) => X cx m_X5_ones P (qI P (fun x τ' => τ' = τ ∧ x = nI (ones s))) 4 [(2, .int (nI j)), (1, .int (nI (onesTo s j))), (0, .int (nI s))] [] P τ) (fun _ _ => True) 6 (fun _ _ => ?_) (fun j _ hj _ ih => ?_)
    · refine X_iload_n (i := 2) (pc' := 5) dX5_ones_4 rfl rfl rfl ?_
      refine X_bipush (pc' := 7) (v := nI 6) dX5_ones_5 rfl (by decide) ?_
      refine X_icmp_ge (pc' := 10) (tgt := 24) dX5_ones_7 rfl (by decide) (fun h_7 => ?_) (fun h_7 => absurd (nI_le (Nat.le_refl _) (by omega)) h_7)
      refine X_iload_n (i := 1) (pc' := 25) dX5_ones_24 rfl rfl rfl ?_
      refine X_ri dX5_ones_25 rfl ⟨rfl, rfl⟩ ?_
      exact ⟨rfl, by rw [onesTo_6 hs]⟩
    · have hb := onesTo_le s j
      refine X_iload_n (i := 2) (pc' := 5) dX5_ones_4 rfl rfl rfl ?_
      refine X_bipush (pc' := 7) (v := nI 6) dX5_ones_5 rfl (by decide) ?_
      refine X_icmp_ge (pc' := 10) (tgt := 24) dX5_ones_7 rfl (by decide) (fun h_7 => absurd h_7 (nI_ge hj (by omega))) (fun h_7 => ?_)
      refine X_iload_n (i := 1) (pc' := 11) dX5_ones_10 rfl rfl rfl ?_
      refine X_iload_n (i := 0) (pc' := 12) dX5_ones_11 rfl rfl rfl ?_
      refine X_iload_n (i := 2) (pc' := 13) dX5_ones_12 rfl rfl rfl ?_
      refine X_ishr (pc' := 14) dX5_ones_13 rfl ?_
      refine X_iconst (pc' := 15) (v := nI 1) dX5_ones_14 rfl (by decide) ?_
      refine X_iand (pc' := 16) dX5_ones_15 rfl ?_
      refine X_eqi (nI (s / 2 ^ j % 2)) (bt_shr (by omega) (by omega)) ?_
      refine X_iadd (pc' := 17) dX5_ones_16 rfl ?_
      refine X_eqi (nI (onesTo s (j + 1))) (nI_add _ _) ?_
      refine X_istore_n (i := 1) (pc' := 18) (lv' := [(1, _), (2, _), (0, _)]) dX5_ones_17 rfl rfl (Nat.le_of_ble_eq_true rfl) rfl ?_
      refine X_iinc (pc' := 21) (v := nI (j + 1)) (lv' := [(2, _), (1, _), (0, _)]) dX5_ones_18 rfl rfl (nI_add _ _) (Nat.le_of_ble_eq_true rfl) rfl ?_
      refine X_goto (pc' := 0) (tgt := 4) dX5_ones_21 (by decide) ?_
      exact X_lv _ (by simp) (ih () trivial)
  refine Ct_of (by decide) (Nat.le_of_ble_eq_true rfl) (lv := [(0, _)]) rfl ?_
  refine X_iconst (pc' := 1) (v := nI 0) dX5_ones_0 rfl (by decide) ?_
  refine X_istore_n (i := 1) (pc' := 2) (lv' := [(1, _), (0, _)]) dX5_ones_1 rfl rfl (Nat.le_of_ble_eq_true rfl) rfl ?_
  refine X_iconst (pc' := 3) (v := nI 0) dX5_ones_2 rfl (by decide) ?_
  refine X_istore_n (i := 2) (pc' := 4) (lv' := [(2, _), (1, _), (0, _)]) dX5_ones_3 rfl rfl (Nat.le_of_ble_eq_true rfl) rfl ?_
  exact X_lv _ (by simp [onesTo]) (hl 0 () (by decide) trivial)
theorem d_isLetter (τ : xT) {P : PT} (hP : Pok P) (h : MT τ P) (l : Int32) : CI cx m_X5_isLetter [.ref 1, .int l] PM τ (fun x τ' => τ' = τ ∧ x = zI (kn P l)) := by
  obtain ⟨q0, -⟩ := h
  have hn6 := hP.1
  refine Ct_of (by decide) (Nat.le_of_ble_eq_true rfl) (lv := [(0, _), (1, _)]) rfl ?_
  refine X_iload_n (i := 1) (pc' := 1) dX5_isLetter_0 rfl rfl rfl ?_
  refine X_i2l (pc' := 2) dX5_isLetter_1 rfl ?_
  refine X_lconst (pc' := 3) (v := lN 0) dX5_isLetter_2 rfl rfl ?_
  refine X_aload_n (i := 0) (pc' := 4) dX5_isLetter_3 rfl rfl rfl ?_
  refine X_get (pc' := 7) (v := .int _) dX5_isLetter_4 rfl (gf_X5_96 _ rfl) o_M_1 rfl rfl ?_
  refine X_eqi (nI (pn P)) (q0) ?_
  refine X_iconst (pc' := 8) (v := nI 1) dX5_isLetter_7 rfl (by decide) ?_
  refine X_isub (pc' := 9) dX5_isLetter_8 rfl ?_
  refine X_i2l (pc' := 10) dX5_isLetter_9 rfl ?_
  refine X_SIp (As := [_, _, _]) (rest := []) (pc' := 13) dX5_isLetter_10 rfl k_X5_in l_X5_50 s_X5_in ⟨by decide, by decide⟩ rfl rfl (Nat.le_of_ble_eq_true rfl) (d_in cx τ _ _ _) ?_
  refine X_rz dX5_isLetter_13 rfl (zI_nar) ⟨rfl, rfl⟩ ?_
  refine ⟨rfl, ?_⟩
  have e1 : (nI (pn P) - nI 1).toInt64.toInt = (pn P : Int) - 1 := by
    rw [Int32.toInt_toInt64]
    exact pk_sub_toInt (by omega) (by decide)
  have e2 : l.toInt64.toInt = l.toInt := Int32.toInt_toInt64 l
  have e3 : (lN 0).toInt = 0 := rfl
  rw [e1, e2, e3]
  by_cases hk : kn P l
  · exact (zI_t ⟨by have := hk.1; omega, by have := hk.2; omega⟩).trans (zI_t hk).symm
  · exact (zI_f (fun q => hk ⟨by omega, by omega⟩)).trans (zI_f hk).symm
theorem d_isSent (τ : xT) {n lev : Nat} {s : SN} (hl : lev < 2) (h : MS τ 4 (17 * lev) n s) (hs : sSt s < 64) {k : Nat} (hk : k < 31) : CI cx m_X5_isSent [.ref 1, .int (nI lev), .int (nI k)] PM τ (fun x τ' => τ' = τ ∧ x = zI (bt (sSt s) k)) := by
  obtain ⟨h0, h1, h2, h3, h4, h5, h6⟩ := h
  refine Ct_of (by decide) (Nat.le_of_ble_eq_true rfl) (lv := [(0, _), (1, _), (2, _)]) rfl ?_
  refine X_aload_n (i := 0) (pc' := 1) dX5_isSent_0 rfl rfl rfl ?_
  refine X_get (pc' := 4) (v := .ref 4) dX5_isSent_1 rfl (gf_X5_16 _ rfl) o_M_1 rfl rfl ?_
  refine X_bipush (pc' := 6) (v := nI 17) dX5_isSent_4 rfl (by decide) ?_
  refine X_iload_n (i := 1) (pc' := 7) dX5_isSent_6 rfl rfl rfl ?_
  refine X_imul (pc' := 8) dX5_isSent_7 rfl ?_
  refine X_eqi (nI (17 * lev)) (pk_mul _ _) ?_
  refine X_bipush (pc' := 10) (v := nI 13) dX5_isSent_8 rfl (by decide) ?_
  refine X_iadd (pc' := 11) dX5_isSent_10 rfl ?_
  refine X_iald (pc' := 12) (j := 17 * lev + 13) dX5_isSent_11 rfl (Or.inl r_M_4) (nI_add _ _) (by omega) ?_
  refine X_eqi (nI (sSt s)) (h3) ?_
  refine X_iload_n (i := 2) (pc' := 13) dX5_isSent_12 rfl rfl rfl ?_
  refine X_SIp (As := [_, _]) (rest := []) (pc' := 16) dX5_isSent_13 rfl k_X5_has l_X5_65 s_X5_has ⟨by decide, by decide⟩ rfl rfl (Nat.le_of_ble_eq_true rfl) (d_has cx τ (sSt s) k (by omega) hk) ?_
  refine X_rz dX5_isSent_16 rfl (zI_nar) ⟨rfl, rfl⟩ ?_
  exact ⟨rfl, rfl⟩
theorem d_priceBy (τ : xT) {P : PT} (hP : Pok P) (h : MT τ P) {k d c td : Nat} (hk : k < pn P) (hd : d ≤ 99) {tp : Prop} [Decidable tp] (hc : c ≤ 7) (htd : td < 100000) : CI cx m_X5_priceBy [.ref 1, .int (nI k), .int (nI d), .int (zI tp), .int (nI c), .int (nI td)] PM τ (fun x τ' => τ' = τ ∧ x = nI (cost P k d tp c td)) := by
  obtain ⟨q0, q1, q2, q3, q4⟩ := h
  have hn6 := hP.1
  have hkk := hP.2.2.2.1 k hk
  have b1 : d * rate (pk P k) ≤ 99 * 3 := Nat.mul_le_mul hd (rate_le _)
  have b2 : d * rate (pk P k) * (if tp then 2 else 1) ≤ 99 * 3 * 2 := Nat.mul_le_mul b1 (by split <;> omega)
  have hs := pk_sub_toInt (a := d * rate (pk P k) * (if tp then 2 else 1)) (b := 3 * c) (by omega) (by omega)
  refine Ct_of (by decide) (Nat.le_of_ble_eq_true rfl) (lv := [(0, _), (1, _), (2, _), (3, _), (4, _), (5, _)]) rfl ?_
  refine X_aload_n (i := 0) (pc' := 1) dX5_priceBy_0 rfl rfl rfl ?_
  refine X_get (pc' := 4) (v := .ref 2) dX5_priceBy_1 rfl (gf_X5_7 _ rfl) o_M_1 rfl rfl ?_
  refine X_iload_n (i := 1) (pc' := 5) dX5_priceBy_4 rfl rfl rfl ?_
  refine X_iald (pc' := 6) (j := k) dX5_priceBy_5 rfl (Or.inl r_M_2) (rfl) (by omega) ?_
  refine X_eqi (nI (pk P k)) (q3 k hk) ?_
  refine X_iconst (pc' := 7) (v := nI 3) dX5_priceBy_6 rfl (by decide) ?_
  refine X_icmp_ne (pc' := 10) (tgt := 14) dX5_priceBy_7 rfl (by decide) (fun h_7 => ?_) (fun h_7 => ?_)
  · refine X_aload_n (i := 0) (pc' := 15) dX5_priceBy_14 rfl rfl rfl ?_
    refine X_get (pc' := 18) (v := .ref 2) dX5_priceBy_15 rfl (gf_X5_7 _ rfl) o_M_1 rfl rfl ?_
    refine X_iload_n (i := 1) (pc' := 19) dX5_priceBy_18 rfl rfl rfl ?_
    refine X_iald (pc' := 20) (j := k) dX5_priceBy_19 rfl (Or.inl r_M_2) (rfl) (by omega) ?_
    refine X_eqi (nI (pk P k)) (q3 k hk) ?_
    refine X_iconst (pc' := 21) (v := nI 1) dX5_priceBy_20 rfl (by decide) ?_
    refine X_iadd (pc' := 22) dX5_priceBy_21 rfl ?_
    refine X_eqi (nI (rate (pk P k))) (rate3 (by omega) (fun q => h_7 (congrArg nI q))) ?_
    refine X_istore (pc' := 24) (lv' := [(6, _), (0, _), (1, _), (2, _), (3, _), (4, _), (5, _)]) dX5_priceBy_22 rfl (Nat.le_of_ble_eq_true rfl) rfl ?_
    refine X_iload_n (i := 2) (pc' := 25) dX5_priceBy_24 rfl rfl rfl ?_
    refine X_iload (pc' := 27) dX5_priceBy_25 rfl rfl ?_
    refine X_imul (pc' := 28) dX5_priceBy_27 rfl ?_
    refine X_eqi (nI (d * rate (pk P k))) (pk_mul _ _) ?_
    refine X_iload_n (i := 3) (pc' := 29) dX5_priceBy_28 rfl rfl rfl ?_
    refine X_if_eq (pc' := 32) (tgt := 36) dX5_priceBy_29 rfl (by decide) (fun h_29 => ?_) (fun h_29 => ?_)
    · refine X_iconst (pc' := 37) (v := nI 1) dX5_priceBy_36 rfl (by decide) ?_
      refine X_imul (pc' := 38) dX5_priceBy_37 rfl ?_
      refine X_eqi (nI (d * rate (pk P k) * (if tp then 2 else 1))) (by first | rw [if_pos (zI_1 h_29), pk_mul] | rw [if_neg (zI_0.mp h_29), pk_mul]) ?_
      refine X_iconst (pc' := 39) (v := nI 3) dX5_priceBy_38 rfl (by decide) ?_
      refine X_iload (pc' := 41) dX5_priceBy_39 rfl rfl ?_
      refine X_imul (pc' := 42) dX5_priceBy_41 rfl ?_
      refine X_eqi (nI (3 * c)) (pk_mul _ _) ?_
      refine X_isub (pc' := 43) dX5_priceBy_42 rfl ?_
      refine X_istore (pc' := 45) (lv' := [(7, _), (6, _), (0, _), (1, _), (2, _), (3, _), (4, _), (5, _)]) dX5_priceBy_43 rfl (Nat.le_of_ble_eq_true rfl) rfl ?_
      refine X_iload (pc' := 47) dX5_priceBy_45 rfl rfl ?_
      refine X_if_ge (pc' := 50) (tgt := 54) dX5_priceBy_47 rfl (by decide) (fun h_47 => ?_) (fun h_47 => ?_)
      · refine X_iload (pc' := 56) dX5_priceBy_54 rfl rfl ?_
        refine X_eqi (nI (d * rate (pk P k) * (if tp then 2 else 1) - 3 * c)) (by rw [ge0] at h_47; exact pk_sub (by omega)) ?_
        refine X_istore (pc' := 58) (lv' := [(7, _), (6, _), (0, _), (1, _), (2, _), (3, _), (4, _), (5, _)]) dX5_priceBy_56 rfl (Nat.le_of_ble_eq_true rfl) rfl ?_
        refine X_iload (pc' := 60) dX5_priceBy_58 rfl rfl ?_
        refine X_aload_n (i := 0) (pc' := 61) dX5_priceBy_60 rfl rfl rfl ?_
        refine X_get (pc' := 64) (v := .int _) dX5_priceBy_61 rfl (gf_X5_99 _ rfl) o_M_1 rfl rfl ?_
        refine X_eqi (nI (pp P)) (q1) ?_
        refine X_icmp_ne (pc' := 67) (tgt := 74) dX5_priceBy_64 rfl (by decide) (fun h_64 => ?_) (fun h_64 => ?_)
        · refine X_iload (pc' := 76) dX5_priceBy_74 rfl rfl ?_
          refine X_ri dX5_priceBy_76 rfl ⟨rfl, rfl⟩ ?_
          have hpp := hP.2.1
          have he : (nI td = nI (pp P)) ↔ td = pp P := nI_eq (by omega) (by omega)
          unfold cost
          first
            | exact ⟨rfl, by rw [if_neg (fun q => h_64 (he.mpr q))]⟩
            | exact ⟨rfl, by rw [if_pos (he.mp h_64)]⟩
        · refine X_iload (pc' := 69) dX5_priceBy_67 rfl rfl ?_
          refine X_iconst (pc' := 70) (v := nI 2) dX5_priceBy_69 rfl (by decide) ?_
          refine X_idiv (pc' := 71) dX5_priceBy_70 rfl (by decide) ?_
          refine X_eqi (nI ((d * rate (pk P k) * (if tp then 2 else 1) - 3 * c) / 2)) (pk_div (by omega) (by decide) (by decide)) ?_
          refine X_goto (pc' := 0) (tgt := 76) dX5_priceBy_71 (by decide) ?_
          refine X_ri dX5_priceBy_76 rfl ⟨rfl, rfl⟩ ?_
          have hpp := hP.2.1
          have he : (nI td = nI (pp P)) ↔ td = pp P := nI_eq (by omega) (by omega)
          unfold cost
          first
            | exact ⟨rfl, by rw [if_neg (fun q => h_64 (he.mpr q))]⟩
            | exact ⟨rfl, by rw [if_pos (he.mp h_64)]⟩
      · refine X_iconst (pc' := 51) (v := nI 0) dX5_priceBy_50 rfl (by decide) ?_
        refine X_eqi (nI (d * rate (pk P k) * (if tp then 2 else 1) - 3 * c)) (by rw [ge0] at h_47; congr 1; omega) ?_
        refine X_goto (pc' := 0) (tgt := 56) dX5_priceBy_51 (by decide) ?_
        refine X_istore (pc' := 58) (lv' := [(7, _), (6, _), (0, _), (1, _), (2, _), (3, _), (4, _), (5, _)]) dX5_priceBy_56 rfl (Nat.le_of_ble_eq_true rfl) rfl ?_
        refine X_iload (pc' := 60) dX5_priceBy_58 rfl rfl ?_
        refine X_aload_n (i := 0) (pc' := 61) dX5_priceBy_60 rfl rfl rfl ?_
        refine X_get (pc' := 64) (v := .int _) dX5_priceBy_61 rfl (gf_X5_99 _ rfl) o_M_1 rfl rfl ?_
        refine X_eqi (nI (pp P)) (q1) ?_
        refine X_icmp_ne (pc' := 67) (tgt := 74) dX5_priceBy_64 rfl (by decide) (fun h_64 => ?_) (fun h_64 => ?_)
        · refine X_iload (pc' := 76) dX5_priceBy_74 rfl rfl ?_
          refine X_ri dX5_priceBy_76 rfl ⟨rfl, rfl⟩ ?_
          have hpp := hP.2.1
          have he : (nI td = nI (pp P)) ↔ td = pp P := nI_eq (by omega) (by omega)
          unfold cost
          first
            | exact ⟨rfl, by rw [if_neg (fun q => h_64 (he.mpr q))]⟩
            | exact ⟨rfl, by rw [if_pos (he.mp h_64)]⟩
        · refine X_iload (pc' := 69) dX5_priceBy_67 rfl rfl ?_
          refine X_iconst (pc' := 70) (v := nI 2) dX5_priceBy_69 rfl (by decide) ?_
          refine X_idiv (pc' := 71) dX5_priceBy_70 rfl (by decide) ?_
          refine X_eqi (nI ((d * rate (pk P k) * (if tp then 2 else 1) - 3 * c) / 2)) (pk_div (by omega) (by decide) (by decide)) ?_
          refine X_goto (pc' := 0) (tgt := 76) dX5_priceBy_71 (by decide) ?_
          refine X_ri dX5_priceBy_76 rfl ⟨rfl, rfl⟩ ?_
          have hpp := hP.2.1
          have he : (nI td = nI (pp P)) ↔ td = pp P := nI_eq (by omega) (by omega)
          unfold cost
          first
            | exact ⟨rfl, by rw [if_neg (fun q => h_64 (he.mpr q))]⟩
            | exact ⟨rfl, by rw [if_pos (he.mp h_64)]⟩
    · refine X_iconst (pc' := 33) (v := nI 2) dX5_priceBy_32 rfl (by decide) ?_
      refine X_goto (pc' := 0) (tgt := 37) dX5_priceBy_33 (by decide) ?_
      refine X_imul (pc' := 38) dX5_priceBy_37 rfl ?_
      refine X_eqi (nI (d * rate (pk P k) * (if tp then 2 else 1))) (by first | rw [if_pos (zI_1 h_29), pk_mul] | rw [if_neg (zI_0.mp h_29), pk_mul]) ?_
      refine X_iconst (pc' := 39) (v := nI 3) dX5_priceBy_38 rfl (by decide) ?_
      refine X_iload (pc' := 41) dX5_priceBy_39 rfl rfl ?_
      refine X_imul (pc' := 42) dX5_priceBy_41 rfl ?_
      refine X_eqi (nI (3 * c)) (pk_mul _ _) ?_
      refine X_isub (pc' := 43) dX5_priceBy_42 rfl ?_
      refine X_istore (pc' := 45) (lv' := [(7, _), (6, _), (0, _), (1, _), (2, _), (3, _), (4, _), (5, _)]) dX5_priceBy_43 rfl (Nat.le_of_ble_eq_true rfl) rfl ?_
      refine X_iload (pc' := 47) dX5_priceBy_45 rfl rfl ?_
      refine X_if_ge (pc' := 50) (tgt := 54) dX5_priceBy_47 rfl (by decide) (fun h_47 => ?_) (fun h_47 => ?_)
      · refine X_iload (pc' := 56) dX5_priceBy_54 rfl rfl ?_
        refine X_eqi (nI (d * rate (pk P k) * (if tp then 2 else 1) - 3 * c)) (by rw [ge0] at h_47; exact pk_sub (by omega)) ?_
        refine X_istore (pc' := 58) (lv' := [(7, _), (6, _), (0, _), (1, _), (2, _), (3, _), (4, _), (5, _)]) dX5_priceBy_56 rfl (Nat.le_of_ble_eq_true rfl) rfl ?_
        refine X_iload (pc' := 60) dX5_priceBy_58 rfl rfl ?_
        refine X_aload_n (i := 0) (pc' := 61) dX5_priceBy_60 rfl rfl rfl ?_
        refine X_get (pc' := 64) (v := .int _) dX5_priceBy_61 rfl (gf_X5_99 _ rfl) o_M_1 rfl rfl ?_
        refine X_eqi (nI (pp P)) (q1) ?_
        refine X_icmp_ne (pc' := 67) (tgt := 74) dX5_priceBy_64 rfl (by decide) (fun h_64 => ?_) (fun h_64 => ?_)
        · refine X_iload (pc' := 76) dX5_priceBy_74 rfl rfl ?_
          refine X_ri dX5_priceBy_76 rfl ⟨rfl, rfl⟩ ?_
          have hpp := hP.2.1
          have he : (nI td = nI (pp P)) ↔ td = pp P := nI_eq (by omega) (by omega)
          unfold cost
          first
            | exact ⟨rfl, by rw [if_neg (fun q => h_64 (he.mpr q))]⟩
            | exact ⟨rfl, by rw [if_pos (he.mp h_64)]⟩
        · refine X_iload (pc' := 69) dX5_priceBy_67 rfl rfl ?_
          refine X_iconst (pc' := 70) (v := nI 2) dX5_priceBy_69 rfl (by decide) ?_
          refine X_idiv (pc' := 71) dX5_priceBy_70 rfl (by decide) ?_
          refine X_eqi (nI ((d * rate (pk P k) * (if tp then 2 else 1) - 3 * c) / 2)) (pk_div (by omega) (by decide) (by decide)) ?_
          refine X_goto (pc' := 0) (tgt := 76) dX5_priceBy_71 (by decide) ?_
          refine X_ri dX5_priceBy_76 rfl ⟨rfl, rfl⟩ ?_
          have hpp := hP.2.1
          have he : (nI td = nI (pp P)) ↔ td = pp P := nI_eq (by omega) (by omega)
          unfold cost
          first
            | exact ⟨rfl, by rw [if_neg (fun q => h_64 (he.mpr q))]⟩
            | exact ⟨rfl, by rw [if_pos (he.mp h_64)]⟩
      · refine X_iconst (pc' := 51) (v := nI 0) dX5_priceBy_50 rfl (by decide) ?_
        refine X_eqi (nI (d * rate (pk P k) * (if tp then 2 else 1) - 3 * c)) (by rw [ge0] at h_47; congr 1; omega) ?_
        refine X_goto (pc' := 0) (tgt := 56) dX5_priceBy_51 (by decide) ?_
        refine X_istore (pc' := 58) (lv' := [(7, _), (6, _), (0, _), (1, _), (2, _), (3, _), (4, _), (5, _)]) dX5_priceBy_56 rfl (Nat.le_of_ble_eq_true rfl) rfl ?_
        refine X_iload (pc' := 60) dX5_priceBy_58 rfl rfl ?_
        refine X_aload_n (i := 0) (pc' := 61) dX5_priceBy_60 rfl rfl rfl ?_
        refine X_get (pc' := 64) (v := .int _) dX5_priceBy_61 rfl (gf_X5_99 _ rfl) o_M_1 rfl rfl ?_
        refine X_eqi (nI (pp P)) (q1) ?_
        refine X_icmp_ne (pc' := 67) (tgt := 74) dX5_priceBy_64 rfl (by decide) (fun h_64 => ?_) (fun h_64 => ?_)
        · refine X_iload (pc' := 76) dX5_priceBy_74 rfl rfl ?_
          refine X_ri dX5_priceBy_76 rfl ⟨rfl, rfl⟩ ?_
          have hpp := hP.2.1
          have he : (nI td = nI (pp P)) ↔ td = pp P := nI_eq (by omega) (by omega)
          unfold cost
          first
            | exact ⟨rfl, by rw [if_neg (fun q => h_64 (he.mpr q))]⟩
            | exact ⟨rfl, by rw [if_pos (he.mp h_64)]⟩
        · refine X_iload (pc' := 69) dX5_priceBy_67 rfl rfl ?_
          refine X_iconst (pc' := 70) (v := nI 2) dX5_priceBy_69 rfl (by decide) ?_
          refine X_idiv (pc' := 71) dX5_priceBy_70 rfl (by decide) ?_
          refine X_eqi (nI ((d * rate (pk P k) * (if tp then 2 else 1) - 3 * c) / 2)) (pk_div (by omega) (by decide) (by decide)) ?_
          refine X_goto (pc' := 0) (tgt := 76) dX5_priceBy_71 (by decide) ?_
          refine X_ri dX5_priceBy_76 rfl ⟨rfl, rfl⟩ ?_
          have hpp := hP.2.1
          have he : (nI td = nI (pp P)) ↔ td = pp P := nI_eq (by omega) (by omega)
          unfold cost
          first
            | exact ⟨rfl, by rw [if_neg (fun q => h_64 (he.mpr q))]⟩
            | exact ⟨rfl, by rw [if_pos (he.mp h_64)]⟩
  · refine X_iconst (pc' := 11) (v := nI 0) dX5_priceBy_10 rfl (by decide) ?_
    refine X_eqi (nI (rate (pk P k))) (by rw [(nI_eq (by omega) (by decide)).mp h_7]; rfl) ?_
    refine X_goto (pc' := 0) (tgt := 22) dX5_priceBy_11 (by decide) ?_
    refine X_istore (pc' := 24) (lv' := [(6, _), (0, _), (1, _), (2, _), (3, _), (4, _), (5, _)]) dX5_priceBy_22 rfl (Nat.le_of_ble_eq_true rfl) rfl ?_
    refine X_iload_n (i := 2) (pc' := 25) dX5_priceBy_24 rfl rfl rfl ?_
    refine X_iload (pc' := 27) dX5_priceBy_25 rfl rfl ?_
    refine X_imul (pc' := 28) dX5_priceBy_27 rfl ?_
    refine X_eqi (nI (d * rate (pk P k))) (pk_mul _ _) ?_
    refine X_iload_n (i := 3) (pc' := 29) dX5_priceBy_28 rfl rfl rfl ?_
    refine X_if_eq (pc' := 32) (tgt := 36) dX5_priceBy_29 rfl (by decide) (fun h_29 => ?_) (fun h_29 => ?_)
    · refine X_iconst (pc' := 37) (v := nI 1) dX5_priceBy_36 rfl (by decide) ?_
      refine X_imul (pc' := 38) dX5_priceBy_37 rfl ?_
      refine X_eqi (nI (d * rate (pk P k) * (if tp then 2 else 1))) (by first | rw [if_pos (zI_1 h_29), pk_mul] | rw [if_neg (zI_0.mp h_29), pk_mul]) ?_
      refine X_iconst (pc' := 39) (v := nI 3) dX5_priceBy_38 rfl (by decide) ?_
      refine X_iload (pc' := 41) dX5_priceBy_39 rfl rfl ?_
      refine X_imul (pc' := 42) dX5_priceBy_41 rfl ?_
      refine X_eqi (nI (3 * c)) (pk_mul _ _) ?_
      refine X_isub (pc' := 43) dX5_priceBy_42 rfl ?_
      refine X_istore (pc' := 45) (lv' := [(7, _), (6, _), (0, _), (1, _), (2, _), (3, _), (4, _), (5, _)]) dX5_priceBy_43 rfl (Nat.le_of_ble_eq_true rfl) rfl ?_
      refine X_iload (pc' := 47) dX5_priceBy_45 rfl rfl ?_
      refine X_if_ge (pc' := 50) (tgt := 54) dX5_priceBy_47 rfl (by decide) (fun h_47 => ?_) (fun h_47 => ?_)
      · refine X_iload (pc' := 56) dX5_priceBy_54 rfl rfl ?_
        refine X_eqi (nI (d * rate (pk P k) * (if tp then 2 else 1) - 3 * c)) (by rw [ge0] at h_47; exact pk_sub (by omega)) ?_
        refine X_istore (pc' := 58) (lv' := [(7, _), (6, _), (0, _), (1, _), (2, _), (3, _), (4, _), (5, _)]) dX5_priceBy_56 rfl (Nat.le_of_ble_eq_true rfl) rfl ?_
        refine X_iload (pc' := 60) dX5_priceBy_58 rfl rfl ?_
        refine X_aload_n (i := 0) (pc' := 61) dX5_priceBy_60 rfl rfl rfl ?_
        refine X_get (pc' := 64) (v := .int _) dX5_priceBy_61 rfl (gf_X5_99 _ rfl) o_M_1 rfl rfl ?_
        refine X_eqi (nI (pp P)) (q1) ?_
        refine X_icmp_ne (pc' := 67) (tgt := 74) dX5_priceBy_64 rfl (by decide) (fun h_64 => ?_) (fun h_64 => ?_)
        · refine X_iload (pc' := 76) dX5_priceBy_74 rfl rfl ?_
          refine X_ri dX5_priceBy_76 rfl ⟨rfl, rfl⟩ ?_
          have hpp := hP.2.1
          have he : (nI td = nI (pp P)) ↔ td = pp P := nI_eq (by omega) (by omega)
          unfold cost
          first
            | exact ⟨rfl, by rw [if_neg (fun q => h_64 (he.mpr q))]⟩
            | exact ⟨rfl, by rw [if_pos (he.mp h_64)]⟩
        · refine X_iload (pc' := 69) dX5_priceBy_67 rfl rfl ?_
          refine X_iconst (pc' := 70) (v := nI 2) dX5_priceBy_69 rfl (by decide) ?_
          refine X_idiv (pc' := 71) dX5_priceBy_70 rfl (by decide) ?_
          refine X_eqi (nI ((d * rate (pk P k) * (if tp then 2 else 1) - 3 * c) / 2)) (pk_div (by omega) (by decide) (by decide)) ?_
          refine X_goto (pc' := 0) (tgt := 76) dX5_priceBy_71 (by decide) ?_
          refine X_ri dX5_priceBy_76 rfl ⟨rfl, rfl⟩ ?_
          have hpp := hP.2.1
          have he : (nI td = nI (pp P)) ↔ td = pp P := nI_eq (by omega) (by omega)
          unfold cost
          first
            | exact ⟨rfl, by rw [if_neg (fun q => h_64 (he.mpr q))]⟩
            | exact ⟨rfl, by rw [if_pos (he.mp h_64)]⟩
      · refine X_iconst (pc' := 51) (v := nI 0) dX5_priceBy_50 rfl (by decide) ?_
        refine X_eqi (nI (d * rate (pk P k) * (if tp then 2 else 1) - 3 * c)) (by rw [ge0] at h_47; congr 1; omega) ?_
        refine X_goto (pc' := 0) (tgt := 56) dX5_priceBy_51 (by decide) ?_
        refine X_istore (pc' := 58) (lv' := [(7, _), (6, _), (0, _), (1, _), (2, _), (3, _), (4, _), (5, _)]) dX5_priceBy_56 rfl (Nat.le_of_ble_eq_true rfl) rfl ?_
        refine X_iload (pc' := 60) dX5_priceBy_58 rfl rfl ?_
        refine X_aload_n (i := 0) (pc' := 61) dX5_priceBy_60 rfl rfl rfl ?_
        refine X_get (pc' := 64) (v := .int _) dX5_priceBy_61 rfl (gf_X5_99 _ rfl) o_M_1 rfl rfl ?_
        refine X_eqi (nI (pp P)) (q1) ?_
        refine X_icmp_ne (pc' := 67) (tgt := 74) dX5_priceBy_64 rfl (by decide) (fun h_64 => ?_) (fun h_64 => ?_)
        · refine X_iload (pc' := 76) dX5_priceBy_74 rfl rfl ?_
          refine X_ri dX5_priceBy_76 rfl ⟨rfl, rfl⟩ ?_
          have hpp := hP.2.1
          have he : (nI td = nI (pp P)) ↔ td = pp P := nI_eq (by omega) (by omega)
          unfold cost
          first
            | exact ⟨rfl, by rw [if_neg (fun q => h_64 (he.mpr q))]⟩
            | exact ⟨rfl, by rw [if_pos (he.mp h_64)]⟩
        · refine X_iload (pc' := 69) dX5_priceBy_67 rfl rfl ?_
          refine X_iconst (pc' := 70) (v := nI 2) dX5_priceBy_69 rfl (by decide) ?_
          refine X_idiv (pc' := 71) dX5_priceBy_70 rfl (by decide) ?_
          refine X_eqi (nI ((d * rate (pk P k) * (if tp then 2 else 1) - 3 * c) / 2)) (pk_div (by omega) (by decide) (by decide)) ?_
          refine X_goto (pc' := 0) (tgt := 76) dX5_priceBy_71 (by decide) ?_
          refine X_ri dX5_priceBy_76 rfl ⟨rfl, rfl⟩ ?_
          have hpp := hP.2.1
          have he : (nI td = nI (pp P)) ↔ td = pp P := nI_eq (by omega) (by omega)
          unfold cost
          first
            | exact ⟨rfl, by rw [if_neg (fun q => h_64 (he.mpr q))]⟩
            | exact ⟨rfl, by rw [if_pos (he.mp h_64)]⟩
    · refine X_iconst (pc' := 33) (v := nI 2) dX5_priceBy_32 rfl (by decide) ?_
      refine X_goto (pc' := 0) (tgt := 37) dX5_priceBy_33 (by decide) ?_
      refine X_imul (pc' := 38) dX5_priceBy_37 rfl ?_
      refine X_eqi (nI (d * rate (pk P k) * (if tp then 2 else 1))) (by first | rw [if_pos (zI_1 h_29), pk_mul] | rw [if_neg (zI_0.mp h_29), pk_mul]) ?_
      refine X_iconst (pc' := 39) (v := nI 3) dX5_priceBy_38 rfl (by decide) ?_
      refine X_iload (pc' := 41) dX5_priceBy_39 rfl rfl ?_
      refine X_imul (pc' := 42) dX5_priceBy_41 rfl ?_
      refine X_eqi (nI (3 * c)) (pk_mul _ _) ?_
      refine X_isub (pc' := 43) dX5_priceBy_42 rfl ?_
      refine X_istore (pc' := 45) (lv' := [(7, _), (6, _), (0, _), (1, _), (2, _), (3, _), (4, _), (5, _)]) dX5_priceBy_43 rfl (Nat.le_of_ble_eq_true rfl) rfl ?_
      refine X_iload (pc' := 47) dX5_priceBy_45 rfl rfl ?_
      refine X_if_ge (pc' := 50) (tgt := 54) dX5_priceBy_47 rfl (by decide) (fun h_47 => ?_) (fun h_47 => ?_)
      · refine X_iload (pc' := 56) dX5_priceBy_54 rfl rfl ?_
        refine X_eqi (nI (d * rate (pk P k) * (if tp then 2 else 1) - 3 * c)) (by rw [ge0] at h_47; exact pk_sub (by omega)) ?_
        refine X_istore (pc' := 58) (lv' := [(7, _), (6, _), (0, _), (1, _), (2, _), (3, _), (4, _), (5, _)]) dX5_priceBy_56 rfl (Nat.le_of_ble_eq_true rfl) rfl ?_
        refine X_iload (pc' := 60) dX5_priceBy_58 rfl rfl ?_
        refine X_aload_n (i := 0) (pc' := 61) dX5_priceBy_60 rfl rfl rfl ?_
        refine X_get (pc' := 64) (v := .int _) dX5_priceBy_61 rfl (gf_X5_99 _ rfl) o_M_1 rfl rfl ?_
        refine X_eqi (nI (pp P)) (q1) ?_
        refine X_icmp_ne (pc' := 67) (tgt := 74) dX5_priceBy_64 rfl (by decide) (fun h_64 => ?_) (fun h_64 => ?_)
        · refine X_iload (pc' := 76) dX5_priceBy_74 rfl rfl ?_
          refine X_ri dX5_priceBy_76 rfl ⟨rfl, rfl⟩ ?_
          have hpp := hP.2.1
          have he : (nI td = nI (pp P)) ↔ td = pp P := nI_eq (by omega) (by omega)
          unfold cost
          first
            | exact ⟨rfl, by rw [if_neg (fun q => h_64 (he.mpr q))]⟩
            | exact ⟨rfl, by rw [if_pos (he.mp h_64)]⟩
        · refine X_iload (pc' := 69) dX5_priceBy_67 rfl rfl ?_
          refine X_iconst (pc' := 70) (v := nI 2) dX5_priceBy_69 rfl (by decide) ?_
          refine X_idiv (pc' := 71) dX5_priceBy_70 rfl (by decide) ?_
          refine X_eqi (nI ((d * rate (pk P k) * (if tp then 2 else 1) - 3 * c) / 2)) (pk_div (by omega) (by decide) (by decide)) ?_
          refine X_goto (pc' := 0) (tgt := 76) dX5_priceBy_71 (by decide) ?_
          refine X_ri dX5_priceBy_76 rfl ⟨rfl, rfl⟩ ?_
          have hpp := hP.2.1
          have he : (nI td = nI (pp P)) ↔ td = pp P := nI_eq (by omega) (by omega)
          unfold cost
          first
            | exact ⟨rfl, by rw [if_neg (fun q => h_64 (he.mpr q))]⟩
            | exact ⟨rfl, by rw [if_pos (he.mp h_64)]⟩
      · refine X_iconst (pc' := 51) (v := nI 0) dX5_priceBy_50 rfl (by decide) ?_
        refine X_eqi (nI (d * rate (pk P k) * (if tp then 2 else 1) - 3 * c)) (by rw [ge0] at h_47; congr 1; omega) ?_
        refine X_goto (pc' := 0) (tgt := 56) dX5_priceBy_51 (by decide) ?_
        refine X_istore (pc' := 58) (lv' := [(7, _), (6, _), (0, _), (1, _), (2, _), (3, _), (4, _), (5, _)]) dX5_priceBy_56 rfl (Nat.le_of_ble_eq_true rfl) rfl ?_
        refine X_iload (pc' := 60) dX5_priceBy_58 rfl rfl ?_
        refine X_aload_n (i := 0) (pc' := 61) dX5_priceBy_60 rfl rfl rfl ?_
        refine X_get (pc' := 64) (v := .int _) dX5_priceBy_61 rfl (gf_X5_99 _ rfl) o_M_1 rfl rfl ?_
        refine X_eqi (nI (pp P)) (q1) ?_
        refine X_icmp_ne (pc' := 67) (tgt := 74) dX5_priceBy_64 rfl (by decide) (fun h_64 => ?_) (fun h_64 => ?_)
        · refine X_iload (pc' := 76) dX5_priceBy_74 rfl rfl ?_
          refine X_ri dX5_priceBy_76 rfl ⟨rfl, rfl⟩ ?_
          have hpp := hP.2.1
          have he : (nI td = nI (pp P)) ↔ td = pp P := nI_eq (by omega) (by omega)
          unfold cost
          first
            | exact ⟨rfl, by rw [if_neg (fun q => h_64 (he.mpr q))]⟩
            | exact ⟨rfl, by rw [if_pos (he.mp h_64)]⟩
        · refine X_iload (pc' := 69) dX5_priceBy_67 rfl rfl ?_
          refine X_iconst (pc' := 70) (v := nI 2) dX5_priceBy_69 rfl (by decide) ?_
          refine X_idiv (pc' := 71) dX5_priceBy_70 rfl (by decide) ?_
          refine X_eqi (nI ((d * rate (pk P k) * (if tp then 2 else 1) - 3 * c) / 2)) (pk_div (by omega) (by decide) (by decide)) ?_
          refine X_goto (pc' := 0) (tgt := 76) dX5_priceBy_71 (by decide) ?_
          refine X_ri dX5_priceBy_76 rfl ⟨rfl, rfl⟩ ?_
          have hpp := hP.2.1
          have he : (nI td = nI (pp P)) ↔ td = pp P := nI_eq (by omega) (by omega)
          unfold cost
          first
            | exact ⟨rfl, by rw [if_neg (fun q => h_64 (he.mpr q))]⟩
            | exact ⟨rfl, by rw [if_pos (he.mp h_64)]⟩
theorem d_priceOn (τ : xT) {P : PT} (hP : Pok P) (h : MT τ P) {m lev : Nat} {s : SN} (hl : lev < 2) (hs : MS τ 4 (17 * lev) (pn P) s) (ho : Sok P m s) (hm : m < 5000) {k : Nat} (hk : k < pn P) : CI cx m_X5_priceOn [.ref 1, .int (nI lev), .int (nI k)] PM τ (fun x τ' => τ' = τ ∧ x = nI (price P s k)) := by
  obtain ⟨h0, h1, h2, h3, h4, h5, h6⟩ := hs
  have hn6 := hP.1
  have h26 := two6 hP
  obtain ⟨o0, o1, o2, o3, o4, o5, o6⟩ := ho
  have hx := hP.2.2.2.2 k hk
  have hb := ones_le (px P k &&& sSt s)
  refine Ct_of (by decide) (Nat.le_of_ble_eq_true rfl) (lv := [(0, _), (1, _), (2, _)]) rfl ?_
  refine X_bipush (pc' := 2) (v := nI 17) dX5_priceOn_0 rfl (by decide) ?_
  refine X_iload_n (i := 1) (pc' := 3) dX5_priceOn_2 rfl rfl rfl ?_
  refine X_imul (pc' := 4) dX5_priceOn_3 rfl ?_
  refine X_eqi (nI (17 * lev)) (pk_mul _ _) ?_
  refine X_istore_n (i := 3) (pc' := 5) (lv' := [(3, _), (0, _), (1, _), (2, _)]) dX5_priceOn_4 rfl rfl (Nat.le_of_ble_eq_true rfl) rfl ?_
  refine X_aload_n (i := 0) (pc' := 6) dX5_priceOn_5 rfl rfl rfl ?_
  refine X_iload_n (i := 2) (pc' := 7) dX5_priceOn_6 rfl rfl rfl ?_
  refine X_aload_n (i := 0) (pc' := 8) dX5_priceOn_7 rfl rfl rfl ?_
  refine X_get (pc' := 11) (v := .ref 4) dX5_priceOn_8 rfl (gf_X5_16 _ rfl) o_M_1 rfl rfl ?_
  refine X_iload_n (i := 3) (pc' := 12) dX5_priceOn_11 rfl rfl rfl ?_
  refine X_iload_n (i := 2) (pc' := 13) dX5_priceOn_12 rfl rfl rfl ?_
  refine X_iadd (pc' := 14) dX5_priceOn_13 rfl ?_
  refine X_iald (pc' := 15) (j := 17 * lev + k) dX5_priceOn_14 rfl (Or.inl r_M_4) (nI_add _ _) (by omega) ?_
  refine X_eqi (nI (sWt s k)) (h0 k hk) ?_
  refine X_aload_n (i := 0) (pc' := 16) dX5_priceOn_15 rfl rfl rfl ?_
  refine X_get (pc' := 19) (v := .ref 4) dX5_priceOn_16 rfl (gf_X5_16 _ rfl) o_M_1 rfl rfl ?_
  refine X_iload_n (i := 3) (pc' := 20) dX5_priceOn_19 rfl rfl rfl ?_
  refine X_bipush (pc' := 22) (v := nI 12) dX5_priceOn_20 rfl (by decide) ?_
  refine X_iadd (pc' := 23) dX5_priceOn_22 rfl ?_
  refine X_iald (pc' := 24) (j := 17 * lev + 12) dX5_priceOn_23 rfl (Or.inl r_M_4) (nI_add _ _) (by omega) ?_
  refine X_eqi (nI (sTn s)) (h2) ?_
  refine X_iload_n (i := 2) (pc' := 25) dX5_priceOn_24 rfl rfl rfl ?_
  refine X_SIp (As := [_, _]) (rest := [_, _, _]) (pc' := 28) dX5_priceOn_25 rfl k_X5_has l_X5_65 s_X5_has ⟨by decide, by decide⟩ rfl rfl (Nat.le_of_ble_eq_true rfl) (d_has cx τ (sTn s) k (by omega) (by omega)) ?_
  refine X_aload_n (i := 0) (pc' := 29) dX5_priceOn_28 rfl rfl rfl ?_
  refine X_get (pc' := 32) (v := .ref 3) dX5_priceOn_29 rfl (gf_X5_13 _ rfl) o_M_1 rfl rfl ?_
  refine X_iload_n (i := 2) (pc' := 33) dX5_priceOn_32 rfl rfl rfl ?_
  refine X_iald (pc' := 34) (j := k) dX5_priceOn_33 rfl (Or.inl r_M_3) (rfl) (by omega) ?_
  refine X_eqi (nI (px P k)) (h.2.2.2.2 k hk) ?_
  refine X_aload_n (i := 0) (pc' := 35) dX5_priceOn_34 rfl rfl rfl ?_
  refine X_get (pc' := 38) (v := .ref 4) dX5_priceOn_35 rfl (gf_X5_16 _ rfl) o_M_1 rfl rfl ?_
  refine X_iload_n (i := 3) (pc' := 39) dX5_priceOn_38 rfl rfl rfl ?_
  refine X_bipush (pc' := 41) (v := nI 13) dX5_priceOn_39 rfl (by decide) ?_
  refine X_iadd (pc' := 42) dX5_priceOn_41 rfl ?_
  refine X_iald (pc' := 43) (j := 17 * lev + 13) dX5_priceOn_42 rfl (Or.inl r_M_4) (nI_add _ _) (by omega) ?_
  refine X_eqi (nI (sSt s)) (h3) ?_
  refine X_iand (pc' := 44) dX5_priceOn_43 rfl ?_
  refine X_eqi (nI (px P k &&& sSt s)) (nI_and (by omega) (by omega)) ?_
  refine X_SIp (As := [_]) (rest := [_, _, _, _]) (pc' := 47) dX5_priceOn_44 rfl k_X5_ones l_X5_105 s_X5_ones ⟨by decide, by decide⟩ rfl rfl (Nat.le_of_ble_eq_true rfl) (d_ones cx τ (px P k &&& sSt s) (and_lt64 hx)) ?_
  refine X_aload_n (i := 0) (pc' := 48) dX5_priceOn_47 rfl rfl rfl ?_
  refine X_get (pc' := 51) (v := .ref 4) dX5_priceOn_48 rfl (gf_X5_16 _ rfl) o_M_1 rfl rfl ?_
  refine X_iload_n (i := 3) (pc' := 52) dX5_priceOn_51 rfl rfl rfl ?_
  refine X_bipush (pc' := 54) (v := nI 14) dX5_priceOn_52 rfl (by decide) ?_
  refine X_iadd (pc' := 55) dX5_priceOn_54 rfl ?_
  refine X_iald (pc' := 56) (j := 17 * lev + 14) dX5_priceOn_55 rfl (Or.inl r_M_4) (nI_add _ _) (by omega) ?_
  refine X_eqi (nI (sDy s)) (h4) ?_
  refine X_OIp (As := [_, _, _, _, _]) (rest := []) (pc' := 59) dX5_priceOn_56 rfl k_X5_priceBy l_X5_108 v_X5_priceBy o_M_1 rfl ⟨by decide, by decide⟩ rfl rfl (Nat.le_of_ble_eq_true rfl) (d_priceBy cx τ hP h hk (o5 k hk) (by omega) (by omega)) ?_
  refine X_ri dX5_priceOn_59 rfl ⟨rfl, rfl⟩ ?_
  exact ⟨rfl, rfl⟩
theorem d_canSend (τ : xT) {P : PT} (hP : Pok P) (h : MT τ P) {m lev : Nat} {s : SN} (hl : lev < 2) (hs : MS τ 4 (17 * lev) (pn P) s) (ho : Sok P m s) (l : Int32) : CI cx m_X5_canSend [.ref 1, .int (nI lev), .int l] PM τ (fun x τ' => τ' = τ ∧ x = zI (cani P s l)) := by
  have hn6 := hP.1
  have h26 := two6 hP
  have hst := ho.2.1
  have ht3 := ho.2.2.1
  have hr3 := hP.2.2.1.2
  refine Ct_of (by decide) (Nat.le_of_ble_eq_true rfl) (lv := [(0, _), (1, _), (2, _)]) rfl ?_
  refine X_aload_n (i := 0) (pc' := 1) dX5_canSend_0 rfl rfl rfl ?_
  refine X_iload_n (i := 2) (pc' := 2) dX5_canSend_1 rfl rfl rfl ?_
  refine X_OIp (As := [_]) (rest := []) (pc' := 5) dX5_canSend_2 rfl k_X5_isLetter l_X5_112 v_X5_isLetter o_M_1 rfl ⟨by decide, by decide⟩ rfl rfl (Nat.le_of_ble_eq_true rfl) (d_isLetter cx τ hP h l) ?_
  refine X_if_eq (pc' := 8) (tgt := 40) dX5_canSend_5 rfl (by decide) (fun h_5 => ?_) (fun h_5 => ?_)
  · refine X_iconst (pc' := 41) (v := nI 0) dX5_canSend_40 rfl (by decide) ?_
    refine X_rz dX5_canSend_41 rfl (rfl) ⟨rfl, rfl⟩ ?_
    refine ⟨rfl, ?_⟩
    first
      | exact (zI_f (fun q => absurd q.1 (zI_0.mp h_5))).symm
      | exact (zI_f (fun q => (by have := q.2.2.1; rw [hj2] at this; exact this (zI_1 h_14)))).symm
      | exact (zI_f (fun q => (by have := q.2.2.2; rw [geI (by omega), nI_toInt (by omega)] at h_33; omega))).symm
      | exact (zI_t ⟨hkn, by rw [hj2]; exact ⟨hj, zI_0.mp h_14, by rw [geI (by omega), nI_toInt (by omega)] at h_33; omega⟩⟩).symm
  · have hkn := zI_1 h_5
    obtain ⟨j, hj, rfl⟩ := kn_of hkn
    have hj2 := (kn_in hP hj).2
    refine X_aload_n (i := 0) (pc' := 9) dX5_canSend_8 rfl rfl rfl ?_
    refine X_iload_n (i := 1) (pc' := 10) dX5_canSend_9 rfl rfl rfl ?_
    refine X_iload_n (i := 2) (pc' := 11) dX5_canSend_10 rfl rfl rfl ?_
    refine X_OIp (As := [_, _]) (rest := []) (pc' := 14) dX5_canSend_11 rfl k_X5_isSent l_X5_116 v_X5_isSent o_M_1 rfl ⟨by decide, by decide⟩ rfl rfl (Nat.le_of_ble_eq_true rfl) (d_isSent cx τ hl hs (by omega) (show j < 31 by omega)) ?_
    refine X_if_ne (pc' := 17) (tgt := 40) dX5_canSend_14 rfl (by decide) (fun h_14 => ?_) (fun h_14 => ?_)
    · refine X_iconst (pc' := 41) (v := nI 0) dX5_canSend_40 rfl (by decide) ?_
      refine X_rz dX5_canSend_41 rfl (rfl) ⟨rfl, rfl⟩ ?_
      refine ⟨rfl, ?_⟩
      first
        | exact (zI_f (fun q => absurd q.1 (zI_0.mp h_5))).symm
        | exact (zI_f (fun q => (by have := q.2.2.1; rw [hj2] at this; exact this (zI_1 h_14)))).symm
        | exact (zI_f (fun q => (by have := q.2.2.2; rw [geI (by omega), nI_toInt (by omega)] at h_33; omega))).symm
        | exact (zI_t ⟨hkn, by rw [hj2]; exact ⟨hj, zI_0.mp h_14, by rw [geI (by omega), nI_toInt (by omega)] at h_33; omega⟩⟩).symm
    · refine X_aload_n (i := 0) (pc' := 18) dX5_canSend_17 rfl rfl rfl ?_
      refine X_get (pc' := 21) (v := .ref 4) dX5_canSend_18 rfl (gf_X5_16 _ rfl) o_M_1 rfl rfl ?_
      refine X_bipush (pc' := 23) (v := nI 17) dX5_canSend_21 rfl (by decide) ?_
      refine X_iload_n (i := 1) (pc' := 24) dX5_canSend_23 rfl rfl rfl ?_
      refine X_imul (pc' := 25) dX5_canSend_24 rfl ?_
      refine X_eqi (nI (17 * lev)) (pk_mul _ _) ?_
      refine X_bipush (pc' := 27) (v := nI 15) dX5_canSend_25 rfl (by decide) ?_
      refine X_iadd (pc' := 28) dX5_canSend_27 rfl ?_
      refine X_iald (pc' := 29) (j := 17 * lev + 15) dX5_canSend_28 rfl (Or.inl r_M_4) (nI_add _ _) (by omega) ?_
      refine X_eqi (nI (sTd s)) (hs.2.2.2.2.2.1) ?_
      refine X_aload_n (i := 0) (pc' := 30) dX5_canSend_29 rfl rfl rfl ?_
      refine X_get (pc' := 33) (v := .int _) dX5_canSend_30 rfl (gf_X5_44 _ rfl) o_M_1 rfl rfl ?_
      refine X_eqi (nI (pr P)) (h.2.2.1) ?_
      refine X_icmp_ge (pc' := 36) (tgt := 40) dX5_canSend_33 rfl (by decide) (fun h_33 => ?_) (fun h_33 => ?_)
      · refine X_iconst (pc' := 41) (v := nI 0) dX5_canSend_40 rfl (by decide) ?_
        refine X_rz dX5_canSend_41 rfl (rfl) ⟨rfl, rfl⟩ ?_
        refine ⟨rfl, ?_⟩
        first
          | exact (zI_f (fun q => absurd q.1 (zI_0.mp h_5))).symm
          | exact (zI_f (fun q => (by have := q.2.2.1; rw [hj2] at this; exact this (zI_1 h_14)))).symm
          | exact (zI_f (fun q => (by have := q.2.2.2; rw [geI (by omega), nI_toInt (by omega)] at h_33; omega))).symm
          | exact (zI_t ⟨hkn, by rw [hj2]; exact ⟨hj, zI_0.mp h_14, by rw [geI (by omega), nI_toInt (by omega)] at h_33; omega⟩⟩).symm
      · refine X_iconst (pc' := 37) (v := nI 1) dX5_canSend_36 rfl (by decide) ?_
        refine X_goto (pc' := 0) (tgt := 41) dX5_canSend_37 (by decide) ?_
        refine X_rz dX5_canSend_41 rfl (rfl) ⟨rfl, rfl⟩ ?_
        refine ⟨rfl, ?_⟩
        first
          | exact (zI_f (fun q => absurd q.1 (zI_0.mp h_5))).symm
          | exact (zI_f (fun q => (by have := q.2.2.1; rw [hj2] at this; exact this (zI_1 h_14)))).symm
          | exact (zI_f (fun q => (by have := q.2.2.2; rw [geI (by omega), nI_toInt (by omega)] at h_33; omega))).symm
          | exact (zI_t ⟨hkn, by rw [hj2]; exact ⟨hj, zI_0.mp h_14, by rw [geI (by omega), nI_toInt (by omega)] at h_33; omega⟩⟩).symm
end M1
