/-! ===== the standings' methods ===== -/
theorem st_apart : ∀ k ∈ stW, ∀ j ∈ stW, k ≠ j → k + 3 ≤ j ∨ j + 3 ≤ k := by decide +kernel
section SD
variable (cx : xC)
set_option maxHeartbeats 4000000
set_option maxRecDepth 100000
theorem c_take (τ : xT) {k j : Nat} (hk : k ∈ stW) (hj : j ∈ stW) (hne : k ≠ j) : CV cx m_X2_take [.ref k, .ref j] PW τ (fun τ' => xeq [k, k + 1, k + 2] τ τ' ∧ (∀ i, i < 5 → τ'.1 k i = τ.1 j i) ∧ (∀ i, i < 6 → τ'.1 (k + 1) i = τ.1 (j + 1) i) ∧ ∀ i, i < 6 → τ'.1 (k + 2) i = τ.1 (j + 2) i) := by
  have hap := st_apart k hk j hj hne
  have a1 : j ≠ k := by omega
  have a2 : j + 1 ≠ k := by omega
  have a3 : j + 2 ≠ k := by omega
  refine Ct_of (by decide) (Nat.le_of_ble_eq_true rfl) (lv := [(0, _), (1, _)]) rfl ?_
  refine X_aload_n (i := 1) (pc' := 1) dX2_take_0 rfl rfl rfl ?_
  refine X_ifnonnull (pc' := 0) (tgt := 5) dX2_take_1 (by decide) ?_
  refine X_aload_n (i := 0) (pc' := 6) dX2_take_5 rfl rfl rfl ?_
  refine X_aload_n (i := 1) (pc' := 7) dX2_take_6 rfl rfl rfl ?_
  refine X_get (pc' := 10) (v := .int _) dX2_take_7 rfl (gf_X2_18 _ rfl) (st_o hj) rfl rfl ?_
  refine X_putI (pc' := 13) dX2_take_10 rfl (pf_X2_18 _ rfl) (st_o hk) rfl ?_
  refine X_aload_n (i := 0) (pc' := 14) dX2_take_13 rfl rfl rfl ?_
  refine X_aload_n (i := 1) (pc' := 15) dX2_take_14 rfl rfl rfl ?_
  refine X_get (pc' := 18) (v := .int _) dX2_take_15 rfl (gf_X2_22 _ rfl) (st_o hj) rfl rfl ?_
  refine X_putI (pc' := 21) dX2_take_18 rfl (pf_X2_22 _ rfl) (st_o hk) rfl ?_
  refine X_aload_n (i := 0) (pc' := 22) dX2_take_21 rfl rfl rfl ?_
  refine X_aload_n (i := 1) (pc' := 23) dX2_take_22 rfl rfl rfl ?_
  refine X_get (pc' := 26) (v := .int _) dX2_take_23 rfl (gf_X2_25 _ rfl) (st_o hj) rfl rfl ?_
  refine X_putI (pc' := 29) dX2_take_26 rfl (pf_X2_25 _ rfl) (st_o hk) rfl ?_
  refine X_aload_n (i := 0) (pc' := 30) dX2_take_29 rfl rfl rfl ?_
  refine X_aload_n (i := 1) (pc' := 31) dX2_take_30 rfl rfl rfl ?_
  refine X_get (pc' := 34) (v := .int _) dX2_take_31 rfl (gf_X2_28 _ rfl) (st_o hj) rfl rfl ?_
  refine X_putI (pc' := 37) dX2_take_34 rfl (pf_X2_28 _ rfl) (st_o hk) rfl ?_
  refine X_aload_n (i := 0) (pc' := 38) dX2_take_37 rfl rfl rfl ?_
  refine X_aload_n (i := 1) (pc' := 39) dX2_take_38 rfl rfl rfl ?_
  refine X_get (pc' := 42) (v := .int _) dX2_take_39 rfl (gf_X2_31 _ rfl) (st_o hj) rfl rfl ?_
  refine X_putI (pc' := 45) dX2_take_42 rfl (pf_X2_31 _ rfl) (st_o hk) rfl ?_
  generalize hτa : (xsi _ _ _ _) = τa
  have e1 : xeq [k] τ τa := by rw [← hτa]; exact ((((xeq.rf.si (by simp)).si (by simp)).si (by simp)).si (by simp)).si (by simp)
  have e2 : ∀ i, i < 5 → τa.1 k i = τ.1 j i := by
    intro i hi
    rw [← hτa]
    have hi2 : i = 0 ∨ i = 1 ∨ i = 2 ∨ i = 3 ∨ i = 4 := by omega
    rcases hi2 with rfl | rfl | rfl | rfl | rfl <;> simp [xsi, upd, a1]
  refine X_aload_n (i := 1) (pc' := 46) dX2_take_45 rfl rfl rfl ?_
  refine X_get (pc' := 49) (v := .ref (j + 1)) dX2_take_46 rfl (gf_X2_9 _ rfl) (st_o hj) rfl rfl ?_
  refine X_aload_n (i := 0) (pc' := 50) dX2_take_49 rfl rfl rfl ?_
  refine X_get (pc' := 53) (v := .ref (k + 1)) dX2_take_50 rfl (gf_X2_9 _ rfl) (st_o hk) rfl rfl ?_
  refine X_NV (As := [_, _]) (rest := []) (pc' := 56) dX2_take_53 rfl k_X4_copyRow l_X2_43 s_X4_copyRow ⟨by decide, by decide⟩ rfl rfl (Nat.le_of_ble_eq_true rfl) (c_X4_copyRow cx τa (st_w hj) (st_w hk) (by omega)) (fun τ_53 h_53 => ?_)
  refine X_aload_n (i := 1) (pc' := 57) dX2_take_56 rfl rfl rfl ?_
  refine X_get (pc' := 60) (v := .ref (j + 2)) dX2_take_57 rfl (gf_X2_15 _ rfl) (st_o hj) rfl rfl ?_
  refine X_aload_n (i := 0) (pc' := 61) dX2_take_60 rfl rfl rfl ?_
  refine X_get (pc' := 64) (v := .ref (k + 2)) dX2_take_61 rfl (gf_X2_15 _ rfl) (st_o hk) rfl rfl ?_
  refine X_NV (As := [_, _]) (rest := []) (pc' := 67) dX2_take_64 rfl k_X4_copyRow l_X2_43 s_X4_copyRow ⟨by decide, by decide⟩ rfl rfl (Nat.le_of_ble_eq_true rfl) (c_X4_copyRow cx τ_53 (st_c hj) (st_c hk) (by omega)) (fun τ_64 h_64 => ?_)
  refine X_rv dX2_take_67 rfl ⟨rfl, rfl⟩ ?_
  refine ⟨(e1.mono (by simp)).tr ((h_53.1.mono (by simp)).tr (h_64.1.mono (by simp))), fun i hi => ?_, fun i hi => ?_, fun i hi => ?_⟩
  · rw [(h_64.1 k (by simp)).1, (h_53.1 k (by simp)).1]; exact e2 i hi
  · rw [(h_64.1 (k + 1) (by simp)).1, h_53.2 i hi, (e1 (j + 1) (by simp; omega)).1]
  · rw [h_64.2 i hi, (h_53.1 (j + 2) (by simp; omega)).1, (e1 (j + 2) (by simp; omega)).1]
theorem SR_take {τ τ' : xT} {k j n : Nat} {s : SN} (hn : n ≤ 6) (h : SR τ j n s) (h1 : ∀ i, i < 5 → τ'.1 k i = τ.1 j i) (h2 : ∀ i, i < 6 → τ'.1 (k + 1) i = τ.1 (j + 1) i) (h3 : ∀ i, i < 6 → τ'.1 (k + 2) i = τ.1 (j + 2) i) : SR τ' k n s := by
  obtain ⟨q0, q1, q2, q3, q4, q5, q6⟩ := h
  exact ⟨(h1 0 (by decide)).trans q0, (h1 1 (by decide)).trans q1, (h1 2 (by decide)).trans q2, (h1 3 (by decide)).trans q3, (h1 4 (by decide)).trans q4, fun i hi => (h2 i (by omega)).trans (q5 i hi), fun i hi => (h3 i (by omega)).trans (q6 i hi)⟩
theorem ct_take (τ : xT) {k j n : Nat} {s : SN} (hk : k ∈ stW) (hj : j ∈ stW) (hne : k ≠ j) (hn : n ≤ 6) (h : SR τ j n s) : CV cx m_X2_take [.ref k, .ref j] PW τ (fun τ' => xeq [k, k + 1, k + 2] τ τ' ∧ SR τ' k n s) :=
  Ct.weaken (c_take cx τ hk hj hne) (fun r P' τ' q => by
    obtain ⟨q1, q2, q3, q4, q5, q6⟩ := q
    exact ⟨q1, q2, q3, SR_take hn h q4 q5 q6⟩)
theorem c_passDay (τ : xT) {k n m : Nat} {s : SN} {P : PT} (hk : k ∈ stW) (hP : Pok P) (hn : pn P = n) (h : SR τ k n s) (ho : Sok P m s) (hm : m < 10000) : CV cx m_X2_passDay [.ref k, .int (nI n)] PW τ (fun τ' => xeq [k, k + 1, k + 2] τ τ' ∧ SR τ' k n (pass s)) := by
  subst hn
  have hn6 := hP.1
  have h26 := two6 hP
  obtain ⟨q0, q1, q2, q3, q4, q5, q6⟩ := h
  obtain ⟨o0, o1, o2, o3, o4, o5, o6⟩ := ho
  refine Ct_of (by decide) (Nat.le_of_ble_eq_true rfl) (lv := [(0, _), (1, _)]) rfl ?_
  have hl : ∀ (j : Nat) (τ' : xT), j ≤ pn P → (xeq [k + 1, k + 2] τ τ' ∧ (∀ i, i < pn P → τ'.1 (k + 1) i = nI (if i < j then sWt (pass s) i else sWt s i)) ∧ ∀ i, i < pn P → τ'.1 (k + 2) i = nI (if i < j then sCk (pass s) i else sCk s i)) → X cx m_X2_passDay PW (qV PW (fun τ' => xeq [k, k + 1, k + 2] τ τ' ∧ SR τ' k (pn P) (pass s))) 2 [(2, .int (nI j)), (0, .ref k), (1, .int (nI (pn P)))] [] PW τ' := by
    refine xloop _ _ (pn P) (fun τ' h => ?_) (fun j τ' hj h ih => ?_)
    · have e0 := (h.1 k (by simp)).1
      refine X_iload_n (i := 2) (pc' := 3) dX2_passDay_2 rfl rfl rfl ?_
      refine X_iload_n (i := 1) (pc' := 4) dX2_passDay_3 rfl rfl rfl ?_
      refine X_icmp_ge (pc' := 7) (tgt := 77) dX2_passDay_4 rfl (by decide) (fun h_4 => ?_) (fun h_4 => absurd (nI_le (Nat.le_refl _) (by omega)) h_4)
      refine X_aload_n (i := 0) (pc' := 78) dX2_passDay_77 rfl rfl rfl ?_
      refine X_dup (pc' := 79) dX2_passDay_78 rfl rfl ?_
      refine X_get (pc' := 82) (v := .int _) dX2_passDay_79 rfl (gf_X2_18 _ rfl) (st_o hk) rfl rfl ?_
      refine X_iconst (pc' := 83) (v := nI 1) dX2_passDay_82 rfl (by decide) ?_
      refine X_iadd (pc' := 84) dX2_passDay_83 rfl ?_
      refine X_eqi (nI (sDy s + 1)) (by show τ'.1 k 0 + nI 1 = _; rw [e0, q0, nI_add]) ?_
      refine X_putI (pc' := 87) dX2_passDay_84 rfl (pf_X2_18 _ rfl) (st_o hk) rfl ?_
      refine X_aload_n (i := 0) (pc' := 88) dX2_passDay_87 rfl rfl rfl ?_
      refine X_iconst (pc' := 89) (v := nI 0) dX2_passDay_88 rfl (by decide) ?_
      refine X_putI (pc' := 92) dX2_passDay_89 rfl (pf_X2_25 _ rfl) (st_o hk) rfl ?_
      refine X_rv dX2_passDay_92 rfl ⟨rfl, rfl⟩ ?_
      refine ⟨((h.1.mono (by simp)).si (by simp)).si (by simp), ?_⟩
      refine ⟨by simp [xsi, upd, pass], by simp [xsi, upd, e0, q1, pass], by simp [xsi, upd, pass], by simp [xsi, upd, e0, q3, pass], by simp [xsi, upd, e0, q4, pass], fun i hi => ?_, fun i hi => ?_⟩
      · rw [xsi_ne _ _ _ (by omega), xsi_ne _ _ _ (by omega), h.2.1 i hi, if_pos hi]
      · rw [xsi_ne _ _ _ (by omega), xsi_ne _ _ _ (by omega), h.2.2 i hi, if_pos hi]
    · have e0 := (h.1 k (by simp)).1
      have v1 := h.2.1 j hj
      have v2 := h.2.2 j hj
      rw [if_neg (Nat.lt_irrefl j)] at v1 v2
      have b1 := o5 j hj
      have b2 := o6 j hj
      have fin : ∀ τ2 : xT, xeq [k + 1, k + 2] τ' τ2 → (∀ i, i < pn P → τ2.1 (k + 1) i = if i = j then nI (sWt (pass s) i) else τ'.1 (k + 1) i) → (∀ i, i < pn P → τ2.1 (k + 2) i = if i = j then nI (sCk (pass s) i) else τ'.1 (k + 2) i) → X cx m_X2_passDay PW (qV PW (fun τ' => xeq [k, k + 1, k + 2] τ τ' ∧ SR τ' k (pn P) (pass s))) 2 [(2, .int (nI (j + 1))), (0, .ref k), (1, .int (nI (pn P)))] [] PW τ2 := by
        intro τ2 g1 g2 g3
        refine ih τ2 ⟨h.1.tr g1, fun i hi => ?_, fun i hi => ?_⟩
        · rw [g2 i hi]
          by_cases hij : i = j
          · subst hij; rw [if_pos rfl, if_pos (by omega)]
          · rw [if_neg hij, h.2.1 i hi]; congr 1
            by_cases hlt : i < j
            · rw [if_pos hlt, if_pos (by omega)]
            · rw [if_neg hlt, if_neg (by omega)]
        · rw [g3 i hi]
          by_cases hij : i = j
          · subst hij; rw [if_pos rfl, if_pos (by omega)]
          · rw [if_neg hij, h.2.2 i hi]; congr 1
            by_cases hlt : i < j
            · rw [if_pos hlt, if_pos (by omega)]
            · rw [if_neg hlt, if_neg (by omega)]
      refine X_iload_n (i := 2) (pc' := 3) dX2_passDay_2 rfl rfl rfl ?_
      refine X_iload_n (i := 1) (pc' := 4) dX2_passDay_3 rfl rfl rfl ?_
      refine X_icmp_ge (pc' := 7) (tgt := 77) dX2_passDay_4 rfl (by decide) (fun h_4 => absurd h_4 (nI_ge hj (by omega))) (fun h_4 => ?_)
      refine X_aload_n (i := 0) (pc' := 8) dX2_passDay_7 rfl rfl rfl ?_
      refine X_get (pc' := 11) (v := .int _) dX2_passDay_8 rfl (gf_X2_22 _ rfl) (st_o hk) rfl rfl ?_
      refine X_eqi (nI (sSt s)) (by show τ'.1 k 1 = _; rw [e0, q1]) ?_
      refine X_iload_n (i := 2) (pc' := 12) dX2_passDay_11 rfl rfl rfl ?_
      refine X_NIp (As := [_, _]) (rest := []) (pc' := 15) dX2_passDay_12 rfl k_X4_has l_X2_47 s_X4_has ⟨by decide, by decide⟩ rfl rfl (Nat.le_of_ble_eq_true rfl) (c_X4_has cx τ' (sSt s) j (by omega) (by omega)) ?_
      refine X_if_eq (pc' := 18) (tgt := 21) dX2_passDay_15 rfl (by decide) (fun h_15 => ?_) (fun h_15 => ?_)
      · refine X_aload_n (i := 0) (pc' := 22) dX2_passDay_21 rfl rfl rfl ?_
        refine X_get (pc' := 25) (v := .ref (k + 2)) dX2_passDay_22 rfl (gf_X2_15 _ rfl) (st_o hk) rfl rfl ?_
        refine X_iload_n (i := 2) (pc' := 26) dX2_passDay_25 rfl rfl rfl ?_
        refine X_NIp (As := [_, _]) (rest := []) (pc' := 29) dX2_passDay_26 rfl k_X4_at l_X2_51 s_X4_at ⟨by decide, by decide⟩ rfl rfl (Nat.le_of_ble_eq_true rfl) (c_at_in cx τ' (Or.inl (st_c hk)) (show j < 6 by omega)) ?_
        refine X_eqi (nI (sCk s j)) (v2) ?_
        refine X_istore_n (i := 3) (pc' := 30) (lv' := [(3, _), (2, _), (0, _), (1, _)]) dX2_passDay_29 rfl rfl (Nat.le_of_ble_eq_true rfl) rfl ?_
        refine X_iload_n (i := 3) (pc' := 31) dX2_passDay_30 rfl rfl rfl ?_
        refine X_if_le (pc' := 34) (tgt := 48) dX2_passDay_31 rfl (by decide) (fun h_31 => ?_) (fun h_31 => ?_)
        · refine X_aload_n (i := 0) (pc' := 49) dX2_passDay_48 rfl rfl rfl ?_
          refine X_get (pc' := 52) (v := .ref (k + 1)) dX2_passDay_49 rfl (gf_X2_9 _ rfl) (st_o hk) rfl rfl ?_
          refine X_iload_n (i := 2) (pc' := 53) dX2_passDay_52 rfl rfl rfl ?_
          refine X_bipush (pc' := 55) (v := nI 99) dX2_passDay_53 rfl (by decide) ?_
          refine X_aload_n (i := 0) (pc' := 56) dX2_passDay_55 rfl rfl rfl ?_
          refine X_get (pc' := 59) (v := .ref (k + 1)) dX2_passDay_56 rfl (gf_X2_9 _ rfl) (st_o hk) rfl rfl ?_
          refine X_iload_n (i := 2) (pc' := 60) dX2_passDay_59 rfl rfl rfl ?_
          refine X_NIp (As := [_, _]) (rest := [_, _, _]) (pc' := 63) dX2_passDay_60 rfl k_X4_at l_X2_51 s_X4_at ⟨by decide, by decide⟩ rfl rfl (Nat.le_of_ble_eq_true rfl) (c_at_in cx τ' (Or.inl (st_w hk)) (show j < 6 by omega)) ?_
          refine X_eqi (nI (sWt s j)) (v1) ?_
          refine X_iconst (pc' := 64) (v := nI 1) dX2_passDay_63 rfl (by decide) ?_
          refine X_iadd (pc' := 65) dX2_passDay_64 rfl ?_
          refine X_eqi (nI (sWt s j + 1)) (nI_add _ _) ?_
          refine X_mmin (pc' := 68) dX2_passDay_65 rfl ml_X2_59 ⟨by decide, by decide⟩ ⟨Nat.le_of_eq (Nat.sub_self _), Nat.le_of_eq (Nat.sub_self _)⟩ (Nat.le_of_ble_eq_true rfl) ?_
          refine X_eqi (nI (min 99 (sWt s j + 1))) (xmin_nI (by omega) (by omega)) ?_
          refine X_NV (As := [_, _, _]) (rest := []) (pc' := 71) dX2_passDay_68 rfl k_X4_put l_X2_55 s_X4_put ⟨by decide, by decide⟩ rfl rfl (Nat.le_of_ble_eq_true rfl) (c_X4_put cx τ' (st_w hk) (show j < 6 by omega) _) (fun τ_68 h_68 => ?_)
          refine X_iinc (pc' := 74) (v := nI (j + 1)) (lv' := [(2, _), (3, _), (0, _), (1, _)]) dX2_passDay_71 rfl rfl ((nI_succ j).symm) (Nat.le_of_ble_eq_true rfl) rfl ?_
          refine X_goto (pc' := 0) (tgt := 2) dX2_passDay_74 (by decide) ?_
          first
            | exact X_lv _ (by simp) (fin τ' xeq.rf (fun i hi => by
                have hb : bt (sSt s) j := Classical.not_not.mp (fun q => h_15 (zI_0.mpr q))
                by_cases hij : i = j
                · subst hij; rw [if_pos rfl, v1]; show _ = nI (if bt (sSt s) i then sWt s i else _); rw [if_pos hb]
                · rw [if_neg hij]) (fun i hi => by
                have hb : bt (sSt s) j := Classical.not_not.mp (fun q => h_15 (zI_0.mpr q))
                by_cases hij : i = j
                · subst hij; rw [if_pos rfl, v2]; show _ = nI (if bt (sSt s) i then sCk s i else _); rw [if_pos hb]
                · rw [if_neg hij]))
            | (subst h_42
               exact X_lv _ (by simp) (fin _ (xeq.rf.si (by simp)) (fun i hi => by
                have hb : ¬ bt (sSt s) j := zI_0.mp h_15
                have hc : 0 < sCk s j := xpos_nI (by omega) h_31
                rw [xsi_ne _ _ _ (by omega)]
                by_cases hij : i = j
                · subst hij; rw [if_pos rfl, v1]; show _ = nI (if bt (sSt s) i then sWt s i else if 0 < sCk s i then sWt s i else _); rw [if_neg hb, if_pos hc]
                · rw [if_neg hij]) (fun i hi => by
                have hb : ¬ bt (sSt s) j := zI_0.mp h_15
                rw [xsi_self]
                by_cases hij : i = j
                · subst hij; rw [if_pos rfl, pk_us]; show _ = nI (if bt (sSt s) i then sCk s i else sCk s i - 1); rw [if_neg hb]
                · rw [if_neg hij, pk_un hij])))
            | (subst h_68
               exact X_lv _ (by simp) (fin _ (xeq.rf.si (by simp)) (fun i hi => by
                have hb : ¬ bt (sSt s) j := zI_0.mp h_15
                have hc : ¬ 0 < sCk s j := fun q => xpos_nI' q (by omega) h_31
                rw [xsi_self]
                by_cases hij : i = j
                · subst hij; rw [if_pos rfl, pk_us]; show _ = nI (if bt (sSt s) i then sWt s i else if 0 < sCk s i then sWt s i else min 99 (sWt s i + 1)); rw [if_neg hb, if_neg hc]
                · rw [if_neg hij, pk_un hij]) (fun i hi => by
                have hb : ¬ bt (sSt s) j := zI_0.mp h_15
                have hc : ¬ 0 < sCk s j := fun q => xpos_nI' q (by omega) h_31
                rw [xsi_ne _ _ _ (by omega)]
                by_cases hij : i = j
                · subst hij; rw [if_pos rfl, v2]; show _ = nI (if bt (sSt s) i then sCk s i else sCk s i - 1); rw [if_neg hb]; congr 1; omega
                · rw [if_neg hij])))
        · refine X_aload_n (i := 0) (pc' := 35) dX2_passDay_34 rfl rfl rfl ?_
          refine X_get (pc' := 38) (v := .ref (k + 2)) dX2_passDay_35 rfl (gf_X2_15 _ rfl) (st_o hk) rfl rfl ?_
          refine X_iload_n (i := 2) (pc' := 39) dX2_passDay_38 rfl rfl rfl ?_
          refine X_iload_n (i := 3) (pc' := 40) dX2_passDay_39 rfl rfl rfl ?_
          refine X_iconst (pc' := 41) (v := nI 1) dX2_passDay_40 rfl (by decide) ?_
          refine X_isub (pc' := 42) dX2_passDay_41 rfl ?_
          refine X_eqi (nI (sCk s j - 1)) (pk_sub (xpos_nI (by omega) h_31)) ?_
          refine X_NV (As := [_, _, _]) (rest := []) (pc' := 45) dX2_passDay_42 rfl k_X4_put l_X2_55 s_X4_put ⟨by decide, by decide⟩ rfl rfl (Nat.le_of_ble_eq_true rfl) (c_X4_put cx τ' (st_c hk) (show j < 6 by omega) _) (fun τ_42 h_42 => ?_)
          refine X_goto (pc' := 0) (tgt := 71) dX2_passDay_45 (by decide) ?_
          refine X_iinc (pc' := 74) (v := nI (j + 1)) (lv' := [(2, _), (3, _), (0, _), (1, _)]) dX2_passDay_71 rfl rfl ((nI_succ j).symm) (Nat.le_of_ble_eq_true rfl) rfl ?_
          refine X_goto (pc' := 0) (tgt := 2) dX2_passDay_74 (by decide) ?_
          first
            | exact X_lv _ (by simp) (fin τ' xeq.rf (fun i hi => by
                have hb : bt (sSt s) j := Classical.not_not.mp (fun q => h_15 (zI_0.mpr q))
                by_cases hij : i = j
                · subst hij; rw [if_pos rfl, v1]; show _ = nI (if bt (sSt s) i then sWt s i else _); rw [if_pos hb]
                · rw [if_neg hij]) (fun i hi => by
                have hb : bt (sSt s) j := Classical.not_not.mp (fun q => h_15 (zI_0.mpr q))
                by_cases hij : i = j
                · subst hij; rw [if_pos rfl, v2]; show _ = nI (if bt (sSt s) i then sCk s i else _); rw [if_pos hb]
                · rw [if_neg hij]))
            | (subst h_42
               exact X_lv _ (by simp) (fin _ (xeq.rf.si (by simp)) (fun i hi => by
                have hb : ¬ bt (sSt s) j := zI_0.mp h_15
                have hc : 0 < sCk s j := xpos_nI (by omega) h_31
                rw [xsi_ne _ _ _ (by omega)]
                by_cases hij : i = j
                · subst hij; rw [if_pos rfl, v1]; show _ = nI (if bt (sSt s) i then sWt s i else if 0 < sCk s i then sWt s i else _); rw [if_neg hb, if_pos hc]
                · rw [if_neg hij]) (fun i hi => by
                have hb : ¬ bt (sSt s) j := zI_0.mp h_15
                rw [xsi_self]
                by_cases hij : i = j
                · subst hij; rw [if_pos rfl, pk_us]; show _ = nI (if bt (sSt s) i then sCk s i else sCk s i - 1); rw [if_neg hb]
                · rw [if_neg hij, pk_un hij])))
            | (subst h_68
               exact X_lv _ (by simp) (fin _ (xeq.rf.si (by simp)) (fun i hi => by
                have hb : ¬ bt (sSt s) j := zI_0.mp h_15
                have hc : ¬ 0 < sCk s j := fun q => xpos_nI' q (by omega) h_31
                rw [xsi_self]
                by_cases hij : i = j
                · subst hij; rw [if_pos rfl, pk_us]; show _ = nI (if bt (sSt s) i then sWt s i else if 0 < sCk s i then sWt s i else min 99 (sWt s i + 1)); rw [if_neg hb, if_neg hc]
                · rw [if_neg hij, pk_un hij]) (fun i hi => by
                have hb : ¬ bt (sSt s) j := zI_0.mp h_15
                have hc : ¬ 0 < sCk s j := fun q => xpos_nI' q (by omega) h_31
                rw [xsi_ne _ _ _ (by omega)]
                by_cases hij : i = j
                · subst hij; rw [if_pos rfl, v2]; show _ = nI (if bt (sSt s) i then sCk s i else sCk s i - 1); rw [if_neg hb]; congr 1; omega
                · rw [if_neg hij])))
      · refine X_goto (pc' := 0) (tgt := 71) dX2_passDay_18 (by decide) ?_
        refine X_iinc (pc' := 74) (v := nI (j + 1)) (lv' := [(2, _), (0, _), (1, _)]) dX2_passDay_71 rfl rfl ((nI_succ j).symm) (Nat.le_of_ble_eq_true rfl) rfl ?_
        refine X_goto (pc' := 0) (tgt := 2) dX2_passDay_74 (by decide) ?_
        first
          | exact X_lv _ (by simp) (fin τ' xeq.rf (fun i hi => by
              have hb : bt (sSt s) j := Classical.not_not.mp (fun q => h_15 (zI_0.mpr q))
              by_cases hij : i = j
              · subst hij; rw [if_pos rfl, v1]; show _ = nI (if bt (sSt s) i then sWt s i else _); rw [if_pos hb]
              · rw [if_neg hij]) (fun i hi => by
              have hb : bt (sSt s) j := Classical.not_not.mp (fun q => h_15 (zI_0.mpr q))
              by_cases hij : i = j
              · subst hij; rw [if_pos rfl, v2]; show _ = nI (if bt (sSt s) i then sCk s i else _); rw [if_pos hb]
              · rw [if_neg hij]))
          | (subst h_42
             exact X_lv _ (by simp) (fin _ (xeq.rf.si (by simp)) (fun i hi => by
              have hb : ¬ bt (sSt s) j := zI_0.mp h_15
              have hc : 0 < sCk s j := xpos_nI (by omega) h_31
              rw [xsi_ne _ _ _ (by omega)]
              by_cases hij : i = j
              · subst hij; rw [if_pos rfl, v1]; show _ = nI (if bt (sSt s) i then sWt s i else if 0 < sCk s i then sWt s i else _); rw [if_neg hb, if_pos hc]
              · rw [if_neg hij]) (fun i hi => by
              have hb : ¬ bt (sSt s) j := zI_0.mp h_15
              rw [xsi_self]
              by_cases hij : i = j
              · subst hij; rw [if_pos rfl, pk_us]; show _ = nI (if bt (sSt s) i then sCk s i else sCk s i - 1); rw [if_neg hb]
              · rw [if_neg hij, pk_un hij])))
          | (subst h_68
             exact X_lv _ (by simp) (fin _ (xeq.rf.si (by simp)) (fun i hi => by
              have hb : ¬ bt (sSt s) j := zI_0.mp h_15
              have hc : ¬ 0 < sCk s j := fun q => xpos_nI' q (by omega) h_31
              rw [xsi_self]
              by_cases hij : i = j
              · subst hij; rw [if_pos rfl, pk_us]; show _ = nI (if bt (sSt s) i then sWt s i else if 0 < sCk s i then sWt s i else min 99 (sWt s i + 1)); rw [if_neg hb, if_neg hc]
              · rw [if_neg hij, pk_un hij]) (fun i hi => by
              have hb : ¬ bt (sSt s) j := zI_0.mp h_15
              have hc : ¬ 0 < sCk s j := fun q => xpos_nI' q (by omega) h_31
              rw [xsi_ne _ _ _ (by omega)]
              by_cases hij : i = j
              · subst hij; rw [if_pos rfl, v2]; show _ = nI (if bt (sSt s) i then sCk s i else sCk s i - 1); rw [if_neg hb]; congr 1; omega
              · rw [if_neg hij])))
  refine X_iconst (pc' := 1) (v := nI 0) dX2_passDay_0 rfl (by decide) ?_
  refine X_istore_n (i := 2) (pc' := 2) (lv' := [(2, _), (0, _), (1, _)]) dX2_passDay_1 rfl rfl (Nat.le_of_ble_eq_true rfl) rfl ?_
  exact hl 0 τ (by omega) ⟨xeq.rf, fun i hi => by rw [if_neg (by omega)]; exact q5 i hi, fun i hi => by rw [if_neg (by omega)]; exact q6 i hi⟩
end SD
