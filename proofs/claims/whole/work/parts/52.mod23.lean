/-! ===== the model: post ===== -/
section MZ
variable (cx : xC)
set_option maxHeartbeats 4000000
set_option maxRecDepth 100000
theorem l2_post2 {τ2 : xT} {P : PT} {w : Nat → Nat} (hn : pn P ≤ 6) (h0 : τ2.1 1 0 = nI (pn P)) (h5 : ∀ k, k < pn P → τ2.1 5 k = nI (w k)) (h6 : ∀ k, k < pn P → τ2.1 6 k = nI (pk P k)) (h7 : ∀ k, k < 6 → τ2.1 7 k = nI (px P k)) {R : Int32 → xT → Prop} (hx : ∀ τ' : xT, xeq [2, 3, 4] τ2 τ' → (∀ i, i < 17 → 6 ≤ i → τ'.1 4 i = nI 0) → (∀ i, i < 6 → τ'.1 4 i = (if i < pn P then nI (w i) else nI 0) ∧ (i < pn P → τ'.1 2 i = nI (pk P i)) ∧ τ'.1 3 i = nI (px P i)) → X cx m_X5_post PM (qI PM R) 119 [(0, .ref 1)] [] PM τ') : ∀ (j : Nat) (τ' : xT), j ≤ 6 → (xeq [2, 3, 4] τ2 τ' ∧ (∀ i, i < 17 → 6 ≤ i → τ'.1 4 i = nI 0) ∧ ∀ i, i < j → τ'.1 4 i = (if i < pn P then nI (w i) else nI 0) ∧ (i < pn P → τ'.1 2 i = nI (pk P i)) ∧ τ'.1 3 i = nI (px P i)) → X cx m_X5_post PM (qI PM R) 59 [(1, .int (nI j)), (0, .ref 1)] [] PM τ' := by
  refine xloop _ _ 6 (fun τ' g => ?_) (fun j τ' hj g ih => ?_)
  · refine X_iload_n (i := 1) (pc' := 60) dX5_post_59 rfl rfl rfl ?_
    refine X_bipush (pc' := 62) (v := nI 6) dX5_post_60 rfl (by decide) ?_
    refine X_icmp_ge (pc' := 65) (tgt := 119) dX5_post_62 rfl (by decide) (fun h_62 => ?_) (fun h_62 => absurd (nI_le (Nat.le_refl _) (by omega)) h_62)
    exact X_lv _ (by simp) (hx τ' g.1 g.2.1 g.2.2)
  · obtain ⟨g1, g2, g3⟩ := g
    have r0 : τ'.1 1 0 = nI (pn P) := by rw [(g1 1 (by decide)).1]; exact h0
    have hcmp : nI (pn P) ≤ nI j ↔ pn P ≤ j := nI_leI (by omega) (by omega)
    have hfin : ∀ v : Int32, v = (if j < pn P then nI (w j) else nI 0) → X cx m_X5_post PM (qI PM R) 88 [(1, .int (nI j)), (0, .ref 1)] [.int v, .int (nI j), .ref 4] PM τ' := by
      intro v hv
      refine X_iast (pc' := 89) (j := j) dX5_post_88 rfl r_M_4 (rfl) (by omega) ?_
      refine X_aload_n (i := 0) (pc' := 90) dX5_post_89 rfl rfl rfl ?_
      refine X_get (pc' := 93) (v := .ref 2) dX5_post_90 rfl (gf_X5_7 _ rfl) o_M_1 rfl rfl ?_
      refine X_iload_n (i := 1) (pc' := 94) dX5_post_93 rfl rfl rfl ?_
      refine X_aload_n (i := 0) (pc' := 95) dX5_post_94 rfl rfl rfl ?_
      refine X_get (pc' := 98) (v := .ref 6) dX5_post_95 rfl (gf_X5_22 _ rfl) o_M_1 rfl rfl ?_
      refine X_iload_n (i := 1) (pc' := 99) dX5_post_98 rfl rfl rfl ?_
      refine X_iald (pc' := 100) (j := j) dX5_post_99 rfl (Or.inl r_M_6) (rfl) (by omega) ?_
      refine X_iast (pc' := 101) (j := j) dX5_post_100 rfl r_M_2 (rfl) (by omega) ?_
      refine X_aload_n (i := 0) (pc' := 102) dX5_post_101 rfl rfl rfl ?_
      refine X_get (pc' := 105) (v := .ref 3) dX5_post_102 rfl (gf_X5_13 _ rfl) o_M_1 rfl rfl ?_
      refine X_iload_n (i := 1) (pc' := 106) dX5_post_105 rfl rfl rfl ?_
      refine X_aload_n (i := 0) (pc' := 107) dX5_post_106 rfl rfl rfl ?_
      refine X_get (pc' := 110) (v := .ref 7) dX5_post_107 rfl (gf_X5_25 _ rfl) o_M_1 rfl rfl ?_
      refine X_iload_n (i := 1) (pc' := 111) dX5_post_110 rfl rfl rfl ?_
      refine X_iald (pc' := 112) (j := j) dX5_post_111 rfl (Or.inl r_M_7) (rfl) (by omega) ?_
      refine X_iast (pc' := 113) (j := j) dX5_post_112 rfl r_M_3 (rfl) (by omega) ?_
      refine X_iinc (pc' := 116) (v := nI (j + 1)) (lv' := [(1, _), (0, _)]) dX5_post_113 rfl rfl ((nI_succ j).symm) (Nat.le_of_ble_eq_true rfl) rfl ?_
      refine X_goto (pc' := 0) (tgt := 59) dX5_post_116 (by decide) ?_
      refine X_lv _ (by simp) (ih _ ⟨((g1.si (by decide)).si (by decide)).si (by decide), fun i h1 h2 => ?_, fun i hi => ⟨?_, fun hin => ?_, ?_⟩⟩)
      · rw [xsi_ne _ _ _ (by decide), xsi_ne _ _ _ (by decide), xsi_un _ _ (by omega)]; exact g2 i h1 h2
      · rw [xsi_ne _ _ _ (by decide), xsi_ne _ _ _ (by decide)]
        by_cases e : i = j
        · rw [e, xsi_at]; exact hv
        · rw [xsi_un _ _ e]; exact (g3 i (by omega)).1
      · rw [xsi_ne _ _ _ (by decide)]
        by_cases e : i = j
        · rw [e, xsi_at, xsi_ne _ _ _ (by decide), (g1 6 (by decide)).1]; exact h6 j (by omega)
        · rw [xsi_un _ _ e, xsi_ne _ _ _ (by decide)]; exact (g3 i (by omega)).2.1 hin
      · by_cases e : i = j
        · rw [e, xsi_at, xsi_ne _ _ _ (by decide), xsi_ne _ _ _ (by decide), (g1 7 (by decide)).1]; exact h7 j hj
        · rw [xsi_un _ _ e, xsi_ne _ _ _ (by decide), xsi_ne _ _ _ (by decide)]; exact (g3 i (by omega)).2.2
    by_cases hjn : j < pn P
    · refine X_iload_n (i := 1) (pc' := 60) dX5_post_59 rfl rfl rfl ?_
      refine X_bipush (pc' := 62) (v := nI 6) dX5_post_60 rfl (by decide) ?_
      refine X_icmp_ge (pc' := 65) (tgt := 119) dX5_post_62 rfl (by decide) (fun h_62 => absurd h_62 (nI_ge hj (by omega))) (fun h_62 => ?_)
      refine X_aload_n (i := 0) (pc' := 66) dX5_post_65 rfl rfl rfl ?_
      refine X_get (pc' := 69) (v := .ref 4) dX5_post_66 rfl (gf_X5_16 _ rfl) o_M_1 rfl rfl ?_
      refine X_iload_n (i := 1) (pc' := 70) dX5_post_69 rfl rfl rfl ?_
      refine X_iload_n (i := 1) (pc' := 71) dX5_post_70 rfl rfl rfl ?_
      refine X_aload_n (i := 0) (pc' := 72) dX5_post_71 rfl rfl rfl ?_
      refine X_get (pc' := 75) (v := .int _) dX5_post_72 rfl (gf_X5_96 _ rfl) o_M_1 rfl rfl ?_
      refine X_eqi (nI (pn P)) (r0) ?_
      refine X_icmp_ge (pc' := 78) (tgt := 87) dX5_post_75 rfl (by decide) (fun h_75 => absurd h_75 (fun q => by have := hcmp.mp q; omega)) (fun h_75 => ?_)
      refine X_aload_n (i := 0) (pc' := 79) dX5_post_78 rfl rfl rfl ?_
      refine X_get (pc' := 82) (v := .ref 5) dX5_post_79 rfl (gf_X5_19 _ rfl) o_M_1 rfl rfl ?_
      refine X_iload_n (i := 1) (pc' := 83) dX5_post_82 rfl rfl rfl ?_
      refine X_iald (pc' := 84) (j := j) dX5_post_83 rfl (Or.inl r_M_5) (rfl) (by omega) ?_
      refine X_eqi (nI (w j)) (by rw [(g1 5 (by decide)).1]; exact h5 j hjn) ?_
      refine X_goto (pc' := 0) (tgt := 88) dX5_post_84 (by decide) ?_
      exact hfin _ (if_pos hjn).symm
    · refine X_iload_n (i := 1) (pc' := 60) dX5_post_59 rfl rfl rfl ?_
      refine X_bipush (pc' := 62) (v := nI 6) dX5_post_60 rfl (by decide) ?_
      refine X_icmp_ge (pc' := 65) (tgt := 119) dX5_post_62 rfl (by decide) (fun h_62 => absurd h_62 (nI_ge hj (by omega))) (fun h_62 => ?_)
      refine X_aload_n (i := 0) (pc' := 66) dX5_post_65 rfl rfl rfl ?_
      refine X_get (pc' := 69) (v := .ref 4) dX5_post_66 rfl (gf_X5_16 _ rfl) o_M_1 rfl rfl ?_
      refine X_iload_n (i := 1) (pc' := 70) dX5_post_69 rfl rfl rfl ?_
      refine X_iload_n (i := 1) (pc' := 71) dX5_post_70 rfl rfl rfl ?_
      refine X_aload_n (i := 0) (pc' := 72) dX5_post_71 rfl rfl rfl ?_
      refine X_get (pc' := 75) (v := .int _) dX5_post_72 rfl (gf_X5_96 _ rfl) o_M_1 rfl rfl ?_
      refine X_eqi (nI (pn P)) (r0) ?_
      refine X_icmp_ge (pc' := 78) (tgt := 87) dX5_post_75 rfl (by decide) (fun h_75 => ?_) (fun h_75 => absurd (hcmp.mpr (by omega)) h_75)
      refine X_iconst (pc' := 88) (v := nI 0) dX5_post_87 rfl (by decide) ?_
      exact hfin _ (if_neg hjn).symm
theorem l2_post1 {τ2 : xT} {R : Int32 → xT → Prop} (hx : ∀ τ' : xT, xeq [4] τ2 τ' → (∀ i, i < 17 → τ'.1 4 i = nI 0) → X cx m_X5_post PM (qI PM R) 59 [(1, .int (nI 0)), (0, .ref 1)] [] PM τ') : ∀ (j : Nat) (τ' : xT), j ≤ 17 → (xeq [4] τ2 τ' ∧ ∀ i, i < j → τ'.1 4 i = nI 0) → X cx m_X5_post PM (qI PM R) 38 [(1, .int (nI j)), (0, .ref 1)] [] PM τ' := by
  refine xloop _ _ 17 (fun τ' g => ?_) (fun j τ' hj g ih => ?_)
  · refine X_iload_n (i := 1) (pc' := 39) dX5_post_38 rfl rfl rfl ?_
    refine X_bipush (pc' := 41) (v := nI 17) dX5_post_39 rfl (by decide) ?_
    refine X_icmp_ge (pc' := 44) (tgt := 57) dX5_post_41 rfl (by decide) (fun h_41 => ?_) (fun h_41 => absurd (nI_le (Nat.le_refl _) (by omega)) h_41)
    refine X_iconst (pc' := 58) (v := nI 0) dX5_post_57 rfl (by decide) ?_
    refine X_istore_n (i := 1) (pc' := 59) (lv' := [(1, _), (0, _)]) dX5_post_58 rfl rfl (Nat.le_of_ble_eq_true rfl) rfl ?_
    exact X_lv _ (by simp) (hx τ' g.1 g.2)
  · obtain ⟨g1, g2⟩ := g
    refine X_iload_n (i := 1) (pc' := 39) dX5_post_38 rfl rfl rfl ?_
    refine X_bipush (pc' := 41) (v := nI 17) dX5_post_39 rfl (by decide) ?_
    refine X_icmp_ge (pc' := 44) (tgt := 57) dX5_post_41 rfl (by decide) (fun h_41 => absurd h_41 (nI_ge hj (by omega))) (fun h_41 => ?_)
    refine X_aload_n (i := 0) (pc' := 45) dX5_post_44 rfl rfl rfl ?_
    refine X_get (pc' := 48) (v := .ref 4) dX5_post_45 rfl (gf_X5_16 _ rfl) o_M_1 rfl rfl ?_
    refine X_iload_n (i := 1) (pc' := 49) dX5_post_48 rfl rfl rfl ?_
    refine X_iconst (pc' := 50) (v := nI 0) dX5_post_49 rfl (by decide) ?_
    refine X_iast (pc' := 51) (j := j) dX5_post_50 rfl r_M_4 (rfl) (by omega) ?_
    refine X_iinc (pc' := 54) (v := nI (j + 1)) (lv' := [(1, _), (0, _)]) dX5_post_51 rfl rfl ((nI_succ j).symm) (Nat.le_of_ble_eq_true rfl) rfl ?_
    refine X_goto (pc' := 0) (tgt := 38) dX5_post_54 (by decide) ?_
    refine X_lv _ (by simp) (ih _ ⟨g1.si (by simp), fun i hi => ?_⟩)
    by_cases e : i = j
    · rw [e, xsi_at]
    · rw [xsi_un _ _ e]; exact g2 i (by omega)
theorem d_post (τ : xT) {S : SA} {m : Nat} (h : RM τ m S) : CI cx m_X5_post [.ref 1] PM τ (fun v τ' => v = (postA S).1 ∧ RM τ' (m + 1) (postA S).2) := by
  have hL := h.1.1
  have hTL : aL S ≤ 48 ∧ ∀ i, i < aL S → aT S i < 256 := ⟨h.1.1, h.1.2.1⟩
  refine Ct_of (by decide) (Nat.le_of_ble_eq_true rfl) (lv := [(0, _)]) rfl ?_
  refine X_aload_n (i := 0) (pc' := 1) dX5_post_0 rfl rfl rfl ?_
  refine X_OI (As := []) (rest := []) (pc' := 4) dX5_post_1 rfl k_X5_readText l_X5_93 v_X5_readText o_M_1 rfl ⟨by decide, by decide⟩ rfl rfl (Nat.le_of_ble_eq_true rfl) (d_readText cx τ h.tx) (fun x_1 τ_1 h_1 => ?_)
  obtain ⟨ev, e1, er⟩ := h_1
  refine X_bipush (pc' := 6) (v := (-9)) dX5_post_4 rfl (by decide) ?_
  refine X_icmp_eq (pc' := 9) (tgt := 12) dX5_post_6 rfl (by decide) (fun h_6 => ?_) (fun h_6 => ?_)
  · obtain ⟨q, hr, h3⟩ : ∃ q, rdP (aT S) (aL S) = .inl q ∧ q.1 = 3 := by
      rw [ev] at h_6
      unfold faultF at h_6
      rcases hr : rdP (aT S) (aL S) with q | j
      · refine ⟨q, rfl, ?_⟩
        rw [hr] at h_6
        have h_6 : (if q.1 = 3 then (-9 : Int32) else nI (aL S)) = -9 := h_6
        by_cases h3 : q.1 = 3
        · exact h3
        · rw [if_neg h3] at h_6
          exact absurd h_6 (nI_ne9 (by omega))
      · rw [hr] at h_6
        have := rdP_lt hr
        exact absurd h_6 (nI_ne9 (by omega))
    obtain ⟨hG, hok⟩ := er q hr h3
    have hp : postA S = (nI (pn q.2.2.1), (aT S, aL S, q.2.2.1, newS q.2.2.2, [], fun _ => none, aC S)) := by
      unfold postA
      rw [hr]
      exact if_pos h3
    rw [hp]
    have hn6 := hok.1
    obtain ⟨k1, k2, k3, k4, k5, k6, k7, k8⟩ := h.scd e1
    obtain ⟨nx, n1, n2, n3⟩ := k6
    refine X_aload_n (i := 0) (pc' := 13) dX5_post_12 rfl rfl rfl ?_
    refine X_aload_n (i := 0) (pc' := 14) dX5_post_13 rfl rfl rfl ?_
    refine X_get (pc' := 17) (v := .int _) dX5_post_14 rfl (gf_X5_69 _ rfl) o_M_1 rfl rfl ?_
    refine X_eqi (nI (pn q.2.2.1)) (hG.1) ?_
    refine X_putI (pc' := 20) dX5_post_17 rfl (pf_X5_96 _ rfl) o_M_1 rfl ?_
    refine X_aload_n (i := 0) (pc' := 21) dX5_post_20 rfl rfl rfl ?_
    refine X_aload_n (i := 0) (pc' := 22) dX5_post_21 rfl rfl rfl ?_
    refine X_get (pc' := 25) (v := .int _) dX5_post_22 rfl (gf_X5_80 _ rfl) o_M_1 rfl rfl ?_
    refine X_eqi (nI (pp q.2.2.1)) (by rw [xsi_un _ _ (by decide)]; exact hG.2.1) ?_
    refine X_putI (pc' := 28) dX5_post_25 rfl (pf_X5_99 _ rfl) o_M_1 rfl ?_
    refine X_aload_n (i := 0) (pc' := 29) dX5_post_28 rfl rfl rfl ?_
    refine X_aload_n (i := 0) (pc' := 30) dX5_post_29 rfl rfl rfl ?_
    refine X_get (pc' := 33) (v := .int _) dX5_post_30 rfl (gf_X5_83 _ rfl) o_M_1 rfl rfl ?_
    refine X_eqi (nI (pr q.2.2.1)) (by rw [xsi_un _ _ (by decide), xsi_un _ _ (by decide)]; exact hG.2.2.1) ?_
    refine X_putI (pc' := 36) dX5_post_33 rfl (pf_X5_44 _ rfl) o_M_1 rfl ?_
    refine X_iconst (pc' := 37) (v := nI 0) dX5_post_36 rfl (by decide) ?_
    refine X_istore_n (i := 1) (pc' := 38) (lv' := [(1, _), (0, _)]) dX5_post_37 rfl rfl (Nat.le_of_ble_eq_true rfl) rfl ?_
    refine X_lv _ (by simp) (l2_post1 cx (fun τa ea za => l2_post2 cx (P := q.2.2.1) (w := q.2.2.2) hn6 ?_ ?_ ?_ ?_ (fun τb eb zb zc => l2_post3 cx (q := q) rfl rfl hok hTL ?_ ?_ ?_ ?_ ?_ ⟨nx, n1, ?_⟩ ?_ eb zb zc) 0 τa (by decide) ⟨xeq.rf, fun i h1 h2 => za i h1, fun i hi => absurd hi (Nat.not_lt_zero i)⟩) 0 _ (by decide) ⟨xeq.rf, fun i hi => absurd hi (Nat.not_lt_zero i)⟩)
    · rw [(ea 1 (by decide)).1, xsi_un _ _ (by decide), xsi_un _ _ (by decide), xsi_at]
    · intro k hk; rw [(ea 5 (by decide)).1]; exact hG.2.2.2.1 k hk
    · intro k hk; rw [(ea 6 (by decide)).1]; exact hG.2.2.2.2.1 k hk
    · intro k hk; rw [(ea 7 (by decide)).1]; exact hG.2.2.2.2.2 k hk
    · intro i hi; rw [(ea 8 (by decide)).1]; exact k2 i hi
    · rw [(ea 1 (by decide)).1, xsi_un _ _ (by decide), xsi_un _ _ (by decide), xsi_un _ _ (by decide)]; exact k3
    · rw [(ea 1 (by decide)).1, xsi_un _ _ (by decide), xsi_un _ _ (by decide), xsi_at]
    · rw [(ea 1 (by decide)).1, xsi_un _ _ (by decide), xsi_at]
    · rw [(ea 1 (by decide)).1, xsi_at]
    · rw [(ea 1 (by decide)).1, xsi_un _ _ (by decide), xsi_un _ _ (by decide), xsi_un _ _ (by decide)]; exact n2
    · rw [(ea 1 (by decide)).2.1]; exact k8
  · refine X_bipush (pc' := 11) (v := (-3)) dX5_post_9 rfl (by decide) ?_
    refine X_ri dX5_post_11 rfl ⟨rfl, rfl⟩ ?_
    have hp : postA S = (-3, S) := by
      unfold postA
      rcases hr : rdP (aT S) (aL S) with q | j
      · show (if q.1 = 3 then _ else _) = _
        rw [if_neg]
        intro h3
        apply h_6
        rw [ev]
        unfold faultF
        rw [hr]
        exact if_pos h3
      · rfl
    rw [hp]
    exact ⟨rfl, (h.scd e1).mono (by omega)⟩
end MZ
