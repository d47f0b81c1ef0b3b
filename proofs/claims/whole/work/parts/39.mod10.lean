/-! ===== the model's whole state; what acts do ===== -/
/-- the acts remembered: a ring of fourteen rows -/
def RI (τ : xT) (n : Nat) (acts : List SN) : Prop := ∃ nx : Nat, nx < 14 ∧ τ.1 1 17 = nI nx ∧ τ.1 1 16 = nI acts.length ∧ acts.length ≤ 14 ∧ ∀ (j : Nat) (s : SN), acts[j]? = some s → MS τ 9 (17 * ((nx + 14 - acts.length + j) % 14)) n s
def KM (τ : xT) (n : Nat) (K : Nat → Option SN) : Prop := ∀ j, j < 2 → τ.1 11 j = zI ((K j).isSome = true) ∧ ∀ s, K j = some s → MS τ 12 (17 * j) n s
def RM (τ : xT) (m : Nat) (S : SA) : Prop := SAok m S ∧ (∀ i, i < aL S → τ.1 8 i = nI (aT S i)) ∧ τ.1 1 13 = nI (aL S) ∧ MT τ (aP S) ∧ MS τ 4 0 (pn (aP S)) (aS S) ∧ RI τ (pn (aP S)) (aA S) ∧ KM τ (pn (aP S)) (aK S) ∧ τ.2.1 1 21 = aC S
theorem RM.mono {τ : xT} {m m' : Nat} {S : SA} (h : RM τ m S) (hm : m ≤ m') : RM τ m' S := ⟨h.1.mono hm, h.2⟩
theorem MT.rows {τ τ' : xT} {P : PT} (h : MT τ P) (h1 : ∀ i, i < 3 → τ'.1 1 i = τ.1 1 i) (h2 : τ'.1 2 = τ.1 2) (h3 : τ'.1 3 = τ.1 3) : MT τ' P := by
  unfold MT
  rw [h1 0 (by decide), h1 1 (by decide), h1 2 (by decide), h2, h3]
  exact h
theorem MS.row {τ τ' : xT} {c b n : Nat} {s : SN} (h : MS τ c b n s) (e : τ'.1 c = τ.1 c) : MS τ' c b n s := by
  unfold MS
  rw [e]
  exact h
theorem RI.rows {τ τ' : xT} {n : Nat} {acts : List SN} (h : RI τ n acts) (h1 : τ'.1 1 17 = τ.1 1 17) (h2 : τ'.1 1 16 = τ.1 1 16) (h9 : τ'.1 9 = τ.1 9) : RI τ' n acts := by
  obtain ⟨nx, a1, a2, a3, a4, a5⟩ := h
  exact ⟨nx, a1, h1.trans a2, h2.trans a3, a4, fun j s hs => (a5 j s hs).row h9⟩
theorem KM.rows {τ τ' : xT} {n : Nat} {K : Nat → Option SN} (h : KM τ n K) (h1 : τ'.1 11 = τ.1 11) (h2 : τ'.1 12 = τ.1 12) : KM τ' n K := fun j hj => ⟨by rw [h1]; exact (h j hj).1, fun s hs => ((h j hj).2 s hs).row h2⟩
theorem RM.scr {τ τ' : xT} {m : Nat} {S : SA} (h : RM τ m S) (e : xtr τ τ') : RM τ' m S := by
  obtain ⟨g1, g2, g3, g4, g5, g6, g7, g8⟩ := h
  have r1 := e.1 1 (by decide)
  exact ⟨g1, fun i hi => by rw [(e.1 8 (by decide)).1]; exact g2 i hi, by rw [r1.1]; exact g3, e.mt g4, e.ms g1.2.2.1.1 g5, g6.rows (by rw [r1.1]) (by rw [r1.1]) (e.1 9 (by decide)).1, g7.rows (e.1 11 (by decide)).1 (e.1 12 (by decide)).1, by rw [r1.2.1]; exact g8⟩
/-- the model's letters: where its state is, what is asked of a row of now -/
theorem RM_act {τ τ1 τ2 : xT} {m : Nat} {S : SA} {s : SN} (h : RM τ m S) (hs : Sok (aP S) (m + 1) s) (r1 : xeq [1, 9] τ τ1) (r2 : ∀ i, i ≠ 16 → i ≠ 17 → τ1.1 1 i = τ.1 1 i) (r3 : τ1.2.1 1 = τ.2.1 1) (r4 : RI τ1 (pn (aP S)) (pushA (aA S) (aS S))) (e : xeq [4] τ1 τ2) (h2 : MS τ2 4 0 (pn (aP S)) s) : RM τ2 (m + 1) (wS S s (pushA (aA S) (aS S))) := by
  obtain ⟨g1, g2, g3, g4, g5, g6, g7, g8⟩ := h
  have q1 := e 1 (by decide)
  refine ⟨wS_ok g1 hs, fun i hi => ?_, ?_, ?_, h2, r4.rows (by rw [q1.1]) (by rw [q1.1]) (e 9 (by decide)).1, g7.rows ((e 11 (by decide)).1.trans (r1 11 (by decide)).1) ((e 12 (by decide)).1.trans (r1 12 (by decide)).1), ?_⟩
  · rw [(e 8 (by decide)).1, (r1 8 (by decide)).1]; exact g2 i hi
  · rw [q1.1, r2 13 (by decide) (by decide)]; exact g3
  · exact g4.rows (fun i hi => by rw [q1.1, r2 i (by omega) (by omega)]) ((e 2 (by decide)).1.trans (r1 2 (by decide)).1) ((e 3 (by decide)).1.trans (r1 3 (by decide)).1)
  · rw [q1.2.1, r3]; exact g8
section MA
variable (cx : xC)
set_option maxHeartbeats 4000000
set_option maxRecDepth 100000
theorem d_keepAct (τ : xT) {n : Nat} {s : SN} {acts : List SN} (hn : n ≤ 6) (hs : MS τ 4 0 n s) (h : RI τ n acts) : CV cx m_X5_keepAct [.ref 1] PM τ (fun τ' => xeq [1, 9] τ τ' ∧ (∀ i, i ≠ 16 → i ≠ 17 → τ'.1 1 i = τ.1 1 i) ∧ τ'.2.1 1 = τ.2.1 1 ∧ RI τ' n (pushA acts s)) := by
  obtain ⟨nx, a1, a2, a3, a4, a5⟩ := h
  have hl : ∀ (j : Nat) (τ' : xT), j ≤ 17 → (xeq [9] τ τ' ∧ (∀ i, i < j → τ'.1 9 (17 * nx + i) = τ.1 4 i) ∧ ∀ i, i < 17 * nx ∨ 17 * nx + 17 ≤ i → τ'.1 9 i = τ.1 9 i) → X cx m_X5_keepAct PM (qV PM (fun τ' => xeq [1, 9] τ τ' ∧ (∀ i, i ≠ 16 → i ≠ 17 → τ'.1 1 i = τ.1 1 i) ∧ τ'.2.1 1 = τ.2.1 1 ∧ RI τ' n (pushA acts s))) 2 [(1, .int (nI j)), (0, .ref 1)] [] PM τ' := by
    refine xloop _ _ 17 (fun τ' g => ?_) (fun j τ' hj g ih => ?_)
    · obtain ⟨g1, g2, g3⟩ := g
      have q1 := g1 1 (by decide)
      refine X_iload_n (i := 1) (pc' := 3) dX5_keepAct_2 rfl rfl rfl ?_
      refine X_bipush (pc' := 5) (v := nI 17) dX5_keepAct_3 rfl (by decide) ?_
      refine X_icmp_ge (pc' := 8) (tgt := 34) dX5_keepAct_5 rfl (by decide) (fun h_5 => ?_) (fun h_5 => absurd (nI_le (Nat.le_refl _) (by omega)) h_5)
      refine X_aload_n (i := 0) (pc' := 35) dX5_keepAct_34 rfl rfl rfl ?_
      refine X_aload_n (i := 0) (pc' := 36) dX5_keepAct_35 rfl rfl rfl ?_
      refine X_get (pc' := 39) (v := .int _) dX5_keepAct_36 rfl (gf_X5_122 _ rfl) o_M_1 rfl rfl ?_
      refine X_eqi (nI nx) (by rw [q1.1]; exact a2) ?_
      refine X_iconst (pc' := 40) (v := nI 1) dX5_keepAct_39 rfl (by decide) ?_
      refine X_iadd (pc' := 41) dX5_keepAct_40 rfl ?_
      refine X_eqi (nI (nx + 1)) (nI_add _ _) ?_
      refine X_bipush (pc' := 43) (v := nI 14) dX5_keepAct_41 rfl (by decide) ?_
      refine X_irem (pc' := 44) dX5_keepAct_43 rfl (by decide) ?_
      refine X_eqi (nI ((nx + 1) % 14)) (pk_rem (by omega) (by decide) (by decide)) ?_
      refine X_putI (pc' := 47) dX5_keepAct_44 rfl (pf_X5_122 _ rfl) o_M_1 rfl ?_
      refine X_aload_n (i := 0) (pc' := 48) dX5_keepAct_47 rfl rfl rfl ?_
      refine X_aload_n (i := 0) (pc' := 49) dX5_keepAct_48 rfl rfl rfl ?_
      refine X_get (pc' := 52) (v := .int _) dX5_keepAct_49 rfl (gf_X5_102 _ rfl) o_M_1 rfl rfl ?_
      refine X_eqi (nI acts.length) (by rw [xsi_un _ _ (by decide), q1.1]; exact a3) ?_
      refine X_bipush (pc' := 54) (v := nI 14) dX5_keepAct_52 rfl (by decide) ?_
      refine X_icmp_ge (pc' := 57) (tgt := 66) dX5_keepAct_54 rfl (by decide) (fun h_54 => ?_) (fun h_54 => ?_)
      · refine X_bipush (pc' := 68) (v := nI 14) dX5_keepAct_66 rfl (by decide) ?_
        refine X_putI (pc' := 71) dX5_keepAct_68 rfl (pf_X5_102 _ rfl) o_M_1 rfl ?_
        refine X_rv dX5_keepAct_71 rfl ⟨rfl, rfl⟩ ?_
        refine ⟨((g1.mono (by simp)).si (by simp)).si (by simp), fun i h1 h2 => by rw [xsi_un _ _ h1, xsi_un _ _ h2, q1.1], q1.2.1, (nx + 1) % 14, by omega, by rw [xsi_un _ _ (by decide), xsi_at], ?_, ?_, fun j s' hs' => ?_⟩
        · rw [xsi_at]
          unfold pushA
          rw [geI (by decide), nI_toInt (by omega)] at h_54
          first
            | (rw [if_neg (show ¬ acts.length = 14 by omega), List.length_append]; rfl)
            | (rw [if_pos (show acts.length = 14 by omega), List.length_append, List.length_tail, show acts.length = 14 by omega]; rfl)
        · unfold pushA
          split
          · rw [List.length_append, List.length_tail]; simp; omega
          · rw [List.length_append]; simp; omega
        · have hp : (pushA acts s)[j]? = some s' → MS τ' 9 (17 * (((nx + 1) % 14 + 14 - (pushA acts s).length + j) % 14)) n s' := by
            intro hq
            unfold pushA at hq ⊢
            have hnew : MS τ' 9 (17 * nx) n s := hs.copy hn (fun i hi => (g2 i hi).trans (by rw [Nat.zero_add]))
            have hold : ∀ r, r < 14 → r ≠ nx → ∀ b, MS τ 9 (17 * r) n b → MS τ' 9 (17 * r) n b := fun r _ h2 b hb => hb.copy hn (fun i hi => g3 _ (by omega))
            by_cases h14 : acts.length = 14
            · rw [if_pos h14] at hq
              rw [if_pos h14, List.length_append, List.length_tail, h14]
              show MS τ' 9 (17 * (((nx + 1) % 14 + 14 - 14 + j) % 14)) n s'
              by_cases hj : j < 13
              · rw [List.getElem?_append_left (by rw [List.length_tail]; omega), List.getElem?_tail] at hq
                have := a5 (j + 1) s' hq
                rw [h14, show (nx + 14 - 14 + (j + 1)) % 14 = ((nx + 1) % 14 + 14 - 14 + j) % 14 by omega] at this
                exact hold _ (by omega) (by omega) _ this
              · rw [List.getElem?_append_right (by rw [List.length_tail]; omega), List.length_tail, h14] at hq
                have hj0 : j - (14 - 1) = 0 := by
                  rcases Nat.eq_zero_or_pos (j - (14 - 1)) with q | q
                  · exact q
                  · rw [List.getElem?_eq_none (by simp; omega)] at hq; cases hq
                rw [hj0] at hq
                cases hq
                rw [show ((nx + 1) % 14 + 14 - 14 + j) % 14 = nx by omega]
                exact hnew
            · rw [if_neg h14] at hq
              rw [if_neg h14, List.length_append]
              show MS τ' 9 (17 * (((nx + 1) % 14 + 14 - (acts.length + 1) + j) % 14)) n s'
              by_cases hj : j < acts.length
              · rw [List.getElem?_append_left hj] at hq
                have := a5 j s' hq
                rw [show (nx + 14 - acts.length + j) % 14 = ((nx + 1) % 14 + 14 - (acts.length + 1) + j) % 14 by omega] at this
                exact hold _ (by omega) (by omega) _ this
              · rw [List.getElem?_append_right (by omega)] at hq
                have hj0 : j - acts.length = 0 := by
                  rcases Nat.eq_zero_or_pos (j - acts.length) with q | q
                  · exact q
                  · rw [List.getElem?_eq_none (by simp; omega)] at hq; cases hq
                rw [hj0] at hq
                cases hq
                rw [show ((nx + 1) % 14 + 14 - (acts.length + 1) + j) % 14 = nx by omega]
                exact hnew
          exact (hp hs').row (by rw [xsi_ne _ _ _ (by decide), xsi_ne _ _ _ (by decide)])
      · refine X_aload_n (i := 0) (pc' := 58) dX5_keepAct_57 rfl rfl rfl ?_
        refine X_get (pc' := 61) (v := .int _) dX5_keepAct_58 rfl (gf_X5_102 _ rfl) o_M_1 rfl rfl ?_
        refine X_eqi (nI acts.length) (by rw [xsi_un _ _ (by decide), q1.1]; exact a3) ?_
        refine X_iconst (pc' := 62) (v := nI 1) dX5_keepAct_61 rfl (by decide) ?_
        refine X_iadd (pc' := 63) dX5_keepAct_62 rfl ?_
        refine X_eqi (nI (acts.length + 1)) (nI_add _ _) ?_
        refine X_goto (pc' := 0) (tgt := 68) dX5_keepAct_63 (by decide) ?_
        refine X_putI (pc' := 71) dX5_keepAct_68 rfl (pf_X5_102 _ rfl) o_M_1 rfl ?_
        refine X_rv dX5_keepAct_71 rfl ⟨rfl, rfl⟩ ?_
        refine ⟨((g1.mono (by simp)).si (by simp)).si (by simp), fun i h1 h2 => by rw [xsi_un _ _ h1, xsi_un _ _ h2, q1.1], q1.2.1, (nx + 1) % 14, by omega, by rw [xsi_un _ _ (by decide), xsi_at], ?_, ?_, fun j s' hs' => ?_⟩
        · rw [xsi_at]
          unfold pushA
          rw [geI (by decide), nI_toInt (by omega)] at h_54
          first
            | (rw [if_neg (show ¬ acts.length = 14 by omega), List.length_append]; rfl)
            | (rw [if_pos (show acts.length = 14 by omega), List.length_append, List.length_tail, show acts.length = 14 by omega]; rfl)
        · unfold pushA
          split
          · rw [List.length_append, List.length_tail]; simp; omega
          · rw [List.length_append]; simp; omega
        · have hp : (pushA acts s)[j]? = some s' → MS τ' 9 (17 * (((nx + 1) % 14 + 14 - (pushA acts s).length + j) % 14)) n s' := by
            intro hq
            unfold pushA at hq ⊢
            have hnew : MS τ' 9 (17 * nx) n s := hs.copy hn (fun i hi => (g2 i hi).trans (by rw [Nat.zero_add]))
            have hold : ∀ r, r < 14 → r ≠ nx → ∀ b, MS τ 9 (17 * r) n b → MS τ' 9 (17 * r) n b := fun r _ h2 b hb => hb.copy hn (fun i hi => g3 _ (by omega))
            by_cases h14 : acts.length = 14
            · rw [if_pos h14] at hq
              rw [if_pos h14, List.length_append, List.length_tail, h14]
              show MS τ' 9 (17 * (((nx + 1) % 14 + 14 - 14 + j) % 14)) n s'
              by_cases hj : j < 13
              · rw [List.getElem?_append_left (by rw [List.length_tail]; omega), List.getElem?_tail] at hq
                have := a5 (j + 1) s' hq
                rw [h14, show (nx + 14 - 14 + (j + 1)) % 14 = ((nx + 1) % 14 + 14 - 14 + j) % 14 by omega] at this
                exact hold _ (by omega) (by omega) _ this
              · rw [List.getElem?_append_right (by rw [List.length_tail]; omega), List.length_tail, h14] at hq
                have hj0 : j - (14 - 1) = 0 := by
                  rcases Nat.eq_zero_or_pos (j - (14 - 1)) with q | q
                  · exact q
                  · rw [List.getElem?_eq_none (by simp; omega)] at hq; cases hq
                rw [hj0] at hq
                cases hq
                rw [show ((nx + 1) % 14 + 14 - 14 + j) % 14 = nx by omega]
                exact hnew
            · rw [if_neg h14] at hq
              rw [if_neg h14, List.length_append]
              show MS τ' 9 (17 * (((nx + 1) % 14 + 14 - (acts.length + 1) + j) % 14)) n s'
              by_cases hj : j < acts.length
              · rw [List.getElem?_append_left hj] at hq
                have := a5 j s' hq
                rw [show (nx + 14 - acts.length + j) % 14 = ((nx + 1) % 14 + 14 - (acts.length + 1) + j) % 14 by omega] at this
                exact hold _ (by omega) (by omega) _ this
              · rw [List.getElem?_append_right (by omega)] at hq
                have hj0 : j - acts.length = 0 := by
                  rcases Nat.eq_zero_or_pos (j - acts.length) with q | q
                  · exact q
                  · rw [List.getElem?_eq_none (by simp; omega)] at hq; cases hq
                rw [hj0] at hq
                cases hq
                rw [show ((nx + 1) % 14 + 14 - (acts.length + 1) + j) % 14 = nx by omega]
                exact hnew
          exact (hp hs').row (by rw [xsi_ne _ _ _ (by decide), xsi_ne _ _ _ (by decide)])
    · obtain ⟨g1, g2, g3⟩ := g
      have q1 := g1 1 (by decide)
      refine X_iload_n (i := 1) (pc' := 3) dX5_keepAct_2 rfl rfl rfl ?_
      refine X_bipush (pc' := 5) (v := nI 17) dX5_keepAct_3 rfl (by decide) ?_
      refine X_icmp_ge (pc' := 8) (tgt := 34) dX5_keepAct_5 rfl (by decide) (fun h_5 => absurd h_5 (nI_ge hj (by omega))) (fun h_5 => ?_)
      refine X_aload_n (i := 0) (pc' := 9) dX5_keepAct_8 rfl rfl rfl ?_
      refine X_get (pc' := 12) (v := .ref 9) dX5_keepAct_9 rfl (gf_X5_31 _ rfl) o_M_1 rfl rfl ?_
      refine X_bipush (pc' := 14) (v := nI 17) dX5_keepAct_12 rfl (by decide) ?_
      refine X_aload_n (i := 0) (pc' := 15) dX5_keepAct_14 rfl rfl rfl ?_
      refine X_get (pc' := 18) (v := .int _) dX5_keepAct_15 rfl (gf_X5_122 _ rfl) o_M_1 rfl rfl ?_
      refine X_eqi (nI nx) (by rw [q1.1]; exact a2) ?_
      refine X_imul (pc' := 19) dX5_keepAct_18 rfl ?_
      refine X_eqi (nI (17 * nx)) (pk_mul _ _) ?_
      refine X_iload_n (i := 1) (pc' := 20) dX5_keepAct_19 rfl rfl rfl ?_
      refine X_iadd (pc' := 21) dX5_keepAct_20 rfl ?_
      refine X_aload_n (i := 0) (pc' := 22) dX5_keepAct_21 rfl rfl rfl ?_
      refine X_get (pc' := 25) (v := .ref 4) dX5_keepAct_22 rfl (gf_X5_16 _ rfl) o_M_1 rfl rfl ?_
      refine X_iload_n (i := 1) (pc' := 26) dX5_keepAct_25 rfl rfl rfl ?_
      refine X_iald (pc' := 27) (j := j) dX5_keepAct_26 rfl (Or.inl r_M_4) (rfl) (by omega) ?_
      refine X_eqi (τ.1 4 j) (by rw [(g1 4 (by decide)).1]) ?_
      refine X_iast (pc' := 28) (j := 17 * nx + j) dX5_keepAct_27 rfl r_M_9 (nI_add _ _) (by omega) ?_
      refine X_iinc (pc' := 31) (v := nI (j + 1)) (lv' := [(1, _), (0, _)]) dX5_keepAct_28 rfl rfl (nI_add _ _) (Nat.le_of_ble_eq_true rfl) rfl ?_
      refine X_goto (pc' := 0) (tgt := 2) dX5_keepAct_31 (by decide) ?_
      refine X_lv _ (by simp) (ih _ ⟨g1.si (by simp), fun i hi => ?_, fun i hi => ?_⟩)
      · by_cases e : i = j
        · rw [e, xsi_at]
        · rw [xsi_un _ _ (by omega)]; exact g2 i (by omega)
      · rw [xsi_un _ _ (by omega)]; exact g3 i hi
  refine Ct_of (by decide) (Nat.le_of_ble_eq_true rfl) (lv := [(0, _)]) rfl ?_
  refine X_iconst (pc' := 1) (v := nI 0) dX5_keepAct_0 rfl (by decide) ?_
  refine X_istore_n (i := 1) (pc' := 2) (lv' := [(1, _), (0, _)]) dX5_keepAct_1 rfl rfl (Nat.le_of_ble_eq_true rfl) rfl ?_
  exact X_lv _ (by simp) (hl 0 τ (by decide) ⟨xeq.rf, fun i hi => absurd hi (Nat.not_lt_zero i), fun i _ => rfl⟩)
theorem kA_mt {τ τ1 : xT} {P : PT} (h : MT τ P) (r1 : xeq [1, 9] τ τ1) (r2 : ∀ i, i ≠ 16 → i ≠ 17 → τ1.1 1 i = τ.1 1 i) : MT τ1 P := h.rows (fun i hi => r2 i (by omega) (by omega)) (r1 2 (by decide)).1 (r1 3 (by decide)).1
theorem d_send (τ : xT) {S : SA} {m : Nat} (h : RM τ m S) (hm : m < 4000) (l : Int32) : CI cx m_X5_send [.ref 1, .int l] PM τ (fun x τ' => x = (sendA S l).1 ∧ RM τ' (m + 1) (sendA S l).2) := by
  obtain ⟨g1, g2, g3, g4, g5, g6, g7, g8⟩ := id h
  obtain ⟨h0, h1, h2, h3, h4, h5, h6⟩ := id g5
  have hP := g1.2.2.1
  have ho := g1.2.2.2.1
  have hn6 := hP.1
  have h26 := two6 hP
  have hst := ho.2.1
  have htd := ho.2.2.1
  have hr3 := hP.2.2.1.2
  refine Ct_of (by decide) (Nat.le_of_ble_eq_true rfl) (lv := [(0, _), (1, _)]) rfl ?_
  unfold sendA
  refine X_aload_n (i := 0) (pc' := 1) dX5_send_0 rfl rfl rfl ?_
  refine X_iload_n (i := 1) (pc' := 2) dX5_send_1 rfl rfl rfl ?_
  refine X_OIp (As := [_]) (rest := []) (pc' := 5) dX5_send_2 rfl k_X5_isLetter l_X5_112 v_X5_isLetter o_M_1 rfl ⟨by decide, by decide⟩ rfl rfl (Nat.le_of_ble_eq_true rfl) (d_isLetter cx τ hP g4 l) ?_
  refine X_if_ne (pc' := 8) (tgt := 10) dX5_send_5 rfl (by decide) (fun h_5 => ?_) (fun h_5 => ?_)
  · obtain ⟨k, hk, rfl⟩ := kn_of (zI_1 h_5)
    rw [if_pos (kn_in hP hk).1, (kn_in hP hk).2]
    refine X_aload_n (i := 0) (pc' := 11) dX5_send_10 rfl rfl rfl ?_
    refine X_iconst (pc' := 12) (v := nI 0) dX5_send_11 rfl (by decide) ?_
    refine X_iload_n (i := 1) (pc' := 13) dX5_send_12 rfl rfl rfl ?_
    refine X_OIp (As := [_, _]) (rest := []) (pc' := 16) dX5_send_13 rfl k_X5_isSent l_X5_116 v_X5_isSent o_M_1 rfl ⟨by decide, by decide⟩ rfl rfl (Nat.le_of_ble_eq_true rfl) (d_isSent cx τ (lev := 0) (by decide) g5 (by omega) (show k < 31 by omega)) ?_
    refine X_if_eq (pc' := 19) (tgt := 22) dX5_send_16 rfl (by decide) (fun h_16 => ?_) (fun h_16 => ?_)
    · rw [if_neg (zI_0.mp h_16)]
      refine X_aload_n (i := 0) (pc' := 23) dX5_send_22 rfl rfl rfl ?_
      refine X_get (pc' := 26) (v := .ref 4) dX5_send_23 rfl (gf_X5_16 _ rfl) o_M_1 rfl rfl ?_
      refine X_bipush (pc' := 28) (v := nI 15) dX5_send_26 rfl (by decide) ?_
      refine X_iald (pc' := 29) (j := 15) dX5_send_28 rfl (Or.inl r_M_4) (rfl) (by decide) ?_
      refine X_eqi (nI (sTd (aS S))) (h5) ?_
      refine X_aload_n (i := 0) (pc' := 30) dX5_send_29 rfl rfl rfl ?_
      refine X_get (pc' := 33) (v := .int _) dX5_send_30 rfl (gf_X5_44 _ rfl) o_M_1 rfl rfl ?_
      refine X_eqi (nI (pr (aP S))) (g4.2.2.1) ?_
      refine X_icmp_lt (pc' := 36) (tgt := 39) dX5_send_33 rfl (by decide) (fun h_33 => ?_) (fun h_33 => ?_)
      · have hcan : can (aP S) (aS S) k := ⟨hk, zI_0.mp h_16, (nI_ltI (by omega) (by omega)).mp (by first | exact h_33 | exact Int32.not_le.mp h_33)⟩
        rw [if_pos hcan.2.2]
        refine X_aload_n (i := 0) (pc' := 40) dX5_send_39 rfl rfl rfl ?_
        refine X_OV (As := []) (rest := []) (pc' := 43) dX5_send_40 rfl k_X5_keepAct l_X5_125 v_X5_keepAct o_M_1 rfl ⟨by decide, by decide⟩ rfl rfl (Nat.le_of_ble_eq_true rfl) (d_keepAct cx τ hn6 g5 g6) (fun τ_40 h_40 => ?_)
        refine X_aload_n (i := 0) (pc' := 44) dX5_send_43 rfl rfl rfl ?_
        refine X_iconst (pc' := 45) (v := nI 0) dX5_send_44 rfl (by decide) ?_
        refine X_iload_n (i := 1) (pc' := 46) dX5_send_45 rfl rfl rfl ?_
        refine X_OI (As := [_, _]) (rest := []) (pc' := 49) dX5_send_46 rfl k_X5_sendOn l_X5_128 v_X5_sendOn o_M_1 rfl ⟨by decide, by decide⟩ rfl rfl (Nat.le_of_ble_eq_true rfl) (d_sendOn cx τ_40 hP (kA_mt g4 h_40.1 h_40.2.1) (lev := 0) (by decide) (g5.row (h_40.1 4 (by decide)).1) ho (by omega) hk) (fun x_46 τ_46 h_46 => ?_)
        refine X_ri dX5_send_49 rfl ⟨rfl, rfl⟩ ?_
        exact ⟨h_46.1, RM_act h (sendS_ok hP ho hcan) h_40.1 h_40.2.1 h_40.2.2.1 h_40.2.2.2 h_46.2.1 h_46.2.2.2⟩
      · refine X_bipush (pc' := 38) (v := (-4)) dX5_send_36 rfl (by decide) ?_
        refine X_ri dX5_send_38 rfl ⟨rfl, rfl⟩ ?_
        rw [if_neg (fun q => h_33 (nI_lt q (by omega)))]; exact ⟨rfl, h.mono (by omega)⟩
    · refine X_bipush (pc' := 21) (v := (-3)) dX5_send_19 rfl (by decide) ?_
      refine X_ri dX5_send_21 rfl ⟨rfl, rfl⟩ ?_
      rw [if_pos (zI_1 h_16)]; exact ⟨rfl, h.mono (by omega)⟩
  · refine X_iconst (pc' := 9) (v := (-1)) dX5_send_8 rfl (by decide) ?_
    refine X_ri dX5_send_9 rfl ⟨rfl, rfl⟩ ?_
    rw [if_neg (zI_0.mp h_5)]; exact ⟨rfl, h.mono (by omega)⟩
theorem d_day (τ : xT) {S : SA} {m : Nat} (h : RM τ m S) (hm : m < 4000) : CI cx m_X5_day [.ref 1] PM τ (fun x τ' => x = (dayA S).1 ∧ RM τ' (m + 1) (dayA S).2) := by
  obtain ⟨g1, g2, g3, g4, g5, g6, g7, g8⟩ := id h
  have hP := g1.2.2.1
  have ho := g1.2.2.2.1
  have hn6 := hP.1
  refine Ct_of (by decide) (Nat.le_of_ble_eq_true rfl) (lv := [(0, _)]) rfl ?_
  refine X_aload_n (i := 0) (pc' := 1) dX5_day_0 rfl rfl rfl ?_
  refine X_OV (As := []) (rest := []) (pc' := 4) dX5_day_1 rfl k_X5_keepAct l_X5_125 v_X5_keepAct o_M_1 rfl ⟨by decide, by decide⟩ rfl rfl (Nat.le_of_ble_eq_true rfl) (d_keepAct cx τ hn6 g5 g6) (fun τ_1 h_1 => ?_)
  refine X_aload_n (i := 0) (pc' := 5) dX5_day_4 rfl rfl rfl ?_
  refine X_iconst (pc' := 6) (v := nI 0) dX5_day_5 rfl (by decide) ?_
  refine X_OV (As := [_]) (rest := []) (pc' := 9) dX5_day_6 rfl k_X5_passOn l_X5_131 v_X5_passOn o_M_1 rfl ⟨by decide, by decide⟩ rfl rfl (Nat.le_of_ble_eq_true rfl) (d_passOn cx τ_1 hP (kA_mt g4 h_1.1 h_1.2.1) (lev := 0) (by decide) (g5.row (h_1.1 4 (by decide)).1) ho (by omega)) (fun τ_6 h_6 => ?_)
  refine X_aload_n (i := 0) (pc' := 10) dX5_day_9 rfl rfl rfl ?_
  refine X_get (pc' := 13) (v := .ref 4) dX5_day_10 rfl (gf_X5_16 _ rfl) o_M_1 rfl rfl ?_
  refine X_bipush (pc' := 15) (v := nI 14) dX5_day_13 rfl (by decide) ?_
  refine X_iald (pc' := 16) (j := 14) dX5_day_15 rfl (Or.inl r_M_4) (rfl) (by decide) ?_
  refine X_ri dX5_day_16 rfl ⟨rfl, rfl⟩ ?_
  exact ⟨h_6.2.2.2.2.2.2.1, RM_act h (pass_ok ho) h_1.1 h_1.2.1 h_1.2.2.1 h_1.2.2.2 h_6.1 h_6.2.2⟩
theorem d_tear (τ : xT) {S : SA} {m : Nat} (h : RM τ m S) (hm : m < 4000) (l : Int32) : CI cx m_X5_tear [.ref 1, .int l] PM τ (fun x τ' => x = (tearA S l).1 ∧ RM τ' (m + 1) (tearA S l).2) := by
  obtain ⟨g1, g2, g3, g4, g5, g6, g7, g8⟩ := id h
  obtain ⟨h0, h1, h2, h3, h4, h5, h6⟩ := id g5
  have hP := g1.2.2.1
  have ho := g1.2.2.2.1
  have hn6 := hP.1
  have h26 := two6 hP
  have hst := ho.2.1
  have htn := ho.2.2.2.1
  refine Ct_of (by decide) (Nat.le_of_ble_eq_true rfl) (lv := [(0, _), (1, _)]) rfl ?_
  unfold tearA
  refine X_aload_n (i := 0) (pc' := 1) dX5_tear_0 rfl rfl rfl ?_
  refine X_iload_n (i := 1) (pc' := 2) dX5_tear_1 rfl rfl rfl ?_
  refine X_OIp (As := [_]) (rest := []) (pc' := 5) dX5_tear_2 rfl k_X5_isLetter l_X5_112 v_X5_isLetter o_M_1 rfl ⟨by decide, by decide⟩ rfl rfl (Nat.le_of_ble_eq_true rfl) (d_isLetter cx τ hP g4 l) ?_
  refine X_if_ne (pc' := 8) (tgt := 10) dX5_tear_5 rfl (by decide) (fun h_5 => ?_) (fun h_5 => ?_)
  · obtain ⟨k, hk, rfl⟩ := kn_of (zI_1 h_5)
    rw [if_pos (kn_in hP hk).1, (kn_in hP hk).2]
    refine X_aload_n (i := 0) (pc' := 11) dX5_tear_10 rfl rfl rfl ?_
    refine X_iconst (pc' := 12) (v := nI 0) dX5_tear_11 rfl (by decide) ?_
    refine X_iload_n (i := 1) (pc' := 13) dX5_tear_12 rfl rfl rfl ?_
    refine X_OIp (As := [_, _]) (rest := []) (pc' := 16) dX5_tear_13 rfl k_X5_isSent l_X5_116 v_X5_isSent o_M_1 rfl ⟨by decide, by decide⟩ rfl rfl (Nat.le_of_ble_eq_true rfl) (d_isSent cx τ (lev := 0) (by decide) g5 (by omega) (show k < 31 by omega)) ?_
    refine X_if_ne (pc' := 19) (tgt := 33) dX5_tear_16 rfl (by decide) (fun h_16 => ?_) (fun h_16 => ?_)
    · refine X_bipush (pc' := 35) (v := (-3)) dX5_tear_33 rfl (by decide) ?_
      refine X_ri dX5_tear_35 rfl ⟨rfl, rfl⟩ ?_
      first
      | (rw [if_pos (Or.inl (zI_1 h_16))]; exact ⟨rfl, h.mono (by omega)⟩)
      | (rw [if_pos (Or.inr (zI_1 h_30))]; exact ⟨rfl, h.mono (by omega)⟩)
    · refine X_aload_n (i := 0) (pc' := 20) dX5_tear_19 rfl rfl rfl ?_
      refine X_get (pc' := 23) (v := .ref 4) dX5_tear_20 rfl (gf_X5_16 _ rfl) o_M_1 rfl rfl ?_
      refine X_bipush (pc' := 25) (v := nI 12) dX5_tear_23 rfl (by decide) ?_
      refine X_iald (pc' := 26) (j := 12) dX5_tear_25 rfl (Or.inl r_M_4) (rfl) (by decide) ?_
      refine X_eqi (nI (sTn (aS S))) (h2) ?_
      refine X_iload_n (i := 1) (pc' := 27) dX5_tear_26 rfl rfl rfl ?_
      refine X_SIp (As := [_, _]) (rest := []) (pc' := 30) dX5_tear_27 rfl k_X5_has l_X5_65 s_X5_has ⟨by decide, by decide⟩ rfl rfl (Nat.le_of_ble_eq_true rfl) (d_has cx τ (sTn (aS S)) k (by omega) (by omega)) ?_
      refine X_if_eq (pc' := 33) (tgt := 36) dX5_tear_30 rfl (by decide) (fun h_30 => ?_) (fun h_30 => ?_)
      · rw [if_neg (fun q => q.elim (zI_0.mp h_16) (zI_0.mp h_30))]
        refine X_aload_n (i := 0) (pc' := 37) dX5_tear_36 rfl rfl rfl ?_
        refine X_OV (As := []) (rest := []) (pc' := 40) dX5_tear_37 rfl k_X5_keepAct l_X5_125 v_X5_keepAct o_M_1 rfl ⟨by decide, by decide⟩ rfl rfl (Nat.le_of_ble_eq_true rfl) (d_keepAct cx τ hn6 g5 g6) (fun τ_37 h_37 => ?_)
        have hr4 := (h_37.1 4 (by decide)).1
        obtain ⟨s0, s1, s2, s3, s4, s5, s6⟩ := g5.row hr4
        refine X_aload_n (i := 0) (pc' := 41) dX5_tear_40 rfl rfl rfl ?_
        refine X_get (pc' := 44) (v := .ref 4) dX5_tear_41 rfl (gf_X5_16 _ rfl) o_M_1 rfl rfl ?_
        refine X_iload_n (i := 1) (pc' := 45) dX5_tear_44 rfl rfl rfl ?_
        refine X_iald (pc' := 46) (j := k) dX5_tear_45 rfl (Or.inl r_M_4) (rfl) (by omega) ?_
        refine X_eqi (nI (sWt (aS S) k)) (by have q := s0 k hk; rw [Nat.zero_add] at q; exact q) ?_
        refine X_istore_n (i := 2) (pc' := 47) (lv' := [(2, _), (0, _), (1, _)]) dX5_tear_46 rfl rfl (Nat.le_of_ble_eq_true rfl) rfl ?_
        refine X_aload_n (i := 0) (pc' := 48) dX5_tear_47 rfl rfl rfl ?_
        refine X_get (pc' := 51) (v := .ref 4) dX5_tear_48 rfl (gf_X5_16 _ rfl) o_M_1 rfl rfl ?_
        refine X_iload_n (i := 1) (pc' := 52) dX5_tear_51 rfl rfl rfl ?_
        refine X_iconst (pc' := 53) (v := nI 0) dX5_tear_52 rfl (by decide) ?_
        refine X_iast (pc' := 54) (j := k) dX5_tear_53 rfl r_M_4 (rfl) (by omega) ?_
        refine X_aload_n (i := 0) (pc' := 55) dX5_tear_54 rfl rfl rfl ?_
        refine X_get (pc' := 58) (v := .ref 4) dX5_tear_55 rfl (gf_X5_16 _ rfl) o_M_1 rfl rfl ?_
        refine X_bipush (pc' := 60) (v := nI 12) dX5_tear_58 rfl (by decide) ?_
        refine X_dup2 (pc' := 61) dX5_tear_60 rfl rfl rfl ?_
        refine X_iald (pc' := 62) (j := 12) dX5_tear_61 rfl (Or.inl r_M_4) (rfl) (by decide) ?_
        refine X_eqi (nI (sTn (aS S))) (by rw [xsi_un _ _ (by omega)]; exact s2) ?_
        refine X_iconst (pc' := 63) (v := nI 1) dX5_tear_62 rfl (by decide) ?_
        refine X_iload_n (i := 1) (pc' := 64) dX5_tear_63 rfl rfl rfl ?_
        refine X_ishl (pc' := 65) dX5_tear_64 rfl ?_
        refine X_eqi (nI (2 ^ k)) (bt_shl (by omega)) ?_
        refine X_ior (pc' := 66) dX5_tear_65 rfl ?_
        refine X_eqi (nI (sTn (aS S) ||| 2 ^ k)) (nI_or (by omega) (Nat.pow_lt_pow_right (by decide) (by omega))) ?_
        refine X_iast (pc' := 67) (j := 12) dX5_tear_66 rfl r_M_4 (rfl) (by decide) ?_
        refine X_iload_n (i := 2) (pc' := 68) dX5_tear_67 rfl rfl rfl ?_
        refine X_ri dX5_tear_68 rfl ⟨rfl, rfl⟩ ?_
        refine ⟨rfl, RM_act h ((tear_ok ho hk).mono (by omega)) h_37.1 h_37.2.1 h_37.2.2.1 h_37.2.2.2 ((xeq.rf.si (by decide)).si (by decide)) ?_⟩
        refine ⟨fun i hi => ?_, fun i hi => ?_, ?_, ?_, ?_, ?_, ?_⟩
        · rw [xsi_un _ _ (by omega)]
          show _ = nI (nset (sWt (aS S)) k 0 i)
          by_cases hik : i = k
          · subst hik; rw [Nat.zero_add, xsi_at, nset_s]
          · rw [xsi_un _ _ (by omega), nset_n _ _ hik]; exact s0 i hi
        · rw [xsi_un _ _ (by omega), xsi_un _ _ (by omega)]; exact s1 i hi
        · rw [xsi_at]; rfl
        · rw [xsi_un _ _ (by omega), xsi_un _ _ (by omega)]; exact s3
        · rw [xsi_un _ _ (by omega), xsi_un _ _ (by omega)]; exact s4
        · rw [xsi_un _ _ (by omega), xsi_un _ _ (by omega)]; exact s5
        · rw [xsi_un _ _ (by omega), xsi_un _ _ (by omega)]; exact s6
      · refine X_bipush (pc' := 35) (v := (-3)) dX5_tear_33 rfl (by decide) ?_
        refine X_ri dX5_tear_35 rfl ⟨rfl, rfl⟩ ?_
        first
        | (rw [if_pos (Or.inl (zI_1 h_16))]; exact ⟨rfl, h.mono (by omega)⟩)
        | (rw [if_pos (Or.inr (zI_1 h_30))]; exact ⟨rfl, h.mono (by omega)⟩)
  · refine X_iconst (pc' := 9) (v := (-1)) dX5_tear_8 rfl (by decide) ?_
    refine X_ri dX5_tear_9 rfl ⟨rfl, rfl⟩ ?_
    rw [if_neg (zI_0.mp h_5)]; exact ⟨rfl, h.mono (by omega)⟩
theorem d_card (τ : xT) {S : SA} {m : Nat} (h : RM τ m S) (hm : m < 4000) (l : Int32) : CI cx m_X5_card [.ref 1, .int l] PM τ (fun x τ' => x = (cardA S l).1 ∧ RM τ' (m + 1) (cardA S l).2) := by
  obtain ⟨g1, g2, g3, g4, g5, g6, g7, g8⟩ := id h
  obtain ⟨h0, h1, h2, h3, h4, h5, h6⟩ := id g5
  have hP := g1.2.2.1
  have ho := g1.2.2.2.1
  have hn6 := hP.1
  have h26 := two6 hP
  have hst := ho.2.1
  refine Ct_of (by decide) (Nat.le_of_ble_eq_true rfl) (lv := [(0, _), (1, _)]) rfl ?_
  unfold cardA
  refine X_aload_n (i := 0) (pc' := 1) dX5_card_0 rfl rfl rfl ?_
  refine X_iload_n (i := 1) (pc' := 2) dX5_card_1 rfl rfl rfl ?_
  refine X_OIp (As := [_]) (rest := []) (pc' := 5) dX5_card_2 rfl k_X5_isLetter l_X5_112 v_X5_isLetter o_M_1 rfl ⟨by decide, by decide⟩ rfl rfl (Nat.le_of_ble_eq_true rfl) (d_isLetter cx τ hP g4 l) ?_
  refine X_if_ne (pc' := 8) (tgt := 10) dX5_card_5 rfl (by decide) (fun h_5 => ?_) (fun h_5 => ?_)
  · obtain ⟨k, hk, rfl⟩ := kn_of (zI_1 h_5)
    rw [if_pos (kn_in hP hk).1, (kn_in hP hk).2]
    have hck := ho.2.2.2.2.2.2 k hk
    refine X_aload_n (i := 0) (pc' := 11) dX5_card_10 rfl rfl rfl ?_
    refine X_iconst (pc' := 12) (v := nI 0) dX5_card_11 rfl (by decide) ?_
    refine X_iload_n (i := 1) (pc' := 13) dX5_card_12 rfl rfl rfl ?_
    refine X_OIp (As := [_, _]) (rest := []) (pc' := 16) dX5_card_13 rfl k_X5_isSent l_X5_116 v_X5_isSent o_M_1 rfl ⟨by decide, by decide⟩ rfl rfl (Nat.le_of_ble_eq_true rfl) (d_isSent cx τ (lev := 0) (by decide) g5 (by omega) (show k < 31 by omega)) ?_
    refine X_if_ne (pc' := 19) (tgt := 31) dX5_card_16 rfl (by decide) (fun h_16 => ?_) (fun h_16 => ?_)
    · refine X_bipush (pc' := 33) (v := (-3)) dX5_card_31 rfl (by decide) ?_
      refine X_ri dX5_card_33 rfl ⟨rfl, rfl⟩ ?_
      first
      | (rw [if_pos (Or.inl (zI_1 h_16))]; exact ⟨rfl, h.mono (by omega)⟩)
      | (rw [if_pos (Or.inr (xpos_nI (by omega) h_28))]; exact ⟨rfl, h.mono (by omega)⟩)
    · refine X_aload_n (i := 0) (pc' := 20) dX5_card_19 rfl rfl rfl ?_
      refine X_get (pc' := 23) (v := .ref 4) dX5_card_20 rfl (gf_X5_16 _ rfl) o_M_1 rfl rfl ?_
      refine X_bipush (pc' := 25) (v := nI 6) dX5_card_23 rfl (by decide) ?_
      refine X_iload_n (i := 1) (pc' := 26) dX5_card_25 rfl rfl rfl ?_
      refine X_iadd (pc' := 27) dX5_card_26 rfl ?_
      refine X_iald (pc' := 28) (j := 6 + k) dX5_card_27 rfl (Or.inl r_M_4) (nI_add _ _) (by omega) ?_
      refine X_eqi (nI (sCk (aS S) k)) (by have q := h1 k hk; rw [Nat.zero_add] at q; exact q) ?_
      refine X_if_le (pc' := 31) (tgt := 34) dX5_card_28 rfl (by decide) (fun h_28 => ?_) (fun h_28 => ?_)
      · rw [if_neg (fun q => q.elim (zI_0.mp h_16) (fun q => xpos_nI' q (by omega) h_28))]
        refine X_aload_n (i := 0) (pc' := 35) dX5_card_34 rfl rfl rfl ?_
        refine X_OV (As := []) (rest := []) (pc' := 38) dX5_card_35 rfl k_X5_keepAct l_X5_125 v_X5_keepAct o_M_1 rfl ⟨by decide, by decide⟩ rfl rfl (Nat.le_of_ble_eq_true rfl) (d_keepAct cx τ hn6 g5 g6) (fun τ_35 h_35 => ?_)
        have hr4 := (h_35.1 4 (by decide)).1
        obtain ⟨s0, s1, s2, s3, s4, s5, s6⟩ := g5.row hr4
        have ho3 := card_ok ho k
        refine X_aload_n (i := 0) (pc' := 39) dX5_card_38 rfl rfl rfl ?_
        refine X_get (pc' := 42) (v := .ref 4) dX5_card_39 rfl (gf_X5_16 _ rfl) o_M_1 rfl rfl ?_
        refine X_bipush (pc' := 44) (v := nI 6) dX5_card_42 rfl (by decide) ?_
        refine X_iload_n (i := 1) (pc' := 45) dX5_card_44 rfl rfl rfl ?_
        refine X_iadd (pc' := 46) dX5_card_45 rfl ?_
        refine X_iconst (pc' := 47) (v := nI 3) dX5_card_46 rfl (by decide) ?_
        refine X_iast (pc' := 48) (j := 6 + k) dX5_card_47 rfl r_M_4 (nI_add _ _) (by omega) ?_
        have hs3 : MS (xsi τ_35 4 (6 + k) (nI 3)) 4 0 (pn (aP S)) (cardS (aS S) k) := by
          refine ⟨fun i hi => ?_, fun i hi => ?_, ?_, ?_, ?_, ?_, ?_⟩
          · rw [xsi_un _ _ (by omega)]; exact s0 i hi
          · show _ = nI (nset (sCk (aS S)) k 3 i)
            by_cases hik : i = k
            · subst hik; rw [Nat.zero_add, xsi_at, nset_s]
            · rw [xsi_un _ _ (by omega), nset_n _ _ hik]; exact s1 i hi
          · rw [xsi_un _ _ (by omega)]; exact s2
          · rw [xsi_un _ _ (by omega)]; exact s3
          · rw [xsi_un _ _ (by omega)]; exact s4
          · rw [xsi_un _ _ (by omega)]; exact s5
          · rw [xsi_un _ _ (by omega)]; exact s6
        have hT3 : MT (xsi τ_35 4 (6 + k) (nI 3)) (aP S) := (kA_mt g4 h_35.1 h_35.2.1).kept (xeq.rf.si (R := [4]) (by decide)) (by decide) (by decide) (by decide)
        refine X_aload_n (i := 0) (pc' := 49) dX5_card_48 rfl rfl rfl ?_
        refine X_iconst (pc' := 50) (v := nI 0) dX5_card_49 rfl (by decide) ?_
        refine X_iload_n (i := 1) (pc' := 51) dX5_card_50 rfl rfl rfl ?_
        refine X_OIp (As := [_, _]) (rest := []) (pc' := 54) dX5_card_51 rfl k_X5_priceOn l_X5_119 v_X5_priceOn o_M_1 rfl ⟨by decide, by decide⟩ rfl rfl (Nat.le_of_ble_eq_true rfl) (d_priceOn cx _ hP hT3 (lev := 0) (by decide) hs3 ho3 (by omega) hk) ?_
        refine X_ri dX5_card_54 rfl ⟨rfl, rfl⟩ ?_
        exact ⟨rfl, RM_act h (ho3.mono (by omega)) h_35.1 h_35.2.1 h_35.2.2.1 h_35.2.2.2 (xeq.rf.si (by decide)) hs3⟩
      · refine X_bipush (pc' := 33) (v := (-3)) dX5_card_31 rfl (by decide) ?_
        refine X_ri dX5_card_33 rfl ⟨rfl, rfl⟩ ?_
        first
        | (rw [if_pos (Or.inl (zI_1 h_16))]; exact ⟨rfl, h.mono (by omega)⟩)
        | (rw [if_pos (Or.inr (xpos_nI (by omega) h_28))]; exact ⟨rfl, h.mono (by omega)⟩)
  · refine X_iconst (pc' := 9) (v := (-1)) dX5_card_8 rfl (by decide) ?_
    refine X_ri dX5_card_9 rfl ⟨rfl, rfl⟩ ?_
    rw [if_neg (zI_0.mp h_5)]; exact ⟨rfl, h.mono (by omega)⟩
end MA
