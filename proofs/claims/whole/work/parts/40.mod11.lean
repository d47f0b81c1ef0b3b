/-! ===== the model: undo, keep, again, write, wipe, seed ===== -/
theorem zI_tf (b : Bool) : zI (b = true) = nI (if b then 1 else 0) := by cases b <;> rfl
theorem slotW {l : Int32} : ((lN 0).toInt ≤ l.toInt64.toInt ∧ l.toInt64.toInt ≤ (lN 1).toInt) ↔ slotOk l := by
  rw [inW (hi := 1) (by decide)]
  constructor
  · exact fun q => ⟨q.1, by omega⟩
  · exact fun q => ⟨q.1, by have := q.2; omega⟩
/-- the row of now was copied from a row elsewhere; of the first cell what isn't asked here has changed -/
theorem RM_now {τ τ2 : xT} {m m' : Nat} {S S' : SA} (h : RM τ m S) (hS : SAok m' S') (e1 : aT S' = aT S ∧ aL S' = aL S ∧ aP S' = aP S ∧ aC S' = aC S) (e : xeq [1, 4, 11, 12] τ τ2) (r0 : ∀ i, i < 3 → τ2.1 1 i = τ.1 1 i) (r1 : τ2.1 1 13 = τ.1 1 13) (r2 : τ2.2.1 1 = τ.2.1 1) (hs : MS τ2 4 0 (pn (aP S)) (aS S')) (ha : RI τ2 (pn (aP S)) (aA S')) (hk : KM τ2 (pn (aP S)) (aK S')) : RM τ2 m' S' := by
  obtain ⟨g1, g2, g3, g4, g5, g6, g7, g8⟩ := h
  refine ⟨hS, fun i hi => ?_, by rw [r1, e1.2.1]; exact g3, ?_, by rw [e1.2.2.1]; exact hs, by rw [e1.2.2.1]; exact ha, by rw [e1.2.2.1]; exact hk, by rw [r2, e1.2.2.2]; exact g8⟩
  · rw [(e 8 (by decide)).1, e1.1]; exact g2 i (by rw [← e1.2.1]; exact hi)
  · rw [e1.2.2.1]; exact g4.rows r0 (e 2 (by decide)).1 (e 3 (by decide)).1
section MB
variable (cx : xC)
set_option maxHeartbeats 4000000
set_option maxRecDepth 100000
theorem l2_undo (τ : xT) {b : Nat} (hb : b < 14) (hnx : τ.1 1 17 = nI b) (R : Int32 → xT → Prop) (hR : ∀ τ' : xT, xeq [4] τ τ' → (∀ i, i < 17 → τ'.1 4 i = τ.1 9 (17 * b + i)) → R (τ.1 1 16) τ') : ∀ (j : Nat) (τ' : xT), j ≤ 17 → (xeq [4] τ τ' ∧ ∀ i, i < j → τ'.1 4 i = τ.1 9 (17 * b + i)) → X cx m_X5_undo PM (qI PM R) 36 [(1, .int (nI j)), (0, .ref 1)] [] PM τ' := by
  refine xloop _ _ 17 (fun τ' g => ?_) (fun j τ' hj g ih => ?_)
  · obtain ⟨g1, g2⟩ := g
    have q1 := (g1 1 (by decide)).1
    refine X_iload_n (i := 1) (pc' := 37) dX5_undo_36 rfl rfl rfl ?_
    refine X_bipush (pc' := 39) (v := nI 17) dX5_undo_37 rfl (by decide) ?_
    refine X_icmp_ge (pc' := 42) (tgt := 68) dX5_undo_39 rfl (by decide) (fun h_39 => ?_) (fun h_39 => absurd (nI_le (Nat.le_refl _) (by omega)) h_39)
    refine X_aload_n (i := 0) (pc' := 69) dX5_undo_68 rfl rfl rfl ?_
    refine X_get (pc' := 72) (v := .int _) dX5_undo_69 rfl (gf_X5_102 _ rfl) o_M_1 rfl rfl ?_
    refine X_eqi (τ.1 1 16) (by rw [q1]) ?_
    refine X_ri dX5_undo_72 rfl ⟨rfl, rfl⟩ ?_
    exact hR τ' g1 g2
  · obtain ⟨g1, g2⟩ := g
    have q1 := (g1 1 (by decide)).1
    refine X_iload_n (i := 1) (pc' := 37) dX5_undo_36 rfl rfl rfl ?_
    refine X_bipush (pc' := 39) (v := nI 17) dX5_undo_37 rfl (by decide) ?_
    refine X_icmp_ge (pc' := 42) (tgt := 68) dX5_undo_39 rfl (by decide) (fun h_39 => absurd h_39 (nI_ge hj (by omega))) (fun h_39 => ?_)
    refine X_aload_n (i := 0) (pc' := 43) dX5_undo_42 rfl rfl rfl ?_
    refine X_get (pc' := 46) (v := .ref 4) dX5_undo_43 rfl (gf_X5_16 _ rfl) o_M_1 rfl rfl ?_
    refine X_iload_n (i := 1) (pc' := 47) dX5_undo_46 rfl rfl rfl ?_
    refine X_aload_n (i := 0) (pc' := 48) dX5_undo_47 rfl rfl rfl ?_
    refine X_get (pc' := 51) (v := .ref 9) dX5_undo_48 rfl (gf_X5_31 _ rfl) o_M_1 rfl rfl ?_
    refine X_bipush (pc' := 53) (v := nI 17) dX5_undo_51 rfl (by decide) ?_
    refine X_aload_n (i := 0) (pc' := 54) dX5_undo_53 rfl rfl rfl ?_
    refine X_get (pc' := 57) (v := .int _) dX5_undo_54 rfl (gf_X5_122 _ rfl) o_M_1 rfl rfl ?_
    refine X_eqi (nI b) (by rw [q1]; exact hnx) ?_
    refine X_imul (pc' := 58) dX5_undo_57 rfl ?_
    refine X_eqi (nI (17 * b)) (pk_mul _ _) ?_
    refine X_iload_n (i := 1) (pc' := 59) dX5_undo_58 rfl rfl rfl ?_
    refine X_iadd (pc' := 60) dX5_undo_59 rfl ?_
    refine X_iald (pc' := 61) (j := 17 * b + j) dX5_undo_60 rfl (Or.inl r_M_9) (nI_add _ _) (by omega) ?_
    refine X_eqi (τ.1 9 (17 * b + j)) (by rw [(g1 9 (by decide)).1]) ?_
    refine X_iast (pc' := 62) (j := j) dX5_undo_61 rfl r_M_4 (rfl) (by omega) ?_
    refine X_iinc (pc' := 65) (v := nI (j + 1)) (lv' := [(1, _), (0, _)]) dX5_undo_62 rfl rfl (nI_add _ _) (Nat.le_of_ble_eq_true rfl) rfl ?_
    refine X_goto (pc' := 0) (tgt := 36) dX5_undo_65 (by decide) ?_
    refine X_lv _ (by simp) (ih _ ⟨g1.si (by simp), fun i hi => ?_⟩)
    by_cases e : i = j
    · rw [e, xsi_at]
    · rw [xsi_un _ _ e]; exact g2 i (by omega)
theorem d_undo (τ : xT) {S : SA} {m : Nat} (h : RM τ m S) (hm : m < 4000) : CI cx m_X5_undo [.ref 1] PM τ (fun x τ' => x = (undoA S).1 ∧ RM τ' (m + 1) (undoA S).2) := by
  obtain ⟨g1, g2, g3, g4, g5, g6, g7, g8⟩ := id h
  obtain ⟨nx, a1, a2, a3, a4, a5⟩ := g6
  have hn6 := g1.2.2.1.1
  refine Ct_of (by decide) (Nat.le_of_ble_eq_true rfl) (lv := [(0, _)]) rfl ?_
  unfold undoA
  rcases hl : (aA S).getLast? with _ | s
  · have h0 : aA S = [] := List.getLast?_eq_none_iff.mp hl
    have hz : τ.1 1 16 = nI 0 := by rw [a3, h0]; rfl
    refine X_aload_n (i := 0) (pc' := 1) dX5_undo_0 rfl rfl rfl ?_
    refine X_get (pc' := 4) (v := .int _) dX5_undo_1 rfl (gf_X5_102 _ rfl) o_M_1 rfl rfl ?_
    refine X_eqi (nI 0) (hz) ?_
    refine X_if_ne (pc' := 7) (tgt := 10) dX5_undo_4 rfl (by decide) (fun h_4 => absurd h_4 (fun q => q rfl)) (fun h_4 => ?_)
    refine X_bipush (pc' := 9) (v := (-3)) dX5_undo_7 rfl (by decide) ?_
    refine X_ri dX5_undo_9 rfl ⟨rfl, rfl⟩ ?_
    exact ⟨rfl, h.mono (by omega)⟩
  · have hne : aA S ≠ [] := fun e => by rw [e] at hl; cases hl
    have hpos : 0 < (aA S).length := List.length_pos_iff.mpr hne
    have hget : (aA S)[(aA S).length - 1]? = some s := by rw [← hl, List.getLast?_eq_getElem?]
    have hlast := a5 _ s hget
    rw [show (nx + 14 - (aA S).length + ((aA S).length - 1)) % 14 = (nx + 13) % 14 by omega] at hlast
    refine X_aload_n (i := 0) (pc' := 1) dX5_undo_0 rfl rfl rfl ?_
    refine X_get (pc' := 4) (v := .int _) dX5_undo_1 rfl (gf_X5_102 _ rfl) o_M_1 rfl rfl ?_
    refine X_eqi (nI (aA S).length) (a3) ?_
    refine X_if_ne (pc' := 7) (tgt := 10) dX5_undo_4 rfl (by decide) (fun h_4 => ?_) (fun h_4 => absurd h_4 (fun q => absurd ((nI_eq (by omega) (by decide)).mp q) (Nat.ne_of_gt hpos)))
    refine X_aload_n (i := 0) (pc' := 11) dX5_undo_10 rfl rfl rfl ?_
    refine X_dup (pc' := 12) dX5_undo_11 rfl rfl ?_
    refine X_get (pc' := 15) (v := .int _) dX5_undo_12 rfl (gf_X5_102 _ rfl) o_M_1 rfl rfl ?_
    refine X_eqi (nI (aA S).length) (a3) ?_
    refine X_iconst (pc' := 16) (v := nI 1) dX5_undo_15 rfl (by decide) ?_
    refine X_isub (pc' := 17) dX5_undo_16 rfl ?_
    refine X_eqi (nI ((aA S).length - 1)) (pk_sub hpos) ?_
    refine X_putI (pc' := 20) dX5_undo_17 rfl (pf_X5_102 _ rfl) o_M_1 rfl ?_
    refine X_aload_n (i := 0) (pc' := 21) dX5_undo_20 rfl rfl rfl ?_
    refine X_aload_n (i := 0) (pc' := 22) dX5_undo_21 rfl rfl rfl ?_
    refine X_get (pc' := 25) (v := .int _) dX5_undo_22 rfl (gf_X5_122 _ rfl) o_M_1 rfl rfl ?_
    refine X_eqi (nI nx) (by rw [xsi_un _ _ (by decide)]; exact a2) ?_
    refine X_bipush (pc' := 27) (v := nI 13) dX5_undo_25 rfl (by decide) ?_
    refine X_iadd (pc' := 28) dX5_undo_27 rfl ?_
    refine X_eqi (nI (nx + 13)) (nI_add _ _) ?_
    refine X_bipush (pc' := 30) (v := nI 14) dX5_undo_28 rfl (by decide) ?_
    refine X_irem (pc' := 31) dX5_undo_30 rfl (by decide) ?_
    refine X_eqi (nI ((nx + 13) % 14)) (pk_rem (by omega) (by decide) (by decide)) ?_
    refine X_putI (pc' := 34) dX5_undo_31 rfl (pf_X5_122 _ rfl) o_M_1 rfl ?_
    refine X_iconst (pc' := 35) (v := nI 0) dX5_undo_34 rfl (by decide) ?_
    refine X_istore_n (i := 1) (pc' := 36) (lv' := [(1, _), (0, _)]) dX5_undo_35 rfl rfl (Nat.le_of_ble_eq_true rfl) rfl ?_
    refine X_lv _ (by simp) (l2_undo cx _ (b := (nx + 13) % 14) (by omega) (by rw [xsi_at]) _ (fun τ' e1 e2 => ?_) 0 _ (by decide) ⟨xeq.rf, fun i hi => absurd hi (Nat.not_lt_zero i)⟩)
    rw [xsi_un _ _ (by decide), xsi_at]
    have q1 := (e1 1 (by decide)).1
    have e : xeq [1, 4] τ τ' := ((xeq.rf.si (by simp)).si (by simp)).tr (e1.mono (by simp))
    have e9 : τ'.1 9 = τ.1 9 := (e 9 (by decide)).1
    have hr : ∀ i, i ≠ 16 → i ≠ 17 → τ'.1 1 i = τ.1 1 i := fun i h1 h2 => by rw [q1, xsi_un _ _ h2, xsi_un _ _ h1]
    refine ⟨rfl, RM_now (S' := wS S s (aA S).dropLast) h ?_ ⟨rfl, rfl, rfl, rfl⟩ (e.mono (by simp)) (fun i hi => hr i (by omega) (by omega)) (hr 13 (by decide) (by decide)) ?_ ?_ ?_ ?_⟩
    · obtain ⟨q1, q2, q3, q4, q5, q6, q7⟩ := g1
      refine ⟨q1, q2, q3, (q6 s (List.mem_of_getElem? hget)).mono (by omega), ?_, fun a ha => (q6 a ((List.dropLast_sublist _).subset ha)).mono (by omega), fun j a ha => (q7 j a ha).mono (by omega)⟩
      show (aA S).dropLast.length ≤ 14
      rw [List.length_dropLast]; omega
    · rw [(e1 1 (by decide)).2.1]; rfl
    · exact hlast.copy hn6 (fun i hi => by rw [Nat.zero_add]; exact e2 i hi)
    · refine ⟨(nx + 13) % 14, by omega, ?_, ?_, ?_, fun j s' hs' => ?_⟩
      · rw [q1, xsi_at]
      · rw [q1, xsi_un _ _ (by decide), xsi_at]
        show _ = nI (aA S).dropLast.length
        rw [List.length_dropLast]
      · show (aA S).dropLast.length ≤ 14
        rw [List.length_dropLast]; omega
      · have hs' : (aA S).dropLast[j]? = some s' := hs'
        have hj : j < (aA S).length - 1 := by
          have := (List.getElem?_eq_some_iff.mp hs').1
          rw [List.length_dropLast] at this
          exact this
        have hs2 : (aA S)[j]? = some s' := by
          rw [← hs', List.getElem?_dropLast, if_pos hj]
        have := (a5 j s' hs2).row e9
        show MS τ' 9 (17 * (((nx + 13) % 14 + 14 - (aA S).dropLast.length + j) % 14)) _ s'
        rw [List.length_dropLast, show ((nx + 13) % 14 + 14 - ((aA S).length - 1) + j) % 14 = (nx + 14 - (aA S).length + j) % 14 by omega]
        exact this
    · exact g7.rows (e 11 (by decide)).1 (e 12 (by decide)).1
theorem l2_keep {τ : xT} {S : SA} {m : Nat} (h : RM τ m S) {j : Nat} (hj : j < 2) : ∀ (i : Nat) (τ' : xT), i ≤ 17 → (xeq [12] (xsi τ 11 j (nI 1)) τ' ∧ (∀ c, c < i → τ'.1 12 (17 * j + c) = τ.1 4 c) ∧ ∀ c, c < 17 * j ∨ 17 * j + 17 ≤ c → τ'.1 12 c = τ.1 12 c) → X cx m_X5_keep PM (qI PM (fun x τ' => x = nI (sDy (aS S)) ∧ RM τ' (m + 1) (aT S, aL S, aP S, aS S, aA S, fun i => if i = j then some (aS S) else aK S i, aC S))) 21 [(2, .int (nI i)), (0, .ref 1), (1, .int (nI j))] [] PM τ' := by
  obtain ⟨g1, g2, g3, g4, g5, g6, g7, g8⟩ := id h
  have hn6 := g1.2.2.1.1
  refine xloop _ _ 17 (fun τ' g => ?_) (fun i τ' hi g ih => ?_)
  · obtain ⟨k1, k2, k3⟩ := g
    have e : xeq [11, 12] τ τ' := (xeq.rf.si (by simp)).tr (k1.mono (by simp))
    have r4 : τ'.1 4 = τ.1 4 := (e 4 (by decide)).1
    have r1 := e 1 (by decide)
    have r11 : τ'.1 11 = (xsi τ 11 j (nI 1)).1 11 := (k1 11 (by decide)).1
    refine X_iload_n (i := 2) (pc' := 22) dX5_keep_21 rfl rfl rfl ?_
    refine X_bipush (pc' := 24) (v := nI 17) dX5_keep_22 rfl (by decide) ?_
    refine X_icmp_ge (pc' := 27) (tgt := 50) dX5_keep_24 rfl (by decide) (fun h_24 => ?_) (fun h_24 => absurd (nI_le (Nat.le_refl _) (by omega)) h_24)
    refine X_aload_n (i := 0) (pc' := 51) dX5_keep_50 rfl rfl rfl ?_
    refine X_get (pc' := 54) (v := .ref 4) dX5_keep_51 rfl (gf_X5_16 _ rfl) o_M_1 rfl rfl ?_
    refine X_bipush (pc' := 56) (v := nI 14) dX5_keep_54 rfl (by decide) ?_
    refine X_iald (pc' := 57) (j := 14) dX5_keep_56 rfl (Or.inl r_M_4) (rfl) (by decide) ?_
    refine X_ri dX5_keep_57 rfl ⟨rfl, rfl⟩ ?_
    refine ⟨(g5.row r4).2.2.2.2.1, ?_, fun i hi => ?_, ?_, ?_, g5.row r4, g6.rows (by rw [r1.1]) (by rw [r1.1]) (e 9 (by decide)).1, fun i hi => ⟨?_, fun s hs => ?_⟩, ?_⟩
    · obtain ⟨q1, q2, q3, q4, q5, q6, q7⟩ := g1
      refine ⟨q1, q2, q3, q4.mono (by omega), q5, fun a ha => (q6 a ha).mono (by omega), fun i a ha => ?_⟩
      have ha : (if i = j then some (aS S) else aK S i) = some a := ha
      split at ha
      · cases ha; exact q4.mono (by omega)
      · exact (q7 i a ha).mono (by omega)
    · rw [(e 8 (by decide)).1]; exact g2 i hi
    · rw [r1.1]; exact g3
    · exact g4.rows (fun i hi => by rw [r1.1]) (e 2 (by decide)).1 (e 3 (by decide)).1
    · rw [r11]
      show _ = zI ((if i = j then some (aS S) else aK S i).isSome = true)
      by_cases hij : i = j
      · rw [hij, xsi_at, if_pos rfl]; rfl
      · rw [xsi_un _ _ hij, if_neg hij]; exact (g7 i hi).1
    · have hs : (if i = j then some (aS S) else aK S i) = some s := hs
      by_cases hij : i = j
      · subst hij
        rw [if_pos rfl] at hs
        cases hs
        exact g5.copy hn6 (fun c hc => (k2 c hc).trans (by rw [Nat.zero_add]))
      · rw [if_neg hij] at hs
        exact ((g7 i hi).2 s hs).copy hn6 (fun c hc => k3 _ (by omega))
    · rw [r1.2.1]; exact g8
  · obtain ⟨k1, k2, k3⟩ := g
    have e : xeq [11, 12] τ τ' := (xeq.rf.si (by simp)).tr (k1.mono (by simp))
    refine X_iload_n (i := 2) (pc' := 22) dX5_keep_21 rfl rfl rfl ?_
    refine X_bipush (pc' := 24) (v := nI 17) dX5_keep_22 rfl (by decide) ?_
    refine X_icmp_ge (pc' := 27) (tgt := 50) dX5_keep_24 rfl (by decide) (fun h_24 => absurd h_24 (nI_ge hi (by omega))) (fun h_24 => ?_)
    refine X_aload_n (i := 0) (pc' := 28) dX5_keep_27 rfl rfl rfl ?_
    refine X_get (pc' := 31) (v := .ref 12) dX5_keep_28 rfl (gf_X5_41 _ rfl) o_M_1 rfl rfl ?_
    refine X_bipush (pc' := 33) (v := nI 17) dX5_keep_31 rfl (by decide) ?_
    refine X_iload_n (i := 1) (pc' := 34) dX5_keep_33 rfl rfl rfl ?_
    refine X_imul (pc' := 35) dX5_keep_34 rfl ?_
    refine X_eqi (nI (17 * j)) (pk_mul _ _) ?_
    refine X_iload_n (i := 2) (pc' := 36) dX5_keep_35 rfl rfl rfl ?_
    refine X_iadd (pc' := 37) dX5_keep_36 rfl ?_
    refine X_eqi (nI (17 * j + i)) (nI_add _ _) ?_
    refine X_aload_n (i := 0) (pc' := 38) dX5_keep_37 rfl rfl rfl ?_
    refine X_get (pc' := 41) (v := .ref 4) dX5_keep_38 rfl (gf_X5_16 _ rfl) o_M_1 rfl rfl ?_
    refine X_iload_n (i := 2) (pc' := 42) dX5_keep_41 rfl rfl rfl ?_
    refine X_iald (pc' := 43) (j := i) dX5_keep_42 rfl (Or.inl r_M_4) (rfl) (by omega) ?_
    refine X_eqi (τ.1 4 i) (by rw [(e 4 (by decide)).1]) ?_
    refine X_iast (pc' := 44) (j := 17 * j + i) dX5_keep_43 rfl r_M_12 (rfl) (by omega) ?_
    refine X_iinc (pc' := 47) (v := nI (i + 1)) (lv' := [(2, _), (0, _), (1, _)]) dX5_keep_44 rfl rfl (nI_add _ _) (Nat.le_of_ble_eq_true rfl) rfl ?_
    refine X_goto (pc' := 0) (tgt := 21) dX5_keep_47 (by decide) ?_
    refine X_lv _ (by simp) (ih _ ⟨k1.si (by simp), fun c hc => ?_, fun c hc => ?_⟩)
    · by_cases e : c = i
      · rw [e, xsi_at]
      · rw [xsi_un _ _ (by omega)]; exact k2 c (by omega)
    · rw [xsi_un _ _ (by omega)]; exact k3 c hc
theorem d_keep (τ : xT) {S : SA} {m : Nat} (h : RM τ m S) (hm : m < 4000) (l : Int32) : CI cx m_X5_keep [.ref 1, .int l] PM τ (fun x τ' => x = (keepA S l).1 ∧ RM τ' (m + 1) (keepA S l).2) := by
  obtain ⟨g1, g2, g3, g4, g5, g6, g7, g8⟩ := id h
  obtain ⟨h0, h1, h2, h3, h4, h5, h6⟩ := id g5
  have hn6 := g1.2.2.1.1
  refine Ct_of (by decide) (Nat.le_of_ble_eq_true rfl) (lv := [(0, _), (1, _)]) rfl ?_
  unfold keepA
  refine X_iload_n (i := 1) (pc' := 1) dX5_keep_0 rfl rfl rfl ?_
  refine X_i2l (pc' := 2) dX5_keep_1 rfl ?_
  refine X_lconst (pc' := 3) (v := lN 0) dX5_keep_2 rfl rfl ?_
  refine X_lconst (pc' := 4) (v := lN 1) dX5_keep_3 rfl rfl ?_
  refine X_SIp (As := [_, _, _]) (rest := []) (pc' := 7) dX5_keep_4 rfl k_X5_in l_X5_50 s_X5_in ⟨by decide, by decide⟩ rfl rfl (Nat.le_of_ble_eq_true rfl) (d_in cx τ _ _ _) ?_
  refine X_if_ne (pc' := 10) (tgt := 12) dX5_keep_7 rfl (by decide) (fun h_7 => ?_) (fun h_7 => ?_)
  · have hsl := slotW.mp (zI_1 h_7)
    rw [if_pos hsl]
    obtain ⟨j, hj, rfl⟩ := slot_of hsl
    rw [(slot_in hj).2]
    refine X_aload_n (i := 0) (pc' := 13) dX5_keep_12 rfl rfl rfl ?_
    refine X_get (pc' := 16) (v := .ref 11) dX5_keep_13 rfl (gf_X5_37 _ rfl) o_M_1 rfl rfl ?_
    refine X_iload_n (i := 1) (pc' := 17) dX5_keep_16 rfl rfl rfl ?_
    refine X_iconst (pc' := 18) (v := nI 1) dX5_keep_17 rfl (by decide) ?_
    refine X_zast (pc' := 19) (j := j) dX5_keep_18 rfl r_M_11 (rfl) (hj) (rfl) ?_
    refine X_iconst (pc' := 20) (v := nI 0) dX5_keep_19 rfl (by decide) ?_
    refine X_istore_n (i := 2) (pc' := 21) (lv' := [(2, _), (0, _), (1, _)]) dX5_keep_20 rfl rfl (Nat.le_of_ble_eq_true rfl) rfl ?_
    have hlp : ∀ (i : Nat) (τ' : xT), i ≤ 17 → (xeq [12] (xsi τ 11 j (nI 1)) τ' ∧ (∀ c, c < i → τ'.1 12 (17 * j + c) = τ.1 4 c) ∧ ∀ c, c < 17 * j ∨ 17 * j + 17 ≤ c → τ'.1 12 c = τ.1 12 c) → X cx m_X5_keep PM (qI PM (fun x τ' => x = nI (sDy (aS S)) ∧ RM τ' (m + 1) (aT S, aL S, aP S, aS S, aA S, fun i => if i = j then some (aS S) else aK S i, aC S))) 21 [(2, .int (nI i)), (0, .ref 1), (1, .int (nI j))] [] PM τ' := l2_keep cx h hj
    exact X_lv _ (by simp) (hlp 0 _ (by decide) ⟨xeq.rf, fun i hi => absurd hi (Nat.not_lt_zero i), fun c _ => rfl⟩)
  · refine X_iconst (pc' := 11) (v := (-1)) dX5_keep_10 rfl (by decide) ?_
    refine X_ri dX5_keep_11 rfl ⟨rfl, rfl⟩ ?_
    rw [if_neg (fun q => (zI_0.mp h_7) (slotW.mpr q))]
    exact ⟨rfl, h.mono (by omega)⟩
theorem l2_again (τ : xT) {j : Nat} (hj : j < 2) (R : Int32 → xT → Prop) (hR : ∀ τ' : xT, xeq [4] τ τ' → (∀ i, i < 17 → τ'.1 4 i = τ.1 12 (17 * j + i)) → R (τ'.1 4 14) (xsi τ' 1 16 (nI 0))) : ∀ (i : Nat) (τ' : xT), i ≤ 17 → (xeq [4] τ τ' ∧ ∀ c, c < i → τ'.1 4 c = τ.1 12 (17 * j + c)) → X cx m_X5_again PM (qI PM R) 26 [(2, .int (nI i)), (0, .ref 1), (1, .int (nI j))] [] PM τ' := by
  refine xloop _ _ 17 (fun τ' g => ?_) (fun i τ' hi g ih => ?_)
  · obtain ⟨g1, g2⟩ := g
    refine X_iload_n (i := 2) (pc' := 27) dX5_again_26 rfl rfl rfl ?_
    refine X_bipush (pc' := 29) (v := nI 17) dX5_again_27 rfl (by decide) ?_
    refine X_icmp_ge (pc' := 32) (tgt := 55) dX5_again_29 rfl (by decide) (fun h_29 => ?_) (fun h_29 => absurd (nI_le (Nat.le_refl _) (by omega)) h_29)
    refine X_aload_n (i := 0) (pc' := 56) dX5_again_55 rfl rfl rfl ?_
    refine X_iconst (pc' := 57) (v := nI 0) dX5_again_56 rfl (by decide) ?_
    refine X_putI (pc' := 60) dX5_again_57 rfl (pf_X5_102 _ rfl) o_M_1 rfl ?_
    refine X_aload_n (i := 0) (pc' := 61) dX5_again_60 rfl rfl rfl ?_
    refine X_get (pc' := 64) (v := .ref 4) dX5_again_61 rfl (gf_X5_16 _ rfl) o_M_1 rfl rfl ?_
    refine X_bipush (pc' := 66) (v := nI 14) dX5_again_64 rfl (by decide) ?_
    refine X_iald (pc' := 67) (j := 14) dX5_again_66 rfl (Or.inl r_M_4) (rfl) (by decide) ?_
    refine X_ri dX5_again_67 rfl ⟨rfl, rfl⟩ ?_
    exact hR τ' g1 g2
  · obtain ⟨g1, g2⟩ := g
    refine X_iload_n (i := 2) (pc' := 27) dX5_again_26 rfl rfl rfl ?_
    refine X_bipush (pc' := 29) (v := nI 17) dX5_again_27 rfl (by decide) ?_
    refine X_icmp_ge (pc' := 32) (tgt := 55) dX5_again_29 rfl (by decide) (fun h_29 => absurd h_29 (nI_ge hi (by omega))) (fun h_29 => ?_)
    refine X_aload_n (i := 0) (pc' := 33) dX5_again_32 rfl rfl rfl ?_
    refine X_get (pc' := 36) (v := .ref 4) dX5_again_33 rfl (gf_X5_16 _ rfl) o_M_1 rfl rfl ?_
    refine X_iload_n (i := 2) (pc' := 37) dX5_again_36 rfl rfl rfl ?_
    refine X_aload_n (i := 0) (pc' := 38) dX5_again_37 rfl rfl rfl ?_
    refine X_get (pc' := 41) (v := .ref 12) dX5_again_38 rfl (gf_X5_41 _ rfl) o_M_1 rfl rfl ?_
    refine X_bipush (pc' := 43) (v := nI 17) dX5_again_41 rfl (by decide) ?_
    refine X_iload_n (i := 1) (pc' := 44) dX5_again_43 rfl rfl rfl ?_
    refine X_imul (pc' := 45) dX5_again_44 rfl ?_
    refine X_eqi (nI (17 * j)) (pk_mul _ _) ?_
    refine X_iload_n (i := 2) (pc' := 46) dX5_again_45 rfl rfl rfl ?_
    refine X_iadd (pc' := 47) dX5_again_46 rfl ?_
    refine X_iald (pc' := 48) (j := 17 * j + i) dX5_again_47 rfl (Or.inl r_M_12) (nI_add _ _) (by omega) ?_
    refine X_eqi (τ.1 12 (17 * j + i)) (by rw [(g1 12 (by decide)).1]) ?_
    refine X_iast (pc' := 49) (j := i) dX5_again_48 rfl r_M_4 (rfl) (by omega) ?_
    refine X_iinc (pc' := 52) (v := nI (i + 1)) (lv' := [(2, _), (0, _), (1, _)]) dX5_again_49 rfl rfl (nI_add _ _) (Nat.le_of_ble_eq_true rfl) rfl ?_
    refine X_goto (pc' := 0) (tgt := 26) dX5_again_52 (by decide) ?_
    refine X_lv _ (by simp) (ih _ ⟨g1.si (by simp), fun c hc => ?_⟩)
    by_cases e : c = i
    · rw [e, xsi_at]
    · rw [xsi_un _ _ e]; exact g2 c (by omega)
theorem d_again (τ : xT) {S : SA} {m : Nat} (h : RM τ m S) (hm : m < 4000) (l : Int32) : CI cx m_X5_again [.ref 1, .int l] PM τ (fun x τ' => x = (againA S l).1 ∧ RM τ' (m + 1) (againA S l).2) := by
  obtain ⟨g1, g2, g3, g4, g5, g6, g7, g8⟩ := id h
  have hn6 := g1.2.2.1.1
  refine Ct_of (by decide) (Nat.le_of_ble_eq_true rfl) (lv := [(0, _), (1, _)]) rfl ?_
  unfold againA
  refine X_iload_n (i := 1) (pc' := 1) dX5_again_0 rfl rfl rfl ?_
  refine X_i2l (pc' := 2) dX5_again_1 rfl ?_
  refine X_lconst (pc' := 3) (v := lN 0) dX5_again_2 rfl rfl ?_
  refine X_lconst (pc' := 4) (v := lN 1) dX5_again_3 rfl rfl ?_
  refine X_SIp (As := [_, _, _]) (rest := []) (pc' := 7) dX5_again_4 rfl k_X5_in l_X5_50 s_X5_in ⟨by decide, by decide⟩ rfl rfl (Nat.le_of_ble_eq_true rfl) (d_in cx τ _ _ _) ?_
  refine X_if_ne (pc' := 10) (tgt := 12) dX5_again_7 rfl (by decide) (fun h_7 => ?_) (fun h_7 => ?_)
  · have hsl := slotW.mp (zI_1 h_7)
    rw [if_pos hsl]
    obtain ⟨j, hj, rfl⟩ := slot_of hsl
    rw [(slot_in hj).2]
    have hkj := g7 j hj
    refine X_aload_n (i := 0) (pc' := 13) dX5_again_12 rfl rfl rfl ?_
    refine X_get (pc' := 16) (v := .ref 11) dX5_again_13 rfl (gf_X5_37 _ rfl) o_M_1 rfl rfl ?_
    refine X_iload_n (i := 1) (pc' := 17) dX5_again_16 rfl rfl rfl ?_
    refine X_zald (pc' := 18) (j := j) dX5_again_17 rfl r_M_11 (rfl) (hj) ?_
    refine X_eqi (zI ((aK S j).isSome = true)) (hkj.1) ?_
    refine X_if_ne (pc' := 21) (tgt := 24) dX5_again_18 rfl (by decide) (fun h_18 => ?_) (fun h_18 => ?_)
    · refine X_iconst (pc' := 25) (v := nI 0) dX5_again_24 rfl (by decide) ?_
      refine X_istore_n (i := 2) (pc' := 26) (lv' := [(2, _), (0, _), (1, _)]) dX5_again_25 rfl rfl (Nat.le_of_ble_eq_true rfl) rfl ?_
      rcases hK : aK S j with _ | s
      · exact absurd (zI_1 h_18) (by rw [hK]; decide)
      · refine X_lv _ (by simp) (l2_again cx τ hj _ (fun τ' e1 e2 => ?_) 0 _ (by decide) ⟨xeq.rf, fun i hi => absurd hi (Nat.not_lt_zero i)⟩)
        have hs : MS τ' 4 0 (pn (aP S)) s := (hkj.2 s hK).copy hn6 (fun i hi => by rw [Nat.zero_add]; exact e2 i hi)
        have q1 := (e1 1 (by decide)).1
        have e : xeq [1, 4] τ (xsi τ' 1 16 (nI 0)) := (e1.mono (by simp)).si (by simp)
        have hs2 : MS (xsi τ' 1 16 (nI 0)) 4 0 (pn (aP S)) s := hs.row (xsi_ne _ _ _ (by decide))
        refine ⟨hs.2.2.2.2.1, RM_now (S' := wS S s []) h ?_ ⟨rfl, rfl, rfl, rfl⟩ (e.mono (by simp)) (fun i hi => by rw [xsi_un _ _ (by omega), q1]) (by rw [xsi_un _ _ (by decide), q1]) ?_ hs2 ?_ ?_⟩
        · obtain ⟨q1, q2, q3, q4, q5, q6, q7⟩ := g1
          exact ⟨q1, q2, q3, (q7 j s hK).mono (by omega), Nat.zero_le _, fun a ha => (by cases ha), fun i a ha => (q7 i a ha).mono (by omega)⟩
        · show τ'.2.1 1 = _
          rw [(e1 1 (by decide)).2.1]
        · obtain ⟨nx, a1, a2, a3, a4, a5⟩ := g6
          exact ⟨nx, a1, by rw [xsi_un _ _ (by decide), q1]; exact a2, by rw [xsi_at]; rfl, Nat.zero_le _, fun i s' hs' => (by cases hs')⟩
        · exact g7.rows (e 11 (by decide)).1 (e 12 (by decide)).1
    · refine X_bipush (pc' := 23) (v := (-3)) dX5_again_21 rfl (by decide) ?_
      refine X_ri dX5_again_23 rfl ⟨rfl, rfl⟩ ?_
      rcases hK : aK S j with _ | s
      · exact ⟨rfl, h.mono (by omega)⟩
      · exact absurd (by rw [hK]; rfl) (zI_0.mp h_18)
  · refine X_iconst (pc' := 11) (v := (-1)) dX5_again_10 rfl (by decide) ?_
    refine X_ri dX5_again_11 rfl ⟨rfl, rfl⟩ ?_
    rw [if_neg (fun q => (zI_0.mp h_7) (slotW.mpr q))]
    exact ⟨rfl, h.mono (by omega)⟩
theorem d_wipe (τ : xT) {S : SA} {m : Nat} (h : RM τ m S) : CI cx m_X5_wipe [.ref 1] PM τ (fun x τ' => x = (wipeA S).1 ∧ RM τ' (m + 1) (wipeA S).2) := by
  obtain ⟨g1, g2, g3, g4, g5, g6, g7, g8⟩ := id h
  refine Ct_of (by decide) (Nat.le_of_ble_eq_true rfl) (lv := [(0, _)]) rfl ?_
  refine X_aload_n (i := 0) (pc' := 1) dX5_wipe_0 rfl rfl rfl ?_
  refine X_get (pc' := 4) (v := .int _) dX5_wipe_1 rfl (gf_X5_54 _ rfl) o_M_1 rfl rfl ?_
  refine X_istore_n (i := 1) (pc' := 5) (lv' := [(1, _), (0, _)]) dX5_wipe_4 rfl rfl (Nat.le_of_ble_eq_true rfl) rfl ?_
  refine X_aload_n (i := 0) (pc' := 6) dX5_wipe_5 rfl rfl rfl ?_
  refine X_iconst (pc' := 7) (v := nI 0) dX5_wipe_6 rfl (by decide) ?_
  refine X_putI (pc' := 10) dX5_wipe_7 rfl (pf_X5_54 _ rfl) o_M_1 rfl ?_
  refine X_iload_n (i := 1) (pc' := 11) dX5_wipe_10 rfl rfl rfl ?_
  refine X_ri dX5_wipe_11 rfl ⟨rfl, rfl⟩ ?_
  refine ⟨g3, ?_, fun i hi => absurd hi (Nat.not_lt_zero i), by rw [xsi_at]; rfl, g4.rows (fun i hi => xsi_un _ _ (by omega)) rfl rfl, g5.row (xsi_ne _ _ _ (by decide)), g6.rows (xsi_un _ _ (by decide)) (xsi_un _ _ (by decide)) (xsi_ne _ _ _ (by decide)), g7.rows (xsi_ne _ _ _ (by decide)) (xsi_ne _ _ _ (by decide)), g8⟩
  obtain ⟨q1, q2, q3, q4⟩ := g1.mono (Nat.le_succ m)
  exact ⟨Nat.zero_le _, fun i hi => absurd hi (Nat.not_lt_zero i), q3, q4⟩
theorem d_seed (τ : xT) {S : SA} {m : Nat} (h : RM τ m S) (v : Int64) : CL cx m_X5_seed [.ref 1, .long v] PM τ (fun x τ' => x = (seedA S v).1 ∧ RM τ' (m + 1) (seedA S v).2) := by
  obtain ⟨g1, g2, g3, g4, g5, g6, g7, g8⟩ := id h
  refine Ct_of (by decide) (Nat.le_of_ble_eq_true rfl) (lv := [(0, _), (1, _)]) rfl ?_
  refine X_aload_n (i := 0) (pc' := 1) dX5_seed_0 rfl rfl rfl ?_
  refine X_get (pc' := 4) (v := .long _) dX5_seed_1 rfl (gf_X5_197 _ rfl) o_M_1 rfl rfl ?_
  refine X_lstore_n (i := 3) (pc' := 5) (lv' := [(3, _), (0, _), (1, _)]) dX5_seed_4 rfl rfl (Nat.le_of_ble_eq_true rfl) rfl ?_
  refine X_aload_n (i := 0) (pc' := 6) dX5_seed_5 rfl rfl rfl ?_
  refine X_lload_n (i := 1) (pc' := 7) dX5_seed_6 rfl rfl rfl ?_
  refine X_putL (pc' := 10) dX5_seed_7 rfl (pf_X5_197 _ rfl) o_M_1 rfl ?_
  refine X_lload_n (i := 3) (pc' := 11) dX5_seed_10 rfl rfl rfl ?_
  refine X_rl dX5_seed_11 rfl ⟨rfl, rfl⟩ ?_
  refine ⟨g8, g1.mono (Nat.le_succ m), g2, g3, g4, g5, g6, g7, ?_⟩
  rw [xsl_self, pk_uLs]; rfl
theorem d_write (τ : xT) {S : SA} {m : Nat} (h : RM τ m S) (c : Int32) : CI cx m_X5_write [.ref 1, .int c] PM τ (fun x τ' => x = (writeA S c).1 ∧ RM τ' (m + 1) (writeA S c).2) := by
  obtain ⟨g1, g2, g3, g4, g5, g6, g7, g8⟩ := id h
  have hL := g1.1
  refine Ct_of (by decide) (Nat.le_of_ble_eq_true rfl) (lv := [(0, _), (1, _)]) rfl ?_
  unfold writeA
  refine X_iload_n (i := 1) (pc' := 1) dX5_write_0 rfl rfl rfl ?_
  refine X_i2l (pc' := 2) dX5_write_1 rfl ?_
  refine X_lconst (pc' := 3) (v := lN 0) dX5_write_2 rfl rfl ?_
  refine X_ldc2 (pc' := 6) (v := lN 255) dX5_write_3 rfl cn_X5_48 ?_
  refine X_SIp (As := [_, _, _]) (rest := []) (pc' := 9) dX5_write_6 rfl k_X5_in l_X5_50 s_X5_in ⟨by decide, by decide⟩ rfl rfl (Nat.le_of_ble_eq_true rfl) (d_in cx τ _ _ _) ?_
  refine X_if_ne (pc' := 12) (tgt := 15) dX5_write_9 rfl (by decide) (fun h_9 => ?_) (fun h_9 => ?_)
  · have hc := (inW (hi := 255) (by decide)).mp (zI_1 h_9)
    rw [if_pos (show 0 ≤ c.toInt ∧ c.toInt ≤ 255 from hc)]
    obtain ⟨v, hv, rfl⟩ := xsw_of (x := c) (n := 255) (by omega) (by decide)
    rw [nI_toInt (by omega)]
    refine X_aload_n (i := 0) (pc' := 16) dX5_write_15 rfl rfl rfl ?_
    refine X_get (pc' := 19) (v := .int _) dX5_write_16 rfl (gf_X5_54 _ rfl) o_M_1 rfl rfl ?_
    refine X_eqi (nI (aL S)) (g3) ?_
    refine X_bipush (pc' := 21) (v := nI 48) dX5_write_19 rfl (by decide) ?_
    refine X_icmp_ne (pc' := 24) (tgt := 27) dX5_write_21 rfl (by decide) (fun h_21 => ?_) (fun h_21 => ?_)
    · have hL48 : aL S < 48 := by
        have : ¬ aL S = 48 := fun q => h_21 (by rw [q])
        omega
      rw [if_pos hL48]
      refine X_aload_n (i := 0) (pc' := 28) dX5_write_27 rfl rfl rfl ?_
      refine X_get (pc' := 31) (v := .ref 8) dX5_write_28 rfl (gf_X5_28 _ rfl) o_M_1 rfl rfl ?_
      refine X_aload_n (i := 0) (pc' := 32) dX5_write_31 rfl rfl rfl ?_
      refine X_get (pc' := 35) (v := .int _) dX5_write_32 rfl (gf_X5_54 _ rfl) o_M_1 rfl rfl ?_
      refine X_eqi (nI (aL S)) (g3) ?_
      refine X_iload_n (i := 1) (pc' := 36) dX5_write_35 rfl rfl rfl ?_
      refine X_iast (pc' := 37) (j := aL S) dX5_write_36 rfl r_M_8 (rfl) (hL48) ?_
      refine X_aload_n (i := 0) (pc' := 38) dX5_write_37 rfl rfl rfl ?_
      refine X_dup (pc' := 39) dX5_write_38 rfl rfl ?_
      refine X_get (pc' := 42) (v := .int _) dX5_write_39 rfl (gf_X5_54 _ rfl) o_M_1 rfl rfl ?_
      refine X_eqi (nI (aL S)) (by rw [xsi_ne _ _ _ (by decide)]; exact g3) ?_
      refine X_iconst (pc' := 43) (v := nI 1) dX5_write_42 rfl (by decide) ?_
      refine X_iadd (pc' := 44) dX5_write_43 rfl ?_
      refine X_eqi (nI (aL S + 1)) (nI_add _ _) ?_
      refine X_putI (pc' := 47) dX5_write_44 rfl (pf_X5_54 _ rfl) o_M_1 rfl ?_
      refine X_aload_n (i := 0) (pc' := 48) dX5_write_47 rfl rfl rfl ?_
      refine X_get (pc' := 51) (v := .int _) dX5_write_48 rfl (gf_X5_54 _ rfl) o_M_1 rfl rfl ?_
      refine X_ri dX5_write_51 rfl ⟨rfl, rfl⟩ ?_
      refine ⟨by rw [xsi_at], ?_, fun i hi => ?_, by rw [xsi_at], g4.rows (fun i hi => by rw [xsi_un _ _ (by omega), xsi_ne _ _ _ (by decide)]) rfl rfl, g5.row rfl, g6.rows (by rw [xsi_un _ _ (by decide), xsi_ne _ _ _ (by decide)]) (by rw [xsi_un _ _ (by decide), xsi_ne _ _ _ (by decide)]) rfl, g7.rows rfl rfl, g8⟩
      · obtain ⟨q1, q2, q3, q4⟩ := g1.mono (Nat.le_succ m)
        refine ⟨hL48, fun i hi => ?_, q3, q4⟩
        have hi : i < aL S + 1 := hi
        show nset (aT S) (aL S) _ i < 256
        unfold nset
        split
        · omega
        · exact q2 i (by omega)
      · have hi : i < aL S + 1 := hi
        show _ = nI (nset (aT S) (aL S) _ i)
        rw [xsi_ne _ _ _ (by decide)]
        by_cases hil : i = aL S
        · subst hil; rw [xsi_at, nset_s]; congr 1
        · rw [xsi_un _ _ hil, nset_n _ _ hil]; exact g2 i (by omega)
    · refine X_bipush (pc' := 26) (v := (-4)) dX5_write_24 rfl (by decide) ?_
      refine X_ri dX5_write_26 rfl ⟨rfl, rfl⟩ ?_
      rw [if_neg (by have := (nI_eq (by omega) (by decide)).mp h_21; omega)]
      exact ⟨rfl, h.mono (Nat.le_succ m)⟩
  · refine X_bipush (pc' := 14) (v := (-2)) dX5_write_12 rfl (by decide) ?_
    refine X_ri dX5_write_14 rfl ⟨rfl, rfl⟩ ?_
    rw [if_neg (show ¬ (0 ≤ c.toInt ∧ c.toInt ≤ 255) from fun q => (zI_0.mp h_9) ((inW (hi := 255) (by decide)).mpr q))]
    exact ⟨rfl, h.mono (Nat.le_succ m)⟩
end MB
