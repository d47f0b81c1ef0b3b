/-! ===== undo, keep, again, write, wipe, seed ===== -/
/-- the now alone was written, and in the first cell what isn't asked here -/
theorem RW_now {τ τ2 : xT} {m m' : Nat} {S S' : SA} (h : RW τ m S) (hS : SAok m' S') (e1 : aT S' = aT S ∧ aL S' = aL S ∧ aP S' = aP S ∧ aC S' = aC S) (e : xeq [1, 12, 13, 14] τ τ2) (r1 : τ2.1 1 1 = τ.1 1 1) (r2 : τ2.2.1 1 = τ.2.1 1) (hs : SR τ2 12 (pn (aP S)) (aS S')) (ha : AW τ2 (pn (aP S)) (aA S')) (hk : KW τ2 (pn (aP S)) (aK S')) : RW τ2 m' S' := by
  obtain ⟨g1, g2, g3, g4, g5, g6, g7, g8⟩ := h
  refine ⟨hS, fun i hi => ?_, by rw [r1, e1.2.1]; exact g3, ?_, by rw [e1.2.2.1]; exact hs, by rw [e1.2.2.1]; exact ha, by rw [e1.2.2.1]; exact hk, by rw [r2, e1.2.2.2]; exact g8⟩
  · rw [(e 2 (by decide)).1, e1.1]; exact g2 i (by rw [← e1.2.1]; exact hi)
  · rw [e1.2.2.1]; exact g4.kept e (by decide) (by decide) (by decide)
theorem now_rows {τ τ2 : xT} (e : xeq [1, 12, 13, 14] τ τ2) : (∀ k ∈ actW, τ2.1 k = τ.1 k ∧ τ2.1 (k + 1) = τ.1 (k + 1) ∧ τ2.1 (k + 2) = τ.1 (k + 2)) ∧ ∀ k, 62 ≤ k → k ≤ 67 → τ2.1 k = τ.1 k := by
  have a12 : ∀ k ∈ actW, k ∉ [1, 12, 13, 14] ∧ k + 1 ∉ [1, 12, 13, 14] ∧ k + 2 ∉ [1, 12, 13, 14] := by decide +kernel
  refine ⟨fun k hk => ?_, fun k h1 h2 => (e k (by simp; omega)).1⟩
  have := a12 k hk
  exact ⟨(e _ this.1).1, (e _ this.2.1).1, (e _ this.2.2).1⟩
def writeA (S : SA) (c : Int32) : Int32 × SA := if 0 ≤ c.toInt ∧ c.toInt ≤ 255 then (if aL S < 48 then (nI (aL S + 1), (nset (aT S) (aL S) c.toInt.toNat, aL S + 1, aP S, aS S, aA S, aK S, aC S)) else (-4, S)) else (-2, S)
def wipeA (S : SA) : Int32 × SA := (nI (aL S), (aT S, 0, aP S, aS S, aA S, aK S, aC S))
def seedA (S : SA) (v : Int64) : Int64 × SA := (aC S, (aT S, aL S, aP S, aS S, aA S, aK S, v))
theorem bt_slot : ∀ kb, kb < 4 → ∀ i, i < 2 → ∀ j, j < 2 → (kb ||| 2 ^ j < 4 ∧ (bt (kb ||| 2 ^ j) i ↔ bt kb i ∨ i = j)) := by decide +kernel
theorem slot_of {l : Int32} (h : slotOk l) : ∃ j : Nat, j < 2 ∧ l = nI j := ⟨l.toInt.toNat, by omega, (nI_of3 h.1).1⟩
theorem slot_in {j : Nat} (h : j < 2) : slotOk (nI j) ∧ (nI j).toInt.toNat = j := by
  rw [slotOk, nI_toInt (by omega)]
  omega
theorem kept_st : ∀ j, j < 2 → (62 + 3 * j) ∈ stW ∧ 62 + 3 * j ≠ 12 ∧ 12 ≠ 62 + 3 * j := by decide +kernel
section A2
variable (cx : xC)
set_option maxHeartbeats 4000000
set_option maxRecDepth 100000
theorem c_undo (τ : xT) {S : SA} {m : Nat} (h : RW τ m S) (hm : m < 4000) : CI cx m_X4_undo [.ref 1] PW τ (fun x τ' => x = (undoA S).1 ∧ RW τ' (m + 1) (undoA S).2) := by
  obtain ⟨g1, g2, g3, g4, g5, g6, g7, g8⟩ := id h
  obtain ⟨a1, a2, a3, a4, a5⟩ := g6
  have hn6 := g1.2.2.1.1
  refine Ct_of (by decide) (Nat.le_of_ble_eq_true rfl) (lv := [(0, _)]) rfl ?_
  unfold undoA
  rcases hl : (aA S).getLast? with _ | s
  · have h0 : aA S = [] := List.getLast?_eq_none_iff.mp hl
    have hz : τ.1 1 7 = nI 0 := by rw [a1, h0]; rfl
    refine X_aload_n (i := 0) (pc' := 1) dX4_undo_0 rfl rfl rfl ?_
    refine X_get (pc' := 4) (v := .int _) dX4_undo_1 rfl (gf_X4_72 _ rfl) o_W_1 rfl rfl ?_
    refine X_eqi (nI 0) (hz) ?_
    refine X_if_le (pc' := 7) (tgt := 19) dX4_undo_4 rfl (by decide) (fun h_4 => ?_) (fun h_4 => absurd (by decide) h_4)
    refine X_bipush (pc' := 21) (v := (-3)) dX4_undo_19 rfl (by decide) ?_
    refine X_ri dX4_undo_21 rfl ⟨rfl, rfl⟩ ?_
    exact ⟨rfl, h.mono (by omega)⟩
  · have hne : aA S ≠ [] := fun e => by rw [e] at hl; cases hl
    have hpos : 0 < (aA S).length := List.length_pos_iff.mpr hne
    have hget : (aA S)[(aA S).length - 1]? = some s := by rw [← hl, List.getLast?_eq_getElem?]
    have hm1 := a3 ((aA S).length - 1) (by omega)
    have hst := act_st _ hm1
    have hne12 := (act_ne _ hm1).2
    have hbo := (act_ne _ hm1).2.2
    have hsr := a5 _ s hget
    refine X_aload_n (i := 0) (pc' := 1) dX4_undo_0 rfl rfl rfl ?_
    refine X_get (pc' := 4) (v := .int _) dX4_undo_1 rfl (gf_X4_72 _ rfl) o_W_1 rfl rfl ?_
    refine X_eqi (nI (aA S).length) (a1) ?_
    refine X_if_le (pc' := 7) (tgt := 19) dX4_undo_4 rfl (by decide) (fun h_4 => absurd h_4 (nI_nle hpos (by omega))) (fun h_4 => ?_)
    refine X_aload_n (i := 0) (pc' := 8) dX4_undo_7 rfl rfl rfl ?_
    refine X_get (pc' := 11) (v := .int _) dX4_undo_8 rfl (gf_X4_72 _ rfl) o_W_1 rfl rfl ?_
    refine X_eqi (nI (aA S).length) (a1) ?_
    refine X_aload_n (i := 0) (pc' := 12) dX4_undo_11 rfl rfl rfl ?_
    refine X_get (pc' := 15) (v := .ref 18) dX4_undo_12 rfl (gf_X4_37 _ rfl) o_W_1 rfl rfl ?_
    refine X_alen (pc' := 16) dX4_undo_15 rfl (Or.inl ⟨r_W_18, by decide⟩) ?_
    refine X_icmp_le (pc' := 19) (tgt := 22) dX4_undo_16 rfl (by decide) (fun h_16 => ?_) (fun h_16 => absurd (nI_le a2 (by decide)) h_16)
    refine X_aload_n (i := 0) (pc' := 23) dX4_undo_22 rfl rfl rfl ?_
    refine X_dup (pc' := 24) dX4_undo_23 rfl rfl ?_
    refine X_get (pc' := 27) (v := .int _) dX4_undo_24 rfl (gf_X4_72 _ rfl) o_W_1 rfl rfl ?_
    refine X_eqi (nI (aA S).length) (a1) ?_
    refine X_iconst (pc' := 28) (v := nI 1) dX4_undo_27 rfl (by decide) ?_
    refine X_isub (pc' := 29) dX4_undo_28 rfl ?_
    refine X_eqi (nI ((aA S).length - 1)) (pk_sub hpos) ?_
    refine X_putI (pc' := 32) dX4_undo_29 rfl (pf_X4_72 _ rfl) o_W_1 rfl ?_
    have hrowk : SR (xsi τ 1 7 (nI ((aA S).length - 1))) (τ.2.2 18 ((aA S).length - 1)) (pn (aP S)) s := SR_rows hsr (xsi_ne _ _ _ (by omega)) (xsi_ne _ _ _ (by omega)) (xsi_ne _ _ _ (by omega))
    refine X_aload_n (i := 0) (pc' := 33) dX4_undo_32 rfl rfl rfl ?_
    refine X_get (pc' := 36) (v := .ref 12) dX4_undo_33 rfl (gf_X4_30 _ rfl) o_W_1 rfl rfl ?_
    refine X_aload_n (i := 0) (pc' := 37) dX4_undo_36 rfl rfl rfl ?_
    refine X_get (pc' := 40) (v := .ref 18) dX4_undo_37 rfl (gf_X4_37 _ rfl) o_W_1 rfl rfl ?_
    refine X_aload_n (i := 0) (pc' := 41) dX4_undo_40 rfl rfl rfl ?_
    refine X_get (pc' := 44) (v := .int _) dX4_undo_41 rfl (gf_X4_72 _ rfl) o_W_1 rfl rfl ?_
    refine X_eqi (nI ((aA S).length - 1)) (by simp [xsi, upd]) ?_
    refine X_aald (pc' := 45) (j := (aA S).length - 1) dX4_undo_44 rfl r_W_18 (rfl) (by omega) ?_
    rw [show (xsi τ 1 7 (nI ((aA S).length - 1))).2.2 18 ((aA S).length - 1) = τ.2.2 18 ((aA S).length - 1) from rfl, xrf_ne (act_ne _ hm1).1]
    refine X_OV (As := [_]) (rest := []) (pc' := 48) dX4_undo_45 rfl k_X2_take l_X4_141 v_X2_take o_W_12 rfl ⟨by decide, by decide⟩ rfl rfl (Nat.le_of_ble_eq_true rfl) (ct_take cx (xsi τ 1 7 (nI ((aA S).length - 1))) (k := 12) (by decide) hst (fun e => hne12.1 e.symm) hn6 hrowk) (fun τ_45 h_45 => ?_)
    refine X_aload_n (i := 0) (pc' := 49) dX4_undo_48 rfl rfl rfl ?_
    refine X_get (pc' := 52) (v := .int _) dX4_undo_49 rfl (gf_X4_72 _ rfl) o_W_1 rfl rfl ?_
    refine X_eqi (nI ((aA S).length - 1)) (by rw [(h_45.1 1 (by decide)).1, xsi_self, pk_us]) ?_
    refine X_ri dX4_undo_52 rfl ⟨rfl, rfl⟩ ?_
    have e : xeq [1, 12, 13, 14] τ τ_45 := (xeq.rf.si (by decide)).tr (h_45.1.mono (by decide))
    have hr := now_rows e
    have r1 := h_45.1 1 (by decide)
    have r18 := (e 18 (by decide)).2.2
    refine ⟨rfl, RW_now (S' := wS S s (aA S).dropLast) h ?_ ⟨rfl, rfl, rfl, rfl⟩ e ?_ ?_ h_45.2 ?_ ?_⟩
    · obtain ⟨q1, q2, q3, q4, q5, q6, q7⟩ := g1
      refine ⟨q1, q2, q3, (q6 s (List.mem_of_getElem? hget)).mono (by omega), ?_, fun a ha => (q6 a ((List.dropLast_sublist _).subset ha)).mono (by omega), fun j a ha => (q7 j a ha).mono (by omega)⟩
      show (aA S).dropLast.length ≤ 14
      rw [List.length_dropLast]; omega
    · rw [r1.1, xsi_self, pk_un (by decide)]
    · rw [r1.2.1]; rfl
    · refine ⟨?_, ?_, fun j hj => by rw [r18]; exact a3 j hj, fun i j hi hj e => a4 i j hi hj (by rw [r18] at e; exact e), fun j s' hs' => ?_⟩
      · rw [r1.1, xsi_self, pk_us]
        show nI _ = nI (aA S).dropLast.length
        rw [List.length_dropLast]
      · show (aA S).dropLast.length ≤ 14
        rw [List.length_dropLast]; omega
      · have hj : j < (aA S).length - 1 := by
          have := (List.getElem?_eq_some_iff.mp hs').1
          rw [show (aA (wS S s (aA S).dropLast)).length = (aA S).dropLast.length from rfl, List.length_dropLast] at this
          exact this
        have hs2 : (aA S)[j]? = some s' := by
          rw [← hs']
          show _ = (aA S).dropLast[j]?
          rw [List.getElem?_dropLast, if_pos hj]
        rw [r18]
        have hq := hr.1 _ (a3 j (by omega))
        exact SR_rows (a5 j s' hs2) hq.1 hq.2.1 hq.2.2
    · exact g7.rows (by rw [r1.1, xsi_self, pk_un (by decide)]) (e 61 (by decide)).2.2 hr.2
theorem c_keep (τ : xT) {S : SA} {m : Nat} (h : RW τ m S) (hm : m < 4000) (l : Int32) : CI cx m_X4_keep [.ref 1, .int l] PW τ (fun x τ' => x = (keepA S l).1 ∧ RW τ' (m + 1) (keepA S l).2) := by
  obtain ⟨g1, g2, g3, g4, g5, g6, g7, g8⟩ := id h
  obtain ⟨b1, ⟨kb, b2, b3, b4⟩, b5⟩ := id g7
  have hn6 := g1.2.2.1.1
  refine Ct_of (by decide) (Nat.le_of_ble_eq_true rfl) (lv := [(0, _), (1, _)]) rfl ?_
  unfold keepA
  by_cases hl : slotOk l
  · obtain ⟨j, hj, rfl⟩ := slot_of hl
    rw [if_pos hl, (slot_in hj).2]
    have hks := kept_st j hj
    have hz : 62 + 3 * j ≠ 0 := by omega
    refine X_iload_n (i := 1) (pc' := 1) dX4_keep_0 rfl rfl rfl ?_
    refine X_if_lt (pc' := 4) (tgt := 13) dX4_keep_1 rfl (by decide) (fun h_1 => absurd h_1 (nI_pos (by omega))) (fun h_1 => ?_)
    refine X_iload_n (i := 1) (pc' := 5) dX4_keep_4 rfl rfl rfl ?_
    refine X_aload_n (i := 0) (pc' := 6) dX4_keep_5 rfl rfl rfl ?_
    refine X_get (pc' := 9) (v := .ref 61) dX4_keep_6 rfl (gf_X4_41 _ rfl) o_W_1 rfl rfl ?_
    refine X_alen (pc' := 10) dX4_keep_9 rfl (Or.inl ⟨r_W_61, by decide⟩) ?_
    refine X_icmp_lt (pc' := 13) (tgt := 15) dX4_keep_10 rfl (by decide) (fun h_10 => ?_) (fun h_10 => absurd (nI_lt hj (by decide)) h_10)
    refine X_aload_n (i := 0) (pc' := 16) dX4_keep_15 rfl rfl rfl ?_
    refine X_get (pc' := 19) (v := .ref 61) dX4_keep_16 rfl (gf_X4_41 _ rfl) o_W_1 rfl rfl ?_
    refine X_iload_n (i := 1) (pc' := 20) dX4_keep_19 rfl rfl rfl ?_
    refine X_aald (pc' := 21) (j := j) dX4_keep_20 rfl r_W_61 (rfl) (hj) ?_
    rw [b1 j hj, xrf_ne hz]
    refine X_ifnull (pc' := 24) dX4_keep_21 rfl ?_
    refine X_aload_n (i := 0) (pc' := 25) dX4_keep_24 rfl rfl rfl ?_
    refine X_get (pc' := 28) (v := .ref 61) dX4_keep_25 rfl (gf_X4_41 _ rfl) o_W_1 rfl rfl ?_
    refine X_iload_n (i := 1) (pc' := 29) dX4_keep_28 rfl rfl rfl ?_
    refine X_aald (pc' := 30) (j := j) dX4_keep_29 rfl r_W_61 (rfl) (hj) ?_
    rw [b1 j hj, xrf_ne hz]
    refine X_aload_n (i := 0) (pc' := 31) dX4_keep_30 rfl rfl rfl ?_
    refine X_get (pc' := 34) (v := .ref 12) dX4_keep_31 rfl (gf_X4_30 _ rfl) o_W_1 rfl rfl ?_
    refine X_OV (As := [_]) (rest := []) (pc' := 37) dX4_keep_34 rfl k_X2_take l_X4_141 v_X2_take (st_o hks.1) rfl ⟨by decide, by decide⟩ rfl rfl (Nat.le_of_ble_eq_true rfl) (ct_take cx τ hks.1 (by decide) hks.2.1 hn6 g5) (fun τ_34 h_34 => ?_)
    refine X_aload_n (i := 0) (pc' := 38) dX4_keep_37 rfl rfl rfl ?_
    refine X_dup (pc' := 39) dX4_keep_38 rfl rfl ?_
    refine X_get (pc' := 42) (v := .int _) dX4_keep_39 rfl (gf_X4_75 _ rfl) o_W_1 rfl rfl ?_
    refine X_eqi (nI kb) (by rw [(h_34.1 1 (by simp; omega)).1]; exact b3) ?_
    refine X_iload_n (i := 1) (pc' := 43) dX4_keep_42 rfl rfl rfl ?_
    refine X_SIp (As := [_]) (rest := [_, _]) (pc' := 46) dX4_keep_43 rfl k_X4_bit l_X4_137 s_X4_bit ⟨by decide, by decide⟩ rfl rfl (Nat.le_of_ble_eq_true rfl) (c_X4_bit cx τ_34 j (by omega)) ?_
    refine X_ior (pc' := 47) dX4_keep_46 rfl ?_
    refine X_eqi (nI (kb ||| 2 ^ j)) (nI_or (by omega) (by have : 2 ^ j < 2 ^ 2 := pow_lt hj; omega)) ?_
    refine X_putI (pc' := 50) dX4_keep_47 rfl (pf_X4_75 _ rfl) o_W_1 rfl ?_
    refine X_aload_n (i := 0) (pc' := 51) dX4_keep_50 rfl rfl rfl ?_
    refine X_get (pc' := 54) (v := .ref 12) dX4_keep_51 rfl (gf_X4_30 _ rfl) o_W_1 rfl rfl ?_
    refine X_get (pc' := 57) (v := .int _) dX4_keep_54 rfl (gf_X4_130 _ rfl) o_W_12 rfl rfl ?_
    refine X_ri dX4_keep_57 rfl ⟨rfl, rfl⟩ ?_
    obtain ⟨t1, t2⟩ := h_34
    have r1 := t1 1 (by simp; omega)
    have r18 := t1 18 (by simp; omega)
    have r61 := t1 61 (by simp; omega)
    have hrow : ∀ k, k ≠ 1 → k ∉ [62 + 3 * j, 62 + 3 * j + 1, 62 + 3 * j + 2] → (xsi τ_34 1 9 (nI (kb ||| 2 ^ j))).1 k = τ.1 k := fun k h1 h2 => (xsi_ne _ _ _ h1).trans (t1 k h2).1
    refine ⟨?_, ?_, fun i hi => ?_, ?_, ?_, ?_, ?_, ?_, ?_⟩
    · rw [xsi_ne _ _ _ (by decide), (t1 12 (by simp; omega)).1]; exact g5.1
    · obtain ⟨q1, q2, q3, q4, q5, q6, q7⟩ := g1
      refine ⟨q1, q2, q3, q4.mono (by omega), q5, fun a ha => (q6 a ha).mono (by omega), fun i a ha => ?_⟩
      have ha : (if i = j then some (aS S) else aK S i) = some a := ha
      split at ha
      · cases ha; exact q4.mono (by omega)
      · exact (q7 i a ha).mono (by omega)
    · rw [hrow 2 (by decide) (by simp; omega)]; exact g2 i hi
    · rw [xsi_self, pk_un (by decide), r1.1]; exact g3
    · refine ⟨by rw [hrow 8 (by decide) (by simp; omega)]; exact g4.1, by rw [hrow 8 (by decide) (by simp; omega)]; exact g4.2.1, by rw [hrow 8 (by decide) (by simp; omega)]; exact g4.2.2.1, by rw [hrow (8 + 2) (by decide) (by simp; omega)]; exact g4.2.2.2.1, by rw [hrow (8 + 3) (by decide) (by simp; omega)]; exact g4.2.2.2.2⟩
    · exact SR_rows g5 (hrow _ (by decide) (by simp; omega)) (hrow _ (by decide) (by simp; omega)) (hrow _ (by decide) (by simp; omega))
    · refine g6.scr (by rw [xsi_self, pk_un (by decide), r1.1]) r18.2.2 (fun k hk => ?_)
      have := (act_ne k hk).2.2
      exact ⟨hrow _ (by omega) (by simp; omega), hrow _ (by omega) (by simp; omega), hrow _ (by omega) (by simp; omega)⟩
    · refine ⟨fun i hi => by show τ_34.2.2 61 i = _; rw [r61.2.2]; exact b1 i hi, ⟨kb ||| 2 ^ j, (bt_slot kb b2 0 (by decide) j hj).1, by rw [xsi_self, pk_us], fun i hi => ?_⟩, fun i s hi hs => ?_⟩
      · rw [(bt_slot kb b2 i hi j hj).2, b4 i hi]
        show _ ↔ (if i = j then some (aS S) else aK S i).isSome = true
        by_cases hij : i = j
        · rw [if_pos hij]; exact ⟨fun _ => rfl, fun _ => Or.inr hij⟩
        · rw [if_neg hij]; exact ⟨fun q => q.elim (fun q => q) (fun q => absurd q hij), Or.inl⟩
      · have hs : (if i = j then some (aS S) else aK S i) = some s := hs
        by_cases hij : i = j
        · subst hij
          rw [if_pos rfl] at hs
          cases hs
          exact SR_rows t2 (xsi_ne _ _ _ (by omega)) (xsi_ne _ _ _ (by omega)) (xsi_ne _ _ _ (by omega))
        · rw [if_neg hij] at hs
          exact SR_rows (b5 i s hi hs) (hrow _ (by omega) (by simp; omega)) (hrow _ (by omega) (by simp; omega)) (hrow _ (by omega) (by simp; omega))
    · show τ_34.2.1 1 12 = _
      rw [r1.2.1]; exact g8
  · rw [if_neg hl]
    refine X_iload_n (i := 1) (pc' := 1) dX4_keep_0 rfl rfl rfl ?_
    refine X_if_lt (pc' := 4) (tgt := 13) dX4_keep_1 rfl (by decide) (fun h_1 => ?_) (fun h_1 => ?_)
    · refine X_iconst (pc' := 14) (v := (-1)) dX4_keep_13 rfl (by decide) ?_
      refine X_ri dX4_keep_14 rfl ⟨rfl, rfl⟩ ?_
      exact ⟨rfl, h.mono (by omega)⟩
    · refine X_iload_n (i := 1) (pc' := 5) dX4_keep_4 rfl rfl rfl ?_
      refine X_aload_n (i := 0) (pc' := 6) dX4_keep_5 rfl rfl rfl ?_
      refine X_get (pc' := 9) (v := .ref 61) dX4_keep_6 rfl (gf_X4_41 _ rfl) o_W_1 rfl rfl ?_
      refine X_alen (pc' := 10) dX4_keep_9 rfl (Or.inl ⟨r_W_61, by decide⟩) ?_
      refine X_icmp_lt (pc' := 13) (tgt := 15) dX4_keep_10 rfl (by decide) (fun h_10 => ?_) (fun h_10 => ?_)
      · refine absurd ⟨?_, ?_⟩ hl
        · rw [lt0] at h_1; omega
        · rw [ltI (by decide)] at h_10; exact h_10
      · refine X_iconst (pc' := 14) (v := (-1)) dX4_keep_13 rfl (by decide) ?_
        refine X_ri dX4_keep_14 rfl ⟨rfl, rfl⟩ ?_
        exact ⟨rfl, h.mono (by omega)⟩
theorem c_again (τ : xT) {S : SA} {m : Nat} (h : RW τ m S) (hm : m < 4000) (l : Int32) : CI cx m_X4_again [.ref 1, .int l] PW τ (fun x τ' => x = (againA S l).1 ∧ RW τ' (m + 1) (againA S l).2) := by
  obtain ⟨g1, g2, g3, g4, g5, g6, g7, g8⟩ := id h
  obtain ⟨b1, ⟨kb, b2, b3, b4⟩, b5⟩ := id g7
  have hn6 := g1.2.2.1.1
  refine Ct_of (by decide) (Nat.le_of_ble_eq_true rfl) (lv := [(0, _), (1, _)]) rfl ?_
  unfold againA
  by_cases hl : slotOk l
  · obtain ⟨j, hj, rfl⟩ := slot_of hl
    rw [if_pos hl, (slot_in hj).2]
    have hks := kept_st j hj
    have hz : 62 + 3 * j ≠ 0 := by omega
    have hkb := b4 j hj
    rcases hK : aK S j with _ | s
    · have hnb : ¬ bt kb j := fun q => by have := hkb.mp q; rw [hK] at this; cases this
      refine X_iload_n (i := 1) (pc' := 1) dX4_again_0 rfl rfl rfl ?_
      refine X_if_lt (pc' := 4) (tgt := 13) dX4_again_1 rfl (by decide) (fun h_1 => absurd h_1 (nI_pos (by omega))) (fun h_1 => ?_)
      refine X_iload_n (i := 1) (pc' := 5) dX4_again_4 rfl rfl rfl ?_
      refine X_aload_n (i := 0) (pc' := 6) dX4_again_5 rfl rfl rfl ?_
      refine X_get (pc' := 9) (v := .ref 61) dX4_again_6 rfl (gf_X4_41 _ rfl) o_W_1 rfl rfl ?_
      refine X_alen (pc' := 10) dX4_again_9 rfl (Or.inl ⟨r_W_61, by decide⟩) ?_
      refine X_icmp_lt (pc' := 13) (tgt := 15) dX4_again_10 rfl (by decide) (fun h_10 => ?_) (fun h_10 => absurd (nI_lt hj (by decide)) h_10)
      refine X_aload_n (i := 0) (pc' := 16) dX4_again_15 rfl rfl rfl ?_
      refine X_get (pc' := 19) (v := .int _) dX4_again_16 rfl (gf_X4_75 _ rfl) o_W_1 rfl rfl ?_
      refine X_eqi (nI kb) (b3) ?_
      refine X_iload_n (i := 1) (pc' := 20) dX4_again_19 rfl rfl rfl ?_
      refine X_SIp (As := [_, _]) (rest := []) (pc' := 23) dX4_again_20 rfl k_X4_has l_X4_101 s_X4_has ⟨by decide, by decide⟩ rfl rfl (Nat.le_of_ble_eq_true rfl) (c_X4_has cx τ kb j (by omega) (by omega)) ?_
      refine X_if_ne (pc' := 26) (tgt := 29) dX4_again_23 rfl (by decide) (fun h_23 => absurd h_23 (fun q => q (zI_0.mpr hnb))) (fun h_23 => ?_)
      refine X_bipush (pc' := 28) (v := (-3)) dX4_again_26 rfl (by decide) ?_
      refine X_ri dX4_again_28 rfl ⟨rfl, rfl⟩ ?_
      exact ⟨rfl, h.mono (by omega)⟩
    · have hb : bt kb j := hkb.mpr (by rw [hK]; rfl)
      have hsr := b5 j s hj hK
      refine X_iload_n (i := 1) (pc' := 1) dX4_again_0 rfl rfl rfl ?_
      refine X_if_lt (pc' := 4) (tgt := 13) dX4_again_1 rfl (by decide) (fun h_1 => absurd h_1 (nI_pos (by omega))) (fun h_1 => ?_)
      refine X_iload_n (i := 1) (pc' := 5) dX4_again_4 rfl rfl rfl ?_
      refine X_aload_n (i := 0) (pc' := 6) dX4_again_5 rfl rfl rfl ?_
      refine X_get (pc' := 9) (v := .ref 61) dX4_again_6 rfl (gf_X4_41 _ rfl) o_W_1 rfl rfl ?_
      refine X_alen (pc' := 10) dX4_again_9 rfl (Or.inl ⟨r_W_61, by decide⟩) ?_
      refine X_icmp_lt (pc' := 13) (tgt := 15) dX4_again_10 rfl (by decide) (fun h_10 => ?_) (fun h_10 => absurd (nI_lt hj (by decide)) h_10)
      refine X_aload_n (i := 0) (pc' := 16) dX4_again_15 rfl rfl rfl ?_
      refine X_get (pc' := 19) (v := .int _) dX4_again_16 rfl (gf_X4_75 _ rfl) o_W_1 rfl rfl ?_
      refine X_eqi (nI kb) (b3) ?_
      refine X_iload_n (i := 1) (pc' := 20) dX4_again_19 rfl rfl rfl ?_
      refine X_SIp (As := [_, _]) (rest := []) (pc' := 23) dX4_again_20 rfl k_X4_has l_X4_101 s_X4_has ⟨by decide, by decide⟩ rfl rfl (Nat.le_of_ble_eq_true rfl) (c_X4_has cx τ kb j (by omega) (by omega)) ?_
      refine X_if_ne (pc' := 26) (tgt := 29) dX4_again_23 rfl (by decide) (fun h_23 => ?_) (fun h_23 => absurd h_23 (fun q => (zI_0.mp q) hb))
      refine X_aload_n (i := 0) (pc' := 30) dX4_again_29 rfl rfl rfl ?_
      refine X_get (pc' := 33) (v := .ref 12) dX4_again_30 rfl (gf_X4_30 _ rfl) o_W_1 rfl rfl ?_
      refine X_aload_n (i := 0) (pc' := 34) dX4_again_33 rfl rfl rfl ?_
      refine X_get (pc' := 37) (v := .ref 61) dX4_again_34 rfl (gf_X4_41 _ rfl) o_W_1 rfl rfl ?_
      refine X_iload_n (i := 1) (pc' := 38) dX4_again_37 rfl rfl rfl ?_
      refine X_aald (pc' := 39) (j := j) dX4_again_38 rfl r_W_61 (rfl) (hj) ?_
      rw [b1 j hj, xrf_ne hz]
      refine X_OV (As := [_]) (rest := []) (pc' := 42) dX4_again_39 rfl k_X2_take l_X4_141 v_X2_take o_W_12 rfl ⟨by decide, by decide⟩ rfl rfl (Nat.le_of_ble_eq_true rfl) (ct_take cx τ (k := 12) (by decide) hks.1 hks.2.2 hn6 hsr) (fun τ_39 h_39 => ?_)
      refine X_aload_n (i := 0) (pc' := 43) dX4_again_42 rfl rfl rfl ?_
      refine X_iconst (pc' := 44) (v := nI 0) dX4_again_43 rfl (by decide) ?_
      refine X_putI (pc' := 47) dX4_again_44 rfl (pf_X4_72 _ rfl) o_W_1 rfl ?_
      refine X_aload_n (i := 0) (pc' := 48) dX4_again_47 rfl rfl rfl ?_
      refine X_get (pc' := 51) (v := .ref 12) dX4_again_48 rfl (gf_X4_30 _ rfl) o_W_1 rfl rfl ?_
      refine X_get (pc' := 54) (v := .int _) dX4_again_51 rfl (gf_X4_130 _ rfl) o_W_12 rfl rfl ?_
      refine X_ri dX4_again_54 rfl ⟨rfl, rfl⟩ ?_
      have e : xeq [1, 12, 13, 14] τ (xsi τ_39 1 7 (nI 0)) := (h_39.1.mono (by decide)).si (by decide)
      have hr := now_rows e
      have r1 := h_39.1 1 (by decide)
      have r18 := (e 18 (by decide)).2.2
      have hs2 : SR (xsi τ_39 1 7 (nI 0)) 12 (pn (aP S)) s := SR_rows h_39.2 (xsi_ne _ _ _ (by decide)) (xsi_ne _ _ _ (by decide)) (xsi_ne _ _ _ (by decide))
      refine ⟨hs2.1, RW_now (S' := wS S s []) h ?_ ⟨rfl, rfl, rfl, rfl⟩ e ?_ ?_ hs2 ?_ ?_⟩
      · obtain ⟨q1, q2, q3, q4, q5, q6, q7⟩ := g1
        exact ⟨q1, q2, q3, (q7 j s hK).mono (by omega), Nat.zero_le _, fun a ha => (by cases ha), fun i a ha => (q7 i a ha).mono (by omega)⟩
      · rw [xsi_self, pk_un (by decide), r1.1]
      · show τ_39.2.1 1 = _
        rw [r1.2.1]
      · obtain ⟨a1, a2, a3, a4, a5⟩ := g6
        exact ⟨by rw [xsi_self, pk_us]; rfl, Nat.zero_le _, fun i hi => by rw [r18]; exact a3 i hi, fun i j hi hj e => a4 i j hi hj (by rw [r18] at e; exact e), fun i s' hs' => (by cases hs')⟩
      · exact g7.rows (by rw [xsi_self, pk_un (by decide), r1.1]) (e 61 (by decide)).2.2 hr.2
  · rw [if_neg hl]
    refine X_iload_n (i := 1) (pc' := 1) dX4_again_0 rfl rfl rfl ?_
    refine X_if_lt (pc' := 4) (tgt := 13) dX4_again_1 rfl (by decide) (fun h_1 => ?_) (fun h_1 => ?_)
    · refine X_iconst (pc' := 14) (v := (-1)) dX4_again_13 rfl (by decide) ?_
      refine X_ri dX4_again_14 rfl ⟨rfl, rfl⟩ ?_
      exact ⟨rfl, h.mono (by omega)⟩
    · refine X_iload_n (i := 1) (pc' := 5) dX4_again_4 rfl rfl rfl ?_
      refine X_aload_n (i := 0) (pc' := 6) dX4_again_5 rfl rfl rfl ?_
      refine X_get (pc' := 9) (v := .ref 61) dX4_again_6 rfl (gf_X4_41 _ rfl) o_W_1 rfl rfl ?_
      refine X_alen (pc' := 10) dX4_again_9 rfl (Or.inl ⟨r_W_61, by decide⟩) ?_
      refine X_icmp_lt (pc' := 13) (tgt := 15) dX4_again_10 rfl (by decide) (fun h_10 => ?_) (fun h_10 => ?_)
      · refine absurd ⟨?_, ?_⟩ hl
        · rw [lt0] at h_1; omega
        · rw [ltI (by decide)] at h_10; exact h_10
      · refine X_iconst (pc' := 14) (v := (-1)) dX4_again_13 rfl (by decide) ?_
        refine X_ri dX4_again_14 rfl ⟨rfl, rfl⟩ ?_
        exact ⟨rfl, h.mono (by omega)⟩
theorem c_wipe (τ : xT) {S : SA} {m : Nat} (h : RW τ m S) : CI cx m_X4_wipe [.ref 1] PW τ (fun x τ' => x = (wipeA S).1 ∧ RW τ' (m + 1) (wipeA S).2) := by
  obtain ⟨g1, g2, g3, g4, g5, g6, g7, g8⟩ := id h
  refine Ct_of (by decide) (Nat.le_of_ble_eq_true rfl) (lv := [(0, _)]) rfl ?_
  refine X_aload_n (i := 0) (pc' := 1) dX4_wipe_0 rfl rfl rfl ?_
  refine X_get (pc' := 4) (v := .int _) dX4_wipe_1 rfl (gf_X4_54 _ rfl) o_W_1 rfl rfl ?_
  refine X_istore_n (i := 1) (pc' := 5) (lv' := [(1, _), (0, _)]) dX4_wipe_4 rfl rfl (Nat.le_of_ble_eq_true rfl) rfl ?_
  refine X_aload_n (i := 0) (pc' := 6) dX4_wipe_5 rfl rfl rfl ?_
  refine X_iconst (pc' := 7) (v := nI 0) dX4_wipe_6 rfl (by decide) ?_
  refine X_putI (pc' := 10) dX4_wipe_7 rfl (pf_X4_54 _ rfl) o_W_1 rfl ?_
  refine X_iload_n (i := 1) (pc' := 11) dX4_wipe_10 rfl rfl rfl ?_
  refine X_ri dX4_wipe_11 rfl ⟨rfl, rfl⟩ ?_
  have e : xeq [1] τ (xsi τ 1 1 (nI 0)) := xeq.rf.si (by decide)
  refine ⟨g3, ?_, fun i hi => absurd hi (Nat.not_lt_zero i), by rw [xsi_self, pk_us]; rfl, g4.kept e (by decide) (by decide) (by decide), g5.kept e (by decide) (by decide) (by decide), g6.scr (by rw [xsi_self, pk_un (by decide)]) rfl (fun k hk => ?_), g7.rows (by rw [xsi_self, pk_un (by decide)]) rfl (fun k h1 h2 => xsi_ne _ _ _ (by omega)), g8⟩
  · obtain ⟨q1, q2, q3, q4⟩ := g1.mono (Nat.le_succ m)
    exact ⟨Nat.zero_le _, fun i hi => absurd hi (Nat.not_lt_zero i), q3, q4⟩
  · have := (act_ne k hk).2.2
    exact ⟨xsi_ne _ _ _ (by omega), xsi_ne _ _ _ (by omega), xsi_ne _ _ _ (by omega)⟩
theorem c_seed (τ : xT) {S : SA} {m : Nat} (h : RW τ m S) (v : Int64) : CL cx m_X4_seed [.ref 1, .long v] PW τ (fun x τ' => x = (seedA S v).1 ∧ RW τ' (m + 1) (seedA S v).2) := by
  obtain ⟨g1, g2, g3, g4, g5, g6, g7, g8⟩ := id h
  refine Ct_of (by decide) (Nat.le_of_ble_eq_true rfl) (lv := [(0, _), (1, _)]) rfl ?_
  refine X_aload_n (i := 0) (pc' := 1) dX4_seed_0 rfl rfl rfl ?_
  refine X_get (pc' := 4) (v := .long _) dX4_seed_1 rfl (gf_X4_206 _ rfl) o_W_1 rfl rfl ?_
  refine X_lstore_n (i := 3) (pc' := 5) (lv' := [(3, _), (0, _), (1, _)]) dX4_seed_4 rfl rfl (Nat.le_of_ble_eq_true rfl) rfl ?_
  refine X_aload_n (i := 0) (pc' := 6) dX4_seed_5 rfl rfl rfl ?_
  refine X_lload_n (i := 1) (pc' := 7) dX4_seed_6 rfl rfl rfl ?_
  refine X_putL (pc' := 10) dX4_seed_7 rfl (pf_X4_206 _ rfl) o_W_1 rfl ?_
  refine X_lload_n (i := 3) (pc' := 11) dX4_seed_10 rfl rfl rfl ?_
  refine X_rl dX4_seed_11 rfl ⟨rfl, rfl⟩ ?_
  refine ⟨g8, g1.mono (Nat.le_succ m), g2, g3, g4, g5, g6, g7, ?_⟩
  rw [xsl_self, pk_uLs]; rfl
theorem c_write (τ : xT) {S : SA} {m : Nat} (h : RW τ m S) (c : Int32) : CI cx m_X4_write [.ref 1, .int c] PW τ (fun x τ' => x = (writeA S c).1 ∧ RW τ' (m + 1) (writeA S c).2) := by
  obtain ⟨g1, g2, g3, g4, g5, g6, g7, g8⟩ := id h
  have hL := g1.1
  refine Ct_of (by decide) (Nat.le_of_ble_eq_true rfl) (lv := [(0, _), (1, _)]) rfl ?_
  unfold writeA
  refine X_iload_n (i := 1) (pc' := 1) dX4_write_0 rfl rfl rfl ?_
  refine X_if_lt (pc' := 4) (tgt := 11) dX4_write_1 rfl (by decide) (fun h_1 => ?_) (fun h_1 => ?_)
  · refine X_bipush (pc' := 13) (v := (-2)) dX4_write_11 rfl (by decide) ?_
    refine X_ri dX4_write_13 rfl ⟨rfl, rfl⟩ ?_
    rw [if_neg (fun q => by simp only [lt0, leI (n := 255) (by decide)] at *; omega)]
    exact ⟨rfl, h.mono (Nat.le_succ m)⟩
  · refine X_iload_n (i := 1) (pc' := 5) dX4_write_4 rfl rfl rfl ?_
    refine X_sipush (pc' := 8) (v := nI 255) dX4_write_5 rfl (by decide) ?_
    refine X_icmp_le (pc' := 11) (tgt := 14) dX4_write_8 rfl (by decide) (fun h_8 => ?_) (fun h_8 => ?_)
    · have hc : 0 ≤ c.toInt ∧ c.toInt ≤ 255 := by simp only [lt0, leI (n := 255) (by decide)] at *; omega
      rw [if_pos hc]
      obtain ⟨v, hv, rfl⟩ := xsw_of (x := c) (n := 255) (by omega) (by decide)
      rw [nI_toInt (by omega)]
      refine X_aload_n (i := 0) (pc' := 15) dX4_write_14 rfl rfl rfl ?_
      refine X_get (pc' := 18) (v := .int _) dX4_write_15 rfl (gf_X4_54 _ rfl) o_W_1 rfl rfl ?_
      refine X_eqi (nI (aL S)) (g3) ?_
      refine X_if_lt (pc' := 21) (tgt := 33) dX4_write_18 rfl (by decide) (fun h_18 => absurd h_18 (nI_pos (by omega))) (fun h_18 => ?_)
      refine X_aload_n (i := 0) (pc' := 22) dX4_write_21 rfl rfl rfl ?_
      refine X_get (pc' := 25) (v := .int _) dX4_write_22 rfl (gf_X4_54 _ rfl) o_W_1 rfl rfl ?_
      refine X_eqi (nI (aL S)) (g3) ?_
      refine X_aload_n (i := 0) (pc' := 26) dX4_write_25 rfl rfl rfl ?_
      refine X_get (pc' := 29) (v := .ref 2) dX4_write_26 rfl (gf_X4_9 _ rfl) o_W_1 rfl rfl ?_
      refine X_alen (pc' := 30) dX4_write_29 rfl (Or.inl ⟨r_W_2, by decide⟩) ?_
      refine X_icmp_lt (pc' := 33) (tgt := 36) dX4_write_30 rfl (by decide) (fun h_30 => ?_) (fun h_30 => ?_)
      · have hL48 := (nI_ltI (by omega) (by decide)).mp h_30
        rw [if_pos hL48]
        refine X_aload_n (i := 0) (pc' := 37) dX4_write_36 rfl rfl rfl ?_
        refine X_get (pc' := 40) (v := .ref 2) dX4_write_37 rfl (gf_X4_9 _ rfl) o_W_1 rfl rfl ?_
        refine X_aload_n (i := 0) (pc' := 41) dX4_write_40 rfl rfl rfl ?_
        refine X_get (pc' := 44) (v := .int _) dX4_write_41 rfl (gf_X4_54 _ rfl) o_W_1 rfl rfl ?_
        refine X_eqi (nI (aL S)) (g3) ?_
        refine X_iload_n (i := 1) (pc' := 45) dX4_write_44 rfl rfl rfl ?_
        refine X_iast (pc' := 46) (j := aL S) dX4_write_45 rfl r_W_2 (rfl) (hL48) ?_
        refine X_aload_n (i := 0) (pc' := 47) dX4_write_46 rfl rfl rfl ?_
        refine X_dup (pc' := 48) dX4_write_47 rfl rfl ?_
        refine X_get (pc' := 51) (v := .int _) dX4_write_48 rfl (gf_X4_54 _ rfl) o_W_1 rfl rfl ?_
        refine X_eqi (nI (aL S)) (g3) ?_
        refine X_iconst (pc' := 52) (v := nI 1) dX4_write_51 rfl (by decide) ?_
        refine X_iadd (pc' := 53) dX4_write_52 rfl ?_
        refine X_eqi (nI (aL S + 1)) (nI_add _ _) ?_
        refine X_putI (pc' := 56) dX4_write_53 rfl (pf_X4_54 _ rfl) o_W_1 rfl ?_
        refine X_aload_n (i := 0) (pc' := 57) dX4_write_56 rfl rfl rfl ?_
        refine X_get (pc' := 60) (v := .int _) dX4_write_57 rfl (gf_X4_54 _ rfl) o_W_1 rfl rfl ?_
        refine X_ri dX4_write_60 rfl ⟨rfl, rfl⟩ ?_
        have e : xeq [1, 2] τ (xsi (xsi τ 2 (aL S) (nI v)) 1 1 (nI (aL S + 1))) := (xeq.rf.si (by decide)).si (by decide)
        refine ⟨by rw [xsi_self, pk_us], ?_, fun i hi => ?_, by rw [xsi_self, pk_us], g4.kept e (by decide) (by decide) (by decide), g5.kept e (by decide) (by decide) (by decide), g6.scr (by rw [xsi_self, pk_un (by decide), xsi_ne _ _ _ (by decide)]) rfl (fun k hk => ?_), g7.rows (by rw [xsi_self, pk_un (by decide), xsi_ne _ _ _ (by decide)]) rfl (fun k h1 h2 => (xsi_ne _ _ _ (by omega)).trans (xsi_ne _ _ _ (by omega))), g8⟩
        · obtain ⟨q1, q2, q3, q4⟩ := g1.mono (Nat.le_succ m)
          refine ⟨hL48, fun i hi => ?_, q3, q4⟩
          have hi : i < aL S + 1 := hi
          show nset (aT S) (aL S) _ i < 256
          unfold nset
          split
          · omega
          · exact q2 i (by omega)
        · have hi : i < aL S + 1 := hi
          show _ = nI (nset (aT S) (aL S) _ i)
          rw [xsi_ne _ _ _ (by decide), xsi_self]
          by_cases hil : i = aL S
          · subst hil; rw [pk_us, nset_s]; congr 1
          · rw [pk_un hil, nset_n _ _ hil]; exact g2 i (by omega)
        · have := (act_ne k hk).2.2
          exact ⟨(e _ (by simp; omega)).1, (e _ (by simp; omega)).1, (e _ (by simp; omega)).1⟩
      · refine X_bipush (pc' := 35) (v := (-4)) dX4_write_33 rfl (by decide) ?_
        refine X_ri dX4_write_35 rfl ⟨rfl, rfl⟩ ?_
        rw [if_neg (fun q => h_30 (nI_lt q (by decide)))]
        exact ⟨rfl, h.mono (Nat.le_succ m)⟩
    · refine X_bipush (pc' := 13) (v := (-2)) dX4_write_11 rfl (by decide) ?_
      refine X_ri dX4_write_13 rfl ⟨rfl, rfl⟩ ?_
      rw [if_neg (fun q => by simp only [lt0, leI (n := 255) (by decide)] at *; omega)]
      exact ⟨rfl, h.mono (Nat.le_succ m)⟩
end A2
