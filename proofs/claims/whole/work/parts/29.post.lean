/-! ===== the text read, a post made ===== -/
def rdI : PS := (0, 0, (0, 0, 1, fun _ => 0, fun _ => 0), fun _ => 0)
def rdP (T : Nat → Nat) : Nat → PS ⊕ Nat
  | 0 => .inl rdI
  | i + 1 => match rdP T i with
    | .inr j => .inr j
    | .inl q => match rdS q (T i) with
      | some q' => .inl q'
      | none => .inr i
theorem rdI_ok : Rok rdI := ⟨by decide, by decide, ⟨by decide, by decide⟩, fun k hk => absurd hk (Nat.not_lt_zero k), fun k _ => (by show 0 < 64; decide), fun k hk => absurd hk (Nat.not_lt_zero k), by decide, by decide, fun e => by simp [rdI] at e, fun e => by simp [rdI] at e⟩
theorem rdP_inr {T : Nat → Nat} {j : Nat} : ∀ {i : Nat} (d : Nat), rdP T i = .inr j → rdP T (i + d) = .inr j := by
  intro i d
  induction d with
  | zero => exact fun h => h
  | succ d ih =>
    intro h
    show (match rdP T (i + d) with | .inr j => (Sum.inr j : PS ⊕ Nat) | .inl q => match rdS q (T (i + d)) with | some q' => Sum.inl q' | none => Sum.inr (i + d)) = _
    rw [ih h]
def faultF (T : Nat → Nat) (L : Nat) : Int32 := match rdP T L with
  | .inr j => nI j
  | .inl q => if q.1 = 3 then -9 else nI L
def newS (w : Nat → Nat) : SN := (0, 0, 0, 0, 0, w, fun _ => 0)
def postA (S : SA) : Int32 × SA := match rdP (aT S) (aL S) with
  | .inr _ => (-3, S)
  | .inl q => if q.1 = 3 then (nI (pn q.2.2.1), (aT S, aL S, q.2.2.1, newS q.2.2.2, [], fun _ => none, aC S)) else (-3, S)
theorem rdP_lt {T : Nat → Nat} {j : Nat} : ∀ {i : Nat}, rdP T i = .inr j → j < i := by
  intro i
  induction i with
  | zero => intro h; cases h
  | succ i ih =>
    intro h
    unfold rdP at h
    split at h
    · rename_i k hk; cases h; have := ih hk; omega
    · split at h
      · cases h
      · cases h; omega
theorem newS_ok {q : PS} (h : Rok q) (m : Nat) : Sok q.2.2.1 m (newS q.2.2.2) := ⟨Nat.zero_le _, Nat.two_pow_pos _, Nat.zero_le _, Nat.two_pow_pos _, Nat.zero_le _, fun k hk => by have := h.2.2.2.2.2.1 k hk; show q.2.2.2 k ≤ 99; omega, fun k hk => Nat.zero_le _⟩
theorem Rok.p {q : PS} (h : Rok q) : Pok q.2.2.1 := ⟨h.1, h.2.1, h.2.2.1, h.2.2.2.1, fun k hk => h.2.2.2.2.1 k (by have := h.1; omega)⟩
section PO
variable (cx : xC)
set_option maxHeartbeats 4000000
set_option maxRecDepth 100000
theorem c_mayEnd (τ : xT) {q : PS} (h : Rd τ q) (ho : Rok q) : CI cx m_X1_mayEnd [.ref 3] PW τ (fun v τ' => τ' = τ ∧ v = zI (q.1 = 3)) := by
  have h7 := ho.2.2.2.2.2.2.1
  refine Ct_of (by decide) (Nat.le_of_ble_eq_true rfl) (lv := [(0, _)]) rfl ?_
  refine X_aload_n (i := 0) (pc' := 1) dX1_mayEnd_0 rfl rfl rfl ?_
  refine X_get (pc' := 4) (v := .int _) dX1_mayEnd_1 rfl (gf_X1_21 _ rfl) o_W_3 rfl rfl ?_
  refine X_eqi (nI q.1) (h.1) ?_
  refine X_iconst (pc' := 5) (v := nI 3) dX1_mayEnd_4 rfl (by decide) ?_
  refine X_icmp_ne (pc' := 8) (tgt := 12) dX1_mayEnd_5 rfl (by decide) (fun h_5 => ?_) (fun h_5 => ?_)
  · refine X_iconst (pc' := 13) (v := nI 0) dX1_mayEnd_12 rfl (by decide) ?_
    refine X_rz dX1_mayEnd_13 rfl (rfl) ⟨rfl, rfl⟩ ?_
    first
      | exact ⟨rfl, (zI_t ((nI_eq (by omega) (by decide)).mp h_5)).symm⟩
      | exact ⟨rfl, (zI_f (fun g => h_5 (by rw [g]))).symm⟩
  · refine X_iconst (pc' := 9) (v := nI 1) dX1_mayEnd_8 rfl (by decide) ?_
    refine X_goto (pc' := 0) (tgt := 13) dX1_mayEnd_9 (by decide) ?_
    refine X_rz dX1_mayEnd_13 rfl (rfl) ⟨rfl, rfl⟩ ?_
    first
      | exact ⟨rfl, (zI_t ((nI_eq (by omega) (by decide)).mp h_5)).symm⟩
      | exact ⟨rfl, (zI_f (fun g => h_5 (by rw [g]))).symm⟩
theorem c_readText (τ : xT) {S : SA} {m : Nat} (h : RW τ m S) : CI cx m_X4_readText [.ref 1] PW τ (fun v τ' => xeq rdR τ τ' ∧ v = faultF (aT S) (aL S) ∧ ∀ q, rdP (aT S) (aL S) = .inl q → Rd τ' q ∧ Rok q) := by
  have hL := h.1.1
  have hT := h.1.2.1
  refine Ct_of (by decide) (Nat.le_of_ble_eq_true rfl) (lv := [(0, _)]) rfl ?_
  have hl : ∀ (j : Nat) (s : xT × PS), j ≤ aL S → (xeq rdR τ s.1 ∧ Rd s.1 s.2 ∧ Rok s.2 ∧ rdP (aT S) j = .inl s.2) → X cx m_X4_readText PW (qI PW (fun v τ' => xeq rdR τ τ' ∧ v = faultF (aT S) (aL S) ∧ ∀ q, rdP (aT S) (aL S) = .inl q → Rd τ' q ∧ Rok q)) 9 [(1, .int (nI j)), (0, .ref 1)] [] PW s.1 := by
    refine xloop _ _ (aL S) (fun s h2 => ?_) (fun j s hj h2 ih => ?_)
    · obtain ⟨τ1, q⟩ := s
      obtain ⟨g1, g2, g3, g4⟩ := h2
      have hlen : τ1.1 1 1 = nI (aL S) := by rw [(g1 1 (by decide)).1]; exact h.2.2.1
      refine X_iload_n (i := 1) (pc' := 10) dX4_readText_9 rfl rfl rfl ?_
      refine X_aload_n (i := 0) (pc' := 11) dX4_readText_10 rfl rfl rfl ?_
      refine X_get (pc' := 14) (v := .int _) dX4_readText_11 rfl (gf_X4_54 _ rfl) o_W_1 rfl rfl ?_
      refine X_eqi (nI (aL S)) (hlen) ?_
      refine X_icmp_ge (pc' := 17) (tgt := 50) dX4_readText_14 rfl (by decide) (fun h_14 => ?_) (fun h_14 => absurd (nI_le (Nat.le_refl _) (by omega)) h_14)
      refine X_aload_n (i := 0) (pc' := 51) dX4_readText_50 rfl rfl rfl ?_
      refine X_get (pc' := 54) (v := .ref 3) dX4_readText_51 rfl (gf_X4_16 _ rfl) o_W_1 rfl rfl ?_
      refine X_OIp (As := []) (rest := []) (pc' := 57) dX4_readText_54 rfl k_X1_mayEnd l_X4_231 v_X1_mayEnd o_W_3 rfl ⟨by decide, by decide⟩ rfl rfl (Nat.le_of_ble_eq_true rfl) (c_mayEnd cx τ1 g2 g3) ?_
      refine X_if_eq (pc' := 60) (tgt := 65) dX4_readText_57 rfl (by decide) (fun h_57 => ?_) (fun h_57 => ?_)
      · refine X_aload_n (i := 0) (pc' := 66) dX4_readText_65 rfl rfl rfl ?_
        refine X_get (pc' := 69) (v := .int _) dX4_readText_66 rfl (gf_X4_54 _ rfl) o_W_1 rfl rfl ?_
        refine X_eqi (nI (aL S)) (hlen) ?_
        refine X_ri dX4_readText_69 rfl ⟨rfl, rfl⟩ ?_
        refine ⟨g1, ?_, fun q' hq' => by rw [g4] at hq'; cases hq'; exact ⟨g2, g3⟩⟩
        unfold faultF
        rw [g4]
        first
          | exact (if_pos (zI_1 h_57)).symm
          | exact (if_neg (zI_0.mp h_57)).symm
      · refine X_bipush (pc' := 62) (v := (-9)) dX4_readText_60 rfl (by decide) ?_
        refine X_goto (pc' := 0) (tgt := 69) dX4_readText_62 (by decide) ?_
        refine X_ri dX4_readText_69 rfl ⟨rfl, rfl⟩ ?_
        refine ⟨g1, ?_, fun q' hq' => by rw [g4] at hq'; cases hq'; exact ⟨g2, g3⟩⟩
        unfold faultF
        rw [g4]
        first
          | exact (if_pos (zI_1 h_57)).symm
          | exact (if_neg (zI_0.mp h_57)).symm
    · obtain ⟨τ1, q⟩ := s
      obtain ⟨g1, g2, g3, g4⟩ := h2
      have hlen : τ1.1 1 1 = nI (aL S) := by rw [(g1 1 (by decide)).1]; exact h.2.2.1
      have hc := hT j hj
      have hs1 : rdP (aT S) (j + 1) = match rdS q (aT S j) with | some q' => (Sum.inl q' : PS ⊕ Nat) | none => Sum.inr j := by
        show (match rdP (aT S) j with | .inr j => (Sum.inr j : PS ⊕ Nat) | .inl q => match rdS q (aT S j) with | some q' => Sum.inl q' | none => Sum.inr j) = _
        rw [g4]
      refine X_iload_n (i := 1) (pc' := 10) dX4_readText_9 rfl rfl rfl ?_
      refine X_aload_n (i := 0) (pc' := 11) dX4_readText_10 rfl rfl rfl ?_
      refine X_get (pc' := 14) (v := .int _) dX4_readText_11 rfl (gf_X4_54 _ rfl) o_W_1 rfl rfl ?_
      refine X_eqi (nI (aL S)) (hlen) ?_
      refine X_icmp_ge (pc' := 17) (tgt := 50) dX4_readText_14 rfl (by decide) (fun h_14 => absurd h_14 (nI_ge hj (by omega))) (fun h_14 => ?_)
      refine X_iload_n (i := 1) (pc' := 18) dX4_readText_17 rfl rfl rfl ?_
      refine X_aload_n (i := 0) (pc' := 19) dX4_readText_18 rfl rfl rfl ?_
      refine X_get (pc' := 22) (v := .ref 2) dX4_readText_19 rfl (gf_X4_9 _ rfl) o_W_1 rfl rfl ?_
      refine X_alen (pc' := 23) dX4_readText_22 rfl (Or.inl ⟨r_W_2, by decide⟩) ?_
      refine X_icmp_ge (pc' := 26) (tgt := 50) dX4_readText_23 rfl (by decide) (fun h_23 => absurd h_23 (nI_ge (by omega) (by decide))) (fun h_23 => ?_)
      refine X_aload_n (i := 0) (pc' := 27) dX4_readText_26 rfl rfl rfl ?_
      refine X_get (pc' := 30) (v := .ref 3) dX4_readText_27 rfl (gf_X4_16 _ rfl) o_W_1 rfl rfl ?_
      refine X_aload_n (i := 0) (pc' := 31) dX4_readText_30 rfl rfl rfl ?_
      refine X_get (pc' := 34) (v := .ref 2) dX4_readText_31 rfl (gf_X4_9 _ rfl) o_W_1 rfl rfl ?_
      refine X_iload_n (i := 1) (pc' := 35) dX4_readText_34 rfl rfl rfl ?_
      refine X_iald (pc' := 36) (j := j) dX4_readText_35 rfl (Or.inl r_W_2) (rfl) (by omega) ?_
      refine X_eqi (nI (aT S j)) (by rw [(g1 2 (by decide)).1]; exact h.2.1 j hj) ?_
      refine X_OI (As := [_]) (rest := []) (pc' := 39) dX4_readText_36 rfl k_X1_takes l_X4_228 v_X1_takes o_W_3 rfl ⟨by decide, by decide⟩ rfl rfl (Nat.le_of_ble_eq_true rfl) (c_takes cx τ1 g2 g3 hc) (fun x_36 τ_36 h_36 => ?_)
      refine X_if_ne (pc' := 42) (tgt := 44) dX4_readText_39 rfl (by decide) (fun h_39 => ?_) (fun h_39 => ?_)
      · refine X_iinc (pc' := 47) (v := nI (j + 1)) (lv' := [(1, _), (0, _)]) dX4_readText_44 rfl rfl ((nI_succ j).symm) (Nat.le_of_ble_eq_true rfl) rfl ?_
        refine X_goto (pc' := 0) (tgt := 9) dX4_readText_47 (by decide) ?_
        obtain ⟨e1, e2⟩ := h_36
        rcases e2 with ⟨-, ev⟩ | ⟨q', e, -, er⟩
        · rw [ev] at h_39; exact absurd rfl h_39
        · rw [e] at hs1
          exact X_lv _ (by simp) (ih (τ_36, q') ⟨g1.tr e1, er, rdS_ok g3 e, hs1⟩)
      · refine X_iload_n (i := 1) (pc' := 43) dX4_readText_42 rfl rfl rfl ?_
        refine X_ri dX4_readText_43 rfl ⟨rfl, rfl⟩ ?_
        obtain ⟨e1, e2⟩ := h_36
        have hn : rdS q (aT S j) = none := by
          rcases e2 with ⟨e, -⟩ | ⟨q', e, ev, -⟩
          · exact e
          · rw [ev] at h_39; exact absurd h_39 (by decide)
        have hf : rdP (aT S) (aL S) = .inr j := by
          have := rdP_inr (aL S - (j + 1)) (by rw [hs1, hn] : rdP (aT S) (j + 1) = .inr j)
          rwa [show j + 1 + (aL S - (j + 1)) = aL S by omega] at this
        refine ⟨g1.tr e1, ?_, fun q' hq' => by rw [hf] at hq'; cases hq'⟩
        unfold faultF
        rw [hf]
  refine X_aload_n (i := 0) (pc' := 1) dX4_readText_0 rfl rfl rfl ?_
  refine X_get (pc' := 4) (v := .ref 3) dX4_readText_1 rfl (gf_X4_16 _ rfl) o_W_1 rfl rfl ?_
  refine X_OV (As := []) (rest := []) (pc' := 7) dX4_readText_4 rfl k_X1_begin l_X4_226 v_X1_begin o_W_3 rfl ⟨by decide, by decide⟩ rfl rfl (Nat.le_of_ble_eq_true rfl) (c_begin cx τ) (fun τ_4 h_4 => ?_)
  refine X_iconst (pc' := 8) (v := nI 0) dX4_readText_7 rfl (by decide) ?_
  refine X_istore_n (i := 1) (pc' := 9) (lv' := [(1, _), (0, _)]) dX4_readText_8 rfl rfl (Nat.le_of_ble_eq_true rfl) rfl ?_
  exact X_lv _ (by simp) (hl 0 (τ_4, rdI) (by omega) ⟨h_4.1, h_4.2, rdI_ok, rfl⟩)
theorem rd_scr {τ τ' : xT} {m : Nat} {S : SA} (h : RW τ m S) (e : xeq rdR τ τ') : RW τ' m S := h.scr (e.mono (by decide))
theorem c_fault (τ : xT) {S : SA} {m : Nat} (h : RW τ m S) : CI cx m_X4_fault [.ref 1] PW τ (fun v τ' => v = faultF (aT S) (aL S) ∧ RW τ' (m + 1) S) := by
  refine Ct_of (by decide) (Nat.le_of_ble_eq_true rfl) (lv := [(0, _)]) rfl ?_
  refine X_aload_n (i := 0) (pc' := 1) dX4_fault_0 rfl rfl rfl ?_
  refine X_OI (As := []) (rest := []) (pc' := 4) dX4_fault_1 rfl k_X4_readText l_X4_58 v_X4_readText o_W_1 rfl ⟨by decide, by decide⟩ rfl rfl (Nat.le_of_ble_eq_true rfl) (c_readText cx τ h) (fun x_1 τ_1 h_1 => ?_)
  refine X_ri dX4_fault_4 rfl ⟨rfl, rfl⟩ ?_
  exact ⟨h_1.2.1, (rd_scr h h_1.1).mono (by omega)⟩
theorem c_tTake (τ : xT) : CV cx m_X3_take [.ref 8, .ref 4] PW τ (fun τ' => xeq [8, 9, 10, 11] τ τ' ∧ (∀ i, i < 3 → τ'.1 8 i = τ.1 4 i) ∧ (∀ i, i < 6 → τ'.1 9 i = τ.1 5 i) ∧ (∀ i, i < 6 → τ'.1 10 i = τ.1 6 i) ∧ ∀ i, i < 6 → τ'.1 11 i = τ.1 7 i) := by
  refine Ct_of (by decide) (Nat.le_of_ble_eq_true rfl) (lv := [(0, _), (1, _)]) rfl ?_
  refine X_aload_n (i := 1) (pc' := 1) dX3_take_0 rfl rfl rfl ?_
  refine X_ifnonnull (pc' := 0) (tgt := 5) dX3_take_1 (by decide) ?_
  refine X_aload_n (i := 0) (pc' := 6) dX3_take_5 rfl rfl rfl ?_
  refine X_aload_n (i := 1) (pc' := 7) dX3_take_6 rfl rfl rfl ?_
  refine X_get (pc' := 10) (v := .int _) dX3_take_7 rfl (gf_X3_25 _ rfl) o_W_4 rfl rfl ?_
  refine X_putI (pc' := 13) dX3_take_10 rfl (pf_X3_25 _ rfl) o_W_8 rfl ?_
  refine X_aload_n (i := 0) (pc' := 14) dX3_take_13 rfl rfl rfl ?_
  refine X_aload_n (i := 1) (pc' := 15) dX3_take_14 rfl rfl rfl ?_
  refine X_get (pc' := 18) (v := .int _) dX3_take_15 rfl (gf_X3_9 _ rfl) o_W_4 rfl rfl ?_
  refine X_putI (pc' := 21) dX3_take_18 rfl (pf_X3_9 _ rfl) o_W_8 rfl ?_
  refine X_aload_n (i := 0) (pc' := 22) dX3_take_21 rfl rfl rfl ?_
  refine X_aload_n (i := 1) (pc' := 23) dX3_take_22 rfl rfl rfl ?_
  refine X_get (pc' := 26) (v := .int _) dX3_take_23 rfl (gf_X3_28 _ rfl) o_W_4 rfl rfl ?_
  refine X_putI (pc' := 29) dX3_take_26 rfl (pf_X3_28 _ rfl) o_W_8 rfl ?_
  generalize hτa : (xsi _ _ _ _) = τa
  have e1 : xeq [8] τ τa := by rw [← hτa]; exact ((xeq.rf.si (by simp)).si (by simp)).si (by simp)
  have e2 : ∀ i, i < 3 → τa.1 8 i = τ.1 4 i := by
    intro i hi
    rw [← hτa]
    have hi2 : i = 0 ∨ i = 1 ∨ i = 2 := by omega
    rcases hi2 with rfl | rfl | rfl <;> simp [xsi, upd]
  refine X_aload_n (i := 1) (pc' := 30) dX3_take_29 rfl rfl rfl ?_
  refine X_get (pc' := 33) (v := .ref 5) dX3_take_30 rfl (gf_X3_15 _ rfl) o_W_4 rfl rfl ?_
  refine X_aload_n (i := 0) (pc' := 34) dX3_take_33 rfl rfl rfl ?_
  refine X_get (pc' := 37) (v := .ref 9) dX3_take_34 rfl (gf_X3_15 _ rfl) o_W_8 rfl rfl ?_
  refine X_NV (As := [_, _]) (rest := []) (pc' := 40) dX3_take_37 rfl k_X4_copyRow l_X3_37 s_X4_copyRow ⟨by decide, by decide⟩ rfl rfl (Nat.le_of_ble_eq_true rfl) (c_X4_copyRow cx τa r_W_5 r_W_9 (by decide)) (fun τ_37 h_37 => ?_)
  refine X_aload_n (i := 1) (pc' := 41) dX3_take_40 rfl rfl rfl ?_
  refine X_get (pc' := 44) (v := .ref 6) dX3_take_41 rfl (gf_X3_19 _ rfl) o_W_4 rfl rfl ?_
  refine X_aload_n (i := 0) (pc' := 45) dX3_take_44 rfl rfl rfl ?_
  refine X_get (pc' := 48) (v := .ref 10) dX3_take_45 rfl (gf_X3_19 _ rfl) o_W_8 rfl rfl ?_
  refine X_NV (As := [_, _]) (rest := []) (pc' := 51) dX3_take_48 rfl k_X4_copyRow l_X3_37 s_X4_copyRow ⟨by decide, by decide⟩ rfl rfl (Nat.le_of_ble_eq_true rfl) (c_X4_copyRow cx τ_37 r_W_6 r_W_10 (by decide)) (fun τ_48 h_48 => ?_)
  refine X_aload_n (i := 1) (pc' := 52) dX3_take_51 rfl rfl rfl ?_
  refine X_get (pc' := 55) (v := .ref 7) dX3_take_52 rfl (gf_X3_22 _ rfl) o_W_4 rfl rfl ?_
  refine X_aload_n (i := 0) (pc' := 56) dX3_take_55 rfl rfl rfl ?_
  refine X_get (pc' := 59) (v := .ref 11) dX3_take_56 rfl (gf_X3_22 _ rfl) o_W_8 rfl rfl ?_
  refine X_NV (As := [_, _]) (rest := []) (pc' := 62) dX3_take_59 rfl k_X4_copyRow l_X3_37 s_X4_copyRow ⟨by decide, by decide⟩ rfl rfl (Nat.le_of_ble_eq_true rfl) (c_X4_copyRow cx τ_48 r_W_7 r_W_11 (by decide)) (fun τ_59 h_59 => ?_)
  refine X_rv dX3_take_62 rfl ⟨rfl, rfl⟩ ?_
  refine ⟨(e1.mono (by decide)).tr ((h_37.1.mono (by decide)).tr ((h_48.1.mono (by decide)).tr (h_59.1.mono (by decide)))), fun i hi => ?_, fun i hi => ?_, fun i hi => ?_, fun i hi => ?_⟩
  · rw [(h_59.1 8 (by decide)).1, (h_48.1 8 (by decide)).1, (h_37.1 8 (by decide)).1]; exact e2 i hi
  · rw [(h_59.1 9 (by decide)).1, (h_48.1 9 (by decide)).1, h_37.2 i hi, (e1 5 (by decide)).1]
  · rw [(h_59.1 10 (by decide)).1, h_48.2 i hi, (h_37.1 6 (by decide)).1, (e1 6 (by decide)).1]
  · rw [h_59.2 i hi, (h_48.1 7 (by decide)).1, (h_37.1 7 (by decide)).1, (e1 7 (by decide)).1]
theorem c_sBegin (τ : xT) : CV cx m_X2_begin [.ref 12, .ref 8] PW τ (fun τ' => xeq [12, 13, 14] τ τ' ∧ (∀ i, i < 5 → τ'.1 12 i = nI 0) ∧ (∀ i, i < 6 → τ'.1 13 i = τ.1 9 i) ∧ ∀ i, i < 6 → τ'.1 14 i = nI 0) := by
  refine Ct_of (by decide) (Nat.le_of_ble_eq_true rfl) (lv := [(0, _), (1, _)]) rfl ?_
  refine X_aload_n (i := 0) (pc' := 1) dX2_begin_0 rfl rfl rfl ?_
  refine X_iconst (pc' := 2) (v := nI 0) dX2_begin_1 rfl (by decide) ?_
  refine X_putI (pc' := 5) dX2_begin_2 rfl (pf_X2_18 _ rfl) o_W_12 rfl ?_
  refine X_aload_n (i := 0) (pc' := 6) dX2_begin_5 rfl rfl rfl ?_
  refine X_iconst (pc' := 7) (v := nI 0) dX2_begin_6 rfl (by decide) ?_
  refine X_putI (pc' := 10) dX2_begin_7 rfl (pf_X2_22 _ rfl) o_W_12 rfl ?_
  refine X_aload_n (i := 0) (pc' := 11) dX2_begin_10 rfl rfl rfl ?_
  refine X_iconst (pc' := 12) (v := nI 0) dX2_begin_11 rfl (by decide) ?_
  refine X_putI (pc' := 15) dX2_begin_12 rfl (pf_X2_25 _ rfl) o_W_12 rfl ?_
  refine X_aload_n (i := 0) (pc' := 16) dX2_begin_15 rfl rfl rfl ?_
  refine X_iconst (pc' := 17) (v := nI 0) dX2_begin_16 rfl (by decide) ?_
  refine X_putI (pc' := 20) dX2_begin_17 rfl (pf_X2_28 _ rfl) o_W_12 rfl ?_
  refine X_aload_n (i := 0) (pc' := 21) dX2_begin_20 rfl rfl rfl ?_
  refine X_iconst (pc' := 22) (v := nI 0) dX2_begin_21 rfl (by decide) ?_
  refine X_putI (pc' := 25) dX2_begin_22 rfl (pf_X2_31 _ rfl) o_W_12 rfl ?_
  generalize hτa : (xsi _ _ _ _) = τa
  have e1 : xeq [12] τ τa := by rw [← hτa]; exact ((((xeq.rf.si (by simp)).si (by simp)).si (by simp)).si (by simp)).si (by simp)
  have e2 : ∀ i, i < 5 → τa.1 12 i = nI 0 := by
    intro i hi
    rw [← hτa]
    have hi2 : i = 0 ∨ i = 1 ∨ i = 2 ∨ i = 3 ∨ i = 4 := by omega
    rcases hi2 with rfl | rfl | rfl | rfl | rfl <;> simp [xsi, upd]
  refine X_aload_n (i := 0) (pc' := 26) dX2_begin_25 rfl rfl rfl ?_
  refine X_get (pc' := 29) (v := .ref 14) dX2_begin_26 rfl (gf_X2_15 _ rfl) o_W_12 rfl rfl ?_
  refine X_iconst (pc' := 30) (v := nI 0) dX2_begin_29 rfl (by decide) ?_
  refine X_SV (As := [_, _]) (rest := []) (pc' := 33) dX2_begin_30 rfl k_J7_fill_53178 l_X2_34 s_J7_fill_53178 ⟨by decide, by decide⟩ rfl rfl (Nat.le_of_ble_eq_true rfl) (c_fillI cx τa r_W_14 (nI 0)) (fun τ_30 h_30 => ?_)
  refine X_aload_n (i := 1) (pc' := 34) dX2_begin_33 rfl rfl rfl ?_
  refine X_ifnull (pc' := 37) dX2_begin_34 rfl ?_
  refine X_aload_n (i := 1) (pc' := 38) dX2_begin_37 rfl rfl rfl ?_
  refine X_get (pc' := 41) (v := .ref 9) dX2_begin_38 rfl (gf_X2_40 _ rfl) o_W_8 rfl rfl ?_
  refine X_aload_n (i := 0) (pc' := 42) dX2_begin_41 rfl rfl rfl ?_
  refine X_get (pc' := 45) (v := .ref 13) dX2_begin_42 rfl (gf_X2_9 _ rfl) o_W_12 rfl rfl ?_
  refine X_NV (As := [_, _]) (rest := []) (pc' := 48) dX2_begin_45 rfl k_X4_copyRow l_X2_43 s_X4_copyRow ⟨by decide, by decide⟩ rfl rfl (Nat.le_of_ble_eq_true rfl) (c_X4_copyRow cx τ_30 r_W_9 r_W_13 (by decide)) (fun τ_45 h_45 => ?_)
  refine X_rv dX2_begin_48 rfl ⟨rfl, rfl⟩ ?_
  refine ⟨(e1.mono (by decide)).tr ((h_30.1.mono (by decide)).tr (h_45.1.mono (by decide))), fun i hi => ?_, fun i hi => ?_, fun i hi => ?_⟩
  · rw [(h_45.1 12 (by decide)).1, (h_30.1 12 (by decide)).1]; exact e2 i hi
  · rw [h_45.2 i hi, (h_30.1 9 (by decide)).1, (e1 9 (by decide)).1]
  · rw [(h_45.1 14 (by decide)).1]; exact h_30.2 i hi
theorem c_post (τ : xT) {S : SA} {m : Nat} (h : RW τ m S) : CI cx m_X4_post [.ref 1] PW τ (fun v τ' => v = (postA S).1 ∧ RW τ' (m + 1) (postA S).2) := by
  have hL := h.1.1
  refine Ct_of (by decide) (Nat.le_of_ble_eq_true rfl) (lv := [(0, _)]) rfl ?_
  refine X_aload_n (i := 0) (pc' := 1) dX4_post_0 rfl rfl rfl ?_
  refine X_OI (As := []) (rest := []) (pc' := 4) dX4_post_1 rfl k_X4_readText l_X4_58 v_X4_readText o_W_1 rfl ⟨by decide, by decide⟩ rfl rfl (Nat.le_of_ble_eq_true rfl) (c_readText cx τ h) (fun x_1 τ_1 h_1 => ?_)
  obtain ⟨e1, ev, er⟩ := h_1
  refine X_bipush (pc' := 6) (v := (-9)) dX4_post_4 rfl (by decide) ?_
  refine X_icmp_eq (pc' := 9) (tgt := 12) dX4_post_6 rfl (by decide) (fun h_6 => ?_) (fun h_6 => ?_)
  · obtain ⟨q, hr, h3⟩ : ∃ q, rdP (aT S) (aL S) = .inl q ∧ q.1 = 3 := by
      rw [ev] at h_6
      unfold faultF at h_6
      rcases hr : rdP (aT S) (aL S) with q | j
      · refine ⟨q, rfl, ?_⟩
        rw [hr] at h_6
        have h_6 : (if q.1 = 3 then (-9 : Int32) else nI (aL S)) = -9 := h_6
        by_cases h3 : q.1 = 3
        · exact h3
        · rw [if_neg h3] at h_6
          exact absurd h_6 (nI_ne9 (by omega))
      · rw [hr] at h_6
        have := rdP_lt hr
        exact absurd h_6 (nI_ne9 (by omega))
    obtain ⟨hRd, hok⟩ := er q hr
    have hp : postA S = (nI (pn q.2.2.1), (aT S, aL S, q.2.2.1, newS q.2.2.2, [], fun _ => none, aC S)) := by
      unfold postA
      rw [hr]
      exact if_pos h3
    rw [hp]
    have hn6 := hok.1
    refine X_aload_n (i := 0) (pc' := 13) dX4_post_12 rfl rfl rfl ?_
    refine X_get (pc' := 16) (v := .ref 8) dX4_post_13 rfl (gf_X4_23 _ rfl) o_W_1 rfl rfl ?_
    refine X_aload_n (i := 0) (pc' := 17) dX4_post_16 rfl rfl rfl ?_
    refine X_get (pc' := 20) (v := .ref 3) dX4_post_17 rfl (gf_X4_16 _ rfl) o_W_1 rfl rfl ?_
    refine X_get (pc' := 23) (v := .ref 4) dX4_post_20 rfl (gf_X4_62 _ rfl) o_W_3 rfl rfl ?_
    refine X_OV (As := [_]) (rest := []) (pc' := 26) dX4_post_23 rfl k_X3_take l_X4_65 v_X3_take o_W_8 rfl ⟨by decide, by decide⟩ rfl rfl (Nat.le_of_ble_eq_true rfl) (c_tTake cx τ_1) (fun τ_23 h_23 => ?_)
    refine X_aload_n (i := 0) (pc' := 27) dX4_post_26 rfl rfl rfl ?_
    refine X_get (pc' := 30) (v := .ref 12) dX4_post_27 rfl (gf_X4_30 _ rfl) o_W_1 rfl rfl ?_
    refine X_aload_n (i := 0) (pc' := 31) dX4_post_30 rfl rfl rfl ?_
    refine X_get (pc' := 34) (v := .ref 8) dX4_post_31 rfl (gf_X4_23 _ rfl) o_W_1 rfl rfl ?_
    refine X_OV (As := [_]) (rest := []) (pc' := 37) dX4_post_34 rfl k_X2_begin l_X4_69 v_X2_begin o_W_12 rfl ⟨by decide, by decide⟩ rfl rfl (Nat.le_of_ble_eq_true rfl) (c_sBegin cx τ_23) (fun τ_34 h_34 => ?_)
    refine X_aload_n (i := 0) (pc' := 38) dX4_post_37 rfl rfl rfl ?_
    refine X_iconst (pc' := 39) (v := nI 0) dX4_post_38 rfl (by decide) ?_
    refine X_putI (pc' := 42) dX4_post_39 rfl (pf_X4_72 _ rfl) o_W_1 rfl ?_
    refine X_aload_n (i := 0) (pc' := 43) dX4_post_42 rfl rfl rfl ?_
    refine X_iconst (pc' := 44) (v := nI 0) dX4_post_43 rfl (by decide) ?_
    refine X_putI (pc' := 47) dX4_post_44 rfl (pf_X4_75 _ rfl) o_W_1 rfl ?_
    refine X_aload_n (i := 0) (pc' := 48) dX4_post_47 rfl rfl rfl ?_
    refine X_get (pc' := 51) (v := .ref 8) dX4_post_48 rfl (gf_X4_23 _ rfl) o_W_1 rfl rfl ?_
    refine X_get (pc' := 54) (v := .int _) dX4_post_51 rfl (gf_X4_78 _ rfl) o_W_8 rfl rfl ?_
    refine X_eqi (nI (pn q.2.2.1)) (by simp [xsi]; rw [(h_34.1 8 (by decide)).1, h_23.2.1 2 (by decide)]; exact hRd.2.2.2.2.1) ?_
    refine X_ri dX4_post_54 rfl ⟨rfl, rfl⟩ ?_
    obtain ⟨d0, d1, d2, d3, d4, d5, d6, d7⟩ := hRd
    obtain ⟨t1, t2, t3, t4, t5⟩ := h_23
    obtain ⟨b1, b2, b3, b4⟩ := h_34
    obtain ⟨g1, g2, g3, g4, g5, g6, g7, g8⟩ := rd_scr h e1
    have ef : xeq [1, 8, 9, 10, 11, 12, 13, 14] τ_1 (xsi (xsi τ_34 1 7 (nI 0)) 1 9 (nI 0)) := (((t1.mono (by decide)).tr (b1.mono (by decide))).si (by decide)).si (by decide)
    have r1 : τ_34.1 1 = τ_1.1 1 := by rw [(b1 1 (by decide)).1, (t1 1 (by decide)).1]
    have hrow : ∀ k, k ≠ 1 → (xsi (xsi τ_34 1 7 (nI 0)) 1 9 (nI 0)).1 k = τ_34.1 k := fun k hk => (xsi_ne _ _ _ hk).trans (xsi_ne _ _ _ hk)
    have e8 := (b1 8 (by decide)).1
    refine ⟨rfl, ⟨g1.1, g1.2.1, hok.p, newS_ok hok _, Nat.zero_le _, fun a (ha : a ∈ ([] : List SN)) => absurd ha (by simp), fun j a (ha : (none : Option SN) = some a) => absurd ha (by simp)⟩, fun i hi => ?_, ?_, ?_, ?_, ?_, ?_, ?_⟩
    · rw [(ef 2 (by decide)).1]; exact g2 i hi
    · rw [xsi_self, pk_un (by decide), xsi_self, pk_un (by decide), r1]; exact g3
    · refine ⟨?_, ?_, ?_, fun i hi => ?_, fun i hi => ?_⟩
      · rw [hrow 8 (by decide), e8, t2 0 (by decide)]; exact d2
      · rw [hrow 8 (by decide), e8, t2 1 (by decide)]; exact d3
      · rw [hrow 8 (by decide), e8, t2 2 (by decide)]; exact d4
      · have hi : i < pn q.2.2.1 := hi
        rw [hrow (8 + 2) (by decide), (b1 (8 + 2) (by decide)).1]
        exact (t4 i (by omega)).trans (d6 i hi)
      · have hi : i < pn q.2.2.1 := hi
        rw [hrow (8 + 3) (by decide), (b1 (8 + 3) (by decide)).1]
        exact (t5 i (by omega)).trans (d7 i (by omega))
    · refine ⟨?_, ?_, ?_, ?_, ?_, fun i hi => ?_, fun i hi => ?_⟩
      · rw [hrow 12 (by decide)]; exact b2 0 (by decide)
      · rw [hrow 12 (by decide)]; exact b2 1 (by decide)
      · rw [hrow 12 (by decide)]; exact b2 2 (by decide)
      · rw [hrow 12 (by decide)]; exact b2 3 (by decide)
      · rw [hrow 12 (by decide)]; exact b2 4 (by decide)
      · have hi : i < pn q.2.2.1 := hi
        rw [hrow (12 + 1) (by decide)]
        exact ((b3 i (by omega)).trans (t3 i (by omega))).trans (d5 i hi)
      · have hi : i < pn q.2.2.1 := hi
        rw [hrow (12 + 2) (by decide)]
        exact b4 i (by omega)
    · obtain ⟨a1, a2, a3, a4, a5⟩ := g6
      have r18 := (ef 18 (by decide)).2.2
      exact ⟨by rw [xsi_self, pk_un (by decide), xsi_self, pk_us]; rfl, Nat.zero_le _, fun i hi => by rw [r18]; exact a3 i hi, fun i j hi hj e => a4 i j hi hj (by rw [r18] at e; exact e), fun i s' hs' => by cases hs'⟩
    · obtain ⟨k1, k2, k3⟩ := g7
      have r61 := (ef 61 (by decide)).2.2
      exact ⟨fun j hj => by rw [r61]; exact k1 j hj, ⟨0, by decide, by rw [xsi_self, pk_us], fun j hj => ⟨fun e => by unfold bt at e; rw [Nat.zero_div] at e; exact absurd e (by decide), fun e => by cases e⟩⟩, fun j s hj hs => by cases hs⟩
    · show τ_34.2.1 1 12 = _
      rw [(b1 1 (by decide)).2.1, (t1 1 (by decide)).2.1]; exact g8
  · refine X_bipush (pc' := 11) (v := (-3)) dX4_post_9 rfl (by decide) ?_
    refine X_ri dX4_post_11 rfl ⟨rfl, rfl⟩ ?_
    have hp : postA S = (-3, S) := by
      unfold postA
      rcases hr : rdP (aT S) (aL S) with q | j
      · show (if q.1 = 3 then _ else _) = _
        rw [if_neg]
        intro h3
        apply h_6
        rw [ev]
        unfold faultF
        rw [hr]
        exact if_pos h3
      · rfl
    rw [hp]
    exact ⟨rfl, (rd_scr h e1).mono (by omega)⟩
end PO
