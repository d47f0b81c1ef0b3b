/-! ===== the row of acts ===== -/
theorem xrf_ne {r : Nat} (h : r ≠ 0) : xrf r = .ref r := if_neg h
def actW : List Nat := [19, 22, 25, 28, 31, 34, 37, 40, 43, 46, 49, 52, 55, 58]
theorem act_st : ∀ k ∈ actW, k ∈ stW := by decide +kernel
theorem act_ne : ∀ k ∈ actW, k ≠ 0 ∧ k ≠ 12 ∧ 19 ≤ k ∧ k ≤ 58 := by decide +kernel
def AW (τ : xT) (n : Nat) (acts : List SN) : Prop := τ.1 1 7 = nI acts.length ∧ acts.length ≤ 14 ∧ (∀ j, j < 14 → τ.2.2 18 j ∈ actW) ∧ (∀ i j, i < 14 → j < 14 → τ.2.2 18 i = τ.2.2 18 j → i = j) ∧ ∀ (j : Nat) (s : SN), acts[j]? = some s → SR τ (τ.2.2 18 j) n s
def pushA (acts : List SN) (s : SN) : List SN := (if acts.length = 14 then acts.tail else acts) ++ [s]
def actR : List Nat := [1, 18, 19, 20, 21, 22, 23, 24, 25, 26, 27, 28, 29, 30, 31, 32, 33, 34, 35, 36, 37, 38, 39, 40, 41, 42, 43, 44, 45, 46, 47, 48, 49, 50, 51, 52, 53, 54, 55, 56, 57, 58, 59, 60]
theorem act_R : ∀ k ∈ actW, k ∈ actR ∧ k + 1 ∈ actR ∧ k + 2 ∈ actR := by decide +kernel
theorem sr_self (τ : xT) (a k v : Nat) : (xsr τ a k v).2.2 a k = v := if_pos ⟨rfl, rfl⟩
theorem sr_ne (τ : xT) {a b k j : Nat} (v : Nat) (h : ¬ (b = a ∧ j = k)) : (xsr τ a k v).2.2 b j = τ.2.2 b j := if_neg h
theorem st_sep {k j : Nat} (hk : k ∈ stW) (hj : j ∈ stW) (hne : k ≠ j) : k ∉ [j, j + 1, j + 2] ∧ k + 1 ∉ [j, j + 1, j + 2] ∧ k + 2 ∉ [j, j + 1, j + 2] := by
  have h := st_apart k hk j hj hne
  refine ⟨?_, ?_, ?_⟩ <;> simp <;> omega
section AC
variable (cx : xC)
set_option maxHeartbeats 4000000
set_option maxRecDepth 100000
theorem c_forget (τ : xT) (hw : ∀ j, j < 14 → τ.2.2 18 j ∈ actW) : CV cx m_X4_forgetFirstAct [.ref 1] PW τ (fun τ' => τ'.1 = (xsi τ 1 7 (nI 13)).1 ∧ τ'.2.1 = τ.2.1 ∧ (∀ a, a ≠ 18 → τ'.2.2 a = τ.2.2 a) ∧ (∀ j, j < 13 → τ'.2.2 18 j = τ.2.2 18 (j + 1)) ∧ τ'.2.2 18 13 = τ.2.2 18 0) := by
  refine Ct_of (by decide) (Nat.le_of_ble_eq_true rfl) (lv := [(0, _)]) rfl ?_
  have hl : ∀ (i : Nat) (τ' : xT), i ≤ 13 → (τ'.1 = τ.1 ∧ τ'.2.1 = τ.2.1 ∧ (∀ a, a ≠ 18 → τ'.2.2 a = τ.2.2 a) ∧ (∀ j, j < i → τ'.2.2 18 j = τ.2.2 18 (j + 1)) ∧ ∀ j, i ≤ j → j < 14 → τ'.2.2 18 j = τ.2.2 18 j) → X cx m_X4_forgetFirstAct PW (qV PW (fun τ' => τ'.1 = (xsi τ 1 7 (nI 13)).1 ∧ τ'.2.1 = τ.2.1 ∧ (∀ a, a ≠ 18 → τ'.2.2 a = τ.2.2 a) ∧ (∀ j, j < 13 → τ'.2.2 18 j = τ.2.2 18 (j + 1)) ∧ τ'.2.2 18 13 = τ.2.2 18 0)) 21 [(2, .int (nI (i + 1))), (1, .ref (τ.2.2 18 0)), (0, .ref 1)] [] PW τ' := by
    refine xloop _ _ 13 (fun τ' h => ?_) (fun i τ' hi h ih => ?_)
    · obtain ⟨e1, e2, e3, e4, e5⟩ := h
      have h0 := act_st _ (hw 0 (by decide))
      refine X_iload_n (i := 2) (pc' := 22) dX4_forgetFirstAct_21 rfl rfl rfl ?_
      refine X_aload_n (i := 0) (pc' := 23) dX4_forgetFirstAct_22 rfl rfl rfl ?_
      refine X_get (pc' := 26) (v := .ref 18) dX4_forgetFirstAct_23 rfl (gf_X4_37 _ rfl) o_W_1 rfl rfl ?_
      refine X_alen (pc' := 27) dX4_forgetFirstAct_26 rfl (Or.inl ⟨r_W_18, by decide⟩) ?_
      refine X_icmp_ge (pc' := 30) (tgt := 50) dX4_forgetFirstAct_27 rfl (by decide) (fun h_27 => ?_) (fun h_27 => absurd (nI_le (by decide) (by decide)) h_27)
      refine X_aload_n (i := 0) (pc' := 51) dX4_forgetFirstAct_50 rfl rfl rfl ?_
      refine X_get (pc' := 54) (v := .ref 18) dX4_forgetFirstAct_51 rfl (gf_X4_37 _ rfl) o_W_1 rfl rfl ?_
      refine X_alen (pc' := 55) dX4_forgetFirstAct_54 rfl (Or.inl ⟨r_W_18, by decide⟩) ?_
      refine X_if_le (pc' := 58) (tgt := 82) dX4_forgetFirstAct_55 rfl (by decide) (fun h_55 => absurd h_55 (by decide)) (fun h_55 => ?_)
      refine X_aload_n (i := 0) (pc' := 59) dX4_forgetFirstAct_58 rfl rfl rfl ?_
      refine X_get (pc' := 62) (v := .ref 18) dX4_forgetFirstAct_59 rfl (gf_X4_37 _ rfl) o_W_1 rfl rfl ?_
      refine X_aload_n (i := 0) (pc' := 63) dX4_forgetFirstAct_62 rfl rfl rfl ?_
      refine X_get (pc' := 66) (v := .ref 18) dX4_forgetFirstAct_63 rfl (gf_X4_37 _ rfl) o_W_1 rfl rfl ?_
      refine X_alen (pc' := 67) dX4_forgetFirstAct_66 rfl (Or.inl ⟨r_W_18, by decide⟩) ?_
      refine X_iconst (pc' := 68) (v := nI 1) dX4_forgetFirstAct_67 rfl (by decide) ?_
      refine X_isub (pc' := 69) dX4_forgetFirstAct_68 rfl ?_
      refine X_eqi (nI 13) (by decide) ?_
      refine X_aload_n (i := 1) (pc' := 70) dX4_forgetFirstAct_69 rfl rfl rfl ?_
      refine X_aast (pc' := 71) (j := 13) dX4_forgetFirstAct_70 rfl r_W_18 (rfl) (by decide) (st_o h0) ?_
      refine X_aload_n (i := 0) (pc' := 72) dX4_forgetFirstAct_71 rfl rfl rfl ?_
      refine X_aload_n (i := 0) (pc' := 73) dX4_forgetFirstAct_72 rfl rfl rfl ?_
      refine X_get (pc' := 76) (v := .ref 18) dX4_forgetFirstAct_73 rfl (gf_X4_37 _ rfl) o_W_1 rfl rfl ?_
      refine X_alen (pc' := 77) dX4_forgetFirstAct_76 rfl (Or.inl ⟨r_W_18, by decide⟩) ?_
      refine X_iconst (pc' := 78) (v := nI 1) dX4_forgetFirstAct_77 rfl (by decide) ?_
      refine X_isub (pc' := 79) dX4_forgetFirstAct_78 rfl ?_
      refine X_eqi (nI 13) (by decide) ?_
      refine X_putI (pc' := 82) dX4_forgetFirstAct_79 rfl (pf_X4_72 _ rfl) o_W_1 rfl ?_
      refine X_rv dX4_forgetFirstAct_82 rfl ⟨rfl, rfl⟩ ?_
      refine ⟨?_, e2, fun a ha => ?_, fun j hj => ?_, ?_⟩
      · show (xsi (xsr τ' 18 13 (τ.2.2 18 0)) 1 7 (nI 13)).1 = _
        funext a
        simp [xsi, xsr, e1]
      · show (xsr τ' 18 13 (τ.2.2 18 0)).2.2 a = _
        funext j
        rw [sr_ne _ _ (fun q => ha q.1), e3 a ha]
      · show (xsr τ' 18 13 (τ.2.2 18 0)).2.2 18 j = _
        rw [sr_ne _ _ (fun q => by omega), e4 j hj]
      · show (xsr τ' 18 13 (τ.2.2 18 0)).2.2 18 13 = _
        rw [sr_self]
    · obtain ⟨e1, e2, e3, e4, e5⟩ := h
      have hr : τ'.2.2 18 (i + 1) = τ.2.2 18 (i + 1) := e5 (i + 1) (by omega) (by omega)
      have hm := hw (i + 1) (by omega)
      have h1 := act_st _ hm
      refine X_iload_n (i := 2) (pc' := 22) dX4_forgetFirstAct_21 rfl rfl rfl ?_
      refine X_aload_n (i := 0) (pc' := 23) dX4_forgetFirstAct_22 rfl rfl rfl ?_
      refine X_get (pc' := 26) (v := .ref 18) dX4_forgetFirstAct_23 rfl (gf_X4_37 _ rfl) o_W_1 rfl rfl ?_
      refine X_alen (pc' := 27) dX4_forgetFirstAct_26 rfl (Or.inl ⟨r_W_18, by decide⟩) ?_
      refine X_icmp_ge (pc' := 30) (tgt := 50) dX4_forgetFirstAct_27 rfl (by decide) (fun h_27 => absurd h_27 (nI_ge (by omega) (by decide))) (fun h_27 => ?_)
      refine X_aload_n (i := 0) (pc' := 31) dX4_forgetFirstAct_30 rfl rfl rfl ?_
      refine X_get (pc' := 34) (v := .ref 18) dX4_forgetFirstAct_31 rfl (gf_X4_37 _ rfl) o_W_1 rfl rfl ?_
      refine X_iload_n (i := 2) (pc' := 35) dX4_forgetFirstAct_34 rfl rfl rfl ?_
      refine X_iconst (pc' := 36) (v := nI 1) dX4_forgetFirstAct_35 rfl (by decide) ?_
      refine X_isub (pc' := 37) dX4_forgetFirstAct_36 rfl ?_
      refine X_eqi (nI i) (nI_pred i) ?_
      refine X_aload_n (i := 0) (pc' := 38) dX4_forgetFirstAct_37 rfl rfl rfl ?_
      refine X_get (pc' := 41) (v := .ref 18) dX4_forgetFirstAct_38 rfl (gf_X4_37 _ rfl) o_W_1 rfl rfl ?_
      refine X_iload_n (i := 2) (pc' := 42) dX4_forgetFirstAct_41 rfl rfl rfl ?_
      refine X_aald (pc' := 43) (j := i + 1) dX4_forgetFirstAct_42 rfl r_W_18 (rfl) (by omega) ?_
      rw [hr, xrf_ne (act_ne _ hm).1]
      refine X_aast (pc' := 44) (j := i) dX4_forgetFirstAct_43 rfl r_W_18 (rfl) (by omega) (st_o h1) ?_
      refine X_iinc (pc' := 47) (v := nI (i + 1 + 1)) (lv' := [(2, _), (1, _), (0, _)]) dX4_forgetFirstAct_44 rfl rfl ((nI_succ (i + 1)).symm) (Nat.le_of_ble_eq_true rfl) rfl ?_
      refine X_goto (pc' := 0) (tgt := 21) dX4_forgetFirstAct_47 (by decide) ?_
      refine X_lv _ (by simp) (ih _ ⟨e1, e2, fun a ha => ?_, fun j hj => ?_, fun j hj hj2 => ?_⟩)
      · funext j
        rw [sr_ne _ _ (fun q => ha q.1), e3 a ha]
      · by_cases hji : j = i
        · subst hji; rw [sr_self]
        · rw [sr_ne _ _ (fun q => hji q.2)]; exact e4 j (by omega)
      · rw [sr_ne _ _ (fun q => by omega)]; exact e5 j (by omega) hj2
  have hm := hw 0 (by decide)
  have h1 := act_st _ hm
  refine X_aload_n (i := 0) (pc' := 1) dX4_forgetFirstAct_0 rfl rfl rfl ?_
  refine X_get (pc' := 4) (v := .ref 18) dX4_forgetFirstAct_1 rfl (gf_X4_37 _ rfl) o_W_1 rfl rfl ?_
  refine X_alen (pc' := 5) dX4_forgetFirstAct_4 rfl (Or.inl ⟨r_W_18, by decide⟩) ?_
  refine X_if_le (pc' := 8) (tgt := 17) dX4_forgetFirstAct_5 rfl (by decide) (fun h_5 => absurd h_5 (by decide)) (fun h_5 => ?_)
  refine X_aload_n (i := 0) (pc' := 9) dX4_forgetFirstAct_8 rfl rfl rfl ?_
  refine X_get (pc' := 12) (v := .ref 18) dX4_forgetFirstAct_9 rfl (gf_X4_37 _ rfl) o_W_1 rfl rfl ?_
  refine X_iconst (pc' := 13) (v := nI 0) dX4_forgetFirstAct_12 rfl (by decide) ?_
  refine X_aald (pc' := 14) (j := 0) dX4_forgetFirstAct_13 rfl r_W_18 (rfl) (by decide) ?_
  rw [xrf_ne (act_ne _ hm).1]
  refine X_goto (pc' := 0) (tgt := 18) dX4_forgetFirstAct_14 (by decide) ?_
  refine X_astore_n (i := 1) (pc' := 19) (lv' := [(1, _), (0, _)]) dX4_forgetFirstAct_18 rfl rfl (Nat.le_of_ble_eq_true rfl) rfl ?_
  refine X_iconst (pc' := 20) (v := nI 1) dX4_forgetFirstAct_19 rfl (by decide) ?_
  refine X_istore_n (i := 2) (pc' := 21) (lv' := [(2, _), (1, _), (0, _)]) dX4_forgetFirstAct_20 rfl rfl (Nat.le_of_ble_eq_true rfl) rfl ?_
  exact X_lv _ (by simp) (hl 0 τ (by omega) ⟨rfl, rfl, fun _ _ => rfl, fun j hj => absurd hj (by omega), fun _ _ _ => rfl⟩)
theorem SR_rows {τ τ' : xT} {k n : Nat} {s : SN} (h : SR τ k n s) (h0 : τ'.1 k = τ.1 k) (h1 : τ'.1 (k + 1) = τ.1 (k + 1)) (h2 : τ'.1 (k + 2) = τ.1 (k + 2)) : SR τ' k n s := by
  unfold SR
  rw [h0, h1, h2]
  exact h
theorem c_remember (τ : xT) {n : Nat} {s : SN} {acts : List SN} (hn : n ≤ 6) (hs : SR τ 12 n s) (ha : AW τ n acts) : CV cx m_X4_remember [.ref 1] PW τ (fun τ' => xeq actR τ τ' ∧ (∀ i, i ≠ 7 → τ'.1 1 i = τ.1 1 i) ∧ τ'.2.1 1 = τ.2.1 1 ∧ AW τ' n (pushA acts s)) := by
  obtain ⟨a1, a2, a3, a4, a5⟩ := ha
  refine Ct_of (by decide) (Nat.le_of_ble_eq_true rfl) (lv := [(0, _)]) rfl ?_
  -- with room for one more
  have go : ∀ (τ1 : xT) (l : List SN), l.length < 14 → xeq actR τ τ1 → (∀ i, i ≠ 7 → τ1.1 1 i = τ.1 1 i) → τ1.2.1 1 = τ.2.1 1 → τ1.1 1 7 = nI l.length → (∀ j, j < 14 → τ1.2.2 18 j ∈ actW) → (∀ i j, i < 14 → j < 14 → τ1.2.2 18 i = τ1.2.2 18 j → i = j) → (∀ (j : Nat) (s : SN), l[j]? = some s → SR τ1 (τ1.2.2 18 j) n s) → pushA acts s = l ++ [s] → X cx m_X4_remember PW (qV PW (fun τ' => xeq actR τ τ' ∧ (∀ i, i ≠ 7 → τ'.1 1 i = τ.1 1 i) ∧ τ'.2.1 1 = τ.2.1 1 ∧ AW τ' n (pushA acts s))) 16 [(0, .ref 1)] [] PW τ1 := by
    intro τ1 l hl g1 g2 g3 g4 g5 g6 g7 g8
    have hm := g5 l.length hl
    have hst := act_st _ hm
    have hsep := (act_ne _ hm).2.1
    have hs1 : SR τ1 12 n s := hs.kept g1 (by decide) (by decide) (by decide)
    have hR := act_R _ hm
    refine X_aload_n (i := 0) (pc' := 17) dX4_remember_16 rfl rfl rfl ?_
    refine X_get (pc' := 20) (v := .int _) dX4_remember_17 rfl (gf_X4_72 _ rfl) o_W_1 rfl rfl ?_
    refine X_eqi (nI l.length) (g4) ?_
    refine X_if_lt (pc' := 23) (tgt := 73) dX4_remember_20 rfl (by decide) (fun h_20 => absurd h_20 (nI_pos (by omega))) (fun h_20 => ?_)
    refine X_aload_n (i := 0) (pc' := 24) dX4_remember_23 rfl rfl rfl ?_
    refine X_get (pc' := 27) (v := .int _) dX4_remember_24 rfl (gf_X4_72 _ rfl) o_W_1 rfl rfl ?_
    refine X_eqi (nI l.length) (g4) ?_
    refine X_aload_n (i := 0) (pc' := 28) dX4_remember_27 rfl rfl rfl ?_
    refine X_get (pc' := 31) (v := .ref 18) dX4_remember_28 rfl (gf_X4_37 _ rfl) o_W_1 rfl rfl ?_
    refine X_alen (pc' := 32) dX4_remember_31 rfl (Or.inl ⟨r_W_18, by decide⟩) ?_
    refine X_icmp_ge (pc' := 35) (tgt := 73) dX4_remember_32 rfl (by decide) (fun h_32 => absurd h_32 (nI_ge hl (by decide))) (fun h_32 => ?_)
    refine X_aload_n (i := 0) (pc' := 36) dX4_remember_35 rfl rfl rfl ?_
    refine X_get (pc' := 39) (v := .ref 18) dX4_remember_36 rfl (gf_X4_37 _ rfl) o_W_1 rfl rfl ?_
    refine X_aload_n (i := 0) (pc' := 40) dX4_remember_39 rfl rfl rfl ?_
    refine X_get (pc' := 43) (v := .int _) dX4_remember_40 rfl (gf_X4_72 _ rfl) o_W_1 rfl rfl ?_
    refine X_eqi (nI l.length) (g4) ?_
    refine X_aald (pc' := 44) (j := l.length) dX4_remember_43 rfl r_W_18 (rfl) (hl) ?_
    rw [xrf_ne (act_ne _ hm).1]
    refine X_ifnull (pc' := 47) dX4_remember_44 rfl ?_
    refine X_aload_n (i := 0) (pc' := 48) dX4_remember_47 rfl rfl rfl ?_
    refine X_get (pc' := 51) (v := .ref 18) dX4_remember_48 rfl (gf_X4_37 _ rfl) o_W_1 rfl rfl ?_
    refine X_aload_n (i := 0) (pc' := 52) dX4_remember_51 rfl rfl rfl ?_
    refine X_get (pc' := 55) (v := .int _) dX4_remember_52 rfl (gf_X4_72 _ rfl) o_W_1 rfl rfl ?_
    refine X_eqi (nI l.length) (g4) ?_
    refine X_aald (pc' := 56) (j := l.length) dX4_remember_55 rfl r_W_18 (rfl) (hl) ?_
    rw [xrf_ne (act_ne _ hm).1]
    refine X_aload_n (i := 0) (pc' := 57) dX4_remember_56 rfl rfl rfl ?_
    refine X_get (pc' := 60) (v := .ref 12) dX4_remember_57 rfl (gf_X4_30 _ rfl) o_W_1 rfl rfl ?_
    refine X_OV (As := [_]) (rest := []) (pc' := 63) dX4_remember_60 rfl k_X2_take l_X4_141 v_X2_take (st_o hst) rfl ⟨by decide, by decide⟩ rfl rfl (Nat.le_of_ble_eq_true rfl) (ct_take cx τ1 hst (by decide) hsep hn hs1) (fun τ_60 h_60 => ?_)
    refine X_aload_n (i := 0) (pc' := 64) dX4_remember_63 rfl rfl rfl ?_
    refine X_dup (pc' := 65) dX4_remember_64 rfl rfl ?_
    refine X_get (pc' := 68) (v := .int _) dX4_remember_65 rfl (gf_X4_72 _ rfl) o_W_1 rfl rfl ?_
    refine X_eqi (nI l.length) (by show τ_60.1 1 7 = _; rw [(h_60.1 1 (by have := (act_ne _ hm).2.2; simp; omega)).1]; exact g4) ?_
    refine X_iconst (pc' := 69) (v := nI 1) dX4_remember_68 rfl (by decide) ?_
    refine X_iadd (pc' := 70) dX4_remember_69 rfl ?_
    refine X_eqi (nI (l.length + 1)) (nI_add _ _) ?_
    refine X_putI (pc' := 73) dX4_remember_70 rfl (pf_X4_72 _ rfl) o_W_1 rfl ?_
    refine X_rv dX4_remember_73 rfl ⟨rfl, rfl⟩ ?_
    obtain ⟨t1, t2⟩ := h_60
    have hne := (act_ne _ hm).2.2
    have r1 := t1 1 (by simp; omega)
    have r18 := t1 18 (by simp; omega)
    refine ⟨?_, fun i hi => ?_, r1.2.1.trans g3, ?_⟩
    · refine xeq.si (g1.tr (t1.mono (fun a ha => ?_))) (by decide)
      simp only [List.mem_cons, List.not_mem_nil, or_false] at ha
      rcases ha with rfl | rfl | rfl
      · exact hR.1
      · exact hR.2.1
      · exact hR.2.2
    · rw [xsi_self, pk_un hi, r1.1]; exact g2 i hi
    · rw [g8]
      refine ⟨by rw [xsi_self, pk_us, List.length_append]; rfl, by rw [List.length_append]; show l.length + 1 ≤ 14; omega, ?_, ?_, ?_⟩
      · intro j hj
        show τ_60.2.2 18 j ∈ actW
        rw [r18.2.2]; exact g5 j hj
      · intro i j hi hj
        show τ_60.2.2 18 i = τ_60.2.2 18 j → _
        rw [r18.2.2]; exact g6 i j hi hj
      · intro j s' hs'
        show SR _ (τ_60.2.2 18 j) n s'
        rw [r18.2.2]
        by_cases hjl : j < l.length
        · rw [List.getElem?_append_left hjl] at hs'
          have hj14 : j < 14 := by omega
          have hmj := g5 j hj14
          have hdne : τ1.2.2 18 j ≠ τ1.2.2 18 l.length := fun e => by have := g6 j l.length hj14 hl e; omega
          have hsp := st_sep (act_st _ hmj) hst hdne
          have hnj := (act_ne _ hmj).2.2
          refine SR_rows ((g7 j s' hs').kept t1 hsp.1 hsp.2.1 hsp.2.2) ?_ ?_ ?_ <;> exact xsi_ne _ _ _ (by omega)
        · have hje : j = l.length := by
            have := (List.getElem?_eq_some_iff.mp hs').1
            rw [List.length_append] at this
            have h1 : ([s] : List SN).length = 1 := rfl
            omega
          subst hje
          have : s' = s := by
            rw [List.getElem?_append_right (Nat.le_refl _), Nat.sub_self] at hs'
            exact (Option.some.inj hs').symm
          subst this
          refine SR_rows t2 ?_ ?_ ?_ <;> exact xsi_ne _ _ _ (by omega)
  by_cases h14 : acts.length = 14
  · refine X_aload_n (i := 0) (pc' := 1) dX4_remember_0 rfl rfl rfl ?_
    refine X_get (pc' := 4) (v := .int _) dX4_remember_1 rfl (gf_X4_72 _ rfl) o_W_1 rfl rfl ?_
    refine X_eqi (nI acts.length) (a1) ?_
    refine X_aload_n (i := 0) (pc' := 5) dX4_remember_4 rfl rfl rfl ?_
    refine X_get (pc' := 8) (v := .ref 18) dX4_remember_5 rfl (gf_X4_37 _ rfl) o_W_1 rfl rfl ?_
    refine X_alen (pc' := 9) dX4_remember_8 rfl (Or.inl ⟨r_W_18, by decide⟩) ?_
    refine X_icmp_lt (pc' := 12) (tgt := 16) dX4_remember_9 rfl (by decide) (fun h_9 => absurd h_9 (by rw [h14]; decide)) (fun h_9 => ?_)
    refine X_aload_n (i := 0) (pc' := 13) dX4_remember_12 rfl rfl rfl ?_
    refine X_OV (As := []) (rest := []) (pc' := 16) dX4_remember_13 rfl k_X4_forgetFirstAct l_X4_235 v_X4_forgetFirstAct o_W_1 rfl ⟨by decide, by decide⟩ rfl rfl (Nat.le_of_ble_eq_true rfl) (c_forget cx τ a3) (fun τ_13 h_13 => ?_)
    obtain ⟨f1, f2, f3, f4, f5⟩ := h_13
    have hlen : acts.tail.length = 13 := by rw [List.length_tail, h14]
    have hrow : ∀ j, j < 14 → τ_13.2.2 18 j = τ.2.2 18 (if j = 13 then 0 else j + 1) := by
      intro j hj
      by_cases hj13 : j = 13
      · subst hj13; rw [if_pos rfl]; exact f5
      · rw [if_neg hj13]; exact f4 j (by omega)
    refine go τ_13 acts.tail (by omega) (fun a ha => ?_) (fun i hi => ?_) (by rw [f2]) ?_ (fun j hj => ?_) (fun i j hi hj e => ?_) (fun j s' hs' => ?_) (by unfold pushA; rw [if_pos h14])
    · refine ⟨?_, by rw [f2], f3 a (fun e => ha (by rw [e]; decide))⟩
      rw [f1]; exact xsi_ne _ _ _ (fun e => ha (by rw [e]; decide))
    · rw [f1, xsi_self, pk_un hi]
    · rw [f1, xsi_self, pk_us, hlen]
    · rw [hrow j hj]; exact a3 _ (by split <;> omega)
    · rw [hrow i hi, hrow j hj] at e
      have := a4 _ _ (by split <;> omega) (by split <;> omega) e
      split at this <;> split at this <;> omega
    · have hj13 : j < 13 := by
        have := (List.getElem?_eq_some_iff.mp hs').1
        omega
      rw [hrow j (by omega), if_neg (by omega)]
      have hs2 : acts[j + 1]? = some s' := by rw [← hs', List.getElem?_tail]
      have hmj := (act_ne _ (a3 (j + 1) (by omega))).2.2
      refine SR_rows (a5 (j + 1) s' hs2) ?_ ?_ ?_ <;> (rw [f1]; exact xsi_ne _ _ _ (by omega))
  · refine X_aload_n (i := 0) (pc' := 1) dX4_remember_0 rfl rfl rfl ?_
    refine X_get (pc' := 4) (v := .int _) dX4_remember_1 rfl (gf_X4_72 _ rfl) o_W_1 rfl rfl ?_
    refine X_eqi (nI acts.length) (a1) ?_
    refine X_aload_n (i := 0) (pc' := 5) dX4_remember_4 rfl rfl rfl ?_
    refine X_get (pc' := 8) (v := .ref 18) dX4_remember_5 rfl (gf_X4_37 _ rfl) o_W_1 rfl rfl ?_
    refine X_alen (pc' := 9) dX4_remember_8 rfl (Or.inl ⟨r_W_18, by decide⟩) ?_
    refine X_icmp_lt (pc' := 12) (tgt := 16) dX4_remember_9 rfl (by decide) (fun h_9 => ?_) (fun h_9 => absurd (nI_lt (by omega) (by decide)) h_9)
    exact go τ acts (by omega) xeq.rf (fun _ _ => rfl) rfl a1 a3 a4 a5 (by unfold pushA; rw [if_neg h14])
end AC
