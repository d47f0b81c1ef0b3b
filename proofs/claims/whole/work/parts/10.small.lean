/-! ===== pure words ===== -/
def zI (p : Prop) [Decidable p] : Int32 := if p then nI 1 else nI 0
theorem zI_t {p : Prop} [Decidable p] (h : p) : zI p = nI 1 := if_pos h
theorem zI_f {p : Prop} [Decidable p] (h : ¬ p) : zI p = nI 0 := if_neg h
theorem zI_0 {p : Prop} [Decidable p] : zI p = 0 ↔ ¬ p := by
  unfold zI; split <;> rename_i h
  · exact ⟨fun e => absurd e (by decide), fun e => absurd h e⟩
  · exact ⟨fun _ => h, fun _ => rfl⟩
theorem zI_nar {p : Prop} [Decidable p] : narrow .boolean (.int (zI p)) = .int (zI p) := by
  unfold zI; split <;> rfl
theorem xI_len {P : xP} {a n : Nat} (h : xI P a n) : (xR P a 0 n ∧ 0 < 4) ∨ (a = 0 ∧ n = 4) := by
  rcases h with h | h
  · exact Or.inl ⟨h, by decide⟩
  · exact Or.inr h
theorem xI_lt {P : xP} {a n : Nat} (h : xI P a n) : n < 100000 := by
  rcases h with h | h
  · exact h.2.2
  · rw [h.2]; decide
theorem xsw_of {x : Int32} {n : Nat} (h : ¬ (x.toInt < 0 ∨ (n : Int) < x.toInt)) (hn : n < 100000) : ∃ j : Nat, j ≤ n ∧ x = nI j := by
  refine ⟨x.toInt.toNat, by omega, ?_⟩
  apply Int32.toInt_inj.mp
  rw [nI_toInt (by omega)]
  omega
/-- bit k of s -/
abbrev bt (s k : Nat) : Prop := s / 2 ^ k % 2 = 1
theorem bt_shr {s k : Nat} (hs : s < 2 ^ 31) (hk : k < 31) : (nI s >>> (nI k &&& 31)) &&& nI 1 = nI (s / 2 ^ k % 2) := by
  have h1 : nI k &&& 31 = nI k := by
    have := pk_andN (n := k) (by omega) (m := 31) 5 (by decide)
    rw [this]; congr 1; omega
  rw [h1]
  have h2 := pk_shrN (n := s) hs (nI k) k (by
    have : (nI k).toBitVec = BitVec.ofNat 32 k := rfl
    rw [this]
    have hk2 : k = 0 ∨ k = 1 ∨ k = 2 ∨ k = 3 ∨ k = 4 ∨ k = 5 ∨ k = 6 ∨ k = 7 ∨ k = 8 ∨ k = 9 ∨ k = 10 ∨ k = 11 ∨ k = 12 ∨ k = 13 ∨ k = 14 ∨ k = 15 ∨ k = 16 ∨ k = 17 ∨ k = 18 ∨ k = 19 ∨ k = 20 ∨ k = 21 ∨ k = 22 ∨ k = 23 ∨ k = 24 ∨ k = 25 ∨ k = 26 ∨ k = 27 ∨ k = 28 ∨ k = 29 ∨ k = 30 := by omega
    rcases hk2 with rfl | rfl | rfl | rfl | rfl | rfl | rfl | rfl | rfl | rfl | rfl | rfl | rfl | rfl | rfl | rfl | rfl | rfl | rfl | rfl | rfl | rfl | rfl | rfl | rfl | rfl | rfl | rfl | rfl | rfl | rfl <;> decide)
  rw [h2]
  have h3 : s / 2 ^ k < 2 ^ 32 := Nat.lt_of_le_of_lt (Nat.div_le_self _ _) (by omega)
  exact pk_andN h3 (m := nI 1) 1 (by decide)
theorem ltI {x : Int32} {n : Nat} (hn : n < 2 ^ 31) : x < nI n ↔ x.toInt < n := by rw [Int32.lt_iff_toInt_lt, nI_toInt hn]
theorem leI {x : Int32} {n : Nat} (hn : n < 2 ^ 31) : x ≤ nI n ↔ x.toInt ≤ n := by rw [Int32.le_iff_toInt_le, nI_toInt hn]
theorem gtI {x : Int32} {n : Nat} (hn : n < 2 ^ 31) : nI n < x ↔ (n : Int) < x.toInt := by rw [Int32.lt_iff_toInt_lt, nI_toInt hn]
theorem geI {x : Int32} {n : Nat} (hn : n < 2 ^ 31) : nI n ≤ x ↔ (n : Int) ≤ x.toInt := by rw [Int32.le_iff_toInt_le, nI_toInt hn]
theorem lt0 {x : Int32} : x < 0 ↔ x.toInt < 0 := by rw [Int32.lt_iff_toInt_lt, Int32.toInt_zero]
theorem ge0 {x : Int32} : 0 ≤ x ↔ 0 ≤ x.toInt := by rw [Int32.le_iff_toInt_le, Int32.toInt_zero]
theorem gt0 {x : Int32} : 0 < x ↔ 0 < x.toInt := by rw [Int32.lt_iff_toInt_lt, Int32.toInt_zero]
theorem nI_of3 {x : Int32} (h : 0 ≤ x.toInt) : x = nI x.toInt.toNat ∧ x.toInt.toNat < 2 ^ 31 := by
  have h1 : x.toInt < 2 ^ 31 := Int32.toInt_lt x
  refine ⟨?_, by omega⟩
  apply Int32.toInt_inj.mp
  rw [nI_toInt (by omega)]
  omega
/-- a loop that counts up -/
theorem xloop {σ : Type} (H Inv : Nat → σ → Prop) (n : Nat) (hx : ∀ s, Inv n s → H n s) (hs : ∀ j s, j < n → Inv j s → (∀ s', Inv (j + 1) s' → H (j + 1) s') → H j s) : ∀ (j : Nat) (s : σ), j ≤ n → Inv j s → H j s := by
  intro j s hj
  generalize hd : n - j = d
  induction d generalizing j s with
  | zero => intro h; have : j = n := by omega
            subst this; exact hx s h
  | succ d ih => exact fun h => hs j s (by omega) h (fun s' h' => ih (j + 1) s' (by omega) (by omega) h')
theorem xsi_self (τ : xT) (a k : Nat) (v : Int32) : (xsi τ a k v).1 a = upd (τ.1 a) k v := if_pos rfl
theorem xsi_ne (τ : xT) {a b : Nat} (k : Nat) (v : Int32) (h : b ≠ a) : (xsi τ a k v).1 b = τ.1 b := if_neg h
theorem xsl_self (τ : xT) (a k : Nat) (v : Int64) : (xsl τ a k v).2.1 a = vp_updL (τ.2.1 a) k v := if_pos rfl
theorem xsl_ne (τ : xT) {a b : Nat} (k : Nat) (v : Int64) (h : b ≠ a) : (xsl τ a k v).2.1 b = τ.2.1 b := if_neg h
/-- rows outside R are the same -/
def xeq (R : List Nat) (τ τ' : xT) : Prop := ∀ a, a ∉ R → τ'.1 a = τ.1 a ∧ τ'.2.1 a = τ.2.1 a ∧ τ'.2.2 a = τ.2.2 a
theorem xeq.rf {R : List Nat} {τ : xT} : xeq R τ τ := fun _ _ => ⟨rfl, rfl, rfl⟩
theorem xeq.tr {R : List Nat} {τ τ' τ2 : xT} (h : xeq R τ τ') (h2 : xeq R τ' τ2) : xeq R τ τ2 := fun a ha => ⟨(h2 a ha).1.trans (h a ha).1, (h2 a ha).2.1.trans (h a ha).2.1, (h2 a ha).2.2.trans (h a ha).2.2⟩
theorem xeq.mono {R R' : List Nat} {τ τ' : xT} (h : xeq R τ τ') (hR : ∀ a ∈ R, a ∈ R') : xeq R' τ τ' := fun a ha => h a (fun q => ha (hR a q))
theorem xeq.si {R : List Nat} {τ τ' : xT} {a k : Nat} {v : Int32} (h : xeq R τ τ') (ha : a ∈ R) : xeq R τ (xsi τ' a k v) := fun b hb => ⟨(xsi_ne τ' k v (fun e => hb (by rw [e]; exact ha))).trans (h b hb).1, (h b hb).2⟩
theorem xeq.sl {R : List Nat} {τ τ' : xT} {a k : Nat} {v : Int64} (h : xeq R τ τ') (ha : a ∈ R) : xeq R τ (xsl τ' a k v) := fun b hb => ⟨(h b hb).1, (xsl_ne τ' k v (fun e => hb (by rw [e]; exact ha))).trans (h b hb).2.1, (h b hb).2.2⟩
theorem xeq.sr {R : List Nat} {τ τ' : xT} {a k v : Nat} (h : xeq R τ τ') (ha : a ∈ R) : xeq R τ (xsr τ' a k v) := fun b hb => ⟨(h b hb).1, (h b hb).2.1, by
  rw [← (h b hb).2.2]
  funext j
  exact if_neg (fun e : b = a ∧ j = k => hb (by rw [e.1]; exact ha))⟩
theorem bt_shl {k : Nat} (hk : k < 31) : nI 1 <<< (nI k &&& 31) = nI (2 ^ k) := by
  have h : ∀ k, k < 31 → nI 1 <<< (nI k &&& 31) = nI (2 ^ k) := by decide +kernel
  exact h k hk
theorem bt_within : ∀ a, a < 64 → ∀ b, b < 64 → ((nI a &&& (nI b ^^^ (-1)) = 0) ↔ (a &&& b = a)) := by decide +kernel
section SM
variable (cx : xC)
set_option maxHeartbeats 4000000
set_option maxRecDepth 100000
theorem c_X4_has {P : xP} (τ : xT) (s k : Nat) (hs : s < 2 ^ 31) (hk : k < 31) : CI cx m_X4_has [.int (nI s), .int (nI k)] P τ (fun x τ' => τ' = τ ∧ x = zI (bt s k)) := by
  refine Ct_of (by decide) (Nat.le_of_ble_eq_true rfl) (lv := [(0, _), (1, _)]) rfl ?_
  refine X_iload_n (i := 0) (pc' := 1) dX4_has_0 rfl rfl rfl ?_
  refine X_iload_n (i := 1) (pc' := 2) dX4_has_1 rfl rfl rfl ?_
  refine X_ishr (pc' := 3) dX4_has_2 rfl ?_
  refine X_iconst (pc' := 4) (v := nI 1) dX4_has_3 rfl (by decide) ?_
  refine X_iand (pc' := 5) dX4_has_4 rfl ?_
  refine X_eqi (nI (s / 2 ^ k % 2)) (bt_shr hs hk) ?_
  refine X_iconst (pc' := 6) (v := nI 1) dX4_has_5 rfl (by decide) ?_
  refine X_icmp_ne (pc' := 9) (tgt := 13) dX4_has_6 rfl (by decide) (fun h_6 => ?_) (fun h_6 => ?_)
  · refine X_iconst (pc' := 14) (v := nI 0) dX4_has_13 rfl (by decide) ?_
    refine X_rz dX4_has_14 rfl (rfl) ⟨rfl, rfl⟩ ?_
    first
    | exact ⟨rfl, (zI_f (fun q => h_6 (congrArg nI q))).symm⟩
    | exact ⟨rfl, (zI_t ((nI_eq (by have h2 : s / 2 ^ k % 2 < 2 := Nat.mod_lt _ (by decide); omega) (by decide)).mp h_6)).symm⟩
  · refine X_iconst (pc' := 10) (v := nI 1) dX4_has_9 rfl (by decide) ?_
    refine X_goto (pc' := 0) (tgt := 14) dX4_has_10 (by decide) ?_
    refine X_rz dX4_has_14 rfl (rfl) ⟨rfl, rfl⟩ ?_
    first
    | exact ⟨rfl, (zI_f (fun q => h_6 (congrArg nI q))).symm⟩
    | exact ⟨rfl, (zI_t ((nI_eq (by have h2 : s / 2 ^ k % 2 < 2 := Nat.mod_lt _ (by decide); omega) (by decide)).mp h_6)).symm⟩

theorem c_X4_isCost {P : xP} (τ : xT) (p : Int32) : CI cx m_X4_isCost [.int p] P τ (fun x τ' => τ' = τ ∧ x = zI (0 ≤ p.toInt ∧ p.toInt ≤ 60)) := by
  refine Ct_of (by decide) (Nat.le_of_ble_eq_true rfl) (lv := [(0, _)]) rfl ?_
  refine X_iload_n (i := 0) (pc' := 1) dX4_isCost_0 rfl rfl rfl ?_
  refine X_if_lt (pc' := 4) (tgt := 14) dX4_isCost_1 rfl (by decide) (fun h_1 => ?_) (fun h_1 => ?_)
  · refine X_iconst (pc' := 15) (v := nI 0) dX4_isCost_14 rfl (by decide) ?_
    refine X_rz dX4_isCost_15 rfl (rfl) ⟨rfl, rfl⟩ ?_
    refine ⟨rfl, ?_⟩
    simp only [lt0, gtI (n := 60) (by decide)] at *
    first
      | exact (zI_t ⟨by omega, by omega⟩).symm
      | exact (zI_f (fun q => by omega)).symm
  · refine X_iload_n (i := 0) (pc' := 5) dX4_isCost_4 rfl rfl rfl ?_
    refine X_bipush (pc' := 7) (v := nI 60) dX4_isCost_5 rfl (by decide) ?_
    refine X_icmp_gt (pc' := 10) (tgt := 14) dX4_isCost_7 rfl (by decide) (fun h_7 => ?_) (fun h_7 => ?_)
    · refine X_iconst (pc' := 15) (v := nI 0) dX4_isCost_14 rfl (by decide) ?_
      refine X_rz dX4_isCost_15 rfl (rfl) ⟨rfl, rfl⟩ ?_
      refine ⟨rfl, ?_⟩
      simp only [lt0, gtI (n := 60) (by decide)] at *
      first
        | exact (zI_t ⟨by omega, by omega⟩).symm
        | exact (zI_f (fun q => by omega)).symm
    · refine X_iconst (pc' := 11) (v := nI 1) dX4_isCost_10 rfl (by decide) ?_
      refine X_goto (pc' := 0) (tgt := 15) dX4_isCost_11 (by decide) ?_
      refine X_rz dX4_isCost_15 rfl (rfl) ⟨rfl, rfl⟩ ?_
      refine ⟨rfl, ?_⟩
      simp only [lt0, gtI (n := 60) (by decide)] at *
      first
        | exact (zI_t ⟨by omega, by omega⟩).symm
        | exact (zI_f (fun q => by omega)).symm
theorem c_X4_bit {P : xP} (τ : xT) (k : Nat) (hk : k < 31) : CI cx m_X4_bit [.int (nI k)] P τ (fun x τ' => τ' = τ ∧ x = nI (2 ^ k)) := by
  refine Ct_of (by decide) (Nat.le_of_ble_eq_true rfl) (lv := [(0, _)]) rfl ?_
  refine X_iconst (pc' := 1) (v := nI 1) dX4_bit_0 rfl (by decide) ?_
  refine X_iload_n (i := 0) (pc' := 2) dX4_bit_1 rfl rfl rfl ?_
  refine X_ishl (pc' := 3) dX4_bit_2 rfl ?_
  refine X_ri dX4_bit_3 rfl ⟨rfl, rfl⟩ ?_
  exact ⟨rfl, bt_shl hk⟩
theorem c_X4_within {P : xP} (τ : xT) (a b : Nat) (ha : a < 64) (hb : b < 64) : CI cx m_X4_within [.int (nI a), .int (nI b)] P τ (fun x τ' => τ' = τ ∧ x = zI (a &&& b = a)) := by
  refine Ct_of (by decide) (Nat.le_of_ble_eq_true rfl) (lv := [(0, _), (1, _)]) rfl ?_
  refine X_iload_n (i := 0) (pc' := 1) dX4_within_0 rfl rfl rfl ?_
  refine X_iload_n (i := 1) (pc' := 2) dX4_within_1 rfl rfl rfl ?_
  refine X_iconst (pc' := 3) (v := (-1)) dX4_within_2 rfl (by decide) ?_
  refine X_ixor (pc' := 4) dX4_within_3 rfl ?_
  refine X_iand (pc' := 5) dX4_within_4 rfl ?_
  refine X_if_ne (pc' := 8) (tgt := 12) dX4_within_5 rfl (by decide) (fun h_5 => ?_) (fun h_5 => ?_)
  · refine X_iconst (pc' := 13) (v := nI 0) dX4_within_12 rfl (by decide) ?_
    refine X_rz dX4_within_13 rfl (rfl) ⟨rfl, rfl⟩ ?_
    refine ⟨rfl, ?_⟩
    have hw := bt_within a ha b hb
    first
      | exact (zI_t (hw.mp h_5)).symm
      | exact (zI_f (fun q => h_5 (hw.mpr q))).symm
  · refine X_iconst (pc' := 9) (v := nI 1) dX4_within_8 rfl (by decide) ?_
    refine X_goto (pc' := 0) (tgt := 13) dX4_within_9 (by decide) ?_
    refine X_rz dX4_within_13 rfl (rfl) ⟨rfl, rfl⟩ ?_
    refine ⟨rfl, ?_⟩
    have hw := bt_within a ha b hb
    first
      | exact (zI_t (hw.mp h_5)).symm
      | exact (zI_f (fun q => h_5 (hw.mpr q))).symm
theorem c_X4_at {P : xP} (τ : xT) (a n : Nat) (ha : xI P a n) (i : Int32) : CI cx m_X4_at [.ref a, .int i] P τ (fun x τ' => τ' = τ ∧ x = if 0 ≤ i.toInt ∧ i.toInt < n then τ.1 a i.toInt.toNat else nI 0) := by
  have hn := xI_lt ha
  refine Ct_of (by decide) (Nat.le_of_ble_eq_true rfl) (lv := [(0, _), (1, _)]) rfl ?_
  refine X_aload_n (i := 0) (pc' := 1) dX4_at_0 rfl rfl rfl ?_
  refine X_ifnull (pc' := 4) dX4_at_1 rfl ?_
  refine X_iload_n (i := 1) (pc' := 5) dX4_at_4 rfl rfl rfl ?_
  refine X_if_lt (pc' := 8) (tgt := 20) dX4_at_5 rfl (by decide) (fun h_5 => ?_) (fun h_5 => ?_)
  · refine X_iconst (pc' := 21) (v := nI 0) dX4_at_20 rfl (by decide) ?_
    refine X_ri dX4_at_21 rfl ⟨rfl, rfl⟩ ?_
    refine ⟨rfl, ?_⟩
    simp only [lt0, geI (n := n) (by omega)] at *
    first
      | exact (if_pos ⟨by omega, by omega⟩).symm
      | exact (if_neg (fun q => by omega)).symm
  · refine X_iload_n (i := 1) (pc' := 9) dX4_at_8 rfl rfl rfl ?_
    refine X_aload_n (i := 0) (pc' := 10) dX4_at_9 rfl rfl rfl ?_
    refine X_alen (pc' := 11) dX4_at_10 rfl (xI_len ha) ?_
    refine X_icmp_ge (pc' := 14) (tgt := 20) dX4_at_11 rfl (by decide) (fun h_11 => ?_) (fun h_11 => ?_)
    · refine X_iconst (pc' := 21) (v := nI 0) dX4_at_20 rfl (by decide) ?_
      refine X_ri dX4_at_21 rfl ⟨rfl, rfl⟩ ?_
      refine ⟨rfl, ?_⟩
      simp only [lt0, geI (n := n) (by omega)] at *
      first
        | exact (if_pos ⟨by omega, by omega⟩).symm
        | exact (if_neg (fun q => by omega)).symm
    · refine X_aload_n (i := 0) (pc' := 15) dX4_at_14 rfl rfl rfl ?_
      refine X_iload_n (i := 1) (pc' := 16) dX4_at_15 rfl rfl rfl ?_
      refine X_iald (pc' := 17) (j := i.toInt.toNat) dX4_at_16 rfl ha ((nI_of3 (by rw [lt0] at h_5; omega)).1) (by rw [lt0] at h_5; rw [geI (by omega)] at h_11; omega) ?_
      refine X_goto (pc' := 0) (tgt := 21) dX4_at_17 (by decide) ?_
      refine X_ri dX4_at_21 rfl ⟨rfl, rfl⟩ ?_
      refine ⟨rfl, ?_⟩
      simp only [lt0, geI (n := n) (by omega)] at *
      first
        | exact (if_pos ⟨by omega, by omega⟩).symm
        | exact (if_neg (fun q => by omega)).symm
theorem c_at_in {P : xP} (τ : xT) {a n j : Nat} (ha : xI P a n) (hj : j < n) : CI cx m_X4_at [.ref a, .int (nI j)] P τ (fun x τ' => τ' = τ ∧ x = τ.1 a j) := by
  have hn := xI_lt ha
  refine Ct.weaken (c_X4_at cx τ a n ha (nI j)) (fun r P' τ' h => ?_)
  obtain ⟨h1, x, h2, h3, h4⟩ := h
  refine ⟨h1, x, h2, h3, h4.trans ?_⟩
  rw [nI_toInt (by omega), if_pos ⟨by omega, by omega⟩]
  rfl
theorem c_X4_put {P : xP} (τ : xT) {a n j : Nat} (ha : xR P a 0 n) (hj : j < n) (v : Int32) : CV cx m_X4_put [.ref a, .int (nI j), .int v] P τ (fun τ' => τ' = xsi τ a j v) := by
  have hn := ha.2.2
  refine Ct_of (by decide) (Nat.le_of_ble_eq_true rfl) (lv := [(0, _), (1, _), (2, _)]) rfl ?_
  refine X_aload_n (i := 0) (pc' := 1) dX4_put_0 rfl rfl rfl ?_
  refine X_ifnull (pc' := 4) dX4_put_1 rfl ?_
  refine X_iload_n (i := 1) (pc' := 5) dX4_put_4 rfl rfl rfl ?_
  refine X_if_lt (pc' := 8) (tgt := 18) dX4_put_5 rfl (by decide) (fun h_5 => absurd h_5 (nI_pos (by omega))) (fun h_5 => ?_)
  refine X_iload_n (i := 1) (pc' := 9) dX4_put_8 rfl rfl rfl ?_
  refine X_aload_n (i := 0) (pc' := 10) dX4_put_9 rfl rfl rfl ?_
  refine X_alen (pc' := 11) dX4_put_10 rfl (Or.inl ⟨ha, by decide⟩) ?_
  refine X_icmp_ge (pc' := 14) (tgt := 18) dX4_put_11 rfl (by decide) (fun h_11 => absurd h_11 (nI_ge (by omega) (by omega))) (fun h_11 => ?_)
  refine X_aload_n (i := 0) (pc' := 15) dX4_put_14 rfl rfl rfl ?_
  refine X_iload_n (i := 1) (pc' := 16) dX4_put_15 rfl rfl rfl ?_
  refine X_iload_n (i := 2) (pc' := 17) dX4_put_16 rfl rfl rfl ?_
  refine X_iast (pc' := 18) (j := j) dX4_put_17 rfl ha (rfl) (hj) ?_
  refine X_rv dX4_put_18 rfl ⟨rfl, rfl⟩ ?_
  rfl
theorem c_X4_copyRow {P : xP} (τ : xT) {a b : Nat} (ha : xR P a 0 6) (hb : xR P b 0 6) (hab : a ≠ b) : CV cx m_X4_copyRow [.ref a, .ref b] P τ (fun τ' => xeq [b] τ τ' ∧ ∀ i, i < 6 → τ'.1 b i = τ.1 a i) := by
  refine Ct_of (by decide) (Nat.le_of_ble_eq_true rfl) (lv := [(0, _), (1, _)]) rfl ?_
  have hl : ∀ (j : Nat) (τ' : xT), j ≤ 6 → (xeq [b] τ τ' ∧ ∀ i, i < j → τ'.1 b i = τ.1 a i) → X cx m_X4_copyRow P (qV P (fun τ' => xeq [b] τ τ' ∧ ∀ i, i < 6 → τ'.1 b i = τ.1 a i)) 11 [(2, .int (nI j)), (0, .ref a), (1, .ref b)] [] P τ' := by
    refine xloop _ _ 6 (fun τ' h => ?_) (fun j τ' hj h ih => ?_)
    · refine X_iload_n (i := 2) (pc' := 12) dX4_copyRow_11 rfl rfl rfl ?_
      refine X_aload_n (i := 0) (pc' := 13) dX4_copyRow_12 rfl rfl rfl ?_
      refine X_alen (pc' := 14) dX4_copyRow_13 rfl (Or.inl ⟨ha, by decide⟩) ?_
      refine X_icmp_ge (pc' := 17) (tgt := 35) dX4_copyRow_14 rfl (by decide) (fun h_14 => ?_) (fun h_14 => absurd (nI_le (Nat.le_refl _) (by decide)) h_14)
      refine X_rv dX4_copyRow_35 rfl ⟨rfl, rfl⟩ ?_
      exact h
    · refine X_iload_n (i := 2) (pc' := 12) dX4_copyRow_11 rfl rfl rfl ?_
      refine X_aload_n (i := 0) (pc' := 13) dX4_copyRow_12 rfl rfl rfl ?_
      refine X_alen (pc' := 14) dX4_copyRow_13 rfl (Or.inl ⟨ha, by decide⟩) ?_
      refine X_icmp_ge (pc' := 17) (tgt := 35) dX4_copyRow_14 rfl (by decide) (fun h_14 => absurd h_14 (nI_ge hj (by decide))) (fun h_14 => ?_)
      refine X_iload_n (i := 2) (pc' := 18) dX4_copyRow_17 rfl rfl rfl ?_
      refine X_aload_n (i := 1) (pc' := 19) dX4_copyRow_18 rfl rfl rfl ?_
      refine X_alen (pc' := 20) dX4_copyRow_19 rfl (Or.inl ⟨hb, by decide⟩) ?_
      refine X_icmp_ge (pc' := 23) (tgt := 35) dX4_copyRow_20 rfl (by decide) (fun h_20 => absurd h_20 (nI_ge hj (by decide))) (fun h_20 => ?_)
      refine X_aload_n (i := 1) (pc' := 24) dX4_copyRow_23 rfl rfl rfl ?_
      refine X_iload_n (i := 2) (pc' := 25) dX4_copyRow_24 rfl rfl rfl ?_
      refine X_aload_n (i := 0) (pc' := 26) dX4_copyRow_25 rfl rfl rfl ?_
      refine X_iload_n (i := 2) (pc' := 27) dX4_copyRow_26 rfl rfl rfl ?_
      refine X_iald (pc' := 28) (j := j) dX4_copyRow_27 rfl (Or.inl ha) (rfl) (hj) ?_
      refine X_iast (pc' := 29) (j := j) dX4_copyRow_28 rfl hb (rfl) (hj) ?_
      refine X_iinc (pc' := 32) (v := nI (j + 1)) (lv' := [(2, _), (0, _), (1, _)]) dX4_copyRow_29 rfl rfl ((nI_succ j).symm) (Nat.le_of_ble_eq_true rfl) rfl ?_
      refine X_goto (pc' := 0) (tgt := 11) dX4_copyRow_32 (by decide) ?_
      refine ih _ ⟨h.1.si (by simp), fun i hi => ?_⟩
      rw [xsi_self]
      by_cases hij : i = j
      · subst hij; rw [pk_us, (h.1 a (by simp [hab])).1]
      · rw [pk_un hij]; exact h.2 i (by omega)
  refine X_aload_n (i := 0) (pc' := 1) dX4_copyRow_0 rfl rfl rfl ?_
  refine X_ifnull (pc' := 4) dX4_copyRow_1 rfl ?_
  refine X_aload_n (i := 1) (pc' := 5) dX4_copyRow_4 rfl rfl rfl ?_
  refine X_ifnonnull (pc' := 0) (tgt := 9) dX4_copyRow_5 (by decide) ?_
  refine X_iconst (pc' := 10) (v := nI 0) dX4_copyRow_9 rfl (by decide) ?_
  refine X_istore_n (i := 2) (pc' := 11) (lv' := [(2, _), (0, _), (1, _)]) dX4_copyRow_10 rfl rfl (Nat.le_of_ble_eq_true rfl) rfl ?_
  exact hl 0 τ (by omega) ⟨xeq.rf, fun i hi => absurd hi (by omega)⟩
end SM
