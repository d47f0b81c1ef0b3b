/-! ===== the JDK's own, and the standings ===== -/
section ST
variable (cx : xC)
set_option maxHeartbeats 4000000
set_option maxRecDepth 100000
theorem bc64 : ∀ s, s < 64 → (fun x0 : Int32 => (fun x1 : Int32 => (fun x2 : Int32 => (fun x3 : Int32 => (fun x4 : Int32 => (fun x5 : Int32 => x5 &&& nI 63) (x4 + (x4.toUInt32 >>> ((nI 16).toUInt32 &&& Int32.toUInt32 31)).toInt32)) (x3 + (x3.toUInt32 >>> ((nI 8).toUInt32 &&& Int32.toUInt32 31)).toInt32)) ((x2 + (x2.toUInt32 >>> ((nI 4).toUInt32 &&& Int32.toUInt32 31)).toInt32) &&& 252645135)) ((x1 &&& 858993459) + ((x1.toUInt32 >>> ((nI 2).toUInt32 &&& Int32.toUInt32 31)).toInt32 &&& 858993459))) (x0 - ((x0.toUInt32 >>> ((nI 1).toUInt32 &&& Int32.toUInt32 31)).toInt32 &&& 1431655765))) (nI s) = nI (ones s) := by decide +kernel
theorem c_bc {P : xP} (τ : xT) (s : Nat) (hs : s < 64) : CI cx m_J6_bitCount_0f7a4 [.int (nI s)] P τ (fun x τ' => τ' = τ ∧ x = nI (ones s)) := by
  refine Ct_of (by decide) (Nat.le_of_ble_eq_true rfl) (lv := [(0, _)]) rfl ?_
  refine X_iload_n (i := 0) (pc' := 1) dJ6_bitCount_0f7a4_0 rfl rfl rfl ?_
  refine X_iload_n (i := 0) (pc' := 2) dJ6_bitCount_0f7a4_1 rfl rfl rfl ?_
  refine X_iconst (pc' := 3) (v := nI 1) dJ6_bitCount_0f7a4_2 rfl (by decide) ?_
  refine X_iushr (pc' := 4) dJ6_bitCount_0f7a4_3 rfl ?_
  refine X_ldcw (pc' := 7) (v := (1431655765 : Int32)) dJ6_bitCount_0f7a4_4 rfl cn_J6_265 ?_
  refine X_iand (pc' := 8) dJ6_bitCount_0f7a4_7 rfl ?_
  refine X_isub (pc' := 9) dJ6_bitCount_0f7a4_8 rfl ?_
  refine X_istore_n (i := 0) (pc' := 10) (lv' := [(0, _)]) dJ6_bitCount_0f7a4_9 rfl rfl (Nat.le_of_ble_eq_true rfl) rfl ?_
  refine X_iload_n (i := 0) (pc' := 11) dJ6_bitCount_0f7a4_10 rfl rfl rfl ?_
  refine X_ldcw (pc' := 14) (v := (858993459 : Int32)) dJ6_bitCount_0f7a4_11 rfl cn_J6_266 ?_
  refine X_iand (pc' := 15) dJ6_bitCount_0f7a4_14 rfl ?_
  refine X_iload_n (i := 0) (pc' := 16) dJ6_bitCount_0f7a4_15 rfl rfl rfl ?_
  refine X_iconst (pc' := 17) (v := nI 2) dJ6_bitCount_0f7a4_16 rfl (by decide) ?_
  refine X_iushr (pc' := 18) dJ6_bitCount_0f7a4_17 rfl ?_
  refine X_ldcw (pc' := 21) (v := (858993459 : Int32)) dJ6_bitCount_0f7a4_18 rfl cn_J6_266 ?_
  refine X_iand (pc' := 22) dJ6_bitCount_0f7a4_21 rfl ?_
  refine X_iadd (pc' := 23) dJ6_bitCount_0f7a4_22 rfl ?_
  refine X_istore_n (i := 0) (pc' := 24) (lv' := [(0, _)]) dJ6_bitCount_0f7a4_23 rfl rfl (Nat.le_of_ble_eq_true rfl) rfl ?_
  refine X_iload_n (i := 0) (pc' := 25) dJ6_bitCount_0f7a4_24 rfl rfl rfl ?_
  refine X_iload_n (i := 0) (pc' := 26) dJ6_bitCount_0f7a4_25 rfl rfl rfl ?_
  refine X_iconst (pc' := 27) (v := nI 4) dJ6_bitCount_0f7a4_26 rfl (by decide) ?_
  refine X_iushr (pc' := 28) dJ6_bitCount_0f7a4_27 rfl ?_
  refine X_iadd (pc' := 29) dJ6_bitCount_0f7a4_28 rfl ?_
  refine X_ldcw (pc' := 32) (v := (252645135 : Int32)) dJ6_bitCount_0f7a4_29 rfl cn_J6_267 ?_
  refine X_iand (pc' := 33) dJ6_bitCount_0f7a4_32 rfl ?_
  refine X_istore_n (i := 0) (pc' := 34) (lv' := [(0, _)]) dJ6_bitCount_0f7a4_33 rfl rfl (Nat.le_of_ble_eq_true rfl) rfl ?_
  refine X_iload_n (i := 0) (pc' := 35) dJ6_bitCount_0f7a4_34 rfl rfl rfl ?_
  refine X_iload_n (i := 0) (pc' := 36) dJ6_bitCount_0f7a4_35 rfl rfl rfl ?_
  refine X_bipush (pc' := 38) (v := nI 8) dJ6_bitCount_0f7a4_36 rfl (by decide) ?_
  refine X_iushr (pc' := 39) dJ6_bitCount_0f7a4_38 rfl ?_
  refine X_iadd (pc' := 40) dJ6_bitCount_0f7a4_39 rfl ?_
  refine X_istore_n (i := 0) (pc' := 41) (lv' := [(0, _)]) dJ6_bitCount_0f7a4_40 rfl rfl (Nat.le_of_ble_eq_true rfl) rfl ?_
  refine X_iload_n (i := 0) (pc' := 42) dJ6_bitCount_0f7a4_41 rfl rfl rfl ?_
  refine X_iload_n (i := 0) (pc' := 43) dJ6_bitCount_0f7a4_42 rfl rfl rfl ?_
  refine X_bipush (pc' := 45) (v := nI 16) dJ6_bitCount_0f7a4_43 rfl (by decide) ?_
  refine X_iushr (pc' := 46) dJ6_bitCount_0f7a4_45 rfl ?_
  refine X_iadd (pc' := 47) dJ6_bitCount_0f7a4_46 rfl ?_
  refine X_istore_n (i := 0) (pc' := 48) (lv' := [(0, _)]) dJ6_bitCount_0f7a4_47 rfl rfl (Nat.le_of_ble_eq_true rfl) rfl ?_
  refine X_iload_n (i := 0) (pc' := 49) dJ6_bitCount_0f7a4_48 rfl rfl rfl ?_
  refine X_bipush (pc' := 51) (v := nI 63) dJ6_bitCount_0f7a4_49 rfl (by decide) ?_
  refine X_iand (pc' := 52) dJ6_bitCount_0f7a4_51 rfl ?_
  refine X_ri dJ6_bitCount_0f7a4_52 rfl ⟨rfl, rfl⟩ ?_
  exact ⟨rfl, bc64 s hs⟩
theorem c_fillI {P : xP} (τ : xT) {a n : Nat} (ha : xR P a 0 n) (v : Int32) : CV cx m_J7_fill_53178 [.ref a, .int v] P τ (fun τ' => xeq [a] τ τ' ∧ ∀ i, i < n → τ'.1 a i = v) := by
  have hn := ha.2.2
  refine Ct_of (by decide) (Nat.le_of_ble_eq_true rfl) (lv := [(0, _), (1, _)]) rfl ?_
  have hl : ∀ (j : Nat) (τ' : xT), j ≤ n → (xeq [a] τ τ' ∧ ∀ i, i < j → τ'.1 a i = v) → X cx m_J7_fill_53178 P (qV P (fun τ' => xeq [a] τ τ' ∧ ∀ i, i < n → τ'.1 a i = v)) 5 [(2, .int (nI j)), (3, .int (nI n)), (0, .ref a), (1, .int v)] [] P τ' := by
    refine xloop _ _ n (fun τ' h => ?_) (fun j τ' hj h ih => ?_)
    · refine X_iload_n (i := 2) (pc' := 6) dJ7_fill_53178_5 rfl rfl rfl ?_
      refine X_iload_n (i := 3) (pc' := 7) dJ7_fill_53178_6 rfl rfl rfl ?_
      refine X_icmp_ge (pc' := 10) (tgt := 20) dJ7_fill_53178_7 rfl (by decide) (fun h_7 => ?_) (fun h_7 => absurd (nI_le (Nat.le_refl _) (by omega)) h_7)
      refine X_rv dJ7_fill_53178_20 rfl ⟨rfl, rfl⟩ ?_
      exact h
    · refine X_iload_n (i := 2) (pc' := 6) dJ7_fill_53178_5 rfl rfl rfl ?_
      refine X_iload_n (i := 3) (pc' := 7) dJ7_fill_53178_6 rfl rfl rfl ?_
      refine X_icmp_ge (pc' := 10) (tgt := 20) dJ7_fill_53178_7 rfl (by decide) (fun h_7 => absurd h_7 (nI_ge hj (by omega))) (fun h_7 => ?_)
      refine X_aload_n (i := 0) (pc' := 11) dJ7_fill_53178_10 rfl rfl rfl ?_
      refine X_iload_n (i := 2) (pc' := 12) dJ7_fill_53178_11 rfl rfl rfl ?_
      refine X_iload_n (i := 1) (pc' := 13) dJ7_fill_53178_12 rfl rfl rfl ?_
      refine X_iast (pc' := 14) (j := j) dJ7_fill_53178_13 rfl ha (rfl) (hj) ?_
      refine X_iinc (pc' := 17) (v := nI (j + 1)) (lv' := [(2, _), (3, _), (0, _), (1, _)]) dJ7_fill_53178_14 rfl rfl ((nI_succ j).symm) (Nat.le_of_ble_eq_true rfl) rfl ?_
      refine X_goto (pc' := 0) (tgt := 5) dJ7_fill_53178_17 (by decide) ?_
      refine ih _ ⟨h.1.si (by simp), fun i hi => ?_⟩
      rw [xsi_self]
      by_cases hij : i = j
      · subst hij; rw [pk_us]
      · rw [pk_un hij]; exact h.2 i (by omega)
  refine X_iconst (pc' := 1) (v := nI 0) dJ7_fill_53178_0 rfl (by decide) ?_
  refine X_istore_n (i := 2) (pc' := 2) (lv' := [(2, _), (0, _), (1, _)]) dJ7_fill_53178_1 rfl rfl (Nat.le_of_ble_eq_true rfl) rfl ?_
  refine X_aload_n (i := 0) (pc' := 3) dJ7_fill_53178_2 rfl rfl rfl ?_
  refine X_alen (pc' := 4) dJ7_fill_53178_3 rfl (Or.inl ⟨ha, by decide⟩) ?_
  refine X_istore_n (i := 3) (pc' := 5) (lv' := [(3, _), (2, _), (0, _), (1, _)]) dJ7_fill_53178_4 rfl rfl (Nat.le_of_ble_eq_true rfl) rfl ?_
  exact X_lv _ (by simp) (hl 0 τ (by omega) ⟨xeq.rf, fun i hi => absurd hi (by omega)⟩)
theorem c_fillJ {P : xP} (τ : xT) {a n : Nat} (ha : xR P a 1 n) (v : Int64) : CV cx m_J7_fill_d0a16 [.ref a, .long v] P τ (fun τ' => xeq [a] τ τ' ∧ ∀ i, i < n → τ'.2.1 a i = v) := by
  have hn := ha.2.2
  refine Ct_of (by decide) (Nat.le_of_ble_eq_true rfl) (lv := [(0, _), (1, _)]) rfl ?_
  have hl : ∀ (j : Nat) (τ' : xT), j ≤ n → (xeq [a] τ τ' ∧ ∀ i, i < j → τ'.2.1 a i = v) → X cx m_J7_fill_d0a16 P (qV P (fun τ' => xeq [a] τ τ' ∧ ∀ i, i < n → τ'.2.1 a i = v)) 6 [(3, .int (nI j)), (4, .int (nI n)), (0, .ref a), (1, .long v)] [] P τ' := by
    refine xloop _ _ n (fun τ' h => ?_) (fun j τ' hj h ih => ?_)
    · refine X_iload_n (i := 3) (pc' := 7) dJ7_fill_d0a16_6 rfl rfl rfl ?_
      refine X_iload (pc' := 9) dJ7_fill_d0a16_7 rfl rfl ?_
      refine X_icmp_ge (pc' := 12) (tgt := 22) dJ7_fill_d0a16_9 rfl (by decide) (fun h_9 => ?_) (fun h_9 => absurd (nI_le (Nat.le_refl _) (by omega)) h_9)
      refine X_rv dJ7_fill_d0a16_22 rfl ⟨rfl, rfl⟩ ?_
      exact h
    · refine X_iload_n (i := 3) (pc' := 7) dJ7_fill_d0a16_6 rfl rfl rfl ?_
      refine X_iload (pc' := 9) dJ7_fill_d0a16_7 rfl rfl ?_
      refine X_icmp_ge (pc' := 12) (tgt := 22) dJ7_fill_d0a16_9 rfl (by decide) (fun h_9 => absurd h_9 (nI_ge hj (by omega))) (fun h_9 => ?_)
      refine X_aload_n (i := 0) (pc' := 13) dJ7_fill_d0a16_12 rfl rfl rfl ?_
      refine X_iload_n (i := 3) (pc' := 14) dJ7_fill_d0a16_13 rfl rfl rfl ?_
      refine X_lload_n (i := 1) (pc' := 15) dJ7_fill_d0a16_14 rfl rfl rfl ?_
      refine X_last (pc' := 16) (j := j) dJ7_fill_d0a16_15 rfl ha (rfl) (hj) ?_
      refine X_iinc (pc' := 19) (v := nI (j + 1)) (lv' := [(3, _), (4, _), (0, _), (1, _)]) dJ7_fill_d0a16_16 rfl rfl ((nI_succ j).symm) (Nat.le_of_ble_eq_true rfl) rfl ?_
      refine X_goto (pc' := 0) (tgt := 6) dJ7_fill_d0a16_19 (by decide) ?_
      refine X_lv [(3, .int (nI (j + 1))), (4, .int (nI n)), (0, .ref a), (1, .long v)] (by simp) (ih _ ⟨h.1.sl (by simp), fun i hi => ?_⟩)
      rw [xsl_self]
      by_cases hij : i = j
      · subst hij; rw [pk_uLs]
      · rw [pk_uLn hij]; exact h.2 i (by omega)
  refine X_iconst (pc' := 1) (v := nI 0) dJ7_fill_d0a16_0 rfl (by decide) ?_
  refine X_istore_n (i := 3) (pc' := 2) (lv' := [(3, _), (0, _), (1, _)]) dJ7_fill_d0a16_1 rfl rfl (Nat.le_of_ble_eq_true rfl) rfl ?_
  refine X_aload_n (i := 0) (pc' := 3) dJ7_fill_d0a16_2 rfl rfl rfl ?_
  refine X_alen (pc' := 4) dJ7_fill_d0a16_3 rfl (Or.inl ⟨ha, by decide⟩) ?_
  refine X_istore (pc' := 6) (lv' := [(4, _), (3, _), (0, _), (1, _)]) dJ7_fill_d0a16_4 rfl (Nat.le_of_ble_eq_true rfl) rfl ?_
  exact X_lv _ (by simp) (hl 0 τ (by omega) ⟨xeq.rf, fun i hi => absurd hi (by omega)⟩)
end ST
