/-! ===== what was told: prices ===== -/
theorem X_rates {cx : xC} {M : xY} {P0 : xP} {Q : Option Value → xP → xT → Prop} {pc : Nat} {lv : List (Nat × Value)} {st : List Value} {P : xP} {τ : xT} (k : (∀ j, τ.1 0 j = xrate j) → X cx M P0 Q pc lv st P τ) : X cx M P0 Q pc lv st P τ := fun p l e s m args below meth c H locs ls C hH hS hF hl => k hH.1.2.2.1 p l e s m args below meth c H locs ls C hH hS hF hl
theorem xmax_sub {a b : Nat} (ha : a < 2 ^ 30) (hb : b < 2 ^ 30) : (if nI 0 < nI a - nI b then nI a - nI b else nI 0) = nI (a - b) := by
  have h := pk_sub_toInt ha hb
  by_cases q : b < a
  · rw [if_pos (by rw [Int32.lt_iff_toInt_lt, h]; show (0 : Int) < _; omega), pk_sub (by omega)]
  · rw [if_neg (by rw [Int32.lt_iff_toInt_lt, h]; show ¬ (0 : Int) < _; omega)]
    congr 1; omega
theorem and_lt64 {a b : Nat} (ha : a < 64) : a &&& b < 64 := Nat.lt_of_le_of_lt Nat.and_le_left ha
theorem nI_and {a b : Nat} (ha : a < 2 ^ 31) (hb : b < 2 ^ 31) : nI a &&& nI b = nI (a &&& b) := by
  apply Int32.toBitVec_inj.mp
  apply BitVec.eq_of_toNat_eq
  have e : (nI a &&& nI b).toBitVec = (nI a).toBitVec &&& (nI b).toBitVec := rfl
  rw [e, BitVec.toNat_and, pk_tn (by omega), pk_tn (by omega), pk_tn (Nat.lt_of_le_of_lt Nat.and_le_left (by omega))]
theorem nI_or {a b : Nat} (ha : a < 2 ^ 31) (hb : b < 2 ^ 31) : nI a ||| nI b = nI (a ||| b) := by
  apply Int32.toBitVec_inj.mp
  apply BitVec.eq_of_toNat_eq
  have e : (nI a ||| nI b).toBitVec = (nI a).toBitVec ||| (nI b).toBitVec := rfl
  have h : a ||| b < 2 ^ 31 := Nat.or_lt_two_pow ha hb
  rw [e, BitVec.toNat_or, pk_tn (by omega), pk_tn (by omega), pk_tn (by omega)]
section TD
variable (cx : xC)
set_option maxHeartbeats 4000000
set_option maxRecDepth 100000
theorem c_costOf (τ : xT) {P : PT} (hP : Pok P) (h : TR τ 8 P) {k d st td : Nat} (hk : k < pn P) (hd : d ≤ 99) {tp : Prop} [Decidable tp] (hst : st < 64) (htd : td < 100000) : CI cx m_X3_costOf [.ref 8, .int (nI k), .int (nI d), .int (zI tp), .int (nI st), .int (nI td)] PW τ (fun x τ' => τ' = τ ∧ x = nI (cost P k d tp (ones (px P k &&& st)) td)) := by
  obtain ⟨q0, q1, q2, q3, q4⟩ := h
  have hn6 := hP.1
  have hkk := hP.2.2.2.1 k hk
  have hxk := hP.2.2.2.2 k hk
  have b1 : d * rate (pk P k) ≤ 99 * 3 := Nat.mul_le_mul hd (rate_le _)
  have b2 : d * rate (pk P k) * (if tp then 2 else 1) ≤ 99 * 3 * 2 := Nat.mul_le_mul b1 (by split <;> omega)
  have b3 := ones_le (px P k &&& st)
  refine Ct_of (by decide) (Nat.le_of_ble_eq_true rfl) (lv := [(0, _), (1, _), (2, _), (3, _), (4, _), (5, _)]) rfl ?_
  refine X_rates (fun hr => ?_)
  refine X_iload_n (i := 2) (pc' := 1) dX3_costOf_0 rfl rfl rfl ?_
  refine X_gets (pc' := 4) dX3_costOf_1 rfl gs_X3_78 ?_
  refine X_aload_n (i := 0) (pc' := 5) dX3_costOf_4 rfl rfl rfl ?_
  refine X_get (pc' := 8) (v := .ref 10) dX3_costOf_5 rfl (gf_X3_19 _ rfl) o_W_8 rfl rfl ?_
  refine X_iload_n (i := 1) (pc' := 9) dX3_costOf_8 rfl rfl rfl ?_
  refine X_NIp (As := [_, _]) (rest := [_, _]) (pc' := 12) dX3_costOf_9 rfl k_X4_at l_X3_45 s_X4_at ⟨by decide, by decide⟩ rfl rfl (Nat.le_of_ble_eq_true rfl) (c_at_in cx τ (Or.inl r_W_10) (show k < 6 by omega)) ?_
  refine X_eqi (nI (pk P k)) (q3 k hk) ?_
  refine X_NIp (As := [_, _]) (rest := [_]) (pc' := 15) dX3_costOf_12 rfl k_X4_at l_X3_45 s_X4_at ⟨by decide, by decide⟩ rfl rfl (Nat.le_of_ble_eq_true rfl) (c_at_in cx τ (Or.inr ⟨rfl, rfl⟩) (show pk P k < 4 by omega)) ?_
  refine X_eqi (nI (rate (pk P k))) (by rw [hr]; exact xrate_rate (by omega)) ?_
  refine X_imul (pc' := 16) dX3_costOf_15 rfl ?_
  refine X_eqi (nI (d * rate (pk P k))) (pk_mul _ _) ?_
  refine X_iload_n (i := 3) (pc' := 17) dX3_costOf_16 rfl rfl rfl ?_
  refine X_if_eq (pc' := 20) (tgt := 24) dX3_costOf_17 rfl (by decide) (fun h_17 => ?_) (fun h_17 => ?_)
  · refine X_iconst (pc' := 25) (v := nI 1) dX3_costOf_24 rfl (by decide) ?_
    refine X_imul (pc' := 26) dX3_costOf_25 rfl ?_
    refine X_eqi (nI (d * rate (pk P k) * (if tp then 2 else 1))) (by first | rw [if_pos (Classical.not_not.mp fun q => h_17 (zI_0.mpr q)), pk_mul] | rw [if_neg (zI_0.mp h_17), pk_mul]) ?_
    refine X_istore (pc' := 28) (lv' := [(6, _), (0, _), (1, _), (2, _), (3, _), (4, _), (5, _)]) dX3_costOf_26 rfl (Nat.le_of_ble_eq_true rfl) rfl ?_
    refine X_iconst (pc' := 29) (v := nI 3) dX3_costOf_28 rfl (by decide) ?_
    refine X_aload_n (i := 0) (pc' := 30) dX3_costOf_29 rfl rfl rfl ?_
    refine X_get (pc' := 33) (v := .ref 11) dX3_costOf_30 rfl (gf_X3_22 _ rfl) o_W_8 rfl rfl ?_
    refine X_iload_n (i := 1) (pc' := 34) dX3_costOf_33 rfl rfl rfl ?_
    refine X_NIp (As := [_, _]) (rest := [_]) (pc' := 37) dX3_costOf_34 rfl k_X4_at l_X3_45 s_X4_at ⟨by decide, by decide⟩ rfl rfl (Nat.le_of_ble_eq_true rfl) (c_at_in cx τ (Or.inl r_W_11) (show k < 6 by omega)) ?_
    refine X_eqi (nI (px P k)) (q4 k hk) ?_
    refine X_iload (pc' := 39) dX3_costOf_37 rfl rfl ?_
    refine X_iand (pc' := 40) dX3_costOf_39 rfl ?_
    refine X_eqi (nI (px P k &&& st)) (nI_and (by omega) (by omega)) ?_
    refine X_SIp (As := [_]) (rest := [_]) (pc' := 43) dX3_costOf_40 rfl k_J6_bitCount_0f7a4 l_X3_81 s_J6_bitCount_0f7a4 ⟨by decide, by decide⟩ rfl rfl (Nat.le_of_ble_eq_true rfl) (c_bc cx τ (px P k &&& st) (and_lt64 hxk)) ?_
    refine X_imul (pc' := 44) dX3_costOf_43 rfl ?_
    refine X_eqi (nI (3 * ones (px P k &&& st))) (pk_mul _ _) ?_
    refine X_istore (pc' := 46) (lv' := [(7, _), (6, _), (0, _), (1, _), (2, _), (3, _), (4, _), (5, _)]) dX3_costOf_44 rfl (Nat.le_of_ble_eq_true rfl) rfl ?_
    refine X_iconst (pc' := 47) (v := nI 0) dX3_costOf_46 rfl (by decide) ?_
    refine X_iload (pc' := 49) dX3_costOf_47 rfl rfl ?_
    refine X_iload (pc' := 51) dX3_costOf_49 rfl rfl ?_
    refine X_isub (pc' := 52) dX3_costOf_51 rfl ?_
    refine X_mmax (pc' := 55) dX3_costOf_52 rfl ml_X3_58 ⟨by decide, by decide⟩ ⟨Nat.le_of_eq (Nat.sub_self _), Nat.le_of_eq (Nat.sub_self _)⟩ (Nat.le_of_ble_eq_true rfl) ?_
    refine X_eqi (nI (d * rate (pk P k) * (if tp then 2 else 1) - 3 * ones (px P k &&& st))) (xmax_sub (by omega) (by omega)) ?_
    refine X_istore (pc' := 57) (lv' := [(8, _), (7, _), (6, _), (0, _), (1, _), (2, _), (3, _), (4, _), (5, _)]) dX3_costOf_55 rfl (Nat.le_of_ble_eq_true rfl) rfl ?_
    refine X_iload (pc' := 59) dX3_costOf_57 rfl rfl ?_
    refine X_aload_n (i := 0) (pc' := 60) dX3_costOf_59 rfl rfl rfl ?_
    refine X_get (pc' := 63) (v := .int _) dX3_costOf_60 rfl (gf_X3_25 _ rfl) o_W_8 rfl rfl ?_
    refine X_eqi (nI (pp P)) (q0) ?_
    refine X_icmp_ne (pc' := 66) (tgt := 73) dX3_costOf_63 rfl (by decide) (fun h_63 => ?_) (fun h_63 => ?_)
    · refine X_iload (pc' := 75) dX3_costOf_73 rfl rfl ?_
      refine X_ri dX3_costOf_75 rfl ⟨rfl, rfl⟩ ?_
      have hpp := hP.2.1
      have he : (nI td = nI (pp P)) ↔ td = pp P := nI_eq (by omega) (by omega)
      unfold cost
      first
        | exact ⟨rfl, by rw [if_neg (fun q => h_63 (he.mpr q))]⟩
        | exact ⟨rfl, by rw [if_pos (he.mp h_63)]⟩
    · refine X_iload (pc' := 68) dX3_costOf_66 rfl rfl ?_
      refine X_iconst (pc' := 69) (v := nI 2) dX3_costOf_68 rfl (by decide) ?_
      refine X_idiv (pc' := 70) dX3_costOf_69 rfl (by decide) ?_
      refine X_eqi (nI ((d * rate (pk P k) * (if tp then 2 else 1) - 3 * ones (px P k &&& st)) / 2)) (pk_div (by omega) (by decide) (by decide)) ?_
      refine X_goto (pc' := 0) (tgt := 75) dX3_costOf_70 (by decide) ?_
      refine X_ri dX3_costOf_75 rfl ⟨rfl, rfl⟩ ?_
      have hpp := hP.2.1
      have he : (nI td = nI (pp P)) ↔ td = pp P := nI_eq (by omega) (by omega)
      unfold cost
      first
        | exact ⟨rfl, by rw [if_neg (fun q => h_63 (he.mpr q))]⟩
        | exact ⟨rfl, by rw [if_pos (he.mp h_63)]⟩
  · refine X_iconst (pc' := 21) (v := nI 2) dX3_costOf_20 rfl (by decide) ?_
    refine X_goto (pc' := 0) (tgt := 25) dX3_costOf_21 (by decide) ?_
    refine X_imul (pc' := 26) dX3_costOf_25 rfl ?_
    refine X_eqi (nI (d * rate (pk P k) * (if tp then 2 else 1))) (by first | rw [if_pos (Classical.not_not.mp fun q => h_17 (zI_0.mpr q)), pk_mul] | rw [if_neg (zI_0.mp h_17), pk_mul]) ?_
    refine X_istore (pc' := 28) (lv' := [(6, _), (0, _), (1, _), (2, _), (3, _), (4, _), (5, _)]) dX3_costOf_26 rfl (Nat.le_of_ble_eq_true rfl) rfl ?_
    refine X_iconst (pc' := 29) (v := nI 3) dX3_costOf_28 rfl (by decide) ?_
    refine X_aload_n (i := 0) (pc' := 30) dX3_costOf_29 rfl rfl rfl ?_
    refine X_get (pc' := 33) (v := .ref 11) dX3_costOf_30 rfl (gf_X3_22 _ rfl) o_W_8 rfl rfl ?_
    refine X_iload_n (i := 1) (pc' := 34) dX3_costOf_33 rfl rfl rfl ?_
    refine X_NIp (As := [_, _]) (rest := [_]) (pc' := 37) dX3_costOf_34 rfl k_X4_at l_X3_45 s_X4_at ⟨by decide, by decide⟩ rfl rfl (Nat.le_of_ble_eq_true rfl) (c_at_in cx τ (Or.inl r_W_11) (show k < 6 by omega)) ?_
    refine X_eqi (nI (px P k)) (q4 k hk) ?_
    refine X_iload (pc' := 39) dX3_costOf_37 rfl rfl ?_
    refine X_iand (pc' := 40) dX3_costOf_39 rfl ?_
    refine X_eqi (nI (px P k &&& st)) (nI_and (by omega) (by omega)) ?_
    refine X_SIp (As := [_]) (rest := [_]) (pc' := 43) dX3_costOf_40 rfl k_J6_bitCount_0f7a4 l_X3_81 s_J6_bitCount_0f7a4 ⟨by decide, by decide⟩ rfl rfl (Nat.le_of_ble_eq_true rfl) (c_bc cx τ (px P k &&& st) (and_lt64 hxk)) ?_
    refine X_imul (pc' := 44) dX3_costOf_43 rfl ?_
    refine X_eqi (nI (3 * ones (px P k &&& st))) (pk_mul _ _) ?_
    refine X_istore (pc' := 46) (lv' := [(7, _), (6, _), (0, _), (1, _), (2, _), (3, _), (4, _), (5, _)]) dX3_costOf_44 rfl (Nat.le_of_ble_eq_true rfl) rfl ?_
    refine X_iconst (pc' := 47) (v := nI 0) dX3_costOf_46 rfl (by decide) ?_
    refine X_iload (pc' := 49) dX3_costOf_47 rfl rfl ?_
    refine X_iload (pc' := 51) dX3_costOf_49 rfl rfl ?_
    refine X_isub (pc' := 52) dX3_costOf_51 rfl ?_
    refine X_mmax (pc' := 55) dX3_costOf_52 rfl ml_X3_58 ⟨by decide, by decide⟩ ⟨Nat.le_of_eq (Nat.sub_self _), Nat.le_of_eq (Nat.sub_self _)⟩ (Nat.le_of_ble_eq_true rfl) ?_
    refine X_eqi (nI (d * rate (pk P k) * (if tp then 2 else 1) - 3 * ones (px P k &&& st))) (xmax_sub (by omega) (by omega)) ?_
    refine X_istore (pc' := 57) (lv' := [(8, _), (7, _), (6, _), (0, _), (1, _), (2, _), (3, _), (4, _), (5, _)]) dX3_costOf_55 rfl (Nat.le_of_ble_eq_true rfl) rfl ?_
    refine X_iload (pc' := 59) dX3_costOf_57 rfl rfl ?_
    refine X_aload_n (i := 0) (pc' := 60) dX3_costOf_59 rfl rfl rfl ?_
    refine X_get (pc' := 63) (v := .int _) dX3_costOf_60 rfl (gf_X3_25 _ rfl) o_W_8 rfl rfl ?_
    refine X_eqi (nI (pp P)) (q0) ?_
    refine X_icmp_ne (pc' := 66) (tgt := 73) dX3_costOf_63 rfl (by decide) (fun h_63 => ?_) (fun h_63 => ?_)
    · refine X_iload (pc' := 75) dX3_costOf_73 rfl rfl ?_
      refine X_ri dX3_costOf_75 rfl ⟨rfl, rfl⟩ ?_
      have hpp := hP.2.1
      have he : (nI td = nI (pp P)) ↔ td = pp P := nI_eq (by omega) (by omega)
      unfold cost
      first
        | exact ⟨rfl, by rw [if_neg (fun q => h_63 (he.mpr q))]⟩
        | exact ⟨rfl, by rw [if_pos (he.mp h_63)]⟩
    · refine X_iload (pc' := 68) dX3_costOf_66 rfl rfl ?_
      refine X_iconst (pc' := 69) (v := nI 2) dX3_costOf_68 rfl (by decide) ?_
      refine X_idiv (pc' := 70) dX3_costOf_69 rfl (by decide) ?_
      refine X_eqi (nI ((d * rate (pk P k) * (if tp then 2 else 1) - 3 * ones (px P k &&& st)) / 2)) (pk_div (by omega) (by decide) (by decide)) ?_
      refine X_goto (pc' := 0) (tgt := 75) dX3_costOf_70 (by decide) ?_
      refine X_ri dX3_costOf_75 rfl ⟨rfl, rfl⟩ ?_
      have hpp := hP.2.1
      have he : (nI td = nI (pp P)) ↔ td = pp P := nI_eq (by omega) (by omega)
      unfold cost
      first
        | exact ⟨rfl, by rw [if_neg (fun q => h_63 (he.mpr q))]⟩
        | exact ⟨rfl, by rw [if_pos (he.mp h_63)]⟩
theorem c_costIn (τ : xT) {P : PT} {m k : Nat} {s : SN} (hP : Pok P) (h : TR τ 8 P) (hk : k ∈ stW) (hs : SR τ k (pn P) s) (ho : Sok P m s) (hm : m < 10000) {j d st : Nat} (hj : j < pn P) (hd : d < 1000) (hst : st < 64) : CI cx m_X3_costIn [.ref 8, .ref k, .int (nI j), .int (nI d), .int (nI st)] PW τ (fun x τ' => τ' = τ ∧ x = nI (costIn P s j d st)) := by
  obtain ⟨q0, q1, q2, q3, q4, q5, q6⟩ := hs
  obtain ⟨o0, o1, o2, o3, o4, o5, o6⟩ := ho
  have hn6 := hP.1
  have h26 := two6 hP
  have b5 := o5 j hj
  have b6 := o6 j hj
  refine Ct_of (by decide) (Nat.le_of_ble_eq_true rfl) (lv := [(0, _), (1, _), (2, _), (3, _), (4, _)]) rfl ?_
  refine X_aload_n (i := 1) (pc' := 1) dX3_costIn_0 rfl rfl rfl ?_
  refine X_ifnonnull (pc' := 0) (tgt := 6) dX3_costIn_1 (by decide) ?_
  refine X_iconst (pc' := 7) (v := nI 0) dX3_costIn_6 rfl (by decide) ?_
  refine X_iload_n (i := 3) (pc' := 8) dX3_costIn_7 rfl rfl rfl ?_
  refine X_aload_n (i := 1) (pc' := 9) dX3_costIn_8 rfl rfl rfl ?_
  refine X_get (pc' := 12) (v := .ref (k + 2)) dX3_costIn_9 rfl (gf_X3_53 _ rfl) (st_o hk) rfl rfl ?_
  refine X_iload_n (i := 2) (pc' := 13) dX3_costIn_12 rfl rfl rfl ?_
  refine X_NIp (As := [_, _]) (rest := [_, _]) (pc' := 16) dX3_costIn_13 rfl k_X4_at l_X3_45 s_X4_at ⟨by decide, by decide⟩ rfl rfl (Nat.le_of_ble_eq_true rfl) (c_at_in cx τ (Or.inl (st_c hk)) (show j < 6 by omega)) ?_
  refine X_eqi (nI (sCk s j)) (q6 j hj) ?_
  refine X_isub (pc' := 17) dX3_costIn_16 rfl ?_
  refine X_mmax (pc' := 20) dX3_costIn_17 rfl ml_X3_58 ⟨by decide, by decide⟩ ⟨Nat.le_of_eq (Nat.sub_self _), Nat.le_of_eq (Nat.sub_self _)⟩ (Nat.le_of_ble_eq_true rfl) ?_
  refine X_eqi (nI (d - sCk s j)) (xmax_sub (by omega) (by omega)) ?_
  refine X_istore (pc' := 22) (lv' := [(5, _), (0, _), (1, _), (2, _), (3, _), (4, _)]) dX3_costIn_20 rfl (Nat.le_of_ble_eq_true rfl) rfl ?_
  refine X_bipush (pc' := 24) (v := nI 99) dX3_costIn_22 rfl (by decide) ?_
  refine X_aload_n (i := 1) (pc' := 25) dX3_costIn_24 rfl rfl rfl ?_
  refine X_get (pc' := 28) (v := .ref (k + 1)) dX3_costIn_25 rfl (gf_X3_64 _ rfl) (st_o hk) rfl rfl ?_
  refine X_iload_n (i := 2) (pc' := 29) dX3_costIn_28 rfl rfl rfl ?_
  refine X_NIp (As := [_, _]) (rest := [_]) (pc' := 32) dX3_costIn_29 rfl k_X4_at l_X3_45 s_X4_at ⟨by decide, by decide⟩ rfl rfl (Nat.le_of_ble_eq_true rfl) (c_at_in cx τ (Or.inl (st_w hk)) (show j < 6 by omega)) ?_
  refine X_eqi (nI (sWt s j)) (q5 j hj) ?_
  refine X_iload (pc' := 34) dX3_costIn_32 rfl rfl ?_
  refine X_iadd (pc' := 35) dX3_costIn_34 rfl ?_
  refine X_eqi (nI (sWt s j + (d - sCk s j))) (nI_add _ _) ?_
  refine X_mmin (pc' := 38) dX3_costIn_35 rfl ml_X3_65 ⟨by decide, by decide⟩ ⟨Nat.le_of_eq (Nat.sub_self _), Nat.le_of_eq (Nat.sub_self _)⟩ (Nat.le_of_ble_eq_true rfl) ?_
  refine X_eqi (nI (min 99 (sWt s j + (d - sCk s j)))) (xmin_nI (by omega) (by omega)) ?_
  refine X_istore (pc' := 40) (lv' := [(6, _), (5, _), (0, _), (1, _), (2, _), (3, _), (4, _)]) dX3_costIn_38 rfl (Nat.le_of_ble_eq_true rfl) rfl ?_
  refine X_aload_n (i := 0) (pc' := 41) dX3_costIn_40 rfl rfl rfl ?_
  refine X_iload_n (i := 2) (pc' := 42) dX3_costIn_41 rfl rfl rfl ?_
  refine X_iload (pc' := 44) dX3_costIn_42 rfl rfl ?_
  refine X_aload_n (i := 1) (pc' := 45) dX3_costIn_44 rfl rfl rfl ?_
  refine X_get (pc' := 48) (v := .int _) dX3_costIn_45 rfl (gf_X3_68 _ rfl) (st_o hk) rfl rfl ?_
  refine X_eqi (nI (sTn s)) (q3) ?_
  refine X_iload_n (i := 2) (pc' := 49) dX3_costIn_48 rfl rfl rfl ?_
  refine X_NIp (As := [_, _]) (rest := [_, _, _]) (pc' := 52) dX3_costIn_49 rfl k_X4_has l_X3_49 s_X4_has ⟨by decide, by decide⟩ rfl rfl (Nat.le_of_ble_eq_true rfl) (c_X4_has cx τ (sTn s) j (by omega) (by omega)) ?_
  refine X_iload (pc' := 54) dX3_costIn_52 rfl rfl ?_
  refine X_aload_n (i := 1) (pc' := 55) dX3_costIn_54 rfl rfl rfl ?_
  refine X_get (pc' := 58) (v := .int _) dX3_costIn_55 rfl (gf_X3_71 _ rfl) (st_o hk) rfl rfl ?_
  refine X_eqi (nI (sDy s)) (q0) ?_
  refine X_iload_n (i := 3) (pc' := 59) dX3_costIn_58 rfl rfl rfl ?_
  refine X_iadd (pc' := 60) dX3_costIn_59 rfl ?_
  refine X_eqi (nI (sDy s + d)) (nI_add _ _) ?_
  refine X_OIp (As := [_, _, _, _, _]) (rest := []) (pc' := 63) dX3_costIn_60 rfl k_X3_costOf l_X3_74 v_X3_costOf o_W_8 rfl ⟨by decide, by decide⟩ rfl rfl (Nat.le_of_ble_eq_true rfl) (c_costOf cx τ hP h hj (by omega) hst (by omega)) ?_
  refine X_ri dX3_costIn_63 rfl ⟨rfl, rfl⟩ ?_
  exact ⟨rfl, rfl⟩
end TD
