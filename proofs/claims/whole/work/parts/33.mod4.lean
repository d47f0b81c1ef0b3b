/-! ===== the model: price, letter, cheapest ===== -/
theorem inW {w : Int32} {hi : Nat} (h9 : hi < 2 ^ 31) : ((lN 0).toInt ≤ w.toInt64.toInt ∧ w.toInt64.toInt ≤ (lN hi).toInt) ↔ (0 ≤ w.toInt ∧ w.toInt ≤ (hi : Int)) := by
  have e1 : w.toInt64.toInt = w.toInt := Int32.toInt_toInt64 w
  have e2 : (lN hi).toInt = (hi : Int) := by rw [← lI_nat]; exact lI_toInt (by omega) (by omega)
  rw [e1, e2]; exact Iff.rfl
section M4
variable (cx : xC)
set_option maxHeartbeats 4000000
set_option maxRecDepth 100000
theorem d_price (τ : xT) {P : PT} (hP : Pok P) (h : MT τ P) {m : Nat} {s : SN} (hs : MS τ 4 0 (pn P) s) (ho : Sok P m s) (hm : m < 4500) (l n : Int32) : CI cx m_X5_price [.ref 1, .int l, .int n] PM τ (fun x τ' => x = priceF P s l n ∧ xtr τ τ') := by
  have hn6 := hP.1
  have h26 := two6 hP
  have hst := ho.2.1
  refine Ct_of (by decide) (Nat.le_of_ble_eq_true rfl) (lv := [(0, _), (1, _), (2, _)]) rfl ?_
  refine X_aload_n (i := 0) (pc' := 1) dX5_price_0 rfl rfl rfl ?_
  refine X_iload_n (i := 1) (pc' := 2) dX5_price_1 rfl rfl rfl ?_
  refine X_OIp (As := [_]) (rest := []) (pc' := 5) dX5_price_2 rfl k_X5_isLetter l_X5_112 v_X5_isLetter o_M_1 rfl ⟨by decide, by decide⟩ rfl rfl (Nat.le_of_ble_eq_true rfl) (d_isLetter cx τ hP h l) ?_
  refine X_if_ne (pc' := 8) (tgt := 10) dX5_price_5 rfl (by decide) (fun h_5 => ?_) (fun h_5 => ?_)
  · obtain ⟨k, hk, rfl⟩ := kn_of (zI_1 h_5)
    rw [priceF, onL_in hP hk]
    refine X_iload_n (i := 2) (pc' := 11) dX5_price_10 rfl rfl rfl ?_
    refine X_i2l (pc' := 12) dX5_price_11 rfl ?_
    refine X_lconst (pc' := 13) (v := lN 0) dX5_price_12 rfl rfl ?_
    refine X_ldc2 (pc' := 16) (v := lN 9) dX5_price_13 rfl cn_X5_63 ?_
    refine X_SIp (As := [_, _, _]) (rest := []) (pc' := 19) dX5_price_16 rfl k_X5_in l_X5_50 s_X5_in ⟨by decide, by decide⟩ rfl rfl (Nat.le_of_ble_eq_true rfl) (d_in cx τ _ _ _) ?_
    refine X_if_ne (pc' := 22) (tgt := 25) dX5_price_19 rfl (by decide) (fun h_19 => ?_) (fun h_19 => ?_)
    · have hn := (inW (hi := 9) (by decide)).mp (zI_1 h_19)
      obtain ⟨d, hd, rfl⟩ := xsw_of (x := n) (n := 9) (by omega) (by decide)
      rw [swF_in hd (by decide)]
      refine X_aload_n (i := 0) (pc' := 26) dX5_price_25 rfl rfl rfl ?_
      refine X_iconst (pc' := 27) (v := nI 0) dX5_price_26 rfl (by decide) ?_
      refine X_iload_n (i := 1) (pc' := 28) dX5_price_27 rfl rfl rfl ?_
      refine X_OIp (As := [_, _]) (rest := []) (pc' := 31) dX5_price_28 rfl k_X5_isSent l_X5_116 v_X5_isSent o_M_1 rfl ⟨by decide, by decide⟩ rfl rfl (Nat.le_of_ble_eq_true rfl) (d_isSent cx τ (lev := 0) (by decide) hs (by omega) (show k < 31 by omega)) ?_
      refine X_if_eq (pc' := 34) (tgt := 39) dX5_price_31 rfl (by decide) (fun h_31 => ?_) (fun h_31 => ?_)
      · refine X_aload_n (i := 0) (pc' := 40) dX5_price_39 rfl rfl rfl ?_
        refine X_iload_n (i := 1) (pc' := 41) dX5_price_40 rfl rfl rfl ?_
        refine X_iload_n (i := 2) (pc' := 42) dX5_price_41 rfl rfl rfl ?_
        refine X_OI (As := [_, _]) (rest := []) (pc' := 45) dX5_price_42 rfl k_X5_priceIn l_X5_138 v_X5_priceIn o_M_1 rfl ⟨by decide, by decide⟩ rfl rfl (Nat.le_of_ble_eq_true rfl) (d_priceIn cx τ hP h hs ho hm hk (show d < 100 by omega) (zI_0.mp h_31)) (fun x_42 τ_42 h_42 => ?_)
        refine X_ri dX5_price_45 rfl ⟨rfl, rfl⟩ ?_
        first
        | exact ⟨(if_pos (zI_1 h_31)).symm, xeq.rf, fun i hi => rfl⟩
        | exact ⟨h_42.1.trans (if_neg (zI_0.mp h_31)).symm, h_42.2⟩
      · refine X_bipush (pc' := 36) (v := (-3)) dX5_price_34 rfl (by decide) ?_
        refine X_goto (pc' := 0) (tgt := 45) dX5_price_36 (by decide) ?_
        refine X_ri dX5_price_45 rfl ⟨rfl, rfl⟩ ?_
        first
        | exact ⟨(if_pos (zI_1 h_31)).symm, xeq.rf, fun i hi => rfl⟩
        | exact ⟨h_42.1.trans (if_neg (zI_0.mp h_31)).symm, h_42.2⟩
    · refine X_bipush (pc' := 24) (v := (-2)) dX5_price_22 rfl (by decide) ?_
      refine X_ri dX5_price_24 rfl ⟨rfl, rfl⟩ ?_
      exact ⟨(swF_out (by have q := zI_0.mp h_19; rw [inW (hi := 9) (by decide)] at q; omega)).symm, xeq.rf, fun i hi => rfl⟩
  · refine X_iconst (pc' := 9) (v := (-1)) dX5_price_8 rfl (by decide) ?_
    refine X_ri dX5_price_9 rfl ⟨rfl, rfl⟩ ?_
    exact ⟨(onL_out (zI_0.mp h_5)).symm, xeq.rf, fun i hi => rfl⟩
end M4
