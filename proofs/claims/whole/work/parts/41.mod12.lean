/-! ===== the model: things told as figures, years ===== -/
theorem ten_le {n : Nat} (h : n ≤ 6) : 10 ^ n ≤ 1000000 := Nat.le_trans (Nat.pow_le_pow_right (n := 10) (by decide) h) (by decide)
abbrev good (P : PT) (s : SN) (f : Nat) : Prop := f = 0 ∨ f = 9 ∨ can P s (f - 1)
theorem not_good {P : PT} {s : SN} {f : Nat} : ¬ good P s f ↔ bad P s f :=
  ⟨fun q => ⟨fun e => q (Or.inl e), fun e => q (Or.inr (Or.inl e)), fun e => q (Or.inr (Or.inr e))⟩, fun q r => r.elim q.1 (fun r => r.elim q.2.1 q.2.2)⟩
theorem trF_stay {P : PT} {s : SN} {fs : Nat → Nat} {i : Nat} (h : trF P s fs i = -9) (hb : bad P (trS P s fs i) (fs i)) (hi : i < 2 ^ 31) : ∀ d, trF P s fs (i + 1 + d) = nI i := by
  intro d
  induction d with
  | zero => exact if_pos ⟨hb, h⟩
  | succ d ih =>
    show (if bad P (trS P s fs (i + 1 + d)) (fs (i + 1 + d)) ∧ trF P s fs (i + 1 + d) = -9 then nI (i + 1 + d) else trF P s fs (i + 1 + d)) = nI i
    rw [ih, if_neg (fun q => nI_ne9 hi q.2)]
section MJ
variable (cx : xC)
set_option maxHeartbeats 4000000
set_option maxRecDepth 100000
theorem d_tenTo {P : xP} (τ : xT) (n : Nat) (hn : n ≤ 6) : CI cx m_X5_tenTo [.int (nI n)] P τ (fun x τ' => τ' = τ ∧ x = nI (10 ^ n)) := by
  refine Ct_of (by decide) (Nat.le_of_ble_eq_true rfl) (lv := [(0, _)]) rfl ?_
  have hl : ∀ (j : Nat) (τ' : xT), j ≤ n → τ' = τ → X cx m_X5_tenTo P (qI P (fun x τ' => τ' = τ ∧ x = nI (10 ^ n))) 4 [(2, .int (nI j)), (1, .int (nI (10 ^ j))), (0, .int (nI n))] [] P τ' := by
    refine xloop _ _ n (fun τ' h => ?_) (fun j τ' hj h ih => ?_)
    · subst h
      refine X_iload_n (i := 2) (pc' := 5) dX5_tenTo_4 rfl rfl rfl ?_
      refine X_iload_n (i := 0) (pc' := 6) dX5_tenTo_5 rfl rfl rfl ?_
      refine X_icmp_ge (pc' := 9) (tgt := 20) dX5_tenTo_6 rfl (by decide) (fun h_6 => ?_) (fun h_6 => absurd (nI_le (Nat.le_refl _) (by omega)) h_6)
      refine X_iload_n (i := 1) (pc' := 21) dX5_tenTo_20 rfl rfl rfl ?_
      refine X_ri dX5_tenTo_21 rfl ⟨rfl, rfl⟩ ?_
      exact ⟨rfl, rfl⟩
    · subst h
      refine X_iload_n (i := 2) (pc' := 5) dX5_tenTo_4 rfl rfl rfl ?_
      refine X_iload_n (i := 0) (pc' := 6) dX5_tenTo_5 rfl rfl rfl ?_
      refine X_icmp_ge (pc' := 9) (tgt := 20) dX5_tenTo_6 rfl (by decide) (fun h_6 => absurd h_6 (nI_ge hj (by omega))) (fun h_6 => ?_)
      refine X_iload_n (i := 1) (pc' := 10) dX5_tenTo_9 rfl rfl rfl ?_
      refine X_bipush (pc' := 12) (v := nI 10) dX5_tenTo_10 rfl (by decide) ?_
      refine X_imul (pc' := 13) dX5_tenTo_12 rfl ?_
      refine X_eqi (nI (10 ^ (j + 1))) (by rw [Nat.pow_succ]; exact pk_mul _ _) ?_
      refine X_istore_n (i := 1) (pc' := 14) (lv' := [(1, _), (2, _), (0, _)]) dX5_tenTo_13 rfl rfl (Nat.le_of_ble_eq_true rfl) rfl ?_
      refine X_iinc (pc' := 17) (v := nI (j + 1)) (lv' := [(2, _), (1, _), (0, _)]) dX5_tenTo_14 rfl rfl ((nI_succ j).symm) (Nat.le_of_ble_eq_true rfl) rfl ?_
      refine X_goto (pc' := 0) (tgt := 4) dX5_tenTo_17 (by decide) ?_
      exact X_lv _ (by simp) (ih τ' rfl)
  refine X_iconst (pc' := 1) (v := nI 1) dX5_tenTo_0 rfl (by decide) ?_
  refine X_istore_n (i := 1) (pc' := 2) (lv' := [(1, _), (0, _)]) dX5_tenTo_1 rfl rfl (Nat.le_of_ble_eq_true rfl) rfl ?_
  refine X_iconst (pc' := 3) (v := nI 0) dX5_tenTo_2 rfl (by decide) ?_
  refine X_istore_n (i := 2) (pc' := 4) (lv' := [(2, _), (1, _), (0, _)]) dX5_tenTo_3 rfl rfl (Nat.le_of_ble_eq_true rfl) rfl ?_
  exact X_lv _ (by simp) (hl 0 τ (by omega) rfl)
theorem d_areThings (τ : xT) (n r : Int32) : CI cx m_X5_areThings [.ref 1, .int n, .int r] PM τ (fun x τ' => τ' = τ ∧ x = zI (areT n r)) := by
  have e1 : n.toInt64.toInt = n.toInt := Int32.toInt_toInt64 n
  have e2 : r.toInt64.toInt = r.toInt := Int32.toInt_toInt64 r
  have f0 : (lN 0).toInt = 0 := rfl
  have f1 : (lN 1).toInt = 1 := rfl
  have f6 : (lN 6).toInt = 6 := rfl
  refine Ct_of (by decide) (Nat.le_of_ble_eq_true rfl) (lv := [(0, _), (1, _), (2, _)]) rfl ?_
  refine X_iload_n (i := 1) (pc' := 1) dX5_areThings_0 rfl rfl rfl ?_
  refine X_i2l (pc' := 2) dX5_areThings_1 rfl ?_
  refine X_lconst (pc' := 3) (v := lN 1) dX5_areThings_2 rfl rfl ?_
  refine X_ldc2 (pc' := 6) (v := lN 6) dX5_areThings_3 rfl cn_X5_160 ?_
  refine X_SIp (As := [_, _, _]) (rest := []) (pc' := 9) dX5_areThings_6 rfl k_X5_in l_X5_50 s_X5_in ⟨by decide, by decide⟩ rfl rfl (Nat.le_of_ble_eq_true rfl) (d_in cx τ _ _ _) ?_
  refine X_if_eq (pc' := 12) (tgt := 32) dX5_areThings_9 rfl (by decide) (fun h_9 => ?_) (fun h_9 => ?_)
  · refine X_iconst (pc' := 33) (v := nI 0) dX5_areThings_32 rfl (by decide) ?_
    refine X_rz dX5_areThings_33 rfl (rfl) ⟨rfl, rfl⟩ ?_
    refine ⟨rfl, ?_⟩
    first
      | (refine (zI_f (fun q => (zI_0.mp h_9) ?_)).symm
         rw [e1, f1, f6]
         exact ⟨q.1, q.2.1⟩)
      | (refine (zI_f (fun q => (zI_0.mp h_25) ?_)).symm
         rw [e2, e3, f0]
         have q4 := q.2.2.2
         rw [e4] at q4
         have := q.2.2.1
         omega)
      | (have hd := zI_1 h_25
         rw [e2, e3, f0] at hd
         refine (zI_t ⟨hc.1, hc.2, hd.1, ?_⟩).symm
         rw [e4]
         omega)
  · have hc := zI_1 h_9
    rw [e1, f1, f6] at hc
    obtain ⟨v, hv, rfl⟩ := xsw_of (x := n) (n := 6) (by omega) (by decide)
    have ht := ten_le hv
    have ht0 : 0 < 10 ^ v := Nat.pow_pos (by decide)
    have e3 : (nI (10 ^ v) - nI 1).toInt64.toInt = (10 ^ v : Nat) - 1 := by
      rw [Int32.toInt_toInt64]
      exact pk_sub_toInt (by omega) (by decide)
    have e4 : (nI v).toInt.toNat = v := by rw [nI_toInt (by omega)]; rfl
    refine X_iload_n (i := 2) (pc' := 13) dX5_areThings_12 rfl rfl rfl ?_
    refine X_i2l (pc' := 14) dX5_areThings_13 rfl ?_
    refine X_lconst (pc' := 15) (v := lN 0) dX5_areThings_14 rfl rfl ?_
    refine X_iload_n (i := 1) (pc' := 16) dX5_areThings_15 rfl rfl rfl ?_
    refine X_SIp (As := [_]) (rest := [_, _]) (pc' := 19) dX5_areThings_16 rfl k_X5_tenTo l_X5_162 s_X5_tenTo ⟨by decide, by decide⟩ rfl rfl (Nat.le_of_ble_eq_true rfl) (d_tenTo cx τ v hv) ?_
    refine X_iconst (pc' := 20) (v := nI 1) dX5_areThings_19 rfl (by decide) ?_
    refine X_isub (pc' := 21) dX5_areThings_20 rfl ?_
    refine X_i2l (pc' := 22) dX5_areThings_21 rfl ?_
    refine X_SIp (As := [_, _, _]) (rest := []) (pc' := 25) dX5_areThings_22 rfl k_X5_in l_X5_50 s_X5_in ⟨by decide, by decide⟩ rfl rfl (Nat.le_of_ble_eq_true rfl) (d_in cx τ _ _ _) ?_
    refine X_if_eq (pc' := 28) (tgt := 32) dX5_areThings_25 rfl (by decide) (fun h_25 => ?_) (fun h_25 => ?_)
    · refine X_iconst (pc' := 33) (v := nI 0) dX5_areThings_32 rfl (by decide) ?_
      refine X_rz dX5_areThings_33 rfl (rfl) ⟨rfl, rfl⟩ ?_
      refine ⟨rfl, ?_⟩
      first
        | (refine (zI_f (fun q => (zI_0.mp h_9) ?_)).symm
           rw [e1, f1, f6]
           exact ⟨q.1, q.2.1⟩)
        | (refine (zI_f (fun q => (zI_0.mp h_25) ?_)).symm
           rw [e2, e3, f0]
           have q4 := q.2.2.2
           rw [e4] at q4
           have := q.2.2.1
           omega)
        | (have hd := zI_1 h_25
           rw [e2, e3, f0] at hd
           refine (zI_t ⟨hc.1, hc.2, hd.1, ?_⟩).symm
           rw [e4]
           omega)
    · refine X_iconst (pc' := 29) (v := nI 1) dX5_areThings_28 rfl (by decide) ?_
      refine X_goto (pc' := 0) (tgt := 33) dX5_areThings_29 (by decide) ?_
      refine X_rz dX5_areThings_33 rfl (rfl) ⟨rfl, rfl⟩ ?_
      refine ⟨rfl, ?_⟩
      first
        | (refine (zI_f (fun q => (zI_0.mp h_9) ?_)).symm
           rw [e1, f1, f6]
           exact ⟨q.1, q.2.1⟩)
        | (refine (zI_f (fun q => (zI_0.mp h_25) ?_)).symm
           rw [e2, e3, f0]
           have q4 := q.2.2.2
           rw [e4] at q4
           have := q.2.2.1
           omega)
        | (have hd := zI_1 h_25
           rw [e2, e3, f0] at hd
           refine (zI_t ⟨hc.1, hc.2, hd.1, ?_⟩).symm
           rw [e4]
           omega)
theorem d_tryThing (τ : xT) {P : PT} (hP : Pok P) (h : MT τ P) {m : Nat} {s : SN} (hs : MS τ 4 17 (pn P) s) (ho : Sok P m s) (hm : m < 4500) {f : Nat} (hf : f < 10) : CI cx m_X5_tryThing [.ref 1, .int (nI f)] PM τ (fun x τ' => x = zI (good P s f) ∧ xtr τ τ' ∧ MS τ' 4 17 (pn P) (doT P s f)) := by
  have hn6 := hP.1
  refine Ct_of (by decide) (Nat.le_of_ble_eq_true rfl) (lv := [(0, _), (1, _)]) rfl ?_
  refine X_iload_n (i := 1) (pc' := 1) dX5_tryThing_0 rfl rfl rfl ?_
  refine X_if_ne (pc' := 4) (tgt := 12) dX5_tryThing_1 rfl (by decide) (fun h_1 => ?_) (fun h_1 => ?_)
  · have hf0 : ¬ f = 0 := fun q => h_1 (by rw [q]; rfl)
    refine X_iload_n (i := 1) (pc' := 13) dX5_tryThing_12 rfl rfl rfl ?_
    refine X_bipush (pc' := 15) (v := nI 9) dX5_tryThing_13 rfl (by decide) ?_
    refine X_icmp_eq (pc' := 18) (tgt := 40) dX5_tryThing_15 rfl (by decide) (fun h_15 => ?_) (fun h_15 => ?_)
    · refine X_iconst (pc' := 41) (v := nI 1) dX5_tryThing_40 rfl (by decide) ?_
      refine X_rz dX5_tryThing_41 rfl (rfl) ⟨rfl, rfl⟩ ?_
      first
      | (have hf0 : f = 0 := (nI_eq (by omega) (by decide)).mp h_1
         refine ⟨(zI_t (Or.inl hf0)).symm, ⟨h_6.1, fun i hi => h_6.2.1 i (Or.inl (by omega))⟩, ?_⟩
         rw [show doT P s f = pass s from if_pos hf0]
         exact h_6.2.2)
      | (have hf9 : f = 9 := (nI_eq (by omega) (by decide)).mp h_15
         have hnc : ¬ can P s (f - 1) := fun q => by have := q.1; omega
         refine ⟨(zI_t (Or.inr (Or.inl hf9))).symm, ⟨xeq.rf, fun i hi => rfl⟩, ?_⟩
         rw [show doT P s f = s from (if_neg hf0).trans (if_neg hnc)]
         exact hs)
      | (refine ⟨(zI_t (Or.inr (Or.inr hcan))).symm, ⟨h_36.2.1, fun i hi => h_36.2.2.1 i (Or.inl (by omega))⟩, ?_⟩
         rw [show doT P s f = sendS P s (f - 1) from (if_neg hf0).trans (if_pos hcan)]
         exact h_36.2.2.2)
    · refine X_aload_n (i := 0) (pc' := 19) dX5_tryThing_18 rfl rfl rfl ?_
      refine X_iconst (pc' := 20) (v := nI 1) dX5_tryThing_19 rfl (by decide) ?_
      refine X_iload_n (i := 1) (pc' := 21) dX5_tryThing_20 rfl rfl rfl ?_
      refine X_iconst (pc' := 22) (v := nI 1) dX5_tryThing_21 rfl (by decide) ?_
      refine X_isub (pc' := 23) dX5_tryThing_22 rfl ?_
      refine X_eqi (nI (f - 1)) (pk_sub (by omega)) ?_
      refine X_OIp (As := [_, _]) (rest := []) (pc' := 26) dX5_tryThing_23 rfl k_X5_canSend l_X5_148 v_X5_canSend o_M_1 rfl ⟨by decide, by decide⟩ rfl rfl (Nat.le_of_ble_eq_true rfl) (d_canSend cx τ hP h (lev := 1) (by decide) hs ho (nI (f - 1))) ?_
      refine X_if_ne (pc' := 29) (tgt := 31) dX5_tryThing_26 rfl (by decide) (fun h_26 => ?_) (fun h_26 => ?_)
      · have hcan := (cani_nI hP (by omega)).mp (zI_1 h_26)
        refine X_aload_n (i := 0) (pc' := 32) dX5_tryThing_31 rfl rfl rfl ?_
        refine X_iconst (pc' := 33) (v := nI 1) dX5_tryThing_32 rfl (by decide) ?_
        refine X_iload_n (i := 1) (pc' := 34) dX5_tryThing_33 rfl rfl rfl ?_
        refine X_iconst (pc' := 35) (v := nI 1) dX5_tryThing_34 rfl (by decide) ?_
        refine X_isub (pc' := 36) dX5_tryThing_35 rfl ?_
        refine X_eqi (nI (f - 1)) (pk_sub (by omega)) ?_
        refine X_OI (As := [_, _]) (rest := []) (pc' := 39) dX5_tryThing_36 rfl k_X5_sendOn l_X5_128 v_X5_sendOn o_M_1 rfl ⟨by decide, by decide⟩ rfl rfl (Nat.le_of_ble_eq_true rfl) (d_sendOn cx τ hP h (lev := 1) (by decide) hs ho (by omega) hcan.1) (fun x_36 τ_36 h_36 => ?_)
        refine X_pop (pc' := 40) dX5_tryThing_39 rfl rfl ?_
        refine X_iconst (pc' := 41) (v := nI 1) dX5_tryThing_40 rfl (by decide) ?_
        refine X_rz dX5_tryThing_41 rfl (rfl) ⟨rfl, rfl⟩ ?_
        first
        | (have hf0 : f = 0 := (nI_eq (by omega) (by decide)).mp h_1
           refine ⟨(zI_t (Or.inl hf0)).symm, ⟨h_6.1, fun i hi => h_6.2.1 i (Or.inl (by omega))⟩, ?_⟩
           rw [show doT P s f = pass s from if_pos hf0]
           exact h_6.2.2)
        | (have hf9 : f = 9 := (nI_eq (by omega) (by decide)).mp h_15
           have hnc : ¬ can P s (f - 1) := fun q => by have := q.1; omega
           refine ⟨(zI_t (Or.inr (Or.inl hf9))).symm, ⟨xeq.rf, fun i hi => rfl⟩, ?_⟩
           rw [show doT P s f = s from (if_neg hf0).trans (if_neg hnc)]
           exact hs)
        | (refine ⟨(zI_t (Or.inr (Or.inr hcan))).symm, ⟨h_36.2.1, fun i hi => h_36.2.2.1 i (Or.inl (by omega))⟩, ?_⟩
           rw [show doT P s f = sendS P s (f - 1) from (if_neg hf0).trans (if_pos hcan)]
           exact h_36.2.2.2)
      · refine X_iconst (pc' := 30) (v := nI 0) dX5_tryThing_29 rfl (by decide) ?_
        refine X_rz dX5_tryThing_30 rfl (rfl) ⟨rfl, rfl⟩ ?_
        have hf9 : ¬ f = 9 := fun q => h_15 (by rw [q])
        have hnc : ¬ can P s (f - 1) := fun q => (zI_0.mp h_26) ((cani_nI hP (by omega)).mpr q)
        refine ⟨(zI_f (not_good.mpr ⟨hf0, hf9, hnc⟩)).symm, ⟨xeq.rf, fun i hi => rfl⟩, ?_⟩
        rw [show doT P s f = s from (if_neg hf0).trans (if_neg hnc)]
        exact hs
  · refine X_aload_n (i := 0) (pc' := 5) dX5_tryThing_4 rfl rfl rfl ?_
    refine X_iconst (pc' := 6) (v := nI 1) dX5_tryThing_5 rfl (by decide) ?_
    refine X_OV (As := [_]) (rest := []) (pc' := 9) dX5_tryThing_6 rfl k_X5_passOn l_X5_131 v_X5_passOn o_M_1 rfl ⟨by decide, by decide⟩ rfl rfl (Nat.le_of_ble_eq_true rfl) (d_passOn cx τ hP h (lev := 1) (by decide) hs ho (by omega)) (fun τ_6 h_6 => ?_)
    refine X_goto (pc' := 0) (tgt := 40) dX5_tryThing_9 (by decide) ?_
    refine X_iconst (pc' := 41) (v := nI 1) dX5_tryThing_40 rfl (by decide) ?_
    refine X_rz dX5_tryThing_41 rfl (rfl) ⟨rfl, rfl⟩ ?_
    first
    | (have hf0 : f = 0 := (nI_eq (by omega) (by decide)).mp h_1
       refine ⟨(zI_t (Or.inl hf0)).symm, ⟨h_6.1, fun i hi => h_6.2.1 i (Or.inl (by omega))⟩, ?_⟩
       rw [show doT P s f = pass s from if_pos hf0]
       exact h_6.2.2)
    | (have hf9 : f = 9 := (nI_eq (by omega) (by decide)).mp h_15
       have hnc : ¬ can P s (f - 1) := fun q => by have := q.1; omega
       refine ⟨(zI_t (Or.inr (Or.inl hf9))).symm, ⟨xeq.rf, fun i hi => rfl⟩, ?_⟩
       rw [show doT P s f = s from (if_neg hf0).trans (if_neg hnc)]
       exact hs)
    | (refine ⟨(zI_t (Or.inr (Or.inr hcan))).symm, ⟨h_36.2.1, fun i hi => h_36.2.2.1 i (Or.inl (by omega))⟩, ?_⟩
       rw [show doT P s f = sendS P s (f - 1) from (if_neg hf0).trans (if_pos hcan)]
       exact h_36.2.2.2)
theorem thg_lt (v w i : Nat) : thg v w i < 10 := Nat.mod_lt _ (by decide)
theorem l2_judge (τ : xT) {P : PT} (hP : Pok P) (h : MT τ P) {m : Nat} {s : SN} (hs : MS τ 4 0 (pn P) s) (ho : Sok P m s) (hm : m < 4000) {v w : Nat} (hv : v ≤ 6) (hw : w < 2 ^ 31) : ∀ (j : Nat) (τ' : xT), j ≤ v → (xtr τ τ' ∧ MS τ' 4 17 (pn P) (trS P s (thg v w) j) ∧ trF P s (thg v w) j = -9) → X cx m_X5_judge PM (qI PM (fun x τ' => x = trF P s (thg v w) v ∧ xtr τ τ')) 18 [(3, .int (nI j)), (0, .ref 1), (1, .int (nI v)), (2, .int (nI w))] [] PM τ' := by
  refine xloop _ _ v (fun τ' g => ?_) (fun j τ' hj g ih => ?_)
  · refine X_iload_n (i := 3) (pc' := 19) dX5_judge_18 rfl rfl rfl ?_
    refine X_iload_n (i := 1) (pc' := 20) dX5_judge_19 rfl rfl rfl ?_
    refine X_icmp_ge (pc' := 23) (tgt := 51) dX5_judge_20 rfl (by decide) (fun h_20 => ?_) (fun h_20 => absurd (nI_le (Nat.le_refl _) (by omega)) h_20)
    refine X_bipush (pc' := 53) (v := (-9)) dX5_judge_51 rfl (by decide) ?_
    refine X_ri dX5_judge_53 rfl ⟨rfl, rfl⟩ ?_
    exact ⟨g.2.2.symm, g.1⟩
  · obtain ⟨g1, g2, g3⟩ := g
    have ht := ten_le (n := v - 1 - j) (by omega)
    have ht0 : 0 < 10 ^ (v - 1 - j) := Nat.pow_pos (by decide)
    have hne : ¬ nI (10 ^ (v - 1 - j)) = 0 := fun q => absurd ((nI_eq (by omega) (by decide)).mp q) (Nat.ne_of_gt ht0)
    have hd : w / 10 ^ (v - 1 - j) ≤ w := Nat.div_le_self _ _
    refine X_iload_n (i := 3) (pc' := 19) dX5_judge_18 rfl rfl rfl ?_
    refine X_iload_n (i := 1) (pc' := 20) dX5_judge_19 rfl rfl rfl ?_
    refine X_icmp_ge (pc' := 23) (tgt := 51) dX5_judge_20 rfl (by decide) (fun h_20 => absurd h_20 (nI_ge hj (by omega))) (fun h_20 => ?_)
    refine X_aload_n (i := 0) (pc' := 24) dX5_judge_23 rfl rfl rfl ?_
    refine X_iload_n (i := 2) (pc' := 25) dX5_judge_24 rfl rfl rfl ?_
    refine X_iload_n (i := 1) (pc' := 26) dX5_judge_25 rfl rfl rfl ?_
    refine X_iconst (pc' := 27) (v := nI 1) dX5_judge_26 rfl (by decide) ?_
    refine X_isub (pc' := 28) dX5_judge_27 rfl ?_
    refine X_eqi (nI (v - 1)) (pk_sub (by omega)) ?_
    refine X_iload_n (i := 3) (pc' := 29) dX5_judge_28 rfl rfl rfl ?_
    refine X_isub (pc' := 30) dX5_judge_29 rfl ?_
    refine X_eqi (nI (v - 1 - j)) (pk_sub (by omega)) ?_
    refine X_SIp (As := [_]) (rest := [_, _]) (pc' := 33) dX5_judge_30 rfl k_X5_tenTo l_X5_162 s_X5_tenTo ⟨by decide, by decide⟩ rfl rfl (Nat.le_of_ble_eq_true rfl) (d_tenTo cx τ' (v - 1 - j) (by omega)) ?_
    refine X_idiv (pc' := 34) dX5_judge_33 rfl (hne) ?_
    refine X_eqi (nI (w / 10 ^ (v - 1 - j))) (pk_div hw ht0 (by omega)) ?_
    refine X_bipush (pc' := 36) (v := nI 10) dX5_judge_34 rfl (by decide) ?_
    refine X_irem (pc' := 37) dX5_judge_36 rfl (by decide) ?_
    refine X_eqi (nI (thg v w j)) (pk_rem (by omega) (by decide) (by decide)) ?_
    refine X_OI (As := [_]) (rest := []) (pc' := 40) dX5_judge_37 rfl k_X5_tryThing l_X5_168 v_X5_tryThing o_M_1 rfl ⟨by decide, by decide⟩ rfl rfl (Nat.le_of_ble_eq_true rfl) (d_tryThing cx τ' hP (g1.mt h) g2 (trS_ok hP ho (thg v w) j) (by omega) (thg_lt v w j)) (fun x_37 τ_37 h_37 => ?_)
    refine X_eqi (zI (good P (trS P s (thg v w) j) (thg v w j))) (h_37.1) ?_
    refine X_if_ne (pc' := 43) (tgt := 45) dX5_judge_40 rfl (by decide) (fun h_40 => ?_) (fun h_40 => ?_)
    · refine X_iinc (pc' := 48) (v := nI (j + 1)) (lv' := [(3, _), (0, _), (1, _), (2, _)]) dX5_judge_45 rfl rfl (nI_add _ _) (Nat.le_of_ble_eq_true rfl) rfl ?_
      refine X_goto (pc' := 0) (tgt := 18) dX5_judge_48 (by decide) ?_
      have hb := zI_1 h_40
      exact X_lv _ (by simp) (ih _ ⟨g1.tr h_37.2.1, h_37.2.2, (if_neg (fun q => not_good.mpr q.1 hb)).trans g3⟩)
    · refine X_iload_n (i := 3) (pc' := 44) dX5_judge_43 rfl rfl rfl ?_
      refine X_ri dX5_judge_44 rfl ⟨rfl, rfl⟩ ?_
      have hb : bad P (trS P s (thg v w) j) (thg v w j) := not_good.mp (zI_0.mp h_40)
      have := trF_stay g3 hb (by omega) (v - (j + 1))
      rw [show j + 1 + (v - (j + 1)) = v by omega] at this
      exact ⟨this.symm, g1.tr h_37.2.1⟩
theorem areT_of {n r : Int32} (h : areT n r) : ∃ v w : Nat, v ≤ 6 ∧ w < 2 ^ 31 ∧ n = nI v ∧ r = nI w ∧ n.toInt.toNat = v ∧ r.toInt.toNat = w := by
  obtain ⟨h1, h2, h3, h4⟩ := h
  have q1 := nI_of3 (x := n) (by omega)
  have q2 := nI_of3 (x := r) h3
  exact ⟨n.toInt.toNat, r.toInt.toNat, by omega, q2.2, q1.1, q2.1, rfl, rfl⟩
theorem d_judge (τ : xT) {P : PT} (hP : Pok P) (h : MT τ P) {m : Nat} {s : SN} (hs : MS τ 4 0 (pn P) s) (ho : Sok P m s) (hm : m < 4000) (n r : Int32) : CI cx m_X5_judge [.ref 1, .int n, .int r] PM τ (fun x τ' => x = judgeF P s n r ∧ xtr τ τ') := by
  have hn6 := hP.1
  refine Ct_of (by decide) (Nat.le_of_ble_eq_true rfl) (lv := [(0, _), (1, _), (2, _)]) rfl ?_
  unfold judgeF
  refine X_aload_n (i := 0) (pc' := 1) dX5_judge_0 rfl rfl rfl ?_
  refine X_iload_n (i := 1) (pc' := 2) dX5_judge_1 rfl rfl rfl ?_
  refine X_iload_n (i := 2) (pc' := 3) dX5_judge_2 rfl rfl rfl ?_
  refine X_OIp (As := [_, _]) (rest := []) (pc' := 6) dX5_judge_3 rfl k_X5_areThings l_X5_165 v_X5_areThings o_M_1 rfl ⟨by decide, by decide⟩ rfl rfl (Nat.le_of_ble_eq_true rfl) (d_areThings cx τ n r) ?_
  refine X_if_ne (pc' := 9) (tgt := 12) dX5_judge_6 rfl (by decide) (fun h_6 => ?_) (fun h_6 => ?_)
  · have hT := zI_1 h_6
    obtain ⟨v, w, hv, hw, rfl, rfl, e1, e2⟩ := areT_of hT
    rw [if_pos hT, e1, e2]
    refine X_aload_n (i := 0) (pc' := 13) dX5_judge_12 rfl rfl rfl ?_
    refine X_OV (As := []) (rest := []) (pc' := 16) dX5_judge_13 rfl k_X5_layTrial l_X5_135 v_X5_layTrial o_M_1 rfl ⟨by decide, by decide⟩ rfl rfl (Nat.le_of_ble_eq_true rfl) (d_layTrial cx τ) (fun τ_13 h_13 => ?_)
    refine X_iconst (pc' := 17) (v := nI 0) dX5_judge_16 rfl (by decide) ?_
    refine X_istore_n (i := 3) (pc' := 18) (lv' := [(3, _), (0, _), (1, _), (2, _)]) dX5_judge_17 rfl rfl (Nat.le_of_ble_eq_true rfl) rfl ?_
    exact X_lv _ (by simp) (l2_judge cx τ hP h hs ho hm hv hw 0 _ (Nat.zero_le _) ⟨⟨h_13.1, h_13.2.1⟩, hs.copy hn6 (fun i hi => by rw [Nat.zero_add]; exact h_13.2.2 i hi), rfl⟩)
  · refine X_bipush (pc' := 11) (v := (-2)) dX5_judge_9 rfl (by decide) ?_
    refine X_ri dX5_judge_11 rfl ⟨rfl, rfl⟩ ?_
    rw [if_neg (zI_0.mp h_6)]; exact ⟨rfl, xeq.rf, fun i hi => rfl⟩
theorem l2_cost (τ : xT) {P : PT} (hP : Pok P) (h : MT τ P) {m : Nat} {s : SN} (hs : MS τ 4 0 (pn P) s) (ho : Sok P m s) (hm : m < 4000) {v w : Nat} (hv : v ≤ 6) (hw : w < 2 ^ 31) : ∀ (j : Nat) (τ' : xT), j ≤ v → (xtr τ τ' ∧ MS τ' 4 17 (pn P) (trS P s (thg v w) j)) → X cx m_X5_cost PM (qI PM (fun x τ' => x = nI (sPd (trS P s (thg v w) v)) - nI (sPd s) ∧ xtr τ τ')) 18 [(3, .int (nI j)), (0, .ref 1), (1, .int (nI v)), (2, .int (nI w))] [] PM τ' := by
  have hn6 := hP.1
  refine xloop _ _ v (fun τ' g => ?_) (fun j τ' hj g ih => ?_)
  · refine X_iload_n (i := 3) (pc' := 19) dX5_cost_18 rfl rfl rfl ?_
    refine X_iload_n (i := 1) (pc' := 20) dX5_cost_19 rfl rfl rfl ?_
    refine X_icmp_ge (pc' := 23) (tgt := 47) dX5_cost_20 rfl (by decide) (fun h_20 => ?_) (fun h_20 => absurd (nI_le (Nat.le_refl _) (by omega)) h_20)
    refine X_aload_n (i := 0) (pc' := 48) dX5_cost_47 rfl rfl rfl ?_
    refine X_get (pc' := 51) (v := .ref 4) dX5_cost_48 rfl (gf_X5_16 _ rfl) o_M_1 rfl rfl ?_
    refine X_bipush (pc' := 53) (v := nI 33) dX5_cost_51 rfl (by decide) ?_
    refine X_iald (pc' := 54) (j := 33) dX5_cost_53 rfl (Or.inl r_M_4) (rfl) (by decide) ?_
    refine X_eqi (nI (sPd (trS P s (thg v w) v))) (g.2.2.2.2.2.2.2) ?_
    refine X_aload_n (i := 0) (pc' := 55) dX5_cost_54 rfl rfl rfl ?_
    refine X_get (pc' := 58) (v := .ref 4) dX5_cost_55 rfl (gf_X5_16 _ rfl) o_M_1 rfl rfl ?_
    refine X_bipush (pc' := 60) (v := nI 16) dX5_cost_58 rfl (by decide) ?_
    refine X_iald (pc' := 61) (j := 16) dX5_cost_60 rfl (Or.inl r_M_4) (rfl) (by decide) ?_
    refine X_eqi (nI (sPd s)) ((g.1.ms hn6 hs).2.2.2.2.2.2) ?_
    refine X_isub (pc' := 62) dX5_cost_61 rfl ?_
    refine X_ri dX5_cost_62 rfl ⟨rfl, rfl⟩ ?_
    exact ⟨rfl, g.1⟩
  · obtain ⟨g1, g2⟩ := g
    have ht := ten_le (n := v - 1 - j) (by omega)
    have ht0 : 0 < 10 ^ (v - 1 - j) := Nat.pow_pos (by decide)
    have hne : ¬ nI (10 ^ (v - 1 - j)) = 0 := fun q => absurd ((nI_eq (by omega) (by decide)).mp q) (Nat.ne_of_gt ht0)
    have hd : w / 10 ^ (v - 1 - j) ≤ w := Nat.div_le_self _ _
    refine X_iload_n (i := 3) (pc' := 19) dX5_cost_18 rfl rfl rfl ?_
    refine X_iload_n (i := 1) (pc' := 20) dX5_cost_19 rfl rfl rfl ?_
    refine X_icmp_ge (pc' := 23) (tgt := 47) dX5_cost_20 rfl (by decide) (fun h_20 => absurd h_20 (nI_ge hj (by omega))) (fun h_20 => ?_)
    refine X_aload_n (i := 0) (pc' := 24) dX5_cost_23 rfl rfl rfl ?_
    refine X_iload_n (i := 2) (pc' := 25) dX5_cost_24 rfl rfl rfl ?_
    refine X_iload_n (i := 1) (pc' := 26) dX5_cost_25 rfl rfl rfl ?_
    refine X_iconst (pc' := 27) (v := nI 1) dX5_cost_26 rfl (by decide) ?_
    refine X_isub (pc' := 28) dX5_cost_27 rfl ?_
    refine X_eqi (nI (v - 1)) (pk_sub (by omega)) ?_
    refine X_iload_n (i := 3) (pc' := 29) dX5_cost_28 rfl rfl rfl ?_
    refine X_isub (pc' := 30) dX5_cost_29 rfl ?_
    refine X_eqi (nI (v - 1 - j)) (pk_sub (by omega)) ?_
    refine X_SIp (As := [_]) (rest := [_, _]) (pc' := 33) dX5_cost_30 rfl k_X5_tenTo l_X5_162 s_X5_tenTo ⟨by decide, by decide⟩ rfl rfl (Nat.le_of_ble_eq_true rfl) (d_tenTo cx τ' (v - 1 - j) (by omega)) ?_
    refine X_idiv (pc' := 34) dX5_cost_33 rfl (hne) ?_
    refine X_eqi (nI (w / 10 ^ (v - 1 - j))) (pk_div hw ht0 (by omega)) ?_
    refine X_bipush (pc' := 36) (v := nI 10) dX5_cost_34 rfl (by decide) ?_
    refine X_irem (pc' := 37) dX5_cost_36 rfl (by decide) ?_
    refine X_eqi (nI (thg v w j)) (pk_rem (by omega) (by decide) (by decide)) ?_
    refine X_OI (As := [_]) (rest := []) (pc' := 40) dX5_cost_37 rfl k_X5_tryThing l_X5_168 v_X5_tryThing o_M_1 rfl ⟨by decide, by decide⟩ rfl rfl (Nat.le_of_ble_eq_true rfl) (d_tryThing cx τ' hP (g1.mt h) g2 (trS_ok hP ho (thg v w) j) (by omega) (thg_lt v w j)) (fun x_37 τ_37 h_37 => ?_)
    refine X_pop (pc' := 41) dX5_cost_40 rfl rfl ?_
    refine X_iinc (pc' := 44) (v := nI (j + 1)) (lv' := [(3, _), (0, _), (1, _), (2, _)]) dX5_cost_41 rfl rfl (nI_add _ _) (Nat.le_of_ble_eq_true rfl) rfl ?_
    refine X_goto (pc' := 0) (tgt := 18) dX5_cost_44 (by decide) ?_
    exact X_lv _ (by simp) (ih _ ⟨g1.tr h_37.2.1, h_37.2.2⟩)
theorem d_cost (τ : xT) {P : PT} (hP : Pok P) (h : MT τ P) {m : Nat} {s : SN} (hs : MS τ 4 0 (pn P) s) (ho : Sok P m s) (hm : m < 4000) (n r : Int32) : CI cx m_X5_cost [.ref 1, .int n, .int r] PM τ (fun x τ' => x = costF P s n r ∧ xtr τ τ') := by
  have hn6 := hP.1
  refine Ct_of (by decide) (Nat.le_of_ble_eq_true rfl) (lv := [(0, _), (1, _), (2, _)]) rfl ?_
  unfold costF
  refine X_aload_n (i := 0) (pc' := 1) dX5_cost_0 rfl rfl rfl ?_
  refine X_iload_n (i := 1) (pc' := 2) dX5_cost_1 rfl rfl rfl ?_
  refine X_iload_n (i := 2) (pc' := 3) dX5_cost_2 rfl rfl rfl ?_
  refine X_OIp (As := [_, _]) (rest := []) (pc' := 6) dX5_cost_3 rfl k_X5_areThings l_X5_165 v_X5_areThings o_M_1 rfl ⟨by decide, by decide⟩ rfl rfl (Nat.le_of_ble_eq_true rfl) (d_areThings cx τ n r) ?_
  refine X_if_ne (pc' := 9) (tgt := 12) dX5_cost_6 rfl (by decide) (fun h_6 => ?_) (fun h_6 => ?_)
  · have hT := zI_1 h_6
    obtain ⟨v, w, hv, hw, rfl, rfl, e1, e2⟩ := areT_of hT
    rw [if_pos hT, e1, e2]
    refine X_aload_n (i := 0) (pc' := 13) dX5_cost_12 rfl rfl rfl ?_
    refine X_OV (As := []) (rest := []) (pc' := 16) dX5_cost_13 rfl k_X5_layTrial l_X5_135 v_X5_layTrial o_M_1 rfl ⟨by decide, by decide⟩ rfl rfl (Nat.le_of_ble_eq_true rfl) (d_layTrial cx τ) (fun τ_13 h_13 => ?_)
    refine X_iconst (pc' := 17) (v := nI 0) dX5_cost_16 rfl (by decide) ?_
    refine X_istore_n (i := 3) (pc' := 18) (lv' := [(3, _), (0, _), (1, _), (2, _)]) dX5_cost_17 rfl rfl (Nat.le_of_ble_eq_true rfl) rfl ?_
    exact X_lv _ (by simp) (l2_cost cx τ hP h hs ho hm hv hw 0 _ (Nat.zero_le _) ⟨⟨h_13.1, h_13.2.1⟩, hs.copy hn6 (fun i hi => by rw [Nat.zero_add]; exact h_13.2.2 i hi)⟩)
  · refine X_bipush (pc' := 11) (v := (-2)) dX5_cost_9 rfl (by decide) ?_
    refine X_ri dX5_cost_11 rfl ⟨rfl, rfl⟩ ?_
    rw [if_neg (zI_0.mp h_6)]; exact ⟨rfl, xeq.rf, fun i hi => rfl⟩
end MJ
