/-! ===== the class's small private methods ===== -/
def Qw (τ : xT) (P : PT) (s : SN) (m : Nat) : Prop := TR τ 8 P ∧ SR τ 12 (pn P) s ∧ Pok P ∧ Sok P m s ∧ m < 5000
abbrev kn (P : PT) (l : Int32) : Prop := 0 ≤ l.toInt ∧ l.toInt < (pn P : Int)
abbrev cani (P : PT) (s : SN) (l : Int32) : Prop := kn P l ∧ can P s l.toInt.toNat
theorem kn_of {P : PT} {l : Int32} (h : kn P l) : ∃ k : Nat, k < pn P ∧ l = nI k := ⟨l.toInt.toNat, by omega, (nI_of3 h.1).1⟩
theorem zI_1 {p : Prop} [Decidable p] (h : ¬ zI p = 0) : p := Classical.not_not.mp fun q => h (zI_0.mpr q)
theorem kn_in {P : PT} {k : Nat} (hP : Pok P) (hk : k < pn P) : kn P (nI k) ∧ (nI k).toInt.toNat = k := by
  have := hP.1
  rw [kn, nI_toInt (by omega)]
  omega
def onL (P : PT) (l : Int32) (f : Nat → Int32) : Int32 := if kn P l then f l.toInt.toNat else -1
theorem onL_in {P : PT} {k : Nat} {f : Nat → Int32} (hP : Pok P) (hk : k < pn P) : onL P (nI k) f = f k := by
  unfold onL
  rw [if_pos (kn_in hP hk).1, (kn_in hP hk).2]
theorem onL_out {P : PT} {l : Int32} {f : Nat → Int32} (h : ¬ kn P l) : onL P l f = -1 := if_neg h
theorem rest_bits : ∀ n, n < 7 → ∀ st, st < 64 → st < 2 ^ n → (nI (2 ^ n) - nI 1) &&& (nI st ^^^ (-1)) = nI (2 ^ n - 1 - st) := by decide +kernel
section C1
variable (cx : xC)
set_option maxHeartbeats 4000000
set_option maxRecDepth 100000
theorem c_known (τ : xT) {P : PT} (hP : Pok P) (h : TR τ 8 P) (l : Int32) : CI cx m_X4_known [.ref 1, .int l] PW τ (fun x τ' => τ' = τ ∧ x = zI (kn P l)) := by
  obtain ⟨q0, q1, q2, q3, q4⟩ := h
  have hn6 := hP.1
  refine Ct_of (by decide) (Nat.le_of_ble_eq_true rfl) (lv := [(0, _), (1, _)]) rfl ?_
  refine X_iload_n (i := 1) (pc' := 1) dX4_known_0 rfl rfl rfl ?_
  refine X_if_lt (pc' := 4) (tgt := 19) dX4_known_1 rfl (by decide) (fun h_1 => ?_) (fun h_1 => ?_)
  · refine X_iconst (pc' := 20) (v := nI 0) dX4_known_19 rfl (by decide) ?_
    refine X_rz dX4_known_20 rfl (rfl) ⟨rfl, rfl⟩ ?_
    refine ⟨rfl, ?_⟩
    simp only [lt0, geI (n := pn P) (by omega)] at *
    first
      | exact (zI_t ⟨by omega, by omega⟩).symm
      | exact (zI_f (fun q => by omega)).symm
  · refine X_iload_n (i := 1) (pc' := 5) dX4_known_4 rfl rfl rfl ?_
    refine X_aload_n (i := 0) (pc' := 6) dX4_known_5 rfl rfl rfl ?_
    refine X_get (pc' := 9) (v := .ref 8) dX4_known_6 rfl (gf_X4_23 _ rfl) o_W_1 rfl rfl ?_
    refine X_get (pc' := 12) (v := .int _) dX4_known_9 rfl (gf_X4_78 _ rfl) o_W_8 rfl rfl ?_
    refine X_eqi (nI (pn P)) (q2) ?_
    refine X_icmp_ge (pc' := 15) (tgt := 19) dX4_known_12 rfl (by decide) (fun h_12 => ?_) (fun h_12 => ?_)
    · refine X_iconst (pc' := 20) (v := nI 0) dX4_known_19 rfl (by decide) ?_
      refine X_rz dX4_known_20 rfl (rfl) ⟨rfl, rfl⟩ ?_
      refine ⟨rfl, ?_⟩
      simp only [lt0, geI (n := pn P) (by omega)] at *
      first
        | exact (zI_t ⟨by omega, by omega⟩).symm
        | exact (zI_f (fun q => by omega)).symm
    · refine X_iconst (pc' := 16) (v := nI 1) dX4_known_15 rfl (by decide) ?_
      refine X_goto (pc' := 0) (tgt := 20) dX4_known_16 (by decide) ?_
      refine X_rz dX4_known_20 rfl (rfl) ⟨rfl, rfl⟩ ?_
      refine ⟨rfl, ?_⟩
      simp only [lt0, geI (n := pn P) (by omega)] at *
      first
        | exact (zI_t ⟨by omega, by omega⟩).symm
        | exact (zI_f (fun q => by omega)).symm
theorem c_unsent (τ : xT) {P : PT} {s : SN} {m : Nat} (h : Qw τ P s m) : CI cx m_X4_unsent [.ref 1] PW τ (fun x τ' => τ' = τ ∧ x = nI (2 ^ pn P - 1 - sSt s)) := by
  obtain ⟨⟨q0, q1, q2, q3, q4⟩, ⟨p0, p1, -⟩, hP, ho, hm⟩ := h
  have hn6 := hP.1
  have h26 := two6 hP
  have hst := ho.2.1
  refine Ct_of (by decide) (Nat.le_of_ble_eq_true rfl) (lv := [(0, _)]) rfl ?_
  refine X_aload_n (i := 0) (pc' := 1) dX4_unsent_0 rfl rfl rfl ?_
  refine X_get (pc' := 4) (v := .ref 8) dX4_unsent_1 rfl (gf_X4_23 _ rfl) o_W_1 rfl rfl ?_
  refine X_get (pc' := 7) (v := .int _) dX4_unsent_4 rfl (gf_X4_78 _ rfl) o_W_8 rfl rfl ?_
  refine X_eqi (nI (pn P)) (q2) ?_
  refine X_SIp (As := [_]) (rest := []) (pc' := 10) dX4_unsent_7 rfl k_X4_bit l_X4_137 s_X4_bit ⟨by decide, by decide⟩ rfl rfl (Nat.le_of_ble_eq_true rfl) (c_X4_bit cx τ (pn P) (by omega)) ?_
  refine X_iconst (pc' := 11) (v := nI 1) dX4_unsent_10 rfl (by decide) ?_
  refine X_isub (pc' := 12) dX4_unsent_11 rfl ?_
  refine X_aload_n (i := 0) (pc' := 13) dX4_unsent_12 rfl rfl rfl ?_
  refine X_get (pc' := 16) (v := .ref 12) dX4_unsent_13 rfl (gf_X4_30 _ rfl) o_W_1 rfl rfl ?_
  refine X_get (pc' := 19) (v := .int _) dX4_unsent_16 rfl (gf_X4_98 _ rfl) o_W_12 rfl rfl ?_
  refine X_eqi (nI (sSt s)) (p1) ?_
  refine X_iconst (pc' := 20) (v := (-1)) dX4_unsent_19 rfl (by decide) ?_
  refine X_ixor (pc' := 21) dX4_unsent_20 rfl ?_
  refine X_iand (pc' := 22) dX4_unsent_21 rfl ?_
  refine X_ri dX4_unsent_22 rfl ⟨rfl, rfl⟩ ?_
  exact ⟨rfl, rest_bits (pn P) (by omega) (sSt s) (by omega) hst⟩
theorem c_canBeSent (τ : xT) {P : PT} {s : SN} {m k : Nat} (hk : k ∈ stW) (h : TR τ 8 P) (hs : SR τ k (pn P) s) (hP : Pok P) (ho : Sok P m s) (l : Int32) : CI cx m_X4_canBeSent [.ref 1, .ref k, .int l] PW τ (fun x τ' => τ' = τ ∧ x = zI (cani P s l)) := by
  obtain ⟨q0, q1, q2, q3, q4⟩ := id h
  obtain ⟨p0, p1, p2, -⟩ := hs
  have hn6 := hP.1
  have hr3 := hP.2.2.1.2
  have ht3 := ho.2.2.1
  have h26 := two6 hP
  have hst := ho.2.1
  refine Ct_of (by decide) (Nat.le_of_ble_eq_true rfl) (lv := [(0, _), (1, _), (2, _)]) rfl ?_
  refine X_aload_n (i := 1) (pc' := 1) dX4_canBeSent_0 rfl rfl rfl ?_
  refine X_ifnull (pc' := 4) dX4_canBeSent_1 rfl ?_
  refine X_aload_n (i := 0) (pc' := 5) dX4_canBeSent_4 rfl rfl rfl ?_
  refine X_iload_n (i := 2) (pc' := 6) dX4_canBeSent_5 rfl rfl rfl ?_
  refine X_OIp (As := [_]) (rest := []) (pc' := 9) dX4_canBeSent_6 rfl k_X4_known l_X4_81 v_X4_known o_W_1 rfl ⟨by decide, by decide⟩ rfl rfl (Nat.le_of_ble_eq_true rfl) (c_known cx τ hP h l) ?_
  refine X_if_eq (pc' := 12) (tgt := 41) dX4_canBeSent_9 rfl (by decide) (fun h_9 => ?_) (fun h_9 => ?_)
  · refine X_iconst (pc' := 42) (v := nI 0) dX4_canBeSent_41 rfl (by decide) ?_
    refine X_rz dX4_canBeSent_42 rfl (rfl) ⟨rfl, rfl⟩ ?_
    refine ⟨rfl, ?_⟩
    first
      | exact (zI_f (fun q => (zI_0.mp h_9) q.1)).symm
      | exact (zI_f (fun q => by have := q.2.2.1; rw [hj2] at this; exact this (zI_1 h_20))).symm
      | exact (zI_f (fun q => nI_ge q.2.2.2 (by omega) h_34)).symm
      | exact (zI_t ⟨hkn, by rw [hj2]; exact hj, by rw [hj2]; exact fun q => h_20 (fun e => (zI_0.mp e) q), by rw [nI_leI (by omega) (by omega)] at h_34; omega⟩).symm
      | exact (zI_t ⟨hkn, by rw [hj2]; exact hj, by rw [hj2]; exact zI_0.mp h_20, by rw [nI_leI (by omega) (by omega)] at h_34; omega⟩).symm
  · have hkn := zI_1 h_9
    obtain ⟨j, hj, rfl⟩ := kn_of hkn
    have hj2 := (kn_in hP hj).2
    refine X_aload_n (i := 1) (pc' := 13) dX4_canBeSent_12 rfl rfl rfl ?_
    refine X_get (pc' := 16) (v := .int _) dX4_canBeSent_13 rfl (gf_X4_98 _ rfl) (st_o hk) rfl rfl ?_
    refine X_eqi (nI (sSt s)) (p1) ?_
    refine X_iload_n (i := 2) (pc' := 17) dX4_canBeSent_16 rfl rfl rfl ?_
    refine X_SIp (As := [_, _]) (rest := []) (pc' := 20) dX4_canBeSent_17 rfl k_X4_has l_X4_101 s_X4_has ⟨by decide, by decide⟩ rfl rfl (Nat.le_of_ble_eq_true rfl) (c_X4_has cx τ (sSt s) j (by omega) (by omega)) ?_
    refine X_if_ne (pc' := 23) (tgt := 41) dX4_canBeSent_20 rfl (by decide) (fun h_20 => ?_) (fun h_20 => ?_)
    · refine X_iconst (pc' := 42) (v := nI 0) dX4_canBeSent_41 rfl (by decide) ?_
      refine X_rz dX4_canBeSent_42 rfl (rfl) ⟨rfl, rfl⟩ ?_
      refine ⟨rfl, ?_⟩
      first
        | exact (zI_f (fun q => (zI_0.mp h_9) q.1)).symm
        | exact (zI_f (fun q => by have := q.2.2.1; rw [hj2] at this; exact this (zI_1 h_20))).symm
        | exact (zI_f (fun q => nI_ge q.2.2.2 (by omega) h_34)).symm
        | exact (zI_t ⟨hkn, by rw [hj2]; exact hj, by rw [hj2]; exact fun q => h_20 (fun e => (zI_0.mp e) q), by rw [nI_leI (by omega) (by omega)] at h_34; omega⟩).symm
        | exact (zI_t ⟨hkn, by rw [hj2]; exact hj, by rw [hj2]; exact zI_0.mp h_20, by rw [nI_leI (by omega) (by omega)] at h_34; omega⟩).symm
    · refine X_aload_n (i := 1) (pc' := 24) dX4_canBeSent_23 rfl rfl rfl ?_
      refine X_get (pc' := 27) (v := .int _) dX4_canBeSent_24 rfl (gf_X4_220 _ rfl) (st_o hk) rfl rfl ?_
      refine X_eqi (nI (sTd s)) (p2) ?_
      refine X_aload_n (i := 0) (pc' := 28) dX4_canBeSent_27 rfl rfl rfl ?_
      refine X_get (pc' := 31) (v := .ref 8) dX4_canBeSent_28 rfl (gf_X4_23 _ rfl) o_W_1 rfl rfl ?_
      refine X_get (pc' := 34) (v := .int _) dX4_canBeSent_31 rfl (gf_X4_217 _ rfl) o_W_8 rfl rfl ?_
      refine X_eqi (nI (pr P)) (q1) ?_
      refine X_icmp_ge (pc' := 37) (tgt := 41) dX4_canBeSent_34 rfl (by decide) (fun h_34 => ?_) (fun h_34 => ?_)
      · refine X_iconst (pc' := 42) (v := nI 0) dX4_canBeSent_41 rfl (by decide) ?_
        refine X_rz dX4_canBeSent_42 rfl (rfl) ⟨rfl, rfl⟩ ?_
        refine ⟨rfl, ?_⟩
        first
          | exact (zI_f (fun q => (zI_0.mp h_9) q.1)).symm
          | exact (zI_f (fun q => by have := q.2.2.1; rw [hj2] at this; exact this (zI_1 h_20))).symm
          | exact (zI_f (fun q => nI_ge q.2.2.2 (by omega) h_34)).symm
          | exact (zI_t ⟨hkn, by rw [hj2]; exact hj, by rw [hj2]; exact fun q => h_20 (fun e => (zI_0.mp e) q), by rw [nI_leI (by omega) (by omega)] at h_34; omega⟩).symm
          | exact (zI_t ⟨hkn, by rw [hj2]; exact hj, by rw [hj2]; exact zI_0.mp h_20, by rw [nI_leI (by omega) (by omega)] at h_34; omega⟩).symm
      · refine X_iconst (pc' := 38) (v := nI 1) dX4_canBeSent_37 rfl (by decide) ?_
        refine X_goto (pc' := 0) (tgt := 42) dX4_canBeSent_38 (by decide) ?_
        refine X_rz dX4_canBeSent_42 rfl (rfl) ⟨rfl, rfl⟩ ?_
        refine ⟨rfl, ?_⟩
        first
          | exact (zI_f (fun q => (zI_0.mp h_9) q.1)).symm
          | exact (zI_f (fun q => by have := q.2.2.1; rw [hj2] at this; exact this (zI_1 h_20))).symm
          | exact (zI_f (fun q => nI_ge q.2.2.2 (by omega) h_34)).symm
          | exact (zI_t ⟨hkn, by rw [hj2]; exact hj, by rw [hj2]; exact fun q => h_20 (fun e => (zI_0.mp e) q), by rw [nI_leI (by omega) (by omega)] at h_34; omega⟩).symm
          | exact (zI_t ⟨hkn, by rw [hj2]; exact hj, by rw [hj2]; exact zI_0.mp h_20, by rw [nI_leI (by omega) (by omega)] at h_34; omega⟩).symm
theorem c_putSent (τ : xT) {P : PT} {s : SN} {m k : Nat} (hk : k ∈ stW) (h : TR τ 8 P) (hs : SR τ k (pn P) s) (hP : Pok P) (ho : Sok P m s) (hm : m < 9000) {j : Nat} (hj : j < pn P) : CI cx m_X4_putSent [.ref 1, .ref k, .int (nI j)] PW τ (fun x τ' => (xeq [k] τ τ' ∧ SR τ' k (pn P) (sendS P s j)) ∧ x = nI (price P s j)) := by
  obtain ⟨p0, p1, p2, p3, p4, p5, p6⟩ := id hs
  have hn6 := hP.1
  have h26 := two6 hP
  obtain ⟨o0, o1, o2, o3, o4, o5, o6⟩ := id ho
  have h2j : 2 ^ j < 2 ^ pn P := pow_lt hj
  refine Ct_of (by decide) (Nat.le_of_ble_eq_true rfl) (lv := [(0, _), (1, _), (2, _)]) rfl ?_
  refine X_aload_n (i := 1) (pc' := 1) dX4_putSent_0 rfl rfl rfl ?_
  refine X_ifnonnull (pc' := 0) (tgt := 6) dX4_putSent_1 (by decide) ?_
  refine X_aload_n (i := 0) (pc' := 7) dX4_putSent_6 rfl rfl rfl ?_
  refine X_get (pc' := 10) (v := .ref 8) dX4_putSent_7 rfl (gf_X4_23 _ rfl) o_W_1 rfl rfl ?_
  refine X_aload_n (i := 1) (pc' := 11) dX4_putSent_10 rfl rfl rfl ?_
  refine X_iload_n (i := 2) (pc' := 12) dX4_putSent_11 rfl rfl rfl ?_
  refine X_iconst (pc' := 13) (v := nI 0) dX4_putSent_12 rfl (by decide) ?_
  refine X_aload_n (i := 1) (pc' := 14) dX4_putSent_13 rfl rfl rfl ?_
  refine X_get (pc' := 17) (v := .int _) dX4_putSent_14 rfl (gf_X4_98 _ rfl) (st_o hk) rfl rfl ?_
  refine X_eqi (nI (sSt s)) (p1) ?_
  refine X_OIp (As := [_, _, _, _]) (rest := []) (pc' := 20) dX4_putSent_17 rfl k_X3_costIn l_X4_111 v_X3_costIn o_W_8 rfl ⟨by decide, by decide⟩ rfl rfl (Nat.le_of_ble_eq_true rfl) (c_costIn cx τ hP h hk hs ho (by omega) hj (by decide) (by omega)) ?_
  refine X_eqi (nI (price P s j)) (by rw [costIn_0 ho hj]) ?_
  refine X_istore_n (i := 3) (pc' := 21) (lv' := [(3, _), (0, _), (1, _), (2, _)]) dX4_putSent_20 rfl rfl (Nat.le_of_ble_eq_true rfl) rfl ?_
  refine X_aload_n (i := 1) (pc' := 22) dX4_putSent_21 rfl rfl rfl ?_
  refine X_dup (pc' := 23) dX4_putSent_22 rfl rfl ?_
  refine X_get (pc' := 26) (v := .int _) dX4_putSent_23 rfl (gf_X4_98 _ rfl) (st_o hk) rfl rfl ?_
  refine X_eqi (nI (sSt s)) (p1) ?_
  refine X_iload_n (i := 2) (pc' := 27) dX4_putSent_26 rfl rfl rfl ?_
  refine X_SIp (As := [_]) (rest := [_, _]) (pc' := 30) dX4_putSent_27 rfl k_X4_bit l_X4_137 s_X4_bit ⟨by decide, by decide⟩ rfl rfl (Nat.le_of_ble_eq_true rfl) (c_X4_bit cx τ j (by omega)) ?_
  refine X_ior (pc' := 31) dX4_putSent_30 rfl ?_
  refine X_eqi (nI (sSt s ||| 2 ^ j)) (nI_or (by omega) (by omega)) ?_
  refine X_putI (pc' := 34) dX4_putSent_31 rfl (pf_X4_98 _ rfl) (st_o hk) rfl ?_
  refine X_aload_n (i := 1) (pc' := 35) dX4_putSent_34 rfl rfl rfl ?_
  refine X_dup (pc' := 36) dX4_putSent_35 rfl rfl ?_
  refine X_get (pc' := 39) (v := .int _) dX4_putSent_36 rfl (gf_X4_220 _ rfl) (st_o hk) rfl rfl ?_
  refine X_eqi (nI (sTd s)) (by simp [xsi, upd, p2]) ?_
  refine X_iconst (pc' := 40) (v := nI 1) dX4_putSent_39 rfl (by decide) ?_
  refine X_iadd (pc' := 41) dX4_putSent_40 rfl ?_
  refine X_eqi (nI (sTd s + 1)) (nI_add _ _) ?_
  refine X_putI (pc' := 44) dX4_putSent_41 rfl (pf_X4_220 _ rfl) (st_o hk) rfl ?_
  refine X_aload_n (i := 1) (pc' := 45) dX4_putSent_44 rfl rfl rfl ?_
  refine X_dup (pc' := 46) dX4_putSent_45 rfl rfl ?_
  refine X_get (pc' := 49) (v := .int _) dX4_putSent_46 rfl (gf_X4_169 _ rfl) (st_o hk) rfl rfl ?_
  refine X_eqi (nI (sPd s)) (by simp [xsi, upd, p4]) ?_
  refine X_iload_n (i := 3) (pc' := 50) dX4_putSent_49 rfl rfl rfl ?_
  refine X_iadd (pc' := 51) dX4_putSent_50 rfl ?_
  refine X_eqi (nI (sPd s + price P s j)) (nI_add _ _) ?_
  refine X_putI (pc' := 54) dX4_putSent_51 rfl (pf_X4_169 _ rfl) (st_o hk) rfl ?_
  refine X_iload_n (i := 3) (pc' := 55) dX4_putSent_54 rfl rfl rfl ?_
  refine X_ri dX4_putSent_55 rfl ⟨rfl, rfl⟩ ?_
  refine ⟨⟨((xeq.rf.si (by simp)).si (by simp)).si (by simp), ?_⟩, rfl⟩
  refine ⟨by simp [xsi, upd, p0, sendS], by simp [xsi, upd, sendS], by simp [xsi, upd, sendS], by simp [xsi, upd, p3, sendS], by simp [xsi, upd, sendS], fun i hi => ?_, fun i hi => ?_⟩
  · rw [xsi_ne _ _ _ (by omega), xsi_ne _ _ _ (by omega), xsi_ne _ _ _ (by omega)]; exact p5 i hi
  · rw [xsi_ne _ _ _ (by omega), xsi_ne _ _ _ (by omega), xsi_ne _ _ _ (by omega)]; exact p6 i hi
def sumU (P : PT) (s : SN) : Nat → Nat | 0 => 0 | k + 1 => sumU P s k + if bt (sSt s) k then 0 else price P s k
theorem sumU_le {P : PT} {s : SN} {m : Nat} (ho : Sok P m s) : ∀ k, k ≤ pn P → sumU P s k ≤ 594 * k := by
  intro k
  induction k with
  | zero => intro _; exact Nat.le_refl _
  | succ k ih =>
    intro hk
    have h1 := ih (by omega)
    have h2 := price_le ho (k := k) (by omega)
    show sumU P s k + (if bt (sSt s) k then 0 else price P s k) ≤ 594 * (k + 1)
    split <;> omega
theorem c_costOfUnsent (τ : xT) {P : PT} {s : SN} {m : Nat} (h : Qw τ P s m) : CI cx m_X4_costOfUnsent [.ref 1] PW τ (fun x τ' => τ' = τ ∧ x = nI (sumU P s (pn P))) := by
  obtain ⟨hT, hs, hP, ho, hm⟩ := h
  obtain ⟨q0, q1, q2, q3, q4⟩ := id hT
  obtain ⟨p0, p1, p2, p3, p4, p5, p6⟩ := id hs
  have hn6 := hP.1
  have h26 := two6 hP
  have hst := ho.2.1
  refine Ct_of (by decide) (Nat.le_of_ble_eq_true rfl) (lv := [(0, _)]) rfl ?_
  have hl : ∀ (j : Nat) (τ' : xT), j ≤ pn P → τ' = τ → X cx m_X4_costOfUnsent PW (qI PW (fun x τ' => τ' = τ ∧ x = nI (sumU P s (pn P)))) 4 [(2, .int (nI j)), (1, .int (nI (sumU P s j))), (0, .ref 1)] [] PW τ' := by
    refine xloop _ _ (pn P) (fun τ' h => ?_) (fun j τ' hj h ih => ?_)
    · subst h
      refine X_iload_n (i := 2) (pc' := 5) dX4_costOfUnsent_4 rfl rfl rfl ?_
      refine X_aload_n (i := 0) (pc' := 6) dX4_costOfUnsent_5 rfl rfl rfl ?_
      refine X_get (pc' := 9) (v := .ref 8) dX4_costOfUnsent_6 rfl (gf_X4_23 _ rfl) o_W_1 rfl rfl ?_
      refine X_get (pc' := 12) (v := .int _) dX4_costOfUnsent_9 rfl (gf_X4_78 _ rfl) o_W_8 rfl rfl ?_
      refine X_eqi (nI (pn P)) (q2) ?_
      refine X_icmp_ge (pc' := 15) (tgt := 58) dX4_costOfUnsent_12 rfl (by decide) (fun h_12 => ?_) (fun h_12 => absurd (nI_le (Nat.le_refl _) (by omega)) h_12)
      refine X_iload_n (i := 1) (pc' := 59) dX4_costOfUnsent_58 rfl rfl rfl ?_
      refine X_ri dX4_costOfUnsent_59 rfl ⟨rfl, rfl⟩ ?_
      exact ⟨rfl, rfl⟩
    · subst h
      have hb := sumU_le ho j (by omega)
      have hb2 := price_le ho hj
      refine X_iload_n (i := 2) (pc' := 5) dX4_costOfUnsent_4 rfl rfl rfl ?_
      refine X_aload_n (i := 0) (pc' := 6) dX4_costOfUnsent_5 rfl rfl rfl ?_
      refine X_get (pc' := 9) (v := .ref 8) dX4_costOfUnsent_6 rfl (gf_X4_23 _ rfl) o_W_1 rfl rfl ?_
      refine X_get (pc' := 12) (v := .int _) dX4_costOfUnsent_9 rfl (gf_X4_78 _ rfl) o_W_8 rfl rfl ?_
      refine X_eqi (nI (pn P)) (q2) ?_
      refine X_icmp_ge (pc' := 15) (tgt := 58) dX4_costOfUnsent_12 rfl (by decide) (fun h_12 => absurd h_12 (nI_ge hj (by omega))) (fun h_12 => ?_)
      refine X_aload_n (i := 0) (pc' := 16) dX4_costOfUnsent_15 rfl rfl rfl ?_
      refine X_get (pc' := 19) (v := .ref 12) dX4_costOfUnsent_16 rfl (gf_X4_30 _ rfl) o_W_1 rfl rfl ?_
      refine X_get (pc' := 22) (v := .int _) dX4_costOfUnsent_19 rfl (gf_X4_98 _ rfl) o_W_12 rfl rfl ?_
      refine X_eqi (nI (sSt s)) (p1) ?_
      refine X_iload_n (i := 2) (pc' := 23) dX4_costOfUnsent_22 rfl rfl rfl ?_
      refine X_SIp (As := [_, _]) (rest := []) (pc' := 26) dX4_costOfUnsent_23 rfl k_X4_has l_X4_101 s_X4_has ⟨by decide, by decide⟩ rfl rfl (Nat.le_of_ble_eq_true rfl) (c_X4_has cx τ' (sSt s) j (by omega) (by omega)) ?_
      refine X_if_ne (pc' := 29) (tgt := 52) dX4_costOfUnsent_26 rfl (by decide) (fun h_26 => ?_) (fun h_26 => ?_)
      · refine X_iinc (pc' := 55) (v := nI (j + 1)) (lv' := [(2, _), (1, _), (0, _)]) dX4_costOfUnsent_52 rfl rfl ((nI_succ j).symm) (Nat.le_of_ble_eq_true rfl) rfl ?_
        refine X_goto (pc' := 0) (tgt := 4) dX4_costOfUnsent_55 (by decide) ?_
        first
          | (have hs1 : sumU P s (j + 1) = sumU P s j + price P s j := by
              show sumU P s j + (if bt (sSt s) j then 0 else price P s j) = _
              rw [if_neg (zI_0.mp h_26)]
             have := ih τ' rfl
             rw [hs1] at this
             exact X_lv _ (by simp) this)
          | (have hs1 : sumU P s (j + 1) = sumU P s j := by
              show sumU P s j + (if bt (sSt s) j then 0 else price P s j) = _
              rw [if_pos (zI_1 h_26)]; rfl
             have := ih τ' rfl
             rw [hs1] at this
             exact X_lv _ (by simp) this)
      · refine X_iload_n (i := 1) (pc' := 30) dX4_costOfUnsent_29 rfl rfl rfl ?_
        refine X_aload_n (i := 0) (pc' := 31) dX4_costOfUnsent_30 rfl rfl rfl ?_
        refine X_get (pc' := 34) (v := .ref 8) dX4_costOfUnsent_31 rfl (gf_X4_23 _ rfl) o_W_1 rfl rfl ?_
        refine X_aload_n (i := 0) (pc' := 35) dX4_costOfUnsent_34 rfl rfl rfl ?_
        refine X_get (pc' := 38) (v := .ref 12) dX4_costOfUnsent_35 rfl (gf_X4_30 _ rfl) o_W_1 rfl rfl ?_
        refine X_iload_n (i := 2) (pc' := 39) dX4_costOfUnsent_38 rfl rfl rfl ?_
        refine X_iconst (pc' := 40) (v := nI 0) dX4_costOfUnsent_39 rfl (by decide) ?_
        refine X_aload_n (i := 0) (pc' := 41) dX4_costOfUnsent_40 rfl rfl rfl ?_
        refine X_get (pc' := 44) (v := .ref 12) dX4_costOfUnsent_41 rfl (gf_X4_30 _ rfl) o_W_1 rfl rfl ?_
        refine X_get (pc' := 47) (v := .int _) dX4_costOfUnsent_44 rfl (gf_X4_98 _ rfl) o_W_12 rfl rfl ?_
        refine X_eqi (nI (sSt s)) (p1) ?_
        refine X_OIp (As := [_, _, _, _]) (rest := [_]) (pc' := 50) dX4_costOfUnsent_47 rfl k_X3_costIn l_X4_111 v_X3_costIn o_W_8 rfl ⟨by decide, by decide⟩ rfl rfl (Nat.le_of_ble_eq_true rfl) (c_costIn cx τ' hP hT (by decide) hs ho (by omega) hj (by decide) (by omega)) ?_
        refine X_eqi (nI (price P s j)) (by rw [costIn_0 ho hj]) ?_
        refine X_iadd (pc' := 51) dX4_costOfUnsent_50 rfl ?_
        refine X_eqi (nI (sumU P s j + price P s j)) (nI_add _ _) ?_
        refine X_istore_n (i := 1) (pc' := 52) (lv' := [(1, _), (2, _), (0, _)]) dX4_costOfUnsent_51 rfl rfl (Nat.le_of_ble_eq_true rfl) rfl ?_
        refine X_iinc (pc' := 55) (v := nI (j + 1)) (lv' := [(2, _), (1, _), (0, _)]) dX4_costOfUnsent_52 rfl rfl ((nI_succ j).symm) (Nat.le_of_ble_eq_true rfl) rfl ?_
        refine X_goto (pc' := 0) (tgt := 4) dX4_costOfUnsent_55 (by decide) ?_
        first
          | (have hs1 : sumU P s (j + 1) = sumU P s j + price P s j := by
              show sumU P s j + (if bt (sSt s) j then 0 else price P s j) = _
              rw [if_neg (zI_0.mp h_26)]
             have := ih τ' rfl
             rw [hs1] at this
             exact X_lv _ (by simp) this)
          | (have hs1 : sumU P s (j + 1) = sumU P s j := by
              show sumU P s j + (if bt (sSt s) j then 0 else price P s j) = _
              rw [if_pos (zI_1 h_26)]; rfl
             have := ih τ' rfl
             rw [hs1] at this
             exact X_lv _ (by simp) this)
  refine X_iconst (pc' := 1) (v := nI 0) dX4_costOfUnsent_0 rfl (by decide) ?_
  refine X_istore_n (i := 1) (pc' := 2) (lv' := [(1, _), (0, _)]) dX4_costOfUnsent_1 rfl rfl (Nat.le_of_ble_eq_true rfl) rfl ?_
  refine X_iconst (pc' := 3) (v := nI 0) dX4_costOfUnsent_2 rfl (by decide) ?_
  refine X_istore_n (i := 2) (pc' := 4) (lv' := [(2, _), (1, _), (0, _)]) dX4_costOfUnsent_3 rfl rfl (Nat.le_of_ble_eq_true rfl) rfl ?_
  exact X_lv _ (by simp [sumU]) (hl 0 τ (by omega) rfl)
end C1
