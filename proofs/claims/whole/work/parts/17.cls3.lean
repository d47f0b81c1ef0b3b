/-! ===== waits, who ===== -/
theorem zI_nI (p : Prop) [Decidable p] : zI p = nI (if p then 1 else 0) := by unfold zI; split <;> rfl
section C3
variable (cx : xC)
set_option maxHeartbeats 4000000
set_option maxRecDepth 100000
theorem l_waits (τ : xT) {P : PT} {s : SN} {m : Nat} (h : Qw τ P s m) {k : Nat} (hk : k < pn P) (p : Int32) : ∀ (j : Nat) (τ' : xT), j ≤ 10 → τ' = τ → X cx m_X4_waits PW (qI PW (fun x τ' => τ' = τ ∧ x = nI (waitsN P s k p 10))) 42 [(4, .int (nI j)), (3, .int (nI (waitsN P s k p j))), (0, .ref 1), (1, .int (nI k)), (2, .int p)] [] PW τ' := by
  obtain ⟨hT, hs, hP, ho, hm⟩ := h
  obtain ⟨p0, p1, p2, p3, p4, p5, p6⟩ := id hs
  have hn6 := hP.1
  have h26 := two6 hP
  have hst := ho.2.1
  have htn := ho.2.2.2.1
  have hdy := ho.1
  refine xloop _ _ 10 (fun τ' h => ?_) (fun j τ' hj h ih => ?_)
  · subst h
    refine X_iload (pc' := 44) dX4_waits_42 rfl rfl ?_
    refine X_bipush (pc' := 46) (v := nI 9) dX4_waits_44 rfl (by decide) ?_
    refine X_icmp_gt (pc' := 49) (tgt := 102) dX4_waits_46 rfl (by decide) (fun h_46 => ?_) (fun h_46 => absurd (nI_lt (by decide) (by decide)) h_46)
    refine X_iload_n (i := 3) (pc' := 103) dX4_waits_102 rfl rfl rfl ?_
    refine X_ri dX4_waits_103 rfl ⟨rfl, rfl⟩ ?_
    exact ⟨rfl, rfl⟩
  · subst h
    have b1 := waitsN_lt P s k p j
    have b2 : 2 ^ j ≤ 2 ^ 10 := Nat.pow_le_pow_right (by decide) (by omega)
    refine X_iload (pc' := 44) dX4_waits_42 rfl rfl ?_
    refine X_bipush (pc' := 46) (v := nI 9) dX4_waits_44 rfl (by decide) ?_
    refine X_icmp_gt (pc' := 49) (tgt := 102) dX4_waits_46 rfl (by decide) (fun h_46 => absurd h_46 (nI_nlt (by omega) (by decide))) (fun h_46 => ?_)
    refine X_aload_n (i := 0) (pc' := 50) dX4_waits_49 rfl rfl rfl ?_
    refine X_get (pc' := 53) (v := .ref 8) dX4_waits_50 rfl (gf_X4_23 _ rfl) o_W_1 rfl rfl ?_
    refine X_iload_n (i := 1) (pc' := 54) dX4_waits_53 rfl rfl rfl ?_
    refine X_iload (pc' := 56) dX4_waits_54 rfl rfl ?_
    refine X_aload_n (i := 0) (pc' := 57) dX4_waits_56 rfl rfl rfl ?_
    refine X_get (pc' := 60) (v := .ref 12) dX4_waits_57 rfl (gf_X4_30 _ rfl) o_W_1 rfl rfl ?_
    refine X_get (pc' := 63) (v := .int _) dX4_waits_60 rfl (gf_X4_105 _ rfl) o_W_12 rfl rfl ?_
    refine X_eqi (nI (sTn s)) (p3) ?_
    refine X_iload_n (i := 1) (pc' := 64) dX4_waits_63 rfl rfl rfl ?_
    refine X_SIp (As := [_, _]) (rest := [_, _, _]) (pc' := 67) dX4_waits_64 rfl k_X4_has l_X4_101 s_X4_has ⟨by decide, by decide⟩ rfl rfl (Nat.le_of_ble_eq_true rfl) (c_X4_has cx τ' (sTn s) k (by omega) (by omega)) ?_
    refine X_aload_n (i := 0) (pc' := 68) dX4_waits_67 rfl rfl rfl ?_
    refine X_get (pc' := 71) (v := .ref 12) dX4_waits_68 rfl (gf_X4_30 _ rfl) o_W_1 rfl rfl ?_
    refine X_get (pc' := 74) (v := .int _) dX4_waits_71 rfl (gf_X4_98 _ rfl) o_W_12 rfl rfl ?_
    refine X_eqi (nI (sSt s)) (p1) ?_
    refine X_aload_n (i := 0) (pc' := 75) dX4_waits_74 rfl rfl rfl ?_
    refine X_get (pc' := 78) (v := .ref 12) dX4_waits_75 rfl (gf_X4_30 _ rfl) o_W_1 rfl rfl ?_
    refine X_get (pc' := 81) (v := .int _) dX4_waits_78 rfl (gf_X4_130 _ rfl) o_W_12 rfl rfl ?_
    refine X_eqi (nI (sDy s)) (p0) ?_
    refine X_OIp (As := [_, _, _, _, _]) (rest := []) (pc' := 84) dX4_waits_81 rfl k_X3_costOf l_X4_175 v_X3_costOf o_W_8 rfl ⟨by decide, by decide⟩ rfl rfl (Nat.le_of_ble_eq_true rfl) (c_costOf cx τ' hP hT hk (by omega) (by omega) (by omega)) ?_
    refine X_iload_n (i := 2) (pc' := 85) dX4_waits_84 rfl rfl rfl ?_
    refine X_icmp_ne (pc' := 88) (tgt := 96) dX4_waits_85 rfl (by decide) (fun h_85 => ?_) (fun h_85 => ?_)
    · refine X_iinc (pc' := 99) (v := nI (j + 1)) (lv' := [(4, _), (3, _), (0, _), (1, _), (2, _)]) dX4_waits_96 rfl rfl ((nI_succ j).symm) (Nat.le_of_ble_eq_true rfl) rfl ?_
      refine X_goto (pc' := 0) (tgt := 42) dX4_waits_99 (by decide) ?_
      have hb : waitsN P s k p (j + 1) = waitsN P s k p j ||| (if nI (cost P k j (bt (sTn s) k) (ones (px P k &&& sSt s)) (sDy s)) = p then 2 ^ j else 0) := rfl
      have := ih τ' rfl
      first
        | (rw [hb, if_neg h_85, Nat.or_zero] at this
           exact X_lv _ (by simp) this)
        | (rw [hb, if_pos h_85] at this
           exact X_lv _ (by simp) this)
    · refine X_iload_n (i := 3) (pc' := 89) dX4_waits_88 rfl rfl rfl ?_
      refine X_iload (pc' := 91) dX4_waits_89 rfl rfl ?_
      refine X_SIp (As := [_]) (rest := [_]) (pc' := 94) dX4_waits_91 rfl k_X4_bit l_X4_137 s_X4_bit ⟨by decide, by decide⟩ rfl rfl (Nat.le_of_ble_eq_true rfl) (c_X4_bit cx τ' j (by omega)) ?_
      refine X_ior (pc' := 95) dX4_waits_94 rfl ?_
      refine X_eqi (nI (waitsN P s k p j ||| 2 ^ j)) (nI_or (by omega) (by omega)) ?_
      refine X_istore_n (i := 3) (pc' := 96) (lv' := [(3, _), (4, _), (0, _), (1, _), (2, _)]) dX4_waits_95 rfl rfl (Nat.le_of_ble_eq_true rfl) rfl ?_
      refine X_iinc (pc' := 99) (v := nI (j + 1)) (lv' := [(4, _), (3, _), (0, _), (1, _), (2, _)]) dX4_waits_96 rfl rfl ((nI_succ j).symm) (Nat.le_of_ble_eq_true rfl) rfl ?_
      refine X_goto (pc' := 0) (tgt := 42) dX4_waits_99 (by decide) ?_
      have hb : waitsN P s k p (j + 1) = waitsN P s k p j ||| (if nI (cost P k j (bt (sTn s) k) (ones (px P k &&& sSt s)) (sDy s)) = p then 2 ^ j else 0) := rfl
      have := ih τ' rfl
      first
        | (rw [hb, if_neg h_85, Nat.or_zero] at this
           exact X_lv _ (by simp) this)
        | (rw [hb, if_pos h_85] at this
           exact X_lv _ (by simp) this)
theorem c_waits (τ : xT) {P : PT} {s : SN} {m : Nat} (h : Qw τ P s m) (l p : Int32) : CI cx m_X4_waits [.ref 1, .int l, .int p] PW τ (fun x τ' => τ' = τ ∧ x = waitsF P s l p) := by
  obtain ⟨hT, hs, hP, ho, hm⟩ := id h
  obtain ⟨p0, p1, p2, p3, p4, p5, p6⟩ := id hs
  have hn6 := hP.1
  have h26 := two6 hP
  have hst := ho.2.1
  refine Ct_of (by decide) (Nat.le_of_ble_eq_true rfl) (lv := [(0, _), (1, _), (2, _)]) rfl ?_
  refine X_aload_n (i := 0) (pc' := 1) dX4_waits_0 rfl rfl rfl ?_
  refine X_iload_n (i := 1) (pc' := 2) dX4_waits_1 rfl rfl rfl ?_
  refine X_OIp (As := [_]) (rest := []) (pc' := 5) dX4_waits_2 rfl k_X4_known l_X4_81 v_X4_known o_W_1 rfl ⟨by decide, by decide⟩ rfl rfl (Nat.le_of_ble_eq_true rfl) (c_known cx τ hP hT l) ?_
  refine X_if_ne (pc' := 8) (tgt := 10) dX4_waits_5 rfl (by decide) (fun h_5 => ?_) (fun h_5 => ?_)
  · obtain ⟨k, hk, rfl⟩ := kn_of (zI_1 h_5)
    rw [waitsF, onL_in hP hk]
    refine X_iload_n (i := 2) (pc' := 11) dX4_waits_10 rfl rfl rfl ?_
    refine X_SIp (As := [_]) (rest := []) (pc' := 14) dX4_waits_11 rfl k_X4_isCost l_X4_172 s_X4_isCost ⟨by decide, by decide⟩ rfl rfl (Nat.le_of_ble_eq_true rfl) (c_X4_isCost cx τ p) ?_
    refine X_if_ne (pc' := 17) (tgt := 20) dX4_waits_14 rfl (by decide) (fun h_14 => ?_) (fun h_14 => ?_)
    · rw [if_pos (zI_1 h_14)]
      refine X_aload_n (i := 0) (pc' := 21) dX4_waits_20 rfl rfl rfl ?_
      refine X_get (pc' := 24) (v := .ref 12) dX4_waits_21 rfl (gf_X4_30 _ rfl) o_W_1 rfl rfl ?_
      refine X_get (pc' := 27) (v := .int _) dX4_waits_24 rfl (gf_X4_98 _ rfl) o_W_12 rfl rfl ?_
      refine X_eqi (nI (sSt s)) (p1) ?_
      refine X_iload_n (i := 1) (pc' := 28) dX4_waits_27 rfl rfl rfl ?_
      refine X_SIp (As := [_, _]) (rest := []) (pc' := 31) dX4_waits_28 rfl k_X4_has l_X4_101 s_X4_has ⟨by decide, by decide⟩ rfl rfl (Nat.le_of_ble_eq_true rfl) (c_X4_has cx τ (sSt s) k (by omega) (by omega)) ?_
      refine X_if_eq (pc' := 34) (tgt := 37) dX4_waits_31 rfl (by decide) (fun h_31 => ?_) (fun h_31 => ?_)
      · refine X_iconst (pc' := 38) (v := nI 0) dX4_waits_37 rfl (by decide) ?_
        refine X_istore_n (i := 3) (pc' := 39) (lv' := [(3, _), (0, _), (1, _), (2, _)]) dX4_waits_38 rfl rfl (Nat.le_of_ble_eq_true rfl) rfl ?_
        refine X_iconst (pc' := 40) (v := nI 0) dX4_waits_39 rfl (by decide) ?_
        refine X_istore (pc' := 42) (lv' := [(4, _), (3, _), (0, _), (1, _), (2, _)]) dX4_waits_40 rfl (Nat.le_of_ble_eq_true rfl) rfl ?_
        rw [if_neg (zI_0.mp h_31)]
        exact X_lv _ (by simp [waitsN]) (l_waits cx τ h hk p 0 τ (by omega) rfl)
      · refine X_bipush (pc' := 36) (v := (-3)) dX4_waits_34 rfl (by decide) ?_
        refine X_ri dX4_waits_36 rfl ⟨rfl, rfl⟩ ?_
        exact ⟨rfl, (if_pos (zI_1 h_31)).symm⟩
    · refine X_bipush (pc' := 19) (v := (-2)) dX4_waits_17 rfl (by decide) ?_
      refine X_ri dX4_waits_19 rfl ⟨rfl, rfl⟩ ?_
      exact ⟨rfl, (if_neg (zI_0.mp h_14)).symm⟩
  · refine X_iconst (pc' := 9) (v := (-1)) dX4_waits_8 rfl (by decide) ?_
    refine X_ri dX4_waits_9 rfl ⟨rfl, rfl⟩ ?_
    exact ⟨rfl, (onL_out (zI_0.mp h_5)).symm⟩
theorem l_who (τ : xT) {P : PT} {s : SN} {m : Nat} (h : Qw τ P s m) {k : Nat} (hk : k < pn P) (p : Int32) {w : Nat} (hw : w ≤ 2) (hb : ¬ bt (sSt s) k) : ∀ (j : Nat) (τ' : xT), j ≤ 64 → τ' = τ → X cx m_X4_who PW (qI PW (fun x τ' => τ' = τ ∧ x = (if bt (sSt s) k then -3 else if w = 0 then nI (whoN P s k p 64).1 else if (whoN P s k p 64).1 = 0 then -9 else if w = 1 then nI (whoN P s k p 64).2.1 else nI (dif (px P k) (whoN P s k p 64).2.2)))) 72 [(8, .int (nI j)), (7, .int (nI (whoN P s k p j).2.2)), (6, .int (nI (whoN P s k p j).2.1)), (5, .int (nI (whoN P s k p j).1)), (4, .int (nI (px P k))), (0, .ref 1), (1, .int (nI k)), (2, .int p), (3, .int (nI w))] [] PW τ' := by
  obtain ⟨hT, hs, hP, ho, hm⟩ := h
  obtain ⟨p0, p1, p2, p3, p4, p5, p6⟩ := id hs
  have hn6 := hP.1
  have h26 := two6 hP
  have hst := ho.2.1
  have hxk := hP.2.2.2.2 k hk
  rw [if_neg hb]
  refine xloop _ _ 64 (fun τ' h => ?_) (fun j τ' hj h ih => ?_)
  · subst h
    have b1 := whoN_le hP s hk p 64 (Nat.le_refl _)
    refine X_iload (pc' := 74) dX4_who_72 rfl rfl ?_
    refine X_bipush (pc' := 76) (v := nI 64) dX4_who_74 rfl (by decide) ?_
    refine X_icmp_ge (pc' := 79) (tgt := 131) dX4_who_76 rfl (by decide) (fun h_76 => ?_) (fun h_76 => absurd (nI_le (Nat.le_refl _) (by decide)) h_76)
    refine X_iload_n (i := 3) (pc' := 132) dX4_who_131 rfl rfl rfl ?_
    refine X_if_ne (pc' := 135) (tgt := 138) dX4_who_132 rfl (by decide) (fun h_132 => ?_) (fun h_132 => ?_)
    · have hw0 : ¬ w = 0 := fun q => h_132 (by rw [q]; rfl)
      rw [if_neg hw0]
      refine X_iload (pc' := 140) dX4_who_138 rfl rfl ?_
      refine X_if_ne (pc' := 143) (tgt := 146) dX4_who_140 rfl (by decide) (fun h_140 => ?_) (fun h_140 => ?_)
      · have hn0 : ¬ (whoN P s k p 64).1 = 0 := fun q => h_140 (by rw [q]; rfl)
        rw [if_neg hn0]
        refine X_iload_n (i := 3) (pc' := 147) dX4_who_146 rfl rfl rfl ?_
        refine X_iconst (pc' := 148) (v := nI 1) dX4_who_147 rfl (by decide) ?_
        refine X_icmp_ne (pc' := 151) (tgt := 156) dX4_who_148 rfl (by decide) (fun h_148 => ?_) (fun h_148 => ?_)
        · refine X_iload (pc' := 158) dX4_who_156 rfl rfl ?_
          refine X_iload (pc' := 160) dX4_who_158 rfl rfl ?_
          refine X_iconst (pc' := 161) (v := (-1)) dX4_who_160 rfl (by decide) ?_
          refine X_ixor (pc' := 162) dX4_who_161 rfl ?_
          refine X_iand (pc' := 163) dX4_who_162 rfl ?_
          refine X_eqi (nI (dif (px P k) (whoN P s k p 64).2.2)) (dif_nI _ hxk _ b1.2.2) ?_
          refine X_ri dX4_who_163 rfl ⟨rfl, rfl⟩ ?_
          first
            | exact ⟨rfl, (if_neg (fun q => h_148 (by rw [q]))).symm⟩
            | exact ⟨rfl, (if_pos ((nI_eq (by omega) (by decide)).mp h_148)).symm⟩
        · refine X_iload (pc' := 153) dX4_who_151 rfl rfl ?_
          refine X_goto (pc' := 0) (tgt := 163) dX4_who_153 (by decide) ?_
          refine X_ri dX4_who_163 rfl ⟨rfl, rfl⟩ ?_
          first
            | exact ⟨rfl, (if_neg (fun q => h_148 (by rw [q]))).symm⟩
            | exact ⟨rfl, (if_pos ((nI_eq (by omega) (by decide)).mp h_148)).symm⟩
      · refine X_bipush (pc' := 145) (v := (-9)) dX4_who_143 rfl (by decide) ?_
        refine X_ri dX4_who_145 rfl ⟨rfl, rfl⟩ ?_
        have hn0 : (whoN P s k p 64).1 = 0 := (nI_eq (by omega) (by decide)).mp h_140
        exact ⟨rfl, (if_pos hn0).symm⟩
    · refine X_iload (pc' := 137) dX4_who_135 rfl rfl ?_
      refine X_ri dX4_who_137 rfl ⟨rfl, rfl⟩ ?_
      have hw0 : w = 0 := (nI_eq (by omega) (by decide)).mp h_132
      exact ⟨rfl, (if_pos hw0).symm⟩
  · subst h
    have b1 := whoN_le hP s hk p j (by omega)
    refine X_iload (pc' := 74) dX4_who_72 rfl rfl ?_
    refine X_bipush (pc' := 76) (v := nI 64) dX4_who_74 rfl (by decide) ?_
    refine X_icmp_ge (pc' := 79) (tgt := 131) dX4_who_76 rfl (by decide) (fun h_76 => absurd h_76 (nI_ge hj (by decide))) (fun h_76 => ?_)
    refine X_iload (pc' := 81) dX4_who_79 rfl rfl ?_
    refine X_iload (pc' := 83) dX4_who_81 rfl rfl ?_
    refine X_SIp (As := [_, _]) (rest := []) (pc' := 86) dX4_who_83 rfl k_X4_within l_X4_179 s_X4_within ⟨by decide, by decide⟩ rfl rfl (Nat.le_of_ble_eq_true rfl) (c_X4_within cx τ' j (px P k) hj hxk) ?_
    refine X_if_eq (pc' := 89) (tgt := 125) dX4_who_86 rfl (by decide) (fun h_86 => ?_) (fun h_86 => ?_)
    · refine X_iinc (pc' := 128) (v := nI (j + 1)) (lv' := [(8, _), (7, _), (6, _), (5, _), (4, _), (0, _), (1, _), (2, _), (3, _)]) dX4_who_125 rfl rfl ((nI_succ j).symm) (Nat.le_of_ble_eq_true rfl) rfl ?_
      refine X_goto (pc' := 0) (tgt := 72) dX4_who_128 (by decide) ?_
      have hb : whoN P s k p (j + 1) = if j &&& px P k = j ∧ nI (costW P s k j) = p then ((whoN P s k p j).1 + 1, (whoN P s k p j).2.1 &&& j, (whoN P s k p j).2.2 ||| j) else whoN P s k p j := rfl
      have := ih τ' rfl
      first
        | (rw [hb.trans (if_neg (fun q => (zI_0.mp h_86) q.1))] at this
           exact X_lv _ (by simp) this)
        | (rw [hb.trans (if_neg (fun q => h_105 q.2))] at this
           exact X_lv _ (by simp) this)
        | (rw [hb.trans (if_pos ⟨zI_1 h_86, h_105⟩)] at this
           exact X_lv _ (by simp) this)
    · refine X_aload_n (i := 0) (pc' := 90) dX4_who_89 rfl rfl rfl ?_
      refine X_get (pc' := 93) (v := .ref 8) dX4_who_90 rfl (gf_X4_23 _ rfl) o_W_1 rfl rfl ?_
      refine X_aload_n (i := 0) (pc' := 94) dX4_who_93 rfl rfl rfl ?_
      refine X_get (pc' := 97) (v := .ref 12) dX4_who_94 rfl (gf_X4_30 _ rfl) o_W_1 rfl rfl ?_
      refine X_iload_n (i := 1) (pc' := 98) dX4_who_97 rfl rfl rfl ?_
      refine X_iconst (pc' := 99) (v := nI 0) dX4_who_98 rfl (by decide) ?_
      refine X_iload (pc' := 101) dX4_who_99 rfl rfl ?_
      refine X_OIp (As := [_, _, _, _]) (rest := []) (pc' := 104) dX4_who_101 rfl k_X3_costIn l_X4_111 v_X3_costIn o_W_8 rfl ⟨by decide, by decide⟩ rfl rfl (Nat.le_of_ble_eq_true rfl) (c_costIn cx τ' hP hT (by decide) hs ho (by omega) hk (by decide) hj) ?_
      refine X_eqi (nI (costW P s k j)) (by rw [costW_in ho hk]) ?_
      refine X_iload_n (i := 2) (pc' := 105) dX4_who_104 rfl rfl rfl ?_
      refine X_icmp_ne (pc' := 108) (tgt := 125) dX4_who_105 rfl (by decide) (fun h_105 => ?_) (fun h_105 => ?_)
      · refine X_iinc (pc' := 128) (v := nI (j + 1)) (lv' := [(8, _), (7, _), (6, _), (5, _), (4, _), (0, _), (1, _), (2, _), (3, _)]) dX4_who_125 rfl rfl ((nI_succ j).symm) (Nat.le_of_ble_eq_true rfl) rfl ?_
        refine X_goto (pc' := 0) (tgt := 72) dX4_who_128 (by decide) ?_
        have hb : whoN P s k p (j + 1) = if j &&& px P k = j ∧ nI (costW P s k j) = p then ((whoN P s k p j).1 + 1, (whoN P s k p j).2.1 &&& j, (whoN P s k p j).2.2 ||| j) else whoN P s k p j := rfl
        have := ih τ' rfl
        first
          | (rw [hb.trans (if_neg (fun q => (zI_0.mp h_86) q.1))] at this
             exact X_lv _ (by simp) this)
          | (rw [hb.trans (if_neg (fun q => h_105 q.2))] at this
             exact X_lv _ (by simp) this)
          | (rw [hb.trans (if_pos ⟨zI_1 h_86, h_105⟩)] at this
             exact X_lv _ (by simp) this)
      · refine X_iinc (pc' := 111) (v := nI ((whoN P s k p j).1 + 1)) (lv' := [(5, _), (8, _), (7, _), (6, _), (4, _), (0, _), (1, _), (2, _), (3, _)]) dX4_who_108 rfl rfl ((nI_succ _).symm) (Nat.le_of_ble_eq_true rfl) rfl ?_
        refine X_iload (pc' := 113) dX4_who_111 rfl rfl ?_
        refine X_iload (pc' := 115) dX4_who_113 rfl rfl ?_
        refine X_iand (pc' := 116) dX4_who_115 rfl ?_
        refine X_eqi (nI ((whoN P s k p j).2.1 &&& j)) (nI_and (by omega) (by omega)) ?_
        refine X_istore (pc' := 118) (lv' := [(6, _), (5, _), (8, _), (7, _), (4, _), (0, _), (1, _), (2, _), (3, _)]) dX4_who_116 rfl (Nat.le_of_ble_eq_true rfl) rfl ?_
        refine X_iload (pc' := 120) dX4_who_118 rfl rfl ?_
        refine X_iload (pc' := 122) dX4_who_120 rfl rfl ?_
        refine X_ior (pc' := 123) dX4_who_122 rfl ?_
        refine X_eqi (nI ((whoN P s k p j).2.2 ||| j)) (nI_or (by omega) (by omega)) ?_
        refine X_istore (pc' := 125) (lv' := [(7, _), (6, _), (5, _), (8, _), (4, _), (0, _), (1, _), (2, _), (3, _)]) dX4_who_123 rfl (Nat.le_of_ble_eq_true rfl) rfl ?_
        refine X_iinc (pc' := 128) (v := nI (j + 1)) (lv' := [(8, _), (7, _), (6, _), (5, _), (4, _), (0, _), (1, _), (2, _), (3, _)]) dX4_who_125 rfl rfl ((nI_succ j).symm) (Nat.le_of_ble_eq_true rfl) rfl ?_
        refine X_goto (pc' := 0) (tgt := 72) dX4_who_128 (by decide) ?_
        have hb : whoN P s k p (j + 1) = if j &&& px P k = j ∧ nI (costW P s k j) = p then ((whoN P s k p j).1 + 1, (whoN P s k p j).2.1 &&& j, (whoN P s k p j).2.2 ||| j) else whoN P s k p j := rfl
        have := ih τ' rfl
        first
          | (rw [hb.trans (if_neg (fun q => (zI_0.mp h_86) q.1))] at this
             exact X_lv _ (by simp) this)
          | (rw [hb.trans (if_neg (fun q => h_105 q.2))] at this
             exact X_lv _ (by simp) this)
          | (rw [hb.trans (if_pos ⟨zI_1 h_86, h_105⟩)] at this
             exact X_lv _ (by simp) this)
theorem c_who (τ : xT) {P : PT} {s : SN} {m : Nat} (h : Qw τ P s m) (l p w : Int32) : CI cx m_X4_who [.ref 1, .int l, .int p, .int w] PW τ (fun x τ' => τ' = τ ∧ x = whoF P s l p w) := by
  obtain ⟨hT, hs, hP, ho, hm⟩ := id h
  obtain ⟨q0, q1, q2, q3, q4⟩ := id hT
  obtain ⟨p0, p1, p2, p3, p4, p5, p6⟩ := id hs
  have hn6 := hP.1
  have h26 := two6 hP
  have hst := ho.2.1
  refine Ct_of (by decide) (Nat.le_of_ble_eq_true rfl) (lv := [(0, _), (1, _), (2, _), (3, _)]) rfl ?_
  refine X_aload_n (i := 0) (pc' := 1) dX4_who_0 rfl rfl rfl ?_
  refine X_iload_n (i := 1) (pc' := 2) dX4_who_1 rfl rfl rfl ?_
  refine X_OIp (As := [_]) (rest := []) (pc' := 5) dX4_who_2 rfl k_X4_known l_X4_81 v_X4_known o_W_1 rfl ⟨by decide, by decide⟩ rfl rfl (Nat.le_of_ble_eq_true rfl) (c_known cx τ hP hT l) ?_
  refine X_if_ne (pc' := 8) (tgt := 10) dX4_who_5 rfl (by decide) (fun h_5 => ?_) (fun h_5 => ?_)
  · obtain ⟨k, hk, rfl⟩ := kn_of (zI_1 h_5)
    rw [whoF, onL_in hP hk]
    refine X_iload_n (i := 2) (pc' := 11) dX4_who_10 rfl rfl rfl ?_
    refine X_SIp (As := [_]) (rest := []) (pc' := 14) dX4_who_11 rfl k_X4_isCost l_X4_172 s_X4_isCost ⟨by decide, by decide⟩ rfl rfl (Nat.le_of_ble_eq_true rfl) (c_X4_isCost cx τ p) ?_
    refine X_if_eq (pc' := 17) (tgt := 26) dX4_who_14 rfl (by decide) (fun h_14 => ?_) (fun h_14 => ?_)
    · refine X_bipush (pc' := 28) (v := (-2)) dX4_who_26 rfl (by decide) ?_
      refine X_ri dX4_who_28 rfl ⟨rfl, rfl⟩ ?_
      refine ⟨rfl, ?_⟩
      by_cases hc : isC p
      · rw [if_pos hc]
        refine (swF_out ?_).symm
        simp only [lt0, leI (n := 2) (by decide), zI_0] at *
        omega
      · rw [if_neg hc]
    · refine X_iload_n (i := 3) (pc' := 18) dX4_who_17 rfl rfl rfl ?_
      refine X_if_lt (pc' := 21) (tgt := 26) dX4_who_18 rfl (by decide) (fun h_18 => ?_) (fun h_18 => ?_)
      · refine X_bipush (pc' := 28) (v := (-2)) dX4_who_26 rfl (by decide) ?_
        refine X_ri dX4_who_28 rfl ⟨rfl, rfl⟩ ?_
        refine ⟨rfl, ?_⟩
        by_cases hc : isC p
        · rw [if_pos hc]
          refine (swF_out ?_).symm
          simp only [lt0, leI (n := 2) (by decide), zI_0] at *
          omega
        · rw [if_neg hc]
      · refine X_iload_n (i := 3) (pc' := 22) dX4_who_21 rfl rfl rfl ?_
        refine X_iconst (pc' := 23) (v := nI 2) dX4_who_22 rfl (by decide) ?_
        refine X_icmp_le (pc' := 26) (tgt := 29) dX4_who_23 rfl (by decide) (fun h_23 => ?_) (fun h_23 => ?_)
        · rw [if_pos (zI_1 h_14)]
          obtain ⟨j, hj, rfl⟩ := xsw_of (x := w) (n := 2) (by simp only [lt0, leI (n := 2) (by decide)] at *; omega) (by decide)
          rw [swF_in hj (by decide)]
          refine X_aload_n (i := 0) (pc' := 30) dX4_who_29 rfl rfl rfl ?_
          refine X_get (pc' := 33) (v := .ref 12) dX4_who_30 rfl (gf_X4_30 _ rfl) o_W_1 rfl rfl ?_
          refine X_get (pc' := 36) (v := .int _) dX4_who_33 rfl (gf_X4_98 _ rfl) o_W_12 rfl rfl ?_
          refine X_eqi (nI (sSt s)) (p1) ?_
          refine X_iload_n (i := 1) (pc' := 37) dX4_who_36 rfl rfl rfl ?_
          refine X_SIp (As := [_, _]) (rest := []) (pc' := 40) dX4_who_37 rfl k_X4_has l_X4_101 s_X4_has ⟨by decide, by decide⟩ rfl rfl (Nat.le_of_ble_eq_true rfl) (c_X4_has cx τ (sSt s) k (by omega) (by omega)) ?_
          refine X_if_eq (pc' := 43) (tgt := 46) dX4_who_40 rfl (by decide) (fun h_40 => ?_) (fun h_40 => ?_)
          · refine X_aload_n (i := 0) (pc' := 47) dX4_who_46 rfl rfl rfl ?_
            refine X_get (pc' := 50) (v := .ref 8) dX4_who_47 rfl (gf_X4_23 _ rfl) o_W_1 rfl rfl ?_
            refine X_get (pc' := 53) (v := .ref 11) dX4_who_50 rfl (gf_X4_95 _ rfl) o_W_8 rfl rfl ?_
            refine X_iload_n (i := 1) (pc' := 54) dX4_who_53 rfl rfl rfl ?_
            refine X_SIp (As := [_, _]) (rest := []) (pc' := 57) dX4_who_54 rfl k_X4_at l_X4_88 s_X4_at ⟨by decide, by decide⟩ rfl rfl (Nat.le_of_ble_eq_true rfl) (c_at_in cx τ (Or.inl r_W_11) (show k < 6 by omega)) ?_
            refine X_eqi (nI (px P k)) (q4 k hk) ?_
            refine X_istore (pc' := 59) (lv' := [(4, _), (0, _), (1, _), (2, _), (3, _)]) dX4_who_57 rfl (Nat.le_of_ble_eq_true rfl) rfl ?_
            refine X_iconst (pc' := 60) (v := nI 0) dX4_who_59 rfl (by decide) ?_
            refine X_istore (pc' := 62) (lv' := [(5, _), (4, _), (0, _), (1, _), (2, _), (3, _)]) dX4_who_60 rfl (Nat.le_of_ble_eq_true rfl) rfl ?_
            refine X_iload (pc' := 64) dX4_who_62 rfl rfl ?_
            refine X_istore (pc' := 66) (lv' := [(6, _), (5, _), (4, _), (0, _), (1, _), (2, _), (3, _)]) dX4_who_64 rfl (Nat.le_of_ble_eq_true rfl) rfl ?_
            refine X_iconst (pc' := 67) (v := nI 0) dX4_who_66 rfl (by decide) ?_
            refine X_istore (pc' := 69) (lv' := [(7, _), (6, _), (5, _), (4, _), (0, _), (1, _), (2, _), (3, _)]) dX4_who_67 rfl (Nat.le_of_ble_eq_true rfl) rfl ?_
            refine X_iconst (pc' := 70) (v := nI 0) dX4_who_69 rfl (by decide) ?_
            refine X_istore (pc' := 72) (lv' := [(8, _), (7, _), (6, _), (5, _), (4, _), (0, _), (1, _), (2, _), (3, _)]) dX4_who_70 rfl (Nat.le_of_ble_eq_true rfl) rfl ?_
            exact X_lv _ (by simp [whoN]) (l_who cx τ h hk p hj (zI_0.mp h_40) 0 τ (by omega) rfl)
          · refine X_bipush (pc' := 45) (v := (-3)) dX4_who_43 rfl (by decide) ?_
            refine X_ri dX4_who_45 rfl ⟨rfl, rfl⟩ ?_
            exact ⟨rfl, (if_pos (zI_1 h_40)).symm⟩
        · refine X_bipush (pc' := 28) (v := (-2)) dX4_who_26 rfl (by decide) ?_
          refine X_ri dX4_who_28 rfl ⟨rfl, rfl⟩ ?_
          refine ⟨rfl, ?_⟩
          by_cases hc : isC p
          · rw [if_pos hc]
            refine (swF_out ?_).symm
            simp only [lt0, leI (n := 2) (by decide), zI_0] at *
            omega
          · rw [if_neg hc]
  · refine X_iconst (pc' := 9) (v := (-1)) dX4_who_8 rfl (by decide) ?_
    refine X_ri dX4_who_9 rfl ⟨rfl, rfl⟩ ?_
    exact ⟨rfl, (onL_out (zI_0.mp h_5)).symm⟩
end C3
