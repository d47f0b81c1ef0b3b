/-! ===== lost, rests ===== -/
section C6
variable (cx : xC)
set_option maxHeartbeats 4000000
set_option maxRecDepth 100000
theorem l_lost (τ : xT) {P : PT} {s : SN} {m : Nat} (h : Qw τ P s m) {k : Nat} (hk : k < pn P) (p : Int32) {x e : Nat} (hx : x ≤ 10) (he : e = px P k &&& sSt s) (u : Prop) [Decidable u] : ∀ (j : Nat) (τ' : xT), j ≤ 64 → τ' = τ → X cx m_X4_lost PW (qI PW (fun y τ' => τ' = τ ∧ y = fracF (lostN P s k p x e 64 : Nat) (10 ^ ones e) u)) 81 [(9, .int (nI j)), (7, .long (lN (lostN P s k p x e j))), (6, .int (nI (ones e))), (5, .int (nI e)), (0, .ref 1), (1, .int (nI k)), (2, .int p), (3, .int (nI x)), (4, .int (zI u))] [] PW τ' := by
  obtain ⟨hT, hs, hP, ho, hm⟩ := h
  have hn6 := hP.1
  have he6 : e < 64 := by rw [he]; exact and_lt64 (hP.2.2.2.2 k hk)
  have hoe := ones_le e
  refine xloop _ _ 64 (fun τ' h => ?_) (fun j τ' hj h ih => ?_)
  · subst h
    have b1 := lostN_le P s k p hx e 64
    have b2 := pw_le (x := 10) (n := ones e) (by decide) hoe
    have b3 : 0 < 10 ^ ones e := Nat.pow_pos (by decide)
    refine X_iload (pc' := 83) dX4_lost_81 rfl rfl ?_
    refine X_bipush (pc' := 85) (v := nI 64) dX4_lost_83 rfl (by decide) ?_
    refine X_icmp_ge (pc' := 88) (tgt := 159) dX4_lost_85 rfl (by decide) (fun h_85 => ?_) (fun h_85 => absurd (nI_le (Nat.le_refl _) (by decide)) h_85)
    refine X_lload (pc' := 161) dX4_lost_159 rfl rfl ?_
    refine X_bipush (pc' := 163) (v := nI 10) dX4_lost_161 rfl (by decide) ?_
    refine X_iload (pc' := 165) dX4_lost_163 rfl rfl ?_
    refine X_SLp (As := [_, _]) (rest := [_]) (pc' := 168) dX4_lost_165 rfl k_X4_power l_X4_202 s_X4_power ⟨by decide, by decide⟩ rfl rfl (Nat.le_of_ble_eq_true rfl) (c_power cx τ' 10 (ones e) (by decide) (by omega)) ?_
    refine X_iload (pc' := 170) dX4_lost_168 rfl rfl ?_
    rw [← lI_nat (lostN P s k p x e 64)]
    refine X_SIp (As := [_, _, _]) (rest := []) (pc' := 173) dX4_lost_170 rfl k_X4_fractionPart l_X4_182 s_X4_fractionPart ⟨by decide, by decide⟩ rfl rfl (Nat.le_of_ble_eq_true rfl) (c_frac cx τ' (lostN P s k p x e 64 : Nat) (10 ^ ones e) u (by omega) (by omega) b3 (by omega)) ?_
    refine X_ri dX4_lost_173 rfl ⟨rfl, rfl⟩ ?_
    exact ⟨rfl, rfl⟩
  · subst h
    have hoj := ones_le j
    refine X_iload (pc' := 83) dX4_lost_81 rfl rfl ?_
    refine X_bipush (pc' := 85) (v := nI 64) dX4_lost_83 rfl (by decide) ?_
    refine X_icmp_ge (pc' := 88) (tgt := 159) dX4_lost_85 rfl (by decide) (fun h_85 => absurd h_85 (nI_ge hj (by decide))) (fun h_85 => ?_)
    refine X_iload (pc' := 90) dX4_lost_88 rfl rfl ?_
    refine X_iload (pc' := 92) dX4_lost_90 rfl rfl ?_
    refine X_SIp (As := [_, _]) (rest := []) (pc' := 95) dX4_lost_92 rfl k_X4_within l_X4_179 s_X4_within ⟨by decide, by decide⟩ rfl rfl (Nat.le_of_ble_eq_true rfl) (c_X4_within cx τ' j e hj he6) ?_
    refine X_if_eq (pc' := 98) (tgt := 153) dX4_lost_95 rfl (by decide) (fun h_95 => ?_) (fun h_95 => ?_)
    · refine X_iinc (pc' := 156) (v := nI (j + 1)) (lv' := [(9, _), (7, _), (6, _), (5, _), (0, _), (1, _), (2, _), (3, _), (4, _)]) dX4_lost_153 rfl rfl ((nI_succ j).symm) (Nat.le_of_ble_eq_true rfl) rfl ?_
      refine X_goto (pc' := 0) (tgt := 81) dX4_lost_156 (by decide) ?_
      have hb : lostN P s k p x e (j + 1) = lostN P s k p x e j + (if j &&& e = j ∧ nI (costW P s k (dif e j)) ≤ p then x ^ ones j * (10 - x) ^ (ones e - ones j) else 0) := rfl
      have := ih τ' rfl
      first
        | (rw [hb.trans (by rw [if_neg (fun q => (zI_0.mp h_95) q.1)]; rfl : _ = lostN P s k p x e j)] at this
           exact X_lv _ (by simp) this)
        | (rw [hb.trans (by rw [if_neg (fun q => absurd q.2 (Int32.not_le.mpr h_119))]; rfl : _ = lostN P s k p x e j)] at this
           exact X_lv _ (by simp) this)
        | (rw [hb.trans (by rw [if_pos ⟨zI_1 h_95, Int32.not_lt.mp h_119⟩] : _ = lostN P s k p x e j + x ^ ones j * (10 - x) ^ (ones e - ones j))] at this
           exact X_lv _ (by simp) this)
    · refine X_aload_n (i := 0) (pc' := 99) dX4_lost_98 rfl rfl rfl ?_
      refine X_get (pc' := 102) (v := .ref 8) dX4_lost_99 rfl (gf_X4_23 _ rfl) o_W_1 rfl rfl ?_
      refine X_aload_n (i := 0) (pc' := 103) dX4_lost_102 rfl rfl rfl ?_
      refine X_get (pc' := 106) (v := .ref 12) dX4_lost_103 rfl (gf_X4_30 _ rfl) o_W_1 rfl rfl ?_
      refine X_iload_n (i := 1) (pc' := 107) dX4_lost_106 rfl rfl rfl ?_
      refine X_iconst (pc' := 108) (v := nI 0) dX4_lost_107 rfl (by decide) ?_
      refine X_iload (pc' := 110) dX4_lost_108 rfl rfl ?_
      refine X_iload (pc' := 112) dX4_lost_110 rfl rfl ?_
      refine X_iconst (pc' := 113) (v := (-1)) dX4_lost_112 rfl (by decide) ?_
      refine X_ixor (pc' := 114) dX4_lost_113 rfl ?_
      refine X_iand (pc' := 115) dX4_lost_114 rfl ?_
      refine X_eqi (nI (dif e j)) (dif_nI _ he6 _ hj) ?_
      refine X_OIp (As := [_, _, _, _]) (rest := []) (pc' := 118) dX4_lost_115 rfl k_X3_costIn l_X4_111 v_X3_costIn o_W_8 rfl ⟨by decide, by decide⟩ rfl rfl (Nat.le_of_ble_eq_true rfl) (c_costIn cx τ' hP hT (by decide) hs ho (by omega) hk (by decide) (dif_lt he6)) ?_
      refine X_eqi (nI (costW P s k (dif e j))) (by rw [costW_in ho hk]) ?_
      refine X_iload_n (i := 2) (pc' := 119) dX4_lost_118 rfl rfl rfl ?_
      refine X_icmp_gt (pc' := 122) (tgt := 153) dX4_lost_119 rfl (by decide) (fun h_119 => ?_) (fun h_119 => ?_)
      · refine X_iinc (pc' := 156) (v := nI (j + 1)) (lv' := [(9, _), (7, _), (6, _), (5, _), (0, _), (1, _), (2, _), (3, _), (4, _)]) dX4_lost_153 rfl rfl ((nI_succ j).symm) (Nat.le_of_ble_eq_true rfl) rfl ?_
        refine X_goto (pc' := 0) (tgt := 81) dX4_lost_156 (by decide) ?_
        have hb : lostN P s k p x e (j + 1) = lostN P s k p x e j + (if j &&& e = j ∧ nI (costW P s k (dif e j)) ≤ p then x ^ ones j * (10 - x) ^ (ones e - ones j) else 0) := rfl
        have := ih τ' rfl
        first
          | (rw [hb.trans (by rw [if_neg (fun q => (zI_0.mp h_95) q.1)]; rfl : _ = lostN P s k p x e j)] at this
             exact X_lv _ (by simp) this)
          | (rw [hb.trans (by rw [if_neg (fun q => absurd q.2 (Int32.not_le.mpr h_119))]; rfl : _ = lostN P s k p x e j)] at this
             exact X_lv _ (by simp) this)
          | (rw [hb.trans (by rw [if_pos ⟨zI_1 h_95, Int32.not_lt.mp h_119⟩] : _ = lostN P s k p x e j + x ^ ones j * (10 - x) ^ (ones e - ones j))] at this
             exact X_lv _ (by simp) this)
      · refine X_iload (pc' := 124) dX4_lost_122 rfl rfl ?_
        refine X_SIp (As := [_]) (rest := []) (pc' := 127) dX4_lost_124 rfl k_J6_bitCount_0f7a4 l_X4_186 s_J6_bitCount_0f7a4 ⟨by decide, by decide⟩ rfl rfl (Nat.le_of_ble_eq_true rfl) (c_bc cx τ' j hj) ?_
        refine X_istore (pc' := 129) (lv' := [(10, _), (9, _), (7, _), (6, _), (5, _), (0, _), (1, _), (2, _), (3, _), (4, _)]) dX4_lost_127 rfl (Nat.le_of_ble_eq_true rfl) rfl ?_
        refine X_lload (pc' := 131) dX4_lost_129 rfl rfl ?_
        refine X_iload_n (i := 3) (pc' := 132) dX4_lost_131 rfl rfl rfl ?_
        refine X_iload (pc' := 134) dX4_lost_132 rfl rfl ?_
        refine X_SLp (As := [_, _]) (rest := [_]) (pc' := 137) dX4_lost_134 rfl k_X4_power l_X4_202 s_X4_power ⟨by decide, by decide⟩ rfl rfl (Nat.le_of_ble_eq_true rfl) (c_power cx τ' x (ones j) (by omega) (by omega)) ?_
        refine X_bipush (pc' := 139) (v := nI 10) dX4_lost_137 rfl (by decide) ?_
        refine X_iload_n (i := 3) (pc' := 140) dX4_lost_139 rfl rfl rfl ?_
        refine X_isub (pc' := 141) dX4_lost_140 rfl ?_
        refine X_eqi (nI (10 - x)) (pk_sub hx) ?_
        have hsub := ones_sub j hj e he6 (zI_1 h_95)
        refine X_iload (pc' := 143) dX4_lost_141 rfl rfl ?_
        refine X_iload (pc' := 145) dX4_lost_143 rfl rfl ?_
        refine X_isub (pc' := 146) dX4_lost_145 rfl ?_
        refine X_eqi (nI (ones e - ones j)) (pk_sub hsub) ?_
        refine X_SLp (As := [_, _]) (rest := [_, _]) (pc' := 149) dX4_lost_146 rfl k_X4_power l_X4_202 s_X4_power ⟨by decide, by decide⟩ rfl rfl (Nat.le_of_ble_eq_true rfl) (c_power cx τ' (10 - x) (ones e - ones j) (by omega) (by omega)) ?_
        refine X_lmul (pc' := 150) dX4_lost_149 rfl ?_
        refine X_eql (lN (x ^ ones j * (10 - x) ^ (ones e - ones j))) (lN_mul _ _) ?_
        refine X_ladd (pc' := 151) dX4_lost_150 rfl ?_
        refine X_eql (lN (lostN P s k p x e j + x ^ ones j * (10 - x) ^ (ones e - ones j))) (lN_add _ _) ?_
        refine X_lstore (pc' := 153) (lv' := [(7, _), (10, _), (9, _), (6, _), (5, _), (0, _), (1, _), (2, _), (3, _), (4, _)]) dX4_lost_151 rfl (Nat.le_of_ble_eq_true rfl) rfl ?_
        refine X_iinc (pc' := 156) (v := nI (j + 1)) (lv' := [(9, _), (7, _), (10, _), (6, _), (5, _), (0, _), (1, _), (2, _), (3, _), (4, _)]) dX4_lost_153 rfl rfl ((nI_succ j).symm) (Nat.le_of_ble_eq_true rfl) rfl ?_
        refine X_goto (pc' := 0) (tgt := 81) dX4_lost_156 (by decide) ?_
        have hb : lostN P s k p x e (j + 1) = lostN P s k p x e j + (if j &&& e = j ∧ nI (costW P s k (dif e j)) ≤ p then x ^ ones j * (10 - x) ^ (ones e - ones j) else 0) := rfl
        have := ih τ' rfl
        first
          | (rw [hb.trans (by rw [if_neg (fun q => (zI_0.mp h_95) q.1)]; rfl : _ = lostN P s k p x e j)] at this
             exact X_lv _ (by simp) this)
          | (rw [hb.trans (by rw [if_neg (fun q => absurd q.2 (Int32.not_le.mpr h_119))]; rfl : _ = lostN P s k p x e j)] at this
             exact X_lv _ (by simp) this)
          | (rw [hb.trans (by rw [if_pos ⟨zI_1 h_95, Int32.not_lt.mp h_119⟩] : _ = lostN P s k p x e j + x ^ ones j * (10 - x) ^ (ones e - ones j))] at this
             exact X_lv _ (by simp) this)
theorem c_lost (τ : xT) {P : PT} {s : SN} {m : Nat} (h : Qw τ P s m) (l p x : Int32) (u : Prop) [Decidable u] : CI cx m_X4_lost [.ref 1, .int l, .int p, .int x, .int (zI u)] PW τ (fun y τ' => τ' = τ ∧ y = lostF P s l p x u) := by
  obtain ⟨hT, hs, hP, ho, hm⟩ := id h
  obtain ⟨q0, q1, q2, q3, q4⟩ := id hT
  obtain ⟨p0, p1, p2, p3, p4, p5, p6⟩ := id hs
  have hn6 := hP.1
  have h26 := two6 hP
  have hst := ho.2.1
  refine Ct_of (by decide) (Nat.le_of_ble_eq_true rfl) (lv := [(0, _), (1, _), (2, _), (3, _), (4, _)]) rfl ?_
  refine X_aload_n (i := 0) (pc' := 1) dX4_lost_0 rfl rfl rfl ?_
  refine X_iload_n (i := 1) (pc' := 2) dX4_lost_1 rfl rfl rfl ?_
  refine X_OIp (As := [_]) (rest := []) (pc' := 5) dX4_lost_2 rfl k_X4_known l_X4_81 v_X4_known o_W_1 rfl ⟨by decide, by decide⟩ rfl rfl (Nat.le_of_ble_eq_true rfl) (c_known cx τ hP hT l) ?_
  refine X_if_ne (pc' := 8) (tgt := 10) dX4_lost_5 rfl (by decide) (fun h_5 => ?_) (fun h_5 => ?_)
  · obtain ⟨k, hk, rfl⟩ := kn_of (zI_1 h_5)
    rw [lostF, onL_in hP hk]
    have hxk := hP.2.2.2.2 k hk
    refine X_iload_n (i := 2) (pc' := 11) dX4_lost_10 rfl rfl rfl ?_
    refine X_SIp (As := [_]) (rest := []) (pc' := 14) dX4_lost_11 rfl k_X4_isCost l_X4_172 s_X4_isCost ⟨by decide, by decide⟩ rfl rfl (Nat.le_of_ble_eq_true rfl) (c_X4_isCost cx τ p) ?_
    refine X_if_eq (pc' := 17) (tgt := 27) dX4_lost_14 rfl (by decide) (fun h_14 => ?_) (fun h_14 => ?_)
    · refine X_bipush (pc' := 29) (v := (-2)) dX4_lost_27 rfl (by decide) ?_
      refine X_ri dX4_lost_29 rfl ⟨rfl, rfl⟩ ?_
      refine ⟨rfl, ?_⟩
      by_cases hc : isC p
      · rw [if_pos hc]
        refine (swF_out ?_).symm
        simp only [lt0, leI (n := 10) (by decide), zI_0] at *
        omega
      · rw [if_neg hc]
    · refine X_iload_n (i := 3) (pc' := 18) dX4_lost_17 rfl rfl rfl ?_
      refine X_if_lt (pc' := 21) (tgt := 27) dX4_lost_18 rfl (by decide) (fun h_18 => ?_) (fun h_18 => ?_)
      · refine X_bipush (pc' := 29) (v := (-2)) dX4_lost_27 rfl (by decide) ?_
        refine X_ri dX4_lost_29 rfl ⟨rfl, rfl⟩ ?_
        refine ⟨rfl, ?_⟩
        by_cases hc : isC p
        · rw [if_pos hc]
          refine (swF_out ?_).symm
          simp only [lt0, leI (n := 10) (by decide), zI_0] at *
          omega
        · rw [if_neg hc]
      · refine X_iload_n (i := 3) (pc' := 22) dX4_lost_21 rfl rfl rfl ?_
        refine X_bipush (pc' := 24) (v := nI 10) dX4_lost_22 rfl (by decide) ?_
        refine X_icmp_le (pc' := 27) (tgt := 30) dX4_lost_24 rfl (by decide) (fun h_24 => ?_) (fun h_24 => ?_)
        · rw [if_pos (zI_1 h_14)]
          obtain ⟨v, hv, rfl⟩ := xsw_of (x := x) (n := 10) (by simp only [lt0, leI (n := 10) (by decide)] at *; omega) (by decide)
          rw [swF_in hv (by decide)]
          refine X_aload_n (i := 0) (pc' := 31) dX4_lost_30 rfl rfl rfl ?_
          refine X_get (pc' := 34) (v := .ref 12) dX4_lost_31 rfl (gf_X4_30 _ rfl) o_W_1 rfl rfl ?_
          refine X_get (pc' := 37) (v := .int _) dX4_lost_34 rfl (gf_X4_98 _ rfl) o_W_12 rfl rfl ?_
          refine X_eqi (nI (sSt s)) (p1) ?_
          refine X_iload_n (i := 1) (pc' := 38) dX4_lost_37 rfl rfl rfl ?_
          refine X_SIp (As := [_, _]) (rest := []) (pc' := 41) dX4_lost_38 rfl k_X4_has l_X4_101 s_X4_has ⟨by decide, by decide⟩ rfl rfl (Nat.le_of_ble_eq_true rfl) (c_X4_has cx τ (sSt s) k (by omega) (by omega)) ?_
          refine X_if_eq (pc' := 44) (tgt := 47) dX4_lost_41 rfl (by decide) (fun h_41 => ?_) (fun h_41 => ?_)
          · refine X_aload_n (i := 0) (pc' := 48) dX4_lost_47 rfl rfl rfl ?_
            refine X_get (pc' := 51) (v := .ref 8) dX4_lost_48 rfl (gf_X4_23 _ rfl) o_W_1 rfl rfl ?_
            refine X_get (pc' := 54) (v := .ref 11) dX4_lost_51 rfl (gf_X4_95 _ rfl) o_W_8 rfl rfl ?_
            refine X_iload_n (i := 1) (pc' := 55) dX4_lost_54 rfl rfl rfl ?_
            refine X_SIp (As := [_, _]) (rest := []) (pc' := 58) dX4_lost_55 rfl k_X4_at l_X4_88 s_X4_at ⟨by decide, by decide⟩ rfl rfl (Nat.le_of_ble_eq_true rfl) (c_at_in cx τ (Or.inl r_W_11) (show k < 6 by omega)) ?_
            refine X_eqi (nI (px P k)) (q4 k hk) ?_
            refine X_aload_n (i := 0) (pc' := 59) dX4_lost_58 rfl rfl rfl ?_
            refine X_get (pc' := 62) (v := .ref 12) dX4_lost_59 rfl (gf_X4_30 _ rfl) o_W_1 rfl rfl ?_
            refine X_get (pc' := 65) (v := .int _) dX4_lost_62 rfl (gf_X4_98 _ rfl) o_W_12 rfl rfl ?_
            refine X_eqi (nI (sSt s)) (p1) ?_
            refine X_iand (pc' := 66) dX4_lost_65 rfl ?_
            refine X_eqi (nI (px P k &&& sSt s)) (nI_and (by omega) (by omega)) ?_
            refine X_istore (pc' := 68) (lv' := [(5, _), (0, _), (1, _), (2, _), (3, _), (4, _)]) dX4_lost_66 rfl (Nat.le_of_ble_eq_true rfl) rfl ?_
            refine X_iload (pc' := 70) dX4_lost_68 rfl rfl ?_
            refine X_SIp (As := [_]) (rest := []) (pc' := 73) dX4_lost_70 rfl k_J6_bitCount_0f7a4 l_X4_186 s_J6_bitCount_0f7a4 ⟨by decide, by decide⟩ rfl rfl (Nat.le_of_ble_eq_true rfl) (c_bc cx τ (px P k &&& sSt s) (and_lt64 hxk)) ?_
            refine X_istore (pc' := 75) (lv' := [(6, _), (5, _), (0, _), (1, _), (2, _), (3, _), (4, _)]) dX4_lost_73 rfl (Nat.le_of_ble_eq_true rfl) rfl ?_
            refine X_lconst (pc' := 76) (v := lN 0) dX4_lost_75 rfl rfl ?_
            refine X_lstore (pc' := 78) (lv' := [(7, _), (6, _), (5, _), (0, _), (1, _), (2, _), (3, _), (4, _)]) dX4_lost_76 rfl (Nat.le_of_ble_eq_true rfl) rfl ?_
            refine X_iconst (pc' := 79) (v := nI 0) dX4_lost_78 rfl (by decide) ?_
            refine X_istore (pc' := 81) (lv' := [(9, _), (7, _), (6, _), (5, _), (0, _), (1, _), (2, _), (3, _), (4, _)]) dX4_lost_79 rfl (Nat.le_of_ble_eq_true rfl) rfl ?_
            rw [if_neg (zI_0.mp h_41)]
            exact X_lv _ (by simp [lostN]) (l_lost cx τ h hk p hv rfl u 0 τ (by omega) rfl)
          · refine X_bipush (pc' := 46) (v := (-3)) dX4_lost_44 rfl (by decide) ?_
            refine X_ri dX4_lost_46 rfl ⟨rfl, rfl⟩ ?_
            exact ⟨rfl, (if_pos (zI_1 h_41)).symm⟩
        · refine X_bipush (pc' := 29) (v := (-2)) dX4_lost_27 rfl (by decide) ?_
          refine X_ri dX4_lost_29 rfl ⟨rfl, rfl⟩ ?_
          refine ⟨rfl, ?_⟩
          by_cases hc : isC p
          · rw [if_pos hc]
            refine (swF_out ?_).symm
            simp only [lt0, leI (n := 10) (by decide), zI_0] at *
            omega
          · rw [if_neg hc]
  · refine X_iconst (pc' := 9) (v := (-1)) dX4_lost_8 rfl (by decide) ?_
    refine X_ri dX4_lost_9 rfl ⟨rfl, rfl⟩ ?_
    exact ⟨rfl, (onL_out (zI_0.mp h_5)).symm⟩
theorem c_costBeside (τ : xT) {P : PT} {s : SN} {m : Nat} (h : Qw τ P s m) {a n b d : Nat} (ha : a < pn P) (hb : b < pn P) (hn : n < 10) (hd : d < 10) : CI cx m_X4_costBeside [.ref 1, .int (nI a), .int (nI n), .int (nI b), .int (nI d)] PW τ (fun y τ' => τ' = τ ∧ y = nI (besN P s a n b d)) := by
  obtain ⟨hT, hs, hP, ho, hm⟩ := id h
  obtain ⟨p0, p1, p2, p3, p4, p5, p6⟩ := id hs
  have hn6 := hP.1
  have h26 := two6 hP
  have hst := ho.2.1
  have hbe := besN_le P s a n b d
  have h2b : 2 ^ b < 2 ^ 6 := pow_lt (by omega)
  have hor : sSt s ||| 2 ^ b < 2 ^ 6 := Nat.or_lt_two_pow (by omega) h2b
  have hse : (if d < n then sSt s ||| 2 ^ b else sSt s) < 64 := by split <;> omega
  refine Ct_of (by decide) (Nat.le_of_ble_eq_true rfl) (lv := [(0, _), (1, _), (2, _), (3, _), (4, _)]) rfl ?_
  refine X_iload (pc' := 2) dX4_costBeside_0 rfl rfl ?_
  refine X_iload_n (i := 2) (pc' := 3) dX4_costBeside_2 rfl rfl rfl ?_
  refine X_icmp_ge (pc' := 6) (tgt := 21) dX4_costBeside_3 rfl (by decide) (fun h_3 => ?_) (fun h_3 => ?_)
  · refine X_aload_n (i := 0) (pc' := 22) dX4_costBeside_21 rfl rfl rfl ?_
    refine X_get (pc' := 25) (v := .ref 12) dX4_costBeside_22 rfl (gf_X4_30 _ rfl) o_W_1 rfl rfl ?_
    refine X_get (pc' := 28) (v := .int _) dX4_costBeside_25 rfl (gf_X4_98 _ rfl) o_W_12 rfl rfl ?_
    refine X_eqi (nI (sSt s)) (p1) ?_
    refine X_eqi (nI (if d < n then sSt s ||| 2 ^ b else sSt s)) (by
      first
        | rw [if_pos ((nI_ltI (by omega) (by omega)).mp (Int32.not_le.mp h_3))]
        | rw [if_neg (fun q => nI_ge q (by omega) h_3)]) ?_
    refine X_istore (pc' := 30) (lv' := [(5, _), (0, _), (1, _), (2, _), (3, _), (4, _)]) dX4_costBeside_28 rfl (Nat.le_of_ble_eq_true rfl) rfl ?_
    refine X_aload_n (i := 0) (pc' := 31) dX4_costBeside_30 rfl rfl rfl ?_
    refine X_get (pc' := 34) (v := .ref 8) dX4_costBeside_31 rfl (gf_X4_23 _ rfl) o_W_1 rfl rfl ?_
    refine X_aload_n (i := 0) (pc' := 35) dX4_costBeside_34 rfl rfl rfl ?_
    refine X_get (pc' := 38) (v := .ref 12) dX4_costBeside_35 rfl (gf_X4_30 _ rfl) o_W_1 rfl rfl ?_
    refine X_iload_n (i := 1) (pc' := 39) dX4_costBeside_38 rfl rfl rfl ?_
    refine X_iload_n (i := 2) (pc' := 40) dX4_costBeside_39 rfl rfl rfl ?_
    refine X_iload (pc' := 42) dX4_costBeside_40 rfl rfl ?_
    refine X_OIp (As := [_, _, _, _]) (rest := []) (pc' := 45) dX4_costBeside_42 rfl k_X3_costIn l_X4_111 v_X3_costIn o_W_8 rfl ⟨by decide, by decide⟩ rfl rfl (Nat.le_of_ble_eq_true rfl) (c_costIn cx τ hP hT (by decide) hs ho (by omega) ha (by omega) hse) ?_
    refine X_istore (pc' := 47) (lv' := [(6, _), (5, _), (0, _), (1, _), (2, _), (3, _), (4, _)]) dX4_costBeside_45 rfl (Nat.le_of_ble_eq_true rfl) rfl ?_
    refine X_iload_n (i := 2) (pc' := 48) dX4_costBeside_47 rfl rfl rfl ?_
    refine X_iload (pc' := 50) dX4_costBeside_48 rfl rfl ?_
    refine X_icmp_ne (pc' := 53) (tgt := 60) dX4_costBeside_50 rfl (by decide) (fun h_50 => ?_) (fun h_50 => ?_)
    · refine X_iload (pc' := 62) dX4_costBeside_60 rfl rfl ?_
      refine X_ri dX4_costBeside_62 rfl ⟨rfl, rfl⟩ ?_
      unfold besN
      first
        | exact ⟨rfl, by rw [if_neg (show ¬ n = d from fun q => h_50 (by rw [q]))]; rfl⟩
        | exact ⟨rfl, by rw [if_pos (show n = d from (nI_eq (by omega) (by omega)).mp h_50)]⟩
    · refine X_iload (pc' := 55) dX4_costBeside_53 rfl rfl ?_
      refine X_iconst (pc' := 56) (v := nI 2) dX4_costBeside_55 rfl (by decide) ?_
      refine X_iadd (pc' := 57) dX4_costBeside_56 rfl ?_
      refine X_eqi (nI (costIn P s a n (if d < n then sSt s ||| 2 ^ b else sSt s) + 2)) (nI_add _ _) ?_
      refine X_goto (pc' := 0) (tgt := 62) dX4_costBeside_57 (by decide) ?_
      refine X_ri dX4_costBeside_62 rfl ⟨rfl, rfl⟩ ?_
      unfold besN
      first
        | exact ⟨rfl, by rw [if_neg (show ¬ n = d from fun q => h_50 (by rw [q]))]; rfl⟩
        | exact ⟨rfl, by rw [if_pos (show n = d from (nI_eq (by omega) (by omega)).mp h_50)]⟩
  · refine X_aload_n (i := 0) (pc' := 7) dX4_costBeside_6 rfl rfl rfl ?_
    refine X_get (pc' := 10) (v := .ref 12) dX4_costBeside_7 rfl (gf_X4_30 _ rfl) o_W_1 rfl rfl ?_
    refine X_get (pc' := 13) (v := .int _) dX4_costBeside_10 rfl (gf_X4_98 _ rfl) o_W_12 rfl rfl ?_
    refine X_eqi (nI (sSt s)) (p1) ?_
    refine X_iload_n (i := 3) (pc' := 14) dX4_costBeside_13 rfl rfl rfl ?_
    refine X_SIp (As := [_]) (rest := [_]) (pc' := 17) dX4_costBeside_14 rfl k_X4_bit l_X4_137 s_X4_bit ⟨by decide, by decide⟩ rfl rfl (Nat.le_of_ble_eq_true rfl) (c_X4_bit cx τ b (by omega)) ?_
    refine X_ior (pc' := 18) dX4_costBeside_17 rfl ?_
    refine X_eqi (nI (sSt s ||| 2 ^ b)) (nI_or (by omega) (by omega)) ?_
    refine X_goto (pc' := 0) (tgt := 28) dX4_costBeside_18 (by decide) ?_
    refine X_eqi (nI (if d < n then sSt s ||| 2 ^ b else sSt s)) (by
      first
        | rw [if_pos ((nI_ltI (by omega) (by omega)).mp (Int32.not_le.mp h_3))]
        | rw [if_neg (fun q => nI_ge q (by omega) h_3)]) ?_
    refine X_istore (pc' := 30) (lv' := [(5, _), (0, _), (1, _), (2, _), (3, _), (4, _)]) dX4_costBeside_28 rfl (Nat.le_of_ble_eq_true rfl) rfl ?_
    refine X_aload_n (i := 0) (pc' := 31) dX4_costBeside_30 rfl rfl rfl ?_
    refine X_get (pc' := 34) (v := .ref 8) dX4_costBeside_31 rfl (gf_X4_23 _ rfl) o_W_1 rfl rfl ?_
    refine X_aload_n (i := 0) (pc' := 35) dX4_costBeside_34 rfl rfl rfl ?_
    refine X_get (pc' := 38) (v := .ref 12) dX4_costBeside_35 rfl (gf_X4_30 _ rfl) o_W_1 rfl rfl ?_
    refine X_iload_n (i := 1) (pc' := 39) dX4_costBeside_38 rfl rfl rfl ?_
    refine X_iload_n (i := 2) (pc' := 40) dX4_costBeside_39 rfl rfl rfl ?_
    refine X_iload (pc' := 42) dX4_costBeside_40 rfl rfl ?_
    refine X_OIp (As := [_, _, _, _]) (rest := []) (pc' := 45) dX4_costBeside_42 rfl k_X3_costIn l_X4_111 v_X3_costIn o_W_8 rfl ⟨by decide, by decide⟩ rfl rfl (Nat.le_of_ble_eq_true rfl) (c_costIn cx τ hP hT (by decide) hs ho (by omega) ha (by omega) hse) ?_
    refine X_istore (pc' := 47) (lv' := [(6, _), (5, _), (0, _), (1, _), (2, _), (3, _), (4, _)]) dX4_costBeside_45 rfl (Nat.le_of_ble_eq_true rfl) rfl ?_
    refine X_iload_n (i := 2) (pc' := 48) dX4_costBeside_47 rfl rfl rfl ?_
    refine X_iload (pc' := 50) dX4_costBeside_48 rfl rfl ?_
    refine X_icmp_ne (pc' := 53) (tgt := 60) dX4_costBeside_50 rfl (by decide) (fun h_50 => ?_) (fun h_50 => ?_)
    · refine X_iload (pc' := 62) dX4_costBeside_60 rfl rfl ?_
      refine X_ri dX4_costBeside_62 rfl ⟨rfl, rfl⟩ ?_
      unfold besN
      first
        | exact ⟨rfl, by rw [if_neg (show ¬ n = d from fun q => h_50 (by rw [q]))]; rfl⟩
        | exact ⟨rfl, by rw [if_pos (show n = d from (nI_eq (by omega) (by omega)).mp h_50)]⟩
    · refine X_iload (pc' := 55) dX4_costBeside_53 rfl rfl ?_
      refine X_iconst (pc' := 56) (v := nI 2) dX4_costBeside_55 rfl (by decide) ?_
      refine X_iadd (pc' := 57) dX4_costBeside_56 rfl ?_
      refine X_eqi (nI (costIn P s a n (if d < n then sSt s ||| 2 ^ b else sSt s) + 2)) (nI_add _ _) ?_
      refine X_goto (pc' := 0) (tgt := 62) dX4_costBeside_57 (by decide) ?_
      refine X_ri dX4_costBeside_62 rfl ⟨rfl, rfl⟩ ?_
      unfold besN
      first
        | exact ⟨rfl, by rw [if_neg (show ¬ n = d from fun q => h_50 (by rw [q]))]; rfl⟩
        | exact ⟨rfl, by rw [if_pos (show n = d from (nI_eq (by omega) (by omega)).mp h_50)]⟩
theorem c_isBestDay (τ : xT) {P : PT} {s : SN} {m : Nat} (h : Qw τ P s m) {a n b d : Nat} (ha : a < pn P) (hb : b < pn P) (hn : n < 10) (hd : d < 10) : CI cx m_X4_isBestDay [.ref 1, .int (nI a), .int (nI n), .int (nI b), .int (nI d)] PW τ (fun y τ' => τ' = τ ∧ y = zI (isB P s a n b d)) := by
  refine Ct_of (by decide) (Nat.le_of_ble_eq_true rfl) (lv := [(0, _), (1, _), (2, _), (3, _), (4, _)]) rfl ?_
  have b1 := besN_le P s a n b d
  have hl : ∀ (j : Nat) (τ' : xT), j ≤ 4 → (τ' = τ ∧ ∀ e, e < j → ¬ besN P s a e b d < besN P s a n b d) → X cx m_X4_isBestDay PW (qI PW (fun y τ' => τ' = τ ∧ y = zI (isB P s a n b d))) 14 [(6, .int (nI j)), (5, .int (nI (besN P s a n b d))), (0, .ref 1), (1, .int (nI a)), (2, .int (nI n)), (3, .int (nI b)), (4, .int (nI d))] [] PW τ' := by
    refine xloop _ _ 4 (fun τ' h => ?_) (fun j τ' hj h' ih => ?_)
    · obtain ⟨h, hf⟩ := h
      subst h
      refine X_iload (pc' := 16) dX4_isBestDay_14 rfl rfl ?_
      refine X_iconst (pc' := 17) (v := nI 4) dX4_isBestDay_16 rfl (by decide) ?_
      refine X_icmp_ge (pc' := 20) (tgt := 43) dX4_isBestDay_17 rfl (by decide) (fun h_17 => ?_) (fun h_17 => absurd (nI_le (Nat.le_refl _) (by decide)) h_17)
      refine X_iconst (pc' := 44) (v := nI 1) dX4_isBestDay_43 rfl (by decide) ?_
      refine X_rz dX4_isBestDay_44 rfl (rfl) ⟨rfl, rfl⟩ ?_
      exact ⟨rfl, (zI_t hf).symm⟩
    · obtain ⟨h1, hf⟩ := h'
      subst h1
      have b2 := besN_le P s a j b d
      refine X_iload (pc' := 16) dX4_isBestDay_14 rfl rfl ?_
      refine X_iconst (pc' := 17) (v := nI 4) dX4_isBestDay_16 rfl (by decide) ?_
      refine X_icmp_ge (pc' := 20) (tgt := 43) dX4_isBestDay_17 rfl (by decide) (fun h_17 => absurd h_17 (nI_ge hj (by decide))) (fun h_17 => ?_)
      refine X_aload_n (i := 0) (pc' := 21) dX4_isBestDay_20 rfl rfl rfl ?_
      refine X_iload_n (i := 1) (pc' := 22) dX4_isBestDay_21 rfl rfl rfl ?_
      refine X_iload (pc' := 24) dX4_isBestDay_22 rfl rfl ?_
      refine X_iload_n (i := 3) (pc' := 25) dX4_isBestDay_24 rfl rfl rfl ?_
      refine X_iload (pc' := 27) dX4_isBestDay_25 rfl rfl ?_
      refine X_OIp (As := [_, _, _, _]) (rest := []) (pc' := 30) dX4_isBestDay_27 rfl k_X4_costBeside l_X4_238 v_X4_costBeside o_W_1 rfl ⟨by decide, by decide⟩ rfl rfl (Nat.le_of_ble_eq_true rfl) (c_costBeside cx τ' h ha hb (by omega) hd) ?_
      refine X_iload (pc' := 32) dX4_isBestDay_30 rfl rfl ?_
      refine X_icmp_ge (pc' := 35) (tgt := 37) dX4_isBestDay_32 rfl (by decide) (fun h_32 => ?_) (fun h_32 => ?_)
      · refine X_iinc (pc' := 40) (v := nI (j + 1)) (lv' := [(6, _), (5, _), (0, _), (1, _), (2, _), (3, _), (4, _)]) dX4_isBestDay_37 rfl rfl ((nI_succ j).symm) (Nat.le_of_ble_eq_true rfl) rfl ?_
        refine X_goto (pc' := 0) (tgt := 14) dX4_isBestDay_40 (by decide) ?_
        refine X_lv _ (by simp) (ih τ' ⟨rfl, fun e he => ?_⟩)
        by_cases hej : e = j
        · subst hej; exact fun q => nI_ge q (by omega) h_32
        · exact hf e (by omega)
      · refine X_iconst (pc' := 36) (v := nI 0) dX4_isBestDay_35 rfl (by decide) ?_
        refine X_rz dX4_isBestDay_36 rfl (rfl) ⟨rfl, rfl⟩ ?_
        have hlt := (nI_ltI (by omega) (by omega)).mp (Int32.not_le.mp h_32)
        exact ⟨rfl, (zI_f (fun q => q j hj hlt)).symm⟩
  refine X_aload_n (i := 0) (pc' := 1) dX4_isBestDay_0 rfl rfl rfl ?_
  refine X_iload_n (i := 1) (pc' := 2) dX4_isBestDay_1 rfl rfl rfl ?_
  refine X_iload_n (i := 2) (pc' := 3) dX4_isBestDay_2 rfl rfl rfl ?_
  refine X_iload_n (i := 3) (pc' := 4) dX4_isBestDay_3 rfl rfl rfl ?_
  refine X_iload (pc' := 6) dX4_isBestDay_4 rfl rfl ?_
  refine X_OIp (As := [_, _, _, _]) (rest := []) (pc' := 9) dX4_isBestDay_6 rfl k_X4_costBeside l_X4_238 v_X4_costBeside o_W_1 rfl ⟨by decide, by decide⟩ rfl rfl (Nat.le_of_ble_eq_true rfl) (c_costBeside cx τ h ha hb hn hd) ?_
  refine X_istore (pc' := 11) (lv' := [(5, _), (0, _), (1, _), (2, _), (3, _), (4, _)]) dX4_isBestDay_9 rfl (Nat.le_of_ble_eq_true rfl) rfl ?_
  refine X_iconst (pc' := 12) (v := nI 0) dX4_isBestDay_11 rfl (by decide) ?_
  refine X_istore (pc' := 14) (lv' := [(6, _), (5, _), (0, _), (1, _), (2, _), (3, _), (4, _)]) dX4_isBestDay_12 rfl (Nat.le_of_ble_eq_true rfl) rfl ?_
  exact X_lv _ (by simp) (hl 0 τ (by omega) ⟨rfl, fun e he => absurd he (by omega)⟩)
theorem l_rests (τ : xT) {P : PT} {s : SN} {m : Nat} (h : Qw τ P s m) {a b : Nat} (ha : a < pn P) (hb : b < pn P) {w : Nat} (hw : w ≤ 1) : ∀ (i : Nat) (τ' : xT), i ≤ 4 → τ' = τ → X cx m_X4_rests PW (qI PW (fun y τ' => τ' = τ ∧ y = if w = 0 then nI (restN P s a b 16).1 else (restN P s a b 16).2)) 76 [(6, .int (nI i)), (5, .int (restN P s a b (4 * i)).2), (4, .int (nI (restN P s a b (4 * i)).1)), (0, .ref 1), (1, .int (nI a)), (2, .int (nI b)), (3, .int (nI w))] [] PW τ' := by
  refine xloop _ _ 4 (fun τ' h => ?_) (fun i τ' hi h' ih => ?_)
  · subst h
    refine X_iload (pc' := 78) dX4_rests_76 rfl rfl ?_
    refine X_iconst (pc' := 79) (v := nI 4) dX4_rests_78 rfl (by decide) ?_
    refine X_icmp_ge (pc' := 82) (tgt := 154) dX4_rests_79 rfl (by decide) (fun h_79 => ?_) (fun h_79 => absurd (nI_le (Nat.le_refl _) (by decide)) h_79)
    refine X_iload_n (i := 3) (pc' := 155) dX4_rests_154 rfl rfl rfl ?_
    refine X_if_ne (pc' := 158) (tgt := 163) dX4_rests_155 rfl (by decide) (fun h_155 => ?_) (fun h_155 => ?_)
    · refine X_iload (pc' := 165) dX4_rests_163 rfl rfl ?_
      refine X_ri dX4_rests_165 rfl ⟨rfl, rfl⟩ ?_
      first
        | exact ⟨rfl, (if_neg (fun q => h_155 (by rw [q]; rfl))).symm⟩
        | exact ⟨rfl, (if_pos ((nI_eq (by omega) (by decide)).mp h_155)).symm⟩
    · refine X_iload (pc' := 160) dX4_rests_158 rfl rfl ?_
      refine X_goto (pc' := 0) (tgt := 165) dX4_rests_160 (by decide) ?_
      refine X_ri dX4_rests_165 rfl ⟨rfl, rfl⟩ ?_
      first
        | exact ⟨rfl, (if_neg (fun q => h_155 (by rw [q]; rfl))).symm⟩
        | exact ⟨rfl, (if_pos ((nI_eq (by omega) (by decide)).mp h_155)).symm⟩
  · subst h'
    have hl : ∀ (j : Nat) (τ2 : xT), j ≤ 4 → τ2 = τ' → X cx m_X4_rests PW (qI PW (fun y τ2 => τ2 = τ' ∧ y = if w = 0 then nI (restN P s a b 16).1 else (restN P s a b 16).2)) 85 [(7, .int (nI j)), (6, .int (nI i)), (5, .int (restN P s a b (4 * i + j)).2), (4, .int (nI (restN P s a b (4 * i + j)).1)), (0, .ref 1), (1, .int (nI a)), (2, .int (nI b)), (3, .int (nI w))] [] PW τ2 := by
      refine xloop _ _ 4 (fun τ2 h2 => ?_) (fun j τ2 hj h2 ih2 => ?_)
      · subst h2
        refine X_iload (pc' := 87) dX4_rests_85 rfl rfl ?_
        refine X_iconst (pc' := 88) (v := nI 4) dX4_rests_87 rfl (by decide) ?_
        refine X_icmp_ge (pc' := 91) (tgt := 148) dX4_rests_88 rfl (by decide) (fun h_88 => ?_) (fun h_88 => absurd (nI_le (Nat.le_refl _) (by decide)) h_88)
        refine X_iinc (pc' := 151) (v := nI (i + 1)) (lv' := [(6, _), (7, _), (5, _), (4, _), (0, _), (1, _), (2, _), (3, _)]) dX4_rests_148 rfl rfl ((nI_succ i).symm) (Nat.le_of_ble_eq_true rfl) rfl ?_
        refine X_goto (pc' := 0) (tgt := 76) dX4_rests_151 (by decide) ?_
        have := ih τ2 rfl
        rw [show 4 * (i + 1) = 4 * i + 4 by omega] at this
        exact X_lv _ (by simp) this
      · subst h2
        have b1 := restN_le P s a b (4 * i + j) (by omega)
        have e1 : (4 * i + j) / 4 = i := by omega
        have e2 : (4 * i + j) % 4 = j := by omega
        have hs1 : restN P s a b (4 * i + j + 1) = if isB P s a i b j ∧ isB P s b j a i then ((restN P s a b (4 * i + j)).1 + 1, if (restN P s a b (4 * i + j)).1 = 0 then nI (10 * i + j) else (restN P s a b (4 * i + j)).2) else restN P s a b (4 * i + j) := by
          show (if isB P s a ((4 * i + j) / 4) b ((4 * i + j) % 4) ∧ isB P s b ((4 * i + j) % 4) a ((4 * i + j) / 4) then ((restN P s a b (4 * i + j)).1 + 1, if (restN P s a b (4 * i + j)).1 = 0 then nI (10 * ((4 * i + j) / 4) + (4 * i + j) % 4) else (restN P s a b (4 * i + j)).2) else restN P s a b (4 * i + j)) = _
          rw [e1, e2]
        refine X_iload (pc' := 87) dX4_rests_85 rfl rfl ?_
        refine X_iconst (pc' := 88) (v := nI 4) dX4_rests_87 rfl (by decide) ?_
        refine X_icmp_ge (pc' := 91) (tgt := 148) dX4_rests_88 rfl (by decide) (fun h_88 => absurd h_88 (nI_ge hj (by decide))) (fun h_88 => ?_)
        refine X_aload_n (i := 0) (pc' := 92) dX4_rests_91 rfl rfl rfl ?_
        refine X_iload_n (i := 1) (pc' := 93) dX4_rests_92 rfl rfl rfl ?_
        refine X_iload (pc' := 95) dX4_rests_93 rfl rfl ?_
        refine X_iload_n (i := 2) (pc' := 96) dX4_rests_95 rfl rfl rfl ?_
        refine X_iload (pc' := 98) dX4_rests_96 rfl rfl ?_
        refine X_OIp (As := [_, _, _, _]) (rest := []) (pc' := 101) dX4_rests_98 rfl k_X4_isBestDay l_X4_198 v_X4_isBestDay o_W_1 rfl ⟨by decide, by decide⟩ rfl rfl (Nat.le_of_ble_eq_true rfl) (c_isBestDay cx τ2 h ha hb (by omega) (by omega)) ?_
        refine X_if_eq (pc' := 104) (tgt := 142) dX4_rests_101 rfl (by decide) (fun h_101 => ?_) (fun h_101 => ?_)
        · refine X_iinc (pc' := 145) (v := nI (j + 1)) (lv' := [(7, _), (6, _), (5, _), (4, _), (0, _), (1, _), (2, _), (3, _)]) dX4_rests_142 rfl rfl ((nI_succ j).symm) (Nat.le_of_ble_eq_true rfl) rfl ?_
          refine X_goto (pc' := 0) (tgt := 85) dX4_rests_145 (by decide) ?_
          have := ih2 τ2 rfl
          rw [show 4 * i + (j + 1) = 4 * i + j + 1 by omega] at this
          first
            | (rw [hs1.trans (if_neg (fun q => (zI_0.mp h_101) q.1))] at this
               exact X_lv _ (by simp) this)
            | (rw [hs1.trans (if_neg (fun q => (zI_0.mp h_114) q.2))] at this
               exact X_lv _ (by simp) this)
            | (rw [hs1.trans (if_pos ⟨zI_1 h_101, zI_1 h_114⟩)] at this
               rw [show (if (restN P s a b (4 * i + j)).1 = 0 then nI (10 * i + j) else (restN P s a b (4 * i + j)).2) = (restN P s a b (4 * i + j)).2 from if_neg (fun q => h_124 (b1.2.mpr q))] at this
               exact X_lv _ (by simp) this)
            | (rw [hs1.trans (if_pos ⟨zI_1 h_101, zI_1 h_114⟩)] at this
               rw [show (if (restN P s a b (4 * i + j)).1 = 0 then nI (10 * i + j) else (restN P s a b (4 * i + j)).2) = nI (10 * i + j) from if_pos (b1.2.mp h_124)] at this
               exact X_lv _ (by simp) this)
        · refine X_aload_n (i := 0) (pc' := 105) dX4_rests_104 rfl rfl rfl ?_
          refine X_iload_n (i := 2) (pc' := 106) dX4_rests_105 rfl rfl rfl ?_
          refine X_iload (pc' := 108) dX4_rests_106 rfl rfl ?_
          refine X_iload_n (i := 1) (pc' := 109) dX4_rests_108 rfl rfl rfl ?_
          refine X_iload (pc' := 111) dX4_rests_109 rfl rfl ?_
          refine X_OIp (As := [_, _, _, _]) (rest := []) (pc' := 114) dX4_rests_111 rfl k_X4_isBestDay l_X4_198 v_X4_isBestDay o_W_1 rfl ⟨by decide, by decide⟩ rfl rfl (Nat.le_of_ble_eq_true rfl) (c_isBestDay cx τ2 h hb ha (by omega) (by omega)) ?_
          refine X_if_eq (pc' := 117) (tgt := 142) dX4_rests_114 rfl (by decide) (fun h_114 => ?_) (fun h_114 => ?_)
          · refine X_iinc (pc' := 145) (v := nI (j + 1)) (lv' := [(7, _), (6, _), (5, _), (4, _), (0, _), (1, _), (2, _), (3, _)]) dX4_rests_142 rfl rfl ((nI_succ j).symm) (Nat.le_of_ble_eq_true rfl) rfl ?_
            refine X_goto (pc' := 0) (tgt := 85) dX4_rests_145 (by decide) ?_
            have := ih2 τ2 rfl
            rw [show 4 * i + (j + 1) = 4 * i + j + 1 by omega] at this
            first
              | (rw [hs1.trans (if_neg (fun q => (zI_0.mp h_101) q.1))] at this
                 exact X_lv _ (by simp) this)
              | (rw [hs1.trans (if_neg (fun q => (zI_0.mp h_114) q.2))] at this
                 exact X_lv _ (by simp) this)
              | (rw [hs1.trans (if_pos ⟨zI_1 h_101, zI_1 h_114⟩)] at this
                 rw [show (if (restN P s a b (4 * i + j)).1 = 0 then nI (10 * i + j) else (restN P s a b (4 * i + j)).2) = (restN P s a b (4 * i + j)).2 from if_neg (fun q => h_124 (b1.2.mpr q))] at this
                 exact X_lv _ (by simp) this)
              | (rw [hs1.trans (if_pos ⟨zI_1 h_101, zI_1 h_114⟩)] at this
                 rw [show (if (restN P s a b (4 * i + j)).1 = 0 then nI (10 * i + j) else (restN P s a b (4 * i + j)).2) = nI (10 * i + j) from if_pos (b1.2.mp h_124)] at this
                 exact X_lv _ (by simp) this)
          · refine X_iinc (pc' := 120) (v := nI ((restN P s a b (4 * i + j)).1 + 1)) (lv' := [(4, _), (7, _), (6, _), (5, _), (0, _), (1, _), (2, _), (3, _)]) dX4_rests_117 rfl rfl ((nI_succ _).symm) (Nat.le_of_ble_eq_true rfl) rfl ?_
            refine X_iload (pc' := 122) dX4_rests_120 rfl rfl ?_
            refine X_bipush (pc' := 124) (v := (-9)) dX4_rests_122 rfl (by decide) ?_
            refine X_icmp_ne (pc' := 127) (tgt := 138) dX4_rests_124 rfl (by decide) (fun h_124 => ?_) (fun h_124 => ?_)
            · refine X_iload (pc' := 140) dX4_rests_138 rfl rfl ?_
              refine X_istore (pc' := 142) (lv' := [(5, _), (4, _), (7, _), (6, _), (0, _), (1, _), (2, _), (3, _)]) dX4_rests_140 rfl (Nat.le_of_ble_eq_true rfl) rfl ?_
              refine X_iinc (pc' := 145) (v := nI (j + 1)) (lv' := [(7, _), (5, _), (4, _), (6, _), (0, _), (1, _), (2, _), (3, _)]) dX4_rests_142 rfl rfl ((nI_succ j).symm) (Nat.le_of_ble_eq_true rfl) rfl ?_
              refine X_goto (pc' := 0) (tgt := 85) dX4_rests_145 (by decide) ?_
              have := ih2 τ2 rfl
              rw [show 4 * i + (j + 1) = 4 * i + j + 1 by omega] at this
              first
                | (rw [hs1.trans (if_neg (fun q => (zI_0.mp h_101) q.1))] at this
                   exact X_lv _ (by simp) this)
                | (rw [hs1.trans (if_neg (fun q => (zI_0.mp h_114) q.2))] at this
                   exact X_lv _ (by simp) this)
                | (rw [hs1.trans (if_pos ⟨zI_1 h_101, zI_1 h_114⟩)] at this
                   rw [show (if (restN P s a b (4 * i + j)).1 = 0 then nI (10 * i + j) else (restN P s a b (4 * i + j)).2) = (restN P s a b (4 * i + j)).2 from if_neg (fun q => h_124 (b1.2.mpr q))] at this
                   exact X_lv _ (by simp) this)
                | (rw [hs1.trans (if_pos ⟨zI_1 h_101, zI_1 h_114⟩)] at this
                   rw [show (if (restN P s a b (4 * i + j)).1 = 0 then nI (10 * i + j) else (restN P s a b (4 * i + j)).2) = nI (10 * i + j) from if_pos (b1.2.mp h_124)] at this
                   exact X_lv _ (by simp) this)
            · refine X_bipush (pc' := 129) (v := nI 10) dX4_rests_127 rfl (by decide) ?_
              refine X_iload (pc' := 131) dX4_rests_129 rfl rfl ?_
              refine X_imul (pc' := 132) dX4_rests_131 rfl ?_
              refine X_eqi (nI (10 * i)) (pk_mul _ _) ?_
              refine X_iload (pc' := 134) dX4_rests_132 rfl rfl ?_
              refine X_iadd (pc' := 135) dX4_rests_134 rfl ?_
              refine X_eqi (nI (10 * i + j)) (nI_add _ _) ?_
              refine X_goto (pc' := 0) (tgt := 140) dX4_rests_135 (by decide) ?_
              refine X_istore (pc' := 142) (lv' := [(5, _), (4, _), (7, _), (6, _), (0, _), (1, _), (2, _), (3, _)]) dX4_rests_140 rfl (Nat.le_of_ble_eq_true rfl) rfl ?_
              refine X_iinc (pc' := 145) (v := nI (j + 1)) (lv' := [(7, _), (5, _), (4, _), (6, _), (0, _), (1, _), (2, _), (3, _)]) dX4_rests_142 rfl rfl ((nI_succ j).symm) (Nat.le_of_ble_eq_true rfl) rfl ?_
              refine X_goto (pc' := 0) (tgt := 85) dX4_rests_145 (by decide) ?_
              have := ih2 τ2 rfl
              rw [show 4 * i + (j + 1) = 4 * i + j + 1 by omega] at this
              first
                | (rw [hs1.trans (if_neg (fun q => (zI_0.mp h_101) q.1))] at this
                   exact X_lv _ (by simp) this)
                | (rw [hs1.trans (if_neg (fun q => (zI_0.mp h_114) q.2))] at this
                   exact X_lv _ (by simp) this)
                | (rw [hs1.trans (if_pos ⟨zI_1 h_101, zI_1 h_114⟩)] at this
                   rw [show (if (restN P s a b (4 * i + j)).1 = 0 then nI (10 * i + j) else (restN P s a b (4 * i + j)).2) = (restN P s a b (4 * i + j)).2 from if_neg (fun q => h_124 (b1.2.mpr q))] at this
                   exact X_lv _ (by simp) this)
                | (rw [hs1.trans (if_pos ⟨zI_1 h_101, zI_1 h_114⟩)] at this
                   rw [show (if (restN P s a b (4 * i + j)).1 = 0 then nI (10 * i + j) else (restN P s a b (4 * i + j)).2) = nI (10 * i + j) from if_pos (b1.2.mp h_124)] at this
                   exact X_lv _ (by simp) this)
    refine X_iload (pc' := 78) dX4_rests_76 rfl rfl ?_
    refine X_iconst (pc' := 79) (v := nI 4) dX4_rests_78 rfl (by decide) ?_
    refine X_icmp_ge (pc' := 82) (tgt := 154) dX4_rests_79 rfl (by decide) (fun h_79 => absurd h_79 (nI_ge hi (by decide))) (fun h_79 => ?_)
    refine X_iconst (pc' := 83) (v := nI 0) dX4_rests_82 rfl (by decide) ?_
    refine X_istore (pc' := 85) (lv' := [(7, _), (6, _), (5, _), (4, _), (0, _), (1, _), (2, _), (3, _)]) dX4_rests_83 rfl (Nat.le_of_ble_eq_true rfl) rfl ?_
    exact X_lv _ (by simp) (hl 0 τ' (by omega) rfl)
theorem c_rests (τ : xT) {P : PT} {s : SN} {m : Nat} (h : Qw τ P s m) (l1 l2 w : Int32) : CI cx m_X4_rests [.ref 1, .int l1, .int l2, .int w] PW τ (fun y τ' => τ' = τ ∧ y = restsF P s l1 l2 w) := by
  obtain ⟨hT, hs, hP, ho, hm⟩ := id h
  obtain ⟨p0, p1, p2, p3, p4, p5, p6⟩ := id hs
  have hn6 := hP.1
  have h26 := two6 hP
  have hst := ho.2.1
  refine Ct_of (by decide) (Nat.le_of_ble_eq_true rfl) (lv := [(0, _), (1, _), (2, _), (3, _)]) rfl ?_
  unfold restsF
  refine X_aload_n (i := 0) (pc' := 1) dX4_rests_0 rfl rfl rfl ?_
  refine X_iload_n (i := 1) (pc' := 2) dX4_rests_1 rfl rfl rfl ?_
  refine X_OIp (As := [_]) (rest := []) (pc' := 5) dX4_rests_2 rfl k_X4_known l_X4_81 v_X4_known o_W_1 rfl ⟨by decide, by decide⟩ rfl rfl (Nat.le_of_ble_eq_true rfl) (c_known cx τ hP hT l1) ?_
  refine X_if_eq (pc' := 8) (tgt := 16) dX4_rests_5 rfl (by decide) (fun h_5 => ?_) (fun h_5 => ?_)
  · refine X_iconst (pc' := 17) (v := (-1)) dX4_rests_16 rfl (by decide) ?_
    refine X_ri dX4_rests_17 rfl ⟨rfl, rfl⟩ ?_
    refine ⟨rfl, (if_neg (fun q => ?_)).symm⟩
    first
      | exact (zI_0.mp h_5) q.1
      | exact (zI_0.mp h_13) q.2
  · refine X_aload_n (i := 0) (pc' := 9) dX4_rests_8 rfl rfl rfl ?_
    refine X_iload_n (i := 2) (pc' := 10) dX4_rests_9 rfl rfl rfl ?_
    refine X_OIp (As := [_]) (rest := []) (pc' := 13) dX4_rests_10 rfl k_X4_known l_X4_81 v_X4_known o_W_1 rfl ⟨by decide, by decide⟩ rfl rfl (Nat.le_of_ble_eq_true rfl) (c_known cx τ hP hT l2) ?_
    refine X_if_ne (pc' := 16) (tgt := 18) dX4_rests_13 rfl (by decide) (fun h_13 => ?_) (fun h_13 => ?_)
    · rw [if_pos ⟨zI_1 h_5, zI_1 h_13⟩]
      refine X_iload_n (i := 1) (pc' := 19) dX4_rests_18 rfl rfl rfl ?_
      refine X_iload_n (i := 2) (pc' := 20) dX4_rests_19 rfl rfl rfl ?_
      refine X_icmp_eq (pc' := 23) (tgt := 32) dX4_rests_20 rfl (by decide) (fun h_20 => ?_) (fun h_20 => ?_)
      · refine X_bipush (pc' := 34) (v := (-2)) dX4_rests_32 rfl (by decide) ?_
        refine X_ri dX4_rests_34 rfl ⟨rfl, rfl⟩ ?_
        refine ⟨rfl, ?_⟩
        by_cases hc : l1 = l2
        · rw [if_pos hc]
        · rw [if_neg hc]
          refine (swF_out ?_).symm
          first
            | exact absurd h_20 hc
            | (simp only [lt0, leI (n := 1) (by decide)] at *
               omega)
      · refine X_iload_n (i := 3) (pc' := 24) dX4_rests_23 rfl rfl rfl ?_
        refine X_if_lt (pc' := 27) (tgt := 32) dX4_rests_24 rfl (by decide) (fun h_24 => ?_) (fun h_24 => ?_)
        · refine X_bipush (pc' := 34) (v := (-2)) dX4_rests_32 rfl (by decide) ?_
          refine X_ri dX4_rests_34 rfl ⟨rfl, rfl⟩ ?_
          refine ⟨rfl, ?_⟩
          by_cases hc : l1 = l2
          · rw [if_pos hc]
          · rw [if_neg hc]
            refine (swF_out ?_).symm
            first
              | exact absurd h_20 hc
              | (simp only [lt0, leI (n := 1) (by decide)] at *
                 omega)
        · refine X_iload_n (i := 3) (pc' := 28) dX4_rests_27 rfl rfl rfl ?_
          refine X_iconst (pc' := 29) (v := nI 1) dX4_rests_28 rfl (by decide) ?_
          refine X_icmp_le (pc' := 32) (tgt := 35) dX4_rests_29 rfl (by decide) (fun h_29 => ?_) (fun h_29 => ?_)
          · rw [if_neg h_20]
            obtain ⟨v, hv, rfl⟩ := xsw_of (x := w) (n := 1) (by simp only [lt0, leI (n := 1) (by decide)] at *; omega) (by decide)
            rw [swF_in hv (by decide)]
            obtain ⟨a, ha, rfl⟩ := kn_of (zI_1 h_5)
            obtain ⟨b, hb, rfl⟩ := kn_of (zI_1 h_13)
            rw [(kn_in hP ha).2, (kn_in hP hb).2]
            refine X_aload_n (i := 0) (pc' := 36) dX4_rests_35 rfl rfl rfl ?_
            refine X_get (pc' := 39) (v := .ref 12) dX4_rests_36 rfl (gf_X4_30 _ rfl) o_W_1 rfl rfl ?_
            refine X_get (pc' := 42) (v := .int _) dX4_rests_39 rfl (gf_X4_98 _ rfl) o_W_12 rfl rfl ?_
            refine X_eqi (nI (sSt s)) (p1) ?_
            refine X_iload_n (i := 1) (pc' := 43) dX4_rests_42 rfl rfl rfl ?_
            refine X_SIp (As := [_, _]) (rest := []) (pc' := 46) dX4_rests_43 rfl k_X4_has l_X4_101 s_X4_has ⟨by decide, by decide⟩ rfl rfl (Nat.le_of_ble_eq_true rfl) (c_X4_has cx τ (sSt s) a (by omega) (by omega)) ?_
            refine X_if_ne (pc' := 49) (tgt := 63) dX4_rests_46 rfl (by decide) (fun h_46 => ?_) (fun h_46 => ?_)
            · refine X_bipush (pc' := 65) (v := (-3)) dX4_rests_63 rfl (by decide) ?_
              refine X_ri dX4_rests_65 rfl ⟨rfl, rfl⟩ ?_
              refine ⟨rfl, (if_pos ?_).symm⟩
              first
                | exact Or.inl (zI_1 h_46)
                | exact Or.inr (zI_1 h_60)
            · refine X_aload_n (i := 0) (pc' := 50) dX4_rests_49 rfl rfl rfl ?_
              refine X_get (pc' := 53) (v := .ref 12) dX4_rests_50 rfl (gf_X4_30 _ rfl) o_W_1 rfl rfl ?_
              refine X_get (pc' := 56) (v := .int _) dX4_rests_53 rfl (gf_X4_98 _ rfl) o_W_12 rfl rfl ?_
              refine X_eqi (nI (sSt s)) (p1) ?_
              refine X_iload_n (i := 2) (pc' := 57) dX4_rests_56 rfl rfl rfl ?_
              refine X_SIp (As := [_, _]) (rest := []) (pc' := 60) dX4_rests_57 rfl k_X4_has l_X4_101 s_X4_has ⟨by decide, by decide⟩ rfl rfl (Nat.le_of_ble_eq_true rfl) (c_X4_has cx τ (sSt s) b (by omega) (by omega)) ?_
              refine X_if_eq (pc' := 63) (tgt := 66) dX4_rests_60 rfl (by decide) (fun h_60 => ?_) (fun h_60 => ?_)
              · refine X_iconst (pc' := 67) (v := nI 0) dX4_rests_66 rfl (by decide) ?_
                refine X_istore (pc' := 69) (lv' := [(4, _), (0, _), (1, _), (2, _), (3, _)]) dX4_rests_67 rfl (Nat.le_of_ble_eq_true rfl) rfl ?_
                refine X_bipush (pc' := 71) (v := (-9)) dX4_rests_69 rfl (by decide) ?_
                refine X_istore (pc' := 73) (lv' := [(5, _), (4, _), (0, _), (1, _), (2, _), (3, _)]) dX4_rests_71 rfl (Nat.le_of_ble_eq_true rfl) rfl ?_
                refine X_iconst (pc' := 74) (v := nI 0) dX4_rests_73 rfl (by decide) ?_
                refine X_istore (pc' := 76) (lv' := [(6, _), (5, _), (4, _), (0, _), (1, _), (2, _), (3, _)]) dX4_rests_74 rfl (Nat.le_of_ble_eq_true rfl) rfl ?_
                rw [if_neg (fun q => q.elim (zI_0.mp h_46) (zI_0.mp h_60))]
                exact X_lv _ (by simp [restN]) (l_rests cx τ h ha hb hv 0 τ (by omega) rfl)
              · refine X_bipush (pc' := 65) (v := (-3)) dX4_rests_63 rfl (by decide) ?_
                refine X_ri dX4_rests_65 rfl ⟨rfl, rfl⟩ ?_
                refine ⟨rfl, (if_pos ?_).symm⟩
                first
                  | exact Or.inl (zI_1 h_46)
                  | exact Or.inr (zI_1 h_60)
          · refine X_bipush (pc' := 34) (v := (-2)) dX4_rests_32 rfl (by decide) ?_
            refine X_ri dX4_rests_34 rfl ⟨rfl, rfl⟩ ?_
            refine ⟨rfl, ?_⟩
            by_cases hc : l1 = l2
            · rw [if_pos hc]
            · rw [if_neg hc]
              refine (swF_out ?_).symm
              first
                | exact absurd h_20 hc
                | (simp only [lt0, leI (n := 1) (by decide)] at *
                   omega)
    · refine X_iconst (pc' := 17) (v := (-1)) dX4_rests_16 rfl (by decide) ?_
      refine X_ri dX4_rests_17 rfl ⟨rfl, rfl⟩ ?_
      refine ⟨rfl, (if_neg (fun q => ?_)).symm⟩
      first
        | exact (zI_0.mp h_5) q.1
        | exact (zI_0.mp h_13) q.2
end C6
