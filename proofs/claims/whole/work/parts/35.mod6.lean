/-! ===== the model: cheapest, waits, who ===== -/
theorem dif_0 : ∀ a, a < 64 → ∀ b, b < 64 → (dif a b = 0 ↔ a &&& b = a) := by decide +kernel
section M6
variable (cx : xC)
set_option maxHeartbeats 4000000
set_option maxRecDepth 100000
theorem d_cheap1 (τ : xT) {k : Nat} {f : Nat → Nat} {τ' : xT} (g : xtr τ τ') : X cx m_X5_cheapest PM (qI PM (fun x τ' => x = nI (bestN f 9) ∧ xtr τ τ')) 26 [(3, .int (nI (9 + 1))), (2, .int (nI (bestN f 9))), (0, .ref 1), (1, .int (nI k))] [] PM τ' := by
  refine X_iload_n (i := 3) (pc' := 27) dX5_cheapest_26 rfl rfl rfl ?_
  refine X_bipush (pc' := 29) (v := nI 10) dX5_cheapest_27 rfl (by decide) ?_
  refine X_icmp_ge (pc' := 32) (tgt := 59) dX5_cheapest_29 rfl (by decide) (fun h_29 => ?_) (fun h_29 => absurd (nI_le (Nat.le_refl _) (by omega)) h_29)
  refine X_iload_n (i := 2) (pc' := 60) dX5_cheapest_59 rfl rfl rfl ?_
  refine X_ri dX5_cheapest_60 rfl ⟨rfl, rfl⟩ ?_
  exact ⟨rfl, g⟩
theorem d_cheap2 (τ : xT) {P : PT} (hP : Pok P) (h : MT τ P) {m : Nat} {s : SN} (hs : MS τ 4 0 (pn P) s) (ho : Sok P m s) (hm : m < 4500) {k : Nat} (hk : k < pn P) (hb : ¬ bt (sSt s) k) {f : Nat → Nat} (hfd : ∀ d, costIn P s k d (sSt s) = f d) (hfb : ∀ d, f d ≤ 594) {j : Nat} (hj : j < 9) {τ' : xT} (g : xtr τ τ') (ih : ∀ τ', xtr τ τ' → X cx m_X5_cheapest PM (qI PM (fun x τ' => x = nI (bestN f 9) ∧ xtr τ τ')) 26 [(3, .int (nI (j + 1 + 1))), (2, .int (nI (bestN f (j + 1)))), (0, .ref 1), (1, .int (nI k))] [] PM τ') : X cx m_X5_cheapest PM (qI PM (fun x τ' => x = nI (bestN f 9) ∧ xtr τ τ')) 26 [(3, .int (nI (j + 1))), (2, .int (nI (bestN f j))), (0, .ref 1), (1, .int (nI k))] [] PM τ' := by
  have hn6 := hP.1
  have b1 := hfb (j + 1)
  have b2 := hfb (bestN f j)
  have b3 := bestN_le f j
  refine X_iload_n (i := 3) (pc' := 27) dX5_cheapest_26 rfl rfl rfl ?_
  refine X_bipush (pc' := 29) (v := nI 10) dX5_cheapest_27 rfl (by decide) ?_
  refine X_icmp_ge (pc' := 32) (tgt := 59) dX5_cheapest_29 rfl (by decide) (fun h_29 => absurd h_29 (nI_ge (by omega) (by omega))) (fun h_29 => ?_)
  refine X_aload_n (i := 0) (pc' := 33) dX5_cheapest_32 rfl rfl rfl ?_
  refine X_iload_n (i := 1) (pc' := 34) dX5_cheapest_33 rfl rfl rfl ?_
  refine X_iload_n (i := 3) (pc' := 35) dX5_cheapest_34 rfl rfl rfl ?_
  refine X_OI (As := [_, _]) (rest := []) (pc' := 38) dX5_cheapest_35 rfl k_X5_priceIn l_X5_138 v_X5_priceIn o_M_1 rfl ⟨by decide, by decide⟩ rfl rfl (Nat.le_of_ble_eq_true rfl) (d_priceIn cx τ' hP (g.mt h) (g.ms hn6 hs) ho hm hk (show j + 1 < 100 by omega) hb) (fun x_35 τ_35 h_35 => ?_)
  refine X_eqi (nI (f (j + 1))) (h_35.1.trans (by rw [hfd])) ?_
  refine X_aload_n (i := 0) (pc' := 39) dX5_cheapest_38 rfl rfl rfl ?_
  refine X_iload_n (i := 1) (pc' := 40) dX5_cheapest_39 rfl rfl rfl ?_
  refine X_iload_n (i := 2) (pc' := 41) dX5_cheapest_40 rfl rfl rfl ?_
  refine X_OI (As := [_, _]) (rest := [_]) (pc' := 44) dX5_cheapest_41 rfl k_X5_priceIn l_X5_138 v_X5_priceIn o_M_1 rfl ⟨by decide, by decide⟩ rfl rfl (Nat.le_of_ble_eq_true rfl) (d_priceIn cx _ hP (h_35.2.mt (g.mt h)) (h_35.2.ms hn6 (g.ms hn6 hs)) ho hm hk (show bestN f j < 100 by omega) hb) (fun x_41 τ_41 h_41 => ?_)
  refine X_eqi (nI (f (bestN f j))) (h_41.1.trans (by rw [hfd])) ?_
  refine X_icmp_ge (pc' := 47) (tgt := 51) dX5_cheapest_44 rfl (by decide) (fun h_44 => ?_) (fun h_44 => ?_)
  · refine X_iload_n (i := 2) (pc' := 52) dX5_cheapest_51 rfl rfl rfl ?_
    refine X_istore_n (i := 2) (pc' := 53) (lv' := [(2, _), (3, _), (0, _), (1, _)]) dX5_cheapest_52 rfl rfl (Nat.le_of_ble_eq_true rfl) rfl ?_
    refine X_iinc (pc' := 56) (v := nI (j + 1 + 1)) (lv' := [(3, _), (2, _), (0, _), (1, _)]) dX5_cheapest_53 rfl rfl ((nI_succ (j + 1)).symm) (Nat.le_of_ble_eq_true rfl) rfl ?_
    refine X_goto (pc' := 0) (tgt := 26) dX5_cheapest_56 (by decide) ?_
    have hbb : bestN f (j + 1) = if f (j + 1) < f (bestN f j) then j + 1 else bestN f j := rfl
    have := ih _ ((g.tr h_35.2).tr h_41.2)
    first
      | (rw [hbb, if_pos ((nI_ltI (by omega) (by omega)).mp (Int32.not_le.mp h_44))] at this
         exact X_lv _ (by simp) this)
      | (rw [hbb, if_neg (fun q => nI_ge q (by omega) h_44)] at this
         exact X_lv _ (by simp) this)
  · refine X_iload_n (i := 3) (pc' := 48) dX5_cheapest_47 rfl rfl rfl ?_
    refine X_goto (pc' := 0) (tgt := 52) dX5_cheapest_48 (by decide) ?_
    refine X_istore_n (i := 2) (pc' := 53) (lv' := [(2, _), (3, _), (0, _), (1, _)]) dX5_cheapest_52 rfl rfl (Nat.le_of_ble_eq_true rfl) rfl ?_
    refine X_iinc (pc' := 56) (v := nI (j + 1 + 1)) (lv' := [(3, _), (2, _), (0, _), (1, _)]) dX5_cheapest_53 rfl rfl ((nI_succ (j + 1)).symm) (Nat.le_of_ble_eq_true rfl) rfl ?_
    refine X_goto (pc' := 0) (tgt := 26) dX5_cheapest_56 (by decide) ?_
    have hbb : bestN f (j + 1) = if f (j + 1) < f (bestN f j) then j + 1 else bestN f j := rfl
    have := ih _ ((g.tr h_35.2).tr h_41.2)
    first
      | (rw [hbb, if_pos ((nI_ltI (by omega) (by omega)).mp (Int32.not_le.mp h_44))] at this
         exact X_lv _ (by simp) this)
      | (rw [hbb, if_neg (fun q => nI_ge q (by omega) h_44)] at this
         exact X_lv _ (by simp) this)
theorem d_cheapest (τ : xT) {P : PT} (hP : Pok P) (h : MT τ P) {m : Nat} {s : SN} (hs : MS τ 4 0 (pn P) s) (ho : Sok P m s) (hm : m < 4500) (l : Int32) : CI cx m_X5_cheapest [.ref 1, .int l] PM τ (fun x τ' => x = cheapF P s l ∧ xtr τ τ') := by
  have hn6 := hP.1
  have h26 := two6 hP
  have hst := ho.2.1
  refine Ct_of (by decide) (Nat.le_of_ble_eq_true rfl) (lv := [(0, _), (1, _)]) rfl ?_
  refine X_aload_n (i := 0) (pc' := 1) dX5_cheapest_0 rfl rfl rfl ?_
  refine X_iload_n (i := 1) (pc' := 2) dX5_cheapest_1 rfl rfl rfl ?_
  refine X_OIp (As := [_]) (rest := []) (pc' := 5) dX5_cheapest_2 rfl k_X5_isLetter l_X5_112 v_X5_isLetter o_M_1 rfl ⟨by decide, by decide⟩ rfl rfl (Nat.le_of_ble_eq_true rfl) (d_isLetter cx τ hP h l) ?_
  refine X_if_ne (pc' := 8) (tgt := 10) dX5_cheapest_5 rfl (by decide) (fun h_5 => ?_) (fun h_5 => ?_)
  · obtain ⟨k, hk, rfl⟩ := kn_of (zI_1 h_5)
    rw [cheapF, onL_in hP hk]
    refine X_aload_n (i := 0) (pc' := 11) dX5_cheapest_10 rfl rfl rfl ?_
    refine X_iconst (pc' := 12) (v := nI 0) dX5_cheapest_11 rfl (by decide) ?_
    refine X_iload_n (i := 1) (pc' := 13) dX5_cheapest_12 rfl rfl rfl ?_
    refine X_OIp (As := [_, _]) (rest := []) (pc' := 16) dX5_cheapest_13 rfl k_X5_isSent l_X5_116 v_X5_isSent o_M_1 rfl ⟨by decide, by decide⟩ rfl rfl (Nat.le_of_ble_eq_true rfl) (d_isSent cx τ (lev := 0) (by decide) hs (by omega) (show k < 31 by omega)) ?_
    refine X_if_eq (pc' := 19) (tgt := 22) dX5_cheapest_16 rfl (by decide) (fun h_16 => ?_) (fun h_16 => ?_)
    · refine X_iconst (pc' := 23) (v := nI 0) dX5_cheapest_22 rfl (by decide) ?_
      refine X_istore_n (i := 2) (pc' := 24) (lv' := [(2, _), (0, _), (1, _)]) dX5_cheapest_23 rfl rfl (Nat.le_of_ble_eq_true rfl) rfl ?_
      refine X_iconst (pc' := 25) (v := nI 1) dX5_cheapest_24 rfl (by decide) ?_
      refine X_istore_n (i := 3) (pc' := 26) (lv' := [(3, _), (2, _), (0, _), (1, _)]) dX5_cheapest_25 rfl rfl (Nat.le_of_ble_eq_true rfl) rfl ?_
      have hb := zI_0.mp h_16
      rw [if_neg hb]
      generalize hf : (fun d => costIn P s k d (sSt s)) = f
      have hfd : ∀ d, costIn P s k d (sSt s) = f d := fun d => by rw [← hf]
      have hfb : ∀ d, f d ≤ 594 := fun d => by rw [← hf]; exact costIn_le _ _ _ _ _
      have hl : ∀ (j : Nat) (τ' : xT), j ≤ 9 → xtr τ τ' → X cx m_X5_cheapest PM (qI PM (fun x τ' => x = nI (bestN f 9) ∧ xtr τ τ')) 26 [(3, .int (nI (j + 1))), (2, .int (nI (bestN f j))), (0, .ref 1), (1, .int (nI k))] [] PM τ' := by
        refine xloop _ _ 9 (fun τ' g => ?_) (fun j τ' hj g ih => ?_)
        · exact d_cheap1 cx τ g
        · exact d_cheap2 cx τ hP h hs ho hm hk hb hfd hfb hj g ih
      exact X_lv _ (by simp [bestN]) (hl 0 τ (by omega) ⟨xeq.rf, fun i hi => rfl⟩)
    · refine X_bipush (pc' := 21) (v := (-3)) dX5_cheapest_19 rfl (by decide) ?_
      refine X_ri dX5_cheapest_21 rfl ⟨rfl, rfl⟩ ?_
      exact ⟨(if_pos (zI_1 h_16)).symm, xeq.rf, fun i hi => rfl⟩
  · refine X_iconst (pc' := 9) (v := (-1)) dX5_cheapest_8 rfl (by decide) ?_
    refine X_ri dX5_cheapest_9 rfl ⟨rfl, rfl⟩ ?_
    exact ⟨(onL_out (zI_0.mp h_5)).symm, xeq.rf, fun i hi => rfl⟩
theorem l2_waits (τ : xT) {P : PT} (hP : Pok P) (h : MT τ P) {m : Nat} {s : SN} (hs : MS τ 4 0 (pn P) s) (ho : Sok P m s) (hm : m < 4500) {k : Nat} (hk : k < pn P) (p : Int32) : ∀ (j : Nat) (τ' : xT), j ≤ 10 → τ' = τ → X cx m_X5_waits PM (qI PM (fun x τ' => τ' = τ ∧ x = nI (waitsN P s k p 10))) 42 [(4, .int (nI j)), (3, .int (nI (waitsN P s k p j))), (0, .ref 1), (1, .int (nI k)), (2, .int p)] [] PM τ' := by
  obtain ⟨h0, h1, h2, h3, h4, h5, h6⟩ := id hs
  have hn6 := hP.1
  have h26 := two6 hP
  have hst := ho.2.1
  have htn := ho.2.2.2.1
  have hdy := ho.1
  have hx := hP.2.2.2.2 k hk
  refine xloop _ _ 10 (fun τ' g => ?_) (fun j τ' hj g ih => ?_)
  · subst g
    refine X_iload (pc' := 44) dX5_waits_42 rfl rfl ?_
    refine X_bipush (pc' := 46) (v := nI 10) dX5_waits_44 rfl (by decide) ?_
    refine X_icmp_ge (pc' := 49) (tgt := 116) dX5_waits_46 rfl (by decide) (fun h_46 => ?_) (fun h_46 => absurd (nI_le (Nat.le_refl _) (by omega)) h_46)
    refine X_iload_n (i := 3) (pc' := 117) dX5_waits_116 rfl rfl rfl ?_
    refine X_ri dX5_waits_117 rfl ⟨rfl, rfl⟩ ?_
    exact ⟨rfl, rfl⟩
  · subst g
    have b1 := waitsN_lt P s k p j
    have b2 : 2 ^ j ≤ 2 ^ 10 := Nat.pow_le_pow_right (by decide) (by omega)
    have b3 := ones_le (px P k &&& sSt s)
    refine X_iload (pc' := 44) dX5_waits_42 rfl rfl ?_
    refine X_bipush (pc' := 46) (v := nI 10) dX5_waits_44 rfl (by decide) ?_
    refine X_icmp_ge (pc' := 49) (tgt := 116) dX5_waits_46 rfl (by decide) (fun h_46 => absurd h_46 (nI_ge hj (by omega))) (fun h_46 => ?_)
    refine X_aload_n (i := 0) (pc' := 50) dX5_waits_49 rfl rfl rfl ?_
    refine X_iload_n (i := 1) (pc' := 51) dX5_waits_50 rfl rfl rfl ?_
    refine X_iload (pc' := 53) dX5_waits_51 rfl rfl ?_
    refine X_aload_n (i := 0) (pc' := 54) dX5_waits_53 rfl rfl rfl ?_
    refine X_get (pc' := 57) (v := .ref 4) dX5_waits_54 rfl (gf_X5_16 _ rfl) o_M_1 rfl rfl ?_
    refine X_bipush (pc' := 59) (v := nI 12) dX5_waits_57 rfl (by decide) ?_
    refine X_iald (pc' := 60) (j := 12) dX5_waits_59 rfl (Or.inl r_M_4) (rfl) (by decide) ?_
    refine X_eqi (nI (sTn s)) (h2) ?_
    refine X_iload_n (i := 1) (pc' := 61) dX5_waits_60 rfl rfl rfl ?_
    refine X_SIp (As := [_, _]) (rest := [_, _, _]) (pc' := 64) dX5_waits_61 rfl k_X5_has l_X5_65 s_X5_has ⟨by decide, by decide⟩ rfl rfl (Nat.le_of_ble_eq_true rfl) (d_has cx τ' (sTn s) k (by omega) (by omega)) ?_
    refine X_aload_n (i := 0) (pc' := 65) dX5_waits_64 rfl rfl rfl ?_
    refine X_get (pc' := 68) (v := .ref 3) dX5_waits_65 rfl (gf_X5_13 _ rfl) o_M_1 rfl rfl ?_
    refine X_iload_n (i := 1) (pc' := 69) dX5_waits_68 rfl rfl rfl ?_
    refine X_iald (pc' := 70) (j := k) dX5_waits_69 rfl (Or.inl r_M_3) (rfl) (by omega) ?_
    refine X_eqi (nI (px P k)) (h.2.2.2.2 k hk) ?_
    refine X_aload_n (i := 0) (pc' := 71) dX5_waits_70 rfl rfl rfl ?_
    refine X_get (pc' := 74) (v := .ref 4) dX5_waits_71 rfl (gf_X5_16 _ rfl) o_M_1 rfl rfl ?_
    refine X_bipush (pc' := 76) (v := nI 13) dX5_waits_74 rfl (by decide) ?_
    refine X_iald (pc' := 77) (j := 13) dX5_waits_76 rfl (Or.inl r_M_4) (rfl) (by decide) ?_
    refine X_eqi (nI (sSt s)) (h3) ?_
    refine X_iand (pc' := 78) dX5_waits_77 rfl ?_
    refine X_eqi (nI (px P k &&& sSt s)) (nI_and (by omega) (by omega)) ?_
    refine X_SIp (As := [_]) (rest := [_, _, _, _]) (pc' := 81) dX5_waits_78 rfl k_X5_ones l_X5_105 s_X5_ones ⟨by decide, by decide⟩ rfl rfl (Nat.le_of_ble_eq_true rfl) (d_ones cx τ' (px P k &&& sSt s) (and_lt64 hx)) ?_
    refine X_aload_n (i := 0) (pc' := 82) dX5_waits_81 rfl rfl rfl ?_
    refine X_get (pc' := 85) (v := .ref 4) dX5_waits_82 rfl (gf_X5_16 _ rfl) o_M_1 rfl rfl ?_
    refine X_bipush (pc' := 87) (v := nI 14) dX5_waits_85 rfl (by decide) ?_
    refine X_iald (pc' := 88) (j := 14) dX5_waits_87 rfl (Or.inl r_M_4) (rfl) (by decide) ?_
    refine X_eqi (nI (sDy s)) (h4) ?_
    refine X_OIp (As := [_, _, _, _, _]) (rest := []) (pc' := 91) dX5_waits_88 rfl k_X5_priceBy l_X5_108 v_X5_priceBy o_M_1 rfl ⟨by decide, by decide⟩ rfl rfl (Nat.le_of_ble_eq_true rfl) (d_priceBy cx τ' hP h hk (show j ≤ 99 by omega) (by omega) (by omega)) ?_
    refine X_istore (pc' := 93) (lv' := [(5, _), (4, _), (3, _), (0, _), (1, _), (2, _)]) dX5_waits_91 rfl (Nat.le_of_ble_eq_true rfl) rfl ?_
    refine X_iload_n (i := 3) (pc' := 94) dX5_waits_93 rfl rfl rfl ?_
    refine X_iload (pc' := 96) dX5_waits_94 rfl rfl ?_
    refine X_iload_n (i := 2) (pc' := 97) dX5_waits_96 rfl rfl rfl ?_
    refine X_icmp_ne (pc' := 100) (tgt := 107) dX5_waits_97 rfl (by decide) (fun h_97 => ?_) (fun h_97 => ?_)
    · refine X_iconst (pc' := 108) (v := nI 0) dX5_waits_107 rfl (by decide) ?_
      refine X_ior (pc' := 109) dX5_waits_108 rfl ?_
      refine X_eqi (nI (waitsN P s k p (j + 1))) (by first | exact (nI_or (by omega) (by omega)).trans (by rw [show waitsN P s k p (j + 1) = waitsN P s k p j ||| 2 ^ j from congrArg (waitsN P s k p j ||| ·) (if_pos h_97)]) | (rw [show waitsN P s k p (j + 1) = waitsN P s k p j ||| 0 from congrArg (waitsN P s k p j ||| ·) (if_neg h_97)]; exact nI_or (by omega) (by omega))) ?_
      refine X_istore_n (i := 3) (pc' := 110) (lv' := [(3, _), (5, _), (4, _), (0, _), (1, _), (2, _)]) dX5_waits_109 rfl rfl (Nat.le_of_ble_eq_true rfl) rfl ?_
      refine X_iinc (pc' := 113) (v := nI (j + 1)) (lv' := [(4, _), (3, _), (5, _), (0, _), (1, _), (2, _)]) dX5_waits_110 rfl rfl ((nI_succ j).symm) (Nat.le_of_ble_eq_true rfl) rfl ?_
      refine X_goto (pc' := 0) (tgt := 42) dX5_waits_113 (by decide) ?_
      exact X_lv _ (by simp) (ih τ' rfl)
    · refine X_iconst (pc' := 101) (v := nI 1) dX5_waits_100 rfl (by decide) ?_
      refine X_iload (pc' := 103) dX5_waits_101 rfl rfl ?_
      refine X_ishl (pc' := 104) dX5_waits_103 rfl ?_
      refine X_eqi (nI (2 ^ j)) (bt_shl (by omega)) ?_
      refine X_goto (pc' := 0) (tgt := 108) dX5_waits_104 (by decide) ?_
      refine X_ior (pc' := 109) dX5_waits_108 rfl ?_
      refine X_eqi (nI (waitsN P s k p (j + 1))) (by first | exact (nI_or (by omega) (by omega)).trans (by rw [show waitsN P s k p (j + 1) = waitsN P s k p j ||| 2 ^ j from congrArg (waitsN P s k p j ||| ·) (if_pos h_97)]) | (rw [show waitsN P s k p (j + 1) = waitsN P s k p j ||| 0 from congrArg (waitsN P s k p j ||| ·) (if_neg h_97)]; exact nI_or (by omega) (by omega))) ?_
      refine X_istore_n (i := 3) (pc' := 110) (lv' := [(3, _), (5, _), (4, _), (0, _), (1, _), (2, _)]) dX5_waits_109 rfl rfl (Nat.le_of_ble_eq_true rfl) rfl ?_
      refine X_iinc (pc' := 113) (v := nI (j + 1)) (lv' := [(4, _), (3, _), (5, _), (0, _), (1, _), (2, _)]) dX5_waits_110 rfl rfl ((nI_succ j).symm) (Nat.le_of_ble_eq_true rfl) rfl ?_
      refine X_goto (pc' := 0) (tgt := 42) dX5_waits_113 (by decide) ?_
      exact X_lv _ (by simp) (ih τ' rfl)
theorem d_waits (τ : xT) {P : PT} (hP : Pok P) (h : MT τ P) {m : Nat} {s : SN} (hs : MS τ 4 0 (pn P) s) (ho : Sok P m s) (hm : m < 4500) (l p : Int32) : CI cx m_X5_waits [.ref 1, .int l, .int p] PM τ (fun x τ' => τ' = τ ∧ x = waitsF P s l p) := by
  have hn6 := hP.1
  have h26 := two6 hP
  have hst := ho.2.1
  refine Ct_of (by decide) (Nat.le_of_ble_eq_true rfl) (lv := [(0, _), (1, _), (2, _)]) rfl ?_
  refine X_aload_n (i := 0) (pc' := 1) dX5_waits_0 rfl rfl rfl ?_
  refine X_iload_n (i := 1) (pc' := 2) dX5_waits_1 rfl rfl rfl ?_
  refine X_OIp (As := [_]) (rest := []) (pc' := 5) dX5_waits_2 rfl k_X5_isLetter l_X5_112 v_X5_isLetter o_M_1 rfl ⟨by decide, by decide⟩ rfl rfl (Nat.le_of_ble_eq_true rfl) (d_isLetter cx τ hP h l) ?_
  refine X_if_ne (pc' := 8) (tgt := 10) dX5_waits_5 rfl (by decide) (fun h_5 => ?_) (fun h_5 => ?_)
  · obtain ⟨k, hk, rfl⟩ := kn_of (zI_1 h_5)
    rw [waitsF, onL_in hP hk]
    refine X_iload_n (i := 2) (pc' := 11) dX5_waits_10 rfl rfl rfl ?_
    refine X_i2l (pc' := 12) dX5_waits_11 rfl ?_
    refine X_lconst (pc' := 13) (v := lN 0) dX5_waits_12 rfl rfl ?_
    refine X_ldc2 (pc' := 16) (v := lN 60) dX5_waits_13 rfl cn_X5_171 ?_
    refine X_SIp (As := [_, _, _]) (rest := []) (pc' := 19) dX5_waits_16 rfl k_X5_in l_X5_50 s_X5_in ⟨by decide, by decide⟩ rfl rfl (Nat.le_of_ble_eq_true rfl) (d_in cx τ _ _ _) ?_
    refine X_if_ne (pc' := 22) (tgt := 25) dX5_waits_19 rfl (by decide) (fun h_19 => ?_) (fun h_19 => ?_)
    · rw [if_pos (show isC p from (inW (hi := 60) (by decide)).mp (zI_1 h_19))]
      refine X_aload_n (i := 0) (pc' := 26) dX5_waits_25 rfl rfl rfl ?_
      refine X_iconst (pc' := 27) (v := nI 0) dX5_waits_26 rfl (by decide) ?_
      refine X_iload_n (i := 1) (pc' := 28) dX5_waits_27 rfl rfl rfl ?_
      refine X_OIp (As := [_, _]) (rest := []) (pc' := 31) dX5_waits_28 rfl k_X5_isSent l_X5_116 v_X5_isSent o_M_1 rfl ⟨by decide, by decide⟩ rfl rfl (Nat.le_of_ble_eq_true rfl) (d_isSent cx τ (lev := 0) (by decide) hs (by omega) (show k < 31 by omega)) ?_
      refine X_if_eq (pc' := 34) (tgt := 37) dX5_waits_31 rfl (by decide) (fun h_31 => ?_) (fun h_31 => ?_)
      · refine X_iconst (pc' := 38) (v := nI 0) dX5_waits_37 rfl (by decide) ?_
        refine X_istore_n (i := 3) (pc' := 39) (lv' := [(3, _), (0, _), (1, _), (2, _)]) dX5_waits_38 rfl rfl (Nat.le_of_ble_eq_true rfl) rfl ?_
        refine X_iconst (pc' := 40) (v := nI 0) dX5_waits_39 rfl (by decide) ?_
        refine X_istore (pc' := 42) (lv' := [(4, _), (3, _), (0, _), (1, _), (2, _)]) dX5_waits_40 rfl (Nat.le_of_ble_eq_true rfl) rfl ?_
        rw [if_neg (zI_0.mp h_31)]
        exact X_lv _ (by simp [waitsN]) (l2_waits cx τ hP h hs ho hm hk p 0 τ (by omega) rfl)
      · refine X_bipush (pc' := 36) (v := (-3)) dX5_waits_34 rfl (by decide) ?_
        refine X_ri dX5_waits_36 rfl ⟨rfl, rfl⟩ ?_
        exact ⟨rfl, (if_pos (zI_1 h_31)).symm⟩
    · refine X_bipush (pc' := 24) (v := (-2)) dX5_waits_22 rfl (by decide) ?_
      refine X_ri dX5_waits_24 rfl ⟨rfl, rfl⟩ ?_
      exact ⟨rfl, (if_neg (fun q => (zI_0.mp h_19) ((inW (hi := 60) (by decide)).mpr q))).symm⟩
  · refine X_iconst (pc' := 9) (v := (-1)) dX5_waits_8 rfl (by decide) ?_
    refine X_ri dX5_waits_9 rfl ⟨rfl, rfl⟩ ?_
    exact ⟨rfl, (onL_out (zI_0.mp h_5)).symm⟩
theorem d_priceWith (τ : xT) {P : PT} (hP : Pok P) (h : MT τ P) {m : Nat} {s : SN} (hs : MS τ 4 0 (pn P) s) (ho : Sok P m s) (hm : m < 4500) {k u : Nat} (hk : k < pn P) (hu : u < 64) : CI cx m_X5_priceWith [.ref 1, .int (nI k), .int (nI u)] PM τ (fun x τ' => τ' = τ ∧ x = nI (cost P k (sWt s k) (bt (sTn s) k) (ones u) (sDy s))) := by
  obtain ⟨h0, h1, h2, h3, h4, h5, h6⟩ := id hs
  have hn6 := hP.1
  have h26 := two6 hP
  have htn := ho.2.2.2.1
  have hdy := ho.1
  have hw := ho.2.2.2.2.2.1 k hk
  have b3 := ones_le u
  refine Ct_of (by decide) (Nat.le_of_ble_eq_true rfl) (lv := [(0, _), (1, _), (2, _)]) rfl ?_
  refine X_aload_n (i := 0) (pc' := 1) dX5_priceWith_0 rfl rfl rfl ?_
  refine X_iload_n (i := 1) (pc' := 2) dX5_priceWith_1 rfl rfl rfl ?_
  refine X_aload_n (i := 0) (pc' := 3) dX5_priceWith_2 rfl rfl rfl ?_
  refine X_get (pc' := 6) (v := .ref 4) dX5_priceWith_3 rfl (gf_X5_16 _ rfl) o_M_1 rfl rfl ?_
  refine X_iload_n (i := 1) (pc' := 7) dX5_priceWith_6 rfl rfl rfl ?_
  refine X_iald (pc' := 8) (j := k) dX5_priceWith_7 rfl (Or.inl r_M_4) (rfl) (by omega) ?_
  refine X_eqi (nI (sWt s k)) (by have q := h0 k hk; rw [Nat.zero_add] at q; exact q) ?_
  refine X_aload_n (i := 0) (pc' := 9) dX5_priceWith_8 rfl rfl rfl ?_
  refine X_get (pc' := 12) (v := .ref 4) dX5_priceWith_9 rfl (gf_X5_16 _ rfl) o_M_1 rfl rfl ?_
  refine X_bipush (pc' := 14) (v := nI 12) dX5_priceWith_12 rfl (by decide) ?_
  refine X_iald (pc' := 15) (j := 12) dX5_priceWith_14 rfl (Or.inl r_M_4) (rfl) (by decide) ?_
  refine X_eqi (nI (sTn s)) (h2) ?_
  refine X_iload_n (i := 1) (pc' := 16) dX5_priceWith_15 rfl rfl rfl ?_
  refine X_SIp (As := [_, _]) (rest := [_, _, _]) (pc' := 19) dX5_priceWith_16 rfl k_X5_has l_X5_65 s_X5_has ⟨by decide, by decide⟩ rfl rfl (Nat.le_of_ble_eq_true rfl) (d_has cx τ (sTn s) k (by omega) (by omega)) ?_
  refine X_iload_n (i := 2) (pc' := 20) dX5_priceWith_19 rfl rfl rfl ?_
  refine X_SIp (As := [_]) (rest := [_, _, _, _]) (pc' := 23) dX5_priceWith_20 rfl k_X5_ones l_X5_105 s_X5_ones ⟨by decide, by decide⟩ rfl rfl (Nat.le_of_ble_eq_true rfl) (d_ones cx τ u hu) ?_
  refine X_aload_n (i := 0) (pc' := 24) dX5_priceWith_23 rfl rfl rfl ?_
  refine X_get (pc' := 27) (v := .ref 4) dX5_priceWith_24 rfl (gf_X5_16 _ rfl) o_M_1 rfl rfl ?_
  refine X_bipush (pc' := 29) (v := nI 14) dX5_priceWith_27 rfl (by decide) ?_
  refine X_iald (pc' := 30) (j := 14) dX5_priceWith_29 rfl (Or.inl r_M_4) (rfl) (by decide) ?_
  refine X_eqi (nI (sDy s)) (h4) ?_
  refine X_OIp (As := [_, _, _, _, _]) (rest := []) (pc' := 33) dX5_priceWith_30 rfl k_X5_priceBy l_X5_108 v_X5_priceBy o_M_1 rfl ⟨by decide, by decide⟩ rfl rfl (Nat.le_of_ble_eq_true rfl) (d_priceBy cx τ hP h hk hw (by omega) (by omega)) ?_
  refine X_ri dX5_priceWith_33 rfl ⟨rfl, rfl⟩ ?_
  exact ⟨rfl, rfl⟩
theorem l2_who (τ : xT) {P : PT} (hP : Pok P) (h : MT τ P) {m : Nat} {s : SN} (hs : MS τ 4 0 (pn P) s) (ho : Sok P m s) (hm : m < 4500) {k : Nat} (hk : k < pn P) (p : Int32) {w : Nat} (hw : w ≤ 2) (hb : ¬ bt (sSt s) k) : ∀ (j : Nat) (τ' : xT), j ≤ 64 → τ' = τ → X cx m_X5_who PM (qI PM (fun x τ' => τ' = τ ∧ x = (if bt (sSt s) k then -3 else if w = 0 then nI (whoN P s k p 64).1 else if (whoN P s k p 64).1 = 0 then -9 else if w = 1 then nI (whoN P s k p 64).2.1 else nI (dif (px P k) (whoN P s k p 64).2.2)))) 66 [(7, .int (nI j)), (6, .int (nI (whoN P s k p j).2.2)), (5, .int (nI (whoN P s k p j).2.1)), (4, .int (nI (whoN P s k p j).1)), (0, .ref 1), (1, .int (nI k)), (2, .int p), (3, .int (nI w))] [] PM τ' := by
  have hn6 := hP.1
  have h26 := two6 hP
  have hxk := hP.2.2.2.2 k hk
  rw [if_neg hb]
  refine xloop _ _ 64 (fun τ' g => ?_) (fun j τ' hj g ih => ?_)
  · subst g
    have b1 := whoN_le hP s hk p 64 (Nat.le_refl _)
    refine X_iload (pc' := 68) dX5_who_66 rfl rfl ?_
    refine X_bipush (pc' := 70) (v := nI 64) dX5_who_68 rfl (by decide) ?_
    refine X_icmp_ge (pc' := 73) (tgt := 121) dX5_who_70 rfl (by decide) (fun h_70 => ?_) (fun h_70 => absurd (nI_le (Nat.le_refl _) (by decide)) h_70)
    refine X_iload_n (i := 3) (pc' := 122) dX5_who_121 rfl rfl rfl ?_
    refine X_if_ne (pc' := 125) (tgt := 130) dX5_who_122 rfl (by decide) (fun h_122 => ?_) (fun h_122 => ?_)
    · have hw0 : ¬ w = 0 := fun q => h_122 (by rw [q]; rfl)
      rw [if_neg hw0]
      refine X_iload (pc' := 132) dX5_who_130 rfl rfl ?_
      refine X_if_ne (pc' := 135) (tgt := 140) dX5_who_132 rfl (by decide) (fun h_132 => ?_) (fun h_132 => ?_)
      · have hn0 : ¬ (whoN P s k p 64).1 = 0 := fun q => h_132 (by rw [q]; rfl)
        rw [if_neg hn0]
        refine X_iload_n (i := 3) (pc' := 141) dX5_who_140 rfl rfl rfl ?_
        refine X_iconst (pc' := 142) (v := nI 1) dX5_who_141 rfl (by decide) ?_
        refine X_icmp_ne (pc' := 145) (tgt := 150) dX5_who_142 rfl (by decide) (fun h_142 => ?_) (fun h_142 => ?_)
        · refine X_aload_n (i := 0) (pc' := 151) dX5_who_150 rfl rfl rfl ?_
          refine X_get (pc' := 154) (v := .ref 3) dX5_who_151 rfl (gf_X5_13 _ rfl) o_M_1 rfl rfl ?_
          refine X_iload_n (i := 1) (pc' := 155) dX5_who_154 rfl rfl rfl ?_
          refine X_iald (pc' := 156) (j := k) dX5_who_155 rfl (Or.inl r_M_3) (rfl) (by omega) ?_
          refine X_eqi (nI (px P k)) (h.2.2.2.2 k hk) ?_
          refine X_iload (pc' := 158) dX5_who_156 rfl rfl ?_
          refine X_iconst (pc' := 159) (v := (-1)) dX5_who_158 rfl (by decide) ?_
          refine X_ixor (pc' := 160) dX5_who_159 rfl ?_
          refine X_iand (pc' := 161) dX5_who_160 rfl ?_
          refine X_eqi (nI (dif (px P k) (whoN P s k p 64).2.2)) (dif_nI _ hxk _ b1.2.2) ?_
          refine X_ri dX5_who_161 rfl ⟨rfl, rfl⟩ ?_
          first
            | exact ⟨rfl, rfl⟩
            | exact ⟨rfl, (if_neg (fun q => h_142 (by rw [q]))).symm⟩
        · rw [if_pos ((nI_eq (by omega) (by decide)).mp h_142)]
          refine X_iload (pc' := 147) dX5_who_145 rfl rfl ?_
          refine X_goto (pc' := 0) (tgt := 161) dX5_who_147 (by decide) ?_
          refine X_ri dX5_who_161 rfl ⟨rfl, rfl⟩ ?_
          first
            | exact ⟨rfl, rfl⟩
            | exact ⟨rfl, (if_neg (fun q => h_142 (by rw [q]))).symm⟩
      · rw [if_pos ((nI_eq (by omega) (by decide)).mp h_132)]
        refine X_bipush (pc' := 137) (v := (-9)) dX5_who_135 rfl (by decide) ?_
        refine X_goto (pc' := 0) (tgt := 161) dX5_who_137 (by decide) ?_
        refine X_ri dX5_who_161 rfl ⟨rfl, rfl⟩ ?_
        first
          | exact ⟨rfl, rfl⟩
          | exact ⟨rfl, (if_neg (fun q => h_142 (by rw [q]))).symm⟩
    · rw [if_pos ((nI_eq (by omega) (by decide)).mp h_122)]
      refine X_iload (pc' := 127) dX5_who_125 rfl rfl ?_
      refine X_goto (pc' := 0) (tgt := 161) dX5_who_127 (by decide) ?_
      refine X_ri dX5_who_161 rfl ⟨rfl, rfl⟩ ?_
      first
        | exact ⟨rfl, rfl⟩
        | exact ⟨rfl, (if_neg (fun q => h_142 (by rw [q]))).symm⟩
  · subst g
    have b1 := whoN_le hP s hk p j (by omega)
    refine X_iload (pc' := 68) dX5_who_66 rfl rfl ?_
    refine X_bipush (pc' := 70) (v := nI 64) dX5_who_68 rfl (by decide) ?_
    refine X_icmp_ge (pc' := 73) (tgt := 121) dX5_who_70 rfl (by decide) (fun h_70 => absurd h_70 (nI_ge hj (by decide))) (fun h_70 => ?_)
    refine X_iload (pc' := 75) dX5_who_73 rfl rfl ?_
    refine X_aload_n (i := 0) (pc' := 76) dX5_who_75 rfl rfl rfl ?_
    refine X_get (pc' := 79) (v := .ref 3) dX5_who_76 rfl (gf_X5_13 _ rfl) o_M_1 rfl rfl ?_
    refine X_iload_n (i := 1) (pc' := 80) dX5_who_79 rfl rfl rfl ?_
    refine X_iald (pc' := 81) (j := k) dX5_who_80 rfl (Or.inl r_M_3) (rfl) (by omega) ?_
    refine X_eqi (nI (px P k)) (h.2.2.2.2 k hk) ?_
    refine X_iconst (pc' := 82) (v := (-1)) dX5_who_81 rfl (by decide) ?_
    refine X_ixor (pc' := 83) dX5_who_82 rfl ?_
    refine X_iand (pc' := 84) dX5_who_83 rfl ?_
    refine X_eqi (nI (dif j (px P k))) (dif_nI _ hj _ hxk) ?_
    refine X_if_ne (pc' := 87) (tgt := 115) dX5_who_84 rfl (by decide) (fun h_84 => ?_) (fun h_84 => ?_)
    · refine X_iinc (pc' := 118) (v := nI (j + 1)) (lv' := [(7, _), (6, _), (5, _), (4, _), (0, _), (1, _), (2, _), (3, _)]) dX5_who_115 rfl rfl ((nI_succ j).symm) (Nat.le_of_ble_eq_true rfl) rfl ?_
      refine X_goto (pc' := 0) (tgt := 66) dX5_who_118 (by decide) ?_
      have hb : whoN P s k p (j + 1) = if j &&& px P k = j ∧ nI (costW P s k j) = p then ((whoN P s k p j).1 + 1, (whoN P s k p j).2.1 &&& j, (whoN P s k p j).2.2 ||| j) else whoN P s k p j := rfl
      have := ih τ' rfl
      have hd := dif_0 j hj _ hxk
      have hdl : dif j (px P k) < 64 := dif_lt hj
      by_cases hz : dif j (px P k) = 0
      · have hu := hd.mp hz
        have hc : costW P s k j = cost P k (sWt s k) (bt (sTn s) k) (ones j) (sDy s) := by
          unfold costW
          rw [Nat.and_comm, hu]
        first
          | (rw [hb.trans (if_pos ⟨hu, by rw [hc]; exact h_95⟩)] at this
             exact X_lv _ (by simp) this)
          | (rw [hb.trans (if_neg (fun q => h_95 (by rw [← hc]; exact q.2)))] at this
             exact X_lv _ (by simp) this)
          | exact absurd (by rw [hz]; rfl) h_84
      · first
          | exact absurd ((nI_eq (by omega) (by decide)).mp h_84) hz
          | (rw [hb.trans (if_neg (fun q => hz (hd.mpr q.1)))] at this
             exact X_lv _ (by simp) this)
    · refine X_aload_n (i := 0) (pc' := 88) dX5_who_87 rfl rfl rfl ?_
      refine X_iload_n (i := 1) (pc' := 89) dX5_who_88 rfl rfl rfl ?_
      refine X_iload (pc' := 91) dX5_who_89 rfl rfl ?_
      refine X_OIp (As := [_, _]) (rest := []) (pc' := 94) dX5_who_91 rfl k_X5_priceWith l_X5_175 v_X5_priceWith o_M_1 rfl ⟨by decide, by decide⟩ rfl rfl (Nat.le_of_ble_eq_true rfl) (d_priceWith cx τ' hP h hs ho hm hk hj) ?_
      refine X_iload_n (i := 2) (pc' := 95) dX5_who_94 rfl rfl rfl ?_
      refine X_icmp_ne (pc' := 98) (tgt := 115) dX5_who_95 rfl (by decide) (fun h_95 => ?_) (fun h_95 => ?_)
      · refine X_iinc (pc' := 118) (v := nI (j + 1)) (lv' := [(7, _), (6, _), (5, _), (4, _), (0, _), (1, _), (2, _), (3, _)]) dX5_who_115 rfl rfl ((nI_succ j).symm) (Nat.le_of_ble_eq_true rfl) rfl ?_
        refine X_goto (pc' := 0) (tgt := 66) dX5_who_118 (by decide) ?_
        have hb : whoN P s k p (j + 1) = if j &&& px P k = j ∧ nI (costW P s k j) = p then ((whoN P s k p j).1 + 1, (whoN P s k p j).2.1 &&& j, (whoN P s k p j).2.2 ||| j) else whoN P s k p j := rfl
        have := ih τ' rfl
        have hd := dif_0 j hj _ hxk
        have hdl : dif j (px P k) < 64 := dif_lt hj
        by_cases hz : dif j (px P k) = 0
        · have hu := hd.mp hz
          have hc : costW P s k j = cost P k (sWt s k) (bt (sTn s) k) (ones j) (sDy s) := by
            unfold costW
            rw [Nat.and_comm, hu]
          first
            | (rw [hb.trans (if_pos ⟨hu, by rw [hc]; exact h_95⟩)] at this
               exact X_lv _ (by simp) this)
            | (rw [hb.trans (if_neg (fun q => h_95 (by rw [← hc]; exact q.2)))] at this
               exact X_lv _ (by simp) this)
            | exact absurd (by rw [hz]; rfl) h_84
        · first
            | exact absurd ((nI_eq (by omega) (by decide)).mp h_84) hz
            | (rw [hb.trans (if_neg (fun q => hz (hd.mpr q.1)))] at this
               exact X_lv _ (by simp) this)
      · refine X_iinc (pc' := 101) (v := nI ((whoN P s k p j).1 + 1)) (lv' := [(4, _), (7, _), (6, _), (5, _), (0, _), (1, _), (2, _), (3, _)]) dX5_who_98 rfl rfl ((nI_succ _).symm) (Nat.le_of_ble_eq_true rfl) rfl ?_
        refine X_iload (pc' := 103) dX5_who_101 rfl rfl ?_
        refine X_iload (pc' := 105) dX5_who_103 rfl rfl ?_
        refine X_iand (pc' := 106) dX5_who_105 rfl ?_
        refine X_eqi (nI ((whoN P s k p j).2.1 &&& j)) (nI_and (by omega) (by omega)) ?_
        refine X_istore (pc' := 108) (lv' := [(5, _), (4, _), (7, _), (6, _), (0, _), (1, _), (2, _), (3, _)]) dX5_who_106 rfl (Nat.le_of_ble_eq_true rfl) rfl ?_
        refine X_iload (pc' := 110) dX5_who_108 rfl rfl ?_
        refine X_iload (pc' := 112) dX5_who_110 rfl rfl ?_
        refine X_ior (pc' := 113) dX5_who_112 rfl ?_
        refine X_eqi (nI ((whoN P s k p j).2.2 ||| j)) (nI_or (by omega) (by omega)) ?_
        refine X_istore (pc' := 115) (lv' := [(6, _), (5, _), (4, _), (7, _), (0, _), (1, _), (2, _), (3, _)]) dX5_who_113 rfl (Nat.le_of_ble_eq_true rfl) rfl ?_
        refine X_iinc (pc' := 118) (v := nI (j + 1)) (lv' := [(7, _), (6, _), (5, _), (4, _), (0, _), (1, _), (2, _), (3, _)]) dX5_who_115 rfl rfl ((nI_succ j).symm) (Nat.le_of_ble_eq_true rfl) rfl ?_
        refine X_goto (pc' := 0) (tgt := 66) dX5_who_118 (by decide) ?_
        have hb : whoN P s k p (j + 1) = if j &&& px P k = j ∧ nI (costW P s k j) = p then ((whoN P s k p j).1 + 1, (whoN P s k p j).2.1 &&& j, (whoN P s k p j).2.2 ||| j) else whoN P s k p j := rfl
        have := ih τ' rfl
        have hd := dif_0 j hj _ hxk
        have hdl : dif j (px P k) < 64 := dif_lt hj
        by_cases hz : dif j (px P k) = 0
        · have hu := hd.mp hz
          have hc : costW P s k j = cost P k (sWt s k) (bt (sTn s) k) (ones j) (sDy s) := by
            unfold costW
            rw [Nat.and_comm, hu]
          first
            | (rw [hb.trans (if_pos ⟨hu, by rw [hc]; exact h_95⟩)] at this
               exact X_lv _ (by simp) this)
            | (rw [hb.trans (if_neg (fun q => h_95 (by rw [← hc]; exact q.2)))] at this
               exact X_lv _ (by simp) this)
            | exact absurd (by rw [hz]; rfl) h_84
        · first
            | exact absurd ((nI_eq (by omega) (by decide)).mp h_84) hz
            | (rw [hb.trans (if_neg (fun q => hz (hd.mpr q.1)))] at this
               exact X_lv _ (by simp) this)
theorem d_who (τ : xT) {P : PT} (hP : Pok P) (h : MT τ P) {m : Nat} {s : SN} (hs : MS τ 4 0 (pn P) s) (ho : Sok P m s) (hm : m < 4500) (l p w : Int32) : CI cx m_X5_who [.ref 1, .int l, .int p, .int w] PM τ (fun x τ' => τ' = τ ∧ x = whoF P s l p w) := by
  have hn6 := hP.1
  have h26 := two6 hP
  have hst := ho.2.1
  refine Ct_of (by decide) (Nat.le_of_ble_eq_true rfl) (lv := [(0, _), (1, _), (2, _), (3, _)]) rfl ?_
  refine X_aload_n (i := 0) (pc' := 1) dX5_who_0 rfl rfl rfl ?_
  refine X_iload_n (i := 1) (pc' := 2) dX5_who_1 rfl rfl rfl ?_
  refine X_OIp (As := [_]) (rest := []) (pc' := 5) dX5_who_2 rfl k_X5_isLetter l_X5_112 v_X5_isLetter o_M_1 rfl ⟨by decide, by decide⟩ rfl rfl (Nat.le_of_ble_eq_true rfl) (d_isLetter cx τ hP h l) ?_
  refine X_if_ne (pc' := 8) (tgt := 10) dX5_who_5 rfl (by decide) (fun h_5 => ?_) (fun h_5 => ?_)
  · obtain ⟨k, hk, rfl⟩ := kn_of (zI_1 h_5)
    rw [whoF, onL_in hP hk]
    refine X_iload_n (i := 2) (pc' := 11) dX5_who_10 rfl rfl rfl ?_
    refine X_i2l (pc' := 12) dX5_who_11 rfl ?_
    refine X_lconst (pc' := 13) (v := lN 0) dX5_who_12 rfl rfl ?_
    refine X_ldc2 (pc' := 16) (v := lN 60) dX5_who_13 rfl cn_X5_171 ?_
    refine X_SIp (As := [_, _, _]) (rest := []) (pc' := 19) dX5_who_16 rfl k_X5_in l_X5_50 s_X5_in ⟨by decide, by decide⟩ rfl rfl (Nat.le_of_ble_eq_true rfl) (d_in cx τ _ _ _) ?_
    refine X_if_eq (pc' := 22) (tgt := 34) dX5_who_19 rfl (by decide) (fun h_19 => ?_) (fun h_19 => ?_)
    · refine X_bipush (pc' := 36) (v := (-2)) dX5_who_34 rfl (by decide) ?_
      refine X_ri dX5_who_36 rfl ⟨rfl, rfl⟩ ?_
      refine ⟨rfl, ?_⟩
      by_cases hc : isC p
      · rw [if_pos hc]
        refine (swF_out ?_).symm
        have q1 := zI_t ((inW (hi := 60) (by decide)).mpr hc)
        first
          | (have q := zI_0.mp h_31; rw [inW (hi := 2) (by decide)] at q; omega)
          | exact absurd ((inW (hi := 60) (by decide)).mpr hc) (zI_0.mp h_19)
      · rw [if_neg hc]
    · refine X_iload_n (i := 3) (pc' := 23) dX5_who_22 rfl rfl rfl ?_
      refine X_i2l (pc' := 24) dX5_who_23 rfl ?_
      refine X_lconst (pc' := 25) (v := lN 0) dX5_who_24 rfl rfl ?_
      refine X_ldc2 (pc' := 28) (v := lN 2) dX5_who_25 rfl cn_X5_173 ?_
      refine X_SIp (As := [_, _, _]) (rest := []) (pc' := 31) dX5_who_28 rfl k_X5_in l_X5_50 s_X5_in ⟨by decide, by decide⟩ rfl rfl (Nat.le_of_ble_eq_true rfl) (d_in cx τ _ _ _) ?_
      refine X_if_ne (pc' := 34) (tgt := 37) dX5_who_31 rfl (by decide) (fun h_31 => ?_) (fun h_31 => ?_)
      · rw [if_pos (show isC p from (inW (hi := 60) (by decide)).mp (zI_1 h_19))]
        have hw2 := (inW (hi := 2) (by decide)).mp (zI_1 h_31)
        obtain ⟨j, hj, rfl⟩ := xsw_of (x := w) (n := 2) (by omega) (by decide)
        rw [swF_in hj (by decide)]
        refine X_aload_n (i := 0) (pc' := 38) dX5_who_37 rfl rfl rfl ?_
        refine X_iconst (pc' := 39) (v := nI 0) dX5_who_38 rfl (by decide) ?_
        refine X_iload_n (i := 1) (pc' := 40) dX5_who_39 rfl rfl rfl ?_
        refine X_OIp (As := [_, _]) (rest := []) (pc' := 43) dX5_who_40 rfl k_X5_isSent l_X5_116 v_X5_isSent o_M_1 rfl ⟨by decide, by decide⟩ rfl rfl (Nat.le_of_ble_eq_true rfl) (d_isSent cx τ (lev := 0) (by decide) hs (by omega) (show k < 31 by omega)) ?_
        refine X_if_eq (pc' := 46) (tgt := 49) dX5_who_43 rfl (by decide) (fun h_43 => ?_) (fun h_43 => ?_)
        · refine X_iconst (pc' := 50) (v := nI 0) dX5_who_49 rfl (by decide) ?_
          refine X_istore (pc' := 52) (lv' := [(4, _), (0, _), (1, _), (2, _), (3, _)]) dX5_who_50 rfl (Nat.le_of_ble_eq_true rfl) rfl ?_
          refine X_aload_n (i := 0) (pc' := 53) dX5_who_52 rfl rfl rfl ?_
          refine X_get (pc' := 56) (v := .ref 3) dX5_who_53 rfl (gf_X5_13 _ rfl) o_M_1 rfl rfl ?_
          refine X_iload_n (i := 1) (pc' := 57) dX5_who_56 rfl rfl rfl ?_
          refine X_iald (pc' := 58) (j := k) dX5_who_57 rfl (Or.inl r_M_3) (rfl) (by omega) ?_
          refine X_eqi (nI (px P k)) (h.2.2.2.2 k hk) ?_
          refine X_istore (pc' := 60) (lv' := [(5, _), (4, _), (0, _), (1, _), (2, _), (3, _)]) dX5_who_58 rfl (Nat.le_of_ble_eq_true rfl) rfl ?_
          refine X_iconst (pc' := 61) (v := nI 0) dX5_who_60 rfl (by decide) ?_
          refine X_istore (pc' := 63) (lv' := [(6, _), (5, _), (4, _), (0, _), (1, _), (2, _), (3, _)]) dX5_who_61 rfl (Nat.le_of_ble_eq_true rfl) rfl ?_
          refine X_iconst (pc' := 64) (v := nI 0) dX5_who_63 rfl (by decide) ?_
          refine X_istore (pc' := 66) (lv' := [(7, _), (6, _), (5, _), (4, _), (0, _), (1, _), (2, _), (3, _)]) dX5_who_64 rfl (Nat.le_of_ble_eq_true rfl) rfl ?_
          exact X_lv _ (by simp [whoN]) (l2_who cx τ hP h hs ho hm hk p hj (zI_0.mp h_43) 0 τ (by omega) rfl)
        · refine X_bipush (pc' := 48) (v := (-3)) dX5_who_46 rfl (by decide) ?_
          refine X_ri dX5_who_48 rfl ⟨rfl, rfl⟩ ?_
          exact ⟨rfl, (if_pos (zI_1 h_43)).symm⟩
      · refine X_bipush (pc' := 36) (v := (-2)) dX5_who_34 rfl (by decide) ?_
        refine X_ri dX5_who_36 rfl ⟨rfl, rfl⟩ ?_
        refine ⟨rfl, ?_⟩
        by_cases hc : isC p
        · rw [if_pos hc]
          refine (swF_out ?_).symm
          have q1 := zI_t ((inW (hi := 60) (by decide)).mpr hc)
          first
            | (have q := zI_0.mp h_31; rw [inW (hi := 2) (by decide)] at q; omega)
            | exact absurd ((inW (hi := 60) (by decide)).mpr hc) (zI_0.mp h_19)
        · rw [if_neg hc]
  · refine X_iconst (pc' := 9) (v := (-1)) dX5_who_8 rfl (by decide) ?_
    refine X_ri dX5_who_9 rfl ⟨rfl, rfl⟩ ?_
    exact ⟨rfl, (onL_out (zI_0.mp h_5)).symm⟩
end M6
