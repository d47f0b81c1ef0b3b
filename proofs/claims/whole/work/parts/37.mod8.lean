/-! ===== the model: two that write, at rest ===== -/
theorem ones_or : ∀ x, x < 64 → ∀ st, st < 64 → ∀ b, b < 6 → ¬ bt st b → ones (x &&& (st ||| 2 ^ b)) = ones (x &&& st) + (if bt x b then 1 else 0) := by decide +kernel
section M8
variable (cx : xC)
set_option maxHeartbeats 4000000
set_option maxRecDepth 100000
theorem d_paysIf2 (τ : xT) {P : PT} (hP : Pok P) {m : Nat} {s : SN} (ho : Sok P m s) (hm : m < 4000) {a b n d : Nat} (ha : a < pn P) (hb : b < pn P) (hn : n < 4) (hd : d < 4) (hsa : ¬ bt (sSt s) a) (hsb : ¬ bt (sSt s) b) {τ' : xT} (hT : MT τ' P) (g : xtr τ τ') (h0 : MS τ' 4 0 (pn P) s) (hm2 : MS τ' 4 17 (pn P) (passD s n)) : X cx m_X5_paysIf PM (qI PM (fun x τ' => x = nI (besN P s a n b d) ∧ xtr τ τ')) 24 [(5, .int (nI n)), (0, .ref 1), (1, .int (nI a)), (2, .int (nI b)), (3, .int (nI n)), (4, .int (nI d))] [] PM τ' := by
  obtain ⟨g0, g1, g2, g3, g4, g5, g6⟩ := id h0
  obtain ⟨e0, e1, e2, e3, e4, e5, e6⟩ := id hm2
  have hn6 := hP.1
  have h26 := two6 hP
  have hst := ho.2.1
  have htn := ho.2.2.2.1
  have hdy := ho.1
  have hx := hP.2.2.2.2 a ha
  have hw := (passD_ok ho n).2.2.2.2.2.1 a ha
  have hob := ones_le (px P a &&& sSt s)
  have hpd := passD_sent s n
  have hcl := costIn_le P s a n (if d < n then sSt s ||| 2 ^ b else sSt s)
  have hcc : cost P a (sWt (passD s n) a) (bt (sTn s) a) (ones (px P a &&& sSt s) + (if d < n ∧ bt (px P a) b then 1 else 0)) (sDy s + n) = costIn P s a n (if d < n then sSt s ||| 2 ^ b else sSt s) := by
    unfold costIn
    rw [passD_wt hsa (ho.2.2.2.2.2.1 a ha) n]
    by_cases q : d < n
    · rw [if_pos q, ones_or _ hx _ (by omega) _ (by omega) hsb]
      by_cases q2 : bt (px P a) b
      · rw [if_pos ⟨q, q2⟩, if_pos q2]
      · rw [if_neg (fun r => q2 r.2), if_neg q2]
    · rw [if_neg q, if_neg (fun r => q r.1)]; rfl
  refine X_aload_n (i := 0) (pc' := 25) dX5_paysIf_24 rfl rfl rfl ?_
  refine X_get (pc' := 28) (v := .ref 3) dX5_paysIf_25 rfl (gf_X5_13 _ rfl) o_M_1 rfl rfl ?_
  refine X_iload_n (i := 1) (pc' := 29) dX5_paysIf_28 rfl rfl rfl ?_
  refine X_iald (pc' := 30) (j := a) dX5_paysIf_29 rfl (Or.inl r_M_3) (rfl) (by omega) ?_
  refine X_eqi (nI (px P a)) (hT.2.2.2.2 a ha) ?_
  refine X_aload_n (i := 0) (pc' := 31) dX5_paysIf_30 rfl rfl rfl ?_
  refine X_get (pc' := 34) (v := .ref 4) dX5_paysIf_31 rfl (gf_X5_16 _ rfl) o_M_1 rfl rfl ?_
  refine X_bipush (pc' := 36) (v := nI 13) dX5_paysIf_34 rfl (by decide) ?_
  refine X_iald (pc' := 37) (j := 13) dX5_paysIf_36 rfl (Or.inl r_M_4) (rfl) (by decide) ?_
  refine X_eqi (nI (sSt s)) (g3) ?_
  refine X_iand (pc' := 38) dX5_paysIf_37 rfl ?_
  refine X_eqi (nI (px P a &&& sSt s)) (nI_and (by omega) (by omega)) ?_
  refine X_SIp (As := [_]) (rest := []) (pc' := 41) dX5_paysIf_38 rfl k_X5_ones l_X5_105 s_X5_ones ⟨by decide, by decide⟩ rfl rfl (Nat.le_of_ble_eq_true rfl) (d_ones cx τ' (px P a &&& sSt s) (and_lt64 hx)) ?_
  refine X_iload (pc' := 43) dX5_paysIf_41 rfl rfl ?_
  refine X_iload_n (i := 3) (pc' := 44) dX5_paysIf_43 rfl rfl rfl ?_
  refine X_icmp_ge (pc' := 47) (tgt := 64) dX5_paysIf_44 rfl (by decide) (fun h_44 => ?_) (fun h_44 => ?_)
  · refine X_iconst (pc' := 65) (v := nI 0) dX5_paysIf_64 rfl (by decide) ?_
    refine X_iadd (pc' := 66) dX5_paysIf_65 rfl ?_
    refine X_eqi (nI (ones (px P a &&& sSt s) + (if d < n ∧ bt (px P a) b then 1 else 0))) (by first | (rw [if_neg (fun q => nI_ge q.1 (by omega) h_44)]; exact nI_add _ _) | (rw [if_neg (fun q => (zI_0.mp h_57) q.2)]; exact nI_add _ _) | (rw [if_pos ⟨(nI_ltI (by omega) (by omega)).mp (Int32.not_le.mp h_44), zI_1 h_57⟩]; exact nI_add _ _)) ?_
    refine X_istore (pc' := 68) (lv' := [(5, _), (0, _), (1, _), (2, _), (3, _), (4, _)]) dX5_paysIf_66 rfl (Nat.le_of_ble_eq_true rfl) rfl ?_
    refine X_aload_n (i := 0) (pc' := 69) dX5_paysIf_68 rfl rfl rfl ?_
    refine X_iload_n (i := 1) (pc' := 70) dX5_paysIf_69 rfl rfl rfl ?_
    refine X_aload_n (i := 0) (pc' := 71) dX5_paysIf_70 rfl rfl rfl ?_
    refine X_get (pc' := 74) (v := .ref 4) dX5_paysIf_71 rfl (gf_X5_16 _ rfl) o_M_1 rfl rfl ?_
    refine X_bipush (pc' := 76) (v := nI 17) dX5_paysIf_74 rfl (by decide) ?_
    refine X_iload_n (i := 1) (pc' := 77) dX5_paysIf_76 rfl rfl rfl ?_
    refine X_iadd (pc' := 78) dX5_paysIf_77 rfl ?_
    refine X_iald (pc' := 79) (j := 17 + a) dX5_paysIf_78 rfl (Or.inl r_M_4) (nI_add _ _) (by omega) ?_
    refine X_eqi (nI (sWt (passD s n) a)) (e0 a ha) ?_
    refine X_aload_n (i := 0) (pc' := 80) dX5_paysIf_79 rfl rfl rfl ?_
    refine X_get (pc' := 83) (v := .ref 4) dX5_paysIf_80 rfl (gf_X5_16 _ rfl) o_M_1 rfl rfl ?_
    refine X_bipush (pc' := 85) (v := nI 12) dX5_paysIf_83 rfl (by decide) ?_
    refine X_iald (pc' := 86) (j := 12) dX5_paysIf_85 rfl (Or.inl r_M_4) (rfl) (by decide) ?_
    refine X_eqi (nI (sTn s)) (g2) ?_
    refine X_iload_n (i := 1) (pc' := 87) dX5_paysIf_86 rfl rfl rfl ?_
    refine X_SIp (As := [_, _]) (rest := [_, _, _]) (pc' := 90) dX5_paysIf_87 rfl k_X5_has l_X5_65 s_X5_has ⟨by decide, by decide⟩ rfl rfl (Nat.le_of_ble_eq_true rfl) (d_has cx τ' (sTn s) a (by omega) (by omega)) ?_
    refine X_iload (pc' := 92) dX5_paysIf_90 rfl rfl ?_
    refine X_aload_n (i := 0) (pc' := 93) dX5_paysIf_92 rfl rfl rfl ?_
    refine X_get (pc' := 96) (v := .ref 4) dX5_paysIf_93 rfl (gf_X5_16 _ rfl) o_M_1 rfl rfl ?_
    refine X_bipush (pc' := 98) (v := nI 31) dX5_paysIf_96 rfl (by decide) ?_
    refine X_iald (pc' := 99) (j := 31) dX5_paysIf_98 rfl (Or.inl r_M_4) (rfl) (by decide) ?_
    refine X_eqi (nI (sDy s + n)) (e4.trans (by rw [hpd.2.2.2])) ?_
    refine X_OIp (As := [_, _, _, _, _]) (rest := []) (pc' := 102) dX5_paysIf_99 rfl k_X5_priceBy l_X5_108 v_X5_priceBy o_M_1 rfl ⟨by decide, by decide⟩ rfl rfl (Nat.le_of_ble_eq_true rfl) (d_priceBy cx τ' hP hT ha hw (by split <;> omega) (by omega)) ?_
    refine X_eqi (nI (costIn P s a n (if d < n then sSt s ||| 2 ^ b else sSt s))) (by rw [hcc]) ?_
    refine X_istore (pc' := 104) (lv' := [(6, _), (5, _), (0, _), (1, _), (2, _), (3, _), (4, _)]) dX5_paysIf_102 rfl (Nat.le_of_ble_eq_true rfl) rfl ?_
    refine X_iload_n (i := 3) (pc' := 105) dX5_paysIf_104 rfl rfl rfl ?_
    refine X_iload (pc' := 107) dX5_paysIf_105 rfl rfl ?_
    refine X_icmp_ne (pc' := 110) (tgt := 117) dX5_paysIf_107 rfl (by decide) (fun h_107 => ?_) (fun h_107 => ?_)
    · refine X_iload (pc' := 119) dX5_paysIf_117 rfl rfl ?_
      refine X_ri dX5_paysIf_119 rfl ⟨rfl, rfl⟩ ?_
      unfold besN
      first
        | exact ⟨by rw [if_neg (show ¬ n = d from fun q => h_107 (by rw [q]))]; rfl, g⟩
        | exact ⟨by rw [if_pos (show n = d from (nI_eq (by omega) (by omega)).mp h_107)], g⟩
    · refine X_iload (pc' := 112) dX5_paysIf_110 rfl rfl ?_
      refine X_iconst (pc' := 113) (v := nI 2) dX5_paysIf_112 rfl (by decide) ?_
      refine X_iadd (pc' := 114) dX5_paysIf_113 rfl ?_
      refine X_eqi (nI (costIn P s a n (if d < n then sSt s ||| 2 ^ b else sSt s) + 2)) (nI_add _ _) ?_
      refine X_goto (pc' := 0) (tgt := 119) dX5_paysIf_114 (by decide) ?_
      refine X_ri dX5_paysIf_119 rfl ⟨rfl, rfl⟩ ?_
      unfold besN
      first
        | exact ⟨by rw [if_neg (show ¬ n = d from fun q => h_107 (by rw [q]))]; rfl, g⟩
        | exact ⟨by rw [if_pos (show n = d from (nI_eq (by omega) (by omega)).mp h_107)], g⟩
  · refine X_aload_n (i := 0) (pc' := 48) dX5_paysIf_47 rfl rfl rfl ?_
    refine X_get (pc' := 51) (v := .ref 3) dX5_paysIf_48 rfl (gf_X5_13 _ rfl) o_M_1 rfl rfl ?_
    refine X_iload_n (i := 1) (pc' := 52) dX5_paysIf_51 rfl rfl rfl ?_
    refine X_iald (pc' := 53) (j := a) dX5_paysIf_52 rfl (Or.inl r_M_3) (rfl) (by omega) ?_
    refine X_eqi (nI (px P a)) (hT.2.2.2.2 a ha) ?_
    refine X_iload_n (i := 2) (pc' := 54) dX5_paysIf_53 rfl rfl rfl ?_
    refine X_SIp (As := [_, _]) (rest := [_]) (pc' := 57) dX5_paysIf_54 rfl k_X5_has l_X5_65 s_X5_has ⟨by decide, by decide⟩ rfl rfl (Nat.le_of_ble_eq_true rfl) (d_has cx τ' (px P a) b (by omega) (by omega)) ?_
    refine X_if_eq (pc' := 60) (tgt := 64) dX5_paysIf_57 rfl (by decide) (fun h_57 => ?_) (fun h_57 => ?_)
    · refine X_iconst (pc' := 65) (v := nI 0) dX5_paysIf_64 rfl (by decide) ?_
      refine X_iadd (pc' := 66) dX5_paysIf_65 rfl ?_
      refine X_eqi (nI (ones (px P a &&& sSt s) + (if d < n ∧ bt (px P a) b then 1 else 0))) (by first | (rw [if_neg (fun q => nI_ge q.1 (by omega) h_44)]; exact nI_add _ _) | (rw [if_neg (fun q => (zI_0.mp h_57) q.2)]; exact nI_add _ _) | (rw [if_pos ⟨(nI_ltI (by omega) (by omega)).mp (Int32.not_le.mp h_44), zI_1 h_57⟩]; exact nI_add _ _)) ?_
      refine X_istore (pc' := 68) (lv' := [(5, _), (0, _), (1, _), (2, _), (3, _), (4, _)]) dX5_paysIf_66 rfl (Nat.le_of_ble_eq_true rfl) rfl ?_
      refine X_aload_n (i := 0) (pc' := 69) dX5_paysIf_68 rfl rfl rfl ?_
      refine X_iload_n (i := 1) (pc' := 70) dX5_paysIf_69 rfl rfl rfl ?_
      refine X_aload_n (i := 0) (pc' := 71) dX5_paysIf_70 rfl rfl rfl ?_
      refine X_get (pc' := 74) (v := .ref 4) dX5_paysIf_71 rfl (gf_X5_16 _ rfl) o_M_1 rfl rfl ?_
      refine X_bipush (pc' := 76) (v := nI 17) dX5_paysIf_74 rfl (by decide) ?_
      refine X_iload_n (i := 1) (pc' := 77) dX5_paysIf_76 rfl rfl rfl ?_
      refine X_iadd (pc' := 78) dX5_paysIf_77 rfl ?_
      refine X_iald (pc' := 79) (j := 17 + a) dX5_paysIf_78 rfl (Or.inl r_M_4) (nI_add _ _) (by omega) ?_
      refine X_eqi (nI (sWt (passD s n) a)) (e0 a ha) ?_
      refine X_aload_n (i := 0) (pc' := 80) dX5_paysIf_79 rfl rfl rfl ?_
      refine X_get (pc' := 83) (v := .ref 4) dX5_paysIf_80 rfl (gf_X5_16 _ rfl) o_M_1 rfl rfl ?_
      refine X_bipush (pc' := 85) (v := nI 12) dX5_paysIf_83 rfl (by decide) ?_
      refine X_iald (pc' := 86) (j := 12) dX5_paysIf_85 rfl (Or.inl r_M_4) (rfl) (by decide) ?_
      refine X_eqi (nI (sTn s)) (g2) ?_
      refine X_iload_n (i := 1) (pc' := 87) dX5_paysIf_86 rfl rfl rfl ?_
      refine X_SIp (As := [_, _]) (rest := [_, _, _]) (pc' := 90) dX5_paysIf_87 rfl k_X5_has l_X5_65 s_X5_has ⟨by decide, by decide⟩ rfl rfl (Nat.le_of_ble_eq_true rfl) (d_has cx τ' (sTn s) a (by omega) (by omega)) ?_
      refine X_iload (pc' := 92) dX5_paysIf_90 rfl rfl ?_
      refine X_aload_n (i := 0) (pc' := 93) dX5_paysIf_92 rfl rfl rfl ?_
      refine X_get (pc' := 96) (v := .ref 4) dX5_paysIf_93 rfl (gf_X5_16 _ rfl) o_M_1 rfl rfl ?_
      refine X_bipush (pc' := 98) (v := nI 31) dX5_paysIf_96 rfl (by decide) ?_
      refine X_iald (pc' := 99) (j := 31) dX5_paysIf_98 rfl (Or.inl r_M_4) (rfl) (by decide) ?_
      refine X_eqi (nI (sDy s + n)) (e4.trans (by rw [hpd.2.2.2])) ?_
      refine X_OIp (As := [_, _, _, _, _]) (rest := []) (pc' := 102) dX5_paysIf_99 rfl k_X5_priceBy l_X5_108 v_X5_priceBy o_M_1 rfl ⟨by decide, by decide⟩ rfl rfl (Nat.le_of_ble_eq_true rfl) (d_priceBy cx τ' hP hT ha hw (by split <;> omega) (by omega)) ?_
      refine X_eqi (nI (costIn P s a n (if d < n then sSt s ||| 2 ^ b else sSt s))) (by rw [hcc]) ?_
      refine X_istore (pc' := 104) (lv' := [(6, _), (5, _), (0, _), (1, _), (2, _), (3, _), (4, _)]) dX5_paysIf_102 rfl (Nat.le_of_ble_eq_true rfl) rfl ?_
      refine X_iload_n (i := 3) (pc' := 105) dX5_paysIf_104 rfl rfl rfl ?_
      refine X_iload (pc' := 107) dX5_paysIf_105 rfl rfl ?_
      refine X_icmp_ne (pc' := 110) (tgt := 117) dX5_paysIf_107 rfl (by decide) (fun h_107 => ?_) (fun h_107 => ?_)
      · refine X_iload (pc' := 119) dX5_paysIf_117 rfl rfl ?_
        refine X_ri dX5_paysIf_119 rfl ⟨rfl, rfl⟩ ?_
        unfold besN
        first
          | exact ⟨by rw [if_neg (show ¬ n = d from fun q => h_107 (by rw [q]))]; rfl, g⟩
          | exact ⟨by rw [if_pos (show n = d from (nI_eq (by omega) (by omega)).mp h_107)], g⟩
      · refine X_iload (pc' := 112) dX5_paysIf_110 rfl rfl ?_
        refine X_iconst (pc' := 113) (v := nI 2) dX5_paysIf_112 rfl (by decide) ?_
        refine X_iadd (pc' := 114) dX5_paysIf_113 rfl ?_
        refine X_eqi (nI (costIn P s a n (if d < n then sSt s ||| 2 ^ b else sSt s) + 2)) (nI_add _ _) ?_
        refine X_goto (pc' := 0) (tgt := 119) dX5_paysIf_114 (by decide) ?_
        refine X_ri dX5_paysIf_119 rfl ⟨rfl, rfl⟩ ?_
        unfold besN
        first
          | exact ⟨by rw [if_neg (show ¬ n = d from fun q => h_107 (by rw [q]))]; rfl, g⟩
          | exact ⟨by rw [if_pos (show n = d from (nI_eq (by omega) (by omega)).mp h_107)], g⟩
    · refine X_iconst (pc' := 61) (v := nI 1) dX5_paysIf_60 rfl (by decide) ?_
      refine X_goto (pc' := 0) (tgt := 65) dX5_paysIf_61 (by decide) ?_
      refine X_iadd (pc' := 66) dX5_paysIf_65 rfl ?_
      refine X_eqi (nI (ones (px P a &&& sSt s) + (if d < n ∧ bt (px P a) b then 1 else 0))) (by first | (rw [if_neg (fun q => nI_ge q.1 (by omega) h_44)]; exact nI_add _ _) | (rw [if_neg (fun q => (zI_0.mp h_57) q.2)]; exact nI_add _ _) | (rw [if_pos ⟨(nI_ltI (by omega) (by omega)).mp (Int32.not_le.mp h_44), zI_1 h_57⟩]; exact nI_add _ _)) ?_
      refine X_istore (pc' := 68) (lv' := [(5, _), (0, _), (1, _), (2, _), (3, _), (4, _)]) dX5_paysIf_66 rfl (Nat.le_of_ble_eq_true rfl) rfl ?_
      refine X_aload_n (i := 0) (pc' := 69) dX5_paysIf_68 rfl rfl rfl ?_
      refine X_iload_n (i := 1) (pc' := 70) dX5_paysIf_69 rfl rfl rfl ?_
      refine X_aload_n (i := 0) (pc' := 71) dX5_paysIf_70 rfl rfl rfl ?_
      refine X_get (pc' := 74) (v := .ref 4) dX5_paysIf_71 rfl (gf_X5_16 _ rfl) o_M_1 rfl rfl ?_
      refine X_bipush (pc' := 76) (v := nI 17) dX5_paysIf_74 rfl (by decide) ?_
      refine X_iload_n (i := 1) (pc' := 77) dX5_paysIf_76 rfl rfl rfl ?_
      refine X_iadd (pc' := 78) dX5_paysIf_77 rfl ?_
      refine X_iald (pc' := 79) (j := 17 + a) dX5_paysIf_78 rfl (Or.inl r_M_4) (nI_add _ _) (by omega) ?_
      refine X_eqi (nI (sWt (passD s n) a)) (e0 a ha) ?_
      refine X_aload_n (i := 0) (pc' := 80) dX5_paysIf_79 rfl rfl rfl ?_
      refine X_get (pc' := 83) (v := .ref 4) dX5_paysIf_80 rfl (gf_X5_16 _ rfl) o_M_1 rfl rfl ?_
      refine X_bipush (pc' := 85) (v := nI 12) dX5_paysIf_83 rfl (by decide) ?_
      refine X_iald (pc' := 86) (j := 12) dX5_paysIf_85 rfl (Or.inl r_M_4) (rfl) (by decide) ?_
      refine X_eqi (nI (sTn s)) (g2) ?_
      refine X_iload_n (i := 1) (pc' := 87) dX5_paysIf_86 rfl rfl rfl ?_
      refine X_SIp (As := [_, _]) (rest := [_, _, _]) (pc' := 90) dX5_paysIf_87 rfl k_X5_has l_X5_65 s_X5_has ⟨by decide, by decide⟩ rfl rfl (Nat.le_of_ble_eq_true rfl) (d_has cx τ' (sTn s) a (by omega) (by omega)) ?_
      refine X_iload (pc' := 92) dX5_paysIf_90 rfl rfl ?_
      refine X_aload_n (i := 0) (pc' := 93) dX5_paysIf_92 rfl rfl rfl ?_
      refine X_get (pc' := 96) (v := .ref 4) dX5_paysIf_93 rfl (gf_X5_16 _ rfl) o_M_1 rfl rfl ?_
      refine X_bipush (pc' := 98) (v := nI 31) dX5_paysIf_96 rfl (by decide) ?_
      refine X_iald (pc' := 99) (j := 31) dX5_paysIf_98 rfl (Or.inl r_M_4) (rfl) (by decide) ?_
      refine X_eqi (nI (sDy s + n)) (e4.trans (by rw [hpd.2.2.2])) ?_
      refine X_OIp (As := [_, _, _, _, _]) (rest := []) (pc' := 102) dX5_paysIf_99 rfl k_X5_priceBy l_X5_108 v_X5_priceBy o_M_1 rfl ⟨by decide, by decide⟩ rfl rfl (Nat.le_of_ble_eq_true rfl) (d_priceBy cx τ' hP hT ha hw (by split <;> omega) (by omega)) ?_
      refine X_eqi (nI (costIn P s a n (if d < n then sSt s ||| 2 ^ b else sSt s))) (by rw [hcc]) ?_
      refine X_istore (pc' := 104) (lv' := [(6, _), (5, _), (0, _), (1, _), (2, _), (3, _), (4, _)]) dX5_paysIf_102 rfl (Nat.le_of_ble_eq_true rfl) rfl ?_
      refine X_iload_n (i := 3) (pc' := 105) dX5_paysIf_104 rfl rfl rfl ?_
      refine X_iload (pc' := 107) dX5_paysIf_105 rfl rfl ?_
      refine X_icmp_ne (pc' := 110) (tgt := 117) dX5_paysIf_107 rfl (by decide) (fun h_107 => ?_) (fun h_107 => ?_)
      · refine X_iload (pc' := 119) dX5_paysIf_117 rfl rfl ?_
        refine X_ri dX5_paysIf_119 rfl ⟨rfl, rfl⟩ ?_
        unfold besN
        first
          | exact ⟨by rw [if_neg (show ¬ n = d from fun q => h_107 (by rw [q]))]; rfl, g⟩
          | exact ⟨by rw [if_pos (show n = d from (nI_eq (by omega) (by omega)).mp h_107)], g⟩
      · refine X_iload (pc' := 112) dX5_paysIf_110 rfl rfl ?_
        refine X_iconst (pc' := 113) (v := nI 2) dX5_paysIf_112 rfl (by decide) ?_
        refine X_iadd (pc' := 114) dX5_paysIf_113 rfl ?_
        refine X_eqi (nI (costIn P s a n (if d < n then sSt s ||| 2 ^ b else sSt s) + 2)) (nI_add _ _) ?_
        refine X_goto (pc' := 0) (tgt := 119) dX5_paysIf_114 (by decide) ?_
        refine X_ri dX5_paysIf_119 rfl ⟨rfl, rfl⟩ ?_
        unfold besN
        first
          | exact ⟨by rw [if_neg (show ¬ n = d from fun q => h_107 (by rw [q]))]; rfl, g⟩
          | exact ⟨by rw [if_pos (show n = d from (nI_eq (by omega) (by omega)).mp h_107)], g⟩
theorem d_paysIf (τ : xT) {P : PT} (hP : Pok P) (h : MT τ P) {m : Nat} {s : SN} (hs : MS τ 4 0 (pn P) s) (ho : Sok P m s) (hm : m < 4000) {a b n d : Nat} (ha : a < pn P) (hb : b < pn P) (hn : n < 4) (hd : d < 4) (hsa : ¬ bt (sSt s) a) (hsb : ¬ bt (sSt s) b) : CI cx m_X5_paysIf [.ref 1, .int (nI a), .int (nI b), .int (nI n), .int (nI d)] PM τ (fun x τ' => x = nI (besN P s a n b d) ∧ xtr τ τ') := by
  have hn6 := hP.1
  have hlp : ∀ (j : Nat) (τ' : xT), j ≤ n → (xtr τ τ' ∧ MS τ' 4 17 (pn P) (passD s j)) → X cx m_X5_paysIf PM (qI PM (fun x τ' => x = nI (besN P s a n b d) ∧ xtr τ τ')) 7 [(5, .int (nI j)), (0, .ref 1), (1, .int (nI a)), (2, .int (nI b)), (3, .int (nI n)), (4, .int (nI d))] [] PM τ' := by
    refine xloop _ _ n (fun τ' g => ?_) (fun j τ' hj g ih => ?_)
    · refine X_iload (pc' := 9) dX5_paysIf_7 rfl rfl ?_
      refine X_iload_n (i := 3) (pc' := 10) dX5_paysIf_9 rfl rfl rfl ?_
      refine X_icmp_ge (pc' := 13) (tgt := 24) dX5_paysIf_10 rfl (by decide) (fun h_10 => ?_) (fun h_10 => absurd (nI_le (Nat.le_refl _) (by omega)) h_10)
      exact d_paysIf2 cx τ hP ho hm ha hb hn hd hsa hsb (g.1.mt h) g.1 (g.1.ms hn6 hs) g.2
    · refine X_iload (pc' := 9) dX5_paysIf_7 rfl rfl ?_
      refine X_iload_n (i := 3) (pc' := 10) dX5_paysIf_9 rfl rfl rfl ?_
      refine X_icmp_ge (pc' := 13) (tgt := 24) dX5_paysIf_10 rfl (by decide) (fun h_10 => absurd h_10 (nI_ge hj (by omega))) (fun h_10 => ?_)
      refine X_aload_n (i := 0) (pc' := 14) dX5_paysIf_13 rfl rfl rfl ?_
      refine X_iconst (pc' := 15) (v := nI 1) dX5_paysIf_14 rfl (by decide) ?_
      refine X_OV (As := [_]) (rest := []) (pc' := 18) dX5_paysIf_15 rfl k_X5_passOn l_X5_131 v_X5_passOn o_M_1 rfl ⟨by decide, by decide⟩ rfl rfl (Nat.le_of_ble_eq_true rfl) (d_passOn cx τ' hP (g.1.mt h) (lev := 1) (by decide) g.2 (passD_ok ho j) (by omega)) (fun τ_15 h_15 => ?_)
      refine X_iinc (pc' := 21) (v := nI (j + 1)) (lv' := [(5, _), (0, _), (1, _), (2, _), (3, _), (4, _)]) dX5_paysIf_18 rfl rfl (nI_add _ _) (Nat.le_of_ble_eq_true rfl) rfl ?_
      refine X_goto (pc' := 0) (tgt := 7) dX5_paysIf_21 (by decide) ?_
      exact X_lv _ (by simp) (ih _ ⟨g.1.tr ⟨h_15.1, fun i hi => h_15.2.1 i (Or.inl (by omega))⟩, h_15.2.2⟩)
  refine Ct_of (by decide) (Nat.le_of_ble_eq_true rfl) (lv := [(0, _), (1, _), (2, _), (3, _), (4, _)]) rfl ?_
  refine X_aload_n (i := 0) (pc' := 1) dX5_paysIf_0 rfl rfl rfl ?_
  refine X_OV (As := []) (rest := []) (pc' := 4) dX5_paysIf_1 rfl k_X5_layTrial l_X5_135 v_X5_layTrial o_M_1 rfl ⟨by decide, by decide⟩ rfl rfl (Nat.le_of_ble_eq_true rfl) (d_layTrial cx τ) (fun τ_1 h_1 => ?_)
  refine X_iconst (pc' := 5) (v := nI 0) dX5_paysIf_4 rfl (by decide) ?_
  refine X_istore (pc' := 7) (lv' := [(5, _), (0, _), (1, _), (2, _), (3, _), (4, _)]) dX5_paysIf_5 rfl (Nat.le_of_ble_eq_true rfl) rfl ?_
  exact X_lv _ (by simp) (hlp 0 _ (Nat.zero_le _) ⟨⟨h_1.1, h_1.2.1⟩, hs.copy hn6 (fun i hi => by rw [Nat.zero_add]; exact h_1.2.2 i hi)⟩)
abbrev resU (P : PT) (s : SN) (a n b d j : Nat) : Prop := ∀ e, e < j → ¬ besN P s a e b d < besN P s a n b d ∧ ¬ besN P s b e a n < besN P s b d a n
theorem d_isRest (τ : xT) {P : PT} (hP : Pok P) (h : MT τ P) {m : Nat} {s : SN} (hs : MS τ 4 0 (pn P) s) (ho : Sok P m s) (hm : m < 4000) {a b n d : Nat} (ha : a < pn P) (hb : b < pn P) (hn : n < 4) (hd : d < 4) (hsa : ¬ bt (sSt s) a) (hsb : ¬ bt (sSt s) b) : CI cx m_X5_isRest [.ref 1, .int (nI a), .int (nI b), .int (nI n), .int (nI d)] PM τ (fun x τ' => x = zI (isB P s a n b d ∧ isB P s b d a n) ∧ xtr τ τ') := by
  have hn6 := hP.1
  have hlp : ∀ (j : Nat) (τ' : xT), j ≤ 4 → xtr τ τ' → X cx m_X5_isRest PM (qI PM (fun x τ' => x = zI (isB P s a n b d ∧ isB P s b d a n) ∧ xtr τ τ')) 6 [(6, .int (nI j)), (5, .int (zI (resU P s a n b d j))), (0, .ref 1), (1, .int (nI a)), (2, .int (nI b)), (3, .int (nI n)), (4, .int (nI d))] [] PM τ' := by
    refine xloop _ _ 4 (fun τ' g => ?_) (fun j τ' hj g ih => ?_)
    · refine X_iload (pc' := 8) dX5_isRest_6 rfl rfl ?_
      refine X_iconst (pc' := 9) (v := nI 4) dX5_isRest_8 rfl (by decide) ?_
      refine X_icmp_ge (pc' := 12) (tgt := 73) dX5_isRest_9 rfl (by decide) (fun h_9 => ?_) (fun h_9 => absurd (nI_le (Nat.le_refl _) (by omega)) h_9)
      refine X_iload (pc' := 75) dX5_isRest_73 rfl rfl ?_
      refine X_rz dX5_isRest_75 rfl (zI_nar) ⟨rfl, rfl⟩ ?_
      refine ⟨?_, g⟩
      by_cases q : resU P s a n b d 4
      · exact (zI_t q).trans (zI_t ⟨fun e he => (q e he).1, fun e he => (q e he).2⟩).symm
      · exact (zI_f q).trans (zI_f (fun r => q (fun e he => ⟨r.1 e he, r.2 e he⟩))).symm
    · have b1 := besN_le P s a j b d
      have b2 := besN_le P s a n b d
      have b3 := besN_le P s b j a n
      have b4 := besN_le P s b d a n
      refine X_iload (pc' := 8) dX5_isRest_6 rfl rfl ?_
      refine X_iconst (pc' := 9) (v := nI 4) dX5_isRest_8 rfl (by decide) ?_
      refine X_icmp_ge (pc' := 12) (tgt := 73) dX5_isRest_9 rfl (by decide) (fun h_9 => absurd h_9 (nI_ge hj (by omega))) (fun h_9 => ?_)
      refine X_iload (pc' := 14) dX5_isRest_12 rfl rfl ?_
      refine X_if_eq (pc' := 17) (tgt := 64) dX5_isRest_14 rfl (by decide) (fun h_14 => ?_) (fun h_14 => ?_)
      · refine X_iconst (pc' := 65) (v := nI 0) dX5_isRest_64 rfl (by decide) ?_
        refine X_istore (pc' := 67) (lv' := [(5, _), (6, _), (0, _), (1, _), (2, _), (3, _), (4, _)]) dX5_isRest_65 rfl (Nat.le_of_ble_eq_true rfl) rfl ?_
        refine X_iinc (pc' := 70) (v := nI (j + 1)) (lv' := [(6, _), (5, _), (0, _), (1, _), (2, _), (3, _), (4, _)]) dX5_isRest_67 rfl rfl (nI_add _ _) (Nat.le_of_ble_eq_true rfl) rfl ?_
        refine X_goto (pc' := 0) (tgt := 6) dX5_isRest_70 (by decide) ?_
        have hup : resU P s a n b d (j + 1) ↔ resU P s a n b d j ∧ ¬ besN P s a j b d < besN P s a n b d ∧ ¬ besN P s b j a n < besN P s b d a n := by
          constructor
          · exact fun q => ⟨fun e he => q e (by omega), q j (by omega)⟩
          · intro q e he
            by_cases hej : e = j
            · rw [hej]; exact q.2
            · exact q.1 e (by omega)
        first
          | (have := ih _ g
             rw [zI_f (fun q => (zI_0.mp h_14) (hup.mp q).1)] at this
             exact X_lv _ (by simp) this)
          | (have := ih _ ((g.tr h_24.2).tr h_33.2)
             rw [zI_f (fun q => (hup.mp q).2.1 ((nI_ltI (by omega) (by omega)).mp h_36))] at this
             exact X_lv _ (by simp) this)
          | (have := ih _ ((((g.tr h_24.2).tr h_33.2).tr h_45.2).tr h_54.2)
             rw [zI_f (fun q => (hup.mp q).2.2 ((nI_ltI (by omega) (by omega)).mp h_57))] at this
             exact X_lv _ (by simp) this)
          | (have := ih _ ((((g.tr h_24.2).tr h_33.2).tr h_45.2).tr h_54.2)
             rw [zI_t (hup.mpr ⟨zI_1 h_14, fun q => absurd ((nI_ltI (by omega) (by omega)).mpr q) h_36, fun q => absurd ((nI_ltI (by omega) (by omega)).mpr q) h_57⟩)] at this
             exact X_lv _ (by simp) this)
      · refine X_aload_n (i := 0) (pc' := 18) dX5_isRest_17 rfl rfl rfl ?_
        refine X_iload_n (i := 1) (pc' := 19) dX5_isRest_18 rfl rfl rfl ?_
        refine X_iload_n (i := 2) (pc' := 20) dX5_isRest_19 rfl rfl rfl ?_
        refine X_iload (pc' := 22) dX5_isRest_20 rfl rfl ?_
        refine X_iload (pc' := 24) dX5_isRest_22 rfl rfl ?_
        refine X_OI (As := [_, _, _, _]) (rest := []) (pc' := 27) dX5_isRest_24 rfl k_X5_paysIf l_X5_184 v_X5_paysIf o_M_1 rfl ⟨by decide, by decide⟩ rfl rfl (Nat.le_of_ble_eq_true rfl) (d_paysIf cx τ' hP (g.mt h) (g.ms hn6 hs) ho hm ha hb (show j < 4 by omega) hd hsa hsb) (fun x_24 τ_24 h_24 => ?_)
        refine X_eqi (nI (besN P s a j b d)) (h_24.1) ?_
        refine X_aload_n (i := 0) (pc' := 28) dX5_isRest_27 rfl rfl rfl ?_
        refine X_iload_n (i := 1) (pc' := 29) dX5_isRest_28 rfl rfl rfl ?_
        refine X_iload_n (i := 2) (pc' := 30) dX5_isRest_29 rfl rfl rfl ?_
        refine X_iload_n (i := 3) (pc' := 31) dX5_isRest_30 rfl rfl rfl ?_
        refine X_iload (pc' := 33) dX5_isRest_31 rfl rfl ?_
        refine X_OI (As := [_, _, _, _]) (rest := [_]) (pc' := 36) dX5_isRest_33 rfl k_X5_paysIf l_X5_184 v_X5_paysIf o_M_1 rfl ⟨by decide, by decide⟩ rfl rfl (Nat.le_of_ble_eq_true rfl) (d_paysIf cx _ hP (h_24.2.mt (g.mt h)) (h_24.2.ms hn6 (g.ms hn6 hs)) ho hm ha hb hn hd hsa hsb) (fun x_33 τ_33 h_33 => ?_)
        refine X_eqi (nI (besN P s a n b d)) (h_33.1) ?_
        refine X_icmp_lt (pc' := 39) (tgt := 64) dX5_isRest_36 rfl (by decide) (fun h_36 => ?_) (fun h_36 => ?_)
        · refine X_iconst (pc' := 65) (v := nI 0) dX5_isRest_64 rfl (by decide) ?_
          refine X_istore (pc' := 67) (lv' := [(5, _), (6, _), (0, _), (1, _), (2, _), (3, _), (4, _)]) dX5_isRest_65 rfl (Nat.le_of_ble_eq_true rfl) rfl ?_
          refine X_iinc (pc' := 70) (v := nI (j + 1)) (lv' := [(6, _), (5, _), (0, _), (1, _), (2, _), (3, _), (4, _)]) dX5_isRest_67 rfl rfl (nI_add _ _) (Nat.le_of_ble_eq_true rfl) rfl ?_
          refine X_goto (pc' := 0) (tgt := 6) dX5_isRest_70 (by decide) ?_
          have hup : resU P s a n b d (j + 1) ↔ resU P s a n b d j ∧ ¬ besN P s a j b d < besN P s a n b d ∧ ¬ besN P s b j a n < besN P s b d a n := by
            constructor
            · exact fun q => ⟨fun e he => q e (by omega), q j (by omega)⟩
            · intro q e he
              by_cases hej : e = j
              · rw [hej]; exact q.2
              · exact q.1 e (by omega)
          first
            | (have := ih _ g
               rw [zI_f (fun q => (zI_0.mp h_14) (hup.mp q).1)] at this
               exact X_lv _ (by simp) this)
            | (have := ih _ ((g.tr h_24.2).tr h_33.2)
               rw [zI_f (fun q => (hup.mp q).2.1 ((nI_ltI (by omega) (by omega)).mp h_36))] at this
               exact X_lv _ (by simp) this)
            | (have := ih _ ((((g.tr h_24.2).tr h_33.2).tr h_45.2).tr h_54.2)
               rw [zI_f (fun q => (hup.mp q).2.2 ((nI_ltI (by omega) (by omega)).mp h_57))] at this
               exact X_lv _ (by simp) this)
            | (have := ih _ ((((g.tr h_24.2).tr h_33.2).tr h_45.2).tr h_54.2)
               rw [zI_t (hup.mpr ⟨zI_1 h_14, fun q => absurd ((nI_ltI (by omega) (by omega)).mpr q) h_36, fun q => absurd ((nI_ltI (by omega) (by omega)).mpr q) h_57⟩)] at this
               exact X_lv _ (by simp) this)
        · refine X_aload_n (i := 0) (pc' := 40) dX5_isRest_39 rfl rfl rfl ?_
          refine X_iload_n (i := 2) (pc' := 41) dX5_isRest_40 rfl rfl rfl ?_
          refine X_iload_n (i := 1) (pc' := 42) dX5_isRest_41 rfl rfl rfl ?_
          refine X_iload (pc' := 44) dX5_isRest_42 rfl rfl ?_
          refine X_iload_n (i := 3) (pc' := 45) dX5_isRest_44 rfl rfl rfl ?_
          refine X_OI (As := [_, _, _, _]) (rest := []) (pc' := 48) dX5_isRest_45 rfl k_X5_paysIf l_X5_184 v_X5_paysIf o_M_1 rfl ⟨by decide, by decide⟩ rfl rfl (Nat.le_of_ble_eq_true rfl) (d_paysIf cx _ hP (h_33.2.mt (h_24.2.mt (g.mt h))) (h_33.2.ms hn6 (h_24.2.ms hn6 (g.ms hn6 hs))) ho hm hb ha (show j < 4 by omega) hn hsb hsa) (fun x_45 τ_45 h_45 => ?_)
          refine X_eqi (nI (besN P s b j a n)) (h_45.1) ?_
          refine X_aload_n (i := 0) (pc' := 49) dX5_isRest_48 rfl rfl rfl ?_
          refine X_iload_n (i := 2) (pc' := 50) dX5_isRest_49 rfl rfl rfl ?_
          refine X_iload_n (i := 1) (pc' := 51) dX5_isRest_50 rfl rfl rfl ?_
          refine X_iload (pc' := 53) dX5_isRest_51 rfl rfl ?_
          refine X_iload_n (i := 3) (pc' := 54) dX5_isRest_53 rfl rfl rfl ?_
          refine X_OI (As := [_, _, _, _]) (rest := [_]) (pc' := 57) dX5_isRest_54 rfl k_X5_paysIf l_X5_184 v_X5_paysIf o_M_1 rfl ⟨by decide, by decide⟩ rfl rfl (Nat.le_of_ble_eq_true rfl) (d_paysIf cx _ hP (h_45.2.mt (h_33.2.mt (h_24.2.mt (g.mt h)))) (h_45.2.ms hn6 (h_33.2.ms hn6 (h_24.2.ms hn6 (g.ms hn6 hs)))) ho hm hb ha hd hn hsb hsa) (fun x_54 τ_54 h_54 => ?_)
          refine X_eqi (nI (besN P s b d a n)) (h_54.1) ?_
          refine X_icmp_lt (pc' := 60) (tgt := 64) dX5_isRest_57 rfl (by decide) (fun h_57 => ?_) (fun h_57 => ?_)
          · refine X_iconst (pc' := 65) (v := nI 0) dX5_isRest_64 rfl (by decide) ?_
            refine X_istore (pc' := 67) (lv' := [(5, _), (6, _), (0, _), (1, _), (2, _), (3, _), (4, _)]) dX5_isRest_65 rfl (Nat.le_of_ble_eq_true rfl) rfl ?_
            refine X_iinc (pc' := 70) (v := nI (j + 1)) (lv' := [(6, _), (5, _), (0, _), (1, _), (2, _), (3, _), (4, _)]) dX5_isRest_67 rfl rfl (nI_add _ _) (Nat.le_of_ble_eq_true rfl) rfl ?_
            refine X_goto (pc' := 0) (tgt := 6) dX5_isRest_70 (by decide) ?_
            have hup : resU P s a n b d (j + 1) ↔ resU P s a n b d j ∧ ¬ besN P s a j b d < besN P s a n b d ∧ ¬ besN P s b j a n < besN P s b d a n := by
              constructor
              · exact fun q => ⟨fun e he => q e (by omega), q j (by omega)⟩
              · intro q e he
                by_cases hej : e = j
                · rw [hej]; exact q.2
                · exact q.1 e (by omega)
            first
              | (have := ih _ g
                 rw [zI_f (fun q => (zI_0.mp h_14) (hup.mp q).1)] at this
                 exact X_lv _ (by simp) this)
              | (have := ih _ ((g.tr h_24.2).tr h_33.2)
                 rw [zI_f (fun q => (hup.mp q).2.1 ((nI_ltI (by omega) (by omega)).mp h_36))] at this
                 exact X_lv _ (by simp) this)
              | (have := ih _ ((((g.tr h_24.2).tr h_33.2).tr h_45.2).tr h_54.2)
                 rw [zI_f (fun q => (hup.mp q).2.2 ((nI_ltI (by omega) (by omega)).mp h_57))] at this
                 exact X_lv _ (by simp) this)
              | (have := ih _ ((((g.tr h_24.2).tr h_33.2).tr h_45.2).tr h_54.2)
                 rw [zI_t (hup.mpr ⟨zI_1 h_14, fun q => absurd ((nI_ltI (by omega) (by omega)).mpr q) h_36, fun q => absurd ((nI_ltI (by omega) (by omega)).mpr q) h_57⟩)] at this
                 exact X_lv _ (by simp) this)
          · refine X_iconst (pc' := 61) (v := nI 1) dX5_isRest_60 rfl (by decide) ?_
            refine X_goto (pc' := 0) (tgt := 65) dX5_isRest_61 (by decide) ?_
            refine X_istore (pc' := 67) (lv' := [(5, _), (6, _), (0, _), (1, _), (2, _), (3, _), (4, _)]) dX5_isRest_65 rfl (Nat.le_of_ble_eq_true rfl) rfl ?_
            refine X_iinc (pc' := 70) (v := nI (j + 1)) (lv' := [(6, _), (5, _), (0, _), (1, _), (2, _), (3, _), (4, _)]) dX5_isRest_67 rfl rfl (nI_add _ _) (Nat.le_of_ble_eq_true rfl) rfl ?_
            refine X_goto (pc' := 0) (tgt := 6) dX5_isRest_70 (by decide) ?_
            have hup : resU P s a n b d (j + 1) ↔ resU P s a n b d j ∧ ¬ besN P s a j b d < besN P s a n b d ∧ ¬ besN P s b j a n < besN P s b d a n := by
              constructor
              · exact fun q => ⟨fun e he => q e (by omega), q j (by omega)⟩
              · intro q e he
                by_cases hej : e = j
                · rw [hej]; exact q.2
                · exact q.1 e (by omega)
            first
              | (have := ih _ g
                 rw [zI_f (fun q => (zI_0.mp h_14) (hup.mp q).1)] at this
                 exact X_lv _ (by simp) this)
              | (have := ih _ ((g.tr h_24.2).tr h_33.2)
                 rw [zI_f (fun q => (hup.mp q).2.1 ((nI_ltI (by omega) (by omega)).mp h_36))] at this
                 exact X_lv _ (by simp) this)
              | (have := ih _ ((((g.tr h_24.2).tr h_33.2).tr h_45.2).tr h_54.2)
                 rw [zI_f (fun q => (hup.mp q).2.2 ((nI_ltI (by omega) (by omega)).mp h_57))] at this
                 exact X_lv _ (by simp) this)
              | (have := ih _ ((((g.tr h_24.2).tr h_33.2).tr h_45.2).tr h_54.2)
                 rw [zI_t (hup.mpr ⟨zI_1 h_14, fun q => absurd ((nI_ltI (by omega) (by omega)).mpr q) h_36, fun q => absurd ((nI_ltI (by omega) (by omega)).mpr q) h_57⟩)] at this
                 exact X_lv _ (by simp) this)
  refine Ct_of (by decide) (Nat.le_of_ble_eq_true rfl) (lv := [(0, _), (1, _), (2, _), (3, _), (4, _)]) rfl ?_
  refine X_iconst (pc' := 1) (v := nI 1) dX5_isRest_0 rfl (by decide) ?_
  refine X_istore (pc' := 3) (lv' := [(5, _), (0, _), (1, _), (2, _), (3, _), (4, _)]) dX5_isRest_1 rfl (Nat.le_of_ble_eq_true rfl) rfl ?_
  refine X_iconst (pc' := 4) (v := nI 0) dX5_isRest_3 rfl (by decide) ?_
  refine X_istore (pc' := 6) (lv' := [(6, _), (5, _), (0, _), (1, _), (2, _), (3, _), (4, _)]) dX5_isRest_4 rfl (Nat.le_of_ble_eq_true rfl) rfl ?_
  have := hlp 0 τ (Nat.zero_le _) ⟨xeq.rf, fun i hi => rfl⟩
  rw [zI_t (fun e he => absurd he (Nat.not_lt_zero e))] at this
  exact X_lv _ (by simp) this
theorem l2_rests (τ : xT) {P : PT} (hP : Pok P) (h : MT τ P) {m : Nat} {s : SN} (hs : MS τ 4 0 (pn P) s) (ho : Sok P m s) (hm : m < 4000) {a b : Nat} (ha : a < pn P) (hb : b < pn P) (hsa : ¬ bt (sSt s) a) (hsb : ¬ bt (sSt s) b) {w : Nat} (hw : w ≤ 1) : ∀ (j : Nat) (τ' : xT), j ≤ 16 → xtr τ τ' → X cx m_X5_rests PM (qI PM (fun x τ' => x = (if w = 0 then nI (restN P s a b 16).1 else (restN P s a b 16).2) ∧ xtr τ τ')) 67 [(6, .int (nI j)), (5, .int (restN P s a b j).2), (4, .int (nI (restN P s a b j).1)), (0, .ref 1), (1, .int (nI a)), (2, .int (nI b)), (3, .int (nI w))] [] PM τ' := by
  have hn6 := hP.1
  refine xloop _ _ 16 (fun τ' g => ?_) (fun j τ' hj g ih => ?_)
  · refine X_iload (pc' := 69) dX5_rests_67 rfl rfl ?_
    refine X_bipush (pc' := 71) (v := nI 16) dX5_rests_69 rfl (by decide) ?_
    refine X_icmp_ge (pc' := 74) (tgt := 124) dX5_rests_71 rfl (by decide) (fun h_71 => ?_) (fun h_71 => absurd (nI_le (Nat.le_refl _) (by omega)) h_71)
    refine X_iload_n (i := 3) (pc' := 125) dX5_rests_124 rfl rfl rfl ?_
    refine X_if_ne (pc' := 128) (tgt := 133) dX5_rests_125 rfl (by decide) (fun h_125 => ?_) (fun h_125 => ?_)
    · refine X_iload (pc' := 135) dX5_rests_133 rfl rfl ?_
      refine X_ri dX5_rests_135 rfl ⟨rfl, rfl⟩ ?_
      first
      | exact ⟨(if_neg (fun q => h_125 (by rw [q]; rfl))).symm, g⟩
      | exact ⟨(if_pos ((nI_eq (by omega) (by decide)).mp h_125)).symm, g⟩
    · refine X_iload (pc' := 130) dX5_rests_128 rfl rfl ?_
      refine X_goto (pc' := 0) (tgt := 135) dX5_rests_130 (by decide) ?_
      refine X_ri dX5_rests_135 rfl ⟨rfl, rfl⟩ ?_
      first
      | exact ⟨(if_neg (fun q => h_125 (by rw [q]; rfl))).symm, g⟩
      | exact ⟨(if_pos ((nI_eq (by omega) (by decide)).mp h_125)).symm, g⟩
  · have b1 := restN_le P s a b j (by omega)
    refine X_iload (pc' := 69) dX5_rests_67 rfl rfl ?_
    refine X_bipush (pc' := 71) (v := nI 16) dX5_rests_69 rfl (by decide) ?_
    refine X_icmp_ge (pc' := 74) (tgt := 124) dX5_rests_71 rfl (by decide) (fun h_71 => absurd h_71 (nI_ge hj (by omega))) (fun h_71 => ?_)
    refine X_aload_n (i := 0) (pc' := 75) dX5_rests_74 rfl rfl rfl ?_
    refine X_iload_n (i := 1) (pc' := 76) dX5_rests_75 rfl rfl rfl ?_
    refine X_iload_n (i := 2) (pc' := 77) dX5_rests_76 rfl rfl rfl ?_
    refine X_iload (pc' := 79) dX5_rests_77 rfl rfl ?_
    refine X_iconst (pc' := 80) (v := nI 4) dX5_rests_79 rfl (by decide) ?_
    refine X_idiv (pc' := 81) dX5_rests_80 rfl (by decide) ?_
    refine X_eqi (nI (j / 4)) (pk_div (by omega) (by decide) (by decide)) ?_
    refine X_iload (pc' := 83) dX5_rests_81 rfl rfl ?_
    refine X_iconst (pc' := 84) (v := nI 4) dX5_rests_83 rfl (by decide) ?_
    refine X_irem (pc' := 85) dX5_rests_84 rfl (by decide) ?_
    refine X_eqi (nI (j % 4)) (pk_rem (by omega) (by decide) (by decide)) ?_
    refine X_OI (As := [_, _, _, _]) (rest := []) (pc' := 88) dX5_rests_85 rfl k_X5_isRest l_X5_188 v_X5_isRest o_M_1 rfl ⟨by decide, by decide⟩ rfl rfl (Nat.le_of_ble_eq_true rfl) (d_isRest cx τ' hP (g.mt h) (g.ms hn6 hs) ho hm ha hb (show j / 4 < 4 by omega) (show j % 4 < 4 by omega) hsa hsb) (fun x_85 τ_85 h_85 => ?_)
    refine X_eqi (zI (isB P s a (j / 4) b (j % 4) ∧ isB P s b (j % 4) a (j / 4))) (h_85.1) ?_
    refine X_if_eq (pc' := 91) (tgt := 118) dX5_rests_88 rfl (by decide) (fun h_88 => ?_) (fun h_88 => ?_)
    · refine X_iinc (pc' := 121) (v := nI (j + 1)) (lv' := [(6, _), (5, _), (4, _), (0, _), (1, _), (2, _), (3, _)]) dX5_rests_118 rfl rfl ((nI_succ j).symm) (Nat.le_of_ble_eq_true rfl) rfl ?_
      refine X_goto (pc' := 0) (tgt := 67) dX5_rests_121 (by decide) ?_
      have hs1 : restN P s a b (j + 1) = if isB P s a (j / 4) b (j % 4) ∧ isB P s b (j % 4) a (j / 4) then ((restN P s a b j).1 + 1, if (restN P s a b j).1 = 0 then nI (10 * (j / 4) + j % 4) else (restN P s a b j).2) else restN P s a b j := rfl
      have := ih _ (g.tr h_85.2)
      first
        | (rw [hs1.trans (if_neg (zI_0.mp h_88))] at this
           exact X_lv _ (by simp) this)
        | (rw [hs1.trans (if_pos (zI_1 h_88))] at this
           rw [show (if (restN P s a b j).1 = 0 then nI (10 * (j / 4) + j % 4) else (restN P s a b j).2) = (restN P s a b j).2 from if_neg (fun q => h_93 (by rw [q]; rfl))] at this
           exact X_lv _ (by simp) this)
        | (rw [hs1.trans (if_pos (zI_1 h_88))] at this
           rw [show (if (restN P s a b j).1 = 0 then nI (10 * (j / 4) + j % 4) else (restN P s a b j).2) = nI (10 * (j / 4) + j % 4) from if_pos ((nI_eq (by omega) (by decide)).mp h_93)] at this
           exact X_lv _ (by simp) this)
    · refine X_iload (pc' := 93) dX5_rests_91 rfl rfl ?_
      refine X_if_ne (pc' := 96) (tgt := 111) dX5_rests_93 rfl (by decide) (fun h_93 => ?_) (fun h_93 => ?_)
      · refine X_iload (pc' := 113) dX5_rests_111 rfl rfl ?_
        refine X_istore (pc' := 115) (lv' := [(5, _), (6, _), (4, _), (0, _), (1, _), (2, _), (3, _)]) dX5_rests_113 rfl (Nat.le_of_ble_eq_true rfl) rfl ?_
        refine X_iinc (pc' := 118) (v := nI ((restN P s a b j).1 + 1)) (lv' := [(4, _), (5, _), (6, _), (0, _), (1, _), (2, _), (3, _)]) dX5_rests_115 rfl rfl ((nI_succ _).symm) (Nat.le_of_ble_eq_true rfl) rfl ?_
        refine X_iinc (pc' := 121) (v := nI (j + 1)) (lv' := [(6, _), (4, _), (5, _), (0, _), (1, _), (2, _), (3, _)]) dX5_rests_118 rfl rfl ((nI_succ j).symm) (Nat.le_of_ble_eq_true rfl) rfl ?_
        refine X_goto (pc' := 0) (tgt := 67) dX5_rests_121 (by decide) ?_
        have hs1 : restN P s a b (j + 1) = if isB P s a (j / 4) b (j % 4) ∧ isB P s b (j % 4) a (j / 4) then ((restN P s a b j).1 + 1, if (restN P s a b j).1 = 0 then nI (10 * (j / 4) + j % 4) else (restN P s a b j).2) else restN P s a b j := rfl
        have := ih _ (g.tr h_85.2)
        first
          | (rw [hs1.trans (if_neg (zI_0.mp h_88))] at this
             exact X_lv _ (by simp) this)
          | (rw [hs1.trans (if_pos (zI_1 h_88))] at this
             rw [show (if (restN P s a b j).1 = 0 then nI (10 * (j / 4) + j % 4) else (restN P s a b j).2) = (restN P s a b j).2 from if_neg (fun q => h_93 (by rw [q]; rfl))] at this
             exact X_lv _ (by simp) this)
          | (rw [hs1.trans (if_pos (zI_1 h_88))] at this
             rw [show (if (restN P s a b j).1 = 0 then nI (10 * (j / 4) + j % 4) else (restN P s a b j).2) = nI (10 * (j / 4) + j % 4) from if_pos ((nI_eq (by omega) (by decide)).mp h_93)] at this
             exact X_lv _ (by simp) this)
      · refine X_bipush (pc' := 98) (v := nI 10) dX5_rests_96 rfl (by decide) ?_
        refine X_iload (pc' := 100) dX5_rests_98 rfl rfl ?_
        refine X_iconst (pc' := 101) (v := nI 4) dX5_rests_100 rfl (by decide) ?_
        refine X_idiv (pc' := 102) dX5_rests_101 rfl (by decide) ?_
        refine X_eqi (nI (j / 4)) (pk_div (by omega) (by decide) (by decide)) ?_
        refine X_imul (pc' := 103) dX5_rests_102 rfl ?_
        refine X_eqi (nI (10 * (j / 4))) (pk_mul _ _) ?_
        refine X_iload (pc' := 105) dX5_rests_103 rfl rfl ?_
        refine X_iconst (pc' := 106) (v := nI 4) dX5_rests_105 rfl (by decide) ?_
        refine X_irem (pc' := 107) dX5_rests_106 rfl (by decide) ?_
        refine X_eqi (nI (j % 4)) (pk_rem (by omega) (by decide) (by decide)) ?_
        refine X_iadd (pc' := 108) dX5_rests_107 rfl ?_
        refine X_eqi (nI (10 * (j / 4) + j % 4)) (nI_add _ _) ?_
        refine X_goto (pc' := 0) (tgt := 113) dX5_rests_108 (by decide) ?_
        refine X_istore (pc' := 115) (lv' := [(5, _), (6, _), (4, _), (0, _), (1, _), (2, _), (3, _)]) dX5_rests_113 rfl (Nat.le_of_ble_eq_true rfl) rfl ?_
        refine X_iinc (pc' := 118) (v := nI ((restN P s a b j).1 + 1)) (lv' := [(4, _), (5, _), (6, _), (0, _), (1, _), (2, _), (3, _)]) dX5_rests_115 rfl rfl ((nI_succ _).symm) (Nat.le_of_ble_eq_true rfl) rfl ?_
        refine X_iinc (pc' := 121) (v := nI (j + 1)) (lv' := [(6, _), (4, _), (5, _), (0, _), (1, _), (2, _), (3, _)]) dX5_rests_118 rfl rfl ((nI_succ j).symm) (Nat.le_of_ble_eq_true rfl) rfl ?_
        refine X_goto (pc' := 0) (tgt := 67) dX5_rests_121 (by decide) ?_
        have hs1 : restN P s a b (j + 1) = if isB P s a (j / 4) b (j % 4) ∧ isB P s b (j % 4) a (j / 4) then ((restN P s a b j).1 + 1, if (restN P s a b j).1 = 0 then nI (10 * (j / 4) + j % 4) else (restN P s a b j).2) else restN P s a b j := rfl
        have := ih _ (g.tr h_85.2)
        first
          | (rw [hs1.trans (if_neg (zI_0.mp h_88))] at this
             exact X_lv _ (by simp) this)
          | (rw [hs1.trans (if_pos (zI_1 h_88))] at this
             rw [show (if (restN P s a b j).1 = 0 then nI (10 * (j / 4) + j % 4) else (restN P s a b j).2) = (restN P s a b j).2 from if_neg (fun q => h_93 (by rw [q]; rfl))] at this
             exact X_lv _ (by simp) this)
          | (rw [hs1.trans (if_pos (zI_1 h_88))] at this
             rw [show (if (restN P s a b j).1 = 0 then nI (10 * (j / 4) + j % 4) else (restN P s a b j).2) = nI (10 * (j / 4) + j % 4) from if_pos ((nI_eq (by omega) (by decide)).mp h_93)] at this
             exact X_lv _ (by simp) this)
theorem d_rests (τ : xT) {P : PT} (hP : Pok P) (h : MT τ P) {m : Nat} {s : SN} (hs : MS τ 4 0 (pn P) s) (ho : Sok P m s) (hm : m < 4000) (l1 l2 w : Int32) : CI cx m_X5_rests [.ref 1, .int l1, .int l2, .int w] PM τ (fun x τ' => x = restsF P s l1 l2 w ∧ xtr τ τ') := by
  have hn6 := hP.1
  have h26 := two6 hP
  have hst := ho.2.1
  refine Ct_of (by decide) (Nat.le_of_ble_eq_true rfl) (lv := [(0, _), (1, _), (2, _), (3, _)]) rfl ?_
  unfold restsF
  refine X_aload_n (i := 0) (pc' := 1) dX5_rests_0 rfl rfl rfl ?_
  refine X_iload_n (i := 1) (pc' := 2) dX5_rests_1 rfl rfl rfl ?_
  refine X_OIp (As := [_]) (rest := []) (pc' := 5) dX5_rests_2 rfl k_X5_isLetter l_X5_112 v_X5_isLetter o_M_1 rfl ⟨by decide, by decide⟩ rfl rfl (Nat.le_of_ble_eq_true rfl) (d_isLetter cx τ hP h l1) ?_
  refine X_if_eq (pc' := 8) (tgt := 16) dX5_rests_5 rfl (by decide) (fun h_5 => ?_) (fun h_5 => ?_)
  · refine X_iconst (pc' := 17) (v := (-1)) dX5_rests_16 rfl (by decide) ?_
    refine X_ri dX5_rests_17 rfl ⟨rfl, rfl⟩ ?_
    refine ⟨(if_neg (fun q => ?_)).symm, xeq.rf, fun i hi => rfl⟩
    first
      | exact (zI_0.mp h_5) q.1
      | exact (zI_0.mp h_13) q.2
  · refine X_aload_n (i := 0) (pc' := 9) dX5_rests_8 rfl rfl rfl ?_
    refine X_iload_n (i := 2) (pc' := 10) dX5_rests_9 rfl rfl rfl ?_
    refine X_OIp (As := [_]) (rest := []) (pc' := 13) dX5_rests_10 rfl k_X5_isLetter l_X5_112 v_X5_isLetter o_M_1 rfl ⟨by decide, by decide⟩ rfl rfl (Nat.le_of_ble_eq_true rfl) (d_isLetter cx τ hP h l2) ?_
    refine X_if_ne (pc' := 16) (tgt := 18) dX5_rests_13 rfl (by decide) (fun h_13 => ?_) (fun h_13 => ?_)
    · rw [if_pos ⟨zI_1 h_5, zI_1 h_13⟩]
      refine X_iload_n (i := 1) (pc' := 19) dX5_rests_18 rfl rfl rfl ?_
      refine X_iload_n (i := 2) (pc' := 20) dX5_rests_19 rfl rfl rfl ?_
      refine X_icmp_eq (pc' := 23) (tgt := 33) dX5_rests_20 rfl (by decide) (fun h_20 => ?_) (fun h_20 => ?_)
      · refine X_bipush (pc' := 35) (v := (-2)) dX5_rests_33 rfl (by decide) ?_
        refine X_ri dX5_rests_35 rfl ⟨rfl, rfl⟩ ?_
        refine ⟨?_, xeq.rf, fun i hi => rfl⟩
        by_cases hc : l1 = l2
        · rw [if_pos hc]
        · rw [if_neg hc]
          refine (swF_out ?_).symm
          first
            | exact absurd h_20 hc
            | (have q := zI_0.mp h_30; rw [show (lN 1) = lN 1 from rfl, inW (hi := 1) (by decide)] at q; omega)
      · refine X_iload_n (i := 3) (pc' := 24) dX5_rests_23 rfl rfl rfl ?_
        refine X_i2l (pc' := 25) dX5_rests_24 rfl ?_
        refine X_lconst (pc' := 26) (v := lN 0) dX5_rests_25 rfl rfl ?_
        refine X_lconst (pc' := 27) (v := lN 1) dX5_rests_26 rfl rfl ?_
        refine X_SIp (As := [_, _, _]) (rest := []) (pc' := 30) dX5_rests_27 rfl k_X5_in l_X5_50 s_X5_in ⟨by decide, by decide⟩ rfl rfl (Nat.le_of_ble_eq_true rfl) (d_in cx τ _ _ _) ?_
        refine X_if_ne (pc' := 33) (tgt := 36) dX5_rests_30 rfl (by decide) (fun h_30 => ?_) (fun h_30 => ?_)
        · rw [if_neg h_20]
          have hw2 := (inW (hi := 1) (by decide)).mp (zI_1 h_30)
          obtain ⟨v, hv, rfl⟩ := xsw_of (x := w) (n := 1) (by omega) (by decide)
          rw [swF_in hv (by decide)]
          obtain ⟨a, ha, rfl⟩ := kn_of (zI_1 h_5)
          obtain ⟨b, hb, rfl⟩ := kn_of (zI_1 h_13)
          rw [(kn_in hP ha).2, (kn_in hP hb).2]
          refine X_aload_n (i := 0) (pc' := 37) dX5_rests_36 rfl rfl rfl ?_
          refine X_iconst (pc' := 38) (v := nI 0) dX5_rests_37 rfl (by decide) ?_
          refine X_iload_n (i := 1) (pc' := 39) dX5_rests_38 rfl rfl rfl ?_
          refine X_OIp (As := [_, _]) (rest := []) (pc' := 42) dX5_rests_39 rfl k_X5_isSent l_X5_116 v_X5_isSent o_M_1 rfl ⟨by decide, by decide⟩ rfl rfl (Nat.le_of_ble_eq_true rfl) (d_isSent cx τ (lev := 0) (by decide) hs (by omega) (show a < 31 by omega)) ?_
          refine X_if_ne (pc' := 45) (tgt := 54) dX5_rests_42 rfl (by decide) (fun h_42 => ?_) (fun h_42 => ?_)
          · refine X_bipush (pc' := 56) (v := (-3)) dX5_rests_54 rfl (by decide) ?_
            refine X_ri dX5_rests_56 rfl ⟨rfl, rfl⟩ ?_
            refine ⟨(if_pos ?_).symm, xeq.rf, fun i hi => rfl⟩
            first
              | exact Or.inl (zI_1 h_42)
              | exact Or.inr (zI_1 h_51)
          · refine X_aload_n (i := 0) (pc' := 46) dX5_rests_45 rfl rfl rfl ?_
            refine X_iconst (pc' := 47) (v := nI 0) dX5_rests_46 rfl (by decide) ?_
            refine X_iload_n (i := 2) (pc' := 48) dX5_rests_47 rfl rfl rfl ?_
            refine X_OIp (As := [_, _]) (rest := []) (pc' := 51) dX5_rests_48 rfl k_X5_isSent l_X5_116 v_X5_isSent o_M_1 rfl ⟨by decide, by decide⟩ rfl rfl (Nat.le_of_ble_eq_true rfl) (d_isSent cx τ (lev := 0) (by decide) hs (by omega) (show b < 31 by omega)) ?_
            refine X_if_eq (pc' := 54) (tgt := 57) dX5_rests_51 rfl (by decide) (fun h_51 => ?_) (fun h_51 => ?_)
            · refine X_iconst (pc' := 58) (v := nI 0) dX5_rests_57 rfl (by decide) ?_
              refine X_istore (pc' := 60) (lv' := [(4, _), (0, _), (1, _), (2, _), (3, _)]) dX5_rests_58 rfl (Nat.le_of_ble_eq_true rfl) rfl ?_
              refine X_bipush (pc' := 62) (v := (-9)) dX5_rests_60 rfl (by decide) ?_
              refine X_istore (pc' := 64) (lv' := [(5, _), (4, _), (0, _), (1, _), (2, _), (3, _)]) dX5_rests_62 rfl (Nat.le_of_ble_eq_true rfl) rfl ?_
              refine X_iconst (pc' := 65) (v := nI 0) dX5_rests_64 rfl (by decide) ?_
              refine X_istore (pc' := 67) (lv' := [(6, _), (5, _), (4, _), (0, _), (1, _), (2, _), (3, _)]) dX5_rests_65 rfl (Nat.le_of_ble_eq_true rfl) rfl ?_
              rw [if_neg (fun q => q.elim (zI_0.mp h_42) (zI_0.mp h_51))]
              exact X_lv _ (by simp [restN]) (l2_rests cx τ hP h hs ho hm ha hb (zI_0.mp h_42) (zI_0.mp h_51) hv 0 τ (by omega) ⟨xeq.rf, fun i hi => rfl⟩)
            · refine X_bipush (pc' := 56) (v := (-3)) dX5_rests_54 rfl (by decide) ?_
              refine X_ri dX5_rests_56 rfl ⟨rfl, rfl⟩ ?_
              refine ⟨(if_pos ?_).symm, xeq.rf, fun i hi => rfl⟩
              first
                | exact Or.inl (zI_1 h_42)
                | exact Or.inr (zI_1 h_51)
        · refine X_bipush (pc' := 35) (v := (-2)) dX5_rests_33 rfl (by decide) ?_
          refine X_ri dX5_rests_35 rfl ⟨rfl, rfl⟩ ?_
          refine ⟨?_, xeq.rf, fun i hi => rfl⟩
          by_cases hc : l1 = l2
          · rw [if_pos hc]
          · rw [if_neg hc]
            refine (swF_out ?_).symm
            first
              | exact absurd h_20 hc
              | (have q := zI_0.mp h_30; rw [show (lN 1) = lN 1 from rfl, inW (hi := 1) (by decide)] at q; omega)
    · refine X_iconst (pc' := 17) (v := (-1)) dX5_rests_16 rfl (by decide) ?_
      refine X_ri dX5_rests_17 rfl ⟨rfl, rfl⟩ ?_
      refine ⟨(if_neg (fun q => ?_)).symm, xeq.rf, fun i hi => rfl⟩
      first
        | exact (zI_0.mp h_5) q.1
        | exact (zI_0.mp h_13) q.2
end M8
