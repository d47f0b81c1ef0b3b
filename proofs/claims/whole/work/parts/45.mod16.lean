/-! ===== the model: plan ===== -/
/-- what the model's search may change: the trial's row, the best row's place, the leasts -/
def xtl (τ τ' : xT) : Prop := xeq [1, 4] τ τ' ∧ (∀ i, i < 17 → τ'.1 4 i = τ.1 4 i) ∧ (∀ i, i ≠ 19 → τ'.1 1 i = τ.1 1 i) ∧ τ'.2.1 1 = τ.2.1 1
theorem xtl.rf {τ : xT} : xtl τ τ := ⟨xeq.rf, fun i hi => rfl, fun i hi => rfl, rfl⟩
theorem xtl.tr {τ τ' τ2 : xT} (h : xtl τ τ') (h2 : xtl τ' τ2) : xtl τ τ2 := ⟨h.1.tr h2.1, fun i hi => (h2.2.1 i hi).trans (h.2.1 i hi), fun i hi => (h2.2.2.1 i hi).trans (h.2.2.1 i hi), h2.2.2.2.trans h.2.2.2⟩
theorem xtl.of {τ τ' : xT} (h : xtr τ τ') : xtl τ τ' := ⟨h.1.mono (by simp), h.2, fun i hi => by rw [(h.1 1 (by decide)).1], (h.1 1 (by decide)).2.1⟩
theorem xtl.mt {τ τ' : xT} {P : PT} (h : xtl τ τ') (hs : MT τ P) : MT τ' P := hs.rows (fun i hi => h.2.2.1 i (by omega)) (h.1 2 (by decide)).1 (h.1 3 (by decide)).1
theorem xtl.ms {τ τ' : xT} {n : Nat} {s : SN} (hn : n ≤ 6) (h : xtl τ τ') (hs : MS τ 4 0 n s) : MS τ' 4 0 n s := hs.copy hn (fun i hi => by rw [Nat.zero_add]; exact h.2.1 i hi)
theorem RM.scl {τ τ' : xT} {m : Nat} {S : SA} (h : RM τ m S) (e : xtl τ τ') : RM τ' m S := by
  obtain ⟨g1, g2, g3, g4, g5, g6, g7, g8⟩ := h
  exact ⟨g1, fun i hi => by rw [(e.1 8 (by decide)).1]; exact g2 i hi, by rw [e.2.2.1 13 (by decide)]; exact g3, e.mt g4, e.ms g1.2.2.1.1 g5, g6.rows (e.2.2.1 17 (by decide)) (e.2.2.1 16 (by decide)) (e.1 9 (by decide)).1, g7.rows (e.1 11 (by decide)).1 (e.1 12 (by decide)).1, by rw [e.2.2.2]; exact g8⟩
theorem tA_dead {P : PT} {s : SN} {a : Nat → Nat} {i : Nat} (h : tA P s a i = none) : ∀ d, tA P s a (i + d) = none := by
  intro d
  induction d with
  | zero => exact h
  | succ d ih => exact tA_none ih
theorem tA_skip {P : PT} {s t : SN} {a : Nat → Nat} {d k : Nat} (h : tA P s a (7 * d + k) = some t) (hk : ∀ l, k ≤ l → l < 6 → a l = 4) (hd : d < 4) : ∀ e, k + e ≤ 6 → tA P s a (7 * d + (k + e)) = some t := by
  intro e
  induction e with
  | zero => intro _; exact h
  | succ e ih =>
    intro he
    have := ih (by omega)
    have e1 : (7 * d + (k + e)) % 7 = k + e := by omega
    refine tA_keep (i := 7 * d + (k + e)) this (by omega) ?_
    rw [e1, hk (k + e) (by omega) (by omega)]
    omega
theorem ones_lo : ∀ x, x < 64 → ∀ k, k < 6 → (bt x k → ones x - 1 - ones (x % 2 ^ k) = ones (x / 2 ^ (k + 1)) ∧ ones (x % 2 ^ k) < ones x ∧ ones (x % 2 ^ (k + 1)) = ones (x % 2 ^ k) + 1) ∧ (¬ bt x k → ones (x % 2 ^ (k + 1)) = ones (x % 2 ^ k)) := by decide +kernel
section MP
variable (cx : xC)
set_option maxHeartbeats 4000000
set_option maxRecDepth 100000
theorem d_fours {P : xP} (τ : xT) (n : Nat) (hn : n ≤ 6) : CI cx m_X5_fours [.int (nI n)] P τ (fun x τ' => τ' = τ ∧ x = nI (4 ^ n)) := by
  have h4 : 4 ^ n = 2 ^ (2 * n) := by rw [Nat.pow_mul]
  refine Ct_of (by decide) (Nat.le_of_ble_eq_true rfl) (lv := [(0, _)]) rfl ?_
  refine X_iconst (pc' := 1) (v := nI 1) dX5_fours_0 rfl (by decide) ?_
  refine X_iconst (pc' := 2) (v := nI 2) dX5_fours_1 rfl (by decide) ?_
  refine X_iload_n (i := 0) (pc' := 3) dX5_fours_2 rfl rfl rfl ?_
  refine X_imul (pc' := 4) dX5_fours_3 rfl ?_
  refine X_eqi (nI (2 * n)) (pk_mul _ _) ?_
  refine X_ishl (pc' := 5) dX5_fours_4 rfl ?_
  refine X_eqi (nI (2 ^ (2 * n))) (bt_shl (by omega)) ?_
  refine X_ri dX5_fours_5 rfl ⟨rfl, rfl⟩ ?_
  exact ⟨rfl, by rw [h4]⟩
theorem four_le {n : Nat} (h : n ≤ 6) : 4 ^ n ≤ 4096 ∧ 0 < 4 ^ n := ⟨Nat.le_trans (Nat.pow_le_pow_right (n := 4) (by decide) h) (by decide), Nat.pow_pos (by decide)⟩
theorem d_dayOf {P : xP} (τ : xT) {n many k : Nat} (hn : n < 4096) (hm : many ≤ 6) (hk : k < many) : CI cx m_X5_dayOf [.int (nI n), .int (nI many), .int (nI k)] P τ (fun x τ' => τ' = τ ∧ x = nI (n / 4 ^ (many - 1 - k) % 4)) := by
  have hf := four_le (n := many - 1 - k) (by omega)
  have hd : n / 4 ^ (many - 1 - k) ≤ n := Nat.div_le_self _ _
  refine Ct_of (by decide) (Nat.le_of_ble_eq_true rfl) (lv := [(0, _), (1, _), (2, _)]) rfl ?_
  refine X_iload_n (i := 0) (pc' := 1) dX5_dayOf_0 rfl rfl rfl ?_
  refine X_iload_n (i := 1) (pc' := 2) dX5_dayOf_1 rfl rfl rfl ?_
  refine X_iconst (pc' := 3) (v := nI 1) dX5_dayOf_2 rfl (by decide) ?_
  refine X_isub (pc' := 4) dX5_dayOf_3 rfl ?_
  refine X_eqi (nI (many - 1)) (pk_sub (by omega)) ?_
  refine X_iload_n (i := 2) (pc' := 5) dX5_dayOf_4 rfl rfl rfl ?_
  refine X_isub (pc' := 6) dX5_dayOf_5 rfl ?_
  refine X_eqi (nI (many - 1 - k)) (pk_sub (by omega)) ?_
  refine X_SIp (As := [_]) (rest := [_]) (pc' := 9) dX5_dayOf_6 rfl k_X5_fours l_X5_141 s_X5_fours ⟨by decide, by decide⟩ rfl rfl (Nat.le_of_ble_eq_true rfl) (d_fours cx τ (many - 1 - k) (by omega)) ?_
  refine X_idiv (pc' := 10) dX5_dayOf_9 rfl (fun q => absurd ((nI_eq (by omega) (by decide)).mp q) (Nat.ne_of_gt hf.2)) ?_
  refine X_eqi (nI (n / 4 ^ (many - 1 - k))) (pk_div (by omega) hf.2 (by omega)) ?_
  refine X_iconst (pc' := 11) (v := nI 4) dX5_dayOf_10 rfl (by decide) ?_
  refine X_irem (pc' := 12) dX5_dayOf_11 rfl (by decide) ?_
  refine X_eqi (nI (n / 4 ^ (many - 1 - k) % 4)) (pk_rem (by omega) (by decide) (by decide)) ?_
  refine X_ri dX5_dayOf_12 rfl ⟨rfl, rfl⟩ ?_
  exact ⟨rfl, rfl⟩
theorem l2_pgo {τ' : xT} {P : PT} (hP : Pok P) (hT : MT τ' P) {m : Nat} {t : SN} (hs : MS τ' 4 17 (pn P) t) (ho : Sok P m t) (hm : m < 4500) {k w d many x n : Nat} (hk : k < pn P) {R : Int32 → xT → Prop} (hfail : ¬ can P t k → R (-9) τ') (hsend : can P t k → ∀ τ2 : xT, xtr τ' τ2 → MS τ2 4 17 (pn P) (sendS P t k) → X cx m_X5_paidBy PM (qI PM R) 24 [(6, .int (nI (k + 1))), (5, .int (nI (w + 1))), (4, .int (nI d)), (3, .int (nI many)), (0, .ref 1), (1, .int (nI x)), (2, .int (nI n))] [] PM τ2) : X cx m_X5_paidBy PM (qI PM R) 61 [(7, .int (nI 1)), (6, .int (nI k)), (5, .int (nI w)), (4, .int (nI d)), (3, .int (nI many)), (0, .ref 1), (1, .int (nI x)), (2, .int (nI n))] [] PM τ' := by
  have hn6 := hP.1
  refine X_iinc (pc' := 64) (v := nI (w + 1)) (lv' := [(5, _), (7, _), (6, _), (4, _), (3, _), (0, _), (1, _), (2, _)]) dX5_paidBy_61 rfl rfl ((nI_succ w).symm) (Nat.le_of_ble_eq_true rfl) rfl ?_
  refine X_iload (pc' := 66) dX5_paidBy_64 rfl rfl ?_
  refine X_if_eq (pc' := 69) (tgt := 82) dX5_paidBy_66 rfl (by decide) (fun h_66 => absurd h_66 (by decide)) (fun h_66 => ?_)
  refine X_aload_n (i := 0) (pc' := 70) dX5_paidBy_69 rfl rfl rfl ?_
  refine X_iconst (pc' := 71) (v := nI 1) dX5_paidBy_70 rfl (by decide) ?_
  refine X_iload (pc' := 73) dX5_paidBy_71 rfl rfl ?_
  refine X_OIp (As := [_, _]) (rest := []) (pc' := 76) dX5_paidBy_73 rfl k_X5_canSend l_X5_148 v_X5_canSend o_M_1 rfl ⟨by decide, by decide⟩ rfl rfl (Nat.le_of_ble_eq_true rfl) (d_canSend cx τ' hP hT (lev := 1) (by decide) hs ho (nI k)) ?_
  refine X_if_ne (pc' := 79) (tgt := 82) dX5_paidBy_76 rfl (by decide) (fun h_76 => ?_) (fun h_76 => ?_)
  · refine X_iload (pc' := 84) dX5_paidBy_82 rfl rfl ?_
    refine X_if_eq (pc' := 87) (tgt := 95) dX5_paidBy_84 rfl (by decide) (fun h_84 => absurd h_84 (by decide)) (fun h_84 => ?_)
    have hcan := (cani_nI hP (by omega)).mp (zI_1 h_76)
    refine X_aload_n (i := 0) (pc' := 88) dX5_paidBy_87 rfl rfl rfl ?_
    refine X_iconst (pc' := 89) (v := nI 1) dX5_paidBy_88 rfl (by decide) ?_
    refine X_iload (pc' := 91) dX5_paidBy_89 rfl rfl ?_
    refine X_OI (As := [_, _]) (rest := []) (pc' := 94) dX5_paidBy_91 rfl k_X5_sendOn l_X5_128 v_X5_sendOn o_M_1 rfl ⟨by decide, by decide⟩ rfl rfl (Nat.le_of_ble_eq_true rfl) (d_sendOn cx τ' hP hT (lev := 1) (by decide) hs ho (by omega) hk) (fun x_91 τ_91 h_91 => ?_)
    refine X_pop (pc' := 95) dX5_paidBy_94 rfl rfl ?_
    refine X_iinc (pc' := 98) (v := nI (k + 1)) (lv' := [(6, _), (5, _), (7, _), (4, _), (3, _), (0, _), (1, _), (2, _)]) dX5_paidBy_95 rfl rfl ((nI_succ k).symm) (Nat.le_of_ble_eq_true rfl) rfl ?_
    refine X_goto (pc' := 0) (tgt := 24) dX5_paidBy_98 (by decide) ?_
    exact X_lv _ (by simp) (hsend hcan _ ⟨h_91.2.1, fun i hi => h_91.2.2.1 i (Or.inl (by omega))⟩ h_91.2.2.2)
  · refine X_bipush (pc' := 81) (v := (-9)) dX5_paidBy_79 rfl (by decide) ?_
    refine X_ri dX5_paidBy_81 rfl ⟨rfl, rfl⟩ ?_
    exact hfail (fun q => (zI_0.mp h_76) ((cani_nI hP (by omega)).mpr q))
theorem l2_pno {τ' : xT} {k w d many x n : Nat} {R : Int32 → xT → Prop} (hx : X cx m_X5_paidBy PM (qI PM R) 24 [(6, .int (nI (k + 1))), (5, .int (nI (w + 1))), (4, .int (nI d)), (3, .int (nI many)), (0, .ref 1), (1, .int (nI x)), (2, .int (nI n))] [] PM τ') : X cx m_X5_paidBy PM (qI PM R) 61 [(7, .int (nI 0)), (6, .int (nI k)), (5, .int (nI w)), (4, .int (nI d)), (3, .int (nI many)), (0, .ref 1), (1, .int (nI x)), (2, .int (nI n))] [] PM τ' := by
  refine X_iinc (pc' := 64) (v := nI (w + 1)) (lv' := [(5, _), (7, _), (6, _), (4, _), (3, _), (0, _), (1, _), (2, _)]) dX5_paidBy_61 rfl rfl ((nI_succ w).symm) (Nat.le_of_ble_eq_true rfl) rfl ?_
  refine X_iload (pc' := 66) dX5_paidBy_64 rfl rfl ?_
  refine X_if_eq (pc' := 69) (tgt := 82) dX5_paidBy_66 rfl (by decide) (fun h_66 => ?_) (fun h_66 => absurd (by decide) h_66)
  refine X_iload (pc' := 84) dX5_paidBy_82 rfl rfl ?_
  refine X_if_eq (pc' := 87) (tgt := 95) dX5_paidBy_84 rfl (by decide) (fun h_84 => ?_) (fun h_84 => absurd (by decide) h_84)
  refine X_iinc (pc' := 98) (v := nI (k + 1)) (lv' := [(6, _), (5, _), (7, _), (4, _), (3, _), (0, _), (1, _), (2, _)]) dX5_paidBy_95 rfl rfl ((nI_succ k).symm) (Nat.le_of_ble_eq_true rfl) rfl ?_
  refine X_goto (pc' := 0) (tgt := 24) dX5_paidBy_98 (by decide) ?_
  exact X_lv _ (by simp) hx
theorem l2_pin (τ : xT) {P : PT} (hP : Pok P) (h : MT τ P) {m : Nat} {s : SN} (ho : Sok P m s) (hm : m < 4000) {x n d : Nat} (hx : x < 2 ^ pn P) (hn : n < 4 ^ ones x) (hd : d < 4) {R : Int32 → xT → Prop} (hfail : tA P s (aN x n) 28 = none → ∀ τ' : xT, xtr τ τ' → R (-9) τ')
    (hq : ∀ (τ' : xT) (t : SN), xtr τ τ' → MS τ' 4 17 (pn P) t → tA P s (aN x n) (7 * d + 6) = some t → X cx m_X5_paidBy PM (qI PM R) 101 [(4, .int (nI d)), (3, .int (nI (ones x))), (0, .ref 1), (1, .int (nI x)), (2, .int (nI n))] [] PM τ') : ∀ (k : Nat) (q : xT × SN), k ≤ pn P → (xtr τ q.1 ∧ MS q.1 4 17 (pn P) q.2 ∧ tA P s (aN x n) (7 * d + k) = some q.2) → X cx m_X5_paidBy PM (qI PM R) 24 [(6, .int (nI k)), (5, .int (nI (ones (x % 2 ^ k)))), (4, .int (nI d)), (3, .int (nI (ones x))), (0, .ref 1), (1, .int (nI x)), (2, .int (nI n))] [] PM q.1 := by
  have hn6 := hP.1
  have h26 := two6 hP
  have ox := ones_le x
  have h4 := four_le ox
  have hx64 : x < 64 := by omega
  refine xloop _ _ (pn P) (fun q g => ?_) (fun k q hk g ih => ?_)
  · obtain ⟨τ', t⟩ := q
    obtain ⟨g1, g2, g3⟩ := g
    have g3 : tA P s (aN x n) (7 * d + pn P) = some t := g3
    have r1 : τ'.1 1 0 = nI (pn P) := (g1.mt h).1
    refine X_iload (pc' := 26) dX5_paidBy_24 rfl rfl ?_
    refine X_aload_n (i := 0) (pc' := 27) dX5_paidBy_26 rfl rfl rfl ?_
    refine X_get (pc' := 30) (v := .int _) dX5_paidBy_27 rfl (gf_X5_96 _ rfl) o_M_1 rfl rfl ?_
    refine X_eqi (nI (pn P)) (r1) ?_
    refine X_icmp_ge (pc' := 33) (tgt := 101) dX5_paidBy_30 rfl (by decide) (fun h_30 => ?_) (fun h_30 => absurd (nI_le (Nat.le_refl _) (by omega)) h_30)
    refine X_lv _ (by simp) (hq τ' t g1 g2 ?_)
    have := tA_skip g3 (fun l h1 h2 => ?_) hd (6 - pn P) (by omega)
    · rwa [show pn P + (6 - pn P) = 6 by omega] at this
    · refine if_neg (fun hb => ?_)
      have h1 : 2 ^ pn P ≤ 2 ^ l := Nat.pow_le_pow_right (by decide) h1
      have h2 : x / 2 ^ l = 0 := Nat.div_eq_of_lt (by omega)
      have h3 : x / 2 ^ l % 2 = 1 := hb
      rw [h2] at h3
      exact absurd h3 (by decide)
  · obtain ⟨τ', t⟩ := q
    obtain ⟨g1, g2, g3⟩ := g
    have g3 : tA P s (aN x n) (7 * d + k) = some t := g3
    have g2 : MS τ' 4 17 (pn P) t := g2
    have g1 : xtr τ τ' := g1
    have r1 : τ'.1 1 0 = nI (pn P) := (g1.mt h).1
    have hk6 : k < 6 := by omega
    have e1 : (7 * d + k) % 7 = k := by omega
    have e2 : (7 * d + k) / 7 = d := by omega
    have ol := ones_lo x hx64 k hk6
    have hJ := JA_of hP ho hm (aN_le x n) (7 * d + k) (by omega) t g3
    have hoj := hJ.2.2.2.2.2
    refine X_iload (pc' := 26) dX5_paidBy_24 rfl rfl ?_
    refine X_aload_n (i := 0) (pc' := 27) dX5_paidBy_26 rfl rfl rfl ?_
    refine X_get (pc' := 30) (v := .int _) dX5_paidBy_27 rfl (gf_X5_96 _ rfl) o_M_1 rfl rfl ?_
    refine X_eqi (nI (pn P)) (r1) ?_
    refine X_icmp_ge (pc' := 33) (tgt := 101) dX5_paidBy_30 rfl (by decide) (fun h_30 => absurd h_30 (nI_ge hk (by omega))) (fun h_30 => ?_)
    refine X_iload_n (i := 1) (pc' := 34) dX5_paidBy_33 rfl rfl rfl ?_
    refine X_iload (pc' := 36) dX5_paidBy_34 rfl rfl ?_
    refine X_SIp (As := [_, _]) (rest := []) (pc' := 39) dX5_paidBy_36 rfl k_X5_has l_X5_65 s_X5_has ⟨by decide, by decide⟩ rfl rfl (Nat.le_of_ble_eq_true rfl) (d_has cx τ' x k (by omega) (by omega)) ?_
    refine X_if_eq (pc' := 42) (tgt := 95) dX5_paidBy_39 rfl (by decide) (fun h_39 => ?_) (fun h_39 => ?_)
    · refine X_iinc (pc' := 98) (v := nI (k + 1)) (lv' := [(6, _), (5, _), (4, _), (3, _), (0, _), (1, _), (2, _)]) dX5_paidBy_95 rfl rfl ((nI_succ k).symm) (Nat.le_of_ble_eq_true rfl) rfl ?_
      refine X_goto (pc' := 0) (tgt := 24) dX5_paidBy_98 (by decide) ?_
      have hb := zI_0.mp h_39
      have ea : aN x n k = 4 := if_neg hb
      have hz : tA P s (aN x n) (7 * d + (k + 1)) = some t := tA_keep (i := 7 * d + k) g3 (by omega) (by rw [e1, e2, ea]; omega)
      have := ih (τ', t) ⟨g1, g2, hz⟩
      rw [ol.2 hb] at this
      exact X_lv _ (by simp) this
    · have hb := zI_1 h_39
      have ol1 := ol.1 hb
      have ea : aN x n k = n / 4 ^ ones (x / 2 ^ (k + 1)) % 4 := if_pos hb
      have ea4 : aN x n k < 4 := by rw [ea]; exact Nat.mod_lt _ (by decide)
      refine X_iload_n (i := 2) (pc' := 43) dX5_paidBy_42 rfl rfl rfl ?_
      refine X_iload_n (i := 3) (pc' := 44) dX5_paidBy_43 rfl rfl rfl ?_
      refine X_iload (pc' := 46) dX5_paidBy_44 rfl rfl ?_
      refine X_SIp (As := [_, _, _]) (rest := []) (pc' := 49) dX5_paidBy_46 rfl k_X5_dayOf l_X5_144 s_X5_dayOf ⟨by decide, by decide⟩ rfl rfl (Nat.le_of_ble_eq_true rfl) (d_dayOf cx τ' (by omega) ox ol1.2.1) ?_
      refine X_eqi (nI (aN x n k)) (by rw [ol1.1, ea]) ?_
      refine X_iload (pc' := 51) dX5_paidBy_49 rfl rfl ?_
      refine X_icmp_ne (pc' := 54) (tgt := 58) dX5_paidBy_51 rfl (by decide) (fun h_51 => ?_) (fun h_51 => ?_)
      · refine X_iconst (pc' := 59) (v := nI 0) dX5_paidBy_58 rfl (by decide) ?_
        refine X_istore (pc' := 61) (lv' := [(7, _), (6, _), (5, _), (4, _), (3, _), (0, _), (1, _), (2, _)]) dX5_paidBy_59 rfl (Nat.le_of_ble_eq_true rfl) rfl ?_
        have hor := ih
        first
          | (have had : aN x n k = d := (nI_eq (by omega) (by omega)).mp h_51
             refine X_lv _ (by simp) (l2_pgo cx hP (g1.mt h) g2 hoj (by omega) hk (R := R) (d := d) (many := ones x) (x := x) (n := n) (w := ones (x % 2 ^ k)) (fun hc => hfail ?_ τ' g1) (fun hc τ2 t1 t2 => ?_))
             · have hz : tA P s (aN x n) (7 * d + k + 1) = none := (tA_send (i := 7 * d + k) g3 (by omega) (by rw [e1, e2]; exact had)).trans (if_neg (by rw [e1]; exact hc))
               have := tA_dead hz (28 - (7 * d + k + 1))
               rwa [show 7 * d + k + 1 + (28 - (7 * d + k + 1)) = 28 by omega] at this
             · have hz : tA P s (aN x n) (7 * d + (k + 1)) = some (sendS P t k) := by
                 have := (tA_send (i := 7 * d + k) g3 (by omega) (by rw [e1, e2]; exact had)).trans (if_pos (by rw [e1]; exact hc))
                 rw [e1] at this
                 exact this
               have := ih (τ2, sendS P t k) ⟨g1.tr t1, t2, hz⟩
               rw [ol1.2.2] at this
               exact this)
          | (have had : ¬ aN x n k = d := fun q => h_51 (by rw [q])
             have hz : tA P s (aN x n) (7 * d + (k + 1)) = some t := tA_keep (i := 7 * d + k) g3 (by omega) (by rw [e1, e2]; exact had)
             have := ih (τ', t) ⟨g1, g2, hz⟩
             rw [ol1.2.2] at this
             exact X_lv _ (by simp) (l2_pno cx this))
      · refine X_iconst (pc' := 55) (v := nI 1) dX5_paidBy_54 rfl (by decide) ?_
        refine X_goto (pc' := 0) (tgt := 59) dX5_paidBy_55 (by decide) ?_
        refine X_istore (pc' := 61) (lv' := [(7, _), (6, _), (5, _), (4, _), (3, _), (0, _), (1, _), (2, _)]) dX5_paidBy_59 rfl (Nat.le_of_ble_eq_true rfl) rfl ?_
        have hor := ih
        first
          | (have had : aN x n k = d := (nI_eq (by omega) (by omega)).mp h_51
             refine X_lv _ (by simp) (l2_pgo cx hP (g1.mt h) g2 hoj (by omega) hk (R := R) (d := d) (many := ones x) (x := x) (n := n) (w := ones (x % 2 ^ k)) (fun hc => hfail ?_ τ' g1) (fun hc τ2 t1 t2 => ?_))
             · have hz : tA P s (aN x n) (7 * d + k + 1) = none := (tA_send (i := 7 * d + k) g3 (by omega) (by rw [e1, e2]; exact had)).trans (if_neg (by rw [e1]; exact hc))
               have := tA_dead hz (28 - (7 * d + k + 1))
               rwa [show 7 * d + k + 1 + (28 - (7 * d + k + 1)) = 28 by omega] at this
             · have hz : tA P s (aN x n) (7 * d + (k + 1)) = some (sendS P t k) := by
                 have := (tA_send (i := 7 * d + k) g3 (by omega) (by rw [e1, e2]; exact had)).trans (if_pos (by rw [e1]; exact hc))
                 rw [e1] at this
                 exact this
               have := ih (τ2, sendS P t k) ⟨g1.tr t1, t2, hz⟩
               rw [ol1.2.2] at this
               exact this)
          | (have had : ¬ aN x n k = d := fun q => h_51 (by rw [q])
             have hz : tA P s (aN x n) (7 * d + (k + 1)) = some t := tA_keep (i := 7 * d + k) g3 (by omega) (by rw [e1, e2]; exact had)
             have := ih (τ', t) ⟨g1, g2, hz⟩
             rw [ol1.2.2] at this
             exact X_lv _ (by simp) (l2_pno cx this))
theorem l2_pday (τ : xT) {P : PT} (hP : Pok P) (h : MT τ P) {m : Nat} {s : SN} (ho : Sok P m s) (hm : m < 4000) {x n d : Nat} (hd : d < 4) {R : Int32 → xT → Prop} {τ' : xT} {t : SN} (k1 : xtr τ τ') (k2 : MS τ' 4 17 (pn P) t) (k3 : tA P s (aN x n) (7 * d + 6) = some t) (ih : ∀ q : xT × SN, (xtr τ q.1 ∧ MS q.1 4 17 (pn P) q.2 ∧ tA P s (aN x n) (7 * (d + 1)) = some q.2) → X cx m_X5_paidBy PM (qI PM R) 12 [(4, .int (nI (d + 1))), (3, .int (nI (ones x))), (0, .ref 1), (1, .int (nI x)), (2, .int (nI n))] [] PM q.1) : X cx m_X5_paidBy PM (qI PM R) 101 [(4, .int (nI d)), (3, .int (nI (ones x))), (0, .ref 1), (1, .int (nI x)), (2, .int (nI n))] [] PM τ' := by
  have hJ := JA_of hP ho hm (aN_le x n) (7 * d + 6) (by omega) t k3
  refine X_aload_n (i := 0) (pc' := 102) dX5_paidBy_101 rfl rfl rfl ?_
  refine X_iconst (pc' := 103) (v := nI 1) dX5_paidBy_102 rfl (by decide) ?_
  refine X_OV (As := [_]) (rest := []) (pc' := 106) dX5_paidBy_103 rfl k_X5_passOn l_X5_131 v_X5_passOn o_M_1 rfl ⟨by decide, by decide⟩ rfl rfl (Nat.le_of_ble_eq_true rfl) (d_passOn cx τ' hP (k1.mt h) (lev := 1) (by decide) k2 hJ.2.2.2.2.2 (by omega)) (fun τ_103 h_103 => ?_)
  refine X_iinc (pc' := 109) (v := nI (d + 1)) (lv' := [(4, _), (3, _), (0, _), (1, _), (2, _)]) dX5_paidBy_106 rfl rfl ((nI_succ d).symm) (Nat.le_of_ble_eq_true rfl) rfl ?_
  refine X_goto (pc' := 0) (tgt := 12) dX5_paidBy_109 (by decide) ?_
  exact X_lv _ (by simp) (ih (τ_103, pass t) ⟨k1.tr ⟨h_103.1, fun i hi => h_103.2.1 i (Or.inl (by omega))⟩, h_103.2.2, tA_pass (i := 7 * d + 6) k3 (by omega)⟩)
theorem l2_pout (τ : xT) {P : PT} (hP : Pok P) (h : MT τ P) {m : Nat} {s : SN} (hs : MS τ 4 0 (pn P) s) (ho : Sok P m s) (hm : m < 4000) {x n : Nat} (hx : x < 2 ^ pn P) (hn : n < 4 ^ ones x) {R : Int32 → xT → Prop} (hfail : tA P s (aN x n) 28 = none → ∀ τ' : xT, xtr τ τ' → R (-9) τ') (hok : ∀ t, tA P s (aN x n) 28 = some t → ∀ τ' : xT, xtr τ τ' → R (nI (sPd t - sPd s)) τ') : ∀ (d : Nat) (q : xT × SN), d ≤ 4 → (xtr τ q.1 ∧ MS q.1 4 17 (pn P) q.2 ∧ tA P s (aN x n) (7 * d) = some q.2) → X cx m_X5_paidBy PM (qI PM R) 12 [(4, .int (nI d)), (3, .int (nI (ones x))), (0, .ref 1), (1, .int (nI x)), (2, .int (nI n))] [] PM q.1 := by
  have hn6 := hP.1
  refine xloop _ _ 4 (fun q g => ?_) (fun d q hd g ih => ?_)
  · obtain ⟨τ', t⟩ := q
    obtain ⟨g1, g2, g3⟩ := g
    have g3 : tA P s (aN x n) 28 = some t := g3
    have hJ := JA_of hP ho hm (aN_le x n) 28 (by omega) t g3
    refine X_iload (pc' := 14) dX5_paidBy_12 rfl rfl ?_
    refine X_iconst (pc' := 15) (v := nI 4) dX5_paidBy_14 rfl (by decide) ?_
    refine X_icmp_ge (pc' := 18) (tgt := 112) dX5_paidBy_15 rfl (by decide) (fun h_15 => ?_) (fun h_15 => absurd (nI_le (Nat.le_refl _) (by omega)) h_15)
    refine X_aload_n (i := 0) (pc' := 113) dX5_paidBy_112 rfl rfl rfl ?_
    refine X_get (pc' := 116) (v := .ref 4) dX5_paidBy_113 rfl (gf_X5_16 _ rfl) o_M_1 rfl rfl ?_
    refine X_bipush (pc' := 118) (v := nI 33) dX5_paidBy_116 rfl (by decide) ?_
    refine X_iald (pc' := 119) (j := 33) dX5_paidBy_118 rfl (Or.inl r_M_4) (rfl) (by decide) ?_
    refine X_eqi (nI (sPd t)) (g2.2.2.2.2.2.2) ?_
    refine X_aload_n (i := 0) (pc' := 120) dX5_paidBy_119 rfl rfl rfl ?_
    refine X_get (pc' := 123) (v := .ref 4) dX5_paidBy_120 rfl (gf_X5_16 _ rfl) o_M_1 rfl rfl ?_
    refine X_bipush (pc' := 125) (v := nI 16) dX5_paidBy_123 rfl (by decide) ?_
    refine X_iald (pc' := 126) (j := 16) dX5_paidBy_125 rfl (Or.inl r_M_4) (rfl) (by decide) ?_
    refine X_eqi (nI (sPd s)) ((g1.ms hn6 hs).2.2.2.2.2.2) ?_
    refine X_isub (pc' := 127) dX5_paidBy_126 rfl ?_
    refine X_eqi (nI (sPd t - sPd s)) (pk_sub hJ.2.2.2.2.1) ?_
    refine X_ri dX5_paidBy_127 rfl ⟨rfl, rfl⟩ ?_
    exact hok t g3 τ' g1
  · obtain ⟨τ', t⟩ := q
    obtain ⟨g1, g2, g3⟩ := g
    have g3 : tA P s (aN x n) (7 * d) = some t := g3
    refine X_iload (pc' := 14) dX5_paidBy_12 rfl rfl ?_
    refine X_iconst (pc' := 15) (v := nI 4) dX5_paidBy_14 rfl (by decide) ?_
    refine X_icmp_ge (pc' := 18) (tgt := 112) dX5_paidBy_15 rfl (by decide) (fun h_15 => absurd h_15 (nI_ge hd (by omega))) (fun h_15 => ?_)
    refine X_iconst (pc' := 19) (v := nI 0) dX5_paidBy_18 rfl (by decide) ?_
    refine X_istore (pc' := 21) (lv' := [(5, _), (4, _), (3, _), (0, _), (1, _), (2, _)]) dX5_paidBy_19 rfl (Nat.le_of_ble_eq_true rfl) rfl ?_
    refine X_iconst (pc' := 22) (v := nI 0) dX5_paidBy_21 rfl (by decide) ?_
    refine X_istore (pc' := 24) (lv' := [(6, _), (5, _), (4, _), (3, _), (0, _), (1, _), (2, _)]) dX5_paidBy_22 rfl (Nat.le_of_ble_eq_true rfl) rfl ?_
    have := l2_pin cx τ hP h ho hm hx hn hd hfail (R := R) (fun τ2 t2 k1 k2 k3 => l2_pday cx τ hP h ho hm hd k1 k2 k3 ih) 0 (τ', t) (Nat.zero_le _) ⟨g1, g2, g3⟩
    rw [show ones (x % 2 ^ 0) = 0 by rw [Nat.pow_zero, Nat.mod_one]; rfl] at this
    exact X_lv _ (by simp) this
theorem d_paidBy (τ : xT) {P : PT} (hP : Pok P) (h : MT τ P) {m : Nat} {s : SN} (hs : MS τ 4 0 (pn P) s) (ho : Sok P m s) (hm : m < 4000) {x n : Nat} (hx : x < 2 ^ pn P) (hn : n < 4 ^ ones x) : CI cx m_X5_paidBy [.ref 1, .int (nI x), .int (nI n)] PM τ (fun r τ' => r = (match tA P s (aN x n) 28 with | none => -9 | some t => nI (sPd t - sPd s)) ∧ xtr τ τ') := by
  have hn6 := hP.1
  have h26 := two6 hP
  refine Ct_of (by decide) (Nat.le_of_ble_eq_true rfl) (lv := [(0, _), (1, _), (2, _)]) rfl ?_
  refine X_aload_n (i := 0) (pc' := 1) dX5_paidBy_0 rfl rfl rfl ?_
  refine X_OV (As := []) (rest := []) (pc' := 4) dX5_paidBy_1 rfl k_X5_layTrial l_X5_135 v_X5_layTrial o_M_1 rfl ⟨by decide, by decide⟩ rfl rfl (Nat.le_of_ble_eq_true rfl) (d_layTrial cx τ) (fun τ_1 h_1 => ?_)
  refine X_iload_n (i := 1) (pc' := 5) dX5_paidBy_4 rfl rfl rfl ?_
  refine X_SIp (As := [_]) (rest := []) (pc' := 8) dX5_paidBy_5 rfl k_X5_ones l_X5_105 s_X5_ones ⟨by decide, by decide⟩ rfl rfl (Nat.le_of_ble_eq_true rfl) (d_ones cx τ_1 x (by omega)) ?_
  refine X_istore_n (i := 3) (pc' := 9) (lv' := [(3, _), (0, _), (1, _), (2, _)]) dX5_paidBy_8 rfl rfl (Nat.le_of_ble_eq_true rfl) rfl ?_
  refine X_iconst (pc' := 10) (v := nI 0) dX5_paidBy_9 rfl (by decide) ?_
  refine X_istore (pc' := 12) (lv' := [(4, _), (3, _), (0, _), (1, _), (2, _)]) dX5_paidBy_10 rfl (Nat.le_of_ble_eq_true rfl) rfl ?_
  exact X_lv _ (by simp) (l2_pout cx τ hP h hs ho hm hx hn (fun hz τ' hq => by rw [hz]; exact ⟨rfl, hq⟩) (fun t hz τ' hq => by rw [hz]; exact ⟨rfl, hq⟩) 0 (τ_1, s) (Nat.zero_le _) ⟨⟨h_1.1, h_1.2.1⟩, hs.copy hn6 (fun i hi => by rw [Nat.zero_add]; exact h_1.2.2 i hi), rfl⟩)
def o9p (o : Option (Nat × Nat)) : Int32 := match o with | none => -9 | some q => nI q.1
def o9r (o : Option (Nat × Nat)) : Int32 := match o with | none => -9 | some q => nI q.2
end MP
