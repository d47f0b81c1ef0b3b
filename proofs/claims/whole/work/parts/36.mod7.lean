/-! ===== the model: order, count ===== -/
theorem dif_all : ∀ n, n ≤ 6 → ∀ s, s < 64 → s < 2 ^ n → dif (2 ^ n - 1) s = 2 ^ n - 1 - s := by decide +kernel
theorem ones_dif : ∀ l, l < 64 → ∀ k, k < 6 → bt l k → ones (dif l (2 ^ k)) + 1 = ones l := by decide +kernel
theorem ones_0 : ∀ l, l < 64 → (ones l = 0 → l = 0) := by decide +kernel
def o9 (o : Option Nat) : Int32 := match o with | none => -9 | some k => nI k
/-- the first unexplained, from above: d letters done -/
def loF (P : PT) (left n : Nat) : Nat → Int32 | 0 => -9 | d + 1 => if cnd P left (n - (d + 1)) then nI (n - (d + 1)) else loF P left n d
theorem loF_up (P : PT) (left n : Nat) : ∀ d, d ≤ n → (match fUn P left (n - d) with | none => loF P left n d | some k => nI k) = o9 (fUn P left n) := by
  intro d
  induction d with
  | zero => intro _; rfl
  | succ d ih =>
    intro hd
    have h := ih (by omega)
    rw [show n - d = (n - (d + 1)) + 1 by omega] at h
    rw [← h]
    show _ = (match (match fUn P left (n - (d + 1)) with | some k => some k | none => if cnd P left (n - (d + 1)) then some (n - (d + 1)) else none) with | none => loF P left n d | some k => nI k)
    rcases hf : fUn P left (n - (d + 1)) with _ | k
    · show (if cnd P left (n - (d + 1)) then nI (n - (d + 1)) else loF P left n d) = _
      by_cases hc : cnd P left (n - (d + 1))
      · rw [if_pos hc, if_pos hc]
      · rw [if_neg hc, if_neg hc]
    · rfl
theorem loF_all (P : PT) (left n : Nat) : loF P left n n = o9 (fUn P left n) := by
  have h := loF_up P left n n (Nat.le_refl n)
  rw [Nat.sub_self] at h
  exact h
section M7
variable (cx : xC)
set_option maxHeartbeats 4000000
set_option maxRecDepth 100000
theorem l2_first (τ : xT) {P : PT} (hP : Pok P) (h : MT τ P) {left : Nat} (hl : left < 64) (row : Int32) (R : Int32 → xT → Prop) (hk : X cx m_X5_order PM (qI PM R) 84 [(4, .int (nI 0 - nI 1)), (3, .int (o9 (fUn P left (pn P)))), (1, .int (nI left)), (2, .int row), (0, .ref 1)] [] PM τ) : ∀ (j : Nat) (τ' : xT), j ≤ pn P → τ' = τ → X cx m_X5_order PM (qI PM R) 45 [(4, .int (nI (pn P - j) - nI 1)), (3, .int (loF P left (pn P) j)), (1, .int (nI left)), (2, .int row), (0, .ref 1)] [] PM τ' := by
  have hn6 := hP.1
  refine xloop _ _ (pn P) (fun τ' g => ?_) (fun j τ' hj g ih => ?_)
  · subst g
    rw [Nat.sub_self, loF_all]
    refine X_iload (pc' := 47) dX5_order_45 rfl rfl ?_
    refine X_if_lt (pc' := 50) (tgt := 84) dX5_order_47 rfl (by decide) (fun h_47 => ?_) (fun h_47 => absurd (by decide) h_47)
    exact hk
  · subst g
    have hv : nI (pn P - j) - nI 1 = nI (pn P - (j + 1)) := by rw [pk_sub (by omega)]; congr 1
    have hx := hP.2.2.2.2 (pn P - (j + 1)) (by omega)
    rw [hv]
    refine X_iload (pc' := 47) dX5_order_45 rfl rfl ?_
    refine X_if_lt (pc' := 50) (tgt := 84) dX5_order_47 rfl (by decide) (fun h_47 => absurd h_47 (fun q => absurd (lt0.mp q) (by rw [nI_toInt (by omega)]; omega))) (fun h_47 => ?_)
    refine X_iload_n (i := 1) (pc' := 51) dX5_order_50 rfl rfl rfl ?_
    refine X_iload (pc' := 53) dX5_order_51 rfl rfl ?_
    refine X_SIp (As := [_, _]) (rest := []) (pc' := 56) dX5_order_53 rfl k_X5_has l_X5_65 s_X5_has ⟨by decide, by decide⟩ rfl rfl (Nat.le_of_ble_eq_true rfl) (d_has cx τ' left (pn P - (j + 1)) (by omega) (by omega)) ?_
    refine X_if_eq (pc' := 59) (tgt := 76) dX5_order_56 rfl (by decide) (fun h_56 => ?_) (fun h_56 => ?_)
    · refine X_iload_n (i := 3) (pc' := 77) dX5_order_76 rfl rfl rfl ?_
      refine X_istore_n (i := 3) (pc' := 78) (lv' := [(3, _), (4, _), (1, _), (2, _), (0, _)]) dX5_order_77 rfl rfl (Nat.le_of_ble_eq_true rfl) rfl ?_
      refine X_iinc (pc' := 81) (v := nI (pn P - (j + 1)) - nI 1) (lv' := [(4, _), (3, _), (1, _), (2, _), (0, _)]) dX5_order_78 rfl rfl (by rw [show Int32.ofInt (-1) = -(nI 1) by decide, ← Int32.sub_eq_add_neg]) (Nat.le_of_ble_eq_true rfl) rfl ?_
      refine X_goto (pc' := 0) (tgt := 45) dX5_order_81 (by decide) ?_
      have := ih τ' rfl
      have hand : px P (pn P - (j + 1)) &&& left < 64 := and_lt64 hx
      have hb : loF P left (pn P) (j + 1) = if cnd P left (pn P - (j + 1)) then nI (pn P - (j + 1)) else loF P left (pn P) j := rfl
      first
        | (rw [hb, if_neg (fun q => (zI_0.mp h_56) q.1)] at this
           exact X_lv _ (by simp) this)
        | (rw [hb, if_neg (fun q => h_68 (by rw [q.2]; rfl))] at this
           exact X_lv _ (by simp) this)
        | (rw [hb, if_pos ⟨zI_1 h_56, (nI_eq (by omega) (by decide)).mp h_68⟩] at this
           exact X_lv _ (by simp) this)
    · refine X_aload_n (i := 0) (pc' := 60) dX5_order_59 rfl rfl rfl ?_
      refine X_get (pc' := 63) (v := .ref 3) dX5_order_60 rfl (gf_X5_13 _ rfl) o_M_1 rfl rfl ?_
      refine X_iload (pc' := 65) dX5_order_63 rfl rfl ?_
      refine X_iald (pc' := 66) (j := pn P - (j + 1)) dX5_order_65 rfl (Or.inl r_M_3) (rfl) (by omega) ?_
      refine X_eqi (nI (px P (pn P - (j + 1)))) (h.2.2.2.2 _ (by omega)) ?_
      refine X_iload_n (i := 1) (pc' := 67) dX5_order_66 rfl rfl rfl ?_
      refine X_iand (pc' := 68) dX5_order_67 rfl ?_
      refine X_eqi (nI (px P (pn P - (j + 1)) &&& left)) (nI_and (by omega) (by omega)) ?_
      refine X_if_ne (pc' := 71) (tgt := 76) dX5_order_68 rfl (by decide) (fun h_68 => ?_) (fun h_68 => ?_)
      · refine X_iload_n (i := 3) (pc' := 77) dX5_order_76 rfl rfl rfl ?_
        refine X_istore_n (i := 3) (pc' := 78) (lv' := [(3, _), (4, _), (1, _), (2, _), (0, _)]) dX5_order_77 rfl rfl (Nat.le_of_ble_eq_true rfl) rfl ?_
        refine X_iinc (pc' := 81) (v := nI (pn P - (j + 1)) - nI 1) (lv' := [(4, _), (3, _), (1, _), (2, _), (0, _)]) dX5_order_78 rfl rfl (by rw [show Int32.ofInt (-1) = -(nI 1) by decide, ← Int32.sub_eq_add_neg]) (Nat.le_of_ble_eq_true rfl) rfl ?_
        refine X_goto (pc' := 0) (tgt := 45) dX5_order_81 (by decide) ?_
        have := ih τ' rfl
        have hand : px P (pn P - (j + 1)) &&& left < 64 := and_lt64 hx
        have hb : loF P left (pn P) (j + 1) = if cnd P left (pn P - (j + 1)) then nI (pn P - (j + 1)) else loF P left (pn P) j := rfl
        first
          | (rw [hb, if_neg (fun q => (zI_0.mp h_56) q.1)] at this
             exact X_lv _ (by simp) this)
          | (rw [hb, if_neg (fun q => h_68 (by rw [q.2]; rfl))] at this
             exact X_lv _ (by simp) this)
          | (rw [hb, if_pos ⟨zI_1 h_56, (nI_eq (by omega) (by decide)).mp h_68⟩] at this
             exact X_lv _ (by simp) this)
      · refine X_iload (pc' := 73) dX5_order_71 rfl rfl ?_
        refine X_goto (pc' := 0) (tgt := 77) dX5_order_73 (by decide) ?_
        refine X_istore_n (i := 3) (pc' := 78) (lv' := [(3, _), (4, _), (1, _), (2, _), (0, _)]) dX5_order_77 rfl rfl (Nat.le_of_ble_eq_true rfl) rfl ?_
        refine X_iinc (pc' := 81) (v := nI (pn P - (j + 1)) - nI 1) (lv' := [(4, _), (3, _), (1, _), (2, _), (0, _)]) dX5_order_78 rfl rfl (by rw [show Int32.ofInt (-1) = -(nI 1) by decide, ← Int32.sub_eq_add_neg]) (Nat.le_of_ble_eq_true rfl) rfl ?_
        refine X_goto (pc' := 0) (tgt := 45) dX5_order_81 (by decide) ?_
        have := ih τ' rfl
        have hand : px P (pn P - (j + 1)) &&& left < 64 := and_lt64 hx
        have hb : loF P left (pn P) (j + 1) = if cnd P left (pn P - (j + 1)) then nI (pn P - (j + 1)) else loF P left (pn P) j := rfl
        first
          | (rw [hb, if_neg (fun q => (zI_0.mp h_56) q.1)] at this
             exact X_lv _ (by simp) this)
          | (rw [hb, if_neg (fun q => h_68 (by rw [q.2]; rfl))] at this
             exact X_lv _ (by simp) this)
          | (rw [hb, if_pos ⟨zI_1 h_56, (nI_eq (by omega) (by decide)).mp h_68⟩] at this
             exact X_lv _ (by simp) this)
theorem d_order0 (τ : xT) : X cx m_X5_order PM (qI PM (fun x τ' => τ' = τ ∧ x = -9)) 30 [(2, .int (-9)), (1, .int (nI 0)), (0, .ref 1)] [] PM τ := by
  refine X_iload_n (i := 1) (pc' := 31) dX5_order_30 rfl rfl rfl ?_
  refine X_if_eq (pc' := 34) (tgt := 113) dX5_order_31 rfl (by decide) (fun h_31 => ?_) (fun h_31 => absurd (rfl) h_31)
  refine X_iload_n (i := 2) (pc' := 114) dX5_order_113 rfl rfl rfl ?_
  refine X_ri dX5_order_114 rfl ⟨rfl, rfl⟩ ?_
  exact ⟨rfl, rfl⟩
theorem d_order1 (τ : xT) {P : PT} (hP : Pok P) (h : MT τ P) {left : Nat} {row : Int32} (hl : left < 64) (hz : ¬ left = 0) (hf : fUn P left (pn P) = none) : X cx m_X5_order PM (qI PM (fun x τ' => τ' = τ ∧ x = -9)) 30 [(2, .int row), (1, .int (nI left)), (0, .ref 1)] [] PM τ := by
  have hn6 := hP.1
  have hk : X cx m_X5_order PM (qI PM (fun x τ' => τ' = τ ∧ x = -9)) 84 [(4, .int (nI 0 - nI 1)), (3, .int (o9 (fUn P left (pn P)))), (1, .int (nI left)), (2, .int row), (0, .ref 1)] [] PM τ := by
    rw [hf]
    refine X_iload_n (i := 3) (pc' := 85) dX5_order_84 rfl rfl rfl ?_
    refine X_bipush (pc' := 87) (v := (-9)) dX5_order_85 rfl (by decide) ?_
    refine X_icmp_ne (pc' := 90) (tgt := 93) dX5_order_87 rfl (by decide) (fun h_87 => absurd h_87 (fun q => q rfl)) (fun h_87 => ?_)
    refine X_bipush (pc' := 92) (v := (-9)) dX5_order_90 rfl (by decide) ?_
    refine X_ri dX5_order_92 rfl ⟨rfl, rfl⟩ ?_
    exact ⟨rfl, rfl⟩
  refine X_iload_n (i := 1) (pc' := 31) dX5_order_30 rfl rfl rfl ?_
  refine X_if_eq (pc' := 34) (tgt := 113) dX5_order_31 rfl (by decide) (fun h_31 => absurd h_31 (fun q => hz ((nI_eq (by omega) (by decide)).mp q))) (fun h_31 => ?_)
  refine X_bipush (pc' := 36) (v := (-9)) dX5_order_34 rfl (by decide) ?_
  refine X_istore_n (i := 3) (pc' := 37) (lv' := [(3, _), (2, _), (1, _), (0, _)]) dX5_order_36 rfl rfl (Nat.le_of_ble_eq_true rfl) rfl ?_
  refine X_aload_n (i := 0) (pc' := 38) dX5_order_37 rfl rfl rfl ?_
  refine X_get (pc' := 41) (v := .int _) dX5_order_38 rfl (gf_X5_96 _ rfl) o_M_1 rfl rfl ?_
  refine X_eqi (nI (pn P)) (h.1) ?_
  refine X_iconst (pc' := 42) (v := nI 1) dX5_order_41 rfl (by decide) ?_
  refine X_isub (pc' := 43) dX5_order_42 rfl ?_
  refine X_istore (pc' := 45) (lv' := [(4, _), (3, _), (2, _), (1, _), (0, _)]) dX5_order_43 rfl (Nat.le_of_ble_eq_true rfl) rfl ?_
  exact X_lv _ (by simp [loF]) (l2_first cx τ hP h hl row _ hk 0 τ (Nat.zero_le _) rfl)
theorem d_order2 (τ : xT) {P : PT} (hP : Pok P) (h : MT τ P) {left row k : Nat} (hl : left < 64) (hz : ¬ left = 0) (hf : fUn P left (pn P) = some k) (hr : row < 10 ^ 7) {R : Int32} (ih : X cx m_X5_order PM (qI PM (fun x τ' => τ' = τ ∧ x = R)) 30 [(2, .int (nI (row * 10 + k + 1))), (1, .int (nI (dif left (2 ^ k)))), (0, .ref 1)] [] PM τ) : X cx m_X5_order PM (qI PM (fun x τ' => τ' = τ ∧ x = R)) 30 [(2, .int (nI row)), (1, .int (nI left)), (0, .ref 1)] [] PM τ := by
  have hn6 := hP.1
  have hkn := (fUn_lt hf).1
  have hk2 : 2 ^ k < 2 ^ 6 := pow_lt (by omega)
  have hk : X cx m_X5_order PM (qI PM (fun x τ' => τ' = τ ∧ x = R)) 84 [(4, .int (nI 0 - nI 1)), (3, .int (o9 (fUn P left (pn P)))), (1, .int (nI left)), (2, .int (nI row)), (0, .ref 1)] [] PM τ := by
    rw [hf]
    show X cx m_X5_order PM (qI PM (fun x τ' => τ' = τ ∧ x = R)) 84 [(4, .int (nI 0 - nI 1)), (3, .int (nI k)), (1, .int (nI left)), (2, .int (nI row)), (0, .ref 1)] [] PM τ
    refine X_iload_n (i := 3) (pc' := 85) dX5_order_84 rfl rfl rfl ?_
    refine X_bipush (pc' := 87) (v := (-9)) dX5_order_85 rfl (by decide) ?_
    refine X_icmp_ne (pc' := 90) (tgt := 93) dX5_order_87 rfl (by decide) (fun h_87 => ?_) (fun h_87 => absurd h_87 (nI_ne9 (by omega)))
    refine X_bipush (pc' := 95) (v := nI 10) dX5_order_93 rfl (by decide) ?_
    refine X_iload_n (i := 2) (pc' := 96) dX5_order_95 rfl rfl rfl ?_
    refine X_imul (pc' := 97) dX5_order_96 rfl ?_
    refine X_eqi (nI (row * 10)) ((pk_mul _ _).trans (by rw [Nat.mul_comm])) ?_
    refine X_iload_n (i := 3) (pc' := 98) dX5_order_97 rfl rfl rfl ?_
    refine X_iadd (pc' := 99) dX5_order_98 rfl ?_
    refine X_eqi (nI (row * 10 + k)) (nI_add _ _) ?_
    refine X_iconst (pc' := 100) (v := nI 1) dX5_order_99 rfl (by decide) ?_
    refine X_iadd (pc' := 101) dX5_order_100 rfl ?_
    refine X_eqi (nI (row * 10 + k + 1)) (nI_add _ _) ?_
    refine X_istore_n (i := 2) (pc' := 102) (lv' := [(2, _), (4, _), (3, _), (1, _), (0, _)]) dX5_order_101 rfl rfl (Nat.le_of_ble_eq_true rfl) rfl ?_
    refine X_iload_n (i := 1) (pc' := 103) dX5_order_102 rfl rfl rfl ?_
    refine X_iconst (pc' := 104) (v := nI 1) dX5_order_103 rfl (by decide) ?_
    refine X_iload_n (i := 3) (pc' := 105) dX5_order_104 rfl rfl rfl ?_
    refine X_ishl (pc' := 106) dX5_order_105 rfl ?_
    refine X_eqi (nI (2 ^ k)) (bt_shl (by omega)) ?_
    refine X_iconst (pc' := 107) (v := (-1)) dX5_order_106 rfl (by decide) ?_
    refine X_ixor (pc' := 108) dX5_order_107 rfl ?_
    refine X_iand (pc' := 109) dX5_order_108 rfl ?_
    refine X_eqi (nI (dif left (2 ^ k))) (dif_nI _ hl _ hk2) ?_
    refine X_istore_n (i := 1) (pc' := 110) (lv' := [(1, _), (2, _), (4, _), (3, _), (0, _)]) dX5_order_109 rfl rfl (Nat.le_of_ble_eq_true rfl) rfl ?_
    refine X_goto (pc' := 0) (tgt := 30) dX5_order_110 (by decide) ?_
    exact X_lv _ (by simp) ih
  refine X_iload_n (i := 1) (pc' := 31) dX5_order_30 rfl rfl rfl ?_
  refine X_if_eq (pc' := 34) (tgt := 113) dX5_order_31 rfl (by decide) (fun h_31 => absurd h_31 (fun q => hz ((nI_eq (by omega) (by decide)).mp q))) (fun h_31 => ?_)
  refine X_bipush (pc' := 36) (v := (-9)) dX5_order_34 rfl (by decide) ?_
  refine X_istore_n (i := 3) (pc' := 37) (lv' := [(3, _), (2, _), (1, _), (0, _)]) dX5_order_36 rfl rfl (Nat.le_of_ble_eq_true rfl) rfl ?_
  refine X_aload_n (i := 0) (pc' := 38) dX5_order_37 rfl rfl rfl ?_
  refine X_get (pc' := 41) (v := .int _) dX5_order_38 rfl (gf_X5_96 _ rfl) o_M_1 rfl rfl ?_
  refine X_eqi (nI (pn P)) (h.1) ?_
  refine X_iconst (pc' := 42) (v := nI 1) dX5_order_41 rfl (by decide) ?_
  refine X_isub (pc' := 43) dX5_order_42 rfl ?_
  refine X_istore (pc' := 45) (lv' := [(4, _), (3, _), (2, _), (1, _), (0, _)]) dX5_order_43 rfl (Nat.le_of_ble_eq_true rfl) rfl ?_
  exact X_lv _ (by simp [loF]) (l2_first cx τ hP h hl (nI row) _ hk 0 τ (Nat.zero_le _) rfl)
theorem d_order (τ : xT) {P : PT} (hP : Pok P) (h : MT τ P) {m : Nat} {s : SN} (hs : MS τ 4 0 (pn P) s) (ho : Sok P m s) (hm : m < 4500) : CI cx m_X5_order [.ref 1] PM τ (fun x τ' => τ' = τ ∧ x = orderF P s) := by
  obtain ⟨h0, h1, h2, h3, h4, h5, h6⟩ := id hs
  have hn6 := hP.1
  have h26 := two6 hP
  have hst := ho.2.1
  have hlp : ∀ (f : Nat) (left row : Nat), left < 64 → row + 7 < 10 ^ (8 - f) → f ≤ 6 → ones left ≤ f → X cx m_X5_order PM (qI PM (fun x τ' => τ' = τ ∧ x = ordN P f left row)) 30 [(2, .int (nI row)), (1, .int (nI left)), (0, .ref 1)] [] PM τ := by
    intro f
    induction f with
    | zero =>
      intro left row hl hr hf hon
      have hz := ones_0 left hl (by omega)
      subst hz
      refine X_iload_n (i := 1) (pc' := 31) dX5_order_30 rfl rfl rfl ?_
      refine X_if_eq (pc' := 34) (tgt := 113) dX5_order_31 rfl (by decide) (fun h_31 => ?_) (fun h_31 => absurd (rfl) h_31)
      refine X_iload_n (i := 2) (pc' := 114) dX5_order_113 rfl rfl rfl ?_
      refine X_ri dX5_order_114 rfl ⟨rfl, rfl⟩ ?_
      exact ⟨rfl, rfl⟩
    | succ f ih =>
      intro left row hl hr hf hon
      have h2b : 10 ^ (8 - (f + 1)) ≤ 10 ^ 7 := Nat.pow_le_pow_right (by decide) (by omega)
      have he : ordN P (f + 1) left row = if left = 0 then nI row else match fUn P left (pn P) with | none => -9 | some k => ordN P f (dif left (2 ^ k)) (row * 10 + k + 1) := rfl
      by_cases hz : left = 0
      · rw [he, if_pos hz]
        subst hz
        refine X_iload_n (i := 1) (pc' := 31) dX5_order_30 rfl rfl rfl ?_
        refine X_if_eq (pc' := 34) (tgt := 113) dX5_order_31 rfl (by decide) (fun h_31 => ?_) (fun h_31 => absurd (rfl) h_31)
        refine X_iload_n (i := 2) (pc' := 114) dX5_order_113 rfl rfl rfl ?_
        refine X_ri dX5_order_114 rfl ⟨rfl, rfl⟩ ?_
        exact ⟨rfl, rfl⟩
      · rw [he, if_neg hz]
        rcases hf : fUn P left (pn P) with _ | k
        · exact d_order1 cx τ hP h hl hz hf
        · exact d_order2 cx τ hP h hl hz hf (by omega) (ih (dif left (2 ^ k)) (row * 10 + k + 1) (dif_lt hl) (by
            have hkn := (fUn_lt hf).1
            have e : 10 ^ (8 - f) = 10 * 10 ^ (8 - (f + 1)) := by rw [show 8 - f = (8 - (f + 1)) + 1 by omega, Nat.pow_succ, Nat.mul_comm]
            omega) (by omega) (by have := ones_dif left hl k (by have := (fUn_lt hf).1; omega) (fUn_lt hf).2.1; omega))
  refine Ct_of (by decide) (Nat.le_of_ble_eq_true rfl) (lv := [(0, _)]) rfl ?_
  unfold orderF
  refine X_iconst (pc' := 1) (v := nI 1) dX5_order_0 rfl (by decide) ?_
  refine X_aload_n (i := 0) (pc' := 2) dX5_order_1 rfl rfl rfl ?_
  refine X_get (pc' := 5) (v := .int _) dX5_order_2 rfl (gf_X5_96 _ rfl) o_M_1 rfl rfl ?_
  refine X_eqi (nI (pn P)) (h.1) ?_
  refine X_ishl (pc' := 6) dX5_order_5 rfl ?_
  refine X_eqi (nI (2 ^ pn P)) (bt_shl (by omega)) ?_
  refine X_iconst (pc' := 7) (v := nI 1) dX5_order_6 rfl (by decide) ?_
  refine X_isub (pc' := 8) dX5_order_7 rfl ?_
  refine X_eqi (nI (2 ^ pn P - 1)) (pk_sub (Nat.two_pow_pos _)) ?_
  refine X_aload_n (i := 0) (pc' := 9) dX5_order_8 rfl rfl rfl ?_
  refine X_get (pc' := 12) (v := .ref 4) dX5_order_9 rfl (gf_X5_16 _ rfl) o_M_1 rfl rfl ?_
  refine X_bipush (pc' := 14) (v := nI 13) dX5_order_12 rfl (by decide) ?_
  refine X_iald (pc' := 15) (j := 13) dX5_order_14 rfl (Or.inl r_M_4) (rfl) (by decide) ?_
  refine X_eqi (nI (sSt s)) (h3) ?_
  refine X_iconst (pc' := 16) (v := (-1)) dX5_order_15 rfl (by decide) ?_
  refine X_ixor (pc' := 17) dX5_order_16 rfl ?_
  refine X_iand (pc' := 18) dX5_order_17 rfl ?_
  refine X_eqi (nI (2 ^ pn P - 1 - sSt s)) (by rw [dif_nI _ (by omega) _ (by omega), dif_all _ hn6 _ (by omega) (by omega)]) ?_
  refine X_istore_n (i := 1) (pc' := 19) (lv' := [(1, _), (0, _)]) dX5_order_18 rfl rfl (Nat.le_of_ble_eq_true rfl) rfl ?_
  refine X_iload_n (i := 1) (pc' := 20) dX5_order_19 rfl rfl rfl ?_
  refine X_if_ne (pc' := 23) (tgt := 28) dX5_order_20 rfl (by decide) (fun h_20 => ?_) (fun h_20 => ?_)
  · refine X_iconst (pc' := 29) (v := nI 0) dX5_order_28 rfl (by decide) ?_
    refine X_istore_n (i := 2) (pc' := 30) (lv' := [(2, _), (1, _), (0, _)]) dX5_order_29 rfl rfl (Nat.le_of_ble_eq_true rfl) rfl ?_
    first
    | (have hz : 2 ^ pn P - 1 - sSt s = 0 := (nI_eq (by omega) (by decide)).mp h_20
       rw [if_pos hz, hz]
       exact X_lv _ (by simp) (d_order0 cx τ))
    | (have hz : ¬ 2 ^ pn P - 1 - sSt s = 0 := fun q => h_20 (by rw [q]; rfl)
       rw [if_neg hz]
       exact X_lv _ (by simp) (hlp 6 (2 ^ pn P - 1 - sSt s) 0 (by omega) (by decide) (by decide) (ones_le _)))
  · refine X_bipush (pc' := 25) (v := (-9)) dX5_order_23 rfl (by decide) ?_
    refine X_goto (pc' := 0) (tgt := 29) dX5_order_25 (by decide) ?_
    refine X_istore_n (i := 2) (pc' := 30) (lv' := [(2, _), (1, _), (0, _)]) dX5_order_29 rfl rfl (Nat.le_of_ble_eq_true rfl) rfl ?_
    first
    | (have hz : 2 ^ pn P - 1 - sSt s = 0 := (nI_eq (by omega) (by decide)).mp h_20
       rw [if_pos hz, hz]
       exact X_lv _ (by simp) (d_order0 cx τ))
    | (have hz : ¬ 2 ^ pn P - 1 - sSt s = 0 := fun q => h_20 (by rw [q]; rfl)
       rw [if_neg hz]
       exact X_lv _ (by simp) (hlp 6 (2 ^ pn P - 1 - sSt s) 0 (by omega) (by decide) (by decide) (ones_le _)))
theorem d_count (τ : xT) {P : PT} (hP : Pok P) (h : MT τ P) {m : Nat} {s : SN} (hs : MS τ 4 0 (pn P) s) (ho : Sok P m s) (hm : m < 4500) {len na : Nat} (hlen : τ.1 1 13 = nI len) (hna : τ.1 1 16 = nI na) (w : Int32) : CI cx m_X5_count [.ref 1, .int w] PM τ (fun x τ' => τ' = τ ∧ x = countF P s len na w) := by
  obtain ⟨h0, h1, h2, h3, h4, h5, h6⟩ := id hs
  have hn6 := hP.1
  have h26 := two6 hP
  have hst := ho.2.1
  have hlp : ∀ (j : Nat) (τ' : xT), j ≤ pn P → τ' = τ → X cx m_X5_count PM (qI PM (fun x τ' => τ' = τ ∧ x = countF P s len na w)) 4 [(3, .int (nI j)), (2, .int (nI (sumU P s j))), (0, .ref 1), (1, .int w)] [] PM τ' := by
    refine xloop _ _ (pn P) (fun τ' g => ?_) (fun j τ' hj g ih => ?_)
    · subst g
      unfold countF
      refine X_iload_n (i := 3) (pc' := 5) dX5_count_4 rfl rfl rfl ?_
      refine X_aload_n (i := 0) (pc' := 6) dX5_count_5 rfl rfl rfl ?_
      refine X_get (pc' := 9) (v := .int _) dX5_count_6 rfl (gf_X5_96 _ rfl) o_M_1 rfl rfl ?_
      refine X_eqi (nI (pn P)) (h.1) ?_
      refine X_icmp_ge (pc' := 12) (tgt := 40) dX5_count_9 rfl (by decide) (fun h_9 => ?_) (fun h_9 => absurd (nI_le (Nat.le_refl _) (by omega)) h_9)
      refine X_iload_n (i := 1) (pc' := 41) dX5_count_40 rfl rfl rfl ?_
      rcases Classical.em (w.toInt < 0 ∨ 9 < w.toInt) with hs_41 | hs_41
      · refine X_tabOut (pc' := 0) (tgt := 155) dX5_count_41 hs_41 (by decide) ?_
        refine X_bipush (pc' := 157) (v := (-2)) dX5_count_155 rfl (by decide) ?_
        refine X_ri dX5_count_157 rfl ⟨rfl, rfl⟩ ?_
        exact ⟨rfl, (swF_out hs_41).symm⟩
      · obtain ⟨j_41, hj_41, rfl⟩ := xsw_of (n := 9) hs_41 (by decide)
        rcases (show j_41 = 0 ∨ j_41 = 1 ∨ j_41 = 2 ∨ j_41 = 3 ∨ j_41 = 4 ∨ j_41 = 5 ∨ j_41 = 6 ∨ j_41 = 7 ∨ j_41 = 8 ∨ j_41 = 9 by omega) with rfl | rfl | rfl | rfl | rfl | rfl | rfl | rfl | rfl | rfl
        · refine X_tabIn (pc' := 0) (off := 55) (tgt := 96) dX5_count_41 (by decide) (by decide) rfl (by decide) ?_
          refine X_aload_n (i := 0) (pc' := 97) dX5_count_96 rfl rfl rfl ?_
          refine X_get (pc' := 100) (v := .int _) dX5_count_97 rfl (gf_X5_54 _ rfl) o_M_1 rfl rfl ?_
          refine X_ri dX5_count_100 rfl ⟨rfl, rfl⟩ ?_
          rw [swF_in (by decide) (by decide)]
          first
            | exact ⟨rfl, hlen⟩
            | exact ⟨rfl, hna⟩
            | exact ⟨rfl, h.1⟩
            | exact ⟨rfl, h.2.1⟩
            | exact ⟨rfl, h.2.2.1⟩
            | exact ⟨rfl, h2⟩
            | exact ⟨rfl, h3⟩
            | exact ⟨rfl, h4⟩
            | exact ⟨rfl, h5⟩
            | exact ⟨rfl, h6⟩
            | exact ⟨rfl, rfl⟩
        · refine X_tabIn (pc' := 0) (off := 60) (tgt := 101) dX5_count_41 (by decide) (by decide) rfl (by decide) ?_
          refine X_aload_n (i := 0) (pc' := 102) dX5_count_101 rfl rfl rfl ?_
          refine X_get (pc' := 105) (v := .int _) dX5_count_102 rfl (gf_X5_96 _ rfl) o_M_1 rfl rfl ?_
          refine X_ri dX5_count_105 rfl ⟨rfl, rfl⟩ ?_
          rw [swF_in (by decide) (by decide)]
          first
            | exact ⟨rfl, hlen⟩
            | exact ⟨rfl, hna⟩
            | exact ⟨rfl, h.1⟩
            | exact ⟨rfl, h.2.1⟩
            | exact ⟨rfl, h.2.2.1⟩
            | exact ⟨rfl, h2⟩
            | exact ⟨rfl, h3⟩
            | exact ⟨rfl, h4⟩
            | exact ⟨rfl, h5⟩
            | exact ⟨rfl, h6⟩
            | exact ⟨rfl, rfl⟩
        · refine X_tabIn (pc' := 0) (off := 65) (tgt := 106) dX5_count_41 (by decide) (by decide) rfl (by decide) ?_
          refine X_aload_n (i := 0) (pc' := 107) dX5_count_106 rfl rfl rfl ?_
          refine X_get (pc' := 110) (v := .int _) dX5_count_107 rfl (gf_X5_99 _ rfl) o_M_1 rfl rfl ?_
          refine X_ri dX5_count_110 rfl ⟨rfl, rfl⟩ ?_
          rw [swF_in (by decide) (by decide)]
          first
            | exact ⟨rfl, hlen⟩
            | exact ⟨rfl, hna⟩
            | exact ⟨rfl, h.1⟩
            | exact ⟨rfl, h.2.1⟩
            | exact ⟨rfl, h.2.2.1⟩
            | exact ⟨rfl, h2⟩
            | exact ⟨rfl, h3⟩
            | exact ⟨rfl, h4⟩
            | exact ⟨rfl, h5⟩
            | exact ⟨rfl, h6⟩
            | exact ⟨rfl, rfl⟩
        · refine X_tabIn (pc' := 0) (off := 70) (tgt := 111) dX5_count_41 (by decide) (by decide) rfl (by decide) ?_
          refine X_aload_n (i := 0) (pc' := 112) dX5_count_111 rfl rfl rfl ?_
          refine X_get (pc' := 115) (v := .int _) dX5_count_112 rfl (gf_X5_44 _ rfl) o_M_1 rfl rfl ?_
          refine X_ri dX5_count_115 rfl ⟨rfl, rfl⟩ ?_
          rw [swF_in (by decide) (by decide)]
          first
            | exact ⟨rfl, hlen⟩
            | exact ⟨rfl, hna⟩
            | exact ⟨rfl, h.1⟩
            | exact ⟨rfl, h.2.1⟩
            | exact ⟨rfl, h.2.2.1⟩
            | exact ⟨rfl, h2⟩
            | exact ⟨rfl, h3⟩
            | exact ⟨rfl, h4⟩
            | exact ⟨rfl, h5⟩
            | exact ⟨rfl, h6⟩
            | exact ⟨rfl, rfl⟩
        · refine X_tabIn (pc' := 0) (off := 75) (tgt := 116) dX5_count_41 (by decide) (by decide) rfl (by decide) ?_
          refine X_aload_n (i := 0) (pc' := 117) dX5_count_116 rfl rfl rfl ?_
          refine X_get (pc' := 120) (v := .ref 4) dX5_count_117 rfl (gf_X5_16 _ rfl) o_M_1 rfl rfl ?_
          refine X_bipush (pc' := 122) (v := nI 14) dX5_count_120 rfl (by decide) ?_
          refine X_iald (pc' := 123) (j := 14) dX5_count_122 rfl (Or.inl r_M_4) (rfl) (by decide) ?_
          refine X_ri dX5_count_123 rfl ⟨rfl, rfl⟩ ?_
          rw [swF_in (by decide) (by decide)]
          first
            | exact ⟨rfl, hlen⟩
            | exact ⟨rfl, hna⟩
            | exact ⟨rfl, h.1⟩
            | exact ⟨rfl, h.2.1⟩
            | exact ⟨rfl, h.2.2.1⟩
            | exact ⟨rfl, h2⟩
            | exact ⟨rfl, h3⟩
            | exact ⟨rfl, h4⟩
            | exact ⟨rfl, h5⟩
            | exact ⟨rfl, h6⟩
            | exact ⟨rfl, rfl⟩
        · refine X_tabIn (pc' := 0) (off := 83) (tgt := 124) dX5_count_41 (by decide) (by decide) rfl (by decide) ?_
          refine X_aload_n (i := 0) (pc' := 125) dX5_count_124 rfl rfl rfl ?_
          refine X_get (pc' := 128) (v := .ref 4) dX5_count_125 rfl (gf_X5_16 _ rfl) o_M_1 rfl rfl ?_
          refine X_bipush (pc' := 130) (v := nI 13) dX5_count_128 rfl (by decide) ?_
          refine X_iald (pc' := 131) (j := 13) dX5_count_130 rfl (Or.inl r_M_4) (rfl) (by decide) ?_
          refine X_ri dX5_count_131 rfl ⟨rfl, rfl⟩ ?_
          rw [swF_in (by decide) (by decide)]
          first
            | exact ⟨rfl, hlen⟩
            | exact ⟨rfl, hna⟩
            | exact ⟨rfl, h.1⟩
            | exact ⟨rfl, h.2.1⟩
            | exact ⟨rfl, h.2.2.1⟩
            | exact ⟨rfl, h2⟩
            | exact ⟨rfl, h3⟩
            | exact ⟨rfl, h4⟩
            | exact ⟨rfl, h5⟩
            | exact ⟨rfl, h6⟩
            | exact ⟨rfl, rfl⟩
        · refine X_tabIn (pc' := 0) (off := 91) (tgt := 132) dX5_count_41 (by decide) (by decide) rfl (by decide) ?_
          refine X_aload_n (i := 0) (pc' := 133) dX5_count_132 rfl rfl rfl ?_
          refine X_get (pc' := 136) (v := .ref 4) dX5_count_133 rfl (gf_X5_16 _ rfl) o_M_1 rfl rfl ?_
          refine X_bipush (pc' := 138) (v := nI 15) dX5_count_136 rfl (by decide) ?_
          refine X_iald (pc' := 139) (j := 15) dX5_count_138 rfl (Or.inl r_M_4) (rfl) (by decide) ?_
          refine X_ri dX5_count_139 rfl ⟨rfl, rfl⟩ ?_
          rw [swF_in (by decide) (by decide)]
          first
            | exact ⟨rfl, hlen⟩
            | exact ⟨rfl, hna⟩
            | exact ⟨rfl, h.1⟩
            | exact ⟨rfl, h.2.1⟩
            | exact ⟨rfl, h.2.2.1⟩
            | exact ⟨rfl, h2⟩
            | exact ⟨rfl, h3⟩
            | exact ⟨rfl, h4⟩
            | exact ⟨rfl, h5⟩
            | exact ⟨rfl, h6⟩
            | exact ⟨rfl, rfl⟩
        · refine X_tabIn (pc' := 0) (off := 99) (tgt := 140) dX5_count_41 (by decide) (by decide) rfl (by decide) ?_
          refine X_aload_n (i := 0) (pc' := 141) dX5_count_140 rfl rfl rfl ?_
          refine X_get (pc' := 144) (v := .ref 4) dX5_count_141 rfl (gf_X5_16 _ rfl) o_M_1 rfl rfl ?_
          refine X_bipush (pc' := 146) (v := nI 16) dX5_count_144 rfl (by decide) ?_
          refine X_iald (pc' := 147) (j := 16) dX5_count_146 rfl (Or.inl r_M_4) (rfl) (by decide) ?_
          refine X_ri dX5_count_147 rfl ⟨rfl, rfl⟩ ?_
          rw [swF_in (by decide) (by decide)]
          first
            | exact ⟨rfl, hlen⟩
            | exact ⟨rfl, hna⟩
            | exact ⟨rfl, h.1⟩
            | exact ⟨rfl, h.2.1⟩
            | exact ⟨rfl, h.2.2.1⟩
            | exact ⟨rfl, h2⟩
            | exact ⟨rfl, h3⟩
            | exact ⟨rfl, h4⟩
            | exact ⟨rfl, h5⟩
            | exact ⟨rfl, h6⟩
            | exact ⟨rfl, rfl⟩
        · refine X_tabIn (pc' := 0) (off := 107) (tgt := 148) dX5_count_41 (by decide) (by decide) rfl (by decide) ?_
          refine X_iload_n (i := 2) (pc' := 149) dX5_count_148 rfl rfl rfl ?_
          refine X_ri dX5_count_149 rfl ⟨rfl, rfl⟩ ?_
          rw [swF_in (by decide) (by decide)]
          first
            | exact ⟨rfl, hlen⟩
            | exact ⟨rfl, hna⟩
            | exact ⟨rfl, h.1⟩
            | exact ⟨rfl, h.2.1⟩
            | exact ⟨rfl, h.2.2.1⟩
            | exact ⟨rfl, h2⟩
            | exact ⟨rfl, h3⟩
            | exact ⟨rfl, h4⟩
            | exact ⟨rfl, h5⟩
            | exact ⟨rfl, h6⟩
            | exact ⟨rfl, rfl⟩
        · refine X_tabIn (pc' := 0) (off := 109) (tgt := 150) dX5_count_41 (by decide) (by decide) rfl (by decide) ?_
          refine X_aload_n (i := 0) (pc' := 151) dX5_count_150 rfl rfl rfl ?_
          refine X_get (pc' := 154) (v := .int _) dX5_count_151 rfl (gf_X5_102 _ rfl) o_M_1 rfl rfl ?_
          refine X_ri dX5_count_154 rfl ⟨rfl, rfl⟩ ?_
          rw [swF_in (by decide) (by decide)]
          first
            | exact ⟨rfl, hlen⟩
            | exact ⟨rfl, hna⟩
            | exact ⟨rfl, h.1⟩
            | exact ⟨rfl, h.2.1⟩
            | exact ⟨rfl, h.2.2.1⟩
            | exact ⟨rfl, h2⟩
            | exact ⟨rfl, h3⟩
            | exact ⟨rfl, h4⟩
            | exact ⟨rfl, h5⟩
            | exact ⟨rfl, h6⟩
            | exact ⟨rfl, rfl⟩
    · subst g
      have hb := sumU_le ho j (by omega)
      have hp := price_le ho hj
      refine X_iload_n (i := 3) (pc' := 5) dX5_count_4 rfl rfl rfl ?_
      refine X_aload_n (i := 0) (pc' := 6) dX5_count_5 rfl rfl rfl ?_
      refine X_get (pc' := 9) (v := .int _) dX5_count_6 rfl (gf_X5_96 _ rfl) o_M_1 rfl rfl ?_
      refine X_eqi (nI (pn P)) (h.1) ?_
      refine X_icmp_ge (pc' := 12) (tgt := 40) dX5_count_9 rfl (by decide) (fun h_9 => absurd h_9 (nI_ge hj (by omega))) (fun h_9 => ?_)
      refine X_iload_n (i := 2) (pc' := 13) dX5_count_12 rfl rfl rfl ?_
      refine X_aload_n (i := 0) (pc' := 14) dX5_count_13 rfl rfl rfl ?_
      refine X_iconst (pc' := 15) (v := nI 0) dX5_count_14 rfl (by decide) ?_
      refine X_iload_n (i := 3) (pc' := 16) dX5_count_15 rfl rfl rfl ?_
      refine X_OIp (As := [_, _]) (rest := [_]) (pc' := 19) dX5_count_16 rfl k_X5_isSent l_X5_116 v_X5_isSent o_M_1 rfl ⟨by decide, by decide⟩ rfl rfl (Nat.le_of_ble_eq_true rfl) (d_isSent cx τ' (lev := 0) (by decide) hs (by omega) (show j < 31 by omega)) ?_
      refine X_if_eq (pc' := 22) (tgt := 26) dX5_count_19 rfl (by decide) (fun h_19 => ?_) (fun h_19 => ?_)
      · refine X_aload_n (i := 0) (pc' := 27) dX5_count_26 rfl rfl rfl ?_
        refine X_iconst (pc' := 28) (v := nI 0) dX5_count_27 rfl (by decide) ?_
        refine X_iload_n (i := 3) (pc' := 29) dX5_count_28 rfl rfl rfl ?_
        refine X_OIp (As := [_, _]) (rest := [_]) (pc' := 32) dX5_count_29 rfl k_X5_priceOn l_X5_119 v_X5_priceOn o_M_1 rfl ⟨by decide, by decide⟩ rfl rfl (Nat.le_of_ble_eq_true rfl) (d_priceOn cx τ' hP h (lev := 0) (by decide) hs ho (by omega) hj) ?_
        refine X_iadd (pc' := 33) dX5_count_32 rfl ?_
        refine X_eqi (nI (sumU P s (j + 1))) (by first | (rw [show sumU P s (j + 1) = sumU P s j + 0 from congrArg (sumU P s j + ·) (if_pos (zI_1 h_19))]; exact nI_add _ _) | (rw [show sumU P s (j + 1) = sumU P s j + price P s j from congrArg (sumU P s j + ·) (if_neg (zI_0.mp h_19))]; exact nI_add _ _)) ?_
        refine X_istore_n (i := 2) (pc' := 34) (lv' := [(2, _), (3, _), (0, _), (1, _)]) dX5_count_33 rfl rfl (Nat.le_of_ble_eq_true rfl) rfl ?_
        refine X_iinc (pc' := 37) (v := nI (j + 1)) (lv' := [(3, _), (2, _), (0, _), (1, _)]) dX5_count_34 rfl rfl ((nI_succ j).symm) (Nat.le_of_ble_eq_true rfl) rfl ?_
        refine X_goto (pc' := 0) (tgt := 4) dX5_count_37 (by decide) ?_
        exact X_lv _ (by simp) (ih τ' rfl)
      · refine X_iconst (pc' := 23) (v := nI 0) dX5_count_22 rfl (by decide) ?_
        refine X_goto (pc' := 0) (tgt := 32) dX5_count_23 (by decide) ?_
        refine X_iadd (pc' := 33) dX5_count_32 rfl ?_
        refine X_eqi (nI (sumU P s (j + 1))) (by first | (rw [show sumU P s (j + 1) = sumU P s j + 0 from congrArg (sumU P s j + ·) (if_pos (zI_1 h_19))]; exact nI_add _ _) | (rw [show sumU P s (j + 1) = sumU P s j + price P s j from congrArg (sumU P s j + ·) (if_neg (zI_0.mp h_19))]; exact nI_add _ _)) ?_
        refine X_istore_n (i := 2) (pc' := 34) (lv' := [(2, _), (3, _), (0, _), (1, _)]) dX5_count_33 rfl rfl (Nat.le_of_ble_eq_true rfl) rfl ?_
        refine X_iinc (pc' := 37) (v := nI (j + 1)) (lv' := [(3, _), (2, _), (0, _), (1, _)]) dX5_count_34 rfl rfl ((nI_succ j).symm) (Nat.le_of_ble_eq_true rfl) rfl ?_
        refine X_goto (pc' := 0) (tgt := 4) dX5_count_37 (by decide) ?_
        exact X_lv _ (by simp) (ih τ' rfl)
  refine Ct_of (by decide) (Nat.le_of_ble_eq_true rfl) (lv := [(0, _), (1, _)]) rfl ?_
  refine X_iconst (pc' := 1) (v := nI 0) dX5_count_0 rfl (by decide) ?_
  refine X_istore_n (i := 2) (pc' := 2) (lv' := [(2, _), (0, _), (1, _)]) dX5_count_1 rfl rfl (Nat.le_of_ble_eq_true rfl) rfl ?_
  refine X_iconst (pc' := 3) (v := nI 0) dX5_count_2 rfl (by decide) ?_
  refine X_istore_n (i := 3) (pc' := 4) (lv' := [(3, _), (2, _), (0, _), (1, _)]) dX5_count_3 rfl rfl (Nat.le_of_ble_eq_true rfl) rfl ?_
  exact X_lv _ (by simp [sumU]) (hlp 0 τ (Nat.zero_le _) rfl)
end M7
