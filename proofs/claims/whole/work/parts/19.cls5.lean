/-! ===== the order, what is lost, what rests, counts ===== -/
abbrev cnd (P : PT) (left k : Nat) : Prop := bt left k ∧ px P k &&& left = 0
def fUn (P : PT) (left : Nat) : Nat → Option Nat
  | 0 => none
  | j + 1 => match fUn P left j with
    | some k => some k
    | none => if cnd P left j then some j else none
theorem fUn_lt {P : PT} {left : Nat} : ∀ {n k : Nat}, fUn P left n = some k → k < n ∧ cnd P left k := by
  intro n
  induction n with
  | zero => intro k h; cases h
  | succ n ih =>
    intro k h
    unfold fUn at h
    split at h
    · rename_i k' hk
      cases h
      have := ih hk
      exact ⟨by omega, this.2⟩
    · split at h
      · rename_i hc; cases h; exact ⟨by omega, hc⟩
      · cases h
theorem fUn_mono {P : PT} {left k : Nat} : ∀ {n : Nat} (d : Nat), fUn P left n = some k → fUn P left (n + d) = some k := by
  intro n d
  induction d with
  | zero => exact fun h => h
  | succ d ih =>
    intro h
    show (match fUn P left (n + d) with | some k => some k | none => if cnd P left (n + d) then some (n + d) else none) = _
    rw [ih h]
def oI (o : Option Nat) : Int32 := match o with | none => -1 | some k => nI k
def ordN (P : PT) : Nat → Nat → Nat → Int32
  | 0, _, row => nI row
  | f + 1, left, row => if left = 0 then nI row else match fUn P left (pn P) with
    | none => -9
    | some k => ordN P f (dif left (2 ^ k)) (row * 10 + k + 1)
def orderF (P : PT) (s : SN) : Int32 := if 2 ^ pn P - 1 - sSt s = 0 then -9 else ordN P 6 (2 ^ pn P - 1 - sSt s) 0
def countF (P : PT) (s : SN) (len na : Nat) (w : Int32) : Int32 := swF w 9 (fun j => match j with | 0 => nI len | 1 => nI (pn P) | 2 => nI (pp P) | 3 => nI (pr P) | 4 => nI (sDy s) | 5 => nI (sSt s) | 6 => nI (sTd s) | 7 => nI (sPd s) | 8 => nI (sumU P s (pn P)) | _ => nI na) (-2)
theorem ones_sub : ∀ u, u < 64 → ∀ e, e < 64 → u &&& e = u → ones u ≤ ones e := by decide +kernel
def lostN (P : PT) (s : SN) (k : Nat) (p : Int32) (x e : Nat) : Nat → Nat
  | 0 => 0
  | u + 1 => lostN P s k p x e u + if u &&& e = u ∧ nI (costW P s k (dif e u)) ≤ p then x ^ ones u * (10 - x) ^ (ones e - ones u) else 0
theorem pw_le {x n : Nat} (hx : x ≤ 10) (hn : n ≤ 6) : x ^ n ≤ 1000000 := Nat.le_trans (Nat.pow_le_pow_left hx n) (Nat.le_trans (Nat.pow_le_pow_right (n := 10) (by decide) hn) (by decide))
theorem lostN_le (P : PT) (s : SN) (k : Nat) (p : Int32) {x : Nat} (hx : x ≤ 10) (e : Nat) : ∀ u, lostN P s k p x e u ≤ u * 1000000000000 := by
  intro u
  induction u with
  | zero => exact Nat.le_refl _
  | succ u ih =>
    have h1 := pw_le (x := x) (n := ones u) hx (ones_le u)
    have h2 := pw_le (x := 10 - x) (n := ones e - ones u) (by omega) (by have := ones_le e; omega)
    have h3 := Nat.mul_le_mul h1 h2
    unfold lostN
    rw [Nat.succ_mul]
    refine Nat.add_le_add ih ?_
    split
    · exact Nat.le_trans h3 (Nat.le_of_ble_eq_true rfl)
    · exact Nat.zero_le _
def lostF (P : PT) (s : SN) (l p x : Int32) (u : Prop) [Decidable u] : Int32 := onL P l fun k => if isC p then swF x 10 (fun v => if bt (sSt s) k then -3 else fracF (lostN P s k p v (px P k &&& sSt s) 64 : Nat) (10 ^ ones (px P k &&& sSt s)) u) (-2) else -2
def besN (P : PT) (s : SN) (a n b m : Nat) : Nat := costIn P s a n (if m < n then sSt s ||| 2 ^ b else sSt s) + if n = m then 2 else 0
theorem besN_le (P : PT) (s : SN) (a n b m : Nat) : besN P s a n b m ≤ 596 := by
  have := costIn_le P s a n (if m < n then sSt s ||| 2 ^ b else sSt s)
  have h2 : (if n = m then 2 else 0) ≤ 2 := by split <;> omega
  unfold besN
  omega
abbrev isB (P : PT) (s : SN) (a n b m : Nat) : Prop := ∀ d, d < 4 → ¬ besN P s a d b m < besN P s a n b m
def restN (P : PT) (s : SN) (a b : Nat) : Nat → Nat × Int32
  | 0 => (0, -9)
  | i + 1 => if isB P s a (i / 4) b (i % 4) ∧ isB P s b (i % 4) a (i / 4) then ((restN P s a b i).1 + 1, if (restN P s a b i).1 = 0 then nI (10 * (i / 4) + i % 4) else (restN P s a b i).2) else restN P s a b i
theorem nI_ne9 {n : Nat} (h : n < 2 ^ 31) : nI n ≠ -9 := by
  intro e
  have h1 := congrArg Int32.toInt e
  rw [nI_toInt h] at h1
  have h2 : (-9 : Int32).toInt = -9 := by decide
  omega
theorem restN_le (P : PT) (s : SN) (a b : Nat) : ∀ i, i ≤ 16 → (restN P s a b i).1 ≤ i ∧ ((restN P s a b i).2 = -9 ↔ (restN P s a b i).1 = 0) := by
  intro i
  induction i with
  | zero => intro _; exact ⟨Nat.le_refl _, fun _ => rfl, fun _ => rfl⟩
  | succ i ih =>
    intro hi
    obtain ⟨h1, h2⟩ := ih (by omega)
    unfold restN
    split
    · refine ⟨by show _ + 1 ≤ _; omega, ?_⟩
      show (if (restN P s a b i).1 = 0 then nI (10 * (i / 4) + i % 4) else (restN P s a b i).2) = -9 ↔ (restN P s a b i).1 + 1 = 0
      split
      · exact ⟨fun e => absurd e (nI_ne9 (by omega)), fun e => absurd e (by omega)⟩
      · rename_i h3
        exact ⟨fun e => absurd (h2.mp e) h3, fun e => absurd e (by omega)⟩
    · exact ⟨by omega, h2⟩
def restsF (P : PT) (s : SN) (a b w : Int32) : Int32 := if kn P a ∧ kn P b then (if a = b then -2 else swF w 1 (fun j => if bt (sSt s) a.toInt.toNat ∨ bt (sSt s) b.toInt.toNat then -3 else if j = 0 then nI (restN P s a.toInt.toNat b.toInt.toNat 16).1 else (restN P s a.toInt.toNat b.toInt.toNat 16).2) (-2)) else -1
section C5
variable (cx : xC)
set_option maxHeartbeats 4000000
set_option maxRecDepth 100000
theorem c_firstU (τ : xT) {P : PT} {s : SN} {m : Nat} (h : Qw τ P s m) (left : Nat) (hle : left < 64) : CI cx m_X4_firstUnexplained [.ref 1, .int (nI left)] PW τ (fun x τ' => τ' = τ ∧ x = oI (fUn P left (pn P))) := by
  obtain ⟨hT, hs, hP, ho, hm⟩ := h
  obtain ⟨q0, q1, q2, q3, q4⟩ := id hT
  have hn6 := hP.1
  refine Ct_of (by decide) (Nat.le_of_ble_eq_true rfl) (lv := [(0, _), (1, _)]) rfl ?_
  have hl : ∀ (j : Nat) (τ' : xT), j ≤ pn P → (τ' = τ ∧ fUn P left j = none) → X cx m_X4_firstUnexplained PW (qI PW (fun x τ' => τ' = τ ∧ x = oI (fUn P left (pn P)))) 2 [(2, .int (nI j)), (0, .ref 1), (1, .int (nI left))] [] PW τ' := by
    refine xloop _ _ (pn P) (fun τ' h => ?_) (fun j τ' hj h ih => ?_)
    · obtain ⟨h, hf⟩ := h
      subst h
      refine X_iload_n (i := 2) (pc' := 3) dX4_firstUnexplained_2 rfl rfl rfl ?_
      refine X_aload_n (i := 0) (pc' := 4) dX4_firstUnexplained_3 rfl rfl rfl ?_
      refine X_get (pc' := 7) (v := .ref 8) dX4_firstUnexplained_4 rfl (gf_X4_23 _ rfl) o_W_1 rfl rfl ?_
      refine X_get (pc' := 10) (v := .int _) dX4_firstUnexplained_7 rfl (gf_X4_78 _ rfl) o_W_8 rfl rfl ?_
      refine X_eqi (nI (pn P)) (q2) ?_
      refine X_icmp_ge (pc' := 13) (tgt := 45) dX4_firstUnexplained_10 rfl (by decide) (fun h_10 => ?_) (fun h_10 => absurd (nI_le (Nat.le_refl _) (by omega)) h_10)
      refine X_iconst (pc' := 46) (v := (-1)) dX4_firstUnexplained_45 rfl (by decide) ?_
      refine X_ri dX4_firstUnexplained_46 rfl ⟨rfl, rfl⟩ ?_
      exact ⟨rfl, by rw [hf]; rfl⟩
    · obtain ⟨h, hf⟩ := h
      subst h
      have hxj := hP.2.2.2.2 j hj
      have hand : px P j &&& left < 64 := and_lt64 hxj
      have hs1 : fUn P left (j + 1) = if cnd P left j then some j else none := by
        show (match fUn P left j with | some k => some k | none => if cnd P left j then some j else none) = _
        rw [hf]
      refine X_iload_n (i := 2) (pc' := 3) dX4_firstUnexplained_2 rfl rfl rfl ?_
      refine X_aload_n (i := 0) (pc' := 4) dX4_firstUnexplained_3 rfl rfl rfl ?_
      refine X_get (pc' := 7) (v := .ref 8) dX4_firstUnexplained_4 rfl (gf_X4_23 _ rfl) o_W_1 rfl rfl ?_
      refine X_get (pc' := 10) (v := .int _) dX4_firstUnexplained_7 rfl (gf_X4_78 _ rfl) o_W_8 rfl rfl ?_
      refine X_eqi (nI (pn P)) (q2) ?_
      refine X_icmp_ge (pc' := 13) (tgt := 45) dX4_firstUnexplained_10 rfl (by decide) (fun h_10 => absurd h_10 (nI_ge hj (by omega))) (fun h_10 => ?_)
      refine X_iload_n (i := 1) (pc' := 14) dX4_firstUnexplained_13 rfl rfl rfl ?_
      refine X_iload_n (i := 2) (pc' := 15) dX4_firstUnexplained_14 rfl rfl rfl ?_
      refine X_SIp (As := [_, _]) (rest := []) (pc' := 18) dX4_firstUnexplained_15 rfl k_X4_has l_X4_101 s_X4_has ⟨by decide, by decide⟩ rfl rfl (Nat.le_of_ble_eq_true rfl) (c_X4_has cx τ' left j (by omega) (by omega)) ?_
      refine X_if_eq (pc' := 21) (tgt := 39) dX4_firstUnexplained_18 rfl (by decide) (fun h_18 => ?_) (fun h_18 => ?_)
      · refine X_iinc (pc' := 42) (v := nI (j + 1)) (lv' := [(2, _), (0, _), (1, _)]) dX4_firstUnexplained_39 rfl rfl ((nI_succ j).symm) (Nat.le_of_ble_eq_true rfl) rfl ?_
        refine X_goto (pc' := 0) (tgt := 2) dX4_firstUnexplained_42 (by decide) ?_
        first
          | exact X_lv _ (by simp) (ih τ' ⟨rfl, hs1.trans (if_neg (fun q => (zI_0.mp h_18) q.1))⟩)
          | exact X_lv _ (by simp) (ih τ' ⟨rfl, hs1.trans (if_neg (fun q => h_34 (by rw [q.2]; rfl)))⟩)
      · refine X_aload_n (i := 0) (pc' := 22) dX4_firstUnexplained_21 rfl rfl rfl ?_
        refine X_get (pc' := 25) (v := .ref 8) dX4_firstUnexplained_22 rfl (gf_X4_23 _ rfl) o_W_1 rfl rfl ?_
        refine X_get (pc' := 28) (v := .ref 11) dX4_firstUnexplained_25 rfl (gf_X4_95 _ rfl) o_W_8 rfl rfl ?_
        refine X_iload_n (i := 2) (pc' := 29) dX4_firstUnexplained_28 rfl rfl rfl ?_
        refine X_SIp (As := [_, _]) (rest := []) (pc' := 32) dX4_firstUnexplained_29 rfl k_X4_at l_X4_88 s_X4_at ⟨by decide, by decide⟩ rfl rfl (Nat.le_of_ble_eq_true rfl) (c_at_in cx τ' (Or.inl r_W_11) (show j < 6 by omega)) ?_
        refine X_eqi (nI (px P j)) (q4 j hj) ?_
        refine X_iload_n (i := 1) (pc' := 33) dX4_firstUnexplained_32 rfl rfl rfl ?_
        refine X_iand (pc' := 34) dX4_firstUnexplained_33 rfl ?_
        refine X_eqi (nI (px P j &&& left)) (nI_and (by omega) (by omega)) ?_
        refine X_if_ne (pc' := 37) (tgt := 39) dX4_firstUnexplained_34 rfl (by decide) (fun h_34 => ?_) (fun h_34 => ?_)
        · refine X_iinc (pc' := 42) (v := nI (j + 1)) (lv' := [(2, _), (0, _), (1, _)]) dX4_firstUnexplained_39 rfl rfl ((nI_succ j).symm) (Nat.le_of_ble_eq_true rfl) rfl ?_
          refine X_goto (pc' := 0) (tgt := 2) dX4_firstUnexplained_42 (by decide) ?_
          first
            | exact X_lv _ (by simp) (ih τ' ⟨rfl, hs1.trans (if_neg (fun q => (zI_0.mp h_18) q.1))⟩)
            | exact X_lv _ (by simp) (ih τ' ⟨rfl, hs1.trans (if_neg (fun q => h_34 (by rw [q.2]; rfl)))⟩)
        · refine X_iload_n (i := 2) (pc' := 38) dX4_firstUnexplained_37 rfl rfl rfl ?_
          refine X_ri dX4_firstUnexplained_38 rfl ⟨rfl, rfl⟩ ?_
          have h0 : px P j &&& left = 0 := (nI_eq (by omega) (by decide)).mp h_34
          have h1 : fUn P left (pn P) = some j := by
            have := fUn_mono (pn P - (j + 1)) (hs1.trans (if_pos ⟨zI_1 h_18, h0⟩))
            rwa [show j + 1 + (pn P - (j + 1)) = pn P by omega] at this
          exact ⟨rfl, by rw [h1]; rfl⟩
  refine X_iconst (pc' := 1) (v := nI 0) dX4_firstUnexplained_0 rfl (by decide) ?_
  refine X_istore_n (i := 2) (pc' := 2) (lv' := [(2, _), (0, _), (1, _)]) dX4_firstUnexplained_1 rfl rfl (Nat.le_of_ble_eq_true rfl) rfl ?_
  exact X_lv _ (by simp) (hl 0 τ (by omega) ⟨rfl, rfl⟩)
theorem c_order (τ : xT) {P : PT} {s : SN} {m : Nat} (h : Qw τ P s m) : CI cx m_X4_order [.ref 1] PW τ (fun x τ' => τ' = τ ∧ x = orderF P s) := by
  have h' := h
  obtain ⟨hT, hs, hP, ho, hm⟩ := h'
  have hn6 := hP.1
  have h26 := two6 hP
  refine Ct_of (by decide) (Nat.le_of_ble_eq_true rfl) (lv := [(0, _)]) rfl ?_
  have hl : ∀ (j : Nat) (q : Nat × Nat), j ≤ 6 → (q.1 < 64 ∧ q.2 < 10 ^ j ∧ ordN P (6 - j) q.1 q.2 = ordN P 6 (2 ^ pn P - 1 - sSt s) 0) → X cx m_X4_order PW (qI PW (fun x τ' => τ' = τ ∧ x = ordN P 6 (2 ^ pn P - 1 - sSt s) 0)) 16 [(3, .int (nI j)), (2, .int (nI q.2)), (1, .int (nI q.1)), (0, .ref 1)] [] PW τ := by
    refine xloop _ _ 6 (fun q h1 => ?_) (fun j q hj h1 ih => ?_)
    · obtain ⟨left, row⟩ := q
      obtain ⟨h1, h2, h3⟩ := h1
      refine X_iload_n (i := 3) (pc' := 17) dX4_order_16 rfl rfl rfl ?_
      refine X_bipush (pc' := 19) (v := nI 6) dX4_order_17 rfl (by decide) ?_
      refine X_icmp_ge (pc' := 22) (tgt := 67) dX4_order_19 rfl (by decide) (fun h_19 => ?_) (fun h_19 => absurd (nI_le (Nat.le_refl _) (by decide)) h_19)
      refine X_iload_n (i := 2) (pc' := 68) dX4_order_67 rfl rfl rfl ?_
      refine X_ri dX4_order_68 rfl ⟨rfl, rfl⟩ ?_
      exact ⟨rfl, by rw [← h3]; rfl⟩
    · obtain ⟨left, row⟩ := q
      obtain ⟨h1, h2, h3⟩ := h1
      have h1 : left < 64 := h1
      have h2 : row < 10 ^ j := h2
      have h2b : 10 ^ j ≤ 10 ^ 5 := Nat.pow_le_pow_right (by decide) (by omega)
      have h4 : ordN P (6 - j) left row = if left = 0 then nI row else match fUn P left (pn P) with | none => -9 | some k => ordN P (6 - (j + 1)) (dif left (2 ^ k)) (row * 10 + k + 1) := by
        rw [show 6 - j = (6 - (j + 1)) + 1 by omega]; rfl
      refine X_iload_n (i := 3) (pc' := 17) dX4_order_16 rfl rfl rfl ?_
      refine X_bipush (pc' := 19) (v := nI 6) dX4_order_17 rfl (by decide) ?_
      refine X_icmp_ge (pc' := 22) (tgt := 67) dX4_order_19 rfl (by decide) (fun h_19 => absurd h_19 (nI_ge hj (by decide))) (fun h_19 => ?_)
      refine X_iload_n (i := 1) (pc' := 23) dX4_order_22 rfl rfl rfl ?_
      refine X_if_eq (pc' := 26) (tgt := 67) dX4_order_23 rfl (by decide) (fun h_23 => ?_) (fun h_23 => ?_)
      · refine X_iload_n (i := 2) (pc' := 68) dX4_order_67 rfl rfl rfl ?_
        refine X_ri dX4_order_68 rfl ⟨rfl, rfl⟩ ?_
        have h0 : left = 0 := (nI_eq (by omega) (by decide)).mp h_23
        exact ⟨rfl, by rw [← h3]; exact (h4.trans (if_pos h0)).symm⟩
      · have h0 : ¬ left = 0 := fun q => h_23 (by rw [q]; rfl)
        have h5 := h4.trans (if_neg h0)
        refine X_aload_n (i := 0) (pc' := 27) dX4_order_26 rfl rfl rfl ?_
        refine X_iload_n (i := 1) (pc' := 28) dX4_order_27 rfl rfl rfl ?_
        refine X_OIp (As := [_]) (rest := []) (pc' := 31) dX4_order_28 rfl k_X4_firstUnexplained l_X4_160 v_X4_firstUnexplained o_W_1 rfl ⟨by decide, by decide⟩ rfl rfl (Nat.le_of_ble_eq_true rfl) (c_firstU cx τ h left h1) ?_
        refine X_istore (pc' := 33) (lv' := [(4, _), (3, _), (2, _), (1, _), (0, _)]) dX4_order_31 rfl (Nat.le_of_ble_eq_true rfl) rfl ?_
        refine X_iload (pc' := 35) dX4_order_33 rfl rfl ?_
        refine X_if_ge (pc' := 38) (tgt := 41) dX4_order_35 rfl (by decide) (fun h_35 => ?_) (fun h_35 => ?_)
        · obtain ⟨k, hk⟩ : ∃ k, fUn P left (pn P) = some k := by
            rcases hf : fUn P left (pn P) with _ | k
            · rw [hf] at h_35
              exact absurd h_35 (by decide)
            · exact ⟨k, rfl⟩
          have hkn := (fUn_lt hk).1
          have hk2 : 2 ^ k < 2 ^ 6 := pow_lt (by omega)
          rw [hk] at h5
          refine X_iload_n (i := 2) (pc' := 42) dX4_order_41 rfl rfl rfl ?_
          refine X_bipush (pc' := 44) (v := nI 10) dX4_order_42 rfl (by decide) ?_
          refine X_imul (pc' := 45) dX4_order_44 rfl ?_
          refine X_eqi (nI (row * 10)) (pk_mul _ _) ?_
          refine X_iload (pc' := 47) dX4_order_45 rfl rfl ?_
          refine X_eqi (nI k) (by rw [hk]; rfl) ?_
          refine X_iadd (pc' := 48) dX4_order_47 rfl ?_
          refine X_eqi (nI (row * 10 + k)) (nI_add _ _) ?_
          refine X_iconst (pc' := 49) (v := nI 1) dX4_order_48 rfl (by decide) ?_
          refine X_iadd (pc' := 50) dX4_order_49 rfl ?_
          refine X_eqi (nI (row * 10 + k + 1)) (nI_add _ _) ?_
          refine X_istore_n (i := 2) (pc' := 51) (lv' := [(2, _), (4, _), (3, _), (1, _), (0, _)]) dX4_order_50 rfl rfl (Nat.le_of_ble_eq_true rfl) rfl ?_
          refine X_iload_n (i := 1) (pc' := 52) dX4_order_51 rfl rfl rfl ?_
          refine X_iload (pc' := 54) dX4_order_52 rfl rfl ?_
          refine X_eqi (nI k) (by rw [hk]; rfl) ?_
          refine X_SIp (As := [_]) (rest := [_]) (pc' := 57) dX4_order_54 rfl k_X4_bit l_X4_137 s_X4_bit ⟨by decide, by decide⟩ rfl rfl (Nat.le_of_ble_eq_true rfl) (c_X4_bit cx τ k (by omega)) ?_
          refine X_iconst (pc' := 58) (v := (-1)) dX4_order_57 rfl (by decide) ?_
          refine X_ixor (pc' := 59) dX4_order_58 rfl ?_
          refine X_iand (pc' := 60) dX4_order_59 rfl ?_
          refine X_eqi (nI (dif left (2 ^ k))) (dif_nI _ h1 _ hk2) ?_
          refine X_istore_n (i := 1) (pc' := 61) (lv' := [(1, _), (2, _), (4, _), (3, _), (0, _)]) dX4_order_60 rfl rfl (Nat.le_of_ble_eq_true rfl) rfl ?_
          refine X_iinc (pc' := 64) (v := nI (j + 1)) (lv' := [(3, _), (1, _), (2, _), (4, _), (0, _)]) dX4_order_61 rfl rfl ((nI_succ j).symm) (Nat.le_of_ble_eq_true rfl) rfl ?_
          refine X_goto (pc' := 0) (tgt := 16) dX4_order_64 (by decide) ?_
          have h7 : row * 10 + k + 1 < 10 ^ (j + 1) := by rw [Nat.pow_succ]; omega
          exact X_lv _ (by simp) (ih (dif left (2 ^ k), row * 10 + k + 1) ⟨dif_lt h1, h7, by rw [← h3]; exact h5.symm⟩)
        · refine X_bipush (pc' := 40) (v := (-9)) dX4_order_38 rfl (by decide) ?_
          refine X_ri dX4_order_40 rfl ⟨rfl, rfl⟩ ?_
          have h6 : fUn P left (pn P) = none := by
            rcases hf : fUn P left (pn P) with _ | k
            · rfl
            · rw [hf] at h_35
              exact absurd (nI_pos' (show k < 2 ^ 31 by have := (fUn_lt hf).1; omega)) h_35
          rw [h6] at h5
          exact ⟨rfl, by rw [← h3]; exact h5.symm⟩
  have hr : 2 ^ pn P - 1 - sSt s < 64 := by omega
  refine X_aload_n (i := 0) (pc' := 1) dX4_order_0 rfl rfl rfl ?_
  refine X_OIp (As := []) (rest := []) (pc' := 4) dX4_order_1 rfl k_X4_unsent l_X4_157 v_X4_unsent o_W_1 rfl ⟨by decide, by decide⟩ rfl rfl (Nat.le_of_ble_eq_true rfl) (c_unsent cx τ h) ?_
  refine X_istore_n (i := 1) (pc' := 5) (lv' := [(1, _), (0, _)]) dX4_order_4 rfl rfl (Nat.le_of_ble_eq_true rfl) rfl ?_
  refine X_iload_n (i := 1) (pc' := 6) dX4_order_5 rfl rfl rfl ?_
  refine X_if_ne (pc' := 9) (tgt := 12) dX4_order_6 rfl (by decide) (fun h_6 => ?_) (fun h_6 => ?_)
  · refine X_iconst (pc' := 13) (v := nI 0) dX4_order_12 rfl (by decide) ?_
    refine X_istore_n (i := 2) (pc' := 14) (lv' := [(2, _), (1, _), (0, _)]) dX4_order_13 rfl rfl (Nat.le_of_ble_eq_true rfl) rfl ?_
    refine X_iconst (pc' := 15) (v := nI 0) dX4_order_14 rfl (by decide) ?_
    refine X_istore_n (i := 3) (pc' := 16) (lv' := [(3, _), (2, _), (1, _), (0, _)]) dX4_order_15 rfl rfl (Nat.le_of_ble_eq_true rfl) rfl ?_
    have h0 : ¬ 2 ^ pn P - 1 - sSt s = 0 := fun q => h_6 (by rw [q]; rfl)
    unfold orderF
    rw [if_neg h0]
    exact X_lv _ (by simp) (hl 0 (2 ^ pn P - 1 - sSt s, 0) (by omega) ⟨hr, by show 0 < 1; decide, rfl⟩)
  · refine X_bipush (pc' := 11) (v := (-9)) dX4_order_9 rfl (by decide) ?_
    refine X_ri dX4_order_11 rfl ⟨rfl, rfl⟩ ?_
    have h0 : 2 ^ pn P - 1 - sSt s = 0 := (nI_eq (by omega) (by decide)).mp h_6
    exact ⟨rfl, by unfold orderF; rw [if_pos h0]⟩
theorem c_count (τ : xT) {P : PT} {s : SN} {m : Nat} (h : Qw τ P s m) {len na : Nat} (hlen : τ.1 1 1 = nI len) (hna : τ.1 1 7 = nI na) (w : Int32) : CI cx m_X4_count [.ref 1, .int w] PW τ (fun x τ' => τ' = τ ∧ x = countF P s len na w) := by
  obtain ⟨hT, hs, hP, ho, hm⟩ := id h
  obtain ⟨q0, q1, q2, q3, q4⟩ := id hT
  obtain ⟨p0, p1, p2, p3, p4, p5, p6⟩ := id hs
  refine Ct_of (by decide) (Nat.le_of_ble_eq_true rfl) (lv := [(0, _), (1, _)]) rfl ?_
  unfold countF
  refine X_iload_n (i := 1) (pc' := 1) dX4_count_0 rfl rfl rfl ?_
  rcases Classical.em (w.toInt < 0 ∨ 9 < w.toInt) with hs_1 | hs_1
  · refine X_tabOut (pc' := 0) (tgt := 127) dX4_count_1 hs_1 (by decide) ?_
    refine X_bipush (pc' := 129) (v := (-2)) dX4_count_127 rfl (by decide) ?_
    refine X_ri dX4_count_129 rfl ⟨rfl, rfl⟩ ?_
    exact ⟨rfl, (swF_out hs_1).symm⟩
  · obtain ⟨j_1, hj_1, rfl⟩ := xsw_of (n := 9) hs_1 (by decide)
    rcases (show j_1 = 0 ∨ j_1 = 1 ∨ j_1 = 2 ∨ j_1 = 3 ∨ j_1 = 4 ∨ j_1 = 5 ∨ j_1 = 6 ∨ j_1 = 7 ∨ j_1 = 8 ∨ j_1 = 9 by omega) with rfl | rfl | rfl | rfl | rfl | rfl | rfl | rfl | rfl | rfl
    · refine X_tabIn (pc' := 0) (off := 55) (tgt := 56) dX4_count_1 (by decide) (by decide) rfl (by decide) ?_
      refine X_aload_n (i := 0) (pc' := 57) dX4_count_56 rfl rfl rfl ?_
      refine X_get (pc' := 60) (v := .int _) dX4_count_57 rfl (gf_X4_54 _ rfl) o_W_1 rfl rfl ?_
      refine X_ri dX4_count_60 rfl ⟨rfl, rfl⟩ ?_
      rw [swF_in (by decide) (by decide)]
      first
        | exact ⟨rfl, hlen⟩
        | exact ⟨rfl, hna⟩
        | exact ⟨rfl, q0⟩
        | exact ⟨rfl, q1⟩
        | exact ⟨rfl, q2⟩
        | exact ⟨rfl, p0⟩
        | exact ⟨rfl, p1⟩
        | exact ⟨rfl, p2⟩
        | exact ⟨rfl, p4⟩
        | exact ⟨rfl, rfl⟩
    · refine X_tabIn (pc' := 0) (off := 60) (tgt := 61) dX4_count_1 (by decide) (by decide) rfl (by decide) ?_
      refine X_aload_n (i := 0) (pc' := 62) dX4_count_61 rfl rfl rfl ?_
      refine X_get (pc' := 65) (v := .ref 8) dX4_count_62 rfl (gf_X4_23 _ rfl) o_W_1 rfl rfl ?_
      refine X_get (pc' := 68) (v := .int _) dX4_count_65 rfl (gf_X4_78 _ rfl) o_W_8 rfl rfl ?_
      refine X_ri dX4_count_68 rfl ⟨rfl, rfl⟩ ?_
      rw [swF_in (by decide) (by decide)]
      first
        | exact ⟨rfl, hlen⟩
        | exact ⟨rfl, hna⟩
        | exact ⟨rfl, q0⟩
        | exact ⟨rfl, q1⟩
        | exact ⟨rfl, q2⟩
        | exact ⟨rfl, p0⟩
        | exact ⟨rfl, p1⟩
        | exact ⟨rfl, p2⟩
        | exact ⟨rfl, p4⟩
        | exact ⟨rfl, rfl⟩
    · refine X_tabIn (pc' := 0) (off := 68) (tgt := 69) dX4_count_1 (by decide) (by decide) rfl (by decide) ?_
      refine X_aload_n (i := 0) (pc' := 70) dX4_count_69 rfl rfl rfl ?_
      refine X_get (pc' := 73) (v := .ref 8) dX4_count_70 rfl (gf_X4_23 _ rfl) o_W_1 rfl rfl ?_
      refine X_get (pc' := 76) (v := .int _) dX4_count_73 rfl (gf_X4_214 _ rfl) o_W_8 rfl rfl ?_
      refine X_ri dX4_count_76 rfl ⟨rfl, rfl⟩ ?_
      rw [swF_in (by decide) (by decide)]
      first
        | exact ⟨rfl, hlen⟩
        | exact ⟨rfl, hna⟩
        | exact ⟨rfl, q0⟩
        | exact ⟨rfl, q1⟩
        | exact ⟨rfl, q2⟩
        | exact ⟨rfl, p0⟩
        | exact ⟨rfl, p1⟩
        | exact ⟨rfl, p2⟩
        | exact ⟨rfl, p4⟩
        | exact ⟨rfl, rfl⟩
    · refine X_tabIn (pc' := 0) (off := 76) (tgt := 77) dX4_count_1 (by decide) (by decide) rfl (by decide) ?_
      refine X_aload_n (i := 0) (pc' := 78) dX4_count_77 rfl rfl rfl ?_
      refine X_get (pc' := 81) (v := .ref 8) dX4_count_78 rfl (gf_X4_23 _ rfl) o_W_1 rfl rfl ?_
      refine X_get (pc' := 84) (v := .int _) dX4_count_81 rfl (gf_X4_217 _ rfl) o_W_8 rfl rfl ?_
      refine X_ri dX4_count_84 rfl ⟨rfl, rfl⟩ ?_
      rw [swF_in (by decide) (by decide)]
      first
        | exact ⟨rfl, hlen⟩
        | exact ⟨rfl, hna⟩
        | exact ⟨rfl, q0⟩
        | exact ⟨rfl, q1⟩
        | exact ⟨rfl, q2⟩
        | exact ⟨rfl, p0⟩
        | exact ⟨rfl, p1⟩
        | exact ⟨rfl, p2⟩
        | exact ⟨rfl, p4⟩
        | exact ⟨rfl, rfl⟩
    · refine X_tabIn (pc' := 0) (off := 84) (tgt := 85) dX4_count_1 (by decide) (by decide) rfl (by decide) ?_
      refine X_aload_n (i := 0) (pc' := 86) dX4_count_85 rfl rfl rfl ?_
      refine X_get (pc' := 89) (v := .ref 12) dX4_count_86 rfl (gf_X4_30 _ rfl) o_W_1 rfl rfl ?_
      refine X_get (pc' := 92) (v := .int _) dX4_count_89 rfl (gf_X4_130 _ rfl) o_W_12 rfl rfl ?_
      refine X_ri dX4_count_92 rfl ⟨rfl, rfl⟩ ?_
      rw [swF_in (by decide) (by decide)]
      first
        | exact ⟨rfl, hlen⟩
        | exact ⟨rfl, hna⟩
        | exact ⟨rfl, q0⟩
        | exact ⟨rfl, q1⟩
        | exact ⟨rfl, q2⟩
        | exact ⟨rfl, p0⟩
        | exact ⟨rfl, p1⟩
        | exact ⟨rfl, p2⟩
        | exact ⟨rfl, p4⟩
        | exact ⟨rfl, rfl⟩
    · refine X_tabIn (pc' := 0) (off := 92) (tgt := 93) dX4_count_1 (by decide) (by decide) rfl (by decide) ?_
      refine X_aload_n (i := 0) (pc' := 94) dX4_count_93 rfl rfl rfl ?_
      refine X_get (pc' := 97) (v := .ref 12) dX4_count_94 rfl (gf_X4_30 _ rfl) o_W_1 rfl rfl ?_
      refine X_get (pc' := 100) (v := .int _) dX4_count_97 rfl (gf_X4_98 _ rfl) o_W_12 rfl rfl ?_
      refine X_ri dX4_count_100 rfl ⟨rfl, rfl⟩ ?_
      rw [swF_in (by decide) (by decide)]
      first
        | exact ⟨rfl, hlen⟩
        | exact ⟨rfl, hna⟩
        | exact ⟨rfl, q0⟩
        | exact ⟨rfl, q1⟩
        | exact ⟨rfl, q2⟩
        | exact ⟨rfl, p0⟩
        | exact ⟨rfl, p1⟩
        | exact ⟨rfl, p2⟩
        | exact ⟨rfl, p4⟩
        | exact ⟨rfl, rfl⟩
    · refine X_tabIn (pc' := 0) (off := 100) (tgt := 101) dX4_count_1 (by decide) (by decide) rfl (by decide) ?_
      refine X_aload_n (i := 0) (pc' := 102) dX4_count_101 rfl rfl rfl ?_
      refine X_get (pc' := 105) (v := .ref 12) dX4_count_102 rfl (gf_X4_30 _ rfl) o_W_1 rfl rfl ?_
      refine X_get (pc' := 108) (v := .int _) dX4_count_105 rfl (gf_X4_220 _ rfl) o_W_12 rfl rfl ?_
      refine X_ri dX4_count_108 rfl ⟨rfl, rfl⟩ ?_
      rw [swF_in (by decide) (by decide)]
      first
        | exact ⟨rfl, hlen⟩
        | exact ⟨rfl, hna⟩
        | exact ⟨rfl, q0⟩
        | exact ⟨rfl, q1⟩
        | exact ⟨rfl, q2⟩
        | exact ⟨rfl, p0⟩
        | exact ⟨rfl, p1⟩
        | exact ⟨rfl, p2⟩
        | exact ⟨rfl, p4⟩
        | exact ⟨rfl, rfl⟩
    · refine X_tabIn (pc' := 0) (off := 108) (tgt := 109) dX4_count_1 (by decide) (by decide) rfl (by decide) ?_
      refine X_aload_n (i := 0) (pc' := 110) dX4_count_109 rfl rfl rfl ?_
      refine X_get (pc' := 113) (v := .ref 12) dX4_count_110 rfl (gf_X4_30 _ rfl) o_W_1 rfl rfl ?_
      refine X_get (pc' := 116) (v := .int _) dX4_count_113 rfl (gf_X4_169 _ rfl) o_W_12 rfl rfl ?_
      refine X_ri dX4_count_116 rfl ⟨rfl, rfl⟩ ?_
      rw [swF_in (by decide) (by decide)]
      first
        | exact ⟨rfl, hlen⟩
        | exact ⟨rfl, hna⟩
        | exact ⟨rfl, q0⟩
        | exact ⟨rfl, q1⟩
        | exact ⟨rfl, q2⟩
        | exact ⟨rfl, p0⟩
        | exact ⟨rfl, p1⟩
        | exact ⟨rfl, p2⟩
        | exact ⟨rfl, p4⟩
        | exact ⟨rfl, rfl⟩
    · refine X_tabIn (pc' := 0) (off := 116) (tgt := 117) dX4_count_1 (by decide) (by decide) rfl (by decide) ?_
      refine X_aload_n (i := 0) (pc' := 118) dX4_count_117 rfl rfl rfl ?_
      refine X_OIp (As := []) (rest := []) (pc' := 121) dX4_count_118 rfl k_X4_costOfUnsent l_X4_223 v_X4_costOfUnsent o_W_1 rfl ⟨by decide, by decide⟩ rfl rfl (Nat.le_of_ble_eq_true rfl) (c_costOfUnsent cx τ h) ?_
      refine X_ri dX4_count_121 rfl ⟨rfl, rfl⟩ ?_
      rw [swF_in (by decide) (by decide)]
      first
        | exact ⟨rfl, hlen⟩
        | exact ⟨rfl, hna⟩
        | exact ⟨rfl, q0⟩
        | exact ⟨rfl, q1⟩
        | exact ⟨rfl, q2⟩
        | exact ⟨rfl, p0⟩
        | exact ⟨rfl, p1⟩
        | exact ⟨rfl, p2⟩
        | exact ⟨rfl, p4⟩
        | exact ⟨rfl, rfl⟩
    · refine X_tabIn (pc' := 0) (off := 121) (tgt := 122) dX4_count_1 (by decide) (by decide) rfl (by decide) ?_
      refine X_aload_n (i := 0) (pc' := 123) dX4_count_122 rfl rfl rfl ?_
      refine X_get (pc' := 126) (v := .int _) dX4_count_123 rfl (gf_X4_72 _ rfl) o_W_1 rfl rfl ?_
      refine X_ri dX4_count_126 rfl ⟨rfl, rfl⟩ ?_
      rw [swF_in (by decide) (by decide)]
      first
        | exact ⟨rfl, hlen⟩
        | exact ⟨rfl, hna⟩
        | exact ⟨rfl, q0⟩
        | exact ⟨rfl, q1⟩
        | exact ⟨rfl, q2⟩
        | exact ⟨rfl, p0⟩
        | exact ⟨rfl, p1⟩
        | exact ⟨rfl, p2⟩
        | exact ⟨rfl, p4⟩
        | exact ⟨rfl, rfl⟩
end C5
