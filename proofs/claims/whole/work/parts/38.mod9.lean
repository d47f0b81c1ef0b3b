/-! ===== the model: powers, divisors; what is lost ===== -/
theorem ofI_neg (a : Int) : -(Int32.ofInt a) = Int32.ofInt (-a) := (Int32.ofInt_neg a).symm
theorem ofI_toInt {a : Int} (ha : -(2 ^ 30) ≤ a) (ha2 : a ≤ 2 ^ 30) : (Int32.ofInt a).toInt = a := Int32.toInt_ofInt_of_le (by omega) (by omega)
theorem ofI_tdiv {a b : Int} (ha : -(2 ^ 30) ≤ a) (ha2 : a ≤ 2 ^ 30) (hb : 0 ≤ b) (hb2 : b ≤ 2 ^ 30) : Int32.ofInt a / Int32.ofInt b = Int32.ofInt (a.tdiv b) :=
  (Int32.ofInt_tdiv (by show (-2147483648 : Int) ≤ a; omega) (by show a ≤ (2147483647 : Int); omega) (by show (-2147483648 : Int) ≤ b; omega) (by show b ≤ (2147483647 : Int); omega)).symm
/-- the weights of all that may be lost -/
def allN (x e : Nat) : Nat → Nat
  | 0 => 0
  | u + 1 => allN x e u + if u &&& e = u then x ^ ones u * (10 - x) ^ (ones e - ones u) else 0
theorem allN_64 : ∀ x, x ≤ 10 → ∀ e, e < 64 → allN x e 64 = 10 ^ ones e := by decide +kernel
theorem wgt_le {x a n : Nat} (hx : x ≤ 10) (ha : a ≤ n) (hn : n ≤ 6) : x ^ a * (10 - x) ^ (n - a) ≤ 1000000 := by
  have h1 : x ^ a ≤ 10 ^ a := Nat.pow_le_pow_left hx a
  have h2 : (10 - x) ^ (n - a) ≤ 10 ^ (n - a) := Nat.pow_le_pow_left (by omega) _
  have h3 := Nat.mul_le_mul h1 h2
  rw [← Nat.pow_add, show a + (n - a) = n by omega] at h3
  exact Nat.le_trans h3 (Nat.le_trans (Nat.pow_le_pow_right (n := 10) (by decide) hn) (by decide))
theorem allN_le {x e : Nat} (hx : x ≤ 10) (he : e < 64) : ∀ u, u ≤ 64 → allN x e u ≤ u * 1000000 := by
  intro u
  induction u with
  | zero => intro _; exact Nat.le_refl _
  | succ u ih =>
    intro hu
    unfold allN
    rw [Nat.succ_mul]
    refine Nat.add_le_add (ih (by omega)) ?_
    split
    · rename_i h
      exact wgt_le hx (ones_sub u (by omega) e he h) (ones_le e)
    · exact Nat.zero_le _
theorem lostN_all (P : PT) (s : SN) (k : Nat) (p : Int32) (x e : Nat) : ∀ u, lostN P s k p x e u ≤ allN x e u := by
  intro u
  induction u with
  | zero => exact Nat.le_refl _
  | succ u ih =>
    unfold lostN allN
    refine Nat.add_le_add ih ?_
    by_cases h1 : u &&& e = u
    · rw [if_pos h1]
      by_cases h2 : nI (costW P s k (dif e u)) ≤ p
      · rw [if_pos ⟨h1, h2⟩]; exact Nat.le_refl _
      · rw [if_neg (fun q => h2 q.2)]; exact Nat.zero_le _
    · rw [if_neg h1, if_neg (fun q => h1 q.1)]; exact Nat.le_refl _
theorem and_dif : ∀ a, a < 64 → ∀ b, b < 64 → ∀ st, st < 64 → (a &&& st) &&& (63 - b) = a &&& (st &&& (63 - b)) := by
  intro a _ b _ st _; exact Nat.and_assoc _ _ _
theorem gcd_step (x y : Nat) : Nat.gcd x y = Nat.gcd y (x % y) := by
  rw [Nat.gcd_comm, Nat.gcd_rec, Nat.gcd_comm]
section M9
variable (cx : xC)
set_option maxHeartbeats 4000000
set_option maxRecDepth 100000
theorem d_power {P : xP} (τ : xT) (v n : Nat) (hv : v ≤ 10) (hn : n ≤ 6) : CI cx m_X5_power [.int (nI v), .int (nI n)] P τ (fun x τ' => τ' = τ ∧ x = nI (v ^ n)) := by
  refine Ct_of (by decide) (Nat.le_of_ble_eq_true rfl) (lv := [(0, _), (1, _)]) rfl ?_
  have hl : ∀ (j : Nat) (τ' : xT), j ≤ n → τ' = τ → X cx m_X5_power P (qI P (fun x τ' => τ' = τ ∧ x = nI (v ^ n))) 4 [(3, .int (nI j)), (2, .int (nI (v ^ j))), (0, .int (nI v)), (1, .int (nI n))] [] P τ' := by
    refine xloop _ _ n (fun τ' h => ?_) (fun j τ' hj h ih => ?_)
    · subst h
      refine X_iload_n (i := 3) (pc' := 5) dX5_power_4 rfl rfl rfl ?_
      refine X_iload_n (i := 1) (pc' := 6) dX5_power_5 rfl rfl rfl ?_
      refine X_icmp_ge (pc' := 9) (tgt := 19) dX5_power_6 rfl (by decide) (fun h_6 => ?_) (fun h_6 => absurd (nI_le (Nat.le_refl _) (by omega)) h_6)
      refine X_iload_n (i := 2) (pc' := 20) dX5_power_19 rfl rfl rfl ?_
      refine X_ri dX5_power_20 rfl ⟨rfl, rfl⟩ ?_
      exact ⟨rfl, rfl⟩
    · subst h
      refine X_iload_n (i := 3) (pc' := 5) dX5_power_4 rfl rfl rfl ?_
      refine X_iload_n (i := 1) (pc' := 6) dX5_power_5 rfl rfl rfl ?_
      refine X_icmp_ge (pc' := 9) (tgt := 19) dX5_power_6 rfl (by decide) (fun h_6 => absurd h_6 (nI_ge hj (by omega))) (fun h_6 => ?_)
      refine X_iload_n (i := 2) (pc' := 10) dX5_power_9 rfl rfl rfl ?_
      refine X_iload_n (i := 0) (pc' := 11) dX5_power_10 rfl rfl rfl ?_
      refine X_imul (pc' := 12) dX5_power_11 rfl ?_
      refine X_eqi (nI (v ^ (j + 1))) (by rw [Nat.pow_succ]; exact pk_mul _ _) ?_
      refine X_istore_n (i := 2) (pc' := 13) (lv' := [(2, _), (3, _), (0, _), (1, _)]) dX5_power_12 rfl rfl (Nat.le_of_ble_eq_true rfl) rfl ?_
      refine X_iinc (pc' := 16) (v := nI (j + 1)) (lv' := [(3, _), (2, _), (0, _), (1, _)]) dX5_power_13 rfl rfl ((nI_succ j).symm) (Nat.le_of_ble_eq_true rfl) rfl ?_
      refine X_goto (pc' := 0) (tgt := 4) dX5_power_16 (by decide) ?_
      exact X_lv _ (by simp) (ih τ' rfl)
  refine X_iconst (pc' := 1) (v := nI 1) dX5_power_0 rfl (by decide) ?_
  refine X_istore_n (i := 2) (pc' := 2) (lv' := [(2, _), (0, _), (1, _)]) dX5_power_1 rfl rfl (Nat.le_of_ble_eq_true rfl) rfl ?_
  refine X_iconst (pc' := 3) (v := nI 0) dX5_power_2 rfl (by decide) ?_
  refine X_istore_n (i := 3) (pc' := 4) (lv' := [(3, _), (2, _), (0, _), (1, _)]) dX5_power_3 rfl rfl (Nat.le_of_ble_eq_true rfl) rfl ?_
  exact X_lv _ (by simp) (hl 0 τ (by omega) rfl)
theorem d_factorial {P : xP} (τ : xT) (n : Nat) (hn : n ≤ 6) : CI cx m_X5_factorial [.int (nI n)] P τ (fun x τ' => τ' = τ ∧ x = nI (fac n)) := by
  refine Ct_of (by decide) (Nat.le_of_ble_eq_true rfl) (lv := [(0, _)]) rfl ?_
  have hl : ∀ (j : Nat) (τ' : xT), j ≤ n - 1 → (τ' = τ ∧ 0 < n) → X cx m_X5_factorial P (qI P (fun x τ' => τ' = τ ∧ x = nI (fac n))) 4 [(2, .int (nI (j + 2))), (1, .int (nI (fac (j + 1)))), (0, .int (nI n))] [] P τ' := by
    refine xloop _ _ (n - 1) (fun τ' h => ?_) (fun j τ' hj h ih => ?_)
    · obtain ⟨h, h0⟩ := h
      subst h
      refine X_iload_n (i := 2) (pc' := 5) dX5_factorial_4 rfl rfl rfl ?_
      refine X_iload_n (i := 0) (pc' := 6) dX5_factorial_5 rfl rfl rfl ?_
      refine X_icmp_gt (pc' := 9) (tgt := 19) dX5_factorial_6 rfl (by decide) (fun h_6 => ?_) (fun h_6 => absurd (nI_lt (by omega) (by omega)) h_6)
      refine X_iload_n (i := 1) (pc' := 20) dX5_factorial_19 rfl rfl rfl ?_
      refine X_ri dX5_factorial_20 rfl ⟨rfl, rfl⟩ ?_
      exact ⟨rfl, by rw [show n - 1 + 1 = n by omega]⟩
    · obtain ⟨h, h0⟩ := h
      subst h
      refine X_iload_n (i := 2) (pc' := 5) dX5_factorial_4 rfl rfl rfl ?_
      refine X_iload_n (i := 0) (pc' := 6) dX5_factorial_5 rfl rfl rfl ?_
      refine X_icmp_gt (pc' := 9) (tgt := 19) dX5_factorial_6 rfl (by decide) (fun h_6 => absurd h_6 (nI_nlt (by omega) (by omega))) (fun h_6 => ?_)
      refine X_iload_n (i := 1) (pc' := 10) dX5_factorial_9 rfl rfl rfl ?_
      refine X_iload_n (i := 2) (pc' := 11) dX5_factorial_10 rfl rfl rfl ?_
      refine X_imul (pc' := 12) dX5_factorial_11 rfl ?_
      refine X_eqi (nI (fac (j + 1 + 1))) ((pk_mul _ _).trans (by rw [Nat.mul_comm]; rfl)) ?_
      refine X_istore_n (i := 1) (pc' := 13) (lv' := [(1, _), (2, _), (0, _)]) dX5_factorial_12 rfl rfl (Nat.le_of_ble_eq_true rfl) rfl ?_
      refine X_iinc (pc' := 16) (v := nI (j + 1 + 2)) (lv' := [(2, _), (1, _), (0, _)]) dX5_factorial_13 rfl rfl (by rw [show j + 1 + 2 = (j + 2) + 1 by omega]; exact (nI_succ (j + 2)).symm) (Nat.le_of_ble_eq_true rfl) rfl ?_
      refine X_goto (pc' := 0) (tgt := 4) dX5_factorial_16 (by decide) ?_
      exact X_lv _ (by simp) (ih τ' ⟨rfl, h0⟩)
  by_cases h0 : 0 < n
  · refine X_iconst (pc' := 1) (v := nI 1) dX5_factorial_0 rfl (by decide) ?_
    refine X_istore_n (i := 1) (pc' := 2) (lv' := [(1, _), (0, _)]) dX5_factorial_1 rfl rfl (Nat.le_of_ble_eq_true rfl) rfl ?_
    refine X_iconst (pc' := 3) (v := nI 2) dX5_factorial_2 rfl (by decide) ?_
    refine X_istore_n (i := 2) (pc' := 4) (lv' := [(2, _), (1, _), (0, _)]) dX5_factorial_3 rfl rfl (Nat.le_of_ble_eq_true rfl) rfl ?_
    exact X_lv _ (by simp [fac]) (hl 0 τ (by omega) ⟨rfl, h0⟩)
  · have : n = 0 := by omega
    subst this
    refine X_iconst (pc' := 1) (v := nI 1) dX5_factorial_0 rfl (by decide) ?_
    refine X_istore_n (i := 1) (pc' := 2) (lv' := [(1, _), (0, _)]) dX5_factorial_1 rfl rfl (Nat.le_of_ble_eq_true rfl) rfl ?_
    refine X_iconst (pc' := 3) (v := nI 2) dX5_factorial_2 rfl (by decide) ?_
    refine X_istore_n (i := 2) (pc' := 4) (lv' := [(2, _), (1, _), (0, _)]) dX5_factorial_3 rfl rfl (Nat.le_of_ble_eq_true rfl) rfl ?_
    refine X_iload_n (i := 2) (pc' := 5) dX5_factorial_4 rfl rfl rfl ?_
    refine X_iload_n (i := 0) (pc' := 6) dX5_factorial_5 rfl rfl rfl ?_
    refine X_icmp_gt (pc' := 9) (tgt := 19) dX5_factorial_6 rfl (by decide) (fun h_6 => ?_) (fun h_6 => absurd (nI_lt (by decide) (by decide)) h_6)
    refine X_iload_n (i := 1) (pc' := 20) dX5_factorial_19 rfl rfl rfl ?_
    refine X_ri dX5_factorial_20 rfl ⟨rfl, rfl⟩ ?_
    exact ⟨rfl, rfl⟩
theorem l2_common {P : xP} (τ : xT) (v0 v1 : Int32) (g : Nat) : ∀ (y x : Nat), x < 2 ^ 31 → y < 2 ^ 31 → Nat.gcd x y = g → X cx m_X5_common P (qI P (fun r τ' => τ' = τ ∧ r = nI g)) 13 [(3, .int (nI y)), (2, .int (nI x)), (0, .int v0), (1, .int v1)] [] P τ := by
  intro y
  induction y using Nat.strongRecOn with
  | ind y ih =>
    intro x hx hy hg
    by_cases hz : y = 0
    · subst hz
      rw [Nat.gcd_zero_right] at hg
      subst hg
      refine X_iload_n (i := 3) (pc' := 14) dX5_common_13 rfl rfl rfl ?_
      refine X_if_eq (pc' := 17) (tgt := 30) dX5_common_14 rfl (by decide) (fun h_14 => ?_) (fun h_14 => absurd (rfl) h_14)
      refine X_iload_n (i := 2) (pc' := 31) dX5_common_30 rfl rfl rfl ?_
      refine X_ri dX5_common_31 rfl ⟨rfl, rfl⟩ ?_
      exact ⟨rfl, rfl⟩
    · have hlt : x % y < y := Nat.mod_lt _ (by omega)
      have hn : ¬ nI y = 0 := fun q => hz ((nI_eq (by omega) (by decide)).mp q)
      refine X_iload_n (i := 3) (pc' := 14) dX5_common_13 rfl rfl rfl ?_
      refine X_if_eq (pc' := 17) (tgt := 30) dX5_common_14 rfl (by decide) (fun h_14 => absurd h_14 (hn)) (fun h_14 => ?_)
      refine X_iload_n (i := 2) (pc' := 18) dX5_common_17 rfl rfl rfl ?_
      refine X_iload_n (i := 3) (pc' := 19) dX5_common_18 rfl rfl rfl ?_
      refine X_irem (pc' := 20) dX5_common_19 rfl (hn) ?_
      refine X_eqi (nI (x % y)) (pk_rem hx (by omega) hy) ?_
      refine X_istore (pc' := 22) (lv' := [(4, _), (3, _), (2, _), (0, _), (1, _)]) dX5_common_20 rfl (Nat.le_of_ble_eq_true rfl) rfl ?_
      refine X_iload_n (i := 3) (pc' := 23) dX5_common_22 rfl rfl rfl ?_
      refine X_istore_n (i := 2) (pc' := 24) (lv' := [(2, _), (4, _), (3, _), (0, _), (1, _)]) dX5_common_23 rfl rfl (Nat.le_of_ble_eq_true rfl) rfl ?_
      refine X_iload (pc' := 26) dX5_common_24 rfl rfl ?_
      refine X_istore_n (i := 3) (pc' := 27) (lv' := [(3, _), (2, _), (4, _), (0, _), (1, _)]) dX5_common_26 rfl rfl (Nat.le_of_ble_eq_true rfl) rfl ?_
      refine X_goto (pc' := 0) (tgt := 13) dX5_common_27 (by decide) ?_
      exact X_lv _ (by simp) (ih (x % y) hlt y hy (by omega) (by rw [← hg, gcd_step x y]))
theorem d_common {P : xP} (τ : xT) (a : Int) (b : Nat) (ha : -(2 ^ 30) ≤ a) (ha2 : a ≤ 2 ^ 30) (hb : b < 2 ^ 31) : CI cx m_X5_common [.int (Int32.ofInt a), .int (nI b)] P τ (fun x τ' => τ' = τ ∧ x = nI (Nat.gcd a.natAbs b)) := by
  have e := ofI_toInt ha ha2
  refine Ct_of (by decide) (Nat.le_of_ble_eq_true rfl) (lv := [(0, _), (1, _)]) rfl ?_
  refine X_iload_n (i := 0) (pc' := 1) dX5_common_0 rfl rfl rfl ?_
  refine X_if_ge (pc' := 4) (tgt := 9) dX5_common_1 rfl (by decide) (fun h_1 => ?_) (fun h_1 => ?_)
  · refine X_iload_n (i := 0) (pc' := 10) dX5_common_9 rfl rfl rfl ?_
    refine X_istore_n (i := 2) (pc' := 11) (lv' := [(2, _), (0, _), (1, _)]) dX5_common_10 rfl rfl (Nat.le_of_ble_eq_true rfl) rfl ?_
    refine X_iload_n (i := 1) (pc' := 12) dX5_common_11 rfl rfl rfl ?_
    refine X_istore_n (i := 3) (pc' := 13) (lv' := [(3, _), (2, _), (0, _), (1, _)]) dX5_common_12 rfl rfl (Nat.le_of_ble_eq_true rfl) rfl ?_
    have h2 := l2_common (P := P) cx τ (Int32.ofInt a) (nI b) (Nat.gcd a.natAbs b) b a.natAbs (by omega) hb rfl
    first
      | (have hn : 0 ≤ a := by rw [ge0, e] at h_1; exact h_1
         rw [← iI_nat a.natAbs, show ((a.natAbs : Nat) : Int) = a by omega] at h2
         exact X_lv _ (by simp) h2)
      | (have hn : a < 0 := by
           have q : ¬ 0 ≤ (Int32.ofInt a).toInt := fun q => h_1 (ge0.mpr q)
           rw [e] at q; omega
         rw [← iI_nat a.natAbs, show ((a.natAbs : Nat) : Int) = -a by omega] at h2
         rw [ofI_neg]
         exact X_lv _ (by simp) h2)
  · refine X_iload_n (i := 0) (pc' := 5) dX5_common_4 rfl rfl rfl ?_
    refine X_ineg (pc' := 6) dX5_common_5 rfl ?_
    refine X_goto (pc' := 0) (tgt := 10) dX5_common_6 (by decide) ?_
    refine X_istore_n (i := 2) (pc' := 11) (lv' := [(2, _), (0, _), (1, _)]) dX5_common_10 rfl rfl (Nat.le_of_ble_eq_true rfl) rfl ?_
    refine X_iload_n (i := 1) (pc' := 12) dX5_common_11 rfl rfl rfl ?_
    refine X_istore_n (i := 3) (pc' := 13) (lv' := [(3, _), (2, _), (0, _), (1, _)]) dX5_common_12 rfl rfl (Nat.le_of_ble_eq_true rfl) rfl ?_
    have h2 := l2_common (P := P) cx τ (Int32.ofInt a) (nI b) (Nat.gcd a.natAbs b) b a.natAbs (by omega) hb rfl
    first
      | (have hn : 0 ≤ a := by rw [ge0, e] at h_1; exact h_1
         rw [← iI_nat a.natAbs, show ((a.natAbs : Nat) : Int) = a by omega] at h2
         exact X_lv _ (by simp) h2)
      | (have hn : a < 0 := by
           have q : ¬ 0 ≤ (Int32.ofInt a).toInt := fun q => h_1 (ge0.mpr q)
           rw [e] at q; omega
         rw [← iI_nat a.natAbs, show ((a.natAbs : Nat) : Int) = -a by omega] at h2
         rw [ofI_neg]
         exact X_lv _ (by simp) h2)
theorem l2_lost (τ : xT) {P : PT} (hP : Pok P) (h : MT τ P) {m : Nat} {s : SN} (hs : MS τ 4 0 (pn P) s) (ho : Sok P m s) (hm : m < 4500) {k : Nat} (hk : k < pn P) (p : Int32) {x e : Nat} (hx : x ≤ 10) (he : e = px P k &&& sSt s) (u : Prop) [Decidable u] : ∀ (j : Nat) (τ' : xT), j ≤ 64 → τ' = τ → X cx m_X5_lost PM (qI PM (fun y τ' => τ' = τ ∧ y = fracF (lostN P s k p x e 64 : Nat) (10 ^ ones e) u)) 74 [(8, .int (nI j)), (7, .int (nI (allN x e j))), (6, .int (nI (lostN P s k p x e j))), (5, .int (nI e)), (0, .ref 1), (1, .int (nI k)), (2, .int p), (3, .int (nI x)), (4, .int (zI u))] [] PM τ' := by
  have hn6 := hP.1
  have he6 : e < 64 := by rw [he]; exact and_lt64 (hP.2.2.2.2 k hk)
  have hoe := ones_le e
  refine xloop _ _ 64 (fun τ' g => ?_) (fun j τ' hj g ih => ?_)
  · subst g
    have b1 := lostN_all P s k p x e 64
    have b2 := pw_le (x := 10) (n := ones e) (by decide) hoe
    have b3 : 0 < 10 ^ ones e := Nat.pow_pos (by decide)
    rw [allN_64 x hx e he6] at b1
    rw [allN_64 x hx e he6]
    generalize hL : lostN P s k p x e 64 = L
    rw [hL] at b1
    have hg0 : 0 < Nat.gcd L (10 ^ ones e) := Nat.gcd_pos_of_pos_right _ b3
    have hgb : Nat.gcd L (10 ^ ones e) ≤ 10 ^ ones e := Nat.gcd_le_right _ b3
    have hne : ¬ nI (Nat.gcd L (10 ^ ones e)) = 0 := fun q => absurd ((nI_eq (by omega) (by decide)).mp q) (Nat.ne_of_gt hg0)
    refine X_iload (pc' := 76) dX5_lost_74 rfl rfl ?_
    refine X_bipush (pc' := 78) (v := nI 64) dX5_lost_76 rfl (by decide) ?_
    refine X_icmp_ge (pc' := 81) (tgt := 161) dX5_lost_78 rfl (by decide) (fun h_78 => ?_) (fun h_78 => absurd (nI_le (Nat.le_refl _) (by decide)) h_78)
    refine X_iload (pc' := 163) dX5_lost_161 rfl rfl ?_
    refine X_iload (pc' := 165) dX5_lost_163 rfl rfl ?_
    rw [← iI_nat L]
    refine X_SIp (As := [_, _]) (rest := []) (pc' := 168) dX5_lost_165 rfl k_X5_common l_X5_181 s_X5_common ⟨by decide, by decide⟩ rfl rfl (Nat.le_of_ble_eq_true rfl) (d_common cx τ' (L : Nat) (10 ^ ones e) (by omega) (by omega) (by omega)) ?_
    refine X_eqi (nI (Nat.gcd L (10 ^ ones e))) (rfl) ?_
    refine X_istore (pc' := 170) (lv' := [(8, _), (7, _), (6, _), (5, _), (0, _), (1, _), (2, _), (3, _), (4, _)]) dX5_lost_168 rfl (Nat.le_of_ble_eq_true rfl) rfl ?_
    refine X_iload (pc' := 172) dX5_lost_170 rfl rfl ?_
    refine X_if_eq (pc' := 175) (tgt := 183) dX5_lost_172 rfl (by decide) (fun h_172 => ?_) (fun h_172 => ?_)
    · refine X_iload (pc' := 185) dX5_lost_183 rfl rfl ?_
      refine X_iload (pc' := 187) dX5_lost_185 rfl rfl ?_
      refine X_idiv (pc' := 188) dX5_lost_187 rfl (hne) ?_
      refine X_eqi (nI (10 ^ ones e / Nat.gcd L (10 ^ ones e))) (pk_div (by omega) hg0 (by omega)) ?_
      refine X_ri dX5_lost_188 rfl ⟨rfl, rfl⟩ ?_
      unfold fracF
      first
        | (rw [if_neg (zI_0.mp h_172)]
           exact ⟨rfl, rfl⟩)
        | (rw [if_pos (zI_1 h_172)]
           exact ⟨rfl, by rw [← iI_nat (Nat.gcd L (10 ^ ones e)), ofI_tdiv (by omega) (by omega) (by omega) (by omega)]; rfl⟩)
    · refine X_iload (pc' := 177) dX5_lost_175 rfl rfl ?_
      refine X_iload (pc' := 179) dX5_lost_177 rfl rfl ?_
      refine X_idiv (pc' := 180) dX5_lost_179 rfl (hne) ?_
      refine X_goto (pc' := 0) (tgt := 188) dX5_lost_180 (by decide) ?_
      refine X_ri dX5_lost_188 rfl ⟨rfl, rfl⟩ ?_
      unfold fracF
      first
        | (rw [if_neg (zI_0.mp h_172)]
           exact ⟨rfl, rfl⟩)
        | (rw [if_pos (zI_1 h_172)]
           exact ⟨rfl, by rw [← iI_nat (Nat.gcd L (10 ^ ones e)), ofI_tdiv (by omega) (by omega) (by omega) (by omega)]; rfl⟩)
  · subst g
    have hoj := ones_le j
    have b1 := lostN_all P s k p x e j
    have b2 := allN_le hx he6 j (by omega)
    have hxk := hP.2.2.2.2 k hk
    have hdl : dif j e < 64 := dif_lt hj
    refine X_iload (pc' := 76) dX5_lost_74 rfl rfl ?_
    refine X_bipush (pc' := 78) (v := nI 64) dX5_lost_76 rfl (by decide) ?_
    refine X_icmp_ge (pc' := 81) (tgt := 161) dX5_lost_78 rfl (by decide) (fun h_78 => absurd h_78 (nI_ge hj (by decide))) (fun h_78 => ?_)
    refine X_iload (pc' := 83) dX5_lost_81 rfl rfl ?_
    refine X_iload (pc' := 85) dX5_lost_83 rfl rfl ?_
    refine X_iconst (pc' := 86) (v := (-1)) dX5_lost_85 rfl (by decide) ?_
    refine X_ixor (pc' := 87) dX5_lost_86 rfl ?_
    refine X_iand (pc' := 88) dX5_lost_87 rfl ?_
    refine X_eqi (nI (dif j e)) (dif_nI _ hj _ he6) ?_
    refine X_if_ne (pc' := 91) (tgt := 155) dX5_lost_88 rfl (by decide) (fun h_88 => ?_) (fun h_88 => ?_)
    · refine X_iinc (pc' := 158) (v := nI (j + 1)) (lv' := [(8, _), (7, _), (6, _), (5, _), (0, _), (1, _), (2, _), (3, _), (4, _)]) dX5_lost_155 rfl rfl ((nI_succ j).symm) (Nat.le_of_ble_eq_true rfl) rfl ?_
      refine X_goto (pc' := 0) (tgt := 74) dX5_lost_158 (by decide) ?_
      have := ih τ' rfl
      first
        | (have hu : ¬ j &&& e = j := fun q => h_88 (by rw [(dif_0 j hj e he6).mpr q]; rfl)
           rw [show allN x e (j + 1) = allN x e j from congrArg (allN x e j + ·) (if_neg hu), show lostN P s k p x e (j + 1) = lostN P s k p x e j from congrArg (lostN P s k p x e j + ·) (if_neg (fun q => hu q.1))] at this
           exact X_lv _ (by simp) this)
        | exact X_lv _ (by simp) this
    · refine X_iload_n (i := 3) (pc' := 92) dX5_lost_91 rfl rfl rfl ?_
      refine X_iload (pc' := 94) dX5_lost_92 rfl rfl ?_
      refine X_SIp (As := [_]) (rest := [_]) (pc' := 97) dX5_lost_94 rfl k_X5_ones l_X5_105 s_X5_ones ⟨by decide, by decide⟩ rfl rfl (Nat.le_of_ble_eq_true rfl) (d_ones cx τ' j hj) ?_
      refine X_SIp (As := [_, _]) (rest := []) (pc' := 100) dX5_lost_97 rfl k_X5_power l_X5_194 s_X5_power ⟨by decide, by decide⟩ rfl rfl (Nat.le_of_ble_eq_true rfl) (d_power cx τ' x (ones j) hx hoj) ?_
      refine X_bipush (pc' := 102) (v := nI 10) dX5_lost_100 rfl (by decide) ?_
      refine X_iload_n (i := 3) (pc' := 103) dX5_lost_102 rfl rfl rfl ?_
      refine X_isub (pc' := 104) dX5_lost_103 rfl ?_
      refine X_eqi (nI (10 - x)) (pk_sub hx) ?_
      refine X_iload (pc' := 106) dX5_lost_104 rfl rfl ?_
      refine X_SIp (As := [_]) (rest := [_, _]) (pc' := 109) dX5_lost_106 rfl k_X5_ones l_X5_105 s_X5_ones ⟨by decide, by decide⟩ rfl rfl (Nat.le_of_ble_eq_true rfl) (d_ones cx τ' e he6) ?_
      refine X_iload (pc' := 111) dX5_lost_109 rfl rfl ?_
      refine X_SIp (As := [_]) (rest := [_, _, _]) (pc' := 114) dX5_lost_111 rfl k_X5_ones l_X5_105 s_X5_ones ⟨by decide, by decide⟩ rfl rfl (Nat.le_of_ble_eq_true rfl) (d_ones cx τ' j hj) ?_
      have hu : j &&& e = j := (dif_0 j hj e he6).mp ((nI_eq (by omega) (by decide)).mp h_88)
      have hsub := ones_sub j hj e he6 hu
      have hw := wgt_le hx hsub hoe
      have hcw : costW P s k (dif e j) = cost P k (sWt s k) (bt (sTn s) k) (ones (dif e j)) (sDy s) := by
        unfold costW
        rw [show px P k &&& dif e j = dif e j from by rw [he]; unfold dif; rw [← Nat.and_assoc, ← Nat.and_assoc, Nat.and_self]]
      refine X_isub (pc' := 115) dX5_lost_114 rfl ?_
      refine X_eqi (nI (ones e - ones j)) (pk_sub hsub) ?_
      refine X_SIp (As := [_, _]) (rest := [_]) (pc' := 118) dX5_lost_115 rfl k_X5_power l_X5_194 s_X5_power ⟨by decide, by decide⟩ rfl rfl (Nat.le_of_ble_eq_true rfl) (d_power cx τ' (10 - x) (ones e - ones j) (by omega) (by omega)) ?_
      refine X_imul (pc' := 119) dX5_lost_118 rfl ?_
      refine X_eqi (nI (x ^ ones j * (10 - x) ^ (ones e - ones j))) (pk_mul _ _) ?_
      refine X_istore (pc' := 121) (lv' := [(9, _), (8, _), (7, _), (6, _), (5, _), (0, _), (1, _), (2, _), (3, _), (4, _)]) dX5_lost_119 rfl (Nat.le_of_ble_eq_true rfl) rfl ?_
      refine X_iload (pc' := 123) dX5_lost_121 rfl rfl ?_
      refine X_iload (pc' := 125) dX5_lost_123 rfl rfl ?_
      refine X_iadd (pc' := 126) dX5_lost_125 rfl ?_
      refine X_eqi (nI (allN x e (j + 1))) (by rw [show allN x e (j + 1) = allN x e j + x ^ ones j * (10 - x) ^ (ones e - ones j) from congrArg (allN x e j + ·) (if_pos hu)]; exact nI_add _ _) ?_
      refine X_istore (pc' := 128) (lv' := [(7, _), (9, _), (8, _), (6, _), (5, _), (0, _), (1, _), (2, _), (3, _), (4, _)]) dX5_lost_126 rfl (Nat.le_of_ble_eq_true rfl) rfl ?_
      refine X_iload (pc' := 130) dX5_lost_128 rfl rfl ?_
      refine X_aload_n (i := 0) (pc' := 131) dX5_lost_130 rfl rfl rfl ?_
      refine X_iload_n (i := 1) (pc' := 132) dX5_lost_131 rfl rfl rfl ?_
      refine X_iload (pc' := 134) dX5_lost_132 rfl rfl ?_
      refine X_iload (pc' := 136) dX5_lost_134 rfl rfl ?_
      refine X_iconst (pc' := 137) (v := (-1)) dX5_lost_136 rfl (by decide) ?_
      refine X_ixor (pc' := 138) dX5_lost_137 rfl ?_
      refine X_iand (pc' := 139) dX5_lost_138 rfl ?_
      refine X_eqi (nI (dif e j)) (dif_nI _ he6 _ hj) ?_
      refine X_OIp (As := [_, _]) (rest := [_]) (pc' := 142) dX5_lost_139 rfl k_X5_priceWith l_X5_175 v_X5_priceWith o_M_1 rfl ⟨by decide, by decide⟩ rfl rfl (Nat.le_of_ble_eq_true rfl) (d_priceWith cx τ' hP h hs ho hm hk (dif_lt he6)) ?_
      refine X_eqi (nI (costW P s k (dif e j))) (by rw [hcw]) ?_
      refine X_iload_n (i := 2) (pc' := 143) dX5_lost_142 rfl rfl rfl ?_
      refine X_icmp_gt (pc' := 146) (tgt := 151) dX5_lost_143 rfl (by decide) (fun h_143 => ?_) (fun h_143 => ?_)
      · refine X_iconst (pc' := 152) (v := nI 0) dX5_lost_151 rfl (by decide) ?_
        refine X_iadd (pc' := 153) dX5_lost_152 rfl ?_
        refine X_eqi (nI (lostN P s k p x e (j + 1))) (by first | (rw [show lostN P s k p x e (j + 1) = lostN P s k p x e j + x ^ ones j * (10 - x) ^ (ones e - ones j) from congrArg (lostN P s k p x e j + ·) (if_pos ⟨hu, Int32.not_lt.mp h_143⟩)]; exact nI_add _ _) | (rw [show lostN P s k p x e (j + 1) = lostN P s k p x e j + 0 from congrArg (lostN P s k p x e j + ·) (if_neg (fun q => absurd q.2 (Int32.not_le.mpr h_143)))]; exact nI_add _ _)) ?_
        refine X_istore (pc' := 155) (lv' := [(6, _), (7, _), (9, _), (8, _), (5, _), (0, _), (1, _), (2, _), (3, _), (4, _)]) dX5_lost_153 rfl (Nat.le_of_ble_eq_true rfl) rfl ?_
        refine X_iinc (pc' := 158) (v := nI (j + 1)) (lv' := [(8, _), (6, _), (7, _), (9, _), (5, _), (0, _), (1, _), (2, _), (3, _), (4, _)]) dX5_lost_155 rfl rfl ((nI_succ j).symm) (Nat.le_of_ble_eq_true rfl) rfl ?_
        refine X_goto (pc' := 0) (tgt := 74) dX5_lost_158 (by decide) ?_
        have := ih τ' rfl
        first
          | (have hu : ¬ j &&& e = j := fun q => h_88 (by rw [(dif_0 j hj e he6).mpr q]; rfl)
             rw [show allN x e (j + 1) = allN x e j from congrArg (allN x e j + ·) (if_neg hu), show lostN P s k p x e (j + 1) = lostN P s k p x e j from congrArg (lostN P s k p x e j + ·) (if_neg (fun q => hu q.1))] at this
             exact X_lv _ (by simp) this)
          | exact X_lv _ (by simp) this
      · refine X_iload (pc' := 148) dX5_lost_146 rfl rfl ?_
        refine X_goto (pc' := 0) (tgt := 152) dX5_lost_148 (by decide) ?_
        refine X_iadd (pc' := 153) dX5_lost_152 rfl ?_
        refine X_eqi (nI (lostN P s k p x e (j + 1))) (by first | (rw [show lostN P s k p x e (j + 1) = lostN P s k p x e j + x ^ ones j * (10 - x) ^ (ones e - ones j) from congrArg (lostN P s k p x e j + ·) (if_pos ⟨hu, Int32.not_lt.mp h_143⟩)]; exact nI_add _ _) | (rw [show lostN P s k p x e (j + 1) = lostN P s k p x e j + 0 from congrArg (lostN P s k p x e j + ·) (if_neg (fun q => absurd q.2 (Int32.not_le.mpr h_143)))]; exact nI_add _ _)) ?_
        refine X_istore (pc' := 155) (lv' := [(6, _), (7, _), (9, _), (8, _), (5, _), (0, _), (1, _), (2, _), (3, _), (4, _)]) dX5_lost_153 rfl (Nat.le_of_ble_eq_true rfl) rfl ?_
        refine X_iinc (pc' := 158) (v := nI (j + 1)) (lv' := [(8, _), (6, _), (7, _), (9, _), (5, _), (0, _), (1, _), (2, _), (3, _), (4, _)]) dX5_lost_155 rfl rfl ((nI_succ j).symm) (Nat.le_of_ble_eq_true rfl) rfl ?_
        refine X_goto (pc' := 0) (tgt := 74) dX5_lost_158 (by decide) ?_
        have := ih τ' rfl
        first
          | (have hu : ¬ j &&& e = j := fun q => h_88 (by rw [(dif_0 j hj e he6).mpr q]; rfl)
             rw [show allN x e (j + 1) = allN x e j from congrArg (allN x e j + ·) (if_neg hu), show lostN P s k p x e (j + 1) = lostN P s k p x e j from congrArg (lostN P s k p x e j + ·) (if_neg (fun q => hu q.1))] at this
             exact X_lv _ (by simp) this)
          | exact X_lv _ (by simp) this
theorem d_lost (τ : xT) {P : PT} (hP : Pok P) (h : MT τ P) {m : Nat} {s : SN} (hs : MS τ 4 0 (pn P) s) (ho : Sok P m s) (hm : m < 4500) (l p x : Int32) (u : Prop) [Decidable u] : CI cx m_X5_lost [.ref 1, .int l, .int p, .int x, .int (zI u)] PM τ (fun y τ' => τ' = τ ∧ y = lostF P s l p x u) := by
  have hn6 := hP.1
  have h26 := two6 hP
  have hst := ho.2.1
  refine Ct_of (by decide) (Nat.le_of_ble_eq_true rfl) (lv := [(0, _), (1, _), (2, _), (3, _), (4, _)]) rfl ?_
  refine X_aload_n (i := 0) (pc' := 1) dX5_lost_0 rfl rfl rfl ?_
  refine X_iload_n (i := 1) (pc' := 2) dX5_lost_1 rfl rfl rfl ?_
  refine X_OIp (As := [_]) (rest := []) (pc' := 5) dX5_lost_2 rfl k_X5_isLetter l_X5_112 v_X5_isLetter o_M_1 rfl ⟨by decide, by decide⟩ rfl rfl (Nat.le_of_ble_eq_true rfl) (d_isLetter cx τ hP h l) ?_
  refine X_if_ne (pc' := 8) (tgt := 10) dX5_lost_5 rfl (by decide) (fun h_5 => ?_) (fun h_5 => ?_)
  · obtain ⟨k, hk, rfl⟩ := kn_of (zI_1 h_5)
    rw [lostF, onL_in hP hk]
    have hxk := hP.2.2.2.2 k hk
    refine X_iload_n (i := 2) (pc' := 11) dX5_lost_10 rfl rfl rfl ?_
    refine X_i2l (pc' := 12) dX5_lost_11 rfl ?_
    refine X_lconst (pc' := 13) (v := lN 0) dX5_lost_12 rfl rfl ?_
    refine X_ldc2 (pc' := 16) (v := lN 60) dX5_lost_13 rfl cn_X5_171 ?_
    refine X_SIp (As := [_, _, _]) (rest := []) (pc' := 19) dX5_lost_16 rfl k_X5_in l_X5_50 s_X5_in ⟨by decide, by decide⟩ rfl rfl (Nat.le_of_ble_eq_true rfl) (d_in cx τ _ _ _) ?_
    refine X_if_eq (pc' := 22) (tgt := 34) dX5_lost_19 rfl (by decide) (fun h_19 => ?_) (fun h_19 => ?_)
    · refine X_bipush (pc' := 36) (v := (-2)) dX5_lost_34 rfl (by decide) ?_
      refine X_ri dX5_lost_36 rfl ⟨rfl, rfl⟩ ?_
      refine ⟨rfl, ?_⟩
      by_cases hc : isC p
      · rw [if_pos hc]
        refine (swF_out ?_).symm
        first
          | (have q := zI_0.mp h_31; rw [inW (hi := 10) (by decide)] at q; omega)
          | exact absurd ((inW (hi := 60) (by decide)).mpr hc) (zI_0.mp h_19)
      · rw [if_neg hc]
    · refine X_iload_n (i := 3) (pc' := 23) dX5_lost_22 rfl rfl rfl ?_
      refine X_i2l (pc' := 24) dX5_lost_23 rfl ?_
      refine X_lconst (pc' := 25) (v := lN 0) dX5_lost_24 rfl rfl ?_
      refine X_ldc2 (pc' := 28) (v := lN 10) dX5_lost_25 rfl cn_X5_192 ?_
      refine X_SIp (As := [_, _, _]) (rest := []) (pc' := 31) dX5_lost_28 rfl k_X5_in l_X5_50 s_X5_in ⟨by decide, by decide⟩ rfl rfl (Nat.le_of_ble_eq_true rfl) (d_in cx τ _ _ _) ?_
      refine X_if_ne (pc' := 34) (tgt := 37) dX5_lost_31 rfl (by decide) (fun h_31 => ?_) (fun h_31 => ?_)
      · rw [if_pos (show isC p from (inW (hi := 60) (by decide)).mp (zI_1 h_19))]
        have hw2 := (inW (hi := 10) (by decide)).mp (zI_1 h_31)
        obtain ⟨v, hv, rfl⟩ := xsw_of (x := x) (n := 10) (by omega) (by decide)
        rw [swF_in hv (by decide)]
        refine X_aload_n (i := 0) (pc' := 38) dX5_lost_37 rfl rfl rfl ?_
        refine X_iconst (pc' := 39) (v := nI 0) dX5_lost_38 rfl (by decide) ?_
        refine X_iload_n (i := 1) (pc' := 40) dX5_lost_39 rfl rfl rfl ?_
        refine X_OIp (As := [_, _]) (rest := []) (pc' := 43) dX5_lost_40 rfl k_X5_isSent l_X5_116 v_X5_isSent o_M_1 rfl ⟨by decide, by decide⟩ rfl rfl (Nat.le_of_ble_eq_true rfl) (d_isSent cx τ (lev := 0) (by decide) hs (by omega) (show k < 31 by omega)) ?_
        refine X_if_eq (pc' := 46) (tgt := 49) dX5_lost_43 rfl (by decide) (fun h_43 => ?_) (fun h_43 => ?_)
        · refine X_aload_n (i := 0) (pc' := 50) dX5_lost_49 rfl rfl rfl ?_
          refine X_get (pc' := 53) (v := .ref 3) dX5_lost_50 rfl (gf_X5_13 _ rfl) o_M_1 rfl rfl ?_
          refine X_iload_n (i := 1) (pc' := 54) dX5_lost_53 rfl rfl rfl ?_
          refine X_iald (pc' := 55) (j := k) dX5_lost_54 rfl (Or.inl r_M_3) (rfl) (by omega) ?_
          refine X_eqi (nI (px P k)) (h.2.2.2.2 k hk) ?_
          refine X_aload_n (i := 0) (pc' := 56) dX5_lost_55 rfl rfl rfl ?_
          refine X_get (pc' := 59) (v := .ref 4) dX5_lost_56 rfl (gf_X5_16 _ rfl) o_M_1 rfl rfl ?_
          refine X_bipush (pc' := 61) (v := nI 13) dX5_lost_59 rfl (by decide) ?_
          refine X_iald (pc' := 62) (j := 13) dX5_lost_61 rfl (Or.inl r_M_4) (rfl) (by decide) ?_
          refine X_eqi (nI (sSt s)) (hs.2.2.2.1) ?_
          refine X_iand (pc' := 63) dX5_lost_62 rfl ?_
          refine X_eqi (nI (px P k &&& sSt s)) (nI_and (by omega) (by omega)) ?_
          refine X_istore (pc' := 65) (lv' := [(5, _), (0, _), (1, _), (2, _), (3, _), (4, _)]) dX5_lost_63 rfl (Nat.le_of_ble_eq_true rfl) rfl ?_
          refine X_iconst (pc' := 66) (v := nI 0) dX5_lost_65 rfl (by decide) ?_
          refine X_istore (pc' := 68) (lv' := [(6, _), (5, _), (0, _), (1, _), (2, _), (3, _), (4, _)]) dX5_lost_66 rfl (Nat.le_of_ble_eq_true rfl) rfl ?_
          refine X_iconst (pc' := 69) (v := nI 0) dX5_lost_68 rfl (by decide) ?_
          refine X_istore (pc' := 71) (lv' := [(7, _), (6, _), (5, _), (0, _), (1, _), (2, _), (3, _), (4, _)]) dX5_lost_69 rfl (Nat.le_of_ble_eq_true rfl) rfl ?_
          refine X_iconst (pc' := 72) (v := nI 0) dX5_lost_71 rfl (by decide) ?_
          refine X_istore (pc' := 74) (lv' := [(8, _), (7, _), (6, _), (5, _), (0, _), (1, _), (2, _), (3, _), (4, _)]) dX5_lost_72 rfl (Nat.le_of_ble_eq_true rfl) rfl ?_
          rw [if_neg (zI_0.mp h_43)]
          exact X_lv _ (by simp [lostN, allN]) (l2_lost cx τ hP h hs ho hm hk p hv rfl u 0 τ (by omega) rfl)
        · refine X_bipush (pc' := 48) (v := (-3)) dX5_lost_46 rfl (by decide) ?_
          refine X_ri dX5_lost_48 rfl ⟨rfl, rfl⟩ ?_
          exact ⟨rfl, (if_pos (zI_1 h_43)).symm⟩
      · refine X_bipush (pc' := 36) (v := (-2)) dX5_lost_34 rfl (by decide) ?_
        refine X_ri dX5_lost_36 rfl ⟨rfl, rfl⟩ ?_
        refine ⟨rfl, ?_⟩
        by_cases hc : isC p
        · rw [if_pos hc]
          refine (swF_out ?_).symm
          first
            | (have q := zI_0.mp h_31; rw [inW (hi := 10) (by decide)] at q; omega)
            | exact absurd ((inW (hi := 60) (by decide)).mpr hc) (zI_0.mp h_19)
        · rw [if_neg hc]
  · refine X_iconst (pc' := 9) (v := (-1)) dX5_lost_8 rfl (by decide) ?_
    refine X_ri dX5_lost_9 rfl ⟨rfl, rfl⟩ ?_
    exact ⟨rfl, (onL_out (zI_0.mp h_5)).symm⟩
end M9
