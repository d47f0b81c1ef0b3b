/-! ===== numbers: powers, divisors, fractions; the order; counts ===== -/
def lI (z : Int) : Int64 := Int64.ofInt z
theorem lI_nat (n : Nat) : lI (n : Int) = lN n := by
  exact Int64.toBitVec_inj.mp (BitVec.ofInt_natCast 64 n)
theorem lI_tdiv {a b : Int} (ha : -(2 ^ 62) ≤ a) (ha2 : a ≤ 2 ^ 62) (hb : 0 ≤ b) (hb2 : b ≤ 2 ^ 62) : lI a / lI b = lI (a.tdiv b) :=
  (Int64.ofInt_tdiv (by show (-9223372036854775808 : Int) ≤ a; omega) (by show a ≤ (9223372036854775807 : Int); omega) (by show (-9223372036854775808 : Int) ≤ b; omega) (by show b ≤ (9223372036854775807 : Int); omega)).symm
theorem lI_to32 (a : Int) : (lI a).toInt32 = Int32.ofInt a := Int64.toInt32_ofInt
theorem iI_nat (n : Nat) : Int32.ofInt (n : Int) = nI n := by
  exact Int32.toBitVec_inj.mp (BitVec.ofInt_natCast 32 n)
theorem lI_toInt {a : Int} (ha : -(2 ^ 62) ≤ a) (ha2 : a ≤ 2 ^ 62) : (lI a).toInt = a := Int64.toInt_ofInt_of_le (by omega) (by omega)
theorem lI_abs {a : Int} (ha : -(2 ^ 62) ≤ a) (ha2 : a ≤ 2 ^ 62) : (if (0 : Int64) < lI a then lI a else -lI a) = lN a.natAbs := by
  have h0 : (0 : Int64) < lI a ↔ 0 < a := by
    rw [Int64.lt_iff_toInt_lt, lI_toInt ha ha2]; rfl
  by_cases h : 0 < a
  · rw [if_pos (h0.mpr h), ← lI_nat]; congr 1; omega
  · rw [if_neg (fun q => h (h0.mp q)), ← lI_nat]
    show -Int64.ofInt a = Int64.ofInt _
    rw [← Int64.ofInt_neg]; congr 1; omega
def gcdN : Nat → Nat → Nat → Nat | 0, a, _ => a | f + 1, a, b => if b = 0 then a else gcdN f b (a % b)
theorem gcdN_le : ∀ f a b, gcdN f a b ≤ max a b := by
  intro f
  induction f with
  | zero => intro a b; exact Nat.le_max_left _ _
  | succ f ih =>
    intro a b
    unfold gcdN
    split
    · exact Nat.le_max_left _ _
    · rename_i h
      have h1 := ih b (a % b)
      have h2 : a % b < b := Nat.mod_lt _ (by omega)
      omega
theorem gcdN_gcd : ∀ k f a b, b < 2 ^ k → 2 * k < f → gcdN f a b = Nat.gcd a b := by
  intro k
  induction k with
  | zero =>
    intro f a b hb hf
    have : b = 0 := by omega
    subst this
    obtain ⟨f, rfl⟩ : ∃ g, f = g + 1 := ⟨f - 1, by omega⟩
    show (if 0 = 0 then a else _) = _
    rw [if_pos rfl, Nat.gcd_zero_right]
  | succ k ih =>
    intro f a b hb hf
    obtain ⟨f, rfl⟩ : ∃ g, f = g + 2 := ⟨f - 2, by omega⟩
    show (if b = 0 then a else if a % b = 0 then b else gcdN f (a % b) (b % (a % b))) = _
    by_cases h1 : b = 0
    · rw [if_pos h1, h1, Nat.gcd_zero_right]
    · rw [if_neg h1]
      have h3 : Nat.gcd a b = Nat.gcd b (a % b) := by rw [Nat.gcd_comm, Nat.gcd_rec, Nat.gcd_comm]
      by_cases h2 : a % b = 0
      · rw [if_pos h2, h3, h2, Nat.gcd_zero_right]
      · rw [if_neg h2]
        have h4 : a % b < b := Nat.mod_lt _ (by omega)
        have h5 : b % (a % b) < 2 ^ k := by
          have e : 2 ^ (k + 1) = 2 * 2 ^ k := by rw [Nat.pow_succ, Nat.mul_comm]
          by_cases h6 : 2 * (a % b) ≤ b
          · have := Nat.mod_lt b (show 0 < a % b by omega)
            omega
          · have h7 : b % (a % b) = b - (a % b) := by
              rw [Nat.mod_eq_sub_mod (by omega), Nat.mod_eq_of_lt (by omega)]
            omega
        rw [ih f _ _ h5 (by omega), h3]
        have h8 : Nat.gcd b (a % b) = Nat.gcd (a % b) (b % (a % b)) := by rw [Nat.gcd_comm, Nat.gcd_rec, Nat.gcd_comm]
        exact h8.symm
theorem lcmp0 {b : Nat} (hb : b < 2 ^ 62) : lg_cmp (lN b) (lN 0) = 0 ↔ b = 0 := by
  rw [lg_cmp_eq]
  exact pk_lEQ (by omega) (by decide)
def fracF (a : Int) (b : Nat) (u : Prop) [Decidable u] : Int32 := if u then Int32.ofInt (a.tdiv (Nat.gcd a.natAbs b : Nat)) else nI (b / Nat.gcd a.natAbs b)
def fac : Nat → Nat | 0 => 1 | n + 1 => (n + 1) * fac n
section C4
variable (cx : xC)
set_option maxHeartbeats 4000000
set_option maxRecDepth 100000
theorem c_power {P : xP} (τ : xT) (v n : Nat) (hv : v < 2 ^ 31) (hn : n < 1000) : CL cx m_X4_power [.int (nI v), .int (nI n)] P τ (fun x τ' => τ' = τ ∧ x = lN (v ^ n)) := by
  refine Ct_of (by decide) (Nat.le_of_ble_eq_true rfl) (lv := [(0, _), (1, _)]) rfl ?_
  have hl : ∀ (j : Nat) (τ' : xT), j ≤ n → τ' = τ → X cx m_X4_power P (qL P (fun x τ' => τ' = τ ∧ x = lN (v ^ n))) 5 [(4, .int (nI j)), (2, .long (lN (v ^ j))), (0, .int (nI v)), (1, .int (nI n))] [] P τ' := by
    refine xloop _ _ n (fun τ' h => ?_) (fun j τ' hj h ih => ?_)
    · subst h
      refine X_iload (pc' := 7) dX4_power_5 rfl rfl ?_
      refine X_iload_n (i := 1) (pc' := 8) dX4_power_7 rfl rfl rfl ?_
      refine X_icmp_ge (pc' := 11) (tgt := 22) dX4_power_8 rfl (by decide) (fun h_8 => ?_) (fun h_8 => absurd (nI_le (Nat.le_refl _) (by omega)) h_8)
      refine X_lload_n (i := 2) (pc' := 23) dX4_power_22 rfl rfl rfl ?_
      refine X_rl dX4_power_23 rfl ⟨rfl, rfl⟩ ?_
      exact ⟨rfl, rfl⟩
    · subst h
      refine X_iload (pc' := 7) dX4_power_5 rfl rfl ?_
      refine X_iload_n (i := 1) (pc' := 8) dX4_power_7 rfl rfl rfl ?_
      refine X_icmp_ge (pc' := 11) (tgt := 22) dX4_power_8 rfl (by decide) (fun h_8 => absurd h_8 (nI_ge hj (by omega))) (fun h_8 => ?_)
      refine X_lload_n (i := 2) (pc' := 12) dX4_power_11 rfl rfl rfl ?_
      refine X_iload_n (i := 0) (pc' := 13) dX4_power_12 rfl rfl rfl ?_
      refine X_i2l (pc' := 14) dX4_power_13 rfl ?_
      refine X_lmul (pc' := 15) dX4_power_14 rfl ?_
      refine X_eql (lN (v ^ (j + 1))) (by rw [nI_l hv, lN_mul, Nat.pow_succ]) ?_
      refine X_lstore_n (i := 2) (pc' := 16) (lv' := [(2, _), (4, _), (0, _), (1, _)]) dX4_power_15 rfl rfl (Nat.le_of_ble_eq_true rfl) rfl ?_
      refine X_iinc (pc' := 19) (v := nI (j + 1)) (lv' := [(4, _), (2, _), (0, _), (1, _)]) dX4_power_16 rfl rfl ((nI_succ j).symm) (Nat.le_of_ble_eq_true rfl) rfl ?_
      refine X_goto (pc' := 0) (tgt := 5) dX4_power_19 (by decide) ?_
      exact X_lv _ (by simp) (ih τ' rfl)
  refine X_lconst (pc' := 1) (v := lN 1) dX4_power_0 rfl rfl ?_
  refine X_lstore_n (i := 2) (pc' := 2) (lv' := [(2, _), (0, _), (1, _)]) dX4_power_1 rfl rfl (Nat.le_of_ble_eq_true rfl) rfl ?_
  refine X_iconst (pc' := 3) (v := nI 0) dX4_power_2 rfl (by decide) ?_
  refine X_istore (pc' := 5) (lv' := [(4, _), (2, _), (0, _), (1, _)]) dX4_power_3 rfl (Nat.le_of_ble_eq_true rfl) rfl ?_
  exact X_lv _ (by simp [nI_0]) (hl 0 τ (by omega) rfl)
theorem c_factorial {P : xP} (τ : xT) (n : Nat) (hn : n < 1000) : CL cx m_X4_factorial [.int (nI n)] P τ (fun x τ' => τ' = τ ∧ x = lN (fac n)) := by
  refine Ct_of (by decide) (Nat.le_of_ble_eq_true rfl) (lv := [(0, _)]) rfl ?_
  have hl : ∀ (j : Nat) (τ' : xT), j ≤ n - 1 → (τ' = τ ∧ 0 < n) → X cx m_X4_factorial P (qL P (fun x τ' => τ' = τ ∧ x = lN (fac n))) 4 [(3, .int (nI (j + 2))), (1, .long (lN (fac (j + 1)))), (0, .int (nI n))] [] P τ' := by
    refine xloop _ _ (n - 1) (fun τ' h => ?_) (fun j τ' hj h ih => ?_)
    · obtain ⟨h, h0⟩ := h
      subst h
      refine X_iload_n (i := 3) (pc' := 5) dX4_factorial_4 rfl rfl rfl ?_
      refine X_iload_n (i := 0) (pc' := 6) dX4_factorial_5 rfl rfl rfl ?_
      refine X_icmp_gt (pc' := 9) (tgt := 20) dX4_factorial_6 rfl (by decide) (fun h_6 => ?_) (fun h_6 => absurd (nI_lt (by omega) (by omega)) h_6)
      refine X_lload_n (i := 1) (pc' := 21) dX4_factorial_20 rfl rfl rfl ?_
      refine X_rl dX4_factorial_21 rfl ⟨rfl, rfl⟩ ?_
      exact ⟨rfl, by rw [show n - 1 + 1 = n by omega]⟩
    · obtain ⟨h, h0⟩ := h
      subst h
      refine X_iload_n (i := 3) (pc' := 5) dX4_factorial_4 rfl rfl rfl ?_
      refine X_iload_n (i := 0) (pc' := 6) dX4_factorial_5 rfl rfl rfl ?_
      refine X_icmp_gt (pc' := 9) (tgt := 20) dX4_factorial_6 rfl (by decide) (fun h_6 => absurd h_6 (nI_nlt (by omega) (by omega))) (fun h_6 => ?_)
      refine X_lload_n (i := 1) (pc' := 10) dX4_factorial_9 rfl rfl rfl ?_
      refine X_iload_n (i := 3) (pc' := 11) dX4_factorial_10 rfl rfl rfl ?_
      refine X_i2l (pc' := 12) dX4_factorial_11 rfl ?_
      refine X_lmul (pc' := 13) dX4_factorial_12 rfl ?_
      refine X_eql (lN (fac (j + 1 + 1))) (by rw [nI_l (by omega), lN_mul, Nat.mul_comm]; rfl) ?_
      refine X_lstore_n (i := 1) (pc' := 14) (lv' := [(1, _), (3, _), (0, _)]) dX4_factorial_13 rfl rfl (Nat.le_of_ble_eq_true rfl) rfl ?_
      refine X_iinc (pc' := 17) (v := nI (j + 1 + 2)) (lv' := [(3, _), (1, _), (0, _)]) dX4_factorial_14 rfl rfl (by rw [show j + 1 + 2 = (j + 2) + 1 by omega]; exact (nI_succ (j + 2)).symm) (Nat.le_of_ble_eq_true rfl) rfl ?_
      refine X_goto (pc' := 0) (tgt := 4) dX4_factorial_17 (by decide) ?_
      exact X_lv _ (by simp) (ih τ' ⟨rfl, h0⟩)
  by_cases h0 : 0 < n
  · refine X_lconst (pc' := 1) (v := lN 1) dX4_factorial_0 rfl rfl ?_
    refine X_lstore_n (i := 1) (pc' := 2) (lv' := [(1, _), (0, _)]) dX4_factorial_1 rfl rfl (Nat.le_of_ble_eq_true rfl) rfl ?_
    refine X_iconst (pc' := 3) (v := nI 2) dX4_factorial_2 rfl (by decide) ?_
    refine X_istore_n (i := 3) (pc' := 4) (lv' := [(3, _), (1, _), (0, _)]) dX4_factorial_3 rfl rfl (Nat.le_of_ble_eq_true rfl) rfl ?_
    exact X_lv _ (by simp [fac]) (hl 0 τ (by omega) ⟨rfl, h0⟩)
  · have : n = 0 := by omega
    subst this
    refine X_lconst (pc' := 1) (v := lN 1) dX4_factorial_0 rfl rfl ?_
    refine X_lstore_n (i := 1) (pc' := 2) (lv' := [(1, _), (0, _)]) dX4_factorial_1 rfl rfl (Nat.le_of_ble_eq_true rfl) rfl ?_
    refine X_iconst (pc' := 3) (v := nI 2) dX4_factorial_2 rfl (by decide) ?_
    refine X_istore_n (i := 3) (pc' := 4) (lv' := [(3, _), (1, _), (0, _)]) dX4_factorial_3 rfl rfl (Nat.le_of_ble_eq_true rfl) rfl ?_
    refine X_iload_n (i := 3) (pc' := 5) dX4_factorial_4 rfl rfl rfl ?_
    refine X_iload_n (i := 0) (pc' := 6) dX4_factorial_5 rfl rfl rfl ?_
    refine X_icmp_gt (pc' := 9) (tgt := 20) dX4_factorial_6 rfl (by decide) (fun h_6 => ?_) (fun h_6 => absurd (nI_lt (by decide) (by decide)) h_6)
    refine X_lload_n (i := 1) (pc' := 21) dX4_factorial_20 rfl rfl rfl ?_
    refine X_rl dX4_factorial_21 rfl ⟨rfl, rfl⟩ ?_
    exact ⟨rfl, rfl⟩
theorem c_gcd {P : xP} (τ : xT) (a b : Nat) (ha : a < 2 ^ 62) (hb : b < 2 ^ 62) : CL cx m_X4_commonDivisor [.long (lN a), .long (lN b)] P τ (fun x τ' => τ' = τ ∧ x = lN (gcdN 1000 a b)) := by
  refine Ct_of (by decide) (Nat.le_of_ble_eq_true rfl) (lv := [(0, _), (2, _)]) rfl ?_
  have hl : ∀ (j : Nat) (s : Nat × Nat), j ≤ 1000 → (s.1 < 2 ^ 62 ∧ s.2 < 2 ^ 62 ∧ gcdN (1000 - j) s.1 s.2 = gcdN 1000 a b) → X cx m_X4_commonDivisor P (qL P (fun x τ' => τ' = τ ∧ x = lN (gcdN 1000 a b))) 9 [(8, .int (nI j)), (6, .long (lN s.2)), (4, .long (lN s.1))] [] P τ := by
    refine xloop _ _ 1000 (fun s h => ?_) (fun j s hj h ih => ?_)
    · obtain ⟨x, y⟩ := s
      obtain ⟨h1, h2, h3⟩ := h
      refine X_iload (pc' := 11) dX4_commonDivisor_9 rfl rfl ?_
      refine X_sipush (pc' := 14) (v := nI 1000) dX4_commonDivisor_11 rfl (by decide) ?_
      refine X_icmp_ge (pc' := 17) (tgt := 45) dX4_commonDivisor_14 rfl (by decide) (fun h_14 => ?_) (fun h_14 => absurd (nI_le (Nat.le_refl _) (by omega)) h_14)
      refine X_lload (pc' := 47) dX4_commonDivisor_45 rfl rfl ?_
      refine X_rl dX4_commonDivisor_47 rfl ⟨rfl, rfl⟩ ?_
      exact ⟨rfl, by rw [← h3]; rfl⟩
    · obtain ⟨x, y⟩ := s
      obtain ⟨h1, h2, h3⟩ := h
      have h4 : gcdN (1000 - j) x y = if y = 0 then x else gcdN (1000 - (j + 1)) y (x % y) := by
        rw [show 1000 - j = (1000 - (j + 1)) + 1 by omega]; rfl
      refine X_iload (pc' := 11) dX4_commonDivisor_9 rfl rfl ?_
      refine X_sipush (pc' := 14) (v := nI 1000) dX4_commonDivisor_11 rfl (by decide) ?_
      refine X_icmp_ge (pc' := 17) (tgt := 45) dX4_commonDivisor_14 rfl (by decide) (fun h_14 => absurd h_14 (nI_ge hj (by omega))) (fun h_14 => ?_)
      refine X_lload (pc' := 19) dX4_commonDivisor_17 rfl rfl ?_
      refine X_lconst (pc' := 20) (v := lN 0) dX4_commonDivisor_19 rfl rfl ?_
      refine X_lcmp (pc' := 21) dX4_commonDivisor_20 rfl ?_
      refine X_if_eq (pc' := 24) (tgt := 45) dX4_commonDivisor_21 rfl (by decide) (fun h_21 => ?_) (fun h_21 => ?_)
      · refine X_lload (pc' := 47) dX4_commonDivisor_45 rfl rfl ?_
        refine X_rl dX4_commonDivisor_47 rfl ⟨rfl, rfl⟩ ?_
        have hy : y = 0 := (lcmp0 h2).mp h_21
        exact ⟨rfl, by rw [← h3, h4, if_pos hy]⟩
      · have hy : ¬ y = 0 := fun q => h_21 ((lcmp0 h2).mpr q)
        rw [if_neg hy] at h4
        refine X_lload (pc' := 26) dX4_commonDivisor_24 rfl rfl ?_
        refine X_lload (pc' := 28) dX4_commonDivisor_26 rfl rfl ?_
        refine X_lrem (pc' := 29) dX4_commonDivisor_28 rfl (fun q => hy ((pk_lEQ (by omega) (by decide)).mp (q : lN y = lN 0))) ?_
        refine X_eql (lN (x % y)) (pk_lRem (by omega) (by omega) (by omega)) ?_
        refine X_lstore (pc' := 31) (lv' := [(9, _), (8, _), (6, _), (4, _)]) dX4_commonDivisor_29 rfl (Nat.le_of_ble_eq_true rfl) rfl ?_
        refine X_lload (pc' := 33) dX4_commonDivisor_31 rfl rfl ?_
        refine X_lstore (pc' := 35) (lv' := [(4, _), (9, _), (8, _), (6, _)]) dX4_commonDivisor_33 rfl (Nat.le_of_ble_eq_true rfl) rfl ?_
        refine X_lload (pc' := 37) dX4_commonDivisor_35 rfl rfl ?_
        refine X_lstore (pc' := 39) (lv' := [(6, _), (4, _), (9, _), (8, _)]) dX4_commonDivisor_37 rfl (Nat.le_of_ble_eq_true rfl) rfl ?_
        refine X_iinc (pc' := 42) (v := nI (j + 1)) (lv' := [(8, _), (6, _), (4, _), (9, _)]) dX4_commonDivisor_39 rfl rfl ((nI_succ j).symm) (Nat.le_of_ble_eq_true rfl) rfl ?_
        refine X_goto (pc' := 0) (tgt := 9) dX4_commonDivisor_42 (by decide) ?_
        have h5 : x % y < y := Nat.mod_lt _ (by omega)
        exact X_lv _ (by simp) (ih (y, x % y) ⟨h2, by show x % y < 2 ^ 62; omega, by rw [← h3, h4]⟩)
  refine X_lload_n (i := 0) (pc' := 1) dX4_commonDivisor_0 rfl rfl rfl ?_
  refine X_lstore (pc' := 3) (lv' := [(4, _), (0, _), (2, _)]) dX4_commonDivisor_1 rfl (Nat.le_of_ble_eq_true rfl) rfl ?_
  refine X_lload_n (i := 2) (pc' := 4) dX4_commonDivisor_3 rfl rfl rfl ?_
  refine X_lstore (pc' := 6) (lv' := [(6, _), (4, _), (0, _), (2, _)]) dX4_commonDivisor_4 rfl (Nat.le_of_ble_eq_true rfl) rfl ?_
  refine X_iconst (pc' := 7) (v := nI 0) dX4_commonDivisor_6 rfl (by decide) ?_
  refine X_istore (pc' := 9) (lv' := [(8, _), (6, _), (4, _), (0, _), (2, _)]) dX4_commonDivisor_7 rfl (Nat.le_of_ble_eq_true rfl) rfl ?_
  exact X_lv _ (by simp [nI_0]) (hl 0 (a, b) (by omega) ⟨ha, hb, rfl⟩)
theorem c_frac {P : xP} (τ : xT) (a : Int) (b : Nat) (u : Prop) [Decidable u] (ha : -(2 ^ 60) ≤ a) (ha2 : a ≤ 2 ^ 60) (hb : 0 < b) (hb2 : b < 2 ^ 30) : CI cx m_X4_fractionPart [.long (lI a), .long (lN b), .int (zI u)] P τ (fun x τ' => τ' = τ ∧ x = fracF a b u) := by
  have hg : gcdN 1000 a.natAbs b = Nat.gcd a.natAbs b := gcdN_gcd 30 1000 _ _ hb2 (by decide)
  have hg0 : 0 < Nat.gcd a.natAbs b := Nat.gcd_pos_of_pos_right _ hb
  have hgb : Nat.gcd a.natAbs b ≤ b := Nat.gcd_le_right _ hb
  refine Ct_of (by decide) (Nat.le_of_ble_eq_true rfl) (lv := [(0, _), (2, _), (4, _)]) rfl ?_
  refine X_lload_n (i := 0) (pc' := 1) dX4_fractionPart_0 rfl rfl rfl ?_
  refine X_mabs (pc' := 4) dX4_fractionPart_1 rfl ml_X4_242 ⟨by decide, by decide⟩ ⟨Nat.le_of_eq (Nat.sub_self _), Nat.le_of_eq (Nat.sub_self _)⟩ (Nat.le_of_ble_eq_true rfl) ?_
  refine X_eql (lN a.natAbs) (lI_abs (by omega) (by omega)) ?_
  refine X_lload_n (i := 2) (pc' := 5) dX4_fractionPart_4 rfl rfl rfl ?_
  refine X_SLp (As := [_, _]) (rest := []) (pc' := 8) dX4_fractionPart_5 rfl k_X4_commonDivisor l_X4_248 s_X4_commonDivisor ⟨by decide, by decide⟩ rfl rfl (Nat.le_of_ble_eq_true rfl) (c_gcd cx τ a.natAbs b (by omega) (by omega)) ?_
  refine X_eql (lN (Nat.gcd a.natAbs b)) (by rw [hg]) ?_
  refine X_lstore (pc' := 10) (lv' := [(5, _), (0, _), (2, _), (4, _)]) dX4_fractionPart_8 rfl (Nat.le_of_ble_eq_true rfl) rfl ?_
  refine X_lload (pc' := 12) dX4_fractionPart_10 rfl rfl ?_
  refine X_lconst (pc' := 13) (v := lN 1) dX4_fractionPart_12 rfl rfl ?_
  refine X_lcmp (pc' := 14) dX4_fractionPart_13 rfl ?_
  refine X_if_ge (pc' := 17) (tgt := 19) dX4_fractionPart_14 rfl (by decide) (fun h_14 => ?_) (fun h_14 => absurd ((lg_cmp_ge _ _).mpr ((pk_lLE (by decide) (by omega)).mpr (by omega))) h_14)
  refine X_iload (pc' := 21) dX4_fractionPart_19 rfl rfl ?_
  refine X_if_eq (pc' := 24) (tgt := 28) dX4_fractionPart_21 rfl (by decide) (fun h_21 => ?_) (fun h_21 => ?_)
  · refine X_lload_n (i := 2) (pc' := 29) dX4_fractionPart_28 rfl rfl rfl ?_
    refine X_lload (pc' := 31) dX4_fractionPart_29 rfl rfl ?_
    refine X_ldiv (pc' := 32) dX4_fractionPart_31 rfl (fun q => absurd ((pk_lEQ (a := Nat.gcd a.natAbs b) (b := 0) (by omega) (by decide)).mp q) (Nat.ne_of_gt hg0)) ?_
    refine X_l2i (pc' := 33) dX4_fractionPart_32 rfl ?_
    refine X_ri dX4_fractionPart_33 rfl ⟨rfl, rfl⟩ ?_
    unfold fracF
    first
      | (rw [if_neg (zI_0.mp h_21)]
         exact ⟨rfl, by rw [pk_lDiv (by omega) hg0 (by omega), lN_i]⟩)
      | (rw [if_pos (zI_1 h_21)]
         exact ⟨rfl, by rw [← lI_nat, lI_tdiv (by omega) (by omega) (by omega) (by omega), lI_to32]⟩)
  · refine X_lload_n (i := 0) (pc' := 25) dX4_fractionPart_24 rfl rfl rfl ?_
    refine X_goto (pc' := 0) (tgt := 29) dX4_fractionPart_25 (by decide) ?_
    refine X_lload (pc' := 31) dX4_fractionPart_29 rfl rfl ?_
    refine X_ldiv (pc' := 32) dX4_fractionPart_31 rfl (fun q => absurd ((pk_lEQ (a := Nat.gcd a.natAbs b) (b := 0) (by omega) (by decide)).mp q) (Nat.ne_of_gt hg0)) ?_
    refine X_l2i (pc' := 33) dX4_fractionPart_32 rfl ?_
    refine X_ri dX4_fractionPart_33 rfl ⟨rfl, rfl⟩ ?_
    unfold fracF
    first
      | (rw [if_neg (zI_0.mp h_21)]
         exact ⟨rfl, by rw [pk_lDiv (by omega) hg0 (by omega), lN_i]⟩)
      | (rw [if_pos (zI_1 h_21)]
         exact ⟨rfl, by rw [← lI_nat, lI_tdiv (by omega) (by omega) (by omega) (by omega), lI_to32]⟩)
end C4
