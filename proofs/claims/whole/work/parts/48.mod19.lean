/-! ===== the model: figures of the text, who is left ===== -/
def TX (τ : xT) (T : Nat → Nat) (L : Nat) : Prop := τ.1 1 13 = nI L ∧ (∀ j, j < L → τ.1 8 j = nI (T j)) ∧ L ≤ 48 ∧ ∀ j, j < L → T j < 256
theorem TX.s1 {τ : xT} {T : Nat → Nat} {L k : Nat} (h : TX τ T L) (v : Int32) (hk : k ≠ 13) : TX (xsi τ 1 k v) T L := ⟨by rw [xsi_un _ _ (fun q => hk q.symm)]; exact h.1, fun j hj => by rw [xsi_ne _ _ _ (by decide)]; exact h.2.1 j hj, h.2.2⟩
theorem TX.sc {τ : xT} {T : Nat → Nat} {L c : Nat} (h : TX τ T L) (k : Nat) (v : Int32) (h1 : 1 ≠ c) (h8 : 8 ≠ c) : TX (xsi τ c k v) T L := ⟨by rw [xsi_ne _ _ _ h1]; exact h.1, fun j hj => by rw [xsi_ne _ _ _ h8]; exact h.2.1 j hj, h.2.2⟩
theorem fig_some {c f : Nat} (h : fig c = some f) : c = f + 48 ∧ f ≤ 9 := by
  unfold fig at h
  split at h
  · cases h; omega
  · cases h
theorem fig_in {c : Nat} (h1 : 48 ≤ c) (h2 : c ≤ 57) : fig c = some (c - 48) := if_pos ⟨h1, h2⟩
/-- whom i doesn't explain yet -/
def lefN (P : PT) (i : Nat) : Nat → Nat | 0 => 0 | j + 1 => lefN P i j ||| (if j ≠ i ∧ ¬ bt (px P j) i then 2 ^ j else 0)
def firN (P : PT) : Nat → Nat | 0 => 0 | i + 1 => firN P i ||| (if lefN P i (pn P) ≠ 0 then 2 ^ i else 0)
theorem or_if {x j : Nat} {c : Prop} [Decidable c] (hx : x < 64) (hj : j < 6) : x ||| (if c then 2 ^ j else 0) < 64 ∧ ∀ l, l < 6 → (bt (x ||| (if c then 2 ^ j else 0)) l ↔ bt x l ∨ (c ∧ l = j)) := by
  have h2 : 2 ^ j < 2 ^ 6 := pow_lt hj
  by_cases h : c
  · rw [if_pos h]
    exact ⟨Nat.or_lt_two_pow (n := 6) hx h2, fun l hl => by rw [bt_or _ hx _ h2 l hl, bt_two j hj l hl]; exact ⟨fun q => q.elim Or.inl (fun q => Or.inr ⟨h, q⟩), fun q => q.elim Or.inl (fun q => Or.inr q.2)⟩⟩
  · rw [if_neg h, Nat.or_zero]
    exact ⟨hx, fun l hl => ⟨Or.inl, fun q => q.elim id (fun q => absurd q.1 h)⟩⟩
theorem lefN_bt (P : PT) (i : Nat) : ∀ n, n ≤ 6 → lefN P i n < 64 ∧ ∀ l, l < 6 → (bt (lefN P i n) l ↔ l < n ∧ l ≠ i ∧ ¬ bt (px P l) i) := by
  intro n
  induction n with
  | zero => intro _; exact ⟨by show 0 < 64; decide, fun l hl => ⟨fun q => absurd q (by show ¬ (0 / 2 ^ l % 2 = 1); rw [Nat.zero_div]; decide), fun q => absurd q.1 (Nat.not_lt_zero _)⟩⟩
  | succ n ih =>
    intro hn
    obtain ⟨h1, h2⟩ := ih (by omega)
    obtain ⟨k1, k2⟩ := or_if (c := n ≠ i ∧ ¬ bt (px P n) i) h1 (show n < 6 by omega)
    refine ⟨k1, fun l hl => (k2 l hl).trans ?_⟩
    rw [h2 l hl]
    constructor
    · rintro (q | ⟨q, rfl⟩)
      · exact ⟨by omega, q.2⟩
      · exact ⟨by omega, q⟩
    · intro q
      by_cases e : l = n
      · subst e; exact Or.inr ⟨q.2, rfl⟩
      · exact Or.inl ⟨by omega, q.2⟩
theorem firN_bt (P : PT) : ∀ n, n ≤ 6 → firN P n < 64 ∧ ∀ l, l < 6 → (bt (firN P n) l ↔ l < n ∧ lefN P l (pn P) ≠ 0) := by
  intro n
  induction n with
  | zero => intro _; exact ⟨by show 0 < 64; decide, fun l hl => ⟨fun q => absurd q (by show ¬ (0 / 2 ^ l % 2 = 1); rw [Nat.zero_div]; decide), fun q => absurd q.1 (Nat.not_lt_zero _)⟩⟩
  | succ n ih =>
    intro hn
    obtain ⟨h1, h2⟩ := ih (by omega)
    obtain ⟨k1, k2⟩ := or_if (c := lefN P n (pn P) ≠ 0) h1 (show n < 6 by omega)
    refine ⟨k1, fun l hl => (k2 l hl).trans ?_⟩
    rw [h2 l hl]
    constructor
    · rintro (q | ⟨q, rfl⟩)
      · exact ⟨by omega, q.2⟩
      · exact ⟨by omega, q⟩
    · intro q
      by_cases e : l = n
      · subst e; exact Or.inr ⟨q.2, rfl⟩
      · exact Or.inl ⟨by omega, q.2⟩
theorem ne_bt : ∀ x, x < 64 → (x ≠ 0 ↔ ¬ ∀ l, l < 6 → ¬ bt x l) := by decide +kernel
/-- no letter explains itself, and none beyond the last -/
def EXok (P : PT) : Prop := ∀ j i, j < 6 → i < 6 → bt (px P j) i → i < pn P ∧ i ≠ j ∧ j < pn P
def frN (P : PT) (i : Nat) : Nat → Nat | 0 => 0 | j + 1 => frN P i j + (if j ≠ i ∧ ¬ bt (px P j) i then 1 else 0)
theorem frN_0 (P : PT) (i : Nat) : ∀ n, frN P i n = 0 ↔ lefN P i n = 0 := by
  intro n
  induction n with
  | zero => exact ⟨fun _ => rfl, fun _ => rfl⟩
  | succ n ih =>
    unfold frN lefN
    by_cases h : n ≠ i ∧ ¬ bt (px P n) i
    · rw [if_pos h, if_pos h]
      have h1 : 2 ^ n ≤ lefN P i n ||| 2 ^ n := Nat.right_le_or
      have h2 : 0 < 2 ^ n := Nat.two_pow_pos n
      constructor <;> intro q <;> omega
    · rw [if_neg h, if_neg h, Nat.or_zero, Nat.add_zero]
      exact ih
theorem frN_exp {P : PT} {i : Nat} (h : ¬ bt (px P i) i) : ∀ n, expN P i n + frN P i n + (if i < n then 1 else 0) = n := by
  intro n
  induction n with
  | zero => rw [if_neg (Nat.not_lt_zero i)]; rfl
  | succ n ih =>
    unfold expN frN
    by_cases e : n = i
    · subst e
      rw [if_neg (Nat.lt_irrefl _)] at ih
      rw [if_neg h, if_neg (fun q => q.1 rfl), if_pos (by omega)]
      omega
    · by_cases hb : bt (px P n) i
      · rw [if_pos hb, if_neg (fun q => q.2 hb)]
        by_cases hi : i < n
        · rw [if_pos hi] at ih; rw [if_pos (by omega)]; omega
        · rw [if_neg hi] at ih; rw [if_neg (by omega)]; omega
      · rw [if_neg hb, if_pos ⟨e, hb⟩]
        by_cases hi : i < n
        · rw [if_pos hi] at ih; rw [if_pos (by omega)]; omega
        · rw [if_neg hi] at ih; rw [if_neg (by omega)]; omega
theorem isOp_lef {P : PT} {i : Nat} (hn : pn P ≤ 6) (h : EXok P) (hi : i < pn P) : isOp P i ↔ lefN P i (pn P) ≠ 0 := by
  have hb : ¬ bt (px P i) i := fun q => (h i i (by omega) (by omega) q).2.1 rfl
  have h1 := frN_exp hb (pn P)
  rw [if_pos hi] at h1
  have h2 := frN_0 P i (pn P)
  constructor
  · intro q e
    have := q.2
    have := h2.mpr e
    omega
  · intro q
    refine ⟨hi, ?_⟩
    have : frN P i (pn P) ≠ 0 := fun e => q (h2.mp e)
    omega
theorem hasOp_fir {P : PT} (hn : pn P ≤ 6) (h : EXok P) : hasOp P ↔ firN P (pn P) ≠ 0 := by
  obtain ⟨h1, h2⟩ := firN_bt P (pn P) hn
  rw [ne_bt _ h1]
  constructor
  · intro q r
    refine q (fun l hl ho => r l (by omega) ((h2 l (by omega)).mpr ⟨hl, (isOp_lef hn h hl).mp ho⟩))
  · intro q r
    refine q (fun l hl hb => ?_)
    have := (h2 l hl).mp hb
    exact r l this.1 ((isOp_lef hn h this.1).mpr this.2)
/-- a figure that may explain, a figure that may be explained -/
theorem fir_bt {P : PT} (hn : pn P ≤ 6) (h : EXok P) {f : Nat} (hf : f ≤ 9) : bt (firN P (pn P)) f ↔ isOp P f := by
  obtain ⟨h1, h2⟩ := firN_bt P (pn P) hn
  by_cases h6 : f < 6
  · rw [h2 f h6]
    constructor
    · intro q; exact (isOp_lef hn h q.1).mpr q.2
    · intro q; exact ⟨q.1, (isOp_lef hn h q.1).mp q⟩
  · constructor
    · intro q; exact absurd (bt_lt6 h1 q) h6
    · intro q; exact absurd q.1 (by omega)
theorem lef_bt {P : PT} (hn : pn P ≤ 6) (i : Nat) {f : Nat} : bt (lefN P i (pn P)) f ↔ f < pn P ∧ f ≠ i ∧ ¬ bt (px P f) i := by
  obtain ⟨h1, h2⟩ := lefN_bt P i (pn P) hn
  by_cases h6 : f < 6
  · exact h2 f h6
  · constructor
    · intro q; exact absurd (bt_lt6 h1 q) h6
    · intro q; exact absurd q.1 (by omega)
section MF
variable (cx : xC)
set_option maxHeartbeats 4000000
set_option maxRecDepth 100000
theorem d_figC (τ : xT) {lo hi j : Nat} (hlo : lo ≤ 9) (hhi : hi ≤ 9) (hj : j < 1000) (hfa : τ.1 1 15 = nI j) : CI cx m_X5_figure [.ref 1, .int (nI lo), .int (nI hi)] PM τ (fun x τ' => x = nI lo ∧ τ' = xsi τ 1 15 (nI j)) := by
  have e0 : (-9 : Int32).toInt64.toInt = -9 := by decide
  refine Ct_of (by decide) (Nat.le_of_ble_eq_true rfl) (lv := [(0, _), (1, _), (2, _)]) rfl ?_
  refine X_aload_n (i := 0) (pc' := 1) dX5_figure_0 rfl rfl rfl ?_
  refine X_get (pc' := 4) (v := .int _) dX5_figure_1 rfl (gf_X5_57 _ rfl) o_M_1 rfl rfl ?_
  refine X_eqi (nI j) (hfa) ?_
  refine X_bipush (pc' := 6) (v := (-9)) dX5_figure_4 rfl (by decide) ?_
  refine X_icmp_ne (pc' := 9) (tgt := 35) dX5_figure_6 rfl (by decide) (fun h_6 => ?_) (fun h_6 => absurd h_6 (nI_ne9 (by omega)))
  refine X_bipush (pc' := 37) (v := (-9)) dX5_figure_35 rfl (by decide) ?_
  refine X_istore_n (i := 3) (pc' := 38) (lv' := [(3, _), (0, _), (1, _), (2, _)]) dX5_figure_37 rfl rfl (Nat.le_of_ble_eq_true rfl) rfl ?_
  refine X_iload_n (i := 3) (pc' := 39) dX5_figure_38 rfl rfl rfl ?_
  refine X_i2l (pc' := 40) dX5_figure_39 rfl ?_
  refine X_iload_n (i := 1) (pc' := 41) dX5_figure_40 rfl rfl rfl ?_
  refine X_i2l (pc' := 42) dX5_figure_41 rfl ?_
  refine X_iload_n (i := 2) (pc' := 43) dX5_figure_42 rfl rfl rfl ?_
  refine X_i2l (pc' := 44) dX5_figure_43 rfl ?_
  refine X_SIp (As := [_, _, _]) (rest := []) (pc' := 47) dX5_figure_44 rfl k_X5_in l_X5_50 s_X5_in ⟨by decide, by decide⟩ rfl rfl (Nat.le_of_ble_eq_true rfl) (d_in cx τ _ _ _) ?_
  refine X_if_ne (pc' := 50) (tgt := 76) dX5_figure_47 rfl (by decide) (fun h_47 => absurd h_47 (fun q => q (zI_0.mpr (fun r => by have := r.1; rw [e0, Int32.toInt_toInt64, nI_toInt (by omega)] at this; omega)))) (fun h_47 => ?_)
  refine X_aload_n (i := 0) (pc' := 51) dX5_figure_50 rfl rfl rfl ?_
  refine X_aload_n (i := 0) (pc' := 52) dX5_figure_51 rfl rfl rfl ?_
  refine X_get (pc' := 55) (v := .int _) dX5_figure_52 rfl (gf_X5_57 _ rfl) o_M_1 rfl rfl ?_
  refine X_eqi (nI j) (hfa) ?_
  refine X_bipush (pc' := 57) (v := (-9)) dX5_figure_55 rfl (by decide) ?_
  refine X_icmp_ne (pc' := 60) (tgt := 67) dX5_figure_57 rfl (by decide) (fun h_57 => ?_) (fun h_57 => absurd h_57 (nI_ne9 (by omega)))
  refine X_aload_n (i := 0) (pc' := 68) dX5_figure_67 rfl rfl rfl ?_
  refine X_get (pc' := 71) (v := .int _) dX5_figure_68 rfl (gf_X5_57 _ rfl) o_M_1 rfl rfl ?_
  refine X_eqi (nI j) (hfa) ?_
  refine X_putI (pc' := 74) dX5_figure_71 rfl (pf_X5_57 _ rfl) o_M_1 rfl ?_
  refine X_iload_n (i := 1) (pc' := 75) dX5_figure_74 rfl rfl rfl ?_
  refine X_ri dX5_figure_75 rfl ⟨rfl, rfl⟩ ?_
  exact ⟨rfl, rfl⟩
theorem d_figB (τ : xT) {T : Nat → Nat} {L lo hi i : Nat} (hX : TX τ T L) (hlo : lo ≤ 9) (hhi : hi ≤ 9) (hi' : i ≤ L) (hfa : τ.1 1 15 = -9) (hat : τ.1 1 14 = nI i) (hbad : ∀ f, i < L → fig (T i) = some f → f < lo ∨ hi < f) : CI cx m_X5_figure [.ref 1, .int (nI lo), .int (nI hi)] PM τ (fun x τ' => x = nI lo ∧ τ' = xsi τ 1 15 (nI i)) := by
  have hL := hX.2.2.1
  have e0 : (-9 : Int32).toInt64.toInt = -9 := by decide
  refine Ct_of (by decide) (Nat.le_of_ble_eq_true rfl) (lv := [(0, _), (1, _), (2, _)]) rfl ?_
  by_cases hiL : i < L
  · have hT := hX.2.2.2 i hiL
    have ev := pk_sub_toInt (a := T i) (b := 48) (by omega) (by decide)
    refine X_aload_n (i := 0) (pc' := 1) dX5_figure_0 rfl rfl rfl ?_
    refine X_get (pc' := 4) (v := .int _) dX5_figure_1 rfl (gf_X5_57 _ rfl) o_M_1 rfl rfl ?_
    refine X_eqi (-9) (hfa) ?_
    refine X_bipush (pc' := 6) (v := (-9)) dX5_figure_4 rfl (by decide) ?_
    refine X_icmp_ne (pc' := 9) (tgt := 35) dX5_figure_6 rfl (by decide) (fun h_6 => absurd h_6 (fun q => q rfl)) (fun h_6 => ?_)
    refine X_aload_n (i := 0) (pc' := 10) dX5_figure_9 rfl rfl rfl ?_
    refine X_get (pc' := 13) (v := .int _) dX5_figure_10 rfl (gf_X5_60 _ rfl) o_M_1 rfl rfl ?_
    refine X_eqi (nI i) (hat) ?_
    refine X_aload_n (i := 0) (pc' := 14) dX5_figure_13 rfl rfl rfl ?_
    refine X_get (pc' := 17) (v := .int _) dX5_figure_14 rfl (gf_X5_54 _ rfl) o_M_1 rfl rfl ?_
    refine X_eqi (nI L) (hX.1) ?_
    refine X_icmp_ge (pc' := 20) (tgt := 35) dX5_figure_17 rfl (by decide) (fun h_17 => absurd h_17 (nI_ge hiL (by omega))) (fun h_17 => ?_)
    refine X_aload_n (i := 0) (pc' := 21) dX5_figure_20 rfl rfl rfl ?_
    refine X_get (pc' := 24) (v := .ref 8) dX5_figure_21 rfl (gf_X5_28 _ rfl) o_M_1 rfl rfl ?_
    refine X_aload_n (i := 0) (pc' := 25) dX5_figure_24 rfl rfl rfl ?_
    refine X_get (pc' := 28) (v := .int _) dX5_figure_25 rfl (gf_X5_60 _ rfl) o_M_1 rfl rfl ?_
    refine X_eqi (nI i) (hat) ?_
    refine X_iald (pc' := 29) (j := i) dX5_figure_28 rfl (Or.inl r_M_8) (rfl) (by omega) ?_
    refine X_eqi (nI (T i)) (hX.2.1 i hiL) ?_
    refine X_bipush (pc' := 31) (v := nI 48) dX5_figure_29 rfl (by decide) ?_
    refine X_isub (pc' := 32) dX5_figure_31 rfl ?_
    refine X_goto (pc' := 0) (tgt := 37) dX5_figure_32 (by decide) ?_
    refine X_istore_n (i := 3) (pc' := 38) (lv' := [(3, _), (0, _), (1, _), (2, _)]) dX5_figure_37 rfl rfl (Nat.le_of_ble_eq_true rfl) rfl ?_
    refine X_iload_n (i := 3) (pc' := 39) dX5_figure_38 rfl rfl rfl ?_
    refine X_i2l (pc' := 40) dX5_figure_39 rfl ?_
    refine X_iload_n (i := 1) (pc' := 41) dX5_figure_40 rfl rfl rfl ?_
    refine X_i2l (pc' := 42) dX5_figure_41 rfl ?_
    refine X_iload_n (i := 2) (pc' := 43) dX5_figure_42 rfl rfl rfl ?_
    refine X_i2l (pc' := 44) dX5_figure_43 rfl ?_
    refine X_SIp (As := [_, _, _]) (rest := []) (pc' := 47) dX5_figure_44 rfl k_X5_in l_X5_50 s_X5_in ⟨by decide, by decide⟩ rfl rfl (Nat.le_of_ble_eq_true rfl) (d_in cx τ _ _ _) ?_
    refine X_if_ne (pc' := 50) (tgt := 76) dX5_figure_47 rfl (by decide) (fun h_47 => absurd h_47 (fun q => q (zI_0.mpr (fun r => by (rw [Int32.toInt_toInt64, Int32.toInt_toInt64, Int32.toInt_toInt64, nI_toInt (show lo < 2 ^ 31 by omega), nI_toInt (show hi < 2 ^ 31 by omega), ev] at r; have := hbad (T i - 48) hiL (fig_in (by omega) (by omega)); omega))))) (fun h_47 => ?_)
    refine X_aload_n (i := 0) (pc' := 51) dX5_figure_50 rfl rfl rfl ?_
    refine X_aload_n (i := 0) (pc' := 52) dX5_figure_51 rfl rfl rfl ?_
    refine X_get (pc' := 55) (v := .int _) dX5_figure_52 rfl (gf_X5_57 _ rfl) o_M_1 rfl rfl ?_
    refine X_eqi (-9) (hfa) ?_
    refine X_bipush (pc' := 57) (v := (-9)) dX5_figure_55 rfl (by decide) ?_
    refine X_icmp_ne (pc' := 60) (tgt := 67) dX5_figure_57 rfl (by decide) (fun h_57 => absurd h_57 (fun q => q rfl)) (fun h_57 => ?_)
    refine X_aload_n (i := 0) (pc' := 61) dX5_figure_60 rfl rfl rfl ?_
    refine X_get (pc' := 64) (v := .int _) dX5_figure_61 rfl (gf_X5_60 _ rfl) o_M_1 rfl rfl ?_
    refine X_eqi (nI i) (hat) ?_
    refine X_goto (pc' := 0) (tgt := 71) dX5_figure_64 (by decide) ?_
    refine X_putI (pc' := 74) dX5_figure_71 rfl (pf_X5_57 _ rfl) o_M_1 rfl ?_
    refine X_iload_n (i := 1) (pc' := 75) dX5_figure_74 rfl rfl rfl ?_
    refine X_ri dX5_figure_75 rfl ⟨rfl, rfl⟩ ?_
    exact ⟨rfl, rfl⟩
  · have hiL2 : i = L := by omega
    subst hiL2
    refine X_aload_n (i := 0) (pc' := 1) dX5_figure_0 rfl rfl rfl ?_
    refine X_get (pc' := 4) (v := .int _) dX5_figure_1 rfl (gf_X5_57 _ rfl) o_M_1 rfl rfl ?_
    refine X_eqi (-9) (hfa) ?_
    refine X_bipush (pc' := 6) (v := (-9)) dX5_figure_4 rfl (by decide) ?_
    refine X_icmp_ne (pc' := 9) (tgt := 35) dX5_figure_6 rfl (by decide) (fun h_6 => absurd h_6 (fun q => q rfl)) (fun h_6 => ?_)
    refine X_aload_n (i := 0) (pc' := 10) dX5_figure_9 rfl rfl rfl ?_
    refine X_get (pc' := 13) (v := .int _) dX5_figure_10 rfl (gf_X5_60 _ rfl) o_M_1 rfl rfl ?_
    refine X_eqi (nI i) (hat) ?_
    refine X_aload_n (i := 0) (pc' := 14) dX5_figure_13 rfl rfl rfl ?_
    refine X_get (pc' := 17) (v := .int _) dX5_figure_14 rfl (gf_X5_54 _ rfl) o_M_1 rfl rfl ?_
    refine X_eqi (nI i) (hX.1) ?_
    refine X_icmp_ge (pc' := 20) (tgt := 35) dX5_figure_17 rfl (by decide) (fun h_17 => ?_) (fun h_17 => absurd (nI_le (Nat.le_refl _) (by omega)) h_17)
    refine X_bipush (pc' := 37) (v := (-9)) dX5_figure_35 rfl (by decide) ?_
    refine X_istore_n (i := 3) (pc' := 38) (lv' := [(3, _), (0, _), (1, _), (2, _)]) dX5_figure_37 rfl rfl (Nat.le_of_ble_eq_true rfl) rfl ?_
    refine X_iload_n (i := 3) (pc' := 39) dX5_figure_38 rfl rfl rfl ?_
    refine X_i2l (pc' := 40) dX5_figure_39 rfl ?_
    refine X_iload_n (i := 1) (pc' := 41) dX5_figure_40 rfl rfl rfl ?_
    refine X_i2l (pc' := 42) dX5_figure_41 rfl ?_
    refine X_iload_n (i := 2) (pc' := 43) dX5_figure_42 rfl rfl rfl ?_
    refine X_i2l (pc' := 44) dX5_figure_43 rfl ?_
    refine X_SIp (As := [_, _, _]) (rest := []) (pc' := 47) dX5_figure_44 rfl k_X5_in l_X5_50 s_X5_in ⟨by decide, by decide⟩ rfl rfl (Nat.le_of_ble_eq_true rfl) (d_in cx τ _ _ _) ?_
    refine X_if_ne (pc' := 50) (tgt := 76) dX5_figure_47 rfl (by decide) (fun h_47 => absurd h_47 (fun q => q (zI_0.mpr (fun r => by have := r.1; rw [e0, Int32.toInt_toInt64, nI_toInt (by omega)] at this; omega)))) (fun h_47 => ?_)
    refine X_aload_n (i := 0) (pc' := 51) dX5_figure_50 rfl rfl rfl ?_
    refine X_aload_n (i := 0) (pc' := 52) dX5_figure_51 rfl rfl rfl ?_
    refine X_get (pc' := 55) (v := .int _) dX5_figure_52 rfl (gf_X5_57 _ rfl) o_M_1 rfl rfl ?_
    refine X_eqi (-9) (hfa) ?_
    refine X_bipush (pc' := 57) (v := (-9)) dX5_figure_55 rfl (by decide) ?_
    refine X_icmp_ne (pc' := 60) (tgt := 67) dX5_figure_57 rfl (by decide) (fun h_57 => absurd h_57 (fun q => q rfl)) (fun h_57 => ?_)
    refine X_aload_n (i := 0) (pc' := 61) dX5_figure_60 rfl rfl rfl ?_
    refine X_get (pc' := 64) (v := .int _) dX5_figure_61 rfl (gf_X5_60 _ rfl) o_M_1 rfl rfl ?_
    refine X_eqi (nI i) (hat) ?_
    refine X_goto (pc' := 0) (tgt := 71) dX5_figure_64 (by decide) ?_
    refine X_putI (pc' := 74) dX5_figure_71 rfl (pf_X5_57 _ rfl) o_M_1 rfl ?_
    refine X_iload_n (i := 1) (pc' := 75) dX5_figure_74 rfl rfl rfl ?_
    refine X_ri dX5_figure_75 rfl ⟨rfl, rfl⟩ ?_
    exact ⟨rfl, rfl⟩
theorem d_figA (τ : xT) {T : Nat → Nat} {L lo hi i f : Nat} (hX : TX τ T L) (hlo : lo ≤ 9) (hhi : hi ≤ 9) (hi' : i < L) (hfa : τ.1 1 15 = -9) (hat : τ.1 1 14 = nI i) (hf : fig (T i) = some f) (h1 : lo ≤ f) (h2 : f ≤ hi) : CI cx m_X5_figure [.ref 1, .int (nI lo), .int (nI hi)] PM τ (fun x τ' => x = nI f ∧ τ' = xsi τ 1 14 (nI (i + 1))) := by
  have hL := hX.2.2.1
  have hf2 := fig_some hf
  refine Ct_of (by decide) (Nat.le_of_ble_eq_true rfl) (lv := [(0, _), (1, _), (2, _)]) rfl ?_
  refine X_aload_n (i := 0) (pc' := 1) dX5_figure_0 rfl rfl rfl ?_
  refine X_get (pc' := 4) (v := .int _) dX5_figure_1 rfl (gf_X5_57 _ rfl) o_M_1 rfl rfl ?_
  refine X_eqi (-9) (hfa) ?_
  refine X_bipush (pc' := 6) (v := (-9)) dX5_figure_4 rfl (by decide) ?_
  refine X_icmp_ne (pc' := 9) (tgt := 35) dX5_figure_6 rfl (by decide) (fun h_6 => absurd h_6 (fun q => q rfl)) (fun h_6 => ?_)
  refine X_aload_n (i := 0) (pc' := 10) dX5_figure_9 rfl rfl rfl ?_
  refine X_get (pc' := 13) (v := .int _) dX5_figure_10 rfl (gf_X5_60 _ rfl) o_M_1 rfl rfl ?_
  refine X_eqi (nI i) (hat) ?_
  refine X_aload_n (i := 0) (pc' := 14) dX5_figure_13 rfl rfl rfl ?_
  refine X_get (pc' := 17) (v := .int _) dX5_figure_14 rfl (gf_X5_54 _ rfl) o_M_1 rfl rfl ?_
  refine X_eqi (nI L) (hX.1) ?_
  refine X_icmp_ge (pc' := 20) (tgt := 35) dX5_figure_17 rfl (by decide) (fun h_17 => absurd h_17 (nI_ge hi' (by omega))) (fun h_17 => ?_)
  refine X_aload_n (i := 0) (pc' := 21) dX5_figure_20 rfl rfl rfl ?_
  refine X_get (pc' := 24) (v := .ref 8) dX5_figure_21 rfl (gf_X5_28 _ rfl) o_M_1 rfl rfl ?_
  refine X_aload_n (i := 0) (pc' := 25) dX5_figure_24 rfl rfl rfl ?_
  refine X_get (pc' := 28) (v := .int _) dX5_figure_25 rfl (gf_X5_60 _ rfl) o_M_1 rfl rfl ?_
  refine X_eqi (nI i) (hat) ?_
  refine X_iald (pc' := 29) (j := i) dX5_figure_28 rfl (Or.inl r_M_8) (rfl) (by omega) ?_
  refine X_eqi (nI (T i)) (hX.2.1 i hi') ?_
  refine X_bipush (pc' := 31) (v := nI 48) dX5_figure_29 rfl (by decide) ?_
  refine X_isub (pc' := 32) dX5_figure_31 rfl ?_
  refine X_eqi (nI f) (by rw [pk_sub (by omega), hf2.1, Nat.add_sub_cancel]) ?_
  refine X_goto (pc' := 0) (tgt := 37) dX5_figure_32 (by decide) ?_
  refine X_istore_n (i := 3) (pc' := 38) (lv' := [(3, _), (0, _), (1, _), (2, _)]) dX5_figure_37 rfl rfl (Nat.le_of_ble_eq_true rfl) rfl ?_
  refine X_iload_n (i := 3) (pc' := 39) dX5_figure_38 rfl rfl rfl ?_
  refine X_i2l (pc' := 40) dX5_figure_39 rfl ?_
  refine X_iload_n (i := 1) (pc' := 41) dX5_figure_40 rfl rfl rfl ?_
  refine X_i2l (pc' := 42) dX5_figure_41 rfl ?_
  refine X_iload_n (i := 2) (pc' := 43) dX5_figure_42 rfl rfl rfl ?_
  refine X_i2l (pc' := 44) dX5_figure_43 rfl ?_
  refine X_SIp (As := [_, _, _]) (rest := []) (pc' := 47) dX5_figure_44 rfl k_X5_in l_X5_50 s_X5_in ⟨by decide, by decide⟩ rfl rfl (Nat.le_of_ble_eq_true rfl) (d_in cx τ _ _ _) ?_
  refine X_if_ne (pc' := 50) (tgt := 76) dX5_figure_47 rfl (by decide) (fun h_47 => ?_) (fun h_47 => absurd h_47 (fun q => (zI_0.mp q) (by (rw [Int32.toInt_toInt64, Int32.toInt_toInt64, Int32.toInt_toInt64, nI_toInt (show lo < 2 ^ 31 by omega), nI_toInt (show hi < 2 ^ 31 by omega), nI_toInt (show f < 2 ^ 31 by omega)]; omega))))
  refine X_aload_n (i := 0) (pc' := 77) dX5_figure_76 rfl rfl rfl ?_
  refine X_dup (pc' := 78) dX5_figure_77 rfl rfl ?_
  refine X_get (pc' := 81) (v := .int _) dX5_figure_78 rfl (gf_X5_60 _ rfl) o_M_1 rfl rfl ?_
  refine X_eqi (nI i) (hat) ?_
  refine X_iconst (pc' := 82) (v := nI 1) dX5_figure_81 rfl (by decide) ?_
  refine X_iadd (pc' := 83) dX5_figure_82 rfl ?_
  refine X_eqi (nI (i + 1)) (nI_add _ _) ?_
  refine X_putI (pc' := 86) dX5_figure_83 rfl (pf_X5_60 _ rfl) o_M_1 rfl ?_
  refine X_iload_n (i := 3) (pc' := 87) dX5_figure_86 rfl rfl rfl ?_
  refine X_ri dX5_figure_87 rfl ⟨rfl, rfl⟩ ?_
  exact ⟨rfl, rfl⟩
theorem d_fgoC (τ : xT) {s j : Nat} (hs : s < 64) (hj : j < 1000) (hfa : τ.1 1 15 = nI j) : CI cx m_X5_figureOf [.ref 1, .int (nI s)] PM τ (fun x τ' => x = nI 0 ∧ τ' = xsi τ 1 15 (nI j)) := by
  have e0 : (-9 : Int32).toInt64.toInt = -9 := by decide
  refine Ct_of (by decide) (Nat.le_of_ble_eq_true rfl) (lv := [(0, _), (1, _)]) rfl ?_
  refine X_aload_n (i := 0) (pc' := 1) dX5_figureOf_0 rfl rfl rfl ?_
  refine X_get (pc' := 4) (v := .int _) dX5_figureOf_1 rfl (gf_X5_57 _ rfl) o_M_1 rfl rfl ?_
  refine X_eqi (nI j) (hfa) ?_
  refine X_bipush (pc' := 6) (v := (-9)) dX5_figureOf_4 rfl (by decide) ?_
  refine X_icmp_ne (pc' := 9) (tgt := 35) dX5_figureOf_6 rfl (by decide) (fun h_6 => ?_) (fun h_6 => absurd h_6 (nI_ne9 (by omega)))
  refine X_bipush (pc' := 37) (v := (-9)) dX5_figureOf_35 rfl (by decide) ?_
  refine X_istore_n (i := 2) (pc' := 38) (lv' := [(2, _), (0, _), (1, _)]) dX5_figureOf_37 rfl rfl (Nat.le_of_ble_eq_true rfl) rfl ?_
  refine X_iload_n (i := 2) (pc' := 39) dX5_figureOf_38 rfl rfl rfl ?_
  refine X_i2l (pc' := 40) dX5_figureOf_39 rfl ?_
  refine X_lconst (pc' := 41) (v := lN 0) dX5_figureOf_40 rfl rfl ?_
  refine X_ldc2 (pc' := 44) (v := lN 9) dX5_figureOf_41 rfl cn_X5_63 ?_
  refine X_SIp (As := [_, _, _]) (rest := []) (pc' := 47) dX5_figureOf_44 rfl k_X5_in l_X5_50 s_X5_in ⟨by decide, by decide⟩ rfl rfl (Nat.le_of_ble_eq_true rfl) (d_in cx τ _ _ _) ?_
  refine X_if_eq (pc' := 50) (tgt := 58) dX5_figureOf_47 rfl (by decide) (fun h_47 => ?_) (fun h_47 => absurd (zI_0.mpr (fun r => by have := r.1; rw [e0] at this; exact absurd this (by decide))) h_47)
  refine X_aload_n (i := 0) (pc' := 59) dX5_figureOf_58 rfl rfl rfl ?_
  refine X_aload_n (i := 0) (pc' := 60) dX5_figureOf_59 rfl rfl rfl ?_
  refine X_get (pc' := 63) (v := .int _) dX5_figureOf_60 rfl (gf_X5_57 _ rfl) o_M_1 rfl rfl ?_
  refine X_eqi (nI j) (hfa) ?_
  refine X_bipush (pc' := 65) (v := (-9)) dX5_figureOf_63 rfl (by decide) ?_
  refine X_icmp_ne (pc' := 68) (tgt := 75) dX5_figureOf_65 rfl (by decide) (fun h_65 => ?_) (fun h_65 => absurd h_65 (nI_ne9 (by omega)))
  refine X_aload_n (i := 0) (pc' := 76) dX5_figureOf_75 rfl rfl rfl ?_
  refine X_get (pc' := 79) (v := .int _) dX5_figureOf_76 rfl (gf_X5_57 _ rfl) o_M_1 rfl rfl ?_
  refine X_eqi (nI j) (hfa) ?_
  refine X_putI (pc' := 82) dX5_figureOf_79 rfl (pf_X5_57 _ rfl) o_M_1 rfl ?_
  refine X_iconst (pc' := 83) (v := nI 0) dX5_figureOf_82 rfl (by decide) ?_
  refine X_ri dX5_figureOf_83 rfl ⟨rfl, rfl⟩ ?_
  exact ⟨rfl, rfl⟩
theorem d_fgoB (τ : xT) {T : Nat → Nat} {L s i : Nat} (hX : TX τ T L) (hs : s < 64) (hi' : i ≤ L) (hfa : τ.1 1 15 = -9) (hat : τ.1 1 14 = nI i) (hbad : ∀ f, i < L → fig (T i) = some f → ¬ bt s f) : CI cx m_X5_figureOf [.ref 1, .int (nI s)] PM τ (fun x τ' => x = nI 0 ∧ τ' = xsi τ 1 15 (nI i)) := by
  have hL := hX.2.2.1
  have e0 : (-9 : Int32).toInt64.toInt = -9 := by decide
  have f0 : (lN 0).toInt = 0 := rfl
  have f9 : (lN 9).toInt = 9 := rfl
  refine Ct_of (by decide) (Nat.le_of_ble_eq_true rfl) (lv := [(0, _), (1, _)]) rfl ?_
  by_cases hiL : i < L
  · have hT := hX.2.2.2 i hiL
    have ev := pk_sub_toInt (a := T i) (b := 48) (by omega) (by decide)
    rcases hfg : fig (T i) with _ | f
    · have hno : ¬ (48 ≤ T i ∧ T i ≤ 57) := fun q => by rw [fig_in q.1 q.2] at hfg; cases hfg
      refine X_aload_n (i := 0) (pc' := 1) dX5_figureOf_0 rfl rfl rfl ?_
      refine X_get (pc' := 4) (v := .int _) dX5_figureOf_1 rfl (gf_X5_57 _ rfl) o_M_1 rfl rfl ?_
      refine X_eqi (-9) (hfa) ?_
      refine X_bipush (pc' := 6) (v := (-9)) dX5_figureOf_4 rfl (by decide) ?_
      refine X_icmp_ne (pc' := 9) (tgt := 35) dX5_figureOf_6 rfl (by decide) (fun h_6 => absurd h_6 (fun q => q rfl)) (fun h_6 => ?_)
      refine X_aload_n (i := 0) (pc' := 10) dX5_figureOf_9 rfl rfl rfl ?_
      refine X_get (pc' := 13) (v := .int _) dX5_figureOf_10 rfl (gf_X5_60 _ rfl) o_M_1 rfl rfl ?_
      refine X_eqi (nI i) (hat) ?_
      refine X_aload_n (i := 0) (pc' := 14) dX5_figureOf_13 rfl rfl rfl ?_
      refine X_get (pc' := 17) (v := .int _) dX5_figureOf_14 rfl (gf_X5_54 _ rfl) o_M_1 rfl rfl ?_
      refine X_eqi (nI L) (hX.1) ?_
      refine X_icmp_ge (pc' := 20) (tgt := 35) dX5_figureOf_17 rfl (by decide) (fun h_17 => absurd h_17 (nI_ge hiL (by omega))) (fun h_17 => ?_)
      refine X_aload_n (i := 0) (pc' := 21) dX5_figureOf_20 rfl rfl rfl ?_
      refine X_get (pc' := 24) (v := .ref 8) dX5_figureOf_21 rfl (gf_X5_28 _ rfl) o_M_1 rfl rfl ?_
      refine X_aload_n (i := 0) (pc' := 25) dX5_figureOf_24 rfl rfl rfl ?_
      refine X_get (pc' := 28) (v := .int _) dX5_figureOf_25 rfl (gf_X5_60 _ rfl) o_M_1 rfl rfl ?_
      refine X_eqi (nI i) (hat) ?_
      refine X_iald (pc' := 29) (j := i) dX5_figureOf_28 rfl (Or.inl r_M_8) (rfl) (by omega) ?_
      refine X_eqi (nI (T i)) (hX.2.1 i hiL) ?_
      refine X_bipush (pc' := 31) (v := nI 48) dX5_figureOf_29 rfl (by decide) ?_
      refine X_isub (pc' := 32) dX5_figureOf_31 rfl ?_
      refine X_goto (pc' := 0) (tgt := 37) dX5_figureOf_32 (by decide) ?_
      refine X_istore_n (i := 2) (pc' := 38) (lv' := [(2, _), (0, _), (1, _)]) dX5_figureOf_37 rfl rfl (Nat.le_of_ble_eq_true rfl) rfl ?_
      refine X_iload_n (i := 2) (pc' := 39) dX5_figureOf_38 rfl rfl rfl ?_
      refine X_i2l (pc' := 40) dX5_figureOf_39 rfl ?_
      refine X_lconst (pc' := 41) (v := lN 0) dX5_figureOf_40 rfl rfl ?_
      refine X_ldc2 (pc' := 44) (v := lN 9) dX5_figureOf_41 rfl cn_X5_63 ?_
      refine X_SIp (As := [_, _, _]) (rest := []) (pc' := 47) dX5_figureOf_44 rfl k_X5_in l_X5_50 s_X5_in ⟨by decide, by decide⟩ rfl rfl (Nat.le_of_ble_eq_true rfl) (d_in cx τ _ _ _) ?_
      refine X_if_eq (pc' := 50) (tgt := 58) dX5_figureOf_47 rfl (by decide) (fun h_47 => ?_) (fun h_47 => absurd (zI_0.mpr (fun r => by (rw [Int32.toInt_toInt64, ev, f0, f9] at r; omega))) h_47)
      refine X_aload_n (i := 0) (pc' := 59) dX5_figureOf_58 rfl rfl rfl ?_
      refine X_aload_n (i := 0) (pc' := 60) dX5_figureOf_59 rfl rfl rfl ?_
      refine X_get (pc' := 63) (v := .int _) dX5_figureOf_60 rfl (gf_X5_57 _ rfl) o_M_1 rfl rfl ?_
      refine X_eqi (-9) (hfa) ?_
      refine X_bipush (pc' := 65) (v := (-9)) dX5_figureOf_63 rfl (by decide) ?_
      refine X_icmp_ne (pc' := 68) (tgt := 75) dX5_figureOf_65 rfl (by decide) (fun h_65 => absurd h_65 (fun q => q rfl)) (fun h_65 => ?_)
      refine X_aload_n (i := 0) (pc' := 69) dX5_figureOf_68 rfl rfl rfl ?_
      refine X_get (pc' := 72) (v := .int _) dX5_figureOf_69 rfl (gf_X5_60 _ rfl) o_M_1 rfl rfl ?_
      refine X_eqi (nI i) (hat) ?_
      refine X_goto (pc' := 0) (tgt := 79) dX5_figureOf_72 (by decide) ?_
      refine X_putI (pc' := 82) dX5_figureOf_79 rfl (pf_X5_57 _ rfl) o_M_1 rfl ?_
      refine X_iconst (pc' := 83) (v := nI 0) dX5_figureOf_82 rfl (by decide) ?_
      refine X_ri dX5_figureOf_83 rfl ⟨rfl, rfl⟩ ?_
      exact ⟨rfl, rfl⟩
    · have hf2 := fig_some hfg
      have hnb := hbad f hiL hfg
      refine X_aload_n (i := 0) (pc' := 1) dX5_figureOf_0 rfl rfl rfl ?_
      refine X_get (pc' := 4) (v := .int _) dX5_figureOf_1 rfl (gf_X5_57 _ rfl) o_M_1 rfl rfl ?_
      refine X_eqi (-9) (hfa) ?_
      refine X_bipush (pc' := 6) (v := (-9)) dX5_figureOf_4 rfl (by decide) ?_
      refine X_icmp_ne (pc' := 9) (tgt := 35) dX5_figureOf_6 rfl (by decide) (fun h_6 => absurd h_6 (fun q => q rfl)) (fun h_6 => ?_)
      refine X_aload_n (i := 0) (pc' := 10) dX5_figureOf_9 rfl rfl rfl ?_
      refine X_get (pc' := 13) (v := .int _) dX5_figureOf_10 rfl (gf_X5_60 _ rfl) o_M_1 rfl rfl ?_
      refine X_eqi (nI i) (hat) ?_
      refine X_aload_n (i := 0) (pc' := 14) dX5_figureOf_13 rfl rfl rfl ?_
      refine X_get (pc' := 17) (v := .int _) dX5_figureOf_14 rfl (gf_X5_54 _ rfl) o_M_1 rfl rfl ?_
      refine X_eqi (nI L) (hX.1) ?_
      refine X_icmp_ge (pc' := 20) (tgt := 35) dX5_figureOf_17 rfl (by decide) (fun h_17 => absurd h_17 (nI_ge hiL (by omega))) (fun h_17 => ?_)
      refine X_aload_n (i := 0) (pc' := 21) dX5_figureOf_20 rfl rfl rfl ?_
      refine X_get (pc' := 24) (v := .ref 8) dX5_figureOf_21 rfl (gf_X5_28 _ rfl) o_M_1 rfl rfl ?_
      refine X_aload_n (i := 0) (pc' := 25) dX5_figureOf_24 rfl rfl rfl ?_
      refine X_get (pc' := 28) (v := .int _) dX5_figureOf_25 rfl (gf_X5_60 _ rfl) o_M_1 rfl rfl ?_
      refine X_eqi (nI i) (hat) ?_
      refine X_iald (pc' := 29) (j := i) dX5_figureOf_28 rfl (Or.inl r_M_8) (rfl) (by omega) ?_
      refine X_eqi (nI (T i)) (hX.2.1 i hiL) ?_
      refine X_bipush (pc' := 31) (v := nI 48) dX5_figureOf_29 rfl (by decide) ?_
      refine X_isub (pc' := 32) dX5_figureOf_31 rfl ?_
      refine X_eqi (nI f) (by rw [pk_sub (by omega), hf2.1, Nat.add_sub_cancel]) ?_
      refine X_goto (pc' := 0) (tgt := 37) dX5_figureOf_32 (by decide) ?_
      refine X_istore_n (i := 2) (pc' := 38) (lv' := [(2, _), (0, _), (1, _)]) dX5_figureOf_37 rfl rfl (Nat.le_of_ble_eq_true rfl) rfl ?_
      refine X_iload_n (i := 2) (pc' := 39) dX5_figureOf_38 rfl rfl rfl ?_
      refine X_i2l (pc' := 40) dX5_figureOf_39 rfl ?_
      refine X_lconst (pc' := 41) (v := lN 0) dX5_figureOf_40 rfl rfl ?_
      refine X_ldc2 (pc' := 44) (v := lN 9) dX5_figureOf_41 rfl cn_X5_63 ?_
      refine X_SIp (As := [_, _, _]) (rest := []) (pc' := 47) dX5_figureOf_44 rfl k_X5_in l_X5_50 s_X5_in ⟨by decide, by decide⟩ rfl rfl (Nat.le_of_ble_eq_true rfl) (d_in cx τ _ _ _) ?_
      refine X_if_eq (pc' := 50) (tgt := 58) dX5_figureOf_47 rfl (by decide) (fun h_47 => absurd h_47 (fun q => (zI_0.mp q) (by rw [Int32.toInt_toInt64, nI_toInt (show f < 2 ^ 31 by omega), f0, f9]; omega))) (fun h_47 => ?_)
      refine X_iload_n (i := 1) (pc' := 51) dX5_figureOf_50 rfl rfl rfl ?_
      refine X_iload_n (i := 2) (pc' := 52) dX5_figureOf_51 rfl rfl rfl ?_
      refine X_SIp (As := [_, _]) (rest := []) (pc' := 55) dX5_figureOf_52 rfl k_X5_has l_X5_65 s_X5_has ⟨by decide, by decide⟩ rfl rfl (Nat.le_of_ble_eq_true rfl) (d_has cx τ s f (by omega) (by omega)) ?_
      refine X_if_ne (pc' := 58) (tgt := 84) dX5_figureOf_55 rfl (by decide) (fun h_55 => absurd h_55 (fun q => q (zI_0.mpr hnb))) (fun h_55 => ?_)
      refine X_aload_n (i := 0) (pc' := 59) dX5_figureOf_58 rfl rfl rfl ?_
      refine X_aload_n (i := 0) (pc' := 60) dX5_figureOf_59 rfl rfl rfl ?_
      refine X_get (pc' := 63) (v := .int _) dX5_figureOf_60 rfl (gf_X5_57 _ rfl) o_M_1 rfl rfl ?_
      refine X_eqi (-9) (hfa) ?_
      refine X_bipush (pc' := 65) (v := (-9)) dX5_figureOf_63 rfl (by decide) ?_
      refine X_icmp_ne (pc' := 68) (tgt := 75) dX5_figureOf_65 rfl (by decide) (fun h_65 => absurd h_65 (fun q => q rfl)) (fun h_65 => ?_)
      refine X_aload_n (i := 0) (pc' := 69) dX5_figureOf_68 rfl rfl rfl ?_
      refine X_get (pc' := 72) (v := .int _) dX5_figureOf_69 rfl (gf_X5_60 _ rfl) o_M_1 rfl rfl ?_
      refine X_eqi (nI i) (hat) ?_
      refine X_goto (pc' := 0) (tgt := 79) dX5_figureOf_72 (by decide) ?_
      refine X_putI (pc' := 82) dX5_figureOf_79 rfl (pf_X5_57 _ rfl) o_M_1 rfl ?_
      refine X_iconst (pc' := 83) (v := nI 0) dX5_figureOf_82 rfl (by decide) ?_
      refine X_ri dX5_figureOf_83 rfl ⟨rfl, rfl⟩ ?_
      exact ⟨rfl, rfl⟩
  · have hiL2 : i = L := by omega
    subst hiL2
    refine X_aload_n (i := 0) (pc' := 1) dX5_figureOf_0 rfl rfl rfl ?_
    refine X_get (pc' := 4) (v := .int _) dX5_figureOf_1 rfl (gf_X5_57 _ rfl) o_M_1 rfl rfl ?_
    refine X_eqi (-9) (hfa) ?_
    refine X_bipush (pc' := 6) (v := (-9)) dX5_figureOf_4 rfl (by decide) ?_
    refine X_icmp_ne (pc' := 9) (tgt := 35) dX5_figureOf_6 rfl (by decide) (fun h_6 => absurd h_6 (fun q => q rfl)) (fun h_6 => ?_)
    refine X_aload_n (i := 0) (pc' := 10) dX5_figureOf_9 rfl rfl rfl ?_
    refine X_get (pc' := 13) (v := .int _) dX5_figureOf_10 rfl (gf_X5_60 _ rfl) o_M_1 rfl rfl ?_
    refine X_eqi (nI i) (hat) ?_
    refine X_aload_n (i := 0) (pc' := 14) dX5_figureOf_13 rfl rfl rfl ?_
    refine X_get (pc' := 17) (v := .int _) dX5_figureOf_14 rfl (gf_X5_54 _ rfl) o_M_1 rfl rfl ?_
    refine X_eqi (nI i) (hX.1) ?_
    refine X_icmp_ge (pc' := 20) (tgt := 35) dX5_figureOf_17 rfl (by decide) (fun h_17 => ?_) (fun h_17 => absurd (nI_le (Nat.le_refl _) (by omega)) h_17)
    refine X_bipush (pc' := 37) (v := (-9)) dX5_figureOf_35 rfl (by decide) ?_
    refine X_istore_n (i := 2) (pc' := 38) (lv' := [(2, _), (0, _), (1, _)]) dX5_figureOf_37 rfl rfl (Nat.le_of_ble_eq_true rfl) rfl ?_
    refine X_iload_n (i := 2) (pc' := 39) dX5_figureOf_38 rfl rfl rfl ?_
    refine X_i2l (pc' := 40) dX5_figureOf_39 rfl ?_
    refine X_lconst (pc' := 41) (v := lN 0) dX5_figureOf_40 rfl rfl ?_
    refine X_ldc2 (pc' := 44) (v := lN 9) dX5_figureOf_41 rfl cn_X5_63 ?_
    refine X_SIp (As := [_, _, _]) (rest := []) (pc' := 47) dX5_figureOf_44 rfl k_X5_in l_X5_50 s_X5_in ⟨by decide, by decide⟩ rfl rfl (Nat.le_of_ble_eq_true rfl) (d_in cx τ _ _ _) ?_
    refine X_if_eq (pc' := 50) (tgt := 58) dX5_figureOf_47 rfl (by decide) (fun h_47 => ?_) (fun h_47 => absurd (zI_0.mpr (fun r => by have := r.1; rw [e0] at this; exact absurd this (by decide))) h_47)
    refine X_aload_n (i := 0) (pc' := 59) dX5_figureOf_58 rfl rfl rfl ?_
    refine X_aload_n (i := 0) (pc' := 60) dX5_figureOf_59 rfl rfl rfl ?_
    refine X_get (pc' := 63) (v := .int _) dX5_figureOf_60 rfl (gf_X5_57 _ rfl) o_M_1 rfl rfl ?_
    refine X_eqi (-9) (hfa) ?_
    refine X_bipush (pc' := 65) (v := (-9)) dX5_figureOf_63 rfl (by decide) ?_
    refine X_icmp_ne (pc' := 68) (tgt := 75) dX5_figureOf_65 rfl (by decide) (fun h_65 => absurd h_65 (fun q => q rfl)) (fun h_65 => ?_)
    refine X_aload_n (i := 0) (pc' := 69) dX5_figureOf_68 rfl rfl rfl ?_
    refine X_get (pc' := 72) (v := .int _) dX5_figureOf_69 rfl (gf_X5_60 _ rfl) o_M_1 rfl rfl ?_
    refine X_eqi (nI i) (hat) ?_
    refine X_goto (pc' := 0) (tgt := 79) dX5_figureOf_72 (by decide) ?_
    refine X_putI (pc' := 82) dX5_figureOf_79 rfl (pf_X5_57 _ rfl) o_M_1 rfl ?_
    refine X_iconst (pc' := 83) (v := nI 0) dX5_figureOf_82 rfl (by decide) ?_
    refine X_ri dX5_figureOf_83 rfl ⟨rfl, rfl⟩ ?_
    exact ⟨rfl, rfl⟩
theorem d_fgoA (τ : xT) {T : Nat → Nat} {L s i f : Nat} (hX : TX τ T L) (hs : s < 64) (hi' : i < L) (hfa : τ.1 1 15 = -9) (hat : τ.1 1 14 = nI i) (hf : fig (T i) = some f) (hb : bt s f) : CI cx m_X5_figureOf [.ref 1, .int (nI s)] PM τ (fun x τ' => x = nI f ∧ τ' = xsi τ 1 14 (nI (i + 1))) := by
  have hL := hX.2.2.1
  have hf2 := fig_some hf
  have f0 : (lN 0).toInt = 0 := rfl
  have f9 : (lN 9).toInt = 9 := rfl
  refine Ct_of (by decide) (Nat.le_of_ble_eq_true rfl) (lv := [(0, _), (1, _)]) rfl ?_
  refine X_aload_n (i := 0) (pc' := 1) dX5_figureOf_0 rfl rfl rfl ?_
  refine X_get (pc' := 4) (v := .int _) dX5_figureOf_1 rfl (gf_X5_57 _ rfl) o_M_1 rfl rfl ?_
  refine X_eqi (-9) (hfa) ?_
  refine X_bipush (pc' := 6) (v := (-9)) dX5_figureOf_4 rfl (by decide) ?_
  refine X_icmp_ne (pc' := 9) (tgt := 35) dX5_figureOf_6 rfl (by decide) (fun h_6 => absurd h_6 (fun q => q rfl)) (fun h_6 => ?_)
  refine X_aload_n (i := 0) (pc' := 10) dX5_figureOf_9 rfl rfl rfl ?_
  refine X_get (pc' := 13) (v := .int _) dX5_figureOf_10 rfl (gf_X5_60 _ rfl) o_M_1 rfl rfl ?_
  refine X_eqi (nI i) (hat) ?_
  refine X_aload_n (i := 0) (pc' := 14) dX5_figureOf_13 rfl rfl rfl ?_
  refine X_get (pc' := 17) (v := .int _) dX5_figureOf_14 rfl (gf_X5_54 _ rfl) o_M_1 rfl rfl ?_
  refine X_eqi (nI L) (hX.1) ?_
  refine X_icmp_ge (pc' := 20) (tgt := 35) dX5_figureOf_17 rfl (by decide) (fun h_17 => absurd h_17 (nI_ge hi' (by omega))) (fun h_17 => ?_)
  refine X_aload_n (i := 0) (pc' := 21) dX5_figureOf_20 rfl rfl rfl ?_
  refine X_get (pc' := 24) (v := .ref 8) dX5_figureOf_21 rfl (gf_X5_28 _ rfl) o_M_1 rfl rfl ?_
  refine X_aload_n (i := 0) (pc' := 25) dX5_figureOf_24 rfl rfl rfl ?_
  refine X_get (pc' := 28) (v := .int _) dX5_figureOf_25 rfl (gf_X5_60 _ rfl) o_M_1 rfl rfl ?_
  refine X_eqi (nI i) (hat) ?_
  refine X_iald (pc' := 29) (j := i) dX5_figureOf_28 rfl (Or.inl r_M_8) (rfl) (by omega) ?_
  refine X_eqi (nI (T i)) (hX.2.1 i hi') ?_
  refine X_bipush (pc' := 31) (v := nI 48) dX5_figureOf_29 rfl (by decide) ?_
  refine X_isub (pc' := 32) dX5_figureOf_31 rfl ?_
  refine X_eqi (nI f) (by rw [pk_sub (by omega), hf2.1, Nat.add_sub_cancel]) ?_
  refine X_goto (pc' := 0) (tgt := 37) dX5_figureOf_32 (by decide) ?_
  refine X_istore_n (i := 2) (pc' := 38) (lv' := [(2, _), (0, _), (1, _)]) dX5_figureOf_37 rfl rfl (Nat.le_of_ble_eq_true rfl) rfl ?_
  refine X_iload_n (i := 2) (pc' := 39) dX5_figureOf_38 rfl rfl rfl ?_
  refine X_i2l (pc' := 40) dX5_figureOf_39 rfl ?_
  refine X_lconst (pc' := 41) (v := lN 0) dX5_figureOf_40 rfl rfl ?_
  refine X_ldc2 (pc' := 44) (v := lN 9) dX5_figureOf_41 rfl cn_X5_63 ?_
  refine X_SIp (As := [_, _, _]) (rest := []) (pc' := 47) dX5_figureOf_44 rfl k_X5_in l_X5_50 s_X5_in ⟨by decide, by decide⟩ rfl rfl (Nat.le_of_ble_eq_true rfl) (d_in cx τ _ _ _) ?_
  refine X_if_eq (pc' := 50) (tgt := 58) dX5_figureOf_47 rfl (by decide) (fun h_47 => absurd h_47 (fun q => (zI_0.mp q) (by rw [Int32.toInt_toInt64, nI_toInt (show f < 2 ^ 31 by omega), f0, f9]; omega))) (fun h_47 => ?_)
  refine X_iload_n (i := 1) (pc' := 51) dX5_figureOf_50 rfl rfl rfl ?_
  refine X_iload_n (i := 2) (pc' := 52) dX5_figureOf_51 rfl rfl rfl ?_
  refine X_SIp (As := [_, _]) (rest := []) (pc' := 55) dX5_figureOf_52 rfl k_X5_has l_X5_65 s_X5_has ⟨by decide, by decide⟩ rfl rfl (Nat.le_of_ble_eq_true rfl) (d_has cx τ s f (by omega) (by omega)) ?_
  refine X_if_ne (pc' := 58) (tgt := 84) dX5_figureOf_55 rfl (by decide) (fun h_55 => ?_) (fun h_55 => absurd h_55 (fun q => (zI_0.mp q) hb))
  refine X_aload_n (i := 0) (pc' := 85) dX5_figureOf_84 rfl rfl rfl ?_
  refine X_dup (pc' := 86) dX5_figureOf_85 rfl rfl ?_
  refine X_get (pc' := 89) (v := .int _) dX5_figureOf_86 rfl (gf_X5_60 _ rfl) o_M_1 rfl rfl ?_
  refine X_eqi (nI i) (hat) ?_
  refine X_iconst (pc' := 90) (v := nI 1) dX5_figureOf_89 rfl (by decide) ?_
  refine X_iadd (pc' := 91) dX5_figureOf_90 rfl ?_
  refine X_eqi (nI (i + 1)) (nI_add _ _) ?_
  refine X_putI (pc' := 94) dX5_figureOf_91 rfl (pf_X5_60 _ rfl) o_M_1 rfl ?_
  refine X_iload_n (i := 2) (pc' := 95) dX5_figureOf_94 rfl rfl rfl ?_
  refine X_ri dX5_figureOf_95 rfl ⟨rfl, rfl⟩ ?_
  exact ⟨rfl, rfl⟩
theorem d_left (τ : xT) {P : PT} (hn : pn P ≤ 6) (hx : ∀ k, k < 6 → px P k < 64) (h9 : τ.1 1 9 = nI (pn P)) (h7 : ∀ k, k < 6 → τ.1 7 k = nI (px P k)) {i : Nat} (hi : i < 31) : CI cx m_X5_left [.ref 1, .int (nI i)] PM τ (fun x τ' => τ' = τ ∧ x = nI (lefN P i (pn P))) := by
  have hl : ∀ (j : Nat) (τ' : xT), j ≤ pn P → τ' = τ → X cx m_X5_left PM (qI PM (fun x τ' => τ' = τ ∧ x = nI (lefN P i (pn P)))) 4 [(3, .int (nI j)), (2, .int (nI (lefN P i j))), (0, .ref 1), (1, .int (nI i))] [] PM τ' := by
    refine xloop _ _ (pn P) (fun τ' g => ?_) (fun j τ' hj g ih => ?_)
    · subst g
      refine X_iload_n (i := 3) (pc' := 5) dX5_left_4 rfl rfl rfl ?_
      refine X_aload_n (i := 0) (pc' := 6) dX5_left_5 rfl rfl rfl ?_
      refine X_get (pc' := 9) (v := .int _) dX5_left_6 rfl (gf_X5_69 _ rfl) o_M_1 rfl rfl ?_
      refine X_eqi (nI (pn P)) (h9) ?_
      refine X_icmp_ge (pc' := 12) (tgt := 46) dX5_left_9 rfl (by decide) (fun h_9 => ?_) (fun h_9 => absurd (nI_le (Nat.le_refl _) (by omega)) h_9)
      refine X_iload_n (i := 2) (pc' := 47) dX5_left_46 rfl rfl rfl ?_
      refine X_ri dX5_left_47 rfl ⟨rfl, rfl⟩ ?_
      exact ⟨rfl, rfl⟩
    · subst g
      have hxj := hx j (by omega)
      have hlj := (lefN_bt P i j (by omega)).1
      have h2j : 2 ^ j < 2 ^ 6 := pow_lt (by omega)
      have hji : nI j = nI i ↔ j = i := nI_eq (by omega) (by omega)
      have e1 : j = i → lefN P i (j + 1) = lefN P i j ||| 0 := fun e => congrArg (lefN P i j ||| ·) (if_neg (fun q => q.1 e))
      have e2 : bt (px P j) i → lefN P i (j + 1) = lefN P i j ||| 0 := fun e => congrArg (lefN P i j ||| ·) (if_neg (fun q => q.2 e))
      have e3 : ¬ j = i → ¬ bt (px P j) i → lefN P i (j + 1) = lefN P i j ||| 2 ^ j := fun a b => congrArg (lefN P i j ||| ·) (if_pos ⟨a, b⟩)
      refine X_iload_n (i := 3) (pc' := 5) dX5_left_4 rfl rfl rfl ?_
      refine X_aload_n (i := 0) (pc' := 6) dX5_left_5 rfl rfl rfl ?_
      refine X_get (pc' := 9) (v := .int _) dX5_left_6 rfl (gf_X5_69 _ rfl) o_M_1 rfl rfl ?_
      refine X_eqi (nI (pn P)) (h9) ?_
      refine X_icmp_ge (pc' := 12) (tgt := 46) dX5_left_9 rfl (by decide) (fun h_9 => absurd h_9 (nI_ge hj (by omega))) (fun h_9 => ?_)
      refine X_iload_n (i := 2) (pc' := 13) dX5_left_12 rfl rfl rfl ?_
      refine X_iload_n (i := 3) (pc' := 14) dX5_left_13 rfl rfl rfl ?_
      refine X_iload_n (i := 1) (pc' := 15) dX5_left_14 rfl rfl rfl ?_
      refine X_icmp_eq (pc' := 18) (tgt := 37) dX5_left_15 rfl (by decide) (fun h_15 => ?_) (fun h_15 => ?_)
      · refine X_iconst (pc' := 38) (v := nI 0) dX5_left_37 rfl (by decide) ?_
        refine X_ior (pc' := 39) dX5_left_38 rfl ?_
        refine X_eqi (nI (lefN P i (j + 1))) (by first | exact (nI_or (by omega) (by omega)).trans (congrArg nI (e3 (fun q => h_15 (hji.mpr q)) (zI_0.mp h_28)).symm) | exact (nI_or (by omega) (by omega)).trans (congrArg nI (e2 (zI_1 h_28)).symm) | exact (nI_or (by omega) (by omega)).trans (congrArg nI (e1 (hji.mp h_15)).symm)) ?_
        refine X_istore_n (i := 2) (pc' := 40) (lv' := [(2, _), (3, _), (0, _), (1, _)]) dX5_left_39 rfl rfl (Nat.le_of_ble_eq_true rfl) rfl ?_
        refine X_iinc (pc' := 43) (v := nI (j + 1)) (lv' := [(3, _), (2, _), (0, _), (1, _)]) dX5_left_40 rfl rfl ((nI_succ j).symm) (Nat.le_of_ble_eq_true rfl) rfl ?_
        refine X_goto (pc' := 0) (tgt := 4) dX5_left_43 (by decide) ?_
        exact X_lv _ (by simp) (ih τ' rfl)
      · refine X_aload_n (i := 0) (pc' := 19) dX5_left_18 rfl rfl rfl ?_
        refine X_get (pc' := 22) (v := .ref 7) dX5_left_19 rfl (gf_X5_25 _ rfl) o_M_1 rfl rfl ?_
        refine X_iload_n (i := 3) (pc' := 23) dX5_left_22 rfl rfl rfl ?_
        refine X_iald (pc' := 24) (j := j) dX5_left_23 rfl (Or.inl r_M_7) (rfl) (by omega) ?_
        refine X_eqi (nI (px P j)) (h7 j (by omega)) ?_
        refine X_iload_n (i := 1) (pc' := 25) dX5_left_24 rfl rfl rfl ?_
        refine X_SIp (As := [_, _]) (rest := [_]) (pc' := 28) dX5_left_25 rfl k_X5_has l_X5_65 s_X5_has ⟨by decide, by decide⟩ rfl rfl (Nat.le_of_ble_eq_true rfl) (d_has cx τ' (px P j) i (by omega) hi) ?_
        refine X_if_ne (pc' := 31) (tgt := 37) dX5_left_28 rfl (by decide) (fun h_28 => ?_) (fun h_28 => ?_)
        · refine X_iconst (pc' := 38) (v := nI 0) dX5_left_37 rfl (by decide) ?_
          refine X_ior (pc' := 39) dX5_left_38 rfl ?_
          refine X_eqi (nI (lefN P i (j + 1))) (by first | exact (nI_or (by omega) (by omega)).trans (congrArg nI (e3 (fun q => h_15 (hji.mpr q)) (zI_0.mp h_28)).symm) | exact (nI_or (by omega) (by omega)).trans (congrArg nI (e2 (zI_1 h_28)).symm) | exact (nI_or (by omega) (by omega)).trans (congrArg nI (e1 (hji.mp h_15)).symm)) ?_
          refine X_istore_n (i := 2) (pc' := 40) (lv' := [(2, _), (3, _), (0, _), (1, _)]) dX5_left_39 rfl rfl (Nat.le_of_ble_eq_true rfl) rfl ?_
          refine X_iinc (pc' := 43) (v := nI (j + 1)) (lv' := [(3, _), (2, _), (0, _), (1, _)]) dX5_left_40 rfl rfl ((nI_succ j).symm) (Nat.le_of_ble_eq_true rfl) rfl ?_
          refine X_goto (pc' := 0) (tgt := 4) dX5_left_43 (by decide) ?_
          exact X_lv _ (by simp) (ih τ' rfl)
        · refine X_iconst (pc' := 32) (v := nI 1) dX5_left_31 rfl (by decide) ?_
          refine X_iload_n (i := 3) (pc' := 33) dX5_left_32 rfl rfl rfl ?_
          refine X_ishl (pc' := 34) dX5_left_33 rfl ?_
          refine X_eqi (nI (2 ^ j)) (bt_shl (by omega)) ?_
          refine X_goto (pc' := 0) (tgt := 38) dX5_left_34 (by decide) ?_
          refine X_ior (pc' := 39) dX5_left_38 rfl ?_
          refine X_eqi (nI (lefN P i (j + 1))) (by first | exact (nI_or (by omega) (by omega)).trans (congrArg nI (e3 (fun q => h_15 (hji.mpr q)) (zI_0.mp h_28)).symm) | exact (nI_or (by omega) (by omega)).trans (congrArg nI (e2 (zI_1 h_28)).symm) | exact (nI_or (by omega) (by omega)).trans (congrArg nI (e1 (hji.mp h_15)).symm)) ?_
          refine X_istore_n (i := 2) (pc' := 40) (lv' := [(2, _), (3, _), (0, _), (1, _)]) dX5_left_39 rfl rfl (Nat.le_of_ble_eq_true rfl) rfl ?_
          refine X_iinc (pc' := 43) (v := nI (j + 1)) (lv' := [(3, _), (2, _), (0, _), (1, _)]) dX5_left_40 rfl rfl ((nI_succ j).symm) (Nat.le_of_ble_eq_true rfl) rfl ?_
          refine X_goto (pc' := 0) (tgt := 4) dX5_left_43 (by decide) ?_
          exact X_lv _ (by simp) (ih τ' rfl)
  refine Ct_of (by decide) (Nat.le_of_ble_eq_true rfl) (lv := [(0, _), (1, _)]) rfl ?_
  refine X_iconst (pc' := 1) (v := nI 0) dX5_left_0 rfl (by decide) ?_
  refine X_istore_n (i := 2) (pc' := 2) (lv' := [(2, _), (0, _), (1, _)]) dX5_left_1 rfl rfl (Nat.le_of_ble_eq_true rfl) rfl ?_
  refine X_iconst (pc' := 3) (v := nI 0) dX5_left_2 rfl (by decide) ?_
  refine X_istore_n (i := 3) (pc' := 4) (lv' := [(3, _), (2, _), (0, _), (1, _)]) dX5_left_3 rfl rfl (Nat.le_of_ble_eq_true rfl) rfl ?_
  exact X_lv _ (by simp [lefN]) (hl 0 τ (Nat.zero_le _) rfl)
theorem d_firstsLeft (τ : xT) {P : PT} (hn : pn P ≤ 6) (hx : ∀ k, k < 6 → px P k < 64) (h9 : τ.1 1 9 = nI (pn P)) (h7 : ∀ k, k < 6 → τ.1 7 k = nI (px P k)) : CI cx m_X5_firstsLeft [.ref 1] PM τ (fun x τ' => τ' = τ ∧ x = nI (firN P (pn P))) := by
  have hl : ∀ (j : Nat) (τ' : xT), j ≤ pn P → τ' = τ → X cx m_X5_firstsLeft PM (qI PM (fun x τ' => τ' = τ ∧ x = nI (firN P (pn P)))) 4 [(2, .int (nI j)), (1, .int (nI (firN P j))), (0, .ref 1)] [] PM τ' := by
    refine xloop _ _ (pn P) (fun τ' g => ?_) (fun j τ' hj g ih => ?_)
    · subst g
      refine X_iload_n (i := 2) (pc' := 5) dX5_firstsLeft_4 rfl rfl rfl ?_
      refine X_aload_n (i := 0) (pc' := 6) dX5_firstsLeft_5 rfl rfl rfl ?_
      refine X_get (pc' := 9) (v := .int _) dX5_firstsLeft_6 rfl (gf_X5_69 _ rfl) o_M_1 rfl rfl ?_
      refine X_eqi (nI (pn P)) (h9) ?_
      refine X_icmp_ge (pc' := 12) (tgt := 36) dX5_firstsLeft_9 rfl (by decide) (fun h_9 => ?_) (fun h_9 => absurd (nI_le (Nat.le_refl _) (by omega)) h_9)
      refine X_iload_n (i := 1) (pc' := 37) dX5_firstsLeft_36 rfl rfl rfl ?_
      refine X_ri dX5_firstsLeft_37 rfl ⟨rfl, rfl⟩ ?_
      exact ⟨rfl, rfl⟩
    · subst g
      have hlj := (firN_bt P j (by omega)).1
      have hlf := (lefN_bt P j (pn P) hn).1
      have h2j : 2 ^ j < 2 ^ 6 := pow_lt (by omega)
      have hz : nI (lefN P j (pn P)) = 0 ↔ lefN P j (pn P) = 0 := nI_eq (by omega) (by decide)
      refine X_iload_n (i := 2) (pc' := 5) dX5_firstsLeft_4 rfl rfl rfl ?_
      refine X_aload_n (i := 0) (pc' := 6) dX5_firstsLeft_5 rfl rfl rfl ?_
      refine X_get (pc' := 9) (v := .int _) dX5_firstsLeft_6 rfl (gf_X5_69 _ rfl) o_M_1 rfl rfl ?_
      refine X_eqi (nI (pn P)) (h9) ?_
      refine X_icmp_ge (pc' := 12) (tgt := 36) dX5_firstsLeft_9 rfl (by decide) (fun h_9 => absurd h_9 (nI_ge hj (by omega))) (fun h_9 => ?_)
      refine X_iload_n (i := 1) (pc' := 13) dX5_firstsLeft_12 rfl rfl rfl ?_
      refine X_aload_n (i := 0) (pc' := 14) dX5_firstsLeft_13 rfl rfl rfl ?_
      refine X_iload_n (i := 2) (pc' := 15) dX5_firstsLeft_14 rfl rfl rfl ?_
      refine X_OIp (As := [_]) (rest := [_]) (pc' := 18) dX5_firstsLeft_15 rfl k_X5_left l_X5_72 v_X5_left o_M_1 rfl ⟨by decide, by decide⟩ rfl rfl (Nat.le_of_ble_eq_true rfl) (d_left cx τ' hn hx h9 h7 (show j < 31 by omega)) ?_
      refine X_if_eq (pc' := 21) (tgt := 27) dX5_firstsLeft_18 rfl (by decide) (fun h_18 => ?_) (fun h_18 => ?_)
      · refine X_iconst (pc' := 28) (v := nI 0) dX5_firstsLeft_27 rfl (by decide) ?_
        refine X_ior (pc' := 29) dX5_firstsLeft_28 rfl ?_
        refine X_eqi (nI (firN P (j + 1))) (by first | (rw [show firN P (j + 1) = firN P j ||| 0 from congrArg (firN P j ||| ·) (if_neg (fun q => q (hz.mp h_18)))]; exact nI_or (by omega) (by omega)) | (rw [show firN P (j + 1) = firN P j ||| 2 ^ j from congrArg (firN P j ||| ·) (if_pos (fun q => h_18 (hz.mpr q)))]; exact nI_or (by omega) (by omega))) ?_
        refine X_istore_n (i := 1) (pc' := 30) (lv' := [(1, _), (2, _), (0, _)]) dX5_firstsLeft_29 rfl rfl (Nat.le_of_ble_eq_true rfl) rfl ?_
        refine X_iinc (pc' := 33) (v := nI (j + 1)) (lv' := [(2, _), (1, _), (0, _)]) dX5_firstsLeft_30 rfl rfl ((nI_succ j).symm) (Nat.le_of_ble_eq_true rfl) rfl ?_
        refine X_goto (pc' := 0) (tgt := 4) dX5_firstsLeft_33 (by decide) ?_
        exact X_lv _ (by simp) (ih τ' rfl)
      · refine X_iconst (pc' := 22) (v := nI 1) dX5_firstsLeft_21 rfl (by decide) ?_
        refine X_iload_n (i := 2) (pc' := 23) dX5_firstsLeft_22 rfl rfl rfl ?_
        refine X_ishl (pc' := 24) dX5_firstsLeft_23 rfl ?_
        refine X_eqi (nI (2 ^ j)) (bt_shl (by omega)) ?_
        refine X_goto (pc' := 0) (tgt := 28) dX5_firstsLeft_24 (by decide) ?_
        refine X_ior (pc' := 29) dX5_firstsLeft_28 rfl ?_
        refine X_eqi (nI (firN P (j + 1))) (by first | (rw [show firN P (j + 1) = firN P j ||| 0 from congrArg (firN P j ||| ·) (if_neg (fun q => q (hz.mp h_18)))]; exact nI_or (by omega) (by omega)) | (rw [show firN P (j + 1) = firN P j ||| 2 ^ j from congrArg (firN P j ||| ·) (if_pos (fun q => h_18 (hz.mpr q)))]; exact nI_or (by omega) (by omega))) ?_
        refine X_istore_n (i := 1) (pc' := 30) (lv' := [(1, _), (2, _), (0, _)]) dX5_firstsLeft_29 rfl rfl (Nat.le_of_ble_eq_true rfl) rfl ?_
        refine X_iinc (pc' := 33) (v := nI (j + 1)) (lv' := [(2, _), (1, _), (0, _)]) dX5_firstsLeft_30 rfl rfl ((nI_succ j).symm) (Nat.le_of_ble_eq_true rfl) rfl ?_
        refine X_goto (pc' := 0) (tgt := 4) dX5_firstsLeft_33 (by decide) ?_
        exact X_lv _ (by simp) (ih τ' rfl)
  refine Ct_of (by decide) (Nat.le_of_ble_eq_true rfl) (lv := [(0, _)]) rfl ?_
  refine X_iconst (pc' := 1) (v := nI 0) dX5_firstsLeft_0 rfl (by decide) ?_
  refine X_istore_n (i := 1) (pc' := 2) (lv' := [(1, _), (0, _)]) dX5_firstsLeft_1 rfl rfl (Nat.le_of_ble_eq_true rfl) rfl ?_
  refine X_iconst (pc' := 3) (v := nI 0) dX5_firstsLeft_2 rfl (by decide) ?_
  refine X_istore_n (i := 2) (pc' := 4) (lv' := [(2, _), (1, _), (0, _)]) dX5_firstsLeft_3 rfl rfl (Nat.le_of_ble_eq_true rfl) rfl ?_
  exact X_lv _ (by simp [firN]) (hl 0 τ (Nat.zero_le _) rfl)
end MF
