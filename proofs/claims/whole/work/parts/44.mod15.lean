/-! ===== the rows by number; the least of them ===== -/
/-- the days of row n of the set x -/
def aN (x n : Nat) : Nat → Nat := fun l => if bt x l then n / 4 ^ ones (x / 2 ^ (l + 1)) % 4 else 4
/-- n's figures to the base of four, read as tens -/
def dN (n : Nat) : Nat → Nat | 0 => 0 | h + 1 => n / 4 ^ h % 4 * 10 ^ h + dN n h
theorem ones_hi : ∀ x, x < 64 → ∀ l, l < 6 → ones (x / 2 ^ l) = ones (x / 2 ^ (l + 1)) + x / 2 ^ l % 2 := by decide +kernel
theorem ones_hi2 : ∀ x, x < 64 → ∀ l, l < 6 → bt x l → ones (x / 2 ^ (l + 1)) < ones x := by decide +kernel
/-- which letter of x lies before h others -/
def lOf (x h : Nat) : Nat := if bt x 0 ∧ ones (x / 2 ^ 1) = h then 0 else if bt x 1 ∧ ones (x / 2 ^ 2) = h then 1 else if bt x 2 ∧ ones (x / 2 ^ 3) = h then 2 else if bt x 3 ∧ ones (x / 2 ^ 4) = h then 3 else if bt x 4 ∧ ones (x / 2 ^ 5) = h then 4 else 5
theorem lOf_h : ∀ x, x < 64 → ∀ l, l < 6 → bt x l → lOf x (ones (x / 2 ^ (l + 1))) = l := by decide +kernel
theorem enc4 (g : Nat → Nat) (hg : ∀ h, g h ≤ 3) : ∀ m, ∃ n, n < 4 ^ m ∧ ∀ h, h < m → n / 4 ^ h % 4 = g h := by
  intro m
  induction m with
  | zero => exact ⟨0, by decide, fun h hh => absurd hh (Nat.not_lt_zero h)⟩
  | succ m ih =>
    obtain ⟨n, h1, h2⟩ := ih
    have hgm := hg m
    refine ⟨g m * 4 ^ m + n, ?_, fun h hh => ?_⟩
    · rw [Nat.pow_succ]
      have : g m * 4 ^ m ≤ 3 * 4 ^ m := Nat.mul_le_mul_right _ hgm
      omega
    · by_cases e : h = m
      · subst e
        rw [Nat.mul_comm, Nat.mul_add_div (Nat.pow_pos (by decide)), Nat.div_eq_of_lt h1, Nat.add_zero]
        omega
      · have hlt : h < m := by omega
        obtain ⟨d, rfl⟩ : ∃ d, m = h + 1 + d := ⟨m - (h + 1), by omega⟩
        rw [← h2 h hlt, Nat.pow_add, Nat.pow_succ]
        have e2 : g (h + 1 + d) * (4 ^ h * 4 * 4 ^ d) + n = 4 ^ h * (4 * (g (h + 1 + d) * 4 ^ d)) + n := by
          congr 1
          rw [Nat.mul_comm (4 ^ h) 4, Nat.mul_comm (g (h + 1 + d)), Nat.mul_assoc, Nat.mul_assoc, Nat.mul_comm (4 ^ d) (g (h + 1 + d)), Nat.mul_left_comm]
        rw [e2, Nat.mul_add_div (Nat.pow_pos (by decide)), Nat.add_comm, Nat.add_mul_mod_self_left]
theorem dN_lt (n h : Nat) : dN n h < 10 ^ h := by
  induction h with
  | zero => exact Nat.one_pos
  | succ h ih =>
    have : n / 4 ^ h % 4 < 4 := Nat.mod_lt _ (by decide)
    have h2 : n / 4 ^ h % 4 * 10 ^ h ≤ 3 * 10 ^ h := Nat.mul_le_mul_right _ (by omega)
    show n / 4 ^ h % 4 * 10 ^ h + dN n h < 10 ^ (h + 1)
    rw [Nat.pow_succ]
    omega
theorem dN_hi {n m : Nat} (hn : n < 4 ^ m) : ∀ d, dN n (m + d) = dN n m := by
  intro d
  induction d with
  | zero => rfl
  | succ d ih =>
    show n / 4 ^ (m + d) % 4 * 10 ^ (m + d) + dN n (m + d) = _
    have : n < 4 ^ (m + d) := Nat.lt_of_lt_of_le hn (Nat.pow_le_pow_right (by decide) (by omega))
    rw [Nat.div_eq_of_lt this, ih, Nat.zero_mod, Nat.zero_mul, Nat.zero_add]
theorem dN_stepB : ∀ m, m < 64 → ∀ r, r < 64 → (64 * m + r < 4095 → dN (64 * m + r) 6 < dN (64 * m + r + 1) 6) := by decide +kernel
theorem dN_step (n : Nat) (h : n < 4095) : dN n 6 < dN (n + 1) 6 := by
  have := dN_stepB (n / 64) (by omega) (n % 64) (by omega)
  rw [show 64 * (n / 64) + n % 64 = n by omega] at this
  exact this h
theorem dN_mono {n m : Nat} (h : n < m) (hm : m < 4096) : dN n 6 < dN m 6 := by
  obtain ⟨d, rfl⟩ : ∃ d, m = n + 1 + d := ⟨m - (n + 1), by omega⟩
  induction d with
  | zero => exact dN_step n (by omega)
  | succ d ih => exact Nat.lt_trans (ih (by omega) (by omega)) (dN_step (n + 1 + d) (by omega))
theorem add6 {x0 x1 x2 x3 x4 x5 y y0 y1 y2 y3 y4 y5 : Nat} (h : y = y0 + y1 + y2 + y3 + y4 + y5) : (x0 + x1 + x2 + x3 + x4 + x5) + y = (x0 + y0) + (x1 + y1) + (x2 + y2) + (x3 + y3) + (x4 + y4) + (x5 + y5) := by omega
theorem lt6 {x0 x1 x2 x3 x4 x5 y0 y1 y2 y3 y4 y5 c : Nat} (h : y0 + y1 + y2 + y3 + y4 + y5 < c) (h0 : x0 ≤ y0) (h1 : x1 ≤ y1) (h2 : x2 ≤ y2) (h3 : x3 ≤ y3) (h4 : x4 ≤ y4) (h5 : x5 ≤ y5) : x0 + x1 + x2 + x3 + x4 + x5 < c := by omega
theorem fin_row {B w r n pay Dr Dn : Nat} (h1 : B ≤ 1000000 * w + Dr) (h2 : B = 1000000 * pay + Dn) (h3 : Dr < 1000000) (h4 : Dn < 1000000) (h5 : w < pay ∨ (w = pay ∧ r ≤ n)) (h6 : r ≤ n → Dr ≤ Dn) : B % 1000000 = Dr := by
  rcases h5 with h5 | ⟨h5, h7⟩
  · omega
  · have := h6 h7
    omega
/-- what the row adds, letter by letter -/
theorem dA_sum {set : Nat} {a : Nat → Nat} : ∀ i, i ≤ 28 → dA set a i = (if a 0 * 7 + 0 < i then a 0 * 10 ^ ones (set / 2 ^ 1) else 0) + (if a 1 * 7 + 1 < i then a 1 * 10 ^ ones (set / 2 ^ 2) else 0) + (if a 2 * 7 + 2 < i then a 2 * 10 ^ ones (set / 2 ^ 3) else 0) + (if a 3 * 7 + 3 < i then a 3 * 10 ^ ones (set / 2 ^ 4) else 0) + (if a 4 * 7 + 4 < i then a 4 * 10 ^ ones (set / 2 ^ 5) else 0) + (if a 5 * 7 + 5 < i then a 5 * 10 ^ ones (set / 2 ^ 6) else 0) := by
  have step : ∀ (i l v : Nat), (if v * 7 + l < i + 1 then v * 10 ^ ones (set / 2 ^ (l + 1)) else 0) = (if v * 7 + l < i then v * 10 ^ ones (set / 2 ^ (l + 1)) else 0) + (if v * 7 + l = i then v * 10 ^ ones (set / 2 ^ (l + 1)) else 0) := by
    intro i l v
    by_cases h1 : v * 7 + l < i
    · rw [if_pos h1, if_pos (by omega), if_neg (by omega)]; rfl
    · by_cases h2 : v * 7 + l = i
      · rw [if_neg h1, if_pos (by omega), if_pos h2, Nat.zero_add]
      · rw [if_neg h1, if_neg (by omega), if_neg h2]
  have hit : ∀ (i l v : Nat), l < 6 → ¬ i % 7 = l → (if v * 7 + l = i then v * 10 ^ ones (set / 2 ^ (l + 1)) else 0) = 0 := fun i l v h1 h2 => if_neg (by omega)
  intro i
  induction i with
  | zero => intro _; simp [dA]
  | succ i ih =>
    intro hi
    have ih := ih (by omega)
    rw [step i 0, step i 1, step i 2, step i 3, step i 4, step i 5]
    have e : dA set a (i + 1) = dA set a i + (if i % 7 ≠ 6 ∧ a (i % 7) = i / 7 then (i / 7) * 10 ^ ones (set / 2 ^ (i % 7 + 1)) else 0) := by
      show (if i % 7 ≠ 6 ∧ a (i % 7) = i / 7 then dA set a i + (i / 7) * 10 ^ ones (set / 2 ^ (i % 7 + 1)) else dA set a i) = _
      by_cases hc : i % 7 ≠ 6 ∧ a (i % 7) = i / 7
      · rw [if_pos hc, if_pos hc]
      · rw [if_neg hc, if_neg hc]; rfl
    have key : ∀ l, l < 6 → i % 7 = l → (if i % 7 ≠ 6 ∧ a (i % 7) = i / 7 then (i / 7) * 10 ^ ones (set / 2 ^ (i % 7 + 1)) else 0) = (if a l * 7 + l = i then a l * 10 ^ ones (set / 2 ^ (l + 1)) else 0) := by
      intro l hl he
      by_cases hc : a l * 7 + l = i
      · have e2 : a l = i / 7 := by omega
        rw [if_pos hc, if_pos ⟨by omega, by rw [he]; exact e2⟩, he, e2]
      · rw [if_neg hc, if_neg (fun q => hc (by have := q.2; rw [he] at this; omega))]
    rw [e, ih]
    refine add6 ?_
    have h7 : i % 7 = 0 ∨ i % 7 = 1 ∨ i % 7 = 2 ∨ i % 7 = 3 ∨ i % 7 = 4 ∨ i % 7 = 5 ∨ i % 7 = 6 := by omega
    rcases h7 with q | q | q | q | q | q | q
    · rw [key 0 (by decide) q, hit i 1 _ (by decide) (by omega), hit i 2 _ (by decide) (by omega), hit i 3 _ (by decide) (by omega), hit i 4 _ (by decide) (by omega), hit i 5 _ (by decide) (by omega)]; simp only [Nat.add_zero, Nat.zero_add]
    · rw [key 1 (by decide) q, hit i 0 _ (by decide) (by omega), hit i 2 _ (by decide) (by omega), hit i 3 _ (by decide) (by omega), hit i 4 _ (by decide) (by omega), hit i 5 _ (by decide) (by omega)]; simp only [Nat.add_zero, Nat.zero_add]
    · rw [key 2 (by decide) q, hit i 0 _ (by decide) (by omega), hit i 1 _ (by decide) (by omega), hit i 3 _ (by decide) (by omega), hit i 4 _ (by decide) (by omega), hit i 5 _ (by decide) (by omega)]; simp only [Nat.add_zero, Nat.zero_add]
    · rw [key 3 (by decide) q, hit i 0 _ (by decide) (by omega), hit i 1 _ (by decide) (by omega), hit i 2 _ (by decide) (by omega), hit i 4 _ (by decide) (by omega), hit i 5 _ (by decide) (by omega)]; simp only [Nat.add_zero, Nat.zero_add]
    · rw [key 4 (by decide) q, hit i 0 _ (by decide) (by omega), hit i 1 _ (by decide) (by omega), hit i 2 _ (by decide) (by omega), hit i 3 _ (by decide) (by omega), hit i 5 _ (by decide) (by omega)]; simp only [Nat.add_zero, Nat.zero_add]
    · rw [key 5 (by decide) q, hit i 0 _ (by decide) (by omega), hit i 1 _ (by decide) (by omega), hit i 2 _ (by decide) (by omega), hit i 3 _ (by decide) (by omega), hit i 4 _ (by decide) (by omega)]; simp only [Nat.add_zero, Nat.zero_add]
    · rw [if_neg (show ¬ (i % 7 ≠ 6 ∧ a (i % 7) = i / 7) from fun r => r.1 q), hit i 0 _ (by decide) (by omega), hit i 1 _ (by decide) (by omega), hit i 2 _ (by decide) (by omega), hit i 3 _ (by decide) (by omega), hit i 4 _ (by decide) (by omega), hit i 5 _ (by decide) (by omega)]
theorem cap_dA : ∀ set, set < 64 → (if bt set 0 then 3 * 10 ^ ones (set / 2 ^ 1) else 0) + (if bt set 1 then 3 * 10 ^ ones (set / 2 ^ 2) else 0) + (if bt set 2 then 3 * 10 ^ ones (set / 2 ^ 3) else 0) + (if bt set 3 then 3 * 10 ^ ones (set / 2 ^ 4) else 0) + (if bt set 4 then 3 * 10 ^ ones (set / 2 ^ 5) else 0) + (if bt set 5 then 3 * 10 ^ ones (set / 2 ^ 6) else 0) < 1000000 := by decide +kernel
theorem dA_lt {set : Nat} {a : Nat → Nat} (hs : set < 64) (hv : VA set a) : dA set a 28 < 1000000 := by
  have one : ∀ l, l < 6 → (if a l * 7 + l < 28 then a l * 10 ^ ones (set / 2 ^ (l + 1)) else 0) ≤ (if bt set l then 3 * 10 ^ ones (set / 2 ^ (l + 1)) else 0) := by
    intro l hl
    by_cases h : a l * 7 + l < 28
    · have h3 : a l ≤ 3 := by omega
      rw [if_pos h, if_pos (hv.2 l h3).2]
      exact Nat.mul_le_mul_right _ h3
    · rw [if_neg h]; exact Nat.zero_le _
  rw [dA_sum 28 (Nat.le_refl _)]
  exact lt6 (cap_dA set hs) (one 0 (by decide)) (one 1 (by decide)) (one 2 (by decide)) (one 3 (by decide)) (one 4 (by decide)) (one 5 (by decide))
theorem aN_le (x n l : Nat) : aN x n l ≤ 4 := by
  unfold aN
  split
  · have : n / 4 ^ ones (x / 2 ^ (l + 1)) % 4 < 4 := Nat.mod_lt _ (by decide)
    omega
  · exact Nat.le_refl _
theorem aN_3 (x n l : Nat) : aN x n l ≤ 3 ↔ bt x l := by
  unfold aN
  by_cases h : bt x l
  · rw [if_pos h]
    have : n / 4 ^ ones (x / 2 ^ (l + 1)) % 4 < 4 := Nat.mod_lt _ (by decide)
    exact ⟨fun _ => h, fun _ => by omega⟩
  · rw [if_neg h]; exact ⟨fun q => absurd q (by decide), fun q => absurd q h⟩
theorem bt_lt6 {x l : Nat} (hx : x < 64) (h : bt x l) : l < 6 := by
  rcases Nat.lt_or_ge l 6 with q | q
  · exact q
  · exfalso
    have h1 : 2 ^ 6 ≤ 2 ^ l := Nat.pow_le_pow_right (by decide) q
    have h2 : x / 2 ^ l = 0 := Nat.div_eq_of_lt (by omega)
    have h3 : x / 2 ^ l % 2 = 1 := h
    rw [h2] at h3
    exact absurd h3 (by decide)
theorem and_of : ∀ x, x < 64 → ∀ set, set < 64 → x &&& set = x → ∀ l, l < 6 → bt x l → bt set l := by decide +kernel
theorem aN_VA {x set n : Nat} (hx : x < 64) (hs : set < 64) (hsub : x &&& set = x) : VA set (aN x n) := ⟨aN_le x n, fun l q => by
  have hb := (aN_3 x n l).mp q
  have hl := bt_lt6 hx hb
  exact ⟨hl, and_of x hx set hs hsub l hl hb⟩⟩
/-- the row's number, read as tens -/
theorem dA_row {x n : Nat} (hx : x < 64) (hn : n < 4 ^ ones x) : dA x (aN x n) 28 = dN n 6 := by
  have o6 := ones_le x
  have top : dN n 6 = dN n (ones x) := by
    have := dN_hi hn (6 - ones x)
    rwa [show ones x + (6 - ones x) = 6 by omega] at this
  have one : ∀ l, l < 6 → dN n (ones (x / 2 ^ l)) = (if aN x n l * 7 + l < 28 then aN x n l * 10 ^ ones (x / 2 ^ (l + 1)) else 0) + dN n (ones (x / 2 ^ (l + 1))) := by
    intro l hl
    rw [ones_hi x hx l hl]
    by_cases h : bt x l
    · have h3 := (aN_3 x n l).mpr h
      rw [if_pos (by omega), show x / 2 ^ l % 2 = 1 from h, show aN x n l = n / 4 ^ ones (x / 2 ^ (l + 1)) % 4 from if_pos h]
      rfl
    · have h3 : aN x n l = 4 := if_neg h
      have h4 : x / 2 ^ l % 2 = 0 := by have : ¬ x / 2 ^ l % 2 = 1 := h; omega
      rw [h3, if_neg (by omega), h4, Nat.add_zero, Nat.zero_add]
  have z : dN n (ones (x / 2 ^ 6)) = 0 := by
    rw [Nat.div_eq_of_lt (show x < 2 ^ 6 from hx)]; rfl
  rw [top, dA_sum 28 (Nat.le_refl _)]
  have e0 := one 0 (by decide)
  rw [show x / 2 ^ 0 = x by simp] at e0
  rw [e0, one 1 (by decide), one 2 (by decide), one 3 (by decide), one 4 (by decide), one 5 (by decide), z]
  simp only [Nat.add_zero, Nat.zero_add, Nat.add_assoc]
/-- the least that is paid for the set x, and the first row that pays it, of the first n rows -/
def lsA (P : PT) (s : SN) (x : Nat) : Nat → Option (Nat × Nat)
  | 0 => none
  | n + 1 => match tA P s (aN x n) 28 with
    | none => lsA P s x n
    | some t => match lsA P s x n with
      | none => some (sPd t - sPd s, n)
      | some q => if sPd t - sPd s < q.1 then some (sPd t - sPd s, n) else some q
theorem lsA_spec (P : PT) (s : SN) (x : Nat) : ∀ n, match lsA P s x n with
    | none => ∀ k, k < n → tA P s (aN x k) 28 = none
    | some q => q.2 < n ∧ (∃ t, tA P s (aN x q.2) 28 = some t ∧ q.1 = sPd t - sPd s) ∧ ∀ k, k < n → ∀ t, tA P s (aN x k) 28 = some t → q.1 < sPd t - sPd s ∨ (q.1 = sPd t - sPd s ∧ q.2 ≤ k) := by
  intro n
  induction n with
  | zero => exact fun k hk => absurd hk (Nat.not_lt_zero k)
  | succ n ih =>
    rcases ht : tA P s (aN x n) 28 with _ | t
    · have e : lsA P s x (n + 1) = lsA P s x n := by
        show (match tA P s (aN x n) 28 with | none => lsA P s x n | some t => _) = _
        rw [ht]
      rw [e]
      rcases hl : lsA P s x n with _ | q
      · rw [hl] at ih
        intro k hk
        by_cases e : k = n
        · rw [e]; exact ht
        · exact ih k (by omega)
      · rw [hl] at ih
        obtain ⟨h1, h2, h3⟩ := ih
        refine ⟨by omega, h2, fun k hk t' ht' => ?_⟩
        by_cases e : k = n
        · rw [e, ht] at ht'; cases ht'
        · exact h3 k (by omega) t' ht'
    · rcases hl : lsA P s x n with _ | q
      · rw [hl] at ih
        have e : lsA P s x (n + 1) = some (sPd t - sPd s, n) := by
          show (match tA P s (aN x n) 28 with | none => lsA P s x n | some t => (match lsA P s x n with | none => some (sPd t - sPd s, n) | some q => if sPd t - sPd s < q.1 then some (sPd t - sPd s, n) else some q)) = _
          rw [ht, hl]
        rw [e]
        refine ⟨Nat.lt_succ_self n, ⟨t, ht, rfl⟩, fun k hk t' ht' => ?_⟩
        by_cases e : k = n
        · subst e
          rw [ht] at ht'
          cases ht'
          exact Or.inr ⟨rfl, Nat.le_refl _⟩
        · rw [ih k (by omega)] at ht'; cases ht'
      · rw [hl] at ih
        obtain ⟨h1, h2, h3⟩ := ih
        have e : lsA P s x (n + 1) = if sPd t - sPd s < q.1 then some (sPd t - sPd s, n) else some q := by
          show (match tA P s (aN x n) 28 with | none => lsA P s x n | some t => (match lsA P s x n with | none => some (sPd t - sPd s, n) | some q => if sPd t - sPd s < q.1 then some (sPd t - sPd s, n) else some q)) = _
          rw [ht, hl]
        rw [e]
        by_cases hlt : sPd t - sPd s < q.1
        · rw [if_pos hlt]
          refine ⟨Nat.lt_succ_self n, ⟨t, ht, rfl⟩, fun k hk t' ht' => ?_⟩
          by_cases e : k = n
          · subst e
            rw [ht] at ht'
            cases ht'
            exact Or.inr ⟨rfl, Nat.le_refl _⟩
          · have := h3 k (by omega) t' ht'
            show sPd t - sPd s < _ ∨ _
            omega
        · rw [if_neg hlt]
          refine ⟨by show q.2 < n + 1; omega, h2, fun k hk t' ht' => ?_⟩
          by_cases e : k = n
          · subst e
            rw [ht] at ht'
            cases ht'
            show q.1 < _ ∨ (q.1 = _ ∧ q.2 ≤ k)
            omega
          · exact h3 k (by omega) t' ht'
theorem sTd_28 {P : PT} {s t : SN} {a : Nat → Nat} (h : tA P s a 28 = some t) : sTd t = 0 := by
  rcases h0 : tA P s a 27 with _ | t0
  · rw [tA_none h0] at h; cases h
  · rw [tA_pass h0 (by decide)] at h
    cases h
    rfl
theorem uA_28 {x : Nat} {a : Nat → Nat} (hx : x < 64) (h4 : ∀ l, a l ≤ 4) (h : ∀ l, l < 6 → (a l ≤ 3 ↔ bt x l)) : uA a 28 = x := by
  obtain ⟨h1, h2⟩ := uA_bt h4 28 (Nat.le_refl _)
  refine bits_eq _ h1 x hx (fun l hl => (h2 l hl).trans (Iff.trans ?_ (h l hl)))
  have := h4 l
  omega
/-- the planner's row holds the least of all rows of x -/
theorem best_x {P : PT} {s : SN} {m set x : Nat} (hP : Pok P) (ho : Sok P m s) (hm : m < 4000) (hset : set < 2 ^ pn P) (hdis : set &&& sSt s = 0) (hx : x < 64) (hsub : x &&& set = x) : match lsA P s x (4 ^ ones x) with
    | none => ¬ bS P s set 28 (x * 4) < BIG
    | some q => q.2 < 4 ^ ones x ∧ bS P s set 28 (x * 4) < BIG ∧ bS P s set 28 (x * 4) / 1000000 = q.1 ∧ (x = set → bS P s set 28 (x * 4) % 1000000 = dN q.2 6) := by
  have h26 := two6 hP
  have hs64 : set < 64 := by omega
  have o6 := ones_le x
  have hit : bS P s set 28 (x * 4) < BIG → ∃ n t, n < 4 ^ ones x ∧ tA P s (aN x n) 28 = some t ∧ bS P s set 28 (x * 4) = 1000000 * (sPd t - sPd s) + dA set (aN x n) 28 := by
    intro hb
    obtain ⟨a, t, v1, v2, v3, v4, v5⟩ := hit_B hP ho hm hset hdis 28 (Nat.le_refl _) (x * 4) (by omega) hb
    rw [show x * 4 / 4 = x by omega] at v3
    have hab : ∀ l, l < 6 → (a l ≤ 3 ↔ bt x l) := by
      intro l hl
      have := (uA_bt v1.1 28 (Nat.le_refl _)).2 l hl
      rw [v3] at this
      rw [this]
      have := v1.1 l
      omega
    obtain ⟨n, n1, n2⟩ := enc4 (fun h => min 3 (a (lOf x h))) (fun h => Nat.min_le_left _ _) (ones x)
    have hcg := cong_A (P := P) (s := s) (set := set) (a := a) (b := aN x n) 28 (fun j hj hj6 => by
      have hl6 : j % 7 < 6 := by omega
      by_cases hb : bt x (j % 7)
      · have e : aN x n (j % 7) = n / 4 ^ ones (x / 2 ^ (j % 7 + 1)) % 4 := if_pos hb
        have h3 := (hab _ hl6).mpr hb
        rw [e, n2 _ (ones_hi2 x hx _ hl6 hb), lOf_h x hx _ hl6 hb, Nat.min_eq_right h3]
      · have e : aN x n (j % 7) = 4 := if_neg hb
        have h3 : ¬ a (j % 7) ≤ 3 := fun q => hb ((hab _ hl6).mp q)
        rw [e]
        omega)
    exact ⟨n, t, n1, hcg.1 ▸ v2, by rw [v5, hcg.2.2]⟩
  have low : ∀ n t, tA P s (aN x n) 28 = some t → bS P s set 28 (x * 4) ≤ 1000000 * (sPd t - sPd s) + dA set (aN x n) 28 := by
    intro n t ht
    have := le_B hP ho hm hset (aN_VA hx hs64 hsub) 28 (Nat.le_refl _) t ht
    rw [uA_28 hx (aN_le x n) (fun l _ => aN_3 x n l), sTd_28 ht, Nat.add_zero] at this
    exact this
  have hsp := lsA_spec P s x (4 ^ ones x)
  rcases hl : lsA P s x (4 ^ ones x) with _ | q
  · rw [hl] at hsp
    intro hb
    obtain ⟨n, t, n1, n2, n3⟩ := hit hb
    rw [hsp n n1] at n2
    cases n2
  · rw [hl] at hsp
    obtain ⟨h1, ⟨t0, h2, h2'⟩, h3⟩ := hsp
    have hlow := low _ _ h2
    have hJ := JA_of hP ho hm (aN_le x q.2) 28 (Nat.le_refl _) t0 h2
    have hpd := hJ.2.2.2.2.2.2.2.2.2.1
    have hd0 := dA_lt hs64 (aN_VA (n := q.2) hx hs64 hsub)
    have hbb : bS P s set 28 (x * 4) < BIG := by
      show _ < 1152921504606846976
      omega
    obtain ⟨n, t, n1, n2, n3⟩ := hit hbb
    have hd1 := dA_lt hs64 (aN_VA (n := n) hx hs64 hsub)
    have h4 := h3 n n1 t n2
    refine ⟨h1, hbb, by omega, fun hxs => ?_⟩
    subst hxs
    have r0 := dA_row hx h1
    have r1 := dA_row hx n1
    have h46 : 4 ^ ones x ≤ 4 ^ 6 := Nat.pow_le_pow_right (by decide) o6
    have hmono : q.2 ≤ n → dN q.2 6 ≤ dN n 6 := fun hq => by
      rcases Nat.lt_or_ge q.2 n with r | r
      · exact Nat.le_of_lt (dN_mono r (by omega))
      · have : q.2 = n := by omega
        rw [this]; exact Nat.le_refl _
    rw [r0] at hlow hd0
    rw [r1] at n3 hd1
    rw [h2'] at h4
    exact fin_row hlow n3 hd0 hd1 h4 hmono
