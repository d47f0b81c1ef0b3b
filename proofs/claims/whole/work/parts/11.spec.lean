/-! ===== what a post and a standing are, in numbers ===== -/
/-- how many letters, the pardon, the room, the kinds, who explains (bits) -/
abbrev PT : Type := Nat × Nat × Nat × (Nat → Nat) × (Nat → Nat)
abbrev pn (P : PT) : Nat := P.1
abbrev pp (P : PT) : Nat := P.2.1
abbrev pr (P : PT) : Nat := P.2.2.1
abbrev pk (P : PT) : Nat → Nat := P.2.2.2.1
abbrev px (P : PT) : Nat → Nat := P.2.2.2.2
/-- the day, sent (bits), sent this day, torn (bits), paid, waited, clocks -/
abbrev SN : Type := Nat × Nat × Nat × Nat × Nat × (Nat → Nat) × (Nat → Nat)
abbrev sDy (s : SN) : Nat := s.1
abbrev sSt (s : SN) : Nat := s.2.1
abbrev sTd (s : SN) : Nat := s.2.2.1
abbrev sTn (s : SN) : Nat := s.2.2.2.1
abbrev sPd (s : SN) : Nat := s.2.2.2.2.1
abbrev sWt (s : SN) : Nat → Nat := s.2.2.2.2.2.1
abbrev sCk (s : SN) : Nat → Nat := s.2.2.2.2.2.2
def Pok (P : PT) : Prop := pn P ≤ 6 ∧ pp P ≤ 9 ∧ (1 ≤ pr P ∧ pr P ≤ 3) ∧ (∀ k, k < pn P → pk P k ≤ 3) ∧ ∀ k, k < pn P → px P k < 64
/-- m bounds the days and what was paid -/
def Sok (P : PT) (m : Nat) (s : SN) : Prop := sDy s ≤ m ∧ sSt s < 2 ^ pn P ∧ sTd s ≤ 3 ∧ sTn s < 2 ^ pn P ∧ sPd s ≤ 600 * m ∧ (∀ k, k < pn P → sWt s k ≤ 99) ∧ ∀ k, k < pn P → sCk s k ≤ 3
theorem two6 {P : PT} (h : Pok P) : 2 ^ pn P ≤ 64 := Nat.pow_le_pow_right (n := 2) (by decide) h.1
def rate (k : Nat) : Nat := match k with | 0 => 1 | 1 => 2 | 2 => 3 | _ => 0
theorem rate_le (k : Nat) : rate k ≤ 3 := by unfold rate; split <;> omega
def ones (s : Nat) : Nat := s % 2 + s / 2 % 2 + s / 4 % 2 + s / 8 % 2 + s / 16 % 2 + s / 32 % 2
theorem ones_le (s : Nat) : ones s ≤ 6 := by unfold ones; omega
def cost (P : PT) (k days : Nat) (torn : Prop) [Decidable torn] (cnt today : Nat) : Nat := if today = pp P then (days * rate (pk P k) * (if torn then 2 else 1) - 3 * cnt) / 2 else days * rate (pk P k) * (if torn then 2 else 1) - 3 * cnt
theorem cost_le (P : PT) (k days : Nat) (torn : Prop) [Decidable torn] (cnt today : Nat) (h : days ≤ 99) : cost P k days torn cnt today ≤ 594 := by
  have h1 : days * rate (pk P k) ≤ 99 * 3 := Nat.mul_le_mul h (rate_le _)
  have h2 : days * rate (pk P k) * (if torn then 2 else 1) ≤ 99 * 3 * 2 := Nat.mul_le_mul h1 (by split <;> omega)
  unfold cost
  split
  · exact Nat.le_trans (Nat.div_le_self _ _) (by omega)
  · omega
def price (P : PT) (s : SN) (k : Nat) : Nat := cost P k (sWt s k) (bt (sTn s) k) (ones (px P k &&& sSt s)) (sDy s)
def costIn (P : PT) (s : SN) (k d sent : Nat) : Nat := cost P k (min 99 (sWt s k + (d - sCk s k))) (bt (sTn s) k) (ones (px P k &&& sent)) (sDy s + d)
theorem costIn_le (P : PT) (s : SN) (k d sent : Nat) : costIn P s k d sent ≤ 594 := cost_le _ _ _ _ _ _ (by omega)
theorem costIn_0 {P : PT} {m : Nat} {s : SN} (h : Sok P m s) {k : Nat} (hk : k < pn P) : costIn P s k 0 (sSt s) = price P s k := by
  unfold costIn price
  have := h.2.2.2.2.2.1 k hk
  rw [Nat.zero_sub, Nat.add_zero, Nat.add_zero, Nat.min_eq_right this]
def pass (s : SN) : SN := (sDy s + 1, sSt s, 0, sTn s, sPd s, fun i => if bt (sSt s) i then sWt s i else if 0 < sCk s i then sWt s i else min 99 (sWt s i + 1), fun i => if bt (sSt s) i then sCk s i else sCk s i - 1)
def sendS (P : PT) (s : SN) (k : Nat) : SN := (sDy s, sSt s ||| 2 ^ k, sTd s + 1, sTn s, sPd s + price P s k, sWt s, sCk s)
abbrev can (P : PT) (s : SN) (k : Nat) : Prop := k < pn P ∧ ¬ bt (sSt s) k ∧ sTd s < pr P
def nset (f : Nat → Nat) (k v : Nat) : Nat → Nat := fun i => if i = k then v else f i
theorem nset_s (f : Nat → Nat) (k v : Nat) : nset f k v k = v := if_pos rfl
theorem nset_n (f : Nat → Nat) {k i : Nat} (v : Nat) (h : i ≠ k) : nset f k v i = f i := if_neg h
theorem or_lt {a b n : Nat} (ha : a < 2 ^ n) (hb : b < 2 ^ n) : a ||| b < 2 ^ n := Nat.or_lt_two_pow ha hb
theorem pow_lt {k n : Nat} (h : k < n) : 2 ^ k < 2 ^ n := Nat.pow_lt_pow_right (by decide) h
theorem pass_ok {P : PT} {m : Nat} {s : SN} (h : Sok P m s) : Sok P (m + 1) (pass s) := by
  obtain ⟨h1, h2, h3, h4, h5, h6, h7⟩ := h
  refine ⟨by show sDy s + 1 ≤ m + 1; omega, h2, Nat.zero_le _, h4, by show sPd s ≤ 600 * (m + 1); omega, fun k hk => ?_, fun k hk => ?_⟩
  · have := h6 k hk
    show (if bt (sSt s) k then sWt s k else if 0 < sCk s k then sWt s k else min 99 (sWt s k + 1)) ≤ 99
    split
    · exact this
    · split <;> omega
  · have := h7 k hk
    show (if bt (sSt s) k then sCk s k else sCk s k - 1) ≤ 3
    split <;> omega
theorem price_le {P : PT} {m : Nat} {s : SN} (h : Sok P m s) {k : Nat} (hk : k < pn P) : price P s k ≤ 594 := cost_le _ _ _ _ _ _ (h.2.2.2.2.2.1 k hk)
theorem sendS_ok {P : PT} {m : Nat} {s : SN} (hP : Pok P) (h : Sok P m s) {k : Nat} (hc : can P s k) : Sok P (m + 1) (sendS P s k) := by
  have hp := price_le h hc.1
  obtain ⟨h1, h2, h3, h4, h5, h6, h7⟩ := h
  have hr := hP.2.2.1.2
  have hc3 := hc.2.2
  exact ⟨by show sDy s ≤ m + 1; omega, or_lt h2 (pow_lt hc.1), by show sTd s + 1 ≤ 3; omega, h4, by show sPd s + price P s k ≤ 600 * (m + 1); omega, h6, h7⟩
theorem Sok.mono {P : PT} {m m' : Nat} {s : SN} (h : Sok P m s) (hm : m ≤ m') : Sok P m' s := ⟨by have := h.1; omega, h.2.1, h.2.2.1, h.2.2.2.1, by have := h.2.2.2.2.1; have : 600 * m ≤ 600 * m' := Nat.mul_le_mul_left _ hm; omega, h.2.2.2.2.2⟩
/-! the class's pictures of them -/
def SR (τ : xT) (k n : Nat) (s : SN) : Prop := τ.1 k 0 = nI (sDy s) ∧ τ.1 k 1 = nI (sSt s) ∧ τ.1 k 2 = nI (sTd s) ∧ τ.1 k 3 = nI (sTn s) ∧ τ.1 k 4 = nI (sPd s) ∧ (∀ i, i < n → τ.1 (k + 1) i = nI (sWt s i)) ∧ ∀ i, i < n → τ.1 (k + 2) i = nI (sCk s i)
theorem SR.kept {τ τ' : xT} {k n : Nat} {s : SN} {R : List Nat} (h : SR τ k n s) (e : xeq R τ τ') (h0 : k ∉ R) (h1 : k + 1 ∉ R) (h2 : k + 2 ∉ R) : SR τ' k n s := by
  unfold SR
  rw [(e k h0).1, (e _ h1).1, (e _ h2).1]
  exact h
def TR (τ : xT) (k : Nat) (P : PT) : Prop := τ.1 k 0 = nI (pp P) ∧ τ.1 k 1 = nI (pr P) ∧ τ.1 k 2 = nI (pn P) ∧ (∀ i, i < pn P → τ.1 (k + 2) i = nI (pk P i)) ∧ ∀ i, i < pn P → τ.1 (k + 3) i = nI (px P i)
theorem TR.kept {τ τ' : xT} {k : Nat} {P : PT} {R : List Nat} (h : TR τ k P) (e : xeq R τ τ') (h0 : k ∉ R) (h2 : k + 2 ∉ R) (h3 : k + 3 ∉ R) : TR τ' k P := by
  unfold TR
  rw [(e k h0).1, (e _ h2).1, (e _ h3).1]
  exact h
theorem xrate_rate {k : Nat} (h : k < 4) : xrate k = nI (rate k) := by
  have : k = 0 ∨ k = 1 ∨ k = 2 ∨ k = 3 := by omega
  rcases this with rfl | rfl | rfl | rfl <;> rfl
