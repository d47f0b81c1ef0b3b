/-! ===== the planner's row is the best of all rows ===== -/
/-- who is sent when: 4 is never -/
def tA (P : PT) (s : SN) (a : Nat → Nat) : Nat → Option SN
  | 0 => some s
  | i + 1 => match tA P s a i with
    | none => none
    | some t => if i % 7 = 6 then some (pass t) else if a (i % 7) = i / 7 then (if can P t (i % 7) then some (sendS P t (i % 7)) else none) else some t
def uA (a : Nat → Nat) : Nat → Nat
  | 0 => 0
  | i + 1 => if i % 7 ≠ 6 ∧ a (i % 7) = i / 7 then uA a i ||| 2 ^ (i % 7) else uA a i
def dA (set : Nat) (a : Nat → Nat) : Nat → Nat
  | 0 => 0
  | i + 1 => if i % 7 ≠ 6 ∧ a (i % 7) = i / 7 then dA set a i + (i / 7) * 10 ^ ones (set / 2 ^ (i % 7 + 1)) else dA set a i
def VA (set : Nat) (a : Nat → Nat) : Prop := (∀ l, a l ≤ 4) ∧ ∀ l, a l ≤ 3 → l < 6 ∧ bt set l
theorem tA_none {P : PT} {s : SN} {a : Nat → Nat} {i : Nat} (h : tA P s a i = none) : tA P s a (i + 1) = none := by
  unfold tA; rw [h]
theorem tA_pass {P : PT} {s t : SN} {a : Nat → Nat} {i : Nat} (h : tA P s a i = some t) (h6 : i % 7 = 6) : tA P s a (i + 1) = some (pass t) := by
  show (match tA P s a i with | none => none | some t => if i % 7 = 6 then some (pass t) else if a (i % 7) = i / 7 then (if can P t (i % 7) then some (sendS P t (i % 7)) else none) else some t) = _
  rw [h]
  exact if_pos h6
theorem tA_keep {P : PT} {s t : SN} {a : Nat → Nat} {i : Nat} (h : tA P s a i = some t) (h6 : ¬ i % 7 = 6) (ha : ¬ a (i % 7) = i / 7) : tA P s a (i + 1) = some t := by
  show (match tA P s a i with | none => none | some t => if i % 7 = 6 then some (pass t) else if a (i % 7) = i / 7 then (if can P t (i % 7) then some (sendS P t (i % 7)) else none) else some t) = _
  rw [h]
  exact (if_neg h6).trans (if_neg ha)
theorem tA_send {P : PT} {s t : SN} {a : Nat → Nat} {i : Nat} (h : tA P s a i = some t) (h6 : ¬ i % 7 = 6) (ha : a (i % 7) = i / 7) : tA P s a (i + 1) = if can P t (i % 7) then some (sendS P t (i % 7)) else none := by
  show (match tA P s a i with | none => none | some t => if i % 7 = 6 then some (pass t) else if a (i % 7) = i / 7 then (if can P t (i % 7) then some (sendS P t (i % 7)) else none) else some t) = _
  rw [h]
  exact (if_neg h6).trans (if_pos ha)
theorem bt_two : ∀ r, r < 6 → ∀ l, l < 6 → (bt (2 ^ r) l ↔ l = r) := by decide +kernel
theorem bits_sub : ∀ u, u < 64 → ∀ x, x < 64 → (∀ l, l < 6 → bt u l → bt x l) → u &&& x = u := by decide +kernel
theorem bits_eq : ∀ u, u < 64 → ∀ x, x < 64 → (∀ l, l < 6 → (bt u l ↔ bt x l)) → u = x := by decide +kernel
theorem uA_bt {a : Nat → Nat} (h : ∀ l, a l ≤ 4) : ∀ i, i ≤ 28 → uA a i < 64 ∧ ∀ l, l < 6 → (bt (uA a i) l ↔ a l * 7 + l < i) := by
  intro i
  induction i with
  | zero => intro _; exact ⟨by show 0 < 64; decide, fun l hl => ⟨fun q => absurd q (by show ¬ (0 / 2 ^ l % 2 = 1); rw [Nat.zero_div]; decide), fun q => absurd q (Nat.not_lt_zero _)⟩⟩
  | succ i ih =>
    intro hi
    obtain ⟨h1, h2⟩ := ih (by omega)
    by_cases hc : i % 7 ≠ 6 ∧ a (i % 7) = i / 7
    · have e : uA a (i + 1) = uA a i ||| 2 ^ (i % 7) := if_pos hc
      have h2r : 2 ^ (i % 7) < 2 ^ 6 := pow_lt (by omega)
      rw [e]
      refine ⟨Nat.or_lt_two_pow (n := 6) h1 h2r, fun l hl => ?_⟩
      rw [bt_or _ h1 _ h2r l hl, h2 l hl, bt_two (i % 7) (by omega) l hl]
      have hq := hc.2
      constructor
      · rintro (q | q)
        · omega
        · subst q; omega
      · intro q
        by_cases e : a l * 7 + l = i
        · right; omega
        · left; omega
    · have e : uA a (i + 1) = uA a i := if_neg hc
      rw [e]
      refine ⟨h1, fun l hl => (h2 l hl).trans ⟨fun q => by omega, fun q => ?_⟩⟩
      by_cases e : a l * 7 + l = i
      · exfalso
        have e1 : i % 7 = l := by omega
        have e2 : i / 7 = a l := by omega
        exact hc ⟨by omega, by rw [e1, e2]⟩
      · omega
theorem cong_A {P : PT} {s : SN} {set : Nat} {a b : Nat → Nat} : ∀ i, (∀ j, j < i → j % 7 ≠ 6 → (a (j % 7) = j / 7 ↔ b (j % 7) = j / 7)) → tA P s a i = tA P s b i ∧ uA a i = uA b i ∧ dA set a i = dA set b i := by
  intro i
  induction i with
  | zero => intro _; exact ⟨rfl, rfl, rfl⟩
  | succ i ih =>
    intro h
    obtain ⟨h1, h2, h3⟩ := ih (fun j hj => h j (by omega))
    have h0 := h i (Nat.lt_succ_self i)
    unfold tA uA dA
    rw [h1, h2, h3]
    by_cases h6 : i % 7 = 6
    · have n1 : ¬ (i % 7 ≠ 6 ∧ a (i % 7) = i / 7) := fun q => q.1 h6
      have n2 : ¬ (i % 7 ≠ 6 ∧ b (i % 7) = i / 7) := fun q => q.1 h6
      rw [if_neg n1, if_neg n2, if_neg n1, if_neg n2]
      refine ⟨?_, rfl, rfl⟩
      rcases tA P s b i with _ | t
      · rfl
      · show (if i % 7 = 6 then _ else _) = (if i % 7 = 6 then _ else _)
        rw [if_pos h6, if_pos h6]
    · have h0 := h0 h6
      by_cases hb : b (i % 7) = i / 7
      · have ha := h0.mpr hb
        rw [if_pos ⟨h6, ha⟩, if_pos ⟨h6, hb⟩, if_pos ⟨h6, ha⟩, if_pos ⟨h6, hb⟩]
        refine ⟨?_, rfl, rfl⟩
        rcases tA P s b i with _ | t
        · rfl
        · show (if i % 7 = 6 then _ else if a (i % 7) = i / 7 then _ else _) = (if i % 7 = 6 then _ else if b (i % 7) = i / 7 then _ else _)
          rw [if_neg h6, if_neg h6, if_pos ha, if_pos hb]
      · have ha : ¬ a (i % 7) = i / 7 := fun q => hb (h0.mp q)
        rw [if_neg (fun q => ha q.2), if_neg (fun q => hb q.2), if_neg (fun q => ha q.2), if_neg (fun q => hb q.2)]
        refine ⟨?_, rfl, rfl⟩
        rcases tA P s b i with _ | t
        · rfl
        · show (if i % 7 = 6 then _ else if a (i % 7) = i / 7 then _ else _) = (if i % 7 = 6 then _ else if b (i % 7) = i / 7 then _ else _)
          rw [if_neg h6, if_neg h6, if_neg ha, if_neg hb]
/-- what the trial is, behind i steps -/
def JA (P : PT) (s : SN) (a : Nat → Nat) (m i : Nat) (t : SN) : Prop := sDy t = sDy s + i / 7 ∧ sTn t = sTn s ∧ sSt t = sSt s ||| uA a i ∧ (∀ l, l < pn P → ¬ bt (sSt t) l → sWt t l = min 99 (sWt s l + (i / 7 - sCk s l)) ∧ sCk t l = sCk s l - i / 7) ∧ sPd s ≤ sPd t ∧ Sok P (m + i) t
theorem bt_orL {x y l : Nat} (hx : x < 64) (hy : y < 64) (hl : l < 6) (h : ¬ bt (x ||| y) l) : ¬ bt x l := fun q => h ((bt_or x hx y hy l hl).mpr (Or.inl q))
theorem JA_of {P : PT} {s : SN} {a : Nat → Nat} {m : Nat} (hP : Pok P) (ho : Sok P m s) (hm : m < 4000) (hv : ∀ l, a l ≤ 4) : ∀ i, i ≤ 28 → ∀ t, tA P s a i = some t → JA P s a m i t := by
  intro i
  have hn6 := hP.1
  have h26 := two6 hP
  induction i with
  | zero =>
    intro _ t ht
    have e : t = s := (Option.some.inj ht).symm
    subst e
    refine ⟨rfl, rfl, (Nat.or_zero _).symm, fun l hl _ => ?_, Nat.le_refl _, ho⟩
    have := ho.2.2.2.2.2.1 l hl
    omega
  | succ i ih =>
    intro hi t ht
    have hu := (uA_bt hv i (by omega)).1
    rcases h0 : tA P s a i with _ | t0
    · rw [tA_none h0] at ht; cases ht
    · obtain ⟨j1, j2, j3, j4, j5, j6⟩ := ih (by omega) t0 h0
      by_cases h6 : i % 7 = 6
      · rw [tA_pass h0 h6] at ht
        have e := (Option.some.inj ht).symm
        subst e
        have eu : uA a (i + 1) = uA a i := if_neg (fun q => q.1 h6)
        refine ⟨by show sDy t0 + 1 = _; omega, j2, by rw [eu]; exact j3, fun l hl hb => ?_, j5, pass_ok j6⟩
        have hb : ¬ bt (sSt t0) l := hb
        obtain ⟨k1, k2⟩ := j4 l hl hb
        have hd : (i + 1) / 7 = i / 7 + 1 := by omega
        rw [hd]
        by_cases hc : 0 < sCk t0 l
        · have q := pass_ck (s := t0) hb hc
          rw [q.1, q.2, k1, k2]
          omega
        · have q := pass_wt (s := t0) hb hc
          rw [q.1, q.2, k1, k2]
          omega
      · have hd : (i + 1) / 7 = i / 7 := by omega
        by_cases ha : a (i % 7) = i / 7
        · rw [tA_send h0 h6 ha] at ht
          by_cases hc : can P t0 (i % 7)
          · rw [if_pos hc] at ht
            have e := (Option.some.inj ht).symm
            subst e
            have eu : uA a (i + 1) = uA a i ||| 2 ^ (i % 7) := if_pos ⟨h6, ha⟩
            have hst0 := j6.2.1
            have h2r : 2 ^ (i % 7) < 2 ^ 6 := pow_lt (by omega)
            refine ⟨by rw [hd]; exact j1, j2, by rw [eu, ← Nat.or_assoc, ← j3]; rfl, fun l hl hb => ?_, by show sPd s ≤ sPd t0 + _; omega, sendS_ok hP j6 hc⟩
            have hb : ¬ bt (sSt t0 ||| 2 ^ (i % 7)) l := hb
            rw [hd]
            exact j4 l hl (bt_orL (by omega) h2r (by omega) hb)
          · rw [if_neg hc] at ht; cases ht
        · rw [tA_keep h0 h6 ha] at ht
          have e := (Option.some.inj ht).symm
          subst e
          have eu : uA a (i + 1) = uA a i := if_neg (fun q => ha q.2)
          exact ⟨by rw [hd]; exact j1, j2, by rw [eu]; exact j3, by rw [hd]; exact j4, j5, j6.mono (by omega)⟩
theorem JA_price {P : PT} {s t : SN} {a : Nat → Nat} {m i l : Nat} (h : JA P s a m i t) (hl : l < pn P) (hb : ¬ bt (sSt t) l) : price P t l = costIn P s l (i / 7) (sSt s ||| uA a i) := by
  obtain ⟨j1, j2, j3, j4, j5, j6⟩ := h
  unfold price costIn
  rw [j1, j2, (j4 l hl hb).1, ← j3]
theorem le_B {P : PT} {s : SN} {a : Nat → Nat} {m set : Nat} (hP : Pok P) (ho : Sok P m s) (hm : m < 4000) (hset : set < 2 ^ pn P) (hv : VA set a) : ∀ i, i ≤ 28 → ∀ t, tA P s a i = some t → bS P s set i (uA a i * 4 + sTd t) ≤ 1000000 * (sPd t - sPd s) + dA set a i := by
  intro i
  have hn6 := hP.1
  have h26 := two6 hP
  have hr3 := hP.2.2.1.2
  induction i with
  | zero =>
    intro _ t ht
    have e : t = s := (Option.some.inj ht).symm
    subst e
    have : bS P t set 0 (uA a 0 * 4 + sTd t) = 0 := if_pos (by show 0 * 4 + sTd t = sTd t; omega)
    rw [this]
    exact Nat.zero_le _
  | succ i ih =>
    intro hi t ht
    obtain ⟨hu, hub⟩ := uA_bt hv.1 i (by omega)
    rcases h0 : tA P s a i with _ | t0
    · rw [tA_none h0] at ht; cases ht
    · have hJ := JA_of hP ho hm hv.1 i (by omega) t0 h0
      obtain ⟨j1, j2, j3, j4, j5, j6⟩ := id hJ
      have ih := ih (by omega) t0 h0
      have htd := j6.2.2.1
      by_cases h6 : i % 7 = 6
      · rw [tA_pass h0 h6] at ht
        have e := (Option.some.inj ht).symm
        subst e
        have eu : uA a (i + 1) = uA a i := if_neg (fun q => q.1 h6)
        have ed : dA set a (i + 1) = dA set a i := if_neg (fun q => q.1 h6)
        have eb : bS P s set (i + 1) = endB (bS P s set i) := if_pos h6
        rw [eu, ed, eb]
        show endB (bS P s set i) (uA a i * 4 + 0) ≤ 1000000 * (sPd t0 - sPd s) + dA set a i
        refine Nat.le_trans ?_ ih
        unfold endB
        rw [if_pos (by omega), Nat.add_zero]
        have : sTd t0 = 0 ∨ sTd t0 = 1 ∨ sTd t0 = 2 ∨ sTd t0 = 3 := by omega
        rcases this with e | e | e | e
        · rw [e]; exact Nat.le_trans (Nat.min_le_left _ _) (Nat.le_trans (Nat.min_le_left _ _) (Nat.min_le_left _ _))
        · rw [e]; omega
        · rw [e]; omega
        · rw [e]; omega
      · by_cases ha : a (i % 7) = i / 7
        · rw [tA_send h0 h6 ha] at ht
          by_cases hc : can P t0 (i % 7)
          · rw [if_pos hc] at ht
            have e := (Option.some.inj ht).symm
            subst e
            have hbs := (hv.2 (i % 7) (by omega)).2
            have eu : uA a (i + 1) = uA a i ||| 2 ^ (i % 7) := if_pos ⟨h6, ha⟩
            have ed : dA set a (i + 1) = dA set a i + (i / 7) * 10 ^ ones (set / 2 ^ (i % 7 + 1)) := if_pos ⟨h6, ha⟩
            have eb : bS P s set (i + 1) = stepB P s set (i % 7) (i / 7) (bS P s set i) := (if_neg h6).trans (if_pos hbs)
            have hpr := JA_price hJ hc.1 hc.2.1
            have hnb : ¬ bt (uA a i) (i % 7) := fun q => by have := (hub (i % 7) (by omega)).mp q; omega
            obtain ⟨e1, e2, e3⟩ := bit_add (uA a i) hu (i % 7) (by omega) hnb
            have hsub : uA a i &&& set = uA a i := bits_sub _ hu _ (by omega) (fun l hl q => (hv.2 l (by have := (hub l hl).mp q; omega)).2)
            have hcr := hc.2.2
            rw [eu, ed, eb, e1]
            show stepB P s set (i % 7) (i / 7) (bS P s set i) ((uA a i + 2 ^ (i % 7)) * 4 + (sTd t0 + 1)) ≤ 1000000 * (sPd t0 + price P t0 (i % 7) - sPd s) + _
            unfold stepB
            rw [show ((uA a i + 2 ^ (i % 7)) * 4 + (sTd t0 + 1)) / 4 = uA a i + 2 ^ (i % 7) by omega, show ((uA a i + 2 ^ (i % 7)) * 4 + (sTd t0 + 1)) % 4 = sTd t0 + 1 by omega, Nat.add_sub_cancel, Nat.add_sub_cancel, if_pos ⟨e2, by omega, by omega, hsub⟩]
            refine Nat.le_trans (Nat.min_le_right _ _) ?_
            unfold wN
            rw [← hpr]
            omega
          · rw [if_neg hc] at ht; cases ht
        · rw [tA_keep h0 h6 ha] at ht
          have e := (Option.some.inj ht).symm
          subst e
          have eu : uA a (i + 1) = uA a i := if_neg (fun q => ha q.2)
          have ed : dA set a (i + 1) = dA set a i := if_neg (fun q => ha q.2)
          rw [eu, ed]
          refine Nat.le_trans ?_ ih
          by_cases hbs : bt set (i % 7)
          · have eb : bS P s set (i + 1) = stepB P s set (i % 7) (i / 7) (bS P s set i) := (if_neg h6).trans (if_pos hbs)
            rw [eb]
            unfold stepB
            split
            · exact Nat.min_le_left _ _
            · exact Nat.le_refl _
          · have eb : bS P s set (i + 1) = bS P s set i := (if_neg h6).trans (if_neg hbs)
            rw [eb]
            exact Nat.le_refl _
theorem and_bt : ∀ a, a < 64 → ∀ b, b < 64 → ∀ k, k < 6 → (bt (a &&& b) k ↔ bt a k ∧ bt b k) := by decide +kernel
theorem min4 (x0 x1 x2 x3 : Nat) : min (min (min x0 x1) x2) x3 = x0 ∨ min (min (min x0 x1) x2) x3 = x1 ∨ min (min (min x0 x1) x2) x3 = x2 ∨ min (min (min x0 x1) x2) x3 = x3 := by omega
theorem hit_B {P : PT} {s : SN} {m set : Nat} (hP : Pok P) (ho : Sok P m s) (hm : m < 4000) (hset : set < 2 ^ pn P) (hdis : set &&& sSt s = 0) : ∀ i, i ≤ 28 → ∀ p, p < 256 → bS P s set i p < BIG → ∃ a t, VA set a ∧ tA P s a i = some t ∧ uA a i = p / 4 ∧ sTd t = p % 4 ∧ bS P s set i p = 1000000 * (sPd t - sPd s) + dA set a i := by
  intro i
  have hn6 := hP.1
  have h26 := two6 hP
  have hr3 := hP.2.2.1.2
  have hst := ho.2.1
  have hdb : ∀ l, l < 6 → bt set l → ¬ bt (sSt s) l := fun l hl h1 h2 => by
    have := and_bt set (by omega) (sSt s) (by omega) l hl
    rw [hdis] at this
    exact absurd (this.mpr ⟨h1, h2⟩) (by show ¬ (0 / 2 ^ l % 2 = 1); rw [Nat.zero_div]; decide)
  induction i with
  | zero =>
    intro _ p hp hb
    have hp : p = sTd s := by
      by_cases q : p = sTd s
      · exact q
      · have e : bS P s set 0 p = BIG := if_neg q
        rw [e] at hb
        exact absurd hb (Nat.lt_irrefl _)
    have htd := ho.2.2.1
    refine ⟨fun _ => 4, s, ⟨fun _ => Nat.le_refl _, fun l q => absurd (show 4 ≤ 3 from q) (by decide)⟩, rfl, by show 0 = _; omega, by omega, ?_⟩
    have e : bS P s set 0 p = 0 := if_pos hp
    rw [e, Nat.sub_self]; rfl
  | succ i ih =>
    intro hi p hp hb
    have ih := ih (by omega)
    by_cases h6 : i % 7 = 6
    · have eb : bS P s set (i + 1) = endB (bS P s set i) := if_pos h6
      rw [eb] at hb ⊢
      have hp4 : p % 4 = 0 := by
        by_cases q : p % 4 = 0
        · exact q
        · unfold endB at hb
          rw [if_neg q] at hb
          exact absurd hb (Nat.lt_irrefl _)
      have ee : endB (bS P s set i) p = min (min (min (bS P s set i p) (bS P s set i (p + 1))) (bS P s set i (p + 2))) (bS P s set i (p + 3)) := if_pos hp4
      obtain ⟨c, hc, hce⟩ : ∃ c, c < 4 ∧ endB (bS P s set i) p = bS P s set i (p + c) := by
        rw [ee]
        rcases min4 (bS P s set i p) (bS P s set i (p + 1)) (bS P s set i (p + 2)) (bS P s set i (p + 3)) with e | e | e | e
        · exact ⟨0, by decide, e⟩
        · exact ⟨1, by decide, e⟩
        · exact ⟨2, by decide, e⟩
        · exact ⟨3, by decide, e⟩
      rw [hce] at hb ⊢
      obtain ⟨a, t, v1, v2, v3, v4, v5⟩ := ih (p + c) (by omega) hb
      refine ⟨a, pass t, v1, tA_pass v2 h6, ?_, by show 0 = _; omega, ?_⟩
      · rw [show uA a (i + 1) = uA a i from if_neg (fun q => q.1 h6), v3]; omega
      · rw [show dA set a (i + 1) = dA set a i from if_neg (fun q => q.1 h6), v5]; rfl
    · have hkeep : bS P s set i p < BIG → ∃ a t, VA set a ∧ tA P s a (i + 1) = some t ∧ uA a (i + 1) = p / 4 ∧ sTd t = p % 4 ∧ bS P s set i p = 1000000 * (sPd t - sPd s) + dA set a (i + 1) := by
        intro hb
        obtain ⟨a, t, v1, v2, v3, v4, v5⟩ := ih p hp hb
        by_cases ha : a (i % 7) = i / 7
        · have hcg := cong_A (P := P) (s := s) (set := set) (a := a) (b := nset a (i % 7) 4) i (fun j hj hj6 => by
            by_cases e : j % 7 = i % 7
            · rw [e, nset_s]
              constructor
              · intro q; omega
              · intro q; omega
            · rw [nset_n _ _ e])
          have hn : ¬ nset a (i % 7) 4 (i % 7) = i / 7 := by rw [nset_s]; omega
          refine ⟨nset a (i % 7) 4, t, ⟨fun l => ?_, fun l q => ?_⟩, tA_keep (hcg.1 ▸ v2) h6 hn, ?_, v4, ?_⟩
          · unfold nset; split
            · exact Nat.le_refl _
            · exact v1.1 l
          · unfold nset at q; split at q
            · omega
            · exact v1.2 l q
          · rw [show uA (nset a (i % 7) 4) (i + 1) = uA (nset a (i % 7) 4) i from if_neg (fun q => hn q.2), ← hcg.2.1, v3]
          · rw [show dA set (nset a (i % 7) 4) (i + 1) = dA set (nset a (i % 7) 4) i from if_neg (fun q => hn q.2), ← hcg.2.2, v5]
        · refine ⟨a, t, v1, tA_keep v2 h6 ha, ?_, v4, ?_⟩
          · rw [show uA a (i + 1) = uA a i from if_neg (fun q => ha q.2), v3]
          · rw [show dA set a (i + 1) = dA set a i from if_neg (fun q => ha q.2), v5]
      have hr6 : i % 7 < 6 := by omega
      have hd3 : i / 7 ≤ 3 := by omega
      have hp64 : p / 4 < 64 := by omega
      by_cases hbs : bt set (i % 7)
      · have eb : bS P s set (i + 1) = stepB P s set (i % 7) (i / 7) (bS P s set i) := (if_neg h6).trans (if_pos hbs)
        rw [eb] at hb ⊢
        by_cases hc : bt (p / 4) (i % 7) ∧ 1 ≤ p % 4 ∧ p % 4 ≤ pr P ∧ (p / 4 - 2 ^ (i % 7)) &&& set = p / 4 - 2 ^ (i % 7)
        · have ee : stepB P s set (i % 7) (i / 7) (bS P s set i) p = min (bS P s set i p) (bS P s set i ((p / 4 - 2 ^ (i % 7)) * 4 + (p % 4 - 1)) + wN P s set (i % 7) (i / 7) (p / 4 - 2 ^ (i % 7))) := if_pos hc
          rw [ee] at hb ⊢
          rcases Nat.le_total (bS P s set i p) (bS P s set i ((p / 4 - 2 ^ (i % 7)) * 4 + (p % 4 - 1)) + wN P s set (i % 7) (i / 7) (p / 4 - 2 ^ (i % 7))) with hle | hle
          · rw [Nat.min_eq_left hle] at hb ⊢
            exact hkeep hb
          · rw [Nat.min_eq_right hle] at hb ⊢
            obtain ⟨b1, b2, b3⟩ := bit_sub (p / 4) hp64 (i % 7) hr6 hc.1
            have hu64 : p / 4 - 2 ^ (i % 7) < 64 := Nat.lt_of_le_of_lt (Nat.sub_le _ _) hp64
            have hi28 : i ≤ 28 := Nat.le_of_succ_le hi
            obtain ⟨a, t, v1, v2, v3, v4, v5⟩ := ih ((p / 4 - 2 ^ (i % 7)) * 4 + (p % 4 - 1)) (by omega) (Nat.lt_of_le_of_lt (Nat.le_add_right _ _) hb)
            rw [show ((p / 4 - 2 ^ (i % 7)) * 4 + (p % 4 - 1)) / 4 = p / 4 - 2 ^ (i % 7) by omega] at v3
            rw [show ((p / 4 - 2 ^ (i % 7)) * 4 + (p % 4 - 1)) % 4 = p % 4 - 1 by omega] at v4
            have hub := (uA_bt v1.1 i hi28).2 (i % 7) hr6
            rw [v3] at hub
            have hnu : ¬ a (i % 7) * 7 + i % 7 < i := fun q => b1 (hub.mpr q)
            have hcg := cong_A (P := P) (s := s) (set := set) (a := a) (b := nset a (i % 7) (i / 7)) i (fun j hj hj6 => by
              by_cases e : j % 7 = i % 7
              · rw [e, nset_s]
                constructor
                · intro q; omega
                · intro q; omega
              · rw [nset_n _ _ e])
            have hy : nset a (i % 7) (i / 7) (i % 7) = i / 7 := nset_s _ _ _
            have v2' : tA P s (nset a (i % 7) (i / 7)) i = some t := hcg.1 ▸ v2
            have hV : VA set (nset a (i % 7) (i / 7)) := by
              refine ⟨fun l => ?_, fun l q => ?_⟩
              · unfold nset; split
                · omega
                · exact v1.1 l
              · unfold nset at q; split at q
                · rename_i e; rw [e]; exact ⟨hr6, hbs⟩
                · exact v1.2 l q
            have hJ := JA_of hP ho hm hV.1 i (by omega) t v2'
            have eu : uA (nset a (i % 7) (i / 7)) i = p / 4 - 2 ^ (i % 7) := by rw [← hcg.2.1, v3]
            have hll : i % 7 < pn P := by
              rcases Nat.lt_or_ge (i % 7) (pn P) with q | q
              · exact q
              · exfalso
                have h1 : 2 ^ pn P ≤ 2 ^ (i % 7) := Nat.pow_le_pow_right (by decide) q
                have h2 : set / 2 ^ (i % 7) = 0 := Nat.div_eq_of_lt (by omega)
                have h3 : set / 2 ^ (i % 7) % 2 = 1 := hbs
                rw [h2] at h3
                exact absurd h3 (by decide)
            have hnb : ¬ bt (sSt t) (i % 7) := by
              rw [hJ.2.2.1, eu]
              intro q
              rcases (bt_or (sSt s) (by omega) _ hu64 (i % 7) (by omega)).mp q with q | q
              · exact hdb _ (by omega) hbs q
              · exact b1 q
            have hcan : can P t (i % 7) := ⟨hll, hnb, by omega⟩
            have hpr := JA_price hJ hll hnb
            refine ⟨nset a (i % 7) (i / 7), sendS P t (i % 7), hV, (tA_send v2' h6 hy).trans (if_pos hcan), ?_, by show sTd t + 1 = _; omega, ?_⟩
            · rw [show uA (nset a (i % 7) (i / 7)) (i + 1) = uA (nset a (i % 7) (i / 7)) i ||| 2 ^ (i % 7) from if_pos ⟨h6, hy⟩, eu, b3]
            · rw [show dA set (nset a (i % 7) (i / 7)) (i + 1) = dA set (nset a (i % 7) (i / 7)) i + (i / 7) * 10 ^ ones (set / 2 ^ (i % 7 + 1)) from if_pos ⟨h6, hy⟩, ← hcg.2.2, v5]
              show _ = 1000000 * (sPd t + price P t (i % 7) - sPd s) + _
              rw [hpr, eu]
              unfold wN
              have := hJ.2.2.2.2.1
              omega
        · have ee : stepB P s set (i % 7) (i / 7) (bS P s set i) p = bS P s set i p := if_neg hc
          rw [ee] at hb ⊢
          exact hkeep hb
      · have eb : bS P s set (i + 1) = bS P s set i := (if_neg h6).trans (if_neg hbs)
        rw [eb] at hb ⊢
        exact hkeep hb
