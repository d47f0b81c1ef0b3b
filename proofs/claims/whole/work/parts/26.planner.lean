/-! ===== the planner: its row, step by step ===== -/
abbrev BIG : Nat := 1152921504606846976
def BR (τ : xT) (b : Nat → Nat) : Prop := ∀ p, p < 256 → τ.2.1 70 p = lN (b p)
def Bok (b : Nat → Nat) : Prop := ∀ p, p < 256 → b p ≤ BIG
/-- what one more letter costs: six places of figures below its price -/
def wN (P : PT) (s : SN) (set l d u : Nat) : Nat := 1000000 * costIn P s l d (sSt s ||| u) + d * 10 ^ ones (set / 2 ^ (l + 1))
def stepB (P : PT) (s : SN) (set l d : Nat) (b : Nat → Nat) : Nat → Nat := fun p => if bt (p / 4) l ∧ 1 ≤ p % 4 ∧ p % 4 ≤ pr P ∧ (p / 4 - 2 ^ l) &&& set = p / 4 - 2 ^ l then min (b p) (b ((p / 4 - 2 ^ l) * 4 + (p % 4 - 1)) + wN P s set l d (p / 4 - 2 ^ l)) else b p
def endB (b : Nat → Nat) : Nat → Nat := fun p => if p % 4 = 0 then min (min (min (b p) (b (p + 1))) (b (p + 2))) (b (p + 3)) else BIG
def bS (P : PT) (s : SN) (set : Nat) : Nat → Nat → Nat
  | 0 => fun p => if p = sTd s then 0 else BIG
  | i + 1 => if i % 7 = 6 then endB (bS P s set i) else if bt set (i % 7) then stepB P s set (i % 7) (i / 7) (bS P s set i) else bS P s set i
theorem wN_le (P : PT) (s : SN) (set l d u : Nat) (hd : d ≤ 3) : wN P s set l d u ≤ 597000000 := by
  have h1 := costIn_le P s l d (sSt s ||| u)
  have h2 := pw_le (x := 10) (n := ones (set / 2 ^ (l + 1))) (by decide) (ones_le _)
  have h3 : d * 10 ^ ones (set / 2 ^ (l + 1)) ≤ 3 * 1000000 := Nat.mul_le_mul hd h2
  unfold wN
  omega
theorem stepB_ok {P : PT} {s : SN} {set l d : Nat} {b : Nat → Nat} (h : Bok b) : Bok (stepB P s set l d b) := by
  intro p hp
  have := h p hp
  unfold stepB
  split <;> omega
theorem endB_ok {b : Nat → Nat} (h : Bok b) : Bok (endB b) := by
  intro p hp
  have := h p hp
  unfold endB
  split <;> omega
theorem bS_ok (P : PT) (s : SN) (set : Nat) : ∀ i, Bok (bS P s set i) := by
  intro i
  induction i with
  | zero => intro p hp; show (if p = sTd s then 0 else BIG) ≤ BIG; split <;> omega
  | succ i ih =>
    unfold bS
    split
    · exact endB_ok ih
    · split
      · exact stepB_ok ih
      · exact ih
theorem shr_ones : ∀ set, set < 64 → ∀ l, l < 6 → nI set >>> (nI (l + 1) &&& 31) = nI (set / 2 ^ (l + 1)) := by decide +kernel
theorem bit_add : ∀ u, u < 64 → ∀ l, l < 6 → ¬ bt u l → u ||| 2 ^ l = u + 2 ^ l ∧ bt (u + 2 ^ l) l ∧ u + 2 ^ l < 64 := by decide +kernel
theorem bit_sub : ∀ x, x < 64 → ∀ l, l < 6 → bt x l → ¬ bt (x - 2 ^ l) l ∧ 2 ^ l ≤ x ∧ (x - 2 ^ l) ||| 2 ^ l = x := by decide +kernel
theorem lcmp_lt {a b : Nat} (ha : a < 2 ^ 62) (hb : b < 2 ^ 62) : (0 ≤ lg_cmp (lN a) (lN b)) ↔ b ≤ a := by
  rw [lg_cmp_ge]; exact pk_lLE (by omega) (by omega)
section PL
variable (cx : xC)
set_option maxHeartbeats 4000000
set_option maxRecDepth 100000
theorem c_bestAt (τ : xT) {b : Nat → Nat} (h : BR τ b) {p : Nat} (hp : p < 256) : CL cx m_X0_bestAt [.ref 69, .int (nI p)] PW τ (fun x τ' => τ' = τ ∧ x = lN (b p)) := by
  refine Ct_of (by decide) (Nat.le_of_ble_eq_true rfl) (lv := [(0, _), (1, _)]) rfl ?_
  refine X_iload_n (i := 1) (pc' := 1) dX0_bestAt_0 rfl rfl rfl ?_
  refine X_if_lt (pc' := 4) (tgt := 22) dX0_bestAt_1 rfl (by decide) (fun h_1 => absurd h_1 (nI_pos (by omega))) (fun h_1 => ?_)
  refine X_iload_n (i := 1) (pc' := 5) dX0_bestAt_4 rfl rfl rfl ?_
  refine X_aload_n (i := 0) (pc' := 6) dX0_bestAt_5 rfl rfl rfl ?_
  refine X_get (pc' := 9) (v := .ref 70) dX0_bestAt_6 rfl (gf_X0_11 _ rfl) o_W_69 rfl rfl ?_
  refine X_alen (pc' := 10) dX0_bestAt_9 rfl (Or.inl ⟨r_W_70, by decide⟩) ?_
  refine X_icmp_ge (pc' := 13) (tgt := 22) dX0_bestAt_10 rfl (by decide) (fun h_10 => absurd h_10 (nI_ge hp (by decide))) (fun h_10 => ?_)
  refine X_aload_n (i := 0) (pc' := 14) dX0_bestAt_13 rfl rfl rfl ?_
  refine X_get (pc' := 17) (v := .ref 70) dX0_bestAt_14 rfl (gf_X0_11 _ rfl) o_W_69 rfl rfl ?_
  refine X_iload_n (i := 1) (pc' := 18) dX0_bestAt_17 rfl rfl rfl ?_
  refine X_lald (pc' := 19) (j := p) dX0_bestAt_18 rfl r_W_70 (rfl) (hp) ?_
  refine X_eql (lN (b p)) (h p hp) ?_
  refine X_goto (pc' := 0) (tgt := 25) dX0_bestAt_19 (by decide) ?_
  refine X_rl dX0_bestAt_25 rfl ⟨rfl, rfl⟩ ?_
  exact ⟨rfl, rfl⟩
theorem c_lower (τ : xT) {b : Nat → Nat} (h : BR τ b) (hb : Bok b) {p v : Nat} (hp : p < 256) (hv : v < 2 ^ 62) : CV cx m_X0_lower [.ref 69, .int (nI p), .long (lN v)] PW τ (fun τ' => xeq [70] τ τ' ∧ BR τ' (nset b p (min (b p) v))) := by
  have hbp : b p ≤ 1152921504606846976 := hb p hp
  refine Ct_of (by decide) (Nat.le_of_ble_eq_true rfl) (lv := [(0, _), (1, _), (2, _)]) rfl ?_
  refine X_iload_n (i := 1) (pc' := 1) dX0_lower_0 rfl rfl rfl ?_
  refine X_if_lt (pc' := 4) (tgt := 31) dX0_lower_1 rfl (by decide) (fun h_1 => absurd h_1 (nI_pos (by omega))) (fun h_1 => ?_)
  refine X_iload_n (i := 1) (pc' := 5) dX0_lower_4 rfl rfl rfl ?_
  refine X_aload_n (i := 0) (pc' := 6) dX0_lower_5 rfl rfl rfl ?_
  refine X_get (pc' := 9) (v := .ref 70) dX0_lower_6 rfl (gf_X0_11 _ rfl) o_W_69 rfl rfl ?_
  refine X_alen (pc' := 10) dX0_lower_9 rfl (Or.inl ⟨r_W_70, by decide⟩) ?_
  refine X_icmp_ge (pc' := 13) (tgt := 31) dX0_lower_10 rfl (by decide) (fun h_10 => absurd h_10 (nI_ge hp (by decide))) (fun h_10 => ?_)
  refine X_lload_n (i := 2) (pc' := 14) dX0_lower_13 rfl rfl rfl ?_
  refine X_aload_n (i := 0) (pc' := 15) dX0_lower_14 rfl rfl rfl ?_
  refine X_get (pc' := 18) (v := .ref 70) dX0_lower_15 rfl (gf_X0_11 _ rfl) o_W_69 rfl rfl ?_
  refine X_iload_n (i := 1) (pc' := 19) dX0_lower_18 rfl rfl rfl ?_
  refine X_lald (pc' := 20) (j := p) dX0_lower_19 rfl r_W_70 (rfl) (hp) ?_
  refine X_eql (lN (b p)) (h p hp) ?_
  refine X_lcmp (pc' := 21) dX0_lower_20 rfl ?_
  refine X_if_ge (pc' := 24) (tgt := 31) dX0_lower_21 rfl (by decide) (fun h_21 => ?_) (fun h_21 => ?_)
  · refine X_rv dX0_lower_31 rfl ⟨rfl, rfl⟩ ?_
    first
      | (refine ⟨xeq.rf.sl (by decide), fun q hq => ?_⟩
         have hlt : v < b p := Nat.not_le.mp (fun q => h_21 ((lcmp_lt hv (by omega)).mpr q))
         rw [xsl_self, Nat.min_eq_right (by omega)]
         by_cases hqp : q = p
         · subst hqp; rw [pk_uLs, nset_s]
         · rw [pk_uLn hqp, nset_n _ _ hqp]; exact h q hq)
      | (refine ⟨xeq.rf, fun q hq => ?_⟩
         have hle : b p ≤ v := (lcmp_lt hv (by omega)).mp h_21
         rw [Nat.min_eq_left hle]
         by_cases hqp : q = p
         · subst hqp; rw [nset_s]; exact h q hq
         · rw [nset_n _ _ hqp]; exact h q hq)
  · refine X_aload_n (i := 0) (pc' := 25) dX0_lower_24 rfl rfl rfl ?_
    refine X_get (pc' := 28) (v := .ref 70) dX0_lower_25 rfl (gf_X0_11 _ rfl) o_W_69 rfl rfl ?_
    refine X_iload_n (i := 1) (pc' := 29) dX0_lower_28 rfl rfl rfl ?_
    refine X_lload_n (i := 2) (pc' := 30) dX0_lower_29 rfl rfl rfl ?_
    refine X_last (pc' := 31) (j := p) dX0_lower_30 rfl r_W_70 (rfl) (hp) ?_
    refine X_rv dX0_lower_31 rfl ⟨rfl, rfl⟩ ?_
    first
      | (refine ⟨xeq.rf.sl (by decide), fun q hq => ?_⟩
         have hlt : v < b p := Nat.not_le.mp (fun q => h_21 ((lcmp_lt hv (by omega)).mpr q))
         rw [xsl_self, Nat.min_eq_right (by omega)]
         by_cases hqp : q = p
         · subst hqp; rw [pk_uLs, nset_s]
         · rw [pk_uLn hqp, nset_n _ _ hqp]; exact h q hq)
      | (refine ⟨xeq.rf, fun q hq => ?_⟩
         have hle : b p ≤ v := (lcmp_lt hv (by omega)).mp h_21
         rw [Nat.min_eq_left hle]
         by_cases hqp : q = p
         · subst hqp; rw [nset_s]; exact h q hq
         · rw [nset_n _ _ hqp]; exact h q hq)
/-- the row while a letter is tried: the sets below u are through, and of u the first j -/
def tryB (P : PT) (s : SN) (set l d u j : Nat) (b : Nat → Nat) : Nat → Nat := fun p => if (bt (p / 4) l ∧ 1 ≤ p % 4 ∧ p % 4 ≤ pr P ∧ (p / 4 - 2 ^ l) &&& set = p / 4 - 2 ^ l) ∧ (p / 4 - 2 ^ l < u ∨ (p / 4 - 2 ^ l = u ∧ p % 4 ≤ j)) then min (b p) (b ((p / 4 - 2 ^ l) * 4 + (p % 4 - 1)) + wN P s set l d (p / 4 - 2 ^ l)) else b p
theorem tryB_ok {P : PT} {s : SN} {set l d u j : Nat} {b : Nat → Nat} (h : Bok b) : Bok (tryB P s set l d u j b) := by
  intro p hp
  have := h p hp
  unfold tryB
  split <;> omega
theorem BR.congr {τ : xT} {b b' : Nat → Nat} (h : BR τ b) (hb : ∀ p, p < 256 → b p = b' p) : BR τ b' := fun p hp => by rw [← hb p hp]; exact h p hp
theorem tryB_next {P : PT} {s : SN} {set l d u : Nat} {b : Nat → Nat} (hl : l < 6) (hu : u < 64) : (¬ (u &&& set = u) ∨ bt u l) → ∀ p, p < 256 → tryB P s set l d u 0 b p = tryB P s set l d (u + 1) 0 b p := by
  intro hn p hp
  unfold tryB
  by_cases hc : bt (p / 4) l ∧ 1 ≤ p % 4 ∧ p % 4 ≤ pr P ∧ (p / 4 - 2 ^ l) &&& set = p / 4 - 2 ^ l
  · have hx := bit_sub (p / 4) (by omega) l hl hc.1
    have hne : p / 4 - 2 ^ l ≠ u := by
      intro e
      rw [e] at hx hc
      rcases hn with q | q
      · exact q hc.2.2.2
      · exact hx.1 q
    by_cases h1 : p / 4 - 2 ^ l < u
    · rw [if_pos ⟨hc, Or.inl h1⟩, if_pos ⟨hc, Or.inl (by omega)⟩]
    · rw [if_neg (fun q => q.2.elim h1 (fun q => hne q.1)), if_neg (fun q => q.2.elim (by omega) (fun q => by have := q.2; omega))]
  · rw [if_neg (fun q => hc q.1), if_neg (fun q => hc q.1)]
theorem tryB_in {P : PT} {s : SN} {set l d u : Nat} {b : Nat → Nat} (hl : l < 6) (hu : u < 64) (h1 : u &&& set = u) (h2 : ¬ bt u l) {j : Nat} (hj : j < pr P) (hr : pr P ≤ 3) : ∀ p, p < 256 → nset (tryB P s set l d u j b) ((u ||| 2 ^ l) * 4 + j + 1) (min (tryB P s set l d u j b ((u ||| 2 ^ l) * 4 + j + 1)) (tryB P s set l d u j b (u * 4 + j) + wN P s set l d u)) p = tryB P s set l d u (j + 1) b p := by
  intro p hp
  obtain ⟨e1, e2, e3⟩ := bit_add u hu l hl h2
  rw [e1]
  have hsrc : tryB P s set l d u j b (u * 4 + j) = b (u * 4 + j) := by
    unfold tryB
    rw [if_neg (fun q => h2 (by have := q.1.1; rwa [show (u * 4 + j) / 4 = u by omega] at this))]
  have hdst : tryB P s set l d u j b ((u + 2 ^ l) * 4 + j + 1) = b ((u + 2 ^ l) * 4 + j + 1) := by
    unfold tryB
    rw [if_neg]
    rw [show ((u + 2 ^ l) * 4 + j + 1) / 4 = u + 2 ^ l by omega, show ((u + 2 ^ l) * 4 + j + 1) % 4 = j + 1 by omega, Nat.add_sub_cancel]
    intro q
    rcases q.2 with q | q <;> omega
  by_cases hpe : p = (u + 2 ^ l) * 4 + j + 1
  · subst hpe
    rw [nset_s, hsrc, hdst]
    unfold tryB
    rw [show ((u + 2 ^ l) * 4 + j + 1) / 4 = u + 2 ^ l by omega, show ((u + 2 ^ l) * 4 + j + 1) % 4 = j + 1 by omega, Nat.add_sub_cancel, if_pos ⟨⟨e2, by omega, by omega, h1⟩, Or.inr ⟨rfl, by omega⟩⟩, Nat.add_sub_cancel]
  · rw [nset_n _ _ hpe]
    unfold tryB
    by_cases hc : bt (p / 4) l ∧ 1 ≤ p % 4 ∧ p % 4 ≤ pr P ∧ (p / 4 - 2 ^ l) &&& set = p / 4 - 2 ^ l
    · have hx := bit_sub (p / 4) (by omega) l hl hc.1
      by_cases h3 : p / 4 - 2 ^ l < u ∨ (p / 4 - 2 ^ l = u ∧ p % 4 ≤ j)
      · rw [if_pos ⟨hc, h3⟩, if_pos ⟨hc, h3.elim Or.inl (fun q => Or.inr ⟨q.1, by omega⟩)⟩]
      · rw [if_neg (fun q => h3 q.2), if_neg]
        intro q
        rcases q.2 with q | q
        · exact h3 (Or.inl q)
        · have : p % 4 = j + 1 := by
            rcases Nat.lt_or_ge j (p % 4) with r | r
            · omega
            · exact absurd (Or.inr ⟨q.1, r⟩) h3
          omega
    · rw [if_neg (fun q => hc q.1), if_neg (fun q => hc q.1)]
theorem tryB_end {P : PT} {s : SN} {set l d u : Nat} {b : Nat → Nat} : ∀ p, p < 256 → tryB P s set l d u (pr P) b p = tryB P s set l d (u + 1) 0 b p := by
  intro p hp
  unfold tryB
  by_cases hc : bt (p / 4) l ∧ 1 ≤ p % 4 ∧ p % 4 ≤ pr P ∧ (p / 4 - 2 ^ l) &&& set = p / 4 - 2 ^ l
  · by_cases h1 : p / 4 - 2 ^ l < u + 1
    · rw [if_pos ⟨hc, by rcases Nat.lt_or_ge (p / 4 - 2 ^ l) u with q | q; exact Or.inl q; exact Or.inr ⟨by omega, hc.2.2.1⟩⟩, if_pos ⟨hc, Or.inl h1⟩]
    · rw [if_neg (fun q => by rcases q.2 with q | q <;> omega), if_neg (fun q => by rcases q.2 with q | q <;> omega)]
  · rw [if_neg (fun q => hc q.1), if_neg (fun q => hc q.1)]
theorem l_tryIn (τ0 τ' : xT) {P : PT} {s : SN} {m : Nat} (h : Qw τ0 P s m) {b : Nat → Nat} (hb : Bok b) {set l d u : Nat} (hset : set < 64) (hl : l < pn P) (hd : d ≤ 3) (hu : u < 64) (g1 : xeq [70] τ0 τ') (hsub : u &&& set = u) (hnb : ¬ bt u l) {Q : Option Value → xP → xT → Prop} {fg : Int64}
    (hx : ∀ τ3 : xT, xeq [70] τ' τ3 → BR τ3 (tryB P s set l d u (pr P) b) → X cx m_X0_tryLetter PW Q 23 [(8, .int (nI (u + 1))), (6, .long fg), (0, .ref 69), (1, .ref 8), (2, .ref 12), (3, .int (nI set)), (4, .int (nI l)), (5, .int (nI d))] [] PW τ3) : ∀ (j : Nat) (τ2 : xT), j ≤ pr P → (xeq [70] τ' τ2 ∧ BR τ2 (tryB P s set l d u j b)) → X cx m_X0_tryLetter PW Q 93 [(12, .int (nI j)), (11, .int (nI ((u ||| 2 ^ l) * 4))), (9, .long (lN (wN P s set l d u))), (8, .int (nI u)), (6, .long fg), (0, .ref 69), (1, .ref 8), (2, .ref 12), (3, .int (nI set)), (4, .int (nI l)), (5, .int (nI d))] [] PW τ2 := by
  obtain ⟨hT, hs, hP, ho, hm⟩ := h
  have hn6 := hP.1
  have hr := hP.2.2.1
  have h2l : 2 ^ l < 2 ^ 6 := pow_lt (by omega)
  have hor2 : u ||| 2 ^ l < 2 ^ 6 := Nat.or_lt_two_pow (by omega) (by omega)
  have hw := wN_le P s set l d u hd
  refine xloop _ _ (pr P) (fun τ2 h2 => ?_) (fun j τ2 hj h2 ih => ?_)
  · have hT2 := (hT.kept g1 (by decide) (by decide) (by decide)).kept h2.1 (by decide) (by decide) (by decide)
    refine X_iload (pc' := 95) dX0_tryLetter_93 rfl rfl ?_
    refine X_aload_n (i := 1) (pc' := 96) dX0_tryLetter_95 rfl rfl rfl ?_
    refine X_get (pc' := 99) (v := .int _) dX0_tryLetter_96 rfl (gf_X0_75 _ rfl) o_W_8 rfl rfl ?_
    refine X_eqi (nI (pr P)) (hT2.2.1) ?_
    refine X_icmp_ge (pc' := 102) (tgt := 133) dX0_tryLetter_99 rfl (by decide) (fun h_99 => ?_) (fun h_99 => absurd (nI_le (Nat.le_refl _) (by omega)) h_99)
    refine X_iinc (pc' := 136) (v := nI (u + 1)) (lv' := [(8, _), (12, _), (11, _), (9, _), (6, _), (0, _), (1, _), (2, _), (3, _), (4, _), (5, _)]) dX0_tryLetter_133 rfl rfl ((nI_succ u).symm) (Nat.le_of_ble_eq_true rfl) rfl ?_
    refine X_goto (pc' := 0) (tgt := 23) dX0_tryLetter_136 (by decide) ?_
    exact X_lv _ (by simp) (hx τ2 h2.1 h2.2)
  · have hT2 := (hT.kept g1 (by decide) (by decide) (by decide)).kept h2.1 (by decide) (by decide) (by decide)
    have hok := tryB_ok (P := P) (s := s) (set := set) (l := l) (d := d) (u := u) (j := j) hb
    have hok1 : tryB P s set l d u j b (u * 4 + j) ≤ 1152921504606846976 := hok (u * 4 + j) (by omega)
    refine X_iload (pc' := 95) dX0_tryLetter_93 rfl rfl ?_
    refine X_aload_n (i := 1) (pc' := 96) dX0_tryLetter_95 rfl rfl rfl ?_
    refine X_get (pc' := 99) (v := .int _) dX0_tryLetter_96 rfl (gf_X0_75 _ rfl) o_W_8 rfl rfl ?_
    refine X_eqi (nI (pr P)) (hT2.2.1) ?_
    refine X_icmp_ge (pc' := 102) (tgt := 133) dX0_tryLetter_99 rfl (by decide) (fun h_99 => absurd h_99 (nI_ge hj (by omega))) (fun h_99 => ?_)
    refine X_aload_n (i := 0) (pc' := 103) dX0_tryLetter_102 rfl rfl rfl ?_
    refine X_iload (pc' := 105) dX0_tryLetter_103 rfl rfl ?_
    refine X_iload (pc' := 107) dX0_tryLetter_105 rfl rfl ?_
    refine X_iadd (pc' := 108) dX0_tryLetter_107 rfl ?_
    refine X_eqi (nI ((u ||| 2 ^ l) * 4 + j)) (nI_add _ _) ?_
    refine X_iconst (pc' := 109) (v := nI 1) dX0_tryLetter_108 rfl (by decide) ?_
    refine X_iadd (pc' := 110) dX0_tryLetter_109 rfl ?_
    refine X_eqi (nI ((u ||| 2 ^ l) * 4 + j + 1)) (nI_add _ _) ?_
    refine X_aload_n (i := 0) (pc' := 111) dX0_tryLetter_110 rfl rfl rfl ?_
    refine X_iload (pc' := 113) dX0_tryLetter_111 rfl rfl ?_
    refine X_iconst (pc' := 114) (v := nI 4) dX0_tryLetter_113 rfl (by decide) ?_
    refine X_imul (pc' := 115) dX0_tryLetter_114 rfl ?_
    refine X_eqi (nI (u * 4)) (pk_mul _ _) ?_
    refine X_iload (pc' := 117) dX0_tryLetter_115 rfl rfl ?_
    refine X_iadd (pc' := 118) dX0_tryLetter_117 rfl ?_
    refine X_eqi (nI (u * 4 + j)) (nI_add _ _) ?_
    refine X_OLp (As := [_]) (rest := [_, _]) (pc' := 121) dX0_tryLetter_118 rfl k_X0_bestAt l_X0_44 v_X0_bestAt o_W_69 rfl ⟨by decide, by decide⟩ rfl rfl (Nat.le_of_ble_eq_true rfl) (c_bestAt cx τ2 h2.2 (by omega)) ?_
    refine X_lload (pc' := 123) dX0_tryLetter_121 rfl rfl ?_
    refine X_ladd (pc' := 124) dX0_tryLetter_123 rfl ?_
    refine X_eql (lN (tryB P s set l d u j b (u * 4 + j) + wN P s set l d u)) (lN_add _ _) ?_
    refine X_OV (As := [_, _]) (rest := []) (pc' := 127) dX0_tryLetter_124 rfl k_X0_lower l_X0_29 v_X0_lower o_W_69 rfl ⟨by decide, by decide⟩ rfl rfl (Nat.le_of_ble_eq_true rfl) (c_lower cx τ2 h2.2 hok (p := (u ||| 2 ^ l) * 4 + j + 1) (by omega) (by omega)) (fun τ_124 h_124 => ?_)
    refine X_iinc (pc' := 130) (v := nI (j + 1)) (lv' := [(12, _), (11, _), (9, _), (8, _), (6, _), (0, _), (1, _), (2, _), (3, _), (4, _), (5, _)]) dX0_tryLetter_127 rfl rfl ((nI_succ j).symm) (Nat.le_of_ble_eq_true rfl) rfl ?_
    refine X_goto (pc' := 0) (tgt := 93) dX0_tryLetter_130 (by decide) ?_
    exact X_lv _ (by simp) (ih τ_124 ⟨h2.1.tr h_124.1, h_124.2.congr (tryB_in (by omega) hu hsub hnb hj hr.2)⟩)
theorem c_tryLetter (τ : xT) {P : PT} {s : SN} {m : Nat} (h : Qw τ P s m) {b : Nat → Nat} (hB : BR τ b) (hb : Bok b) {set l d : Nat} (hset : set < 64) (hl : l < pn P) (hd : d ≤ 3) : CV cx m_X0_tryLetter [.ref 69, .ref 8, .ref 12, .int (nI set), .int (nI l), .int (nI d)] PW τ (fun τ' => xeq [70] τ τ' ∧ BR τ' (stepB P s set l d b)) := by
  have h' := h
  obtain ⟨hT, hs, hP, ho, hm⟩ := h'
  have hn6 := hP.1
  have h26 := two6 hP
  have hst := ho.2.1
  have hr := hP.2.2.1
  have h2l : 2 ^ l < 2 ^ 6 := pow_lt (by omega)
  refine Ct_of (by decide) (Nat.le_of_ble_eq_true rfl) (lv := [(0, _), (1, _), (2, _), (3, _), (4, _), (5, _)]) rfl ?_
  have hlp : ∀ (u : Nat) (τ' : xT), u ≤ 64 → (xeq [70] τ τ' ∧ BR τ' (tryB P s set l d u 0 b)) → X cx m_X0_tryLetter PW (qV PW (fun τ' => xeq [70] τ τ' ∧ BR τ' (stepB P s set l d b))) 23 [(8, .int (nI u)), (6, .long (lN (d * 10 ^ ones (set / 2 ^ (l + 1))))), (0, .ref 69), (1, .ref 8), (2, .ref 12), (3, .int (nI set)), (4, .int (nI l)), (5, .int (nI d))] [] PW τ' := by
    refine xloop _ _ 64 (fun τ' h2 => ?_) (fun u τ' hu h2 ih => ?_)
    · refine X_iload (pc' := 25) dX0_tryLetter_23 rfl rfl ?_
      refine X_bipush (pc' := 27) (v := nI 64) dX0_tryLetter_25 rfl (by decide) ?_
      refine X_icmp_ge (pc' := 30) (tgt := 139) dX0_tryLetter_27 rfl (by decide) (fun h_27 => ?_) (fun h_27 => absurd (nI_le (Nat.le_refl _) (by decide)) h_27)
      refine X_rv dX0_tryLetter_139 rfl ⟨rfl, rfl⟩ ?_
      refine ⟨h2.1, h2.2.congr (fun p hp => ?_)⟩
      unfold tryB stepB
      by_cases hc : bt (p / 4) l ∧ 1 ≤ p % 4 ∧ p % 4 ≤ pr P ∧ (p / 4 - 2 ^ l) &&& set = p / 4 - 2 ^ l
      · rw [if_pos hc, if_pos ⟨hc, Or.inl (Nat.lt_of_le_of_lt (Nat.sub_le _ _) (by omega))⟩]
      · rw [if_neg hc, if_neg (fun q => hc q.1)]
    · obtain ⟨g1, g2⟩ := h2
      have hq2 := h.kept g1 (by decide)
      have hc1 := costIn_le P s l d (sSt s ||| u)
      have hw := wN_le P s set l d u hd
      have hor : sSt s ||| u < 2 ^ 6 := Nat.or_lt_two_pow (by omega) (by omega)
      have hor2 : u ||| 2 ^ l < 2 ^ 6 := Nat.or_lt_two_pow (by omega) (by omega)
      refine X_iload (pc' := 25) dX0_tryLetter_23 rfl rfl ?_
      refine X_bipush (pc' := 27) (v := nI 64) dX0_tryLetter_25 rfl (by decide) ?_
      refine X_icmp_ge (pc' := 30) (tgt := 139) dX0_tryLetter_27 rfl (by decide) (fun h_27 => absurd h_27 (nI_ge hu (by decide))) (fun h_27 => ?_)
      refine X_iload (pc' := 32) dX0_tryLetter_30 rfl rfl ?_
      refine X_iload_n (i := 3) (pc' := 33) dX0_tryLetter_32 rfl rfl rfl ?_
      refine X_NIp (As := [_, _]) (rest := []) (pc' := 36) dX0_tryLetter_33 rfl k_X4_within l_X0_60 s_X4_within ⟨by decide, by decide⟩ rfl rfl (Nat.le_of_ble_eq_true rfl) (c_X4_within cx τ' u set hu hset) ?_
      refine X_if_eq (pc' := 39) (tgt := 133) dX0_tryLetter_36 rfl (by decide) (fun h_36 => ?_) (fun h_36 => ?_)
      · refine X_iinc (pc' := 136) (v := nI (u + 1)) (lv' := [(8, _), (6, _), (0, _), (1, _), (2, _), (3, _), (4, _), (5, _)]) dX0_tryLetter_133 rfl rfl ((nI_succ u).symm) (Nat.le_of_ble_eq_true rfl) rfl ?_
        refine X_goto (pc' := 0) (tgt := 23) dX0_tryLetter_136 (by decide) ?_
        first
          | exact X_lv _ (by simp) (ih τ' ⟨g1, g2.congr (tryB_next (by omega) hu (Or.inl (zI_0.mp h_36)))⟩)
          | exact X_lv _ (by simp) (ih τ' ⟨g1, g2.congr (tryB_next (by omega) hu (Or.inr (zI_1 h_46)))⟩)
      · refine X_iload (pc' := 41) dX0_tryLetter_39 rfl rfl ?_
        refine X_iload (pc' := 43) dX0_tryLetter_41 rfl rfl ?_
        refine X_NIp (As := [_, _]) (rest := []) (pc' := 46) dX0_tryLetter_43 rfl k_X4_has l_X0_33 s_X4_has ⟨by decide, by decide⟩ rfl rfl (Nat.le_of_ble_eq_true rfl) (c_X4_has cx τ' u l (by omega) (by omega)) ?_
        refine X_if_eq (pc' := 49) (tgt := 52) dX0_tryLetter_46 rfl (by decide) (fun h_46 => ?_) (fun h_46 => ?_)
        · refine X_ldc2 (pc' := 55) (v := lN 1000000) dX0_tryLetter_52 rfl cn_X0_48 ?_
          refine X_aload_n (i := 1) (pc' := 56) dX0_tryLetter_55 rfl rfl rfl ?_
          refine X_aload_n (i := 2) (pc' := 57) dX0_tryLetter_56 rfl rfl rfl ?_
          refine X_iload (pc' := 59) dX0_tryLetter_57 rfl rfl ?_
          refine X_iload (pc' := 61) dX0_tryLetter_59 rfl rfl ?_
          refine X_aload_n (i := 2) (pc' := 62) dX0_tryLetter_61 rfl rfl rfl ?_
          refine X_get (pc' := 65) (v := .int _) dX0_tryLetter_62 rfl (gf_X0_63 _ rfl) o_W_12 rfl rfl ?_
          refine X_eqi (nI (sSt s)) (hq2.2.1.2.1) ?_
          refine X_iload (pc' := 67) dX0_tryLetter_65 rfl rfl ?_
          refine X_ior (pc' := 68) dX0_tryLetter_67 rfl ?_
          refine X_eqi (nI (sSt s ||| u)) (nI_or (by omega) (by omega)) ?_
          refine X_OIp (As := [_, _, _, _]) (rest := [_]) (pc' := 71) dX0_tryLetter_68 rfl k_X3_costIn l_X0_66 v_X3_costIn o_W_8 rfl ⟨by decide, by decide⟩ rfl rfl (Nat.le_of_ble_eq_true rfl) (c_costIn cx τ' hP hq2.1 (by decide) hq2.2.1 ho (by omega) hl (by omega) hor) ?_
          refine X_i2l (pc' := 72) dX0_tryLetter_71 rfl ?_
          refine X_lmul (pc' := 73) dX0_tryLetter_72 rfl ?_
          refine X_lload (pc' := 75) dX0_tryLetter_73 rfl rfl ?_
          refine X_ladd (pc' := 76) dX0_tryLetter_75 rfl ?_
          refine X_eql (lN (wN P s set l d u)) (by rw [nI_l (by omega), lN_mul, lN_add]; rfl) ?_
          refine X_lstore (pc' := 78) (lv' := [(9, _), (8, _), (6, _), (0, _), (1, _), (2, _), (3, _), (4, _), (5, _)]) dX0_tryLetter_76 rfl (Nat.le_of_ble_eq_true rfl) rfl ?_
          refine X_iload (pc' := 80) dX0_tryLetter_78 rfl rfl ?_
          refine X_iload (pc' := 82) dX0_tryLetter_80 rfl rfl ?_
          refine X_NIp (As := [_]) (rest := [_]) (pc' := 85) dX0_tryLetter_82 rfl k_X4_bit l_X0_72 s_X4_bit ⟨by decide, by decide⟩ rfl rfl (Nat.le_of_ble_eq_true rfl) (c_X4_bit cx τ' l (by omega)) ?_
          refine X_ior (pc' := 86) dX0_tryLetter_85 rfl ?_
          refine X_eqi (nI (u ||| 2 ^ l)) (nI_or (by omega) (by omega)) ?_
          refine X_iconst (pc' := 87) (v := nI 4) dX0_tryLetter_86 rfl (by decide) ?_
          refine X_imul (pc' := 88) dX0_tryLetter_87 rfl ?_
          refine X_eqi (nI ((u ||| 2 ^ l) * 4)) (pk_mul _ _) ?_
          refine X_istore (pc' := 90) (lv' := [(11, _), (9, _), (8, _), (6, _), (0, _), (1, _), (2, _), (3, _), (4, _), (5, _)]) dX0_tryLetter_88 rfl (Nat.le_of_ble_eq_true rfl) rfl ?_
          refine X_iconst (pc' := 91) (v := nI 0) dX0_tryLetter_90 rfl (by decide) ?_
          refine X_istore (pc' := 93) (lv' := [(12, _), (11, _), (9, _), (8, _), (6, _), (0, _), (1, _), (2, _), (3, _), (4, _), (5, _)]) dX0_tryLetter_91 rfl (Nat.le_of_ble_eq_true rfl) rfl ?_
          have hsub := zI_1 h_36
          have hnb := zI_0.mp h_46
          have hlp2 : ∀ (j : Nat) (τ2 : xT), j ≤ pr P → (xeq [70] τ' τ2 ∧ BR τ2 (tryB P s set l d u j b)) → X cx m_X0_tryLetter PW (qV PW (fun τ' => xeq [70] τ τ' ∧ BR τ' (stepB P s set l d b))) 93 [(12, .int (nI j)), (11, .int (nI ((u ||| 2 ^ l) * 4))), (9, .long (lN (wN P s set l d u))), (8, .int (nI u)), (6, .long (lN (d * 10 ^ ones (set / 2 ^ (l + 1))))), (0, .ref 69), (1, .ref 8), (2, .ref 12), (3, .int (nI set)), (4, .int (nI l)), (5, .int (nI d))] [] PW τ2 := l_tryIn cx τ τ' h hb hset hl hd hu g1 hsub hnb (fun τ3 k1 k2 => ih τ3 ⟨g1.tr k1, k2.congr (tryB_end (set := set))⟩)
          exact X_lv _ (by simp) (hlp2 0 τ' (by omega) ⟨xeq.rf, g2⟩)
        · refine X_goto (pc' := 0) (tgt := 133) dX0_tryLetter_49 (by decide) ?_
          refine X_iinc (pc' := 136) (v := nI (u + 1)) (lv' := [(8, _), (6, _), (0, _), (1, _), (2, _), (3, _), (4, _), (5, _)]) dX0_tryLetter_133 rfl rfl ((nI_succ u).symm) (Nat.le_of_ble_eq_true rfl) rfl ?_
          refine X_goto (pc' := 0) (tgt := 23) dX0_tryLetter_136 (by decide) ?_
          first
            | exact X_lv _ (by simp) (ih τ' ⟨g1, g2.congr (tryB_next (by omega) hu (Or.inl (zI_0.mp h_36)))⟩)
            | exact X_lv _ (by simp) (ih τ' ⟨g1, g2.congr (tryB_next (by omega) hu (Or.inr (zI_1 h_46)))⟩)
  refine X_iload (pc' := 2) dX0_tryLetter_0 rfl rfl ?_
  refine X_i2l (pc' := 3) dX0_tryLetter_2 rfl ?_
  refine X_bipush (pc' := 5) (v := nI 10) dX0_tryLetter_3 rfl (by decide) ?_
  refine X_iload_n (i := 3) (pc' := 6) dX0_tryLetter_5 rfl rfl rfl ?_
  refine X_iload (pc' := 8) dX0_tryLetter_6 rfl rfl ?_
  refine X_iconst (pc' := 9) (v := nI 1) dX0_tryLetter_8 rfl (by decide) ?_
  refine X_iadd (pc' := 10) dX0_tryLetter_9 rfl ?_
  refine X_eqi (nI (l + 1)) (nI_add _ _) ?_
  refine X_ishr (pc' := 11) dX0_tryLetter_10 rfl ?_
  refine X_eqi (nI (set / 2 ^ (l + 1))) (shr_ones set hset l (by omega)) ?_
  refine X_SIp (As := [_]) (rest := [_, _]) (pc' := 14) dX0_tryLetter_11 rfl k_J6_bitCount_0f7a4 l_X0_50 s_J6_bitCount_0f7a4 ⟨by decide, by decide⟩ rfl rfl (Nat.le_of_ble_eq_true rfl) (c_bc cx τ (set / 2 ^ (l + 1)) (Nat.lt_of_le_of_lt (Nat.div_le_self _ _) hset)) ?_
  refine X_NLp (As := [_, _]) (rest := [_]) (pc' := 17) dX0_tryLetter_14 rfl k_X4_power l_X0_56 s_X4_power ⟨by decide, by decide⟩ rfl rfl (Nat.le_of_ble_eq_true rfl) (c_power cx τ 10 (ones (set / 2 ^ (l + 1))) (by decide) (by have := ones_le (set / 2 ^ (l + 1)); omega)) ?_
  refine X_lmul (pc' := 18) dX0_tryLetter_17 rfl ?_
  refine X_eql (lN (d * 10 ^ ones (set / 2 ^ (l + 1)))) (by rw [nI_l (by omega), lN_mul]) ?_
  refine X_lstore (pc' := 20) (lv' := [(6, _), (0, _), (1, _), (2, _), (3, _), (4, _), (5, _)]) dX0_tryLetter_18 rfl (Nat.le_of_ble_eq_true rfl) rfl ?_
  refine X_iconst (pc' := 21) (v := nI 0) dX0_tryLetter_20 rfl (by decide) ?_
  refine X_istore (pc' := 23) (lv' := [(8, _), (6, _), (0, _), (1, _), (2, _), (3, _), (4, _), (5, _)]) dX0_tryLetter_21 rfl (Nat.le_of_ble_eq_true rfl) rfl ?_
  refine X_lv _ (by simp) (hlp 0 τ (by omega) ⟨xeq.rf, hB.congr (fun p hp => ?_)⟩)
  unfold tryB
  rw [if_neg (fun q => by rcases q.2 with q | q <;> omega)]
/-- the row while a day ends: the sets below x are through, and of x the first j -/
def endJ (x j : Nat) (b : Nat → Nat) : Nat → Nat := fun p => if p / 4 < x then endB b p else if p / 4 = x then (if p % 4 = 0 then (if j = 0 then b p else if j = 1 then min (b p) (b (p + 1)) else if j = 2 then min (min (b p) (b (p + 1))) (b (p + 2)) else min (min (min (b p) (b (p + 1))) (b (p + 2))) (b (p + 3))) else if p % 4 ≤ j then BIG else b p) else b p
theorem endJ_ok {x j : Nat} {b : Nat → Nat} (h : Bok b) : Bok (endJ x j b) := by
  intro p hp
  have h1 := h p hp
  have h2 := endB_ok h p hp
  unfold endJ
  split
  · exact h2
  · split
    · split
      · split
        · exact h1
        · split
          · omega
          · split <;> omega
      · split <;> omega
    · exact h1
theorem endJ_in {x j : Nat} {b : Nat → Nat} (hx : x < 64) (hj : j < 3) : ∀ p, p < 256 → nset (nset (endJ x j b) (x * 4) (min (endJ x j b (x * 4)) (endJ x j b (x * 4 + (j + 1))))) (x * 4 + (j + 1)) BIG p = endJ x (j + 1) b p := by
  intro p hp
  have e1 : (x * 4) / 4 = x := by omega
  have e2 : (x * 4) % 4 = 0 := by omega
  have e3 : (x * 4 + (j + 1)) / 4 = x := by omega
  have e4 : (x * 4 + (j + 1)) % 4 = j + 1 := by omega
  have hsrc : endJ x j b (x * 4 + (j + 1)) = b (x * 4 + (j + 1)) := by
    unfold endJ
    rw [e3, e4, if_neg (Nat.lt_irrefl _), if_pos rfl, if_neg (by omega), if_neg (by omega)]
  by_cases h1 : p = x * 4 + (j + 1)
  · subst h1
    rw [nset_s]
    unfold endJ
    rw [e3, e4, if_neg (Nat.lt_irrefl _), if_pos rfl, if_neg (by omega), if_pos (by omega)]
  · rw [nset_n _ _ h1]
    by_cases h2 : p = x * 4
    · subst h2
      rw [nset_s, hsrc]
      unfold endJ
      rw [e1, e2, if_neg (Nat.lt_irrefl _), if_pos rfl, if_pos rfl, if_neg (Nat.lt_irrefl _), if_pos rfl, if_pos rfl]
      have : j = 0 ∨ j = 1 ∨ j = 2 := by omega
      rcases this with rfl | rfl | rfl <;> simp
    · rw [nset_n _ _ h2]
      unfold endJ
      by_cases h3 : p / 4 < x
      · rw [if_pos h3, if_pos h3]
      · rw [if_neg h3, if_neg h3]
        by_cases h4 : p / 4 = x
        · have hm4 : ¬ p % 4 = 0 := by omega
          rw [if_pos h4, if_pos h4, if_neg hm4, if_neg hm4]
          by_cases h5 : p % 4 ≤ j
          · rw [if_pos h5, if_pos (show p % 4 ≤ j + 1 by omega)]
          · rw [if_neg h5, if_neg (show ¬ p % 4 ≤ j + 1 by omega)]
        · rw [if_neg h4, if_neg h4]
theorem endJ_end {x : Nat} {b : Nat → Nat} : ∀ p, p < 256 → endJ x 3 b p = endJ (x + 1) 0 b p := by
  intro p hp
  unfold endJ
  by_cases h3 : p / 4 < x
  · rw [if_pos h3, if_pos (show p / 4 < x + 1 by omega)]
  · rw [if_neg h3]
    by_cases h4 : p / 4 = x
    · rw [if_pos h4, if_pos (show p / 4 < x + 1 by omega)]
      unfold endB
      by_cases h5 : p % 4 = 0
      · rw [if_pos h5, if_pos h5]; rfl
      · rw [if_neg h5, if_neg h5, if_pos (show p % 4 ≤ 3 by omega)]
    · rw [if_neg h4, if_neg (show ¬ p / 4 < x + 1 by omega)]
      by_cases h6 : p / 4 = x + 1
      · rw [if_pos h6]
        by_cases h5 : p % 4 = 0
        · rw [if_pos h5]; rfl
        · rw [if_neg h5, if_neg (show ¬ p % 4 ≤ 0 by omega)]
      · rw [if_neg h6]
theorem l_endIn (τ' : xT) {b : Nat → Nat} (hb : Bok b) {x : Nat} (hx : x < 64) {Q : Option Value → xP → xT → Prop}
    (hq : ∀ τ3 : xT, xeq [70] τ' τ3 → BR τ3 (endJ x 3 b) → X cx m_X0_endDay PW Q 2 [(1, .int (nI ((x + 1) * 4))), (0, .ref 69)] [] PW τ3) : ∀ (j : Nat) (τ2 : xT), j ≤ 3 → (xeq [70] τ' τ2 ∧ BR τ2 (endJ x j b)) → X cx m_X0_endDay PW Q 15 [(2, .int (nI (j + 1))), (1, .int (nI (x * 4))), (0, .ref 69)] [] PW τ2 := by
  refine xloop _ _ 3 (fun τ2 h2 => ?_) (fun j τ2 hj h2 ih => ?_)
  · refine X_iload_n (i := 2) (pc' := 16) dX0_endDay_15 rfl rfl rfl ?_
    refine X_iconst (pc' := 17) (v := nI 4) dX0_endDay_16 rfl (by decide) ?_
    refine X_icmp_ge (pc' := 20) (tgt := 49) dX0_endDay_17 rfl (by decide) (fun h_17 => ?_) (fun h_17 => absurd (nI_le (by decide) (by decide)) h_17)
    refine X_iinc (pc' := 52) (v := nI ((x + 1) * 4)) (lv' := [(1, _), (2, _), (0, _)]) dX0_endDay_49 rfl rfl (by rw [show (x + 1) * 4 = x * 4 + 4 by omega, ← nI_add]; rfl) (Nat.le_of_ble_eq_true rfl) rfl ?_
    refine X_goto (pc' := 0) (tgt := 2) dX0_endDay_52 (by decide) ?_
    exact X_lv _ (by simp) (hq τ2 h2.1 h2.2)
  · have hok := endJ_ok (x := x) (j := j) hb
    have hok1 : endJ x j b (x * 4 + (j + 1)) ≤ 1152921504606846976 := hok _ (by omega)
    refine X_iload_n (i := 2) (pc' := 16) dX0_endDay_15 rfl rfl rfl ?_
    refine X_iconst (pc' := 17) (v := nI 4) dX0_endDay_16 rfl (by decide) ?_
    refine X_icmp_ge (pc' := 20) (tgt := 49) dX0_endDay_17 rfl (by decide) (fun h_17 => absurd h_17 (nI_ge (by omega) (by decide))) (fun h_17 => ?_)
    refine X_aload_n (i := 0) (pc' := 21) dX0_endDay_20 rfl rfl rfl ?_
    refine X_iload_n (i := 1) (pc' := 22) dX0_endDay_21 rfl rfl rfl ?_
    refine X_aload_n (i := 0) (pc' := 23) dX0_endDay_22 rfl rfl rfl ?_
    refine X_iload_n (i := 1) (pc' := 24) dX0_endDay_23 rfl rfl rfl ?_
    refine X_iload_n (i := 2) (pc' := 25) dX0_endDay_24 rfl rfl rfl ?_
    refine X_iadd (pc' := 26) dX0_endDay_25 rfl ?_
    refine X_eqi (nI (x * 4 + (j + 1))) (nI_add _ _) ?_
    refine X_OLp (As := [_]) (rest := [_, _]) (pc' := 29) dX0_endDay_26 rfl k_X0_bestAt l_X0_44 v_X0_bestAt o_W_69 rfl ⟨by decide, by decide⟩ rfl rfl (Nat.le_of_ble_eq_true rfl) (c_bestAt cx τ2 h2.2 (by omega)) ?_
    refine X_OV (As := [_, _]) (rest := []) (pc' := 32) dX0_endDay_29 rfl k_X0_lower l_X0_29 v_X0_lower o_W_69 rfl ⟨by decide, by decide⟩ rfl rfl (Nat.le_of_ble_eq_true rfl) (c_lower cx τ2 h2.2 hok (p := x * 4) (by omega) (by omega)) (fun τ_29 h_29 => ?_)
    refine X_aload_n (i := 0) (pc' := 33) dX0_endDay_32 rfl rfl rfl ?_
    refine X_get (pc' := 36) (v := .ref 70) dX0_endDay_33 rfl (gf_X0_11 _ rfl) o_W_69 rfl rfl ?_
    refine X_iload_n (i := 1) (pc' := 37) dX0_endDay_36 rfl rfl rfl ?_
    refine X_iload_n (i := 2) (pc' := 38) dX0_endDay_37 rfl rfl rfl ?_
    refine X_iadd (pc' := 39) dX0_endDay_38 rfl ?_
    refine X_eqi (nI (x * 4 + (j + 1))) (nI_add _ _) ?_
    refine X_ldc2 (pc' := 42) (v := lN 1152921504606846976) dX0_endDay_39 rfl cn_X0_15 ?_
    refine X_last (pc' := 43) (j := x * 4 + (j + 1)) dX0_endDay_42 rfl r_W_70 (rfl) (by omega) ?_
    refine X_iinc (pc' := 46) (v := nI (j + 1 + 1)) (lv' := [(2, _), (1, _), (0, _)]) dX0_endDay_43 rfl rfl ((nI_succ (j + 1)).symm) (Nat.le_of_ble_eq_true rfl) rfl ?_
    refine X_goto (pc' := 0) (tgt := 15) dX0_endDay_46 (by decide) ?_
    refine X_lv _ (by simp) (ih _ ⟨(h2.1.tr h_29.1).sl (by decide), fun p hp => ?_⟩)
    rw [← endJ_in hx hj p hp, xsl_self]
    by_cases hpe : p = x * 4 + (j + 1)
    · subst hpe; rw [pk_uLs, nset_s]
    · rw [pk_uLn hpe, nset_n _ _ hpe]; exact h_29.2 p hp
theorem c_endDay (τ : xT) {b : Nat → Nat} (hB : BR τ b) (hb : Bok b) : CV cx m_X0_endDay [.ref 69] PW τ (fun τ' => xeq [70] τ τ' ∧ BR τ' (endB b)) := by
  refine Ct_of (by decide) (Nat.le_of_ble_eq_true rfl) (lv := [(0, _)]) rfl ?_
  have hl : ∀ (x : Nat) (τ' : xT), x ≤ 64 → (xeq [70] τ τ' ∧ BR τ' (endJ x 0 b)) → X cx m_X0_endDay PW (qV PW (fun τ' => xeq [70] τ τ' ∧ BR τ' (endB b))) 2 [(1, .int (nI (x * 4))), (0, .ref 69)] [] PW τ' := by
    refine xloop _ _ 64 (fun τ' h2 => ?_) (fun x τ' hx h2 ih => ?_)
    · refine X_iload_n (i := 1) (pc' := 3) dX0_endDay_2 rfl rfl rfl ?_
      refine X_iconst (pc' := 4) (v := nI 4) dX0_endDay_3 rfl (by decide) ?_
      refine X_iadd (pc' := 5) dX0_endDay_4 rfl ?_
      refine X_aload_n (i := 0) (pc' := 6) dX0_endDay_5 rfl rfl rfl ?_
      refine X_get (pc' := 9) (v := .ref 70) dX0_endDay_6 rfl (gf_X0_11 _ rfl) o_W_69 rfl rfl ?_
      refine X_alen (pc' := 10) dX0_endDay_9 rfl (Or.inl ⟨r_W_70, by decide⟩) ?_
      refine X_icmp_gt (pc' := 13) (tgt := 55) dX0_endDay_10 rfl (by decide) (fun h_10 => ?_) (fun h_10 => absurd (by decide) h_10)
      refine X_rv dX0_endDay_55 rfl ⟨rfl, rfl⟩ ?_
      refine ⟨h2.1, h2.2.congr (fun p hp => ?_)⟩
      unfold endJ
      rw [if_pos (show p / 4 < 64 by omega)]
    · refine X_iload_n (i := 1) (pc' := 3) dX0_endDay_2 rfl rfl rfl ?_
      refine X_iconst (pc' := 4) (v := nI 4) dX0_endDay_3 rfl (by decide) ?_
      refine X_iadd (pc' := 5) dX0_endDay_4 rfl ?_
      refine X_eqi (nI (x * 4 + 4)) (nI_add _ _) ?_
      refine X_aload_n (i := 0) (pc' := 6) dX0_endDay_5 rfl rfl rfl ?_
      refine X_get (pc' := 9) (v := .ref 70) dX0_endDay_6 rfl (gf_X0_11 _ rfl) o_W_69 rfl rfl ?_
      refine X_alen (pc' := 10) dX0_endDay_9 rfl (Or.inl ⟨r_W_70, by decide⟩) ?_
      refine X_icmp_gt (pc' := 13) (tgt := 55) dX0_endDay_10 rfl (by decide) (fun h_10 => absurd h_10 (nI_nlt (by omega) (by omega))) (fun h_10 => ?_)
      refine X_iconst (pc' := 14) (v := nI 1) dX0_endDay_13 rfl (by decide) ?_
      refine X_istore_n (i := 2) (pc' := 15) (lv' := [(2, _), (1, _), (0, _)]) dX0_endDay_14 rfl rfl (Nat.le_of_ble_eq_true rfl) rfl ?_
      exact X_lv _ (by simp) (l_endIn cx τ' hb hx (fun τ3 k1 k2 => ih τ3 ⟨h2.1.tr k1, k2.congr endJ_end⟩) 0 τ' (by omega) ⟨xeq.rf, h2.2⟩)
  refine X_iconst (pc' := 1) (v := nI 0) dX0_endDay_0 rfl (by decide) ?_
  refine X_istore_n (i := 1) (pc' := 2) (lv' := [(1, _), (0, _)]) dX0_endDay_1 rfl rfl (Nat.le_of_ble_eq_true rfl) rfl ?_
  refine X_lv _ (by simp) (hl 0 τ (by omega) ⟨xeq.rf, hB.congr (fun p hp => ?_)⟩)
  unfold endJ
  rw [if_neg (show ¬ p / 4 < 0 by omega)]
  by_cases h4 : p / 4 = 0
  · rw [if_pos h4]
    by_cases h5 : p % 4 = 0
    · rw [if_pos h5]; rfl
    · rw [if_neg h5, if_neg (show ¬ p % 4 ≤ 0 by omega)]
  · rw [if_neg h4]
theorem l_fillL (τ τ' : xT) {P : PT} {s : SN} {m : Nat} (h : Qw τ P s m) {set d : Nat} (hset : set < 64) (hsn : set < 2 ^ pn P) (hd : d < 4) (g1 : xeq [70] τ τ') {Q : Option Value → xP → xT → Prop}
    (hq : ∀ τ3 : xT, xeq [70] τ' τ3 → BR τ3 (bS P s set (7 * (d + 1))) → X cx m_X0_fill PW Q 46 [(4, .int (nI (d + 1))), (0, .ref 69), (1, .ref 8), (2, .ref 12), (3, .int (nI set))] [] PW τ3) : ∀ (l : Nat) (τ2 : xT), l ≤ 6 → (xeq [70] τ' τ2 ∧ BR τ2 (bS P s set (7 * d + l))) → X cx m_X0_fill PW Q 55 [(5, .int (nI l)), (4, .int (nI d)), (0, .ref 69), (1, .ref 8), (2, .ref 12), (3, .int (nI set))] [] PW τ2 := by
  have hn6 := h.2.2.1.1
  refine xloop _ _ 6 (fun τ2 h2 => ?_) (fun l τ2 hl h2 ih => ?_)
  · refine X_iload (pc' := 57) dX0_fill_55 rfl rfl ?_
    refine X_bipush (pc' := 59) (v := nI 6) dX0_fill_57 rfl (by decide) ?_
    refine X_icmp_ge (pc' := 62) (tgt := 88) dX0_fill_59 rfl (by decide) (fun h_59 => ?_) (fun h_59 => absurd (nI_le (Nat.le_refl _) (by decide)) h_59)
    refine X_aload_n (i := 0) (pc' := 89) dX0_fill_88 rfl rfl rfl ?_
    refine X_OV (As := []) (rest := []) (pc' := 92) dX0_fill_89 rfl k_X0_endDay l_X0_41 v_X0_endDay o_W_69 rfl ⟨by decide, by decide⟩ rfl rfl (Nat.le_of_ble_eq_true rfl) (c_endDay cx τ2 h2.2 (bS_ok P s set _)) (fun τ_89 h_89 => ?_)
    refine X_iinc (pc' := 95) (v := nI (d + 1)) (lv' := [(4, _), (5, _), (0, _), (1, _), (2, _), (3, _)]) dX0_fill_92 rfl rfl ((nI_succ d).symm) (Nat.le_of_ble_eq_true rfl) rfl ?_
    refine X_goto (pc' := 0) (tgt := 46) dX0_fill_95 (by decide) ?_
    refine X_lv _ (by simp) (hq τ_89 (h2.1.tr h_89.1) ?_)
    rw [show 7 * (d + 1) = (7 * d + 6) + 1 by omega]
    show BR τ_89 (if (7 * d + 6) % 7 = 6 then endB (bS P s set (7 * d + 6)) else _)
    rw [if_pos (by omega)]
    exact h_89.2
  · have e1 : (7 * d + l) % 7 = l := by omega
    have e2 : (7 * d + l) / 7 = d := by omega
    have hs1 : bS P s set (7 * d + (l + 1)) = if bt set l then stepB P s set l d (bS P s set (7 * d + l)) else bS P s set (7 * d + l) := by
      show (if (7 * d + l) % 7 = 6 then endB (bS P s set (7 * d + l)) else if bt set ((7 * d + l) % 7) then stepB P s set ((7 * d + l) % 7) ((7 * d + l) / 7) (bS P s set (7 * d + l)) else bS P s set (7 * d + l)) = _
      rw [e1, e2, if_neg (by omega)]
    refine X_iload (pc' := 57) dX0_fill_55 rfl rfl ?_
    refine X_bipush (pc' := 59) (v := nI 6) dX0_fill_57 rfl (by decide) ?_
    refine X_icmp_ge (pc' := 62) (tgt := 88) dX0_fill_59 rfl (by decide) (fun h_59 => absurd h_59 (nI_ge hl (by decide))) (fun h_59 => ?_)
    refine X_iload_n (i := 3) (pc' := 63) dX0_fill_62 rfl rfl rfl ?_
    refine X_iload (pc' := 65) dX0_fill_63 rfl rfl ?_
    refine X_NIp (As := [_, _]) (rest := []) (pc' := 68) dX0_fill_65 rfl k_X4_has l_X0_33 s_X4_has ⟨by decide, by decide⟩ rfl rfl (Nat.le_of_ble_eq_true rfl) (c_X4_has cx τ2 set l (by omega) (by omega)) ?_
    refine X_if_eq (pc' := 71) (tgt := 82) dX0_fill_68 rfl (by decide) (fun h_68 => ?_) (fun h_68 => ?_)
    · refine X_iinc (pc' := 85) (v := nI (l + 1)) (lv' := [(5, _), (4, _), (0, _), (1, _), (2, _), (3, _)]) dX0_fill_82 rfl rfl ((nI_succ l).symm) (Nat.le_of_ble_eq_true rfl) rfl ?_
      refine X_goto (pc' := 0) (tgt := 55) dX0_fill_85 (by decide) ?_
      first
        | exact X_lv _ (by simp) (ih τ2 ⟨h2.1, by rw [hs1, if_neg (zI_0.mp h_68)]; exact h2.2⟩)
        | exact X_lv _ (by simp) (ih τ_79 ⟨h2.1.tr h_79.1, by rw [hs1, if_pos hb]; exact h_79.2⟩)
    · have hb := zI_1 h_68
      have hln : l < pn P := by
        rcases Nat.lt_or_ge l (pn P) with q | q
        · exact q
        · exfalso
          have h1 : set < 2 ^ l := Nat.lt_of_lt_of_le hsn (Nat.pow_le_pow_right (by decide) q)
          have h2 : set / 2 ^ l = 0 := Nat.div_eq_of_lt h1
          unfold bt at hb
          rw [h2] at hb
          exact absurd hb (by decide)
      refine X_aload_n (i := 0) (pc' := 72) dX0_fill_71 rfl rfl rfl ?_
      refine X_aload_n (i := 1) (pc' := 73) dX0_fill_72 rfl rfl rfl ?_
      refine X_aload_n (i := 2) (pc' := 74) dX0_fill_73 rfl rfl rfl ?_
      refine X_iload_n (i := 3) (pc' := 75) dX0_fill_74 rfl rfl rfl ?_
      refine X_iload (pc' := 77) dX0_fill_75 rfl rfl ?_
      refine X_iload (pc' := 79) dX0_fill_77 rfl rfl ?_
      refine X_OV (As := [_, _, _, _, _]) (rest := []) (pc' := 82) dX0_fill_79 rfl k_X0_tryLetter l_X0_37 v_X0_tryLetter o_W_69 rfl ⟨by decide, by decide⟩ rfl rfl (Nat.le_of_ble_eq_true rfl) (c_tryLetter cx τ2 ((h.kept g1 (by decide)).kept h2.1 (by decide)) h2.2 (bS_ok P s set _) hset hln (by omega)) (fun τ_79 h_79 => ?_)
      refine X_iinc (pc' := 85) (v := nI (l + 1)) (lv' := [(5, _), (4, _), (0, _), (1, _), (2, _), (3, _)]) dX0_fill_82 rfl rfl ((nI_succ l).symm) (Nat.le_of_ble_eq_true rfl) rfl ?_
      refine X_goto (pc' := 0) (tgt := 55) dX0_fill_85 (by decide) ?_
      first
        | exact X_lv _ (by simp) (ih τ2 ⟨h2.1, by rw [hs1, if_neg (zI_0.mp h_68)]; exact h2.2⟩)
        | exact X_lv _ (by simp) (ih τ_79 ⟨h2.1.tr h_79.1, by rw [hs1, if_pos hb]; exact h_79.2⟩)
theorem c_fill (τ : xT) {P : PT} {s : SN} {m : Nat} (h : Qw τ P s m) {set : Nat} (hset : set < 64) (hsn : set < 2 ^ pn P) : CV cx m_X0_fill [.ref 69, .ref 8, .ref 12, .int (nI set)] PW τ (fun τ' => xeq [70] τ τ' ∧ BR τ' (bS P s set 28)) := by
  have h' := h
  obtain ⟨hT, hs, hP, ho, hm⟩ := h'
  have ht3 := ho.2.2.1
  refine Ct_of (by decide) (Nat.le_of_ble_eq_true rfl) (lv := [(0, _), (1, _), (2, _), (3, _)]) rfl ?_
  have hl : ∀ (d : Nat) (τ' : xT), d ≤ 4 → (xeq [70] τ τ' ∧ BR τ' (bS P s set (7 * d))) → X cx m_X0_fill PW (qV PW (fun τ' => xeq [70] τ τ' ∧ BR τ' (bS P s set 28))) 46 [(4, .int (nI d)), (0, .ref 69), (1, .ref 8), (2, .ref 12), (3, .int (nI set))] [] PW τ' := by
    refine xloop _ _ 4 (fun τ' h2 => ?_) (fun d τ' hd h2 ih => ?_)
    · refine X_iload (pc' := 48) dX0_fill_46 rfl rfl ?_
      refine X_iconst (pc' := 49) (v := nI 4) dX0_fill_48 rfl (by decide) ?_
      refine X_icmp_ge (pc' := 52) (tgt := 98) dX0_fill_49 rfl (by decide) (fun h_49 => ?_) (fun h_49 => absurd (nI_le (Nat.le_refl _) (by decide)) h_49)
      refine X_rv dX0_fill_98 rfl ⟨rfl, rfl⟩ ?_
      exact h2
    · refine X_iload (pc' := 48) dX0_fill_46 rfl rfl ?_
      refine X_iconst (pc' := 49) (v := nI 4) dX0_fill_48 rfl (by decide) ?_
      refine X_icmp_ge (pc' := 52) (tgt := 98) dX0_fill_49 rfl (by decide) (fun h_49 => absurd h_49 (nI_ge hd (by decide))) (fun h_49 => ?_)
      refine X_iconst (pc' := 53) (v := nI 0) dX0_fill_52 rfl (by decide) ?_
      refine X_istore (pc' := 55) (lv' := [(5, _), (4, _), (0, _), (1, _), (2, _), (3, _)]) dX0_fill_53 rfl (Nat.le_of_ble_eq_true rfl) rfl ?_
      exact X_lv _ (by simp) (l_fillL cx τ τ' h hset hsn hd h2.1 (fun τ3 k1 k2 => ih τ3 ⟨h2.1.tr k1, k2⟩) 0 τ' (by omega) ⟨xeq.rf, h2.2⟩)
  refine X_aload_n (i := 0) (pc' := 1) dX0_fill_0 rfl rfl rfl ?_
  refine X_get (pc' := 4) (v := .ref 70) dX0_fill_1 rfl (gf_X0_11 _ rfl) o_W_69 rfl rfl ?_
  refine X_ldc2 (pc' := 7) (v := lN 1152921504606846976) dX0_fill_4 rfl cn_X0_15 ?_
  refine X_SV (As := [_, _]) (rest := []) (pc' := 10) dX0_fill_7 rfl k_J7_fill_d0a16 l_X0_17 s_J7_fill_d0a16 ⟨by decide, by decide⟩ rfl rfl (Nat.le_of_ble_eq_true rfl) (c_fillJ cx τ r_W_70 (lN 1152921504606846976)) (fun τ_7 h_7 => ?_)
  refine X_aload_n (i := 1) (pc' := 11) dX0_fill_10 rfl rfl rfl ?_
  refine X_ifnull (pc' := 14) dX0_fill_11 rfl ?_
  refine X_aload_n (i := 2) (pc' := 15) dX0_fill_14 rfl rfl rfl ?_
  refine X_ifnull (pc' := 18) dX0_fill_15 rfl ?_
  have hs7 := hs.kept h_7.1 (by decide) (by decide) (by decide)
  have hB7 : BR τ_7 (fun _ => BIG) := fun p hp => h_7.2 p hp
  refine X_aload_n (i := 2) (pc' := 19) dX0_fill_18 rfl rfl rfl ?_
  refine X_get (pc' := 22) (v := .int _) dX0_fill_19 rfl (gf_X0_23 _ rfl) o_W_12 rfl rfl ?_
  refine X_eqi (nI (sTd s)) (hs7.2.2.1) ?_
  refine X_if_lt (pc' := 25) (tgt := 33) dX0_fill_22 rfl (by decide) (fun h_22 => absurd h_22 (nI_pos (by omega))) (fun h_22 => ?_)
  refine X_aload_n (i := 2) (pc' := 26) dX0_fill_25 rfl rfl rfl ?_
  refine X_get (pc' := 29) (v := .int _) dX0_fill_26 rfl (gf_X0_23 _ rfl) o_W_12 rfl rfl ?_
  refine X_eqi (nI (sTd s)) (hs7.2.2.1) ?_
  refine X_iconst (pc' := 30) (v := nI 4) dX0_fill_29 rfl (by decide) ?_
  refine X_icmp_lt (pc' := 33) (tgt := 34) dX0_fill_30 rfl (by decide) (fun h_30 => ?_) (fun h_30 => absurd (nI_lt (by omega) (by decide)) h_30)
  refine X_aload_n (i := 0) (pc' := 35) dX0_fill_34 rfl rfl rfl ?_
  refine X_aload_n (i := 2) (pc' := 36) dX0_fill_35 rfl rfl rfl ?_
  refine X_get (pc' := 39) (v := .int _) dX0_fill_36 rfl (gf_X0_23 _ rfl) o_W_12 rfl rfl ?_
  refine X_eqi (nI (sTd s)) (hs7.2.2.1) ?_
  refine X_lconst (pc' := 40) (v := lN 0) dX0_fill_39 rfl rfl ?_
  refine X_OV (As := [_, _]) (rest := []) (pc' := 43) dX0_fill_40 rfl k_X0_lower l_X0_29 v_X0_lower o_W_69 rfl ⟨by decide, by decide⟩ rfl rfl (Nat.le_of_ble_eq_true rfl) (c_lower cx τ_7 hB7 (fun p hp => Nat.le_refl _) (p := sTd s) (by omega) (by decide)) (fun τ_40 h_40 => ?_)
  refine X_iconst (pc' := 44) (v := nI 0) dX0_fill_43 rfl (by decide) ?_
  refine X_istore (pc' := 46) (lv' := [(4, _), (0, _), (1, _), (2, _), (3, _)]) dX0_fill_44 rfl (Nat.le_of_ble_eq_true rfl) rfl ?_
  refine X_lv _ (by simp) (hl 0 τ_40 (by omega) ⟨h_7.1.tr h_40.1, h_40.2.congr (fun p hp => ?_)⟩)
  show nset (fun _ => BIG) (sTd s) (min BIG 0) p = if p = sTd s then 0 else BIG
  unfold nset
  split <;> rfl
end PL
