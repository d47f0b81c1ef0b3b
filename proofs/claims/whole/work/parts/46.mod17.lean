/-! ===== the model: the least, plan, share ===== -/
theorem lsA_z (P : PT) (s : SN) (x : Nat) : lsA P s x 0 = none := rfl
theorem lsA_n {P : PT} {s : SN} {x n : Nat} (ht : tA P s (aN x n) 28 = none) : lsA P s x (n + 1) = lsA P s x n := by
  show (match tA P s (aN x n) 28 with | none => lsA P s x n | some t => (match lsA P s x n with | none => some (sPd t - sPd s, n) | some q => if sPd t - sPd s < q.1 then some (sPd t - sPd s, n) else some q)) = _
  rw [ht]
theorem lsA_0 {P : PT} {s t : SN} {x n : Nat} (ht : tA P s (aN x n) 28 = some t) (hl : lsA P s x n = none) : lsA P s x (n + 1) = some (sPd t - sPd s, n) := by
  show (match tA P s (aN x n) 28 with | none => lsA P s x n | some t => (match lsA P s x n with | none => some (sPd t - sPd s, n) | some q => if sPd t - sPd s < q.1 then some (sPd t - sPd s, n) else some q)) = _
  rw [ht, hl]
theorem lsA_q {P : PT} {s t : SN} {x n : Nat} {q : Nat × Nat} (ht : tA P s (aN x n) 28 = some t) (hl : lsA P s x n = some q) : lsA P s x (n + 1) = if sPd t - sPd s < q.1 then some (sPd t - sPd s, n) else some q := by
  show (match tA P s (aN x n) 28 with | none => lsA P s x n | some t => (match lsA P s x n with | none => some (sPd t - sPd s, n) | some q => if sPd t - sPd s < q.1 then some (sPd t - sPd s, n) else some q)) = _
  rw [ht, hl]
theorem others_of : ∀ all, all < 64 → ∀ k, k < 6 → bt all k → ones (dif all (2 ^ k)) + 1 = ones all := by decide +kernel
theorem others_and : ∀ c, c < 64 → ∀ all, all < 64 → ∀ k, k < 6 → (c &&& all = c ∧ ¬ bt c k ↔ c &&& dif all (2 ^ k) = c) := by decide +kernel
theorem others_or : ∀ c, c < 64 → ∀ all, all < 64 → ∀ k, k < 6 → bt all k → c &&& all = c → (c ||| 2 ^ k) &&& all = c ||| 2 ^ k := by decide +kernel
theorem fac_two : ∀ o, o ≤ 5 → ∀ a, a ≤ o → fac a * fac (o - a) ≤ 120 := by decide +kernel
theorem shN_end {b : Nat → Nat} {k others : Nat} : ∀ d c, others < c → shN b k others (c + d) = shN b k others c := by
  intro d
  induction d with
  | zero => intro c _; rfl
  | succ d ih =>
    intro c hc
    show shN b k others (c + d) + (if (c + d) &&& others = c + d then _ else 0) = _
    rw [if_neg (fun q => by have := Nat.and_le_right (n := c + d) (m := others); omega), ih c hc, Int.add_zero]
theorem shN_bd2 {P : PT} {s : SN} {set k others : Nat} (hk : k < 6) (ho : others < 64) (ho5 : ones others ≤ 5) : ∀ c : Nat, c ≤ 64 → -((c : Int) * 2100000) ≤ shN (bS P s set 28) k others c ∧ shN (bS P s set 28) k others c ≤ (c : Int) * 2100000 := by
  intro c
  induction c with
  | zero => intro _; exact ⟨by show -((0 : Int) * _) ≤ 0; omega, by show (0 : Int) ≤ 0 * _; omega⟩
  | succ c ih =>
    intro hc
    obtain ⟨h1, h2⟩ := ih (by omega)
    have hkk : 2 ^ k < 2 ^ 6 := pow_lt hk
    have hor : c ||| 2 ^ k < 2 ^ 6 := Nat.or_lt_two_pow (by omega) hkk
    have c1 := cS_le (P := P) (s := s) (set := set) (x := c ||| 2 ^ k) (by omega)
    have c2 := cS_le (P := P) (s := s) (set := set) (x := c) (by omega)
    have key : ∀ (F : Nat) (A B : Nat), F ≤ 120 → A ≤ 16716 → B ≤ 16716 → -(2100000 : Int) ≤ (F : Int) * ((A : Int) - B) ∧ (F : Int) * ((A : Int) - B) ≤ 2100000 := by
      intro F A B hF hA hB
      have e1 : (F : Int) * ((A : Int) - B) = ((F * A : Nat) : Int) - ((F * B : Nat) : Int) := by rw [Int.mul_sub]; rfl
      have g1 : F * A ≤ 120 * 16716 := Nat.mul_le_mul hF hA
      have g2 : F * B ≤ 120 * 16716 := Nat.mul_le_mul hF hB
      rw [e1]
      generalize F * A = x at *
      generalize F * B = y at *
      omega
    unfold shN
    by_cases hsub : c &&& others = c
    · rw [if_pos hsub]
      have f3 := fac_two (ones others) ho5 (ones c) (ones_sub c (by omega) others ho hsub)
      have kk := key (fac (ones c) * fac (ones others - ones c)) _ _ f3 c1 c2
      generalize ((fac (ones c) * fac (ones others - ones c) : Nat) : Int) * ((cS (bS P s set 28) (c ||| 2 ^ k) : Int) - cS (bS P s set 28) c) = t at *
      omega
    · rw [if_neg hsub]
      omega
section MS2
variable (cx : xC)
set_option maxHeartbeats 4000000
set_option maxRecDepth 100000
theorem l2_least (τ : xT) {P : PT} (hP : Pok P) (h : MT τ P) {m : Nat} {s : SN} (hs : MS τ 4 0 (pn P) s) (ho : Sok P m s) (hm : m < 4000) {x : Nat} (hx : x < 2 ^ pn P) : ∀ (n : Nat) (τ' : xT), n ≤ 4 ^ ones x → (xtl τ τ' ∧ τ'.1 1 19 = o9r (lsA P s x n)) → X cx m_X5_leastOf PM (qI PM (fun r τ' => r = o9p (lsA P s x (4 ^ ones x)) ∧ xtl τ τ' ∧ τ'.1 1 19 = o9r (lsA P s x (4 ^ ones x)))) 11 [(3, .int (nI n)), (2, .int (o9p (lsA P s x n))), (0, .ref 1), (1, .int (nI x))] [] PM τ' := by
  have hn6 := hP.1
  have h26 := two6 hP
  have ox := ones_le x
  have h4 := four_le ox
  refine xloop _ _ (4 ^ ones x) (fun τ' g => ?_) (fun n τ' hn g ih => ?_)
  · refine X_iload_n (i := 3) (pc' := 12) dX5_leastOf_11 rfl rfl rfl ?_
    refine X_iload_n (i := 1) (pc' := 13) dX5_leastOf_12 rfl rfl rfl ?_
    refine X_SIp (As := [_]) (rest := [_]) (pc' := 16) dX5_leastOf_13 rfl k_X5_ones l_X5_105 s_X5_ones ⟨by decide, by decide⟩ rfl rfl (Nat.le_of_ble_eq_true rfl) (d_ones cx τ' x (by omega)) ?_
    refine X_SIp (As := [_]) (rest := [_]) (pc' := 19) dX5_leastOf_16 rfl k_X5_fours l_X5_141 s_X5_fours ⟨by decide, by decide⟩ rfl rfl (Nat.le_of_ble_eq_true rfl) (d_fours cx τ' (ones x) ox) ?_
    refine X_icmp_ge (pc' := 22) (tgt := 63) dX5_leastOf_19 rfl (by decide) (fun h_19 => ?_) (fun h_19 => absurd (nI_le (Nat.le_refl _) (by omega)) h_19)
    refine X_iload_n (i := 2) (pc' := 64) dX5_leastOf_63 rfl rfl rfl ?_
    refine X_ri dX5_leastOf_64 rfl ⟨rfl, rfl⟩ ?_
    exact ⟨rfl, g⟩
  · obtain ⟨g1, g2⟩ := g
    have hpc := d_paidBy cx τ' hP (g1.mt h) (g1.ms hn6 hs) ho hm hx hn
    rcases ht : tA P s (aN x n) 28 with _ | t
    · have hls := lsA_n ht
      rw [ht] at hpc
      refine X_iload_n (i := 3) (pc' := 12) dX5_leastOf_11 rfl rfl rfl ?_
      refine X_iload_n (i := 1) (pc' := 13) dX5_leastOf_12 rfl rfl rfl ?_
      refine X_SIp (As := [_]) (rest := [_]) (pc' := 16) dX5_leastOf_13 rfl k_X5_ones l_X5_105 s_X5_ones ⟨by decide, by decide⟩ rfl rfl (Nat.le_of_ble_eq_true rfl) (d_ones cx τ' x (by omega)) ?_
      refine X_SIp (As := [_]) (rest := [_]) (pc' := 19) dX5_leastOf_16 rfl k_X5_fours l_X5_141 s_X5_fours ⟨by decide, by decide⟩ rfl rfl (Nat.le_of_ble_eq_true rfl) (d_fours cx τ' (ones x) ox) ?_
      refine X_icmp_ge (pc' := 22) (tgt := 63) dX5_leastOf_19 rfl (by decide) (fun h_19 => absurd h_19 (nI_ge hn (by omega))) (fun h_19 => ?_)
      refine X_aload_n (i := 0) (pc' := 23) dX5_leastOf_22 rfl rfl rfl ?_
      refine X_iload_n (i := 1) (pc' := 24) dX5_leastOf_23 rfl rfl rfl ?_
      refine X_iload_n (i := 3) (pc' := 25) dX5_leastOf_24 rfl rfl rfl ?_
      refine X_OI (As := [_, _]) (rest := []) (pc' := 28) dX5_leastOf_25 rfl k_X5_paidBy l_X5_154 v_X5_paidBy o_M_1 rfl ⟨by decide, by decide⟩ rfl rfl (Nat.le_of_ble_eq_true rfl) (hpc) (fun x_25 τ_25 h_25 => ?_)
      refine X_eqi (-9) (h_25.1) ?_
      refine X_istore (pc' := 30) (lv' := [(4, _), (3, _), (2, _), (0, _), (1, _)]) dX5_leastOf_28 rfl (Nat.le_of_ble_eq_true rfl) rfl ?_
      refine X_iload (pc' := 32) dX5_leastOf_30 rfl rfl ?_
      refine X_bipush (pc' := 34) (v := (-9)) dX5_leastOf_32 rfl (by decide) ?_
      refine X_icmp_eq (pc' := 37) (tgt := 57) dX5_leastOf_34 rfl (by decide) (fun h_34 => ?_) (fun h_34 => absurd (rfl) h_34)
      refine X_iinc (pc' := 60) (v := nI (n + 1)) (lv' := [(3, _), (4, _), (2, _), (0, _), (1, _)]) dX5_leastOf_57 rfl rfl ((nI_succ n).symm) (Nat.le_of_ble_eq_true rfl) rfl ?_
      refine X_goto (pc' := 0) (tgt := 11) dX5_leastOf_60 (by decide) ?_
      have := ih τ_25 ⟨g1.tr (xtl.of h_25.2), by rw [(h_25.2.1 1 (by decide)).1, hls]; exact g2⟩
      rw [hls] at this
      exact X_lv _ (by simp) this
    · have hJ := JA_of hP ho hm (aN_le x n) 28 (by omega) t ht
      have hpd := hJ.2.2.2.2.2.2.2.2.2.1
      rw [ht] at hpc
      rcases hl : lsA P s x n with _ | q
      · have hls := lsA_0 ht hl
        rw [hl] at g2
        show X cx m_X5_leastOf PM _ 11 [(3, .int (nI n)), (2, .int (-9)), (0, .ref 1), (1, .int (nI x))] [] PM τ'
        refine X_iload_n (i := 3) (pc' := 12) dX5_leastOf_11 rfl rfl rfl ?_
        refine X_iload_n (i := 1) (pc' := 13) dX5_leastOf_12 rfl rfl rfl ?_
        refine X_SIp (As := [_]) (rest := [_]) (pc' := 16) dX5_leastOf_13 rfl k_X5_ones l_X5_105 s_X5_ones ⟨by decide, by decide⟩ rfl rfl (Nat.le_of_ble_eq_true rfl) (d_ones cx τ' x (by omega)) ?_
        refine X_SIp (As := [_]) (rest := [_]) (pc' := 19) dX5_leastOf_16 rfl k_X5_fours l_X5_141 s_X5_fours ⟨by decide, by decide⟩ rfl rfl (Nat.le_of_ble_eq_true rfl) (d_fours cx τ' (ones x) ox) ?_
        refine X_icmp_ge (pc' := 22) (tgt := 63) dX5_leastOf_19 rfl (by decide) (fun h_19 => absurd h_19 (nI_ge hn (by omega))) (fun h_19 => ?_)
        refine X_aload_n (i := 0) (pc' := 23) dX5_leastOf_22 rfl rfl rfl ?_
        refine X_iload_n (i := 1) (pc' := 24) dX5_leastOf_23 rfl rfl rfl ?_
        refine X_iload_n (i := 3) (pc' := 25) dX5_leastOf_24 rfl rfl rfl ?_
        refine X_OI (As := [_, _]) (rest := []) (pc' := 28) dX5_leastOf_25 rfl k_X5_paidBy l_X5_154 v_X5_paidBy o_M_1 rfl ⟨by decide, by decide⟩ rfl rfl (Nat.le_of_ble_eq_true rfl) (hpc) (fun x_25 τ_25 h_25 => ?_)
        refine X_eqi (nI (sPd t - sPd s)) (h_25.1) ?_
        refine X_istore (pc' := 30) (lv' := [(4, _), (3, _), (2, _), (0, _), (1, _)]) dX5_leastOf_28 rfl (Nat.le_of_ble_eq_true rfl) rfl ?_
        refine X_iload (pc' := 32) dX5_leastOf_30 rfl rfl ?_
        refine X_bipush (pc' := 34) (v := (-9)) dX5_leastOf_32 rfl (by decide) ?_
        refine X_icmp_eq (pc' := 37) (tgt := 57) dX5_leastOf_34 rfl (by decide) (fun h_34 => absurd h_34 (nI_ne9 (by omega))) (fun h_34 => ?_)
        refine X_iload_n (i := 2) (pc' := 38) dX5_leastOf_37 rfl rfl rfl ?_
        refine X_bipush (pc' := 40) (v := (-9)) dX5_leastOf_38 rfl (by decide) ?_
        refine X_icmp_eq (pc' := 43) (tgt := 49) dX5_leastOf_40 rfl (by decide) (fun h_40 => ?_) (fun h_40 => absurd (rfl) h_40)
        refine X_iload (pc' := 51) dX5_leastOf_49 rfl rfl ?_
        refine X_istore_n (i := 2) (pc' := 52) (lv' := [(2, _), (4, _), (3, _), (0, _), (1, _)]) dX5_leastOf_51 rfl rfl (Nat.le_of_ble_eq_true rfl) rfl ?_
        refine X_aload_n (i := 0) (pc' := 53) dX5_leastOf_52 rfl rfl rfl ?_
        refine X_iload_n (i := 3) (pc' := 54) dX5_leastOf_53 rfl rfl rfl ?_
        refine X_putI (pc' := 57) dX5_leastOf_54 rfl (pf_X5_151 _ rfl) o_M_1 rfl ?_
        refine X_iinc (pc' := 60) (v := nI (n + 1)) (lv' := [(3, _), (2, _), (4, _), (0, _), (1, _)]) dX5_leastOf_57 rfl rfl ((nI_succ n).symm) (Nat.le_of_ble_eq_true rfl) rfl ?_
        refine X_goto (pc' := 0) (tgt := 11) dX5_leastOf_60 (by decide) ?_
        have q1 := h_25.2.1 1 (by decide)
        have := ih (xsi τ_25 1 19 (nI n)) ⟨(g1.tr (xtl.of h_25.2)).tr ⟨xeq.rf.si (by simp), fun i hi => by rw [xsi_ne _ _ _ (by decide)], fun i hi => by rw [xsi_un _ _ hi], rfl⟩, by rw [hls, xsi_at]; rfl⟩
        rw [hls] at this
        exact X_lv _ (by simp [o9p]) this
      · have hls := lsA_q ht hl
        rw [hl] at g2
        have hsp := lsA_spec P s x n
        rw [hl] at hsp
        obtain ⟨s1, ⟨t0, s2, s3⟩, -⟩ := hsp
        have hJ0 := JA_of hP ho hm (aN_le x q.2) 28 (by omega) t0 s2
        have hpd0 := hJ0.2.2.2.2.2.2.2.2.2.1
        show X cx m_X5_leastOf PM _ 11 [(3, .int (nI n)), (2, .int (nI q.1)), (0, .ref 1), (1, .int (nI x))] [] PM τ'
        refine X_iload_n (i := 3) (pc' := 12) dX5_leastOf_11 rfl rfl rfl ?_
        refine X_iload_n (i := 1) (pc' := 13) dX5_leastOf_12 rfl rfl rfl ?_
        refine X_SIp (As := [_]) (rest := [_]) (pc' := 16) dX5_leastOf_13 rfl k_X5_ones l_X5_105 s_X5_ones ⟨by decide, by decide⟩ rfl rfl (Nat.le_of_ble_eq_true rfl) (d_ones cx τ' x (by omega)) ?_
        refine X_SIp (As := [_]) (rest := [_]) (pc' := 19) dX5_leastOf_16 rfl k_X5_fours l_X5_141 s_X5_fours ⟨by decide, by decide⟩ rfl rfl (Nat.le_of_ble_eq_true rfl) (d_fours cx τ' (ones x) ox) ?_
        refine X_icmp_ge (pc' := 22) (tgt := 63) dX5_leastOf_19 rfl (by decide) (fun h_19 => absurd h_19 (nI_ge hn (by omega))) (fun h_19 => ?_)
        refine X_aload_n (i := 0) (pc' := 23) dX5_leastOf_22 rfl rfl rfl ?_
        refine X_iload_n (i := 1) (pc' := 24) dX5_leastOf_23 rfl rfl rfl ?_
        refine X_iload_n (i := 3) (pc' := 25) dX5_leastOf_24 rfl rfl rfl ?_
        refine X_OI (As := [_, _]) (rest := []) (pc' := 28) dX5_leastOf_25 rfl k_X5_paidBy l_X5_154 v_X5_paidBy o_M_1 rfl ⟨by decide, by decide⟩ rfl rfl (Nat.le_of_ble_eq_true rfl) (hpc) (fun x_25 τ_25 h_25 => ?_)
        refine X_eqi (nI (sPd t - sPd s)) (h_25.1) ?_
        refine X_istore (pc' := 30) (lv' := [(4, _), (3, _), (2, _), (0, _), (1, _)]) dX5_leastOf_28 rfl (Nat.le_of_ble_eq_true rfl) rfl ?_
        refine X_iload (pc' := 32) dX5_leastOf_30 rfl rfl ?_
        refine X_bipush (pc' := 34) (v := (-9)) dX5_leastOf_32 rfl (by decide) ?_
        refine X_icmp_eq (pc' := 37) (tgt := 57) dX5_leastOf_34 rfl (by decide) (fun h_34 => absurd h_34 (nI_ne9 (by omega))) (fun h_34 => ?_)
        refine X_iload_n (i := 2) (pc' := 38) dX5_leastOf_37 rfl rfl rfl ?_
        refine X_bipush (pc' := 40) (v := (-9)) dX5_leastOf_38 rfl (by decide) ?_
        refine X_icmp_eq (pc' := 43) (tgt := 49) dX5_leastOf_40 rfl (by decide) (fun h_40 => absurd h_40 (nI_ne9 (by omega))) (fun h_40 => ?_)
        refine X_iload (pc' := 45) dX5_leastOf_43 rfl rfl ?_
        refine X_iload_n (i := 2) (pc' := 46) dX5_leastOf_45 rfl rfl rfl ?_
        refine X_icmp_ge (pc' := 49) (tgt := 57) dX5_leastOf_46 rfl (by decide) (fun h_46 => ?_) (fun h_46 => ?_)
        · refine X_iinc (pc' := 60) (v := nI (n + 1)) (lv' := [(3, _), (4, _), (2, _), (0, _), (1, _)]) dX5_leastOf_57 rfl rfl ((nI_succ n).symm) (Nat.le_of_ble_eq_true rfl) rfl ?_
          refine X_goto (pc' := 0) (tgt := 11) dX5_leastOf_60 (by decide) ?_
          have q1 := h_25.2.1 1 (by decide)
          by_cases hlt : sPd t - sPd s < q.1
          · rw [if_pos hlt] at hls
            first
              | exact absurd hlt (fun r => nI_ge r (by omega) h_46)
              | (have := ih (xsi τ_25 1 19 (nI n)) ⟨(g1.tr (xtl.of h_25.2)).tr ⟨xeq.rf.si (by simp), fun i hi => by rw [xsi_ne _ _ _ (by decide)], fun i hi => by rw [xsi_un _ _ hi], rfl⟩, by rw [hls, xsi_at]; rfl⟩
                 rw [hls] at this
                 exact X_lv _ (by simp [o9p]) this)
          · rw [if_neg hlt] at hls
            first
              | exact absurd (nI_le (Nat.not_lt.mp hlt) (by omega)) h_46
              | (have := ih τ_25 ⟨g1.tr (xtl.of h_25.2), by rw [q1.1, hls]; exact g2⟩
                 rw [hls] at this
                 exact X_lv _ (by simp [o9p]) this)
        · refine X_iload (pc' := 51) dX5_leastOf_49 rfl rfl ?_
          refine X_istore_n (i := 2) (pc' := 52) (lv' := [(2, _), (4, _), (3, _), (0, _), (1, _)]) dX5_leastOf_51 rfl rfl (Nat.le_of_ble_eq_true rfl) rfl ?_
          refine X_aload_n (i := 0) (pc' := 53) dX5_leastOf_52 rfl rfl rfl ?_
          refine X_iload_n (i := 3) (pc' := 54) dX5_leastOf_53 rfl rfl rfl ?_
          refine X_putI (pc' := 57) dX5_leastOf_54 rfl (pf_X5_151 _ rfl) o_M_1 rfl ?_
          refine X_iinc (pc' := 60) (v := nI (n + 1)) (lv' := [(3, _), (2, _), (4, _), (0, _), (1, _)]) dX5_leastOf_57 rfl rfl ((nI_succ n).symm) (Nat.le_of_ble_eq_true rfl) rfl ?_
          refine X_goto (pc' := 0) (tgt := 11) dX5_leastOf_60 (by decide) ?_
          have q1 := h_25.2.1 1 (by decide)
          by_cases hlt : sPd t - sPd s < q.1
          · rw [if_pos hlt] at hls
            first
              | exact absurd hlt (fun r => nI_ge r (by omega) h_46)
              | (have := ih (xsi τ_25 1 19 (nI n)) ⟨(g1.tr (xtl.of h_25.2)).tr ⟨xeq.rf.si (by simp), fun i hi => by rw [xsi_ne _ _ _ (by decide)], fun i hi => by rw [xsi_un _ _ hi], rfl⟩, by rw [hls, xsi_at]; rfl⟩
                 rw [hls] at this
                 exact X_lv _ (by simp [o9p]) this)
          · rw [if_neg hlt] at hls
            first
              | exact absurd (nI_le (Nat.not_lt.mp hlt) (by omega)) h_46
              | (have := ih τ_25 ⟨g1.tr (xtl.of h_25.2), by rw [q1.1, hls]; exact g2⟩
                 rw [hls] at this
                 exact X_lv _ (by simp [o9p]) this)
theorem d_leastOf (τ : xT) {P : PT} (hP : Pok P) (h : MT τ P) {m : Nat} {s : SN} (hs : MS τ 4 0 (pn P) s) (ho : Sok P m s) (hm : m < 4000) {x : Nat} (hx : x < 2 ^ pn P) : CI cx m_X5_leastOf [.ref 1, .int (nI x)] PM τ (fun r τ' => r = o9p (lsA P s x (4 ^ ones x)) ∧ xtl τ τ' ∧ τ'.1 1 19 = o9r (lsA P s x (4 ^ ones x))) := by
  refine Ct_of (by decide) (Nat.le_of_ble_eq_true rfl) (lv := [(0, _), (1, _)]) rfl ?_
  refine X_bipush (pc' := 2) (v := (-9)) dX5_leastOf_0 rfl (by decide) ?_
  refine X_istore_n (i := 2) (pc' := 3) (lv' := [(2, _), (0, _), (1, _)]) dX5_leastOf_2 rfl rfl (Nat.le_of_ble_eq_true rfl) rfl ?_
  refine X_aload_n (i := 0) (pc' := 4) dX5_leastOf_3 rfl rfl rfl ?_
  refine X_bipush (pc' := 6) (v := (-9)) dX5_leastOf_4 rfl (by decide) ?_
  refine X_putI (pc' := 9) dX5_leastOf_6 rfl (pf_X5_151 _ rfl) o_M_1 rfl ?_
  refine X_iconst (pc' := 10) (v := nI 0) dX5_leastOf_9 rfl (by decide) ?_
  refine X_istore_n (i := 3) (pc' := 11) (lv' := [(3, _), (2, _), (0, _), (1, _)]) dX5_leastOf_10 rfl rfl (Nat.le_of_ble_eq_true rfl) rfl ?_
  have := l2_least cx τ hP h hs ho hm hx 0 (xsi τ 1 19 (-9)) (Nat.zero_le _) ⟨⟨xeq.rf.si (by simp), fun i hi => by rw [xsi_ne _ _ _ (by decide)], fun i hi => by rw [xsi_un _ _ hi], rfl⟩, by rw [xsi_at, lsA_z]; rfl⟩
  rw [show o9p (lsA P s x 0) = -9 by rw [lsA_z]; rfl] at this
  exact X_lv _ (by simp) this
theorem l2_plan {τ' : xT} {x r : Nat} (hx : x < 64) (hr : r < 4 ^ ones x) (hrow : τ'.1 1 19 = nI r) {isRow least : Int32} {R : Int32 → xT → Prop} (hR : R (nI (dN r 6)) τ') : ∀ (k v : Nat), k ≤ ones x → v * 10 ^ (ones x - k) + dN r (ones x - k) = dN r (ones x) → X cx m_X5_plan PM (qI PM R) 60 [(5, .int (nI k)), (4, .int (nI v)), (3, .int least), (0, .ref 1), (1, .int (nI x)), (2, .int isRow)] [] PM τ' := by
  have ox := ones_le x
  have h4 := four_le ox
  have hdl := dN_lt r (ones x)
  have h10 := ten_le ox
  refine xloop (fun k v => X cx m_X5_plan PM (qI PM R) 60 [(5, .int (nI k)), (4, .int (nI v)), (3, .int least), (0, .ref 1), (1, .int (nI x)), (2, .int isRow)] [] PM τ') (fun k v => v * 10 ^ (ones x - k) + dN r (ones x - k) = dN r (ones x)) (ones x) (fun v g => ?_) (fun k v hk g ih => ?_)
  · have top : dN r 6 = dN r (ones x) := by
      have := dN_hi hr (6 - ones x)
      rwa [show ones x + (6 - ones x) = 6 by omega] at this
    have hv : v = dN r 6 := by
      rw [top, ← g, Nat.sub_self, Nat.pow_zero, Nat.mul_one]; rfl
    refine X_iload (pc' := 62) dX5_plan_60 rfl rfl ?_
    refine X_iload_n (i := 1) (pc' := 63) dX5_plan_62 rfl rfl rfl ?_
    refine X_SIp (As := [_]) (rest := [_]) (pc' := 66) dX5_plan_63 rfl k_X5_ones l_X5_105 s_X5_ones ⟨by decide, by decide⟩ rfl rfl (Nat.le_of_ble_eq_true rfl) (d_ones cx τ' x hx) ?_
    refine X_icmp_ge (pc' := 69) (tgt := 96) dX5_plan_66 rfl (by decide) (fun h_66 => ?_) (fun h_66 => absurd (nI_le (Nat.le_refl _) (by omega)) h_66)
    refine X_iload (pc' := 98) dX5_plan_96 rfl rfl ?_
    refine X_ri dX5_plan_98 rfl ⟨rfl, rfl⟩ ?_
    rw [hv]; exact hR
  · have e : ones x - k = (ones x - 1 - k) + 1 := by omega
    have g2 : v * 10 ^ (ones x - k) + dN r (ones x - k) = (10 * v + r / 4 ^ (ones x - 1 - k) % 4) * 10 ^ (ones x - (k + 1)) + dN r (ones x - (k + 1)) := by
      rw [e, show ones x - (k + 1) = ones x - 1 - k by omega, Nat.pow_succ, Nat.add_mul, Nat.add_assoc]
      congr 1
      rw [Nat.mul_comm 10 v, Nat.mul_assoc, Nat.mul_comm 10]
    have hvb : v ≤ dN r (ones x) := by
      rw [← g]
      exact Nat.le_trans (Nat.le_mul_of_pos_right v (Nat.pow_pos (by decide))) (Nat.le_add_right _ _)
    refine X_iload (pc' := 62) dX5_plan_60 rfl rfl ?_
    refine X_iload_n (i := 1) (pc' := 63) dX5_plan_62 rfl rfl rfl ?_
    refine X_SIp (As := [_]) (rest := [_]) (pc' := 66) dX5_plan_63 rfl k_X5_ones l_X5_105 s_X5_ones ⟨by decide, by decide⟩ rfl rfl (Nat.le_of_ble_eq_true rfl) (d_ones cx τ' x hx) ?_
    refine X_icmp_ge (pc' := 69) (tgt := 96) dX5_plan_66 rfl (by decide) (fun h_66 => absurd h_66 (nI_ge hk (by omega))) (fun h_66 => ?_)
    refine X_bipush (pc' := 71) (v := nI 10) dX5_plan_69 rfl (by decide) ?_
    refine X_iload (pc' := 73) dX5_plan_71 rfl rfl ?_
    refine X_imul (pc' := 74) dX5_plan_73 rfl ?_
    refine X_eqi (nI (10 * v)) (pk_mul _ _) ?_
    refine X_aload_n (i := 0) (pc' := 75) dX5_plan_74 rfl rfl rfl ?_
    refine X_get (pc' := 78) (v := .int _) dX5_plan_75 rfl (gf_X5_151 _ rfl) o_M_1 rfl rfl ?_
    refine X_eqi (nI r) (hrow) ?_
    refine X_iload_n (i := 1) (pc' := 79) dX5_plan_78 rfl rfl rfl ?_
    refine X_SIp (As := [_]) (rest := [_, _]) (pc' := 82) dX5_plan_79 rfl k_X5_ones l_X5_105 s_X5_ones ⟨by decide, by decide⟩ rfl rfl (Nat.le_of_ble_eq_true rfl) (d_ones cx τ' x hx) ?_
    refine X_iload (pc' := 84) dX5_plan_82 rfl rfl ?_
    refine X_SIp (As := [_, _, _]) (rest := [_]) (pc' := 87) dX5_plan_84 rfl k_X5_dayOf l_X5_144 s_X5_dayOf ⟨by decide, by decide⟩ rfl rfl (Nat.le_of_ble_eq_true rfl) (d_dayOf cx τ' (by omega) ox hk) ?_
    refine X_iadd (pc' := 88) dX5_plan_87 rfl ?_
    refine X_eqi (nI (10 * v + r / 4 ^ (ones x - 1 - k) % 4)) (nI_add _ _) ?_
    refine X_istore (pc' := 90) (lv' := [(4, _), (5, _), (3, _), (0, _), (1, _), (2, _)]) dX5_plan_88 rfl (Nat.le_of_ble_eq_true rfl) rfl ?_
    refine X_iinc (pc' := 93) (v := nI (k + 1)) (lv' := [(5, _), (4, _), (3, _), (0, _), (1, _), (2, _)]) dX5_plan_90 rfl rfl ((nI_succ k).symm) (Nat.le_of_ble_eq_true rfl) rfl ?_
    refine X_goto (pc' := 0) (tgt := 60) dX5_plan_93 (by decide) ?_
    exact X_lv _ (by simp) (ih (10 * v + r / 4 ^ (ones x - 1 - k) % 4) (g2.symm.trans g))
theorem d_plan (τ : xT) {S : SA} {m : Nat} (h : RM τ m S) (hm : m < 4000) (q : Int32) (u : Prop) [Decidable u] : CI cx m_X5_plan [.ref 1, .int q, .int (zI u)] PM τ (fun x τ' => x = planF (aP S) (aS S) q u ∧ RM τ' (m + 1) S) := by
  obtain ⟨g1, g2, g3, g4, g5, g6, g7, g8⟩ := id h
  have hP := g1.2.2.1
  have ho := g1.2.2.2.1
  have hn6 := hP.1
  have h26 := two6 hP
  have hst := ho.2.1
  have ht0 := Nat.two_pow_pos (pn (aP S))
  have e1 : (nI (2 ^ pn (aP S) - 1)).toInt64.toInt = (2 ^ pn (aP S) : Nat) - 1 := by rw [Int32.toInt_toInt64, nI_toInt (by omega)]; omega
  have e2 : q.toInt64.toInt = q.toInt := Int32.toInt_toInt64 q
  have e3 : (lN 0).toInt = 0 := rfl
  refine Ct_of (by decide) (Nat.le_of_ble_eq_true rfl) (lv := [(0, _), (1, _), (2, _)]) rfl ?_
  unfold planF
  refine X_iload_n (i := 1) (pc' := 1) dX5_plan_0 rfl rfl rfl ?_
  refine X_i2l (pc' := 2) dX5_plan_1 rfl ?_
  refine X_lconst (pc' := 3) (v := lN 0) dX5_plan_2 rfl rfl ?_
  refine X_iconst (pc' := 4) (v := nI 1) dX5_plan_3 rfl (by decide) ?_
  refine X_aload_n (i := 0) (pc' := 5) dX5_plan_4 rfl rfl rfl ?_
  refine X_get (pc' := 8) (v := .int _) dX5_plan_5 rfl (gf_X5_96 _ rfl) o_M_1 rfl rfl ?_
  refine X_eqi (nI (pn (aP S))) (g4.1) ?_
  refine X_ishl (pc' := 9) dX5_plan_8 rfl ?_
  refine X_eqi (nI (2 ^ pn (aP S))) (bt_shl (by omega)) ?_
  refine X_iconst (pc' := 10) (v := nI 1) dX5_plan_9 rfl (by decide) ?_
  refine X_isub (pc' := 11) dX5_plan_10 rfl ?_
  refine X_eqi (nI (2 ^ pn (aP S) - 1)) (pk_sub ht0) ?_
  refine X_i2l (pc' := 12) dX5_plan_11 rfl ?_
  refine X_SIp (As := [_, _, _]) (rest := []) (pc' := 15) dX5_plan_12 rfl k_X5_in l_X5_50 s_X5_in ⟨by decide, by decide⟩ rfl rfl (Nat.le_of_ble_eq_true rfl) (d_in cx τ _ _ _) ?_
  refine X_if_ne (pc' := 18) (tgt := 21) dX5_plan_15 rfl (by decide) (fun h_15 => ?_) (fun h_15 => ?_)
  · have hc' := zI_1 h_15
    rw [e1, e2, e3] at hc'
    have hc : 0 ≤ q.toInt ∧ q.toInt < (2 ^ pn (aP S) : Nat) := by omega
    rw [if_pos hc]
    clear h_15 hc' e2
    have hqn := (nI_of3 hc.1).1
    have hlt : q.toInt.toNat < 2 ^ pn (aP S) := by omega
    generalize q.toInt.toNat = v at hqn hlt ⊢
    clear hc
    subst hqn
    refine X_iload_n (i := 1) (pc' := 22) dX5_plan_21 rfl rfl rfl ?_
    refine X_aload_n (i := 0) (pc' := 23) dX5_plan_22 rfl rfl rfl ?_
    refine X_get (pc' := 26) (v := .ref 4) dX5_plan_23 rfl (gf_X5_16 _ rfl) o_M_1 rfl rfl ?_
    refine X_bipush (pc' := 28) (v := nI 13) dX5_plan_26 rfl (by decide) ?_
    refine X_iald (pc' := 29) (j := 13) dX5_plan_28 rfl (Or.inl r_M_4) (rfl) (by decide) ?_
    refine X_eqi (nI (sSt (aS S))) (g5.2.2.2.1) ?_
    refine X_iand (pc' := 30) dX5_plan_29 rfl ?_
    refine X_eqi (nI (v &&& sSt (aS S))) (nI_and (by omega) (by omega)) ?_
    refine X_if_eq (pc' := 33) (tgt := 36) dX5_plan_30 rfl (by decide) (fun h_30 => ?_) (fun h_30 => ?_)
    · have hdis : v &&& sSt (aS S) = 0 := (nI_eq (Nat.lt_of_le_of_lt Nat.and_le_left (by omega)) (by decide)).mp h_30
      rw [if_pos hdis]
      have hb := best_x (x := v) hP ho hm hlt hdis (by omega) (Nat.and_self v)
      refine X_aload_n (i := 0) (pc' := 37) dX5_plan_36 rfl rfl rfl ?_
      refine X_iload_n (i := 1) (pc' := 38) dX5_plan_37 rfl rfl rfl ?_
      refine X_OI (As := [_]) (rest := []) (pc' := 41) dX5_plan_38 rfl k_X5_leastOf l_X5_157 v_X5_leastOf o_M_1 rfl ⟨by decide, by decide⟩ rfl rfl (Nat.le_of_ble_eq_true rfl) (d_leastOf cx τ hP g4 g5 ho hm hlt) (fun x_38 τ_38 h_38 => ?_)
      refine X_eqi (o9p (lsA (aP S) (aS S) v (4 ^ ones v))) (h_38.1) ?_
      refine X_istore_n (i := 3) (pc' := 42) (lv' := [(3, _), (0, _), (1, _), (2, _)]) dX5_plan_41 rfl rfl (Nat.le_of_ble_eq_true rfl) rfl ?_
      refine X_iload_n (i := 2) (pc' := 43) dX5_plan_42 rfl rfl rfl ?_
      refine X_if_eq (pc' := 46) (tgt := 52) dX5_plan_43 rfl (by decide) (fun h_43 => ?_) (fun h_43 => ?_)
      · refine X_iload_n (i := 3) (pc' := 53) dX5_plan_52 rfl rfl rfl ?_
        refine X_ri dX5_plan_53 rfl ⟨rfl, rfl⟩ ?_
        rcases hl : lsA (aP S) (aS S) v (4 ^ ones v) with _ | qq
        · rw [hl] at hb
          rw [if_neg hb]
          exact ⟨rfl, (h.mono (by omega)).scl h_38.2.1⟩
        · rw [hl] at hb
          rw [if_pos hb.2.1]
          refine ⟨?_, (h.mono (by omega)).scl h_38.2.1⟩
          first
            | (rw [if_neg (zI_0.mp h_43), hb.2.2.1]; rfl)
            | exact absurd (show nI qq.1 = -9 by rw [hl] at h_49; exact h_49) (nI_ne9 (by have := hb.2.2.1; have := hb.2.1; have hbk := bS_bd (aP S) (aS S) v 28 (Nat.le_refl _) (v * 4) (by omega); omega))
      · refine X_iload_n (i := 3) (pc' := 47) dX5_plan_46 rfl rfl rfl ?_
        refine X_bipush (pc' := 49) (v := (-9)) dX5_plan_47 rfl (by decide) ?_
        refine X_icmp_ne (pc' := 52) (tgt := 54) dX5_plan_49 rfl (by decide) (fun h_49 => ?_) (fun h_49 => ?_)
        · refine X_iconst (pc' := 55) (v := nI 0) dX5_plan_54 rfl (by decide) ?_
          refine X_istore (pc' := 57) (lv' := [(4, _), (3, _), (0, _), (1, _), (2, _)]) dX5_plan_55 rfl (Nat.le_of_ble_eq_true rfl) rfl ?_
          refine X_iconst (pc' := 58) (v := nI 0) dX5_plan_57 rfl (by decide) ?_
          refine X_istore (pc' := 60) (lv' := [(5, _), (4, _), (3, _), (0, _), (1, _), (2, _)]) dX5_plan_58 rfl (Nat.le_of_ble_eq_true rfl) rfl ?_
          rcases hl : lsA (aP S) (aS S) v (4 ^ ones v) with _ | qq
          · rw [hl] at h_49
            exact absurd rfl h_49
          · rw [hl] at hb
            rw [if_pos hb.2.1, if_pos (zI_1 h_43), hb.2.2.2 rfl]
            exact X_lv _ (by simp) (l2_plan cx (least := o9p (some qq)) (isRow := zI u) (by omega) hb.1 (by rw [h_38.2.2, hl]; rfl) ⟨rfl, (h.mono (by omega)).scl h_38.2.1⟩ 0 0 (Nat.zero_le _) (by rw [Nat.zero_mul, Nat.zero_add, Nat.sub_zero]))
        · refine X_iload_n (i := 3) (pc' := 53) dX5_plan_52 rfl rfl rfl ?_
          refine X_ri dX5_plan_53 rfl ⟨rfl, rfl⟩ ?_
          rcases hl : lsA (aP S) (aS S) v (4 ^ ones v) with _ | qq
          · rw [hl] at hb
            rw [if_neg hb]
            exact ⟨rfl, (h.mono (by omega)).scl h_38.2.1⟩
          · rw [hl] at hb
            rw [if_pos hb.2.1]
            refine ⟨?_, (h.mono (by omega)).scl h_38.2.1⟩
            first
              | (rw [if_neg (zI_0.mp h_43), hb.2.2.1]; rfl)
              | exact absurd (show nI qq.1 = -9 by rw [hl] at h_49; exact h_49) (nI_ne9 (by have := hb.2.2.1; have := hb.2.1; have hbk := bS_bd (aP S) (aS S) v 28 (Nat.le_refl _) (v * 4) (by omega); omega))
    · refine X_bipush (pc' := 35) (v := (-3)) dX5_plan_33 rfl (by decide) ?_
      refine X_ri dX5_plan_35 rfl ⟨rfl, rfl⟩ ?_
      rw [if_neg (fun q => h_30 (by rw [q]; rfl))]
      exact ⟨rfl, h.mono (by omega)⟩
  · refine X_bipush (pc' := 20) (v := (-2)) dX5_plan_18 rfl (by decide) ?_
    refine X_ri dX5_plan_20 rfl ⟨rfl, rfl⟩ ?_
    have hc := zI_0.mp h_15
    rw [e1, e2, e3] at hc
    rw [if_neg (fun r => hc (by omega))]
    exact ⟨rfl, h.mono (by omega)⟩
end MS2
