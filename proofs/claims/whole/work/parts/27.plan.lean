/-! ===== plan and share, by the planner's row ===== -/
def Bbd (c : Nat) (b : Nat → Nat) : Prop := ∀ p, p < 256 → b p = BIG ∨ b p ≤ c
theorem bS_bdW (P : PT) (s : SN) (set W : Nat) (hW : ∀ l d u, d ≤ 3 → wN P s set l d u ≤ W) : ∀ i, i ≤ 28 → Bbd (i * W) (bS P s set i) := by
  intro i
  induction i with
  | zero =>
    intro _ p hp
    show (if p = sTd s then 0 else BIG) = BIG ∨ (if p = sTd s then 0 else BIG) ≤ _
    split
    · exact Or.inr (Nat.zero_le _)
    · exact Or.inl rfl
  | succ i ih =>
    intro hi
    have ih := ih (by omega)
    have hk := bS_ok P s set i
    rw [Nat.succ_mul]
    generalize i * W = B at ih ⊢
    unfold bS
    split
    · intro p hp
      unfold endB
      split
      · have h0 := ih p hp
        have h1 := ih (p + 1) (by omega)
        have h2 := ih (p + 2) (by omega)
        have h3 := ih (p + 3) (by omega)
        generalize BIG = G at *
        omega
      · exact Or.inl rfl
    · split
      · intro p hp
        unfold stepB
        split
        · rename_i hc
          have h0 := ih p hp
          have hlt : (p / 4 - 2 ^ (i % 7)) * 4 + (p % 4 - 1) < 256 := by
            have : p / 4 - 2 ^ (i % 7) ≤ p / 4 := Nat.sub_le _ _
            omega
          have h1 := ih _ hlt
          have h2 : bS P s set i p ≤ BIG := hk p hp
          have h3 := hW (i % 7) (i / 7) (p / 4 - 2 ^ (i % 7)) (by omega)
          generalize wN P s set (i % 7) (i / 7) (p / 4 - 2 ^ (i % 7)) = w at *
          generalize bS P s set i p = x at *
          generalize bS P s set i ((p / 4 - 2 ^ (i % 7)) * 4 + (p % 4 - 1)) = y at *
          generalize BIG = G at *
          omega
        · have h0 := ih p hp
          generalize BIG = G at *
          omega
      · intro p hp
        have h0 := ih p hp
        generalize BIG = G at *
        omega
theorem bS_bd (P : PT) (s : SN) (set : Nat) : ∀ i, i ≤ 28 → Bbd (i * 597000000) (bS P s set i) := bS_bdW P s set 597000000 (fun l d u hd => wN_le P s set l d u hd)
def planF (P : PT) (s : SN) (q : Int32) (u : Prop) [Decidable u] : Int32 := if 0 ≤ q.toInt ∧ q.toInt < (2 ^ pn P : Nat) then (if q.toInt.toNat &&& sSt s = 0 then (if bS P s q.toInt.toNat 28 (q.toInt.toNat * 4) < BIG then (if u then nI (bS P s q.toInt.toNat 28 (q.toInt.toNat * 4) % 1000000) else nI (bS P s q.toInt.toNat 28 (q.toInt.toNat * 4) / 1000000)) else -9) else -3) else -2
/-- what a set costs in a share -/
def cS (b : Nat → Nat) (set : Nat) : Nat := if b (set * 4) < BIG then b (set * 4) / 1000000 else 999
def shN (b : Nat → Nat) (k others : Nat) : Nat → Int
  | 0 => 0
  | c + 1 => shN b k others c + if c &&& others = c then ((fac (ones c) * fac (ones others - ones c) : Nat) : Int) * ((cS b (c ||| 2 ^ k) : Int) - cS b c) else 0
def shareF (P : PT) (s : SN) (l : Int32) (u : Prop) [Decidable u] : Int32 := onL P l fun k => if bt (sSt s) k then (if u then nI 0 else nI 1) else fracF (shN (bS P s (2 ^ pn P - 1 - sSt s) 28) k (dif (2 ^ pn P - 1 - sSt s) (2 ^ k)) 64) (fac (ones (dif (2 ^ pn P - 1 - sSt s) (2 ^ k)) + 1)) u
theorem fac_le : ∀ n, n < 8 → fac n ≤ 5040 ∧ 0 < fac n := by decide +kernel
theorem lI_add (a b : Int) : lI a + lI b = lI (a + b) := (Int64.ofInt_add a b).symm
theorem lI_mul (a b : Int) : lI a * lI b = lI (a * b) := (Int64.ofInt_mul a b).symm
theorem i2l_sub {a b : Nat} (ha : a < 2 ^ 30) (hb : b < 2 ^ 30) : (nI a - nI b).toInt64 = lI ((a : Int) - b) := by
  apply Int64.toInt_inj.mp
  rw [Int32.toInt_toInt64, pk_sub_toInt ha hb, lI_toInt (by omega) (by omega)]
theorem cS_le {P : PT} {s : SN} {set : Nat} {x : Nat} (hx : x < 64) : cS (bS P s set 28) x ≤ 16716 := by
  have h := bS_bd P s set 28 (Nat.le_refl _) (x * 4) (by omega)
  unfold cS
  split <;> omega
set_option maxRecDepth 100000 in
theorem shN_bd {P : PT} {s : SN} {set k others : Nat} (hk : k < 6) : ∀ c : Nat, c ≤ 64 → -((c : Int) * 1000000000000) ≤ shN (bS P s set 28) k others c ∧ shN (bS P s set 28) k others c ≤ (c : Int) * 1000000000000 := by
  intro c
  induction c with
  | zero => intro _; exact ⟨by show -((0 : Int) * _) ≤ 0; omega, by show (0 : Int) ≤ 0 * _; omega⟩
  | succ c ih =>
    intro hc
    obtain ⟨h1, h2⟩ := ih (by omega)
    have o1 := ones_le c
    have o2 := ones_le others
    have f1 := (fac_le (ones c) (by omega)).1
    have f2 := (fac_le (ones others - ones c) (by omega)).1
    have f3 := Nat.mul_le_mul f1 f2
    have hkk : 2 ^ k < 2 ^ 6 := pow_lt hk
    have hor : c ||| 2 ^ k < 2 ^ 6 := Nat.or_lt_two_pow (by omega) hkk
    have c1 := cS_le (P := P) (s := s) (set := set) (x := c ||| 2 ^ k) (by omega)
    have c2 := cS_le (P := P) (s := s) (set := set) (x := c) (by omega)
    have key : ∀ (F : Nat) (A B : Nat), F ≤ 25401600 → A ≤ 16716 → B ≤ 16716 → -(1000000000000 : Int) ≤ (F : Int) * ((A : Int) - B) ∧ (F : Int) * ((A : Int) - B) ≤ 1000000000000 := by
      intro F A B hF hA hB
      have e1 : (F : Int) * ((A : Int) - B) = ((F * A : Nat) : Int) - ((F * B : Nat) : Int) := by rw [Int.mul_sub]; rfl
      have g1 : F * A ≤ 25401600 * 16716 := Nat.mul_le_mul hF hA
      have g2 : F * B ≤ 25401600 * 16716 := Nat.mul_le_mul hF hB
      rw [e1]
      generalize F * A = x at *
      generalize F * B = y at *
      omega
    have kk := key (fac (ones c) * fac (ones others - ones c)) _ _ (Nat.le_trans f3 (by decide)) c1 c2
    unfold shN
    split
    · generalize ((fac (ones c) * fac (ones others - ones c) : Nat) : Int) * ((cS (bS P s set 28) (c ||| 2 ^ k) : Int) - cS (bS P s set 28) c) = t at *
      omega
    · omega
section PN
variable (cx : xC)
set_option maxHeartbeats 4000000
set_option maxRecDepth 100000
theorem c_hasRoom (τ : xT) {b : Nat → Nat} (h : BR τ b) (hb : Bok b) {x : Nat} (hx : x < 64) : CI cx m_X0_hasRoom [.ref 69, .int (nI x)] PW τ (fun y τ' => τ' = τ ∧ y = zI (b (x * 4) < BIG)) := by
  have hbx : b (x * 4) ≤ 1152921504606846976 := hb _ (by omega)
  refine Ct_of (by decide) (Nat.le_of_ble_eq_true rfl) (lv := [(0, _), (1, _)]) rfl ?_
  refine X_aload_n (i := 0) (pc' := 1) dX0_hasRoom_0 rfl rfl rfl ?_
  refine X_iload_n (i := 1) (pc' := 2) dX0_hasRoom_1 rfl rfl rfl ?_
  refine X_iconst (pc' := 3) (v := nI 4) dX0_hasRoom_2 rfl (by decide) ?_
  refine X_imul (pc' := 4) dX0_hasRoom_3 rfl ?_
  refine X_eqi (nI (x * 4)) (pk_mul _ _) ?_
  refine X_OLp (As := [_]) (rest := []) (pc' := 7) dX0_hasRoom_4 rfl k_X0_bestAt l_X0_44 v_X0_bestAt o_W_69 rfl ⟨by decide, by decide⟩ rfl rfl (Nat.le_of_ble_eq_true rfl) (c_bestAt cx τ h (by omega)) ?_
  refine X_ldc2 (pc' := 10) (v := lN 1152921504606846976) dX0_hasRoom_7 rfl cn_X0_15 ?_
  refine X_lcmp (pc' := 11) dX0_hasRoom_10 rfl ?_
  refine X_if_ge (pc' := 14) (tgt := 18) dX0_hasRoom_11 rfl (by decide) (fun h_11 => ?_) (fun h_11 => ?_)
  · refine X_iconst (pc' := 19) (v := nI 0) dX0_hasRoom_18 rfl (by decide) ?_
    refine X_rz dX0_hasRoom_19 rfl (rfl) ⟨rfl, rfl⟩ ?_
    first
      | exact ⟨rfl, (zI_t (Nat.not_le.mp (fun q => h_11 ((lcmp_lt (by omega) (by decide)).mpr q)))).symm⟩
      | exact ⟨rfl, (zI_f (fun q => Nat.not_lt.mpr ((lcmp_lt (by omega) (by decide)).mp h_11) q)).symm⟩
  · refine X_iconst (pc' := 15) (v := nI 1) dX0_hasRoom_14 rfl (by decide) ?_
    refine X_goto (pc' := 0) (tgt := 19) dX0_hasRoom_15 (by decide) ?_
    refine X_rz dX0_hasRoom_19 rfl (rfl) ⟨rfl, rfl⟩ ?_
    first
      | exact ⟨rfl, (zI_t (Nat.not_le.mp (fun q => h_11 ((lcmp_lt (by omega) (by decide)).mpr q)))).symm⟩
      | exact ⟨rfl, (zI_f (fun q => Nat.not_lt.mpr ((lcmp_lt (by omega) (by decide)).mp h_11) q)).symm⟩
theorem c_paidFor (τ : xT) {b : Nat → Nat} (h : BR τ b) (hb : Bok b) {x : Nat} (hx : x < 64) : CI cx m_X0_paidFor [.ref 69, .int (nI x)] PW τ (fun y τ' => τ' = τ ∧ y = nI (b (x * 4) / 1000000)) := by
  have hbx : b (x * 4) ≤ 1152921504606846976 := hb _ (by omega)
  refine Ct_of (by decide) (Nat.le_of_ble_eq_true rfl) (lv := [(0, _), (1, _)]) rfl ?_
  refine X_aload_n (i := 0) (pc' := 1) dX0_paidFor_0 rfl rfl rfl ?_
  refine X_iload_n (i := 1) (pc' := 2) dX0_paidFor_1 rfl rfl rfl ?_
  refine X_iconst (pc' := 3) (v := nI 4) dX0_paidFor_2 rfl (by decide) ?_
  refine X_imul (pc' := 4) dX0_paidFor_3 rfl ?_
  refine X_eqi (nI (x * 4)) (pk_mul _ _) ?_
  refine X_OLp (As := [_]) (rest := []) (pc' := 7) dX0_paidFor_4 rfl k_X0_bestAt l_X0_44 v_X0_bestAt o_W_69 rfl ⟨by decide, by decide⟩ rfl rfl (Nat.le_of_ble_eq_true rfl) (c_bestAt cx τ h (by omega)) ?_
  refine X_ldc2 (pc' := 10) (v := lN 1000000) dX0_paidFor_7 rfl cn_X0_48 ?_
  refine X_ldiv (pc' := 11) dX0_paidFor_10 rfl (by decide) ?_
  refine X_eql (lN (b (x * 4) / 1000000)) (pk_lDiv (by omega) (by decide) (by decide)) ?_
  refine X_l2i (pc' := 12) dX0_paidFor_11 rfl ?_
  refine X_ri dX0_paidFor_12 rfl ⟨rfl, rfl⟩ ?_
  exact ⟨rfl, lN_i _⟩
theorem c_rowOf (τ : xT) {b : Nat → Nat} (h : BR τ b) (hb : Bok b) {x : Nat} (hx : x < 64) : CI cx m_X0_rowOf [.ref 69, .int (nI x)] PW τ (fun y τ' => τ' = τ ∧ y = nI (b (x * 4) % 1000000)) := by
  have hbx : b (x * 4) ≤ 1152921504606846976 := hb _ (by omega)
  refine Ct_of (by decide) (Nat.le_of_ble_eq_true rfl) (lv := [(0, _), (1, _)]) rfl ?_
  refine X_aload_n (i := 0) (pc' := 1) dX0_rowOf_0 rfl rfl rfl ?_
  refine X_iload_n (i := 1) (pc' := 2) dX0_rowOf_1 rfl rfl rfl ?_
  refine X_iconst (pc' := 3) (v := nI 4) dX0_rowOf_2 rfl (by decide) ?_
  refine X_imul (pc' := 4) dX0_rowOf_3 rfl ?_
  refine X_eqi (nI (x * 4)) (pk_mul _ _) ?_
  refine X_OLp (As := [_]) (rest := []) (pc' := 7) dX0_rowOf_4 rfl k_X0_bestAt l_X0_44 v_X0_bestAt o_W_69 rfl ⟨by decide, by decide⟩ rfl rfl (Nat.le_of_ble_eq_true rfl) (c_bestAt cx τ h (by omega)) ?_
  refine X_ldc2 (pc' := 10) (v := lN 1000000) dX0_rowOf_7 rfl cn_X0_48 ?_
  refine X_lrem (pc' := 11) dX0_rowOf_10 rfl (by decide) ?_
  refine X_eql (lN (b (x * 4) % 1000000)) (pk_lRem (by omega) (by decide) (by decide)) ?_
  refine X_l2i (pc' := 12) dX0_rowOf_11 rfl ?_
  refine X_ri dX0_rowOf_12 rfl ⟨rfl, rfl⟩ ?_
  exact ⟨rfl, lN_i _⟩
theorem c_costForShare (τ : xT) {b : Nat → Nat} (h : BR τ b) (hb : Bok b) {x : Nat} (hx : x < 64) : CI cx m_X4_costForShare [.ref 1, .int (nI x)] PW τ (fun y τ' => τ' = τ ∧ y = nI (cS b x)) := by
  refine Ct_of (by decide) (Nat.le_of_ble_eq_true rfl) (lv := [(0, _), (1, _)]) rfl ?_
  refine X_aload_n (i := 0) (pc' := 1) dX4_costForShare_0 rfl rfl rfl ?_
  refine X_get (pc' := 4) (v := .ref 69) dX4_costForShare_1 rfl (gf_X4_50 _ rfl) o_W_1 rfl rfl ?_
  refine X_iload_n (i := 1) (pc' := 5) dX4_costForShare_4 rfl rfl rfl ?_
  refine X_OIp (As := [_]) (rest := []) (pc' := 8) dX4_costForShare_5 rfl k_X0_hasRoom l_X4_148 v_X0_hasRoom o_W_69 rfl ⟨by decide, by decide⟩ rfl rfl (Nat.le_of_ble_eq_true rfl) (c_hasRoom cx τ h hb hx) ?_
  refine X_if_eq (pc' := 11) (tgt := 22) dX4_costForShare_8 rfl (by decide) (fun h_8 => ?_) (fun h_8 => ?_)
  · refine X_sipush (pc' := 25) (v := nI 999) dX4_costForShare_22 rfl (by decide) ?_
    refine X_ri dX4_costForShare_25 rfl ⟨rfl, rfl⟩ ?_
    unfold cS
    first
      | exact ⟨rfl, by rw [if_pos (zI_1 h_8)]⟩
      | exact ⟨rfl, by rw [if_neg (zI_0.mp h_8)]⟩
  · refine X_aload_n (i := 0) (pc' := 12) dX4_costForShare_11 rfl rfl rfl ?_
    refine X_get (pc' := 15) (v := .ref 69) dX4_costForShare_12 rfl (gf_X4_50 _ rfl) o_W_1 rfl rfl ?_
    refine X_iload_n (i := 1) (pc' := 16) dX4_costForShare_15 rfl rfl rfl ?_
    refine X_OIp (As := [_]) (rest := []) (pc' := 19) dX4_costForShare_16 rfl k_X0_paidFor l_X4_154 v_X0_paidFor o_W_69 rfl ⟨by decide, by decide⟩ rfl rfl (Nat.le_of_ble_eq_true rfl) (c_paidFor cx τ h hb hx) ?_
    refine X_goto (pc' := 0) (tgt := 25) dX4_costForShare_19 (by decide) ?_
    refine X_ri dX4_costForShare_25 rfl ⟨rfl, rfl⟩ ?_
    unfold cS
    first
      | exact ⟨rfl, by rw [if_pos (zI_1 h_8)]⟩
      | exact ⟨rfl, by rw [if_neg (zI_0.mp h_8)]⟩
theorem c_plan (τ : xT) {S : SA} {m : Nat} (h : RW τ m S) (hm : m < 4000) (q : Int32) (u : Prop) [Decidable u] : CI cx m_X4_plan [.ref 1, .int q, .int (zI u)] PW τ (fun x τ' => x = planF (aP S) (aS S) q u ∧ RW τ' (m + 1) S) := by
  have hq := h.q (by omega)
  obtain ⟨hT, hs, hP, ho, hm5⟩ := id hq
  have hn6 := hP.1
  have h26 := two6 hP
  have hst := ho.2.1
  refine Ct_of (by decide) (Nat.le_of_ble_eq_true rfl) (lv := [(0, _), (1, _), (2, _)]) rfl ?_
  unfold planF
  refine X_iload_n (i := 1) (pc' := 1) dX4_plan_0 rfl rfl rfl ?_
  refine X_if_lt (pc' := 4) (tgt := 18) dX4_plan_1 rfl (by decide) (fun h_1 => ?_) (fun h_1 => ?_)
  · refine X_bipush (pc' := 20) (v := (-2)) dX4_plan_18 rfl (by decide) ?_
    refine X_ri dX4_plan_20 rfl ⟨rfl, rfl⟩ ?_
    rw [if_neg (fun q => by simp only [lt0, ltI (n := 2 ^ pn (aP S)) (by omega)] at *; omega)]
    exact ⟨rfl, h.mono (by omega)⟩
  · refine X_iload_n (i := 1) (pc' := 5) dX4_plan_4 rfl rfl rfl ?_
    refine X_aload_n (i := 0) (pc' := 6) dX4_plan_5 rfl rfl rfl ?_
    refine X_get (pc' := 9) (v := .ref 8) dX4_plan_6 rfl (gf_X4_23 _ rfl) o_W_1 rfl rfl ?_
    refine X_get (pc' := 12) (v := .int _) dX4_plan_9 rfl (gf_X4_78 _ rfl) o_W_8 rfl rfl ?_
    refine X_eqi (nI (pn (aP S))) (hT.2.2.1) ?_
    refine X_SIp (As := [_]) (rest := [_]) (pc' := 15) dX4_plan_12 rfl k_X4_bit l_X4_137 s_X4_bit ⟨by decide, by decide⟩ rfl rfl (Nat.le_of_ble_eq_true rfl) (c_X4_bit cx τ (pn (aP S)) (by omega)) ?_
    refine X_icmp_lt (pc' := 18) (tgt := 21) dX4_plan_15 rfl (by decide) (fun h_15 => ?_) (fun h_15 => ?_)
    · have hc : 0 ≤ q.toInt ∧ q.toInt < (2 ^ pn (aP S) : Nat) := by simp only [lt0, ltI (n := 2 ^ pn (aP S)) (by omega)] at *; omega
      rw [if_pos hc]
      have hqn := (nI_of3 hc.1).1
      have hlt : q.toInt.toNat < 2 ^ pn (aP S) := by omega
      generalize q.toInt.toNat = v at hqn hlt ⊢
      subst hqn
      refine X_iload_n (i := 1) (pc' := 22) dX4_plan_21 rfl rfl rfl ?_
      refine X_aload_n (i := 0) (pc' := 23) dX4_plan_22 rfl rfl rfl ?_
      refine X_get (pc' := 26) (v := .ref 12) dX4_plan_23 rfl (gf_X4_30 _ rfl) o_W_1 rfl rfl ?_
      refine X_get (pc' := 29) (v := .int _) dX4_plan_26 rfl (gf_X4_98 _ rfl) o_W_12 rfl rfl ?_
      refine X_eqi (nI (sSt (aS S))) (hs.2.1) ?_
      refine X_iand (pc' := 30) dX4_plan_29 rfl ?_
      refine X_eqi (nI (v &&& sSt (aS S))) (nI_and (by omega) (by omega)) ?_
      refine X_if_eq (pc' := 33) (tgt := 36) dX4_plan_30 rfl (by decide) (fun h_30 => ?_) (fun h_30 => ?_)
      · have h0 : v &&& sSt (aS S) = 0 := (nI_eq (Nat.lt_of_le_of_lt Nat.and_le_left (by omega)) (by decide)).mp h_30
        rw [if_pos h0]
        refine X_aload_n (i := 0) (pc' := 37) dX4_plan_36 rfl rfl rfl ?_
        refine X_get (pc' := 40) (v := .ref 69) dX4_plan_37 rfl (gf_X4_50 _ rfl) o_W_1 rfl rfl ?_
        refine X_aload_n (i := 0) (pc' := 41) dX4_plan_40 rfl rfl rfl ?_
        refine X_get (pc' := 44) (v := .ref 8) dX4_plan_41 rfl (gf_X4_23 _ rfl) o_W_1 rfl rfl ?_
        refine X_aload_n (i := 0) (pc' := 45) dX4_plan_44 rfl rfl rfl ?_
        refine X_get (pc' := 48) (v := .ref 12) dX4_plan_45 rfl (gf_X4_30 _ rfl) o_W_1 rfl rfl ?_
        refine X_iload_n (i := 1) (pc' := 49) dX4_plan_48 rfl rfl rfl ?_
        refine X_OV (As := [_, _, _]) (rest := []) (pc' := 52) dX4_plan_49 rfl k_X0_fill l_X4_144 v_X0_fill o_W_69 rfl ⟨by decide, by decide⟩ rfl rfl (Nat.le_of_ble_eq_true rfl) (c_fill cx τ hq (by omega) hlt) (fun τ_49 h_49 => ?_)
        refine X_aload_n (i := 0) (pc' := 53) dX4_plan_52 rfl rfl rfl ?_
        refine X_get (pc' := 56) (v := .ref 69) dX4_plan_53 rfl (gf_X4_50 _ rfl) o_W_1 rfl rfl ?_
        refine X_iload_n (i := 1) (pc' := 57) dX4_plan_56 rfl rfl rfl ?_
        refine X_OIp (As := [_]) (rest := []) (pc' := 60) dX4_plan_57 rfl k_X0_hasRoom l_X4_148 v_X0_hasRoom o_W_69 rfl ⟨by decide, by decide⟩ rfl rfl (Nat.le_of_ble_eq_true rfl) (c_hasRoom cx τ_49 h_49.2 (bS_ok _ _ _ _) (by omega)) ?_
        refine X_if_ne (pc' := 63) (tgt := 66) dX4_plan_60 rfl (by decide) (fun h_60 => ?_) (fun h_60 => ?_)
        · refine X_iload_n (i := 2) (pc' := 67) dX4_plan_66 rfl rfl rfl ?_
          refine X_if_eq (pc' := 70) (tgt := 81) dX4_plan_67 rfl (by decide) (fun h_67 => ?_) (fun h_67 => ?_)
          · refine X_aload_n (i := 0) (pc' := 82) dX4_plan_81 rfl rfl rfl ?_
            refine X_get (pc' := 85) (v := .ref 69) dX4_plan_82 rfl (gf_X4_50 _ rfl) o_W_1 rfl rfl ?_
            refine X_iload_n (i := 1) (pc' := 86) dX4_plan_85 rfl rfl rfl ?_
            refine X_OIp (As := [_]) (rest := []) (pc' := 89) dX4_plan_86 rfl k_X0_paidFor l_X4_154 v_X0_paidFor o_W_69 rfl ⟨by decide, by decide⟩ rfl rfl (Nat.le_of_ble_eq_true rfl) (c_paidFor cx τ_49 h_49.2 (bS_ok _ _ _ _) (by omega)) ?_
            refine X_ri dX4_plan_89 rfl ⟨rfl, rfl⟩ ?_
            rw [if_pos (zI_1 h_60)]
            first
              | exact ⟨by rw [if_pos (zI_1 h_67)], (h.mono (by omega)).scr (h_49.1.mono (by decide))⟩
              | exact ⟨by rw [if_neg (zI_0.mp h_67)], (h.mono (by omega)).scr (h_49.1.mono (by decide))⟩
          · refine X_aload_n (i := 0) (pc' := 71) dX4_plan_70 rfl rfl rfl ?_
            refine X_get (pc' := 74) (v := .ref 69) dX4_plan_71 rfl (gf_X4_50 _ rfl) o_W_1 rfl rfl ?_
            refine X_iload_n (i := 1) (pc' := 75) dX4_plan_74 rfl rfl rfl ?_
            refine X_OIp (As := [_]) (rest := []) (pc' := 78) dX4_plan_75 rfl k_X0_rowOf l_X4_151 v_X0_rowOf o_W_69 rfl ⟨by decide, by decide⟩ rfl rfl (Nat.le_of_ble_eq_true rfl) (c_rowOf cx τ_49 h_49.2 (bS_ok _ _ _ _) (by omega)) ?_
            refine X_goto (pc' := 0) (tgt := 89) dX4_plan_78 (by decide) ?_
            refine X_ri dX4_plan_89 rfl ⟨rfl, rfl⟩ ?_
            rw [if_pos (zI_1 h_60)]
            first
              | exact ⟨by rw [if_pos (zI_1 h_67)], (h.mono (by omega)).scr (h_49.1.mono (by decide))⟩
              | exact ⟨by rw [if_neg (zI_0.mp h_67)], (h.mono (by omega)).scr (h_49.1.mono (by decide))⟩
        · refine X_bipush (pc' := 65) (v := (-9)) dX4_plan_63 rfl (by decide) ?_
          refine X_ri dX4_plan_65 rfl ⟨rfl, rfl⟩ ?_
          rw [if_neg (zI_0.mp h_60)]
          exact ⟨rfl, (h.mono (by omega)).scr (h_49.1.mono (by decide))⟩
      · refine X_bipush (pc' := 35) (v := (-3)) dX4_plan_33 rfl (by decide) ?_
        refine X_ri dX4_plan_35 rfl ⟨rfl, rfl⟩ ?_
        rw [if_neg (fun q => h_30 (by rw [q]; rfl))]
        exact ⟨rfl, h.mono (by omega)⟩
    · refine X_bipush (pc' := 20) (v := (-2)) dX4_plan_18 rfl (by decide) ?_
      refine X_ri dX4_plan_20 rfl ⟨rfl, rfl⟩ ?_
      rw [if_neg (fun q => by simp only [lt0, ltI (n := 2 ^ pn (aP S)) (by omega)] at *; omega)]
      exact ⟨rfl, h.mono (by omega)⟩
theorem l_share (τ τ0 : xT) {P : PT} {s : SN} {set : Nat} (hB : BR τ (bS P s set 28)) {k others : Nat} (hk : k < 6) (hot : others < 64) (u : Prop) [Decidable u] {left : Nat} {R : Int32 → xT → Prop} (hR : ∀ y, y = fracF (shN (bS P s set 28) k others 64) (fac (ones others + 1)) u → R y τ) : ∀ (c : Nat) (z : Unit), c ≤ 64 → True → X cx m_X4_share PW (qI PW R) 75 [(8, .int (nI c)), (6, .long (lI (shN (bS P s set 28) k others c))), (5, .int (nI (ones others))), (4, .int (nI others)), (3, .int (nI left)), (0, .ref 1), (1, .int (nI k)), (2, .int (zI u))] [] PW τ := by
  have hb := bS_ok P s set 28
  have oo := ones_le others
  have hkk : 2 ^ k < 2 ^ 6 := pow_lt hk
  refine xloop _ _ 64 (fun _ _ => ?_) (fun c _ hc _ ih => ?_)
  · have f := fac_le (ones others + 1) (by omega)
    have bd := shN_bd (P := P) (s := s) (set := set) (k := k) (others := others) hk 64 (Nat.le_refl _)
    refine X_iload (pc' := 77) dX4_share_75 rfl rfl ?_
    refine X_bipush (pc' := 79) (v := nI 64) dX4_share_77 rfl (by decide) ?_
    refine X_icmp_ge (pc' := 82) (tgt := 148) dX4_share_79 rfl (by decide) (fun h_79 => ?_) (fun h_79 => absurd (nI_le (Nat.le_refl _) (by decide)) h_79)
    refine X_lload (pc' := 150) dX4_share_148 rfl rfl ?_
    refine X_iload (pc' := 152) dX4_share_150 rfl rfl ?_
    refine X_iconst (pc' := 153) (v := nI 1) dX4_share_152 rfl (by decide) ?_
    refine X_iadd (pc' := 154) dX4_share_153 rfl ?_
    refine X_eqi (nI (ones others + 1)) (nI_add _ _) ?_
    refine X_SLp (As := [_]) (rest := [_]) (pc' := 157) dX4_share_154 rfl k_X4_factorial l_X4_191 s_X4_factorial ⟨by decide, by decide⟩ rfl rfl (Nat.le_of_ble_eq_true rfl) (c_factorial cx τ (ones others + 1) (by omega)) ?_
    refine X_iload_n (i := 2) (pc' := 158) dX4_share_157 rfl rfl rfl ?_
    refine X_SIp (As := [_, _, _]) (rest := []) (pc' := 161) dX4_share_158 rfl k_X4_fractionPart l_X4_182 s_X4_fractionPart ⟨by decide, by decide⟩ rfl rfl (Nat.le_of_ble_eq_true rfl) (c_frac cx τ (shN (bS P s set 28) k others 64) (fac (ones others + 1)) u (by omega) (by omega) f.2 (by omega)) ?_
    refine X_ri dX4_share_161 rfl ⟨rfl, rfl⟩ ?_
    exact hR _ rfl
  · have oc := ones_le c
    have hor : c ||| 2 ^ k < 2 ^ 6 := Nat.or_lt_two_pow (by omega) hkk
    have c1 := cS_le (P := P) (s := s) (set := set) (x := c ||| 2 ^ k) (by omega)
    have c2 := cS_le (P := P) (s := s) (set := set) (x := c) (by omega)
    refine X_iload (pc' := 77) dX4_share_75 rfl rfl ?_
    refine X_bipush (pc' := 79) (v := nI 64) dX4_share_77 rfl (by decide) ?_
    refine X_icmp_ge (pc' := 82) (tgt := 148) dX4_share_79 rfl (by decide) (fun h_79 => absurd h_79 (nI_ge hc (by decide))) (fun h_79 => ?_)
    refine X_iload (pc' := 84) dX4_share_82 rfl rfl ?_
    refine X_iload (pc' := 86) dX4_share_84 rfl rfl ?_
    refine X_SIp (As := [_, _]) (rest := []) (pc' := 89) dX4_share_86 rfl k_X4_within l_X4_179 s_X4_within ⟨by decide, by decide⟩ rfl rfl (Nat.le_of_ble_eq_true rfl) (c_X4_within cx τ c others hc hot) ?_
    refine X_if_eq (pc' := 92) (tgt := 142) dX4_share_89 rfl (by decide) (fun h_89 => ?_) (fun h_89 => ?_)
    · refine X_iinc (pc' := 145) (v := nI (c + 1)) (lv' := [(8, _), (6, _), (5, _), (4, _), (3, _), (0, _), (1, _), (2, _)]) dX4_share_142 rfl rfl ((nI_succ c).symm) (Nat.le_of_ble_eq_true rfl) rfl ?_
      refine X_goto (pc' := 0) (tgt := 75) dX4_share_145 (by decide) ?_
      have hb1 : shN (bS P s set 28) k others (c + 1) = shN (bS P s set 28) k others c + (if c &&& others = c then ((fac (ones c) * fac (ones others - ones c) : Nat) : Int) * ((cS (bS P s set 28) (c ||| 2 ^ k) : Int) - cS (bS P s set 28) c) else 0) := rfl
      have := ih () trivial
      first
        | (rw [hb1, if_neg (zI_0.mp h_89), Int.add_zero] at this
           exact X_lv _ (by simp) this)
        | (rw [hb1, if_pos (zI_1 h_89)] at this
           exact X_lv _ (by simp) this)
    · refine X_iload (pc' := 94) dX4_share_92 rfl rfl ?_
      refine X_SIp (As := [_]) (rest := []) (pc' := 97) dX4_share_94 rfl k_J6_bitCount_0f7a4 l_X4_186 s_J6_bitCount_0f7a4 ⟨by decide, by decide⟩ rfl rfl (Nat.le_of_ble_eq_true rfl) (c_bc cx τ c hc) ?_
      refine X_istore (pc' := 99) (lv' := [(9, _), (8, _), (6, _), (5, _), (4, _), (3, _), (0, _), (1, _), (2, _)]) dX4_share_97 rfl (Nat.le_of_ble_eq_true rfl) rfl ?_
      have hsub := ones_sub c hc others hot (zI_1 h_89)
      refine X_iload (pc' := 101) dX4_share_99 rfl rfl ?_
      refine X_SLp (As := [_]) (rest := []) (pc' := 104) dX4_share_101 rfl k_X4_factorial l_X4_191 s_X4_factorial ⟨by decide, by decide⟩ rfl rfl (Nat.le_of_ble_eq_true rfl) (c_factorial cx τ (ones c) (by omega)) ?_
      refine X_iload (pc' := 106) dX4_share_104 rfl rfl ?_
      refine X_iload (pc' := 108) dX4_share_106 rfl rfl ?_
      refine X_isub (pc' := 109) dX4_share_108 rfl ?_
      refine X_eqi (nI (ones others - ones c)) (pk_sub hsub) ?_
      refine X_SLp (As := [_]) (rest := [_]) (pc' := 112) dX4_share_109 rfl k_X4_factorial l_X4_191 s_X4_factorial ⟨by decide, by decide⟩ rfl rfl (Nat.le_of_ble_eq_true rfl) (c_factorial cx τ (ones others - ones c) (by omega)) ?_
      refine X_lmul (pc' := 113) dX4_share_112 rfl ?_
      refine X_eql (lI ((fac (ones c) * fac (ones others - ones c) : Nat) : Int)) (by rw [lN_mul, lI_nat]) ?_
      refine X_lstore (pc' := 115) (lv' := [(10, _), (9, _), (8, _), (6, _), (5, _), (4, _), (3, _), (0, _), (1, _), (2, _)]) dX4_share_113 rfl (Nat.le_of_ble_eq_true rfl) rfl ?_
      refine X_lload (pc' := 117) dX4_share_115 rfl rfl ?_
      refine X_lload (pc' := 119) dX4_share_117 rfl rfl ?_
      refine X_aload_n (i := 0) (pc' := 120) dX4_share_119 rfl rfl rfl ?_
      refine X_iload (pc' := 122) dX4_share_120 rfl rfl ?_
      refine X_iload_n (i := 1) (pc' := 123) dX4_share_122 rfl rfl rfl ?_
      refine X_SIp (As := [_]) (rest := [_, _, _, _]) (pc' := 126) dX4_share_123 rfl k_X4_bit l_X4_137 s_X4_bit ⟨by decide, by decide⟩ rfl rfl (Nat.le_of_ble_eq_true rfl) (c_X4_bit cx τ k (by omega)) ?_
      refine X_ior (pc' := 127) dX4_share_126 rfl ?_
      refine X_eqi (nI (c ||| 2 ^ k)) (nI_or (by omega) (by omega)) ?_
      refine X_OIp (As := [_]) (rest := [_, _]) (pc' := 130) dX4_share_127 rfl k_X4_costForShare l_X4_195 v_X4_costForShare o_W_1 rfl ⟨by decide, by decide⟩ rfl rfl (Nat.le_of_ble_eq_true rfl) (c_costForShare cx τ hB hb (by omega)) ?_
      refine X_aload_n (i := 0) (pc' := 131) dX4_share_130 rfl rfl rfl ?_
      refine X_iload (pc' := 133) dX4_share_131 rfl rfl ?_
      refine X_OIp (As := [_]) (rest := [_, _, _]) (pc' := 136) dX4_share_133 rfl k_X4_costForShare l_X4_195 v_X4_costForShare o_W_1 rfl ⟨by decide, by decide⟩ rfl rfl (Nat.le_of_ble_eq_true rfl) (c_costForShare cx τ hB hb hc) ?_
      refine X_isub (pc' := 137) dX4_share_136 rfl ?_
      refine X_i2l (pc' := 138) dX4_share_137 rfl ?_
      refine X_eql (lI ((cS (bS P s set 28) (c ||| 2 ^ k) : Int) - cS (bS P s set 28) c)) (i2l_sub (by omega) (by omega)) ?_
      refine X_lmul (pc' := 139) dX4_share_138 rfl ?_
      refine X_eql (lI (((fac (ones c) * fac (ones others - ones c) : Nat) : Int) * ((cS (bS P s set 28) (c ||| 2 ^ k) : Int) - cS (bS P s set 28) c))) (lI_mul _ _) ?_
      refine X_ladd (pc' := 140) dX4_share_139 rfl ?_
      refine X_eql (lI (shN (bS P s set 28) k others c + ((fac (ones c) * fac (ones others - ones c) : Nat) : Int) * ((cS (bS P s set 28) (c ||| 2 ^ k) : Int) - cS (bS P s set 28) c))) (lI_add _ _) ?_
      refine X_lstore (pc' := 142) (lv' := [(6, _), (10, _), (9, _), (8, _), (5, _), (4, _), (3, _), (0, _), (1, _), (2, _)]) dX4_share_140 rfl (Nat.le_of_ble_eq_true rfl) rfl ?_
      refine X_iinc (pc' := 145) (v := nI (c + 1)) (lv' := [(8, _), (6, _), (10, _), (9, _), (5, _), (4, _), (3, _), (0, _), (1, _), (2, _)]) dX4_share_142 rfl rfl ((nI_succ c).symm) (Nat.le_of_ble_eq_true rfl) rfl ?_
      refine X_goto (pc' := 0) (tgt := 75) dX4_share_145 (by decide) ?_
      have hb1 : shN (bS P s set 28) k others (c + 1) = shN (bS P s set 28) k others c + (if c &&& others = c then ((fac (ones c) * fac (ones others - ones c) : Nat) : Int) * ((cS (bS P s set 28) (c ||| 2 ^ k) : Int) - cS (bS P s set 28) c) else 0) := rfl
      have := ih () trivial
      first
        | (rw [hb1, if_neg (zI_0.mp h_89), Int.add_zero] at this
           exact X_lv _ (by simp) this)
        | (rw [hb1, if_pos (zI_1 h_89)] at this
           exact X_lv _ (by simp) this)
theorem c_share (τ : xT) {S : SA} {m : Nat} (h : RW τ m S) (hm : m < 4000) (l : Int32) (u : Prop) [Decidable u] : CI cx m_X4_share [.ref 1, .int l, .int (zI u)] PW τ (fun x τ' => x = shareF (aP S) (aS S) l u ∧ RW τ' (m + 1) S) := by
  have hq := h.q (by omega)
  obtain ⟨hT, hs, hP, ho, hm5⟩ := id hq
  have hn6 := hP.1
  have h26 := two6 hP
  have hst := ho.2.1
  refine Ct_of (by decide) (Nat.le_of_ble_eq_true rfl) (lv := [(0, _), (1, _), (2, _)]) rfl ?_
  refine X_aload_n (i := 0) (pc' := 1) dX4_share_0 rfl rfl rfl ?_
  refine X_iload_n (i := 1) (pc' := 2) dX4_share_1 rfl rfl rfl ?_
  refine X_OIp (As := [_]) (rest := []) (pc' := 5) dX4_share_2 rfl k_X4_known l_X4_81 v_X4_known o_W_1 rfl ⟨by decide, by decide⟩ rfl rfl (Nat.le_of_ble_eq_true rfl) (c_known cx τ hP hT l) ?_
  refine X_if_ne (pc' := 8) (tgt := 10) dX4_share_5 rfl (by decide) (fun h_5 => ?_) (fun h_5 => ?_)
  · obtain ⟨k, hk, rfl⟩ := kn_of (zI_1 h_5)
    rw [shareF, onL_in hP hk]
    have hkk : 2 ^ k < 2 ^ 6 := pow_lt (by omega)
    have hl64 : 2 ^ pn (aP S) - 1 - sSt (aS S) < 64 := by omega
    refine X_aload_n (i := 0) (pc' := 11) dX4_share_10 rfl rfl rfl ?_
    refine X_get (pc' := 14) (v := .ref 12) dX4_share_11 rfl (gf_X4_30 _ rfl) o_W_1 rfl rfl ?_
    refine X_get (pc' := 17) (v := .int _) dX4_share_14 rfl (gf_X4_98 _ rfl) o_W_12 rfl rfl ?_
    refine X_eqi (nI (sSt (aS S))) (hs.2.1) ?_
    refine X_iload_n (i := 1) (pc' := 18) dX4_share_17 rfl rfl rfl ?_
    refine X_SIp (As := [_, _]) (rest := []) (pc' := 21) dX4_share_18 rfl k_X4_has l_X4_101 s_X4_has ⟨by decide, by decide⟩ rfl rfl (Nat.le_of_ble_eq_true rfl) (c_X4_has cx τ (sSt (aS S)) k (by omega) (by omega)) ?_
    refine X_if_eq (pc' := 24) (tgt := 31) dX4_share_21 rfl (by decide) (fun h_21 => ?_) (fun h_21 => ?_)
    · rw [if_neg (zI_0.mp h_21)]
      refine X_aload_n (i := 0) (pc' := 32) dX4_share_31 rfl rfl rfl ?_
      refine X_OIp (As := []) (rest := []) (pc' := 35) dX4_share_32 rfl k_X4_unsent l_X4_157 v_X4_unsent o_W_1 rfl ⟨by decide, by decide⟩ rfl rfl (Nat.le_of_ble_eq_true rfl) (c_unsent cx τ hq) ?_
      refine X_istore_n (i := 3) (pc' := 36) (lv' := [(3, _), (0, _), (1, _), (2, _)]) dX4_share_35 rfl rfl (Nat.le_of_ble_eq_true rfl) rfl ?_
      refine X_iload_n (i := 3) (pc' := 37) dX4_share_36 rfl rfl rfl ?_
      refine X_iload_n (i := 1) (pc' := 38) dX4_share_37 rfl rfl rfl ?_
      refine X_SIp (As := [_]) (rest := [_]) (pc' := 41) dX4_share_38 rfl k_X4_bit l_X4_137 s_X4_bit ⟨by decide, by decide⟩ rfl rfl (Nat.le_of_ble_eq_true rfl) (c_X4_bit cx τ k (by omega)) ?_
      refine X_iconst (pc' := 42) (v := (-1)) dX4_share_41 rfl (by decide) ?_
      refine X_ixor (pc' := 43) dX4_share_42 rfl ?_
      refine X_iand (pc' := 44) dX4_share_43 rfl ?_
      refine X_eqi (nI (dif (2 ^ pn (aP S) - 1 - sSt (aS S)) (2 ^ k))) (dif_nI _ hl64 _ hkk) ?_
      refine X_istore (pc' := 46) (lv' := [(4, _), (3, _), (0, _), (1, _), (2, _)]) dX4_share_44 rfl (Nat.le_of_ble_eq_true rfl) rfl ?_
      refine X_iload (pc' := 48) dX4_share_46 rfl rfl ?_
      refine X_SIp (As := [_]) (rest := []) (pc' := 51) dX4_share_48 rfl k_J6_bitCount_0f7a4 l_X4_186 s_J6_bitCount_0f7a4 ⟨by decide, by decide⟩ rfl rfl (Nat.le_of_ble_eq_true rfl) (c_bc cx τ _ (dif_lt hl64)) ?_
      refine X_istore (pc' := 53) (lv' := [(5, _), (4, _), (3, _), (0, _), (1, _), (2, _)]) dX4_share_51 rfl (Nat.le_of_ble_eq_true rfl) rfl ?_
      refine X_aload_n (i := 0) (pc' := 54) dX4_share_53 rfl rfl rfl ?_
      refine X_get (pc' := 57) (v := .ref 69) dX4_share_54 rfl (gf_X4_50 _ rfl) o_W_1 rfl rfl ?_
      refine X_aload_n (i := 0) (pc' := 58) dX4_share_57 rfl rfl rfl ?_
      refine X_get (pc' := 61) (v := .ref 8) dX4_share_58 rfl (gf_X4_23 _ rfl) o_W_1 rfl rfl ?_
      refine X_aload_n (i := 0) (pc' := 62) dX4_share_61 rfl rfl rfl ?_
      refine X_get (pc' := 65) (v := .ref 12) dX4_share_62 rfl (gf_X4_30 _ rfl) o_W_1 rfl rfl ?_
      refine X_iload_n (i := 3) (pc' := 66) dX4_share_65 rfl rfl rfl ?_
      refine X_OV (As := [_, _, _]) (rest := []) (pc' := 69) dX4_share_66 rfl k_X0_fill l_X4_144 v_X0_fill o_W_69 rfl ⟨by decide, by decide⟩ rfl rfl (Nat.le_of_ble_eq_true rfl) (c_fill cx τ hq hl64 (by have := Nat.two_pow_pos (pn (aP S)); omega)) (fun τ_66 h_66 => ?_)
      refine X_lconst (pc' := 70) (v := lN 0) dX4_share_69 rfl rfl ?_
      refine X_lstore (pc' := 72) (lv' := [(6, _), (5, _), (4, _), (3, _), (0, _), (1, _), (2, _)]) dX4_share_70 rfl (Nat.le_of_ble_eq_true rfl) rfl ?_
      refine X_iconst (pc' := 73) (v := nI 0) dX4_share_72 rfl (by decide) ?_
      refine X_istore (pc' := 75) (lv' := [(8, _), (6, _), (5, _), (4, _), (3, _), (0, _), (1, _), (2, _)]) dX4_share_73 rfl (Nat.le_of_ble_eq_true rfl) rfl ?_
      exact X_lv _ (by simp [shN]; exact lI_nat 0) (l_share cx τ_66 τ h_66.2 (by omega) (dif_lt hl64) u (left := 2 ^ pn (aP S) - 1 - sSt (aS S)) (fun y hy => ⟨hy, (h.mono (by omega)).scr (h_66.1.mono (by decide))⟩) 0 () (by omega) trivial)
    · refine X_lconst (pc' := 25) (v := lN 0) dX4_share_24 rfl rfl ?_
      refine X_lconst (pc' := 26) (v := lN 1) dX4_share_25 rfl rfl ?_
      refine X_iload_n (i := 2) (pc' := 27) dX4_share_26 rfl rfl rfl ?_
      refine X_SIp (As := [_, _, _]) (rest := []) (pc' := 30) dX4_share_27 rfl k_X4_fractionPart l_X4_182 s_X4_fractionPart ⟨by decide, by decide⟩ rfl rfl (Nat.le_of_ble_eq_true rfl) (c_frac cx τ (0 : Int) 1 u (by decide) (by decide) (by decide) (by decide)) ?_
      refine X_ri dX4_share_30 rfl ⟨rfl, rfl⟩ ?_
      rw [if_pos (zI_1 h_21)]
      refine ⟨?_, h.mono (by omega)⟩
      unfold fracF
      split <;> rfl
  · refine X_iconst (pc' := 9) (v := (-1)) dX4_share_8 rfl (by decide) ?_
    refine X_ri dX4_share_9 rfl ⟨rfl, rfl⟩ ?_
    exact ⟨(onL_out (zI_0.mp h_5)).symm, h.mono (by omega)⟩
end PN
