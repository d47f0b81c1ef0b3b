/-! ===== things told as figures, years ===== -/
def thg (n r i : Nat) : Nat := r / 10 ^ (n - 1 - i) % 10
abbrev areT (n r : Int32) : Prop := 1 ≤ n.toInt ∧ n.toInt ≤ 6 ∧ 0 ≤ r.toInt ∧ r.toInt.toNat < 10 ^ n.toInt.toNat
def doT (P : PT) (s : SN) (f : Nat) : SN := if f = 0 then pass s else if can P s (f - 1) then sendS P s (f - 1) else s
abbrev bad (P : PT) (s : SN) (f : Nat) : Prop := f ≠ 0 ∧ f ≠ 9 ∧ ¬ can P s (f - 1)
def trS (P : PT) (s : SN) (fs : Nat → Nat) : Nat → SN | 0 => s | i + 1 => doT P (trS P s fs i) (fs i)
def trF (P : PT) (s : SN) (fs : Nat → Nat) : Nat → Int32 | 0 => -9 | i + 1 => if bad P (trS P s fs i) (fs i) ∧ trF P s fs i = -9 then nI i else trF P s fs i
theorem doT_ok {P : PT} {m : Nat} {s : SN} (hP : Pok P) (h : Sok P m s) (f : Nat) : Sok P (m + 1) (doT P s f) := by
  unfold doT
  split
  · exact pass_ok h
  · split
    · exact sendS_ok hP h (by assumption)
    · exact h.mono (by omega)
theorem trS_ok {P : PT} {m : Nat} {s : SN} (hP : Pok P) (h : Sok P m s) (fs : Nat → Nat) : ∀ i, Sok P (m + i) (trS P s fs i) := by
  intro i
  induction i with
  | zero => exact h
  | succ i ih => exact doT_ok hP ih (fs i)
theorem cani_nI {P : PT} {s : SN} (hP : Pok P) {k : Nat} (hk : k < 2 ^ 31) : cani P s (nI k) ↔ can P s k := by
  have h1 : (nI k).toInt.toNat = k := by rw [nI_toInt hk]; rfl
  constructor
  · intro h; have := h.2; rwa [h1] at this
  · intro h
    have := hP.1
    exact ⟨(kn_in hP h.1).1, by rw [h1]; exact h⟩
def judgeF (P : PT) (s : SN) (n r : Int32) : Int32 := if areT n r then trF P s (thg n.toInt.toNat r.toInt.toNat) n.toInt.toNat else -2
def costF (P : PT) (s : SN) (n r : Int32) : Int32 := if areT n r then nI (sPd (trS P s (thg n.toInt.toNat r.toInt.toNat) n.toInt.toNat)) - nI (sPd s) else -2
def seedN (c : Int64) : Int64 := c * 6364136223846793005 + 1442695040888963407
theorem seedN_def (c : Int64) : c * 6364136223846793005 + 1442695040888963407 = seedN c := rfl
def drawN (c : Int64) : Nat := c.toUInt64.toNat / 2 ^ 33 % 9
def stY (P : PT) (s : SN) (d : Nat) : SN := if 6 ≤ d then pass s else if can P s d then sendS P s d else s
theorem stY_ok {P : PT} {m : Nat} {s : SN} (hP : Pok P) (h : Sok P m s) (d : Nat) : Sok P (m + 1) (stY P s d) := by
  unfold stY
  split
  · exact pass_ok h
  · split
    · exact sendS_ok hP h (by assumption)
    · exact h.mono (by omega)
def yrS (P : PT) (q : SN × Int64) : SN × Int64 := (stY P q.1 (drawN (seedN q.2)), seedN q.2)
theorem yrS_def (P : PT) (s : SN) (c : Int64) : yrS P (s, c) = (stY P s (drawN (seedN c)), seedN c) := by unfold yrS; rfl
theorem drawN_lt (c : Int64) : drawN c < 9 := by unfold drawN; exact Nat.mod_lt _ (by decide)
def yrN (P : PT) (s : SN) (c : Int64) : Nat → SN × Int64 | 0 => (s, c) | i + 1 => yrS P (yrN P s c i)
theorem yrN_s (P : PT) (s : SN) (c : Int64) (i : Nat) : yrN P s c (i + 1) = yrS P (yrN P s c i) := by rw [yrN]
theorem yrN_ok {P : PT} {m : Nat} {s : SN} (hP : Pok P) (h : Sok P m s) (c : Int64) : ∀ i, Sok P (m + i) (yrN P s c i).1 := by
  intro i
  induction i with
  | zero => exact h
  | succ i ih =>
    rw [yrN_s]
    exact stY_ok hP ih _
def yearsA (S : SA) (m : Int32) : Int32 × SA := if 1 ≤ m.toInt ∧ m.toInt ≤ 30 then (nI (sPd (yrN (aP S) (aS S) (aC S) m.toInt.toNat).1) - nI (sPd (aS S)), (aT S, aL S, aP S, aS S, aA S, aK S, (yrN (aP S) (aS S) (aC S) m.toInt.toNat).2)) else (-2, S)
theorem ushr33 (c : Int64) : (c.toUInt64 >>> ((nI 33).toInt64.toUInt64 &&& Int64.toUInt64 63)).toInt64.toInt32 = nI (c.toUInt64.toNat / 2 ^ 33) := by
  have h1 : ((nI 33).toInt64.toUInt64 &&& Int64.toUInt64 63) = 33 := by decide
  rw [h1]
  apply Int32.toBitVec_inj.mp
  apply BitVec.eq_of_toNat_eq
  have h2 : c.toUInt64.toNat / 2 ^ 33 < 2 ^ 31 := by
    have := c.toUInt64.toNat_lt
    omega
  rw [pk_tn (by omega)]
  show (BitVec.signExtend 32 (c.toUInt64 >>> 33).toBitVec).toNat = _
  rw [BitVec.signExtend_eq_setWidth_of_le _ (by decide), BitVec.toNat_setWidth]
  have h3 : (c.toUInt64 >>> 33).toBitVec.toNat = c.toUInt64.toNat / 2 ^ 33 := by
    show (c.toUInt64 >>> 33).toNat = _
    rw [UInt64.toNat_shiftRight]
    show c.toUInt64.toNat >>> (33 % 64) = _
    rw [Nat.shiftRight_eq_div_pow]
  rw [h3]
  exact Nat.mod_eq_of_lt (by omega)
theorem draw31 (c : Int64) : c.toUInt64.toNat / 2 ^ 33 < 2 ^ 31 := by have := c.toUInt64.toNat_lt; omega
theorem draw_rem (c : Int64) : nI (c.toUInt64.toNat / 2 ^ 33) - nI (c.toUInt64.toNat / 2 ^ 33) / nI 9 * nI 9 = nI (drawN c) := by
  unfold drawN
  exact pk_rem (draw31 c) (by decide) (by decide)
theorem RW_seed {τ : xT} {m : Nat} {S : SA} (h : RW τ m S) (v : Int64) : RW (xsl τ 1 12 v) m (aT S, aL S, aP S, aS S, aA S, aK S, v) := by
  obtain ⟨g1, g2, g3, g4, g5, g6, g7, g8⟩ := h
  refine ⟨g1, g2, g3, g4, g5, g6, g7, ?_⟩
  rw [xsl_self, pk_uLs]
section TR
variable (cx : xC)
set_option maxHeartbeats 4000000
set_option maxRecDepth 100000
theorem l_takeFigures (τ : xT) {v w : Nat} (hv : v ≤ 6) (hv1 : 1 ≤ v) (hw : w < 2 ^ 31) {T : Prop} [Decidable T] (hiff : T ↔ w < 10 ^ v) : ∀ (j : Nat) (τ' : xT), j ≤ v → (xeq [68] τ τ' ∧ ∀ i, v - j ≤ i → i < v → τ'.1 68 i = nI (thg v w i)) → X cx m_X4_takeFigures PW (qI PW (fun x τ' => xeq [68] τ τ' ∧ x = zI T ∧ (T → ∀ i, i < v → τ'.1 68 i = nI (thg v w i)))) 27 [(4, .int (nI (v - j) - nI 1)), (3, .int (nI (w / 10 ^ j))), (0, .ref 1), (1, .int (nI v)), (2, .int (nI w))] [] PW τ' := by
  refine xloop _ _ v (fun τ' h => ?_) (fun j τ' hj h ih => ?_)
  · have hd : w / 10 ^ v < 2 ^ 31 := Nat.lt_of_le_of_lt (Nat.div_le_self _ _) hw
    refine X_iload (pc' := 29) dX4_takeFigures_27 rfl rfl ?_
    refine X_if_lt (pc' := 32) (tgt := 54) dX4_takeFigures_29 rfl (by decide) (fun h_29 => ?_) (fun h_29 => absurd (by rw [Nat.sub_self]; decide) h_29)
    refine X_iload_n (i := 3) (pc' := 55) dX4_takeFigures_54 rfl rfl rfl ?_
    refine X_if_ne (pc' := 58) (tgt := 62) dX4_takeFigures_55 rfl (by decide) (fun h_55 => ?_) (fun h_55 => ?_)
    · refine X_iconst (pc' := 63) (v := nI 0) dX4_takeFigures_62 rfl (by decide) ?_
      refine X_rz dX4_takeFigures_63 rfl (rfl) ⟨rfl, rfl⟩ ?_
      refine ⟨h.1, ?_, fun _ i hi => h.2 i (by omega) hi⟩
      first
        | exact (zI_f (fun q => h_55 (by rw [Nat.div_eq_of_lt (hiff.mp q)]; rfl))).symm
        | (refine (zI_t (hiff.mpr ?_)).symm
           have h0 : w / 10 ^ v = 0 := (nI_eq (by omega) (by decide)).mp h_55
           exact (Nat.div_eq_zero_iff_lt (Nat.pow_pos (by decide))).mp h0)
    · refine X_iconst (pc' := 59) (v := nI 1) dX4_takeFigures_58 rfl (by decide) ?_
      refine X_goto (pc' := 0) (tgt := 63) dX4_takeFigures_59 (by decide) ?_
      refine X_rz dX4_takeFigures_63 rfl (rfl) ⟨rfl, rfl⟩ ?_
      refine ⟨h.1, ?_, fun _ i hi => h.2 i (by omega) hi⟩
      first
        | exact (zI_f (fun q => h_55 (by rw [Nat.div_eq_of_lt (hiff.mp q)]; rfl))).symm
        | (refine (zI_t (hiff.mpr ?_)).symm
           have h0 : w / 10 ^ v = 0 := (nI_eq (by omega) (by decide)).mp h_55
           exact (Nat.div_eq_zero_iff_lt (Nat.pow_pos (by decide))).mp h0)
  · have hd : w / 10 ^ j < 2 ^ 31 := Nat.lt_of_le_of_lt (Nat.div_le_self _ _) hw
    rw [show nI (v - j) - nI 1 = nI (v - (j + 1)) by rw [pk_sub (by omega)]; congr 1]
    refine X_iload (pc' := 29) dX4_takeFigures_27 rfl rfl ?_
    refine X_if_lt (pc' := 32) (tgt := 54) dX4_takeFigures_29 rfl (by decide) (fun h_29 => absurd h_29 (nI_pos (by omega))) (fun h_29 => ?_)
    refine X_aload_n (i := 0) (pc' := 33) dX4_takeFigures_32 rfl rfl rfl ?_
    refine X_get (pc' := 36) (v := .ref 68) dX4_takeFigures_33 rfl (gf_X4_44 _ rfl) o_W_1 rfl rfl ?_
    refine X_iload (pc' := 38) dX4_takeFigures_36 rfl rfl ?_
    refine X_iload_n (i := 3) (pc' := 39) dX4_takeFigures_38 rfl rfl rfl ?_
    refine X_bipush (pc' := 41) (v := nI 10) dX4_takeFigures_39 rfl (by decide) ?_
    refine X_irem (pc' := 42) dX4_takeFigures_41 rfl (by decide) ?_
    refine X_eqi (nI (w / 10 ^ j % 10)) (pk_rem (by omega) (by decide) (by decide)) ?_
    refine X_iast (pc' := 43) (j := v - (j + 1)) dX4_takeFigures_42 rfl r_W_68 (rfl) (by omega) ?_
    refine X_iload_n (i := 3) (pc' := 44) dX4_takeFigures_43 rfl rfl rfl ?_
    refine X_bipush (pc' := 46) (v := nI 10) dX4_takeFigures_44 rfl (by decide) ?_
    refine X_idiv (pc' := 47) dX4_takeFigures_46 rfl (by decide) ?_
    refine X_eqi (nI (w / 10 ^ (j + 1))) (by rw [pk_div (by omega) (by decide) (by decide), Nat.div_div_eq_div_mul, Nat.pow_succ]) ?_
    refine X_istore_n (i := 3) (pc' := 48) (lv' := [(3, _), (4, _), (0, _), (1, _), (2, _)]) dX4_takeFigures_47 rfl rfl (Nat.le_of_ble_eq_true rfl) rfl ?_
    refine X_iinc (pc' := 51) (v := nI (v - (j + 1)) - nI 1) (lv' := [(4, _), (3, _), (0, _), (1, _), (2, _)]) dX4_takeFigures_48 rfl rfl (by rw [show Int32.ofInt (-1) = -(nI 1) by decide, ← Int32.sub_eq_add_neg]) (Nat.le_of_ble_eq_true rfl) rfl ?_
    refine X_goto (pc' := 0) (tgt := 27) dX4_takeFigures_51 (by decide) ?_
    refine X_lv _ (by simp) (ih _ ⟨h.1.si (by decide), fun i h1 h2 => ?_⟩)
    rw [xsi_self]
    by_cases hij : i = v - (j + 1)
    · subst hij
      rw [pk_us]
      unfold thg
      rw [show v - 1 - (v - (j + 1)) = j by omega]
    · rw [pk_un hij]; exact h.2 i (by omega) h2
theorem c_takeFigures (τ : xT) (n r : Int32) : CI cx m_X4_takeFigures [.ref 1, .int n, .int r] PW τ (fun x τ' => xeq [68] τ τ' ∧ x = zI (areT n r) ∧ (areT n r → ∀ i, i < n.toInt.toNat → τ'.1 68 i = nI (thg n.toInt.toNat r.toInt.toNat i))) := by
  refine Ct_of (by decide) (Nat.le_of_ble_eq_true rfl) (lv := [(0, _), (1, _), (2, _)]) rfl ?_
  refine X_iload_n (i := 1) (pc' := 1) dX4_takeFigures_0 rfl rfl rfl ?_
  refine X_iconst (pc' := 2) (v := nI 1) dX4_takeFigures_1 rfl (by decide) ?_
  refine X_icmp_lt (pc' := 5) (tgt := 18) dX4_takeFigures_2 rfl (by decide) (fun h_2 => ?_) (fun h_2 => ?_)
  · refine X_iconst (pc' := 19) (v := nI 0) dX4_takeFigures_18 rfl (by decide) ?_
    refine X_rz dX4_takeFigures_19 rfl (rfl) ⟨rfl, rfl⟩ ?_
    have hno : ¬ areT n r := fun q => by
      simp only [ltI (n := 1) (by decide), gtI (n := 6) (by decide), ge0] at *
      omega
    exact ⟨xeq.rf, (zI_f hno).symm, fun q => absurd q hno⟩
  · refine X_iload_n (i := 1) (pc' := 6) dX4_takeFigures_5 rfl rfl rfl ?_
    refine X_aload_n (i := 0) (pc' := 7) dX4_takeFigures_6 rfl rfl rfl ?_
    refine X_get (pc' := 10) (v := .ref 68) dX4_takeFigures_7 rfl (gf_X4_44 _ rfl) o_W_1 rfl rfl ?_
    refine X_alen (pc' := 11) dX4_takeFigures_10 rfl (Or.inl ⟨r_W_68, by decide⟩) ?_
    refine X_icmp_gt (pc' := 14) (tgt := 18) dX4_takeFigures_11 rfl (by decide) (fun h_11 => ?_) (fun h_11 => ?_)
    · refine X_iconst (pc' := 19) (v := nI 0) dX4_takeFigures_18 rfl (by decide) ?_
      refine X_rz dX4_takeFigures_19 rfl (rfl) ⟨rfl, rfl⟩ ?_
      have hno : ¬ areT n r := fun q => by
        simp only [ltI (n := 1) (by decide), gtI (n := 6) (by decide), ge0] at *
        omega
      exact ⟨xeq.rf, (zI_f hno).symm, fun q => absurd q hno⟩
    · refine X_iload_n (i := 2) (pc' := 15) dX4_takeFigures_14 rfl rfl rfl ?_
      refine X_if_ge (pc' := 18) (tgt := 20) dX4_takeFigures_15 rfl (by decide) (fun h_15 => ?_) (fun h_15 => ?_)
      · simp only [ltI (n := 1) (by decide), gtI (n := 6) (by decide), ge0] at h_2 h_11 h_15
        have hn := nI_of3 (x := n) (by omega)
        have hr := nI_of3 (x := r) (by omega)
        have hv : n.toInt.toNat ≤ 6 := by omega
        have hiff : areT n r ↔ r.toInt.toNat < 10 ^ n.toInt.toNat := ⟨fun q => q.2.2.2, fun q => ⟨by omega, by omega, by omega, q⟩⟩
        have key := l_takeFigures cx τ hv (by omega) hr.2 hiff 0 τ (by omega) ⟨xeq.rf, fun i h1 h2 => absurd h1 (by omega)⟩
        rw [Nat.sub_zero, Nat.pow_zero, Nat.div_one, ← hn.1, ← hr.1] at key
        refine X_iload_n (i := 2) (pc' := 21) dX4_takeFigures_20 rfl rfl rfl ?_
        refine X_istore_n (i := 3) (pc' := 22) (lv' := [(3, _), (0, _), (1, _), (2, _)]) dX4_takeFigures_21 rfl rfl (Nat.le_of_ble_eq_true rfl) rfl ?_
        refine X_iload_n (i := 1) (pc' := 23) dX4_takeFigures_22 rfl rfl rfl ?_
        refine X_iconst (pc' := 24) (v := nI 1) dX4_takeFigures_23 rfl (by decide) ?_
        refine X_isub (pc' := 25) dX4_takeFigures_24 rfl ?_
        refine X_istore (pc' := 27) (lv' := [(4, _), (3, _), (0, _), (1, _), (2, _)]) dX4_takeFigures_25 rfl (Nat.le_of_ble_eq_true rfl) rfl ?_
        exact X_lv _ (by simp) key
      · refine X_iconst (pc' := 19) (v := nI 0) dX4_takeFigures_18 rfl (by decide) ?_
        refine X_rz dX4_takeFigures_19 rfl (rfl) ⟨rfl, rfl⟩ ?_
        have hno : ¬ areT n r := fun q => by
          simp only [ltI (n := 1) (by decide), gtI (n := 6) (by decide), ge0] at *
          omega
        exact ⟨xeq.rf, (zI_f hno).symm, fun q => absurd q hno⟩
theorem c_tryThings (τ : xT) {P : PT} {s : SN} {m : Nat} (h : Qw τ P s m) {n : Nat} {fs : Nat → Nat} (hn : n ≤ 6) (hf : ∀ i, i < n → τ.1 68 i = nI (fs i)) (hf9 : ∀ i, fs i ≤ 9) : CI cx m_X4_tryThings [.ref 1, .int (nI n)] PW τ (fun x τ' => xeq [15, 16, 17] τ τ' ∧ SR τ' 15 (pn P) (trS P s fs n) ∧ x = trF P s fs n) := by
  obtain ⟨hT, hs, hP, ho, hm⟩ := id h
  have hn6 := hP.1
  refine Ct_of (by decide) (Nat.le_of_ble_eq_true rfl) (lv := [(0, _), (1, _)]) rfl ?_
  have hl : ∀ (j : Nat) (τ' : xT), j ≤ n → (xeq [15, 16, 17] τ τ' ∧ SR τ' 15 (pn P) (trS P s fs j)) → X cx m_X4_tryThings PW (qI PW (fun x τ' => xeq [15, 16, 17] τ τ' ∧ SR τ' 15 (pn P) (trS P s fs n) ∧ x = trF P s fs n)) 16 [(3, .int (nI j)), (2, .int (trF P s fs j)), (0, .ref 1), (1, .int (nI n))] [] PW τ' := by
    refine xloop _ _ n (fun τ' h => ?_) (fun j τ' hj h ih => ?_)
    · refine X_iload_n (i := 3) (pc' := 17) dX4_tryThings_16 rfl rfl rfl ?_
      refine X_iload_n (i := 1) (pc' := 18) dX4_tryThings_17 rfl rfl rfl ?_
      refine X_icmp_ge (pc' := 21) (tgt := 112) dX4_tryThings_18 rfl (by decide) (fun h_18 => ?_) (fun h_18 => absurd (nI_le (Nat.le_refl _) (by omega)) h_18)
      refine X_iload_n (i := 2) (pc' := 113) dX4_tryThings_112 rfl rfl rfl ?_
      refine X_ri dX4_tryThings_113 rfl ⟨rfl, rfl⟩ ?_
      exact ⟨h.1, h.2, rfl⟩
    · obtain ⟨h1, h2⟩ := h
      have ho2 := trS_ok hP ho fs j
      have hT2 := hT.kept h1 (by decide) (by decide) (by decide)
      have hfj := hf9 j
      have hS1 : trS P s fs (j + 1) = doT P (trS P s fs j) (fs j) := rfl
      have hF1 : trF P s fs (j + 1) = if bad P (trS P s fs j) (fs j) ∧ trF P s fs j = -9 then nI j else trF P s fs j := rfl
      refine X_iload_n (i := 3) (pc' := 17) dX4_tryThings_16 rfl rfl rfl ?_
      refine X_iload_n (i := 1) (pc' := 18) dX4_tryThings_17 rfl rfl rfl ?_
      refine X_icmp_ge (pc' := 21) (tgt := 112) dX4_tryThings_18 rfl (by decide) (fun h_18 => absurd h_18 (nI_ge hj (by omega))) (fun h_18 => ?_)
      refine X_iload_n (i := 3) (pc' := 22) dX4_tryThings_21 rfl rfl rfl ?_
      refine X_aload_n (i := 0) (pc' := 23) dX4_tryThings_22 rfl rfl rfl ?_
      refine X_get (pc' := 26) (v := .ref 68) dX4_tryThings_23 rfl (gf_X4_44 _ rfl) o_W_1 rfl rfl ?_
      refine X_alen (pc' := 27) dX4_tryThings_26 rfl (Or.inl ⟨r_W_68, by decide⟩) ?_
      refine X_icmp_ge (pc' := 30) (tgt := 112) dX4_tryThings_27 rfl (by decide) (fun h_27 => absurd h_27 (nI_ge (by omega) (by decide))) (fun h_27 => ?_)
      refine X_aload_n (i := 0) (pc' := 31) dX4_tryThings_30 rfl rfl rfl ?_
      refine X_get (pc' := 34) (v := .ref 68) dX4_tryThings_31 rfl (gf_X4_44 _ rfl) o_W_1 rfl rfl ?_
      refine X_iload_n (i := 3) (pc' := 35) dX4_tryThings_34 rfl rfl rfl ?_
      refine X_iald (pc' := 36) (j := j) dX4_tryThings_35 rfl (Or.inl r_W_68) (rfl) (by omega) ?_
      refine X_eqi (nI (fs j)) (by rw [(h1 68 (by decide)).1]; exact hf j hj) ?_
      refine X_istore (pc' := 38) (lv' := [(4, _), (3, _), (2, _), (0, _), (1, _)]) dX4_tryThings_36 rfl (Nat.le_of_ble_eq_true rfl) rfl ?_
      refine X_iload (pc' := 40) dX4_tryThings_38 rfl rfl ?_
      refine X_if_ne (pc' := 43) (tgt := 60) dX4_tryThings_40 rfl (by decide) (fun h_40 => ?_) (fun h_40 => ?_)
      · have hf0 : fs j ≠ 0 := fun q => h_40 (by rw [q]; rfl)
        refine X_aload_n (i := 0) (pc' := 61) dX4_tryThings_60 rfl rfl rfl ?_
        refine X_aload_n (i := 0) (pc' := 62) dX4_tryThings_61 rfl rfl rfl ?_
        refine X_get (pc' := 65) (v := .ref 15) dX4_tryThings_62 rfl (gf_X4_34 _ rfl) o_W_1 rfl rfl ?_
        refine X_iload (pc' := 67) dX4_tryThings_65 rfl rfl ?_
        refine X_iconst (pc' := 68) (v := nI 1) dX4_tryThings_67 rfl (by decide) ?_
        refine X_isub (pc' := 69) dX4_tryThings_68 rfl ?_
        refine X_eqi (nI (fs j - 1)) (pk_sub (by omega)) ?_
        refine X_OIp (As := [_, _]) (rest := []) (pc' := 72) dX4_tryThings_69 rfl k_X4_canBeSent l_X4_115 v_X4_canBeSent o_W_1 rfl ⟨by decide, by decide⟩ rfl rfl (Nat.le_of_ble_eq_true rfl) (c_canBeSent cx τ' (by decide) hT2 h2 hP ho2 (nI (fs j - 1))) ?_
        refine X_if_eq (pc' := 75) (tgt := 91) dX4_tryThings_72 rfl (by decide) (fun h_72 => ?_) (fun h_72 => ?_)
        · refine X_iload (pc' := 93) dX4_tryThings_91 rfl rfl ?_
          refine X_bipush (pc' := 95) (v := nI 9) dX4_tryThings_93 rfl (by decide) ?_
          refine X_icmp_eq (pc' := 98) (tgt := 106) dX4_tryThings_95 rfl (by decide) (fun h_95 => ?_) (fun h_95 => ?_)
          · refine X_iinc (pc' := 109) (v := nI (j + 1)) (lv' := [(3, _), (4, _), (2, _), (0, _), (1, _)]) dX4_tryThings_106 rfl rfl ((nI_succ j).symm) (Nat.le_of_ble_eq_true rfl) rfl ?_
            refine X_goto (pc' := 0) (tgt := 16) dX4_tryThings_109 (by decide) ?_
            first
              | (have hf0 : fs j = 0 := (nI_eq (by omega) (by decide)).mp h_40
                 have hF := hF1.trans (if_neg (fun q => q.1.1 hf0))
                 have hS := hS1.trans (if_pos hf0)
                 have := ih τ_54 ⟨h1.tr h_54.1, by rw [hS]; exact h_54.2⟩
                 rw [hF] at this
                 exact X_lv _ (by simp) this)
              | (have hF := hF1.trans (if_neg (fun q => q.1.2.2 hcan))
                 have hS := (hS1.trans (if_neg hf0)).trans (if_pos hcan)
                 have := ih τ_84 ⟨h1.tr (h_84.1.1.mono (by decide)), by rw [hS]; exact h_84.1.2⟩
                 rw [hF] at this
                 exact X_lv _ (by simp) this)
              | (have hnc : ¬ can P (trS P s fs j) (fs j - 1) := fun q => (zI_0.mp h_72) ((cani_nI hP (by omega)).mpr q)
                 have hS := (hS1.trans (if_neg hf0)).trans (if_neg hnc)
                 have h9 : fs j = 9 := (nI_eq (by omega) (by decide)).mp h_95
                 have hF := hF1.trans (if_neg (fun q => q.1.2.1 h9))
                 have := ih τ' ⟨h1, by rw [hS]; exact h2⟩
                 rw [hF] at this
                 exact X_lv _ (by simp) this)
              | (have hnc : ¬ can P (trS P s fs j) (fs j - 1) := fun q => (zI_0.mp h_72) ((cani_nI hP (by omega)).mpr q)
                 have hS := (hS1.trans (if_neg hf0)).trans (if_neg hnc)
                 have hF := hF1.trans (if_neg (fun q => h_101 q.2))
                 have := ih τ' ⟨h1, by rw [hS]; exact h2⟩
                 rw [hF] at this
                 exact X_lv _ (by simp) this)
              | (have hnc : ¬ can P (trS P s fs j) (fs j - 1) := fun q => (zI_0.mp h_72) ((cani_nI hP (by omega)).mpr q)
                 have hS := (hS1.trans (if_neg hf0)).trans (if_neg hnc)
                 have hF := hF1.trans (if_pos ⟨⟨hf0, fun q => h_95 (by rw [q]), hnc⟩, h_101⟩)
                 have := ih τ' ⟨h1, by rw [hS]; exact h2⟩
                 rw [hF] at this
                 exact X_lv _ (by simp) this)
          · refine X_iload_n (i := 2) (pc' := 99) dX4_tryThings_98 rfl rfl rfl ?_
            refine X_bipush (pc' := 101) (v := (-9)) dX4_tryThings_99 rfl (by decide) ?_
            refine X_icmp_ne (pc' := 104) (tgt := 106) dX4_tryThings_101 rfl (by decide) (fun h_101 => ?_) (fun h_101 => ?_)
            · refine X_iinc (pc' := 109) (v := nI (j + 1)) (lv' := [(3, _), (4, _), (2, _), (0, _), (1, _)]) dX4_tryThings_106 rfl rfl ((nI_succ j).symm) (Nat.le_of_ble_eq_true rfl) rfl ?_
              refine X_goto (pc' := 0) (tgt := 16) dX4_tryThings_109 (by decide) ?_
              first
                | (have hf0 : fs j = 0 := (nI_eq (by omega) (by decide)).mp h_40
                   have hF := hF1.trans (if_neg (fun q => q.1.1 hf0))
                   have hS := hS1.trans (if_pos hf0)
                   have := ih τ_54 ⟨h1.tr h_54.1, by rw [hS]; exact h_54.2⟩
                   rw [hF] at this
                   exact X_lv _ (by simp) this)
                | (have hF := hF1.trans (if_neg (fun q => q.1.2.2 hcan))
                   have hS := (hS1.trans (if_neg hf0)).trans (if_pos hcan)
                   have := ih τ_84 ⟨h1.tr (h_84.1.1.mono (by decide)), by rw [hS]; exact h_84.1.2⟩
                   rw [hF] at this
                   exact X_lv _ (by simp) this)
                | (have hnc : ¬ can P (trS P s fs j) (fs j - 1) := fun q => (zI_0.mp h_72) ((cani_nI hP (by omega)).mpr q)
                   have hS := (hS1.trans (if_neg hf0)).trans (if_neg hnc)
                   have h9 : fs j = 9 := (nI_eq (by omega) (by decide)).mp h_95
                   have hF := hF1.trans (if_neg (fun q => q.1.2.1 h9))
                   have := ih τ' ⟨h1, by rw [hS]; exact h2⟩
                   rw [hF] at this
                   exact X_lv _ (by simp) this)
                | (have hnc : ¬ can P (trS P s fs j) (fs j - 1) := fun q => (zI_0.mp h_72) ((cani_nI hP (by omega)).mpr q)
                   have hS := (hS1.trans (if_neg hf0)).trans (if_neg hnc)
                   have hF := hF1.trans (if_neg (fun q => h_101 q.2))
                   have := ih τ' ⟨h1, by rw [hS]; exact h2⟩
                   rw [hF] at this
                   exact X_lv _ (by simp) this)
                | (have hnc : ¬ can P (trS P s fs j) (fs j - 1) := fun q => (zI_0.mp h_72) ((cani_nI hP (by omega)).mpr q)
                   have hS := (hS1.trans (if_neg hf0)).trans (if_neg hnc)
                   have hF := hF1.trans (if_pos ⟨⟨hf0, fun q => h_95 (by rw [q]), hnc⟩, h_101⟩)
                   have := ih τ' ⟨h1, by rw [hS]; exact h2⟩
                   rw [hF] at this
                   exact X_lv _ (by simp) this)
            · refine X_iload_n (i := 3) (pc' := 105) dX4_tryThings_104 rfl rfl rfl ?_
              refine X_istore_n (i := 2) (pc' := 106) (lv' := [(2, _), (4, _), (3, _), (0, _), (1, _)]) dX4_tryThings_105 rfl rfl (Nat.le_of_ble_eq_true rfl) rfl ?_
              refine X_iinc (pc' := 109) (v := nI (j + 1)) (lv' := [(3, _), (2, _), (4, _), (0, _), (1, _)]) dX4_tryThings_106 rfl rfl ((nI_succ j).symm) (Nat.le_of_ble_eq_true rfl) rfl ?_
              refine X_goto (pc' := 0) (tgt := 16) dX4_tryThings_109 (by decide) ?_
              first
                | (have hf0 : fs j = 0 := (nI_eq (by omega) (by decide)).mp h_40
                   have hF := hF1.trans (if_neg (fun q => q.1.1 hf0))
                   have hS := hS1.trans (if_pos hf0)
                   have := ih τ_54 ⟨h1.tr h_54.1, by rw [hS]; exact h_54.2⟩
                   rw [hF] at this
                   exact X_lv _ (by simp) this)
                | (have hF := hF1.trans (if_neg (fun q => q.1.2.2 hcan))
                   have hS := (hS1.trans (if_neg hf0)).trans (if_pos hcan)
                   have := ih τ_84 ⟨h1.tr (h_84.1.1.mono (by decide)), by rw [hS]; exact h_84.1.2⟩
                   rw [hF] at this
                   exact X_lv _ (by simp) this)
                | (have hnc : ¬ can P (trS P s fs j) (fs j - 1) := fun q => (zI_0.mp h_72) ((cani_nI hP (by omega)).mpr q)
                   have hS := (hS1.trans (if_neg hf0)).trans (if_neg hnc)
                   have h9 : fs j = 9 := (nI_eq (by omega) (by decide)).mp h_95
                   have hF := hF1.trans (if_neg (fun q => q.1.2.1 h9))
                   have := ih τ' ⟨h1, by rw [hS]; exact h2⟩
                   rw [hF] at this
                   exact X_lv _ (by simp) this)
                | (have hnc : ¬ can P (trS P s fs j) (fs j - 1) := fun q => (zI_0.mp h_72) ((cani_nI hP (by omega)).mpr q)
                   have hS := (hS1.trans (if_neg hf0)).trans (if_neg hnc)
                   have hF := hF1.trans (if_neg (fun q => h_101 q.2))
                   have := ih τ' ⟨h1, by rw [hS]; exact h2⟩
                   rw [hF] at this
                   exact X_lv _ (by simp) this)
                | (have hnc : ¬ can P (trS P s fs j) (fs j - 1) := fun q => (zI_0.mp h_72) ((cani_nI hP (by omega)).mpr q)
                   have hS := (hS1.trans (if_neg hf0)).trans (if_neg hnc)
                   have hF := hF1.trans (if_pos ⟨⟨hf0, fun q => h_95 (by rw [q]), hnc⟩, h_101⟩)
                   have := ih τ' ⟨h1, by rw [hS]; exact h2⟩
                   rw [hF] at this
                   exact X_lv _ (by simp) this)
        · have hcan := (cani_nI hP (by omega)).mp (zI_1 h_72)
          refine X_aload_n (i := 0) (pc' := 76) dX4_tryThings_75 rfl rfl rfl ?_
          refine X_aload_n (i := 0) (pc' := 77) dX4_tryThings_76 rfl rfl rfl ?_
          refine X_get (pc' := 80) (v := .ref 15) dX4_tryThings_77 rfl (gf_X4_34 _ rfl) o_W_1 rfl rfl ?_
          refine X_iload (pc' := 82) dX4_tryThings_80 rfl rfl ?_
          refine X_iconst (pc' := 83) (v := nI 1) dX4_tryThings_82 rfl (by decide) ?_
          refine X_isub (pc' := 84) dX4_tryThings_83 rfl ?_
          refine X_eqi (nI (fs j - 1)) (pk_sub (by omega)) ?_
          refine X_OI (As := [_, _]) (rest := []) (pc' := 87) dX4_tryThings_84 rfl k_X4_putSent l_X4_122 v_X4_putSent o_W_1 rfl ⟨by decide, by decide⟩ rfl rfl (Nat.le_of_ble_eq_true rfl) (c_putSent cx τ' (by decide) hT2 h2 hP ho2 (by omega) hcan.1) (fun x_84 τ_84 h_84 => ?_)
          refine X_pop (pc' := 88) dX4_tryThings_87 rfl rfl ?_
          refine X_goto (pc' := 0) (tgt := 106) dX4_tryThings_88 (by decide) ?_
          refine X_iinc (pc' := 109) (v := nI (j + 1)) (lv' := [(3, _), (4, _), (2, _), (0, _), (1, _)]) dX4_tryThings_106 rfl rfl ((nI_succ j).symm) (Nat.le_of_ble_eq_true rfl) rfl ?_
          refine X_goto (pc' := 0) (tgt := 16) dX4_tryThings_109 (by decide) ?_
          first
            | (have hf0 : fs j = 0 := (nI_eq (by omega) (by decide)).mp h_40
               have hF := hF1.trans (if_neg (fun q => q.1.1 hf0))
               have hS := hS1.trans (if_pos hf0)
               have := ih τ_54 ⟨h1.tr h_54.1, by rw [hS]; exact h_54.2⟩
               rw [hF] at this
               exact X_lv _ (by simp) this)
            | (have hF := hF1.trans (if_neg (fun q => q.1.2.2 hcan))
               have hS := (hS1.trans (if_neg hf0)).trans (if_pos hcan)
               have := ih τ_84 ⟨h1.tr (h_84.1.1.mono (by decide)), by rw [hS]; exact h_84.1.2⟩
               rw [hF] at this
               exact X_lv _ (by simp) this)
            | (have hnc : ¬ can P (trS P s fs j) (fs j - 1) := fun q => (zI_0.mp h_72) ((cani_nI hP (by omega)).mpr q)
               have hS := (hS1.trans (if_neg hf0)).trans (if_neg hnc)
               have h9 : fs j = 9 := (nI_eq (by omega) (by decide)).mp h_95
               have hF := hF1.trans (if_neg (fun q => q.1.2.1 h9))
               have := ih τ' ⟨h1, by rw [hS]; exact h2⟩
               rw [hF] at this
               exact X_lv _ (by simp) this)
            | (have hnc : ¬ can P (trS P s fs j) (fs j - 1) := fun q => (zI_0.mp h_72) ((cani_nI hP (by omega)).mpr q)
               have hS := (hS1.trans (if_neg hf0)).trans (if_neg hnc)
               have hF := hF1.trans (if_neg (fun q => h_101 q.2))
               have := ih τ' ⟨h1, by rw [hS]; exact h2⟩
               rw [hF] at this
               exact X_lv _ (by simp) this)
            | (have hnc : ¬ can P (trS P s fs j) (fs j - 1) := fun q => (zI_0.mp h_72) ((cani_nI hP (by omega)).mpr q)
               have hS := (hS1.trans (if_neg hf0)).trans (if_neg hnc)
               have hF := hF1.trans (if_pos ⟨⟨hf0, fun q => h_95 (by rw [q]), hnc⟩, h_101⟩)
               have := ih τ' ⟨h1, by rw [hS]; exact h2⟩
               rw [hF] at this
               exact X_lv _ (by simp) this)
      · refine X_aload_n (i := 0) (pc' := 44) dX4_tryThings_43 rfl rfl rfl ?_
        refine X_get (pc' := 47) (v := .ref 15) dX4_tryThings_44 rfl (gf_X4_34 _ rfl) o_W_1 rfl rfl ?_
        refine X_aload_n (i := 0) (pc' := 48) dX4_tryThings_47 rfl rfl rfl ?_
        refine X_get (pc' := 51) (v := .ref 8) dX4_tryThings_48 rfl (gf_X4_23 _ rfl) o_W_1 rfl rfl ?_
        refine X_get (pc' := 54) (v := .int _) dX4_tryThings_51 rfl (gf_X4_78 _ rfl) o_W_8 rfl rfl ?_
        refine X_eqi (nI (pn P)) (hT2.2.2.1) ?_
        refine X_OV (As := [_]) (rest := []) (pc' := 57) dX4_tryThings_54 rfl k_X2_passDay l_X4_126 v_X2_passDay o_W_15 rfl ⟨by decide, by decide⟩ rfl rfl (Nat.le_of_ble_eq_true rfl) (c_passDay cx τ' (by decide) hP rfl h2 ho2 (by omega)) (fun τ_54 h_54 => ?_)
        refine X_goto (pc' := 0) (tgt := 106) dX4_tryThings_57 (by decide) ?_
        refine X_iinc (pc' := 109) (v := nI (j + 1)) (lv' := [(3, _), (4, _), (2, _), (0, _), (1, _)]) dX4_tryThings_106 rfl rfl ((nI_succ j).symm) (Nat.le_of_ble_eq_true rfl) rfl ?_
        refine X_goto (pc' := 0) (tgt := 16) dX4_tryThings_109 (by decide) ?_
        first
          | (have hf0 : fs j = 0 := (nI_eq (by omega) (by decide)).mp h_40
             have hF := hF1.trans (if_neg (fun q => q.1.1 hf0))
             have hS := hS1.trans (if_pos hf0)
             have := ih τ_54 ⟨h1.tr h_54.1, by rw [hS]; exact h_54.2⟩
             rw [hF] at this
             exact X_lv _ (by simp) this)
          | (have hF := hF1.trans (if_neg (fun q => q.1.2.2 hcan))
             have hS := (hS1.trans (if_neg hf0)).trans (if_pos hcan)
             have := ih τ_84 ⟨h1.tr (h_84.1.1.mono (by decide)), by rw [hS]; exact h_84.1.2⟩
             rw [hF] at this
             exact X_lv _ (by simp) this)
          | (have hnc : ¬ can P (trS P s fs j) (fs j - 1) := fun q => (zI_0.mp h_72) ((cani_nI hP (by omega)).mpr q)
             have hS := (hS1.trans (if_neg hf0)).trans (if_neg hnc)
             have h9 : fs j = 9 := (nI_eq (by omega) (by decide)).mp h_95
             have hF := hF1.trans (if_neg (fun q => q.1.2.1 h9))
             have := ih τ' ⟨h1, by rw [hS]; exact h2⟩
             rw [hF] at this
             exact X_lv _ (by simp) this)
          | (have hnc : ¬ can P (trS P s fs j) (fs j - 1) := fun q => (zI_0.mp h_72) ((cani_nI hP (by omega)).mpr q)
             have hS := (hS1.trans (if_neg hf0)).trans (if_neg hnc)
             have hF := hF1.trans (if_neg (fun q => h_101 q.2))
             have := ih τ' ⟨h1, by rw [hS]; exact h2⟩
             rw [hF] at this
             exact X_lv _ (by simp) this)
          | (have hnc : ¬ can P (trS P s fs j) (fs j - 1) := fun q => (zI_0.mp h_72) ((cani_nI hP (by omega)).mpr q)
             have hS := (hS1.trans (if_neg hf0)).trans (if_neg hnc)
             have hF := hF1.trans (if_pos ⟨⟨hf0, fun q => h_95 (by rw [q]), hnc⟩, h_101⟩)
             have := ih τ' ⟨h1, by rw [hS]; exact h2⟩
             rw [hF] at this
             exact X_lv _ (by simp) this)
  refine X_bipush (pc' := 2) (v := (-9)) dX4_tryThings_0 rfl (by decide) ?_
  refine X_istore_n (i := 2) (pc' := 3) (lv' := [(2, _), (0, _), (1, _)]) dX4_tryThings_2 rfl rfl (Nat.le_of_ble_eq_true rfl) rfl ?_
  refine X_aload_n (i := 0) (pc' := 4) dX4_tryThings_3 rfl rfl rfl ?_
  refine X_get (pc' := 7) (v := .ref 15) dX4_tryThings_4 rfl (gf_X4_34 _ rfl) o_W_1 rfl rfl ?_
  refine X_aload_n (i := 0) (pc' := 8) dX4_tryThings_7 rfl rfl rfl ?_
  refine X_get (pc' := 11) (v := .ref 12) dX4_tryThings_8 rfl (gf_X4_30 _ rfl) o_W_1 rfl rfl ?_
  refine X_OV (As := [_]) (rest := []) (pc' := 14) dX4_tryThings_11 rfl k_X2_take l_X4_141 v_X2_take o_W_15 rfl ⟨by decide, by decide⟩ rfl rfl (Nat.le_of_ble_eq_true rfl) (ct_take cx τ (k := 15) (by decide) (by decide) (by decide) hn6 hs) (fun τ_11 h_11 => ?_)
  refine X_iconst (pc' := 15) (v := nI 0) dX4_tryThings_14 rfl (by decide) ?_
  refine X_istore_n (i := 3) (pc' := 16) (lv' := [(3, _), (2, _), (0, _), (1, _)]) dX4_tryThings_15 rfl rfl (Nat.le_of_ble_eq_true rfl) rfl ?_
  exact X_lv _ (by simp [trF]) (hl 0 τ_11 (by omega) h_11)
theorem thg_9 (n r i : Nat) : thg n r i ≤ 9 := by unfold thg; omega
theorem Qw.kept {τ τ' : xT} {P : PT} {s : SN} {m : Nat} (h : Qw τ P s m) {R : List Nat} (e : xeq R τ τ') (hR : ∀ a, a ∈ [8, 10, 11, 12, 13, 14] → a ∉ R) : Qw τ' P s m :=
  ⟨h.1.kept e (hR 8 (by decide)) (hR 10 (by decide)) (hR 11 (by decide)), h.2.1.kept e (hR 12 (by decide)) (hR 13 (by decide)) (hR 14 (by decide)), h.2.2⟩
theorem areT_n {n r : Int32} (h : areT n r) : ∃ v : Nat, v ≤ 6 ∧ n = nI v ∧ n.toInt.toNat = v := ⟨n.toInt.toNat, by have := h.1; have := h.2.1; omega, (nI_of3 (by have := h.1; omega)).1, rfl⟩
theorem c_judge (τ : xT) {S : SA} {m : Nat} (h : RW τ m S) (hm : m < 4000) (n r : Int32) : CI cx m_X4_judge [.ref 1, .int n, .int r] PW τ (fun x τ' => x = judgeF (aP S) (aS S) n r ∧ RW τ' (m + 1) S) := by
  have hq := h.q (by omega)
  refine Ct_of (by decide) (Nat.le_of_ble_eq_true rfl) (lv := [(0, _), (1, _), (2, _)]) rfl ?_
  unfold judgeF
  refine X_aload_n (i := 0) (pc' := 1) dX4_judge_0 rfl rfl rfl ?_
  refine X_iload_n (i := 1) (pc' := 2) dX4_judge_1 rfl rfl rfl ?_
  refine X_iload_n (i := 2) (pc' := 3) dX4_judge_2 rfl rfl rfl ?_
  refine X_OI (As := [_, _]) (rest := []) (pc' := 6) dX4_judge_3 rfl k_X4_takeFigures l_X4_163 v_X4_takeFigures o_W_1 rfl ⟨by decide, by decide⟩ rfl rfl (Nat.le_of_ble_eq_true rfl) (c_takeFigures cx τ n r) (fun x_3 τ_3 h_3 => ?_)
  obtain ⟨e1, rfl, e3⟩ := h_3
  refine X_if_eq (pc' := 9) (tgt := 17) dX4_judge_6 rfl (by decide) (fun h_6 => ?_) (fun h_6 => ?_)
  · refine X_bipush (pc' := 19) (v := (-2)) dX4_judge_17 rfl (by decide) ?_
    refine X_ri dX4_judge_19 rfl ⟨rfl, rfl⟩ ?_
    first
      | (rw [if_pos ha]
         exact ⟨h_11.2.2, (h.mono (by omega)).scr ((e1.mono (by decide)).tr (h_11.1.mono (by decide)))⟩)
      | (rw [if_neg (zI_0.mp h_6)]
         exact ⟨rfl, (h.mono (by omega)).scr (e1.mono (by decide))⟩)
  · have ha := zI_1 h_6
    have hn := (nI_of3 (x := n) (by have := ha.1; omega)).1
    have hTT := c_tryThings cx τ_3 (hq.kept e1 (by decide)) (fs := thg n.toInt.toNat r.toInt.toNat) (by have := ha.2.1; omega) (e3 ha) (thg_9 _ _)
    rw [← hn] at hTT
    refine X_aload_n (i := 0) (pc' := 10) dX4_judge_9 rfl rfl rfl ?_
    refine X_iload_n (i := 1) (pc' := 11) dX4_judge_10 rfl rfl rfl ?_
    refine X_OI (As := [_]) (rest := []) (pc' := 14) dX4_judge_11 rfl k_X4_tryThings l_X4_166 v_X4_tryThings o_W_1 rfl ⟨by decide, by decide⟩ rfl rfl (Nat.le_of_ble_eq_true rfl) (hTT) (fun x_11 τ_11 h_11 => ?_)
    refine X_goto (pc' := 0) (tgt := 19) dX4_judge_14 (by decide) ?_
    refine X_ri dX4_judge_19 rfl ⟨rfl, rfl⟩ ?_
    first
      | (rw [if_pos ha]
         exact ⟨h_11.2.2, (h.mono (by omega)).scr ((e1.mono (by decide)).tr (h_11.1.mono (by decide)))⟩)
      | (rw [if_neg (zI_0.mp h_6)]
         exact ⟨rfl, (h.mono (by omega)).scr (e1.mono (by decide))⟩)
theorem c_cost (τ : xT) {S : SA} {m : Nat} (h : RW τ m S) (hm : m < 4000) (n r : Int32) : CI cx m_X4_cost [.ref 1, .int n, .int r] PW τ (fun x τ' => x = costF (aP S) (aS S) n r ∧ RW τ' (m + 1) S) := by
  have hq := h.q (by omega)
  refine Ct_of (by decide) (Nat.le_of_ble_eq_true rfl) (lv := [(0, _), (1, _), (2, _)]) rfl ?_
  unfold costF
  refine X_aload_n (i := 0) (pc' := 1) dX4_cost_0 rfl rfl rfl ?_
  refine X_iload_n (i := 1) (pc' := 2) dX4_cost_1 rfl rfl rfl ?_
  refine X_iload_n (i := 2) (pc' := 3) dX4_cost_2 rfl rfl rfl ?_
  refine X_OI (As := [_, _]) (rest := []) (pc' := 6) dX4_cost_3 rfl k_X4_takeFigures l_X4_163 v_X4_takeFigures o_W_1 rfl ⟨by decide, by decide⟩ rfl rfl (Nat.le_of_ble_eq_true rfl) (c_takeFigures cx τ n r) (fun x_3 τ_3 h_3 => ?_)
  obtain ⟨e1, rfl, e3⟩ := h_3
  refine X_if_ne (pc' := 9) (tgt := 12) dX4_cost_6 rfl (by decide) (fun h_6 => ?_) (fun h_6 => ?_)
  · have ha := zI_1 h_6
    have hn := (nI_of3 (x := n) (by have := ha.1; omega)).1
    have hTT := c_tryThings cx τ_3 (hq.kept e1 (by decide)) (fs := thg n.toInt.toNat r.toInt.toNat) (by have := ha.2.1; omega) (e3 ha) (thg_9 _ _)
    rw [← hn] at hTT
    rw [if_pos ha]
    refine X_aload_n (i := 0) (pc' := 13) dX4_cost_12 rfl rfl rfl ?_
    refine X_iload_n (i := 1) (pc' := 14) dX4_cost_13 rfl rfl rfl ?_
    refine X_OI (As := [_]) (rest := []) (pc' := 17) dX4_cost_14 rfl k_X4_tryThings l_X4_166 v_X4_tryThings o_W_1 rfl ⟨by decide, by decide⟩ rfl rfl (Nat.le_of_ble_eq_true rfl) (hTT) (fun x_14 τ_14 h_14 => ?_)
    refine X_pop (pc' := 18) dX4_cost_17 rfl rfl ?_
    refine X_aload_n (i := 0) (pc' := 19) dX4_cost_18 rfl rfl rfl ?_
    refine X_get (pc' := 22) (v := .ref 15) dX4_cost_19 rfl (gf_X4_34 _ rfl) o_W_1 rfl rfl ?_
    refine X_get (pc' := 25) (v := .int _) dX4_cost_22 rfl (gf_X4_169 _ rfl) o_W_15 rfl rfl ?_
    refine X_eqi (nI (sPd (trS (aP S) (aS S) (thg n.toInt.toNat r.toInt.toNat) n.toInt.toNat))) (h_14.2.1.2.2.2.2.1) ?_
    refine X_aload_n (i := 0) (pc' := 26) dX4_cost_25 rfl rfl rfl ?_
    refine X_get (pc' := 29) (v := .ref 12) dX4_cost_26 rfl (gf_X4_30 _ rfl) o_W_1 rfl rfl ?_
    refine X_get (pc' := 32) (v := .int _) dX4_cost_29 rfl (gf_X4_169 _ rfl) o_W_12 rfl rfl ?_
    refine X_eqi (nI (sPd (aS S))) (by rw [(h_14.1 12 (by decide)).1, (e1 12 (by decide)).1]; exact hq.2.1.2.2.2.2.1) ?_
    refine X_isub (pc' := 33) dX4_cost_32 rfl ?_
    refine X_ri dX4_cost_33 rfl ⟨rfl, rfl⟩ ?_
    exact ⟨rfl, (h.mono (by omega)).scr ((e1.mono (by decide)).tr (h_14.1.mono (by decide)))⟩
  · refine X_bipush (pc' := 11) (v := (-2)) dX4_cost_9 rfl (by decide) ?_
    refine X_ri dX4_cost_11 rfl ⟨rfl, rfl⟩ ?_
    rw [if_neg (zI_0.mp h_6)]
    exact ⟨rfl, (h.mono (by omega)).scr (e1.mono (by decide))⟩
end TR
