/-! ===== the reader ===== -/
/-- the step, the figure ahead, the draft, how long its letters waited -/
abbrev PS : Type := Nat × Nat × PT × (Nat → Nat)
def fig (c : Nat) : Option Nat := if 48 ≤ c ∧ c ≤ 57 then some (c - 48) else none
def expN (P : PT) (l : Nat) : Nat → Nat | 0 => 0 | o + 1 => expN P l o + if bt (px P o) l then 1 else 0
theorem expN_le (P : PT) (l : Nat) : ∀ o, expN P l o ≤ o := by
  intro o
  induction o with
  | zero => exact Nat.le_refl _
  | succ o ih => unfold expN; split <;> omega
abbrev isOp (P : PT) (l : Nat) : Prop := l < pn P ∧ expN P l (pn P) < pn P - 1
abbrev hasOp (P : PT) : Prop := ¬ ∀ l, l < pn P → ¬ isOp P l
def rdS (q : PS) (c : Nat) : Option PS := match q.1 with
  | 0 => if c = 80 then some (1, q.2) else none
  | 1 => match fig c with | some f => some (2, q.2.1, (pn q.2.2.1, f, pr q.2.2.1, pk q.2.2.1, px q.2.2.1), q.2.2.2) | none => none
  | 2 => match fig c with | some f => if 1 ≤ f ∧ f ≤ 3 then some (3, q.2.1, (pn q.2.2.1, pp q.2.2.1, f, pk q.2.2.1, px q.2.2.1), q.2.2.2) else none | none => none
  | 3 => if c = 76 then (if pn q.2.2.1 < 6 then some (4, q.2) else none) else if c = 69 ∧ hasOp q.2.2.1 then some (6, q.2) else none
  | 4 => match fig c with | some f => some (5, f, q.2.2) | none => none
  | 5 => match fig c with | some f => if f ≤ 3 then some (3, q.2.1, (pn q.2.2.1 + 1, pp q.2.2.1, pr q.2.2.1, nset (pk q.2.2.1) (pn q.2.2.1) f, px q.2.2.1), nset q.2.2.2 (pn q.2.2.1) q.2.1) else none | none => none
  | 6 => match fig c with | some f => if isOp q.2.2.1 f then some (7, f, q.2.2) else none | none => none
  | 7 => match fig c with | some f => if f < pn q.2.2.1 ∧ f ≠ q.2.1 ∧ ¬ bt (px q.2.2.1 f) q.2.1 then some (3, q.2.1, (pn q.2.2.1, pp q.2.2.1, pr q.2.2.1, pk q.2.2.1, nset (px q.2.2.1) f (px q.2.2.1 f ||| 2 ^ q.2.1)), q.2.2.2) else none | none => none
  | _ => none
def Rok (q : PS) : Prop := pn q.2.2.1 ≤ 6 ∧ pp q.2.2.1 ≤ 9 ∧ (1 ≤ pr q.2.2.1 ∧ pr q.2.2.1 ≤ 3) ∧ (∀ k, k < pn q.2.2.1 → pk q.2.2.1 k ≤ 3) ∧ (∀ k, k < 6 → px q.2.2.1 k < 64) ∧ (∀ k, k < pn q.2.2.1 → q.2.2.2 k ≤ 9) ∧ q.1 ≤ 7 ∧ q.2.1 ≤ 9 ∧ (q.1 = 4 ∨ q.1 = 5 → pn q.2.2.1 < 6) ∧ (q.1 = 7 → q.2.1 < pn q.2.2.1)
def Rd (τ : xT) (q : PS) : Prop := τ.1 3 1 = nI q.1 ∧ (q.1 = 5 ∨ q.1 = 7 → τ.1 3 2 = nI q.2.1) ∧ τ.1 4 0 = nI (pp q.2.2.1) ∧ τ.1 4 1 = nI (pr q.2.2.1) ∧ τ.1 4 2 = nI (pn q.2.2.1) ∧ (∀ i, i < pn q.2.2.1 → τ.1 5 i = nI (q.2.2.2 i)) ∧ (∀ i, i < pn q.2.2.1 → τ.1 6 i = nI (pk q.2.2.1 i)) ∧ ∀ i, i < 6 → τ.1 7 i = nI (px q.2.2.1 i)
def RdQ (τ' : xT) (v : Int32) (o : Option PS) : Prop := (o = none ∧ v = nI 0) ∨ ∃ q', o = some q' ∧ v = nI 1 ∧ Rd τ' q'
theorem RdQ_nar {τ' : xT} {v : Int32} {o : Option PS} (h : RdQ τ' v o) : narrow .boolean (.int v) = .int v := by
  rcases h with ⟨-, rfl⟩ | ⟨q, -, rfl, -⟩ <;> rfl
abbrev rdR : List Nat := [3, 4, 5, 6, 7]
theorem fig_le {c f : Nat} (h : fig c = some f) : f ≤ 9 := by
  unfold fig at h
  split at h
  · cases h; omega
  · cases h
theorem oI_lt0 {o : Option Nat} (ho : ∀ k, o = some k → k < 1000) : oI o < 0 ↔ o = none := by
  rcases o with _ | k
  · exact ⟨fun _ => rfl, fun _ => by decide⟩
  · exact ⟨fun h => absurd h (nI_pos (by have := ho k rfl; omega)), fun h => by cases h⟩
theorem rdS_ok {q q' : PS} {c : Nat} (h : Rok q) (hs : rdS q c = some q') : Rok q' := by
  obtain ⟨st, a, ⟨n, p, r, k, x⟩, w⟩ := q
  obtain ⟨h1, h2, h3, h4, h5, h6, h7, h8, h9, h10⟩ := h
  have h1 : n ≤ 6 := h1
  have h7 : st ≤ 7 := h7
  have hst : st = 0 ∨ st = 1 ∨ st = 2 ∨ st = 3 ∨ st = 4 ∨ st = 5 ∨ st = 6 ∨ st = 7 := by omega
  rcases hst with rfl | rfl | rfl | rfl | rfl | rfl | rfl | rfl
  · simp only [rdS] at hs
    split at hs
    · cases hs; exact ⟨h1, h2, h3, h4, h5, h6, Nat.le_of_ble_eq_true rfl, h8, fun e => by simp at e, fun e => by simp at e⟩
    · cases hs
  · simp only [rdS] at hs
    split at hs
    · rename_i f hf; have := fig_le hf; cases hs; exact ⟨h1, this, h3, h4, h5, h6, Nat.le_of_ble_eq_true rfl, h8, fun e => by simp at e, fun e => by simp at e⟩
    · cases hs
  · simp only [rdS] at hs
    split at hs
    · rename_i f hf
      split at hs
      · rename_i hr; cases hs; exact ⟨h1, h2, hr, h4, h5, h6, Nat.le_of_ble_eq_true rfl, h8, fun e => by simp at e, fun e => by simp at e⟩
      · cases hs
    · cases hs
  · simp only [rdS] at hs
    split at hs
    · split at hs
      · rename_i hn; cases hs; exact ⟨h1, h2, h3, h4, h5, h6, Nat.le_of_ble_eq_true rfl, h8, fun e => hn, fun e => by simp at e⟩
      · cases hs
    · split at hs
      · cases hs; exact ⟨h1, h2, h3, h4, h5, h6, Nat.le_of_ble_eq_true rfl, h8, fun e => by simp at e, fun e => by simp at e⟩
      · cases hs
  · simp only [rdS] at hs
    split at hs
    · rename_i f hf; have := fig_le hf; cases hs; exact ⟨h1, h2, h3, h4, h5, h6, Nat.le_of_ble_eq_true rfl, this, fun e => h9 (Or.inl rfl), fun e => by simp at e⟩
    · cases hs
  · simp only [rdS] at hs
    have hn6 : n < 6 := h9 (Or.inr rfl)
    split at hs
    · rename_i f hf
      split at hs
      · rename_i hr
        cases hs
        refine ⟨by show n + 1 ≤ 6; omega, h2, h3, fun i hi => ?_, h5, fun i hi => ?_, Nat.le_of_ble_eq_true rfl, h8, fun e => by simp at e, fun e => by simp at e⟩
        · have hi : i < n + 1 := hi
          show nset k n f i ≤ 3
          unfold nset
          split
          · exact hr
          · exact h4 i (by show i < n; omega)
        · have hi : i < n + 1 := hi
          show nset w n a i ≤ 9
          unfold nset
          split
          · exact h8
          · exact h6 i (by show i < n; omega)
      · cases hs
    · cases hs
  · simp only [rdS] at hs
    split at hs
    · rename_i f hf
      have := fig_le hf
      split at hs
      · rename_i hr; cases hs; exact ⟨h1, h2, h3, h4, h5, h6, Nat.le_of_ble_eq_true rfl, this, fun e => by simp at e, fun e => hr.1⟩
      · cases hs
    · cases hs
  · simp only [rdS] at hs
    have ha : a < n := h10 rfl
    split at hs
    · rename_i f hf
      split at hs
      · rename_i hr
        cases hs
        refine ⟨h1, h2, h3, h4, fun i hi => ?_, h6, Nat.le_of_ble_eq_true rfl, h8, fun e => by simp at e, fun e => by simp at e⟩
        show nset x f (x f ||| 2 ^ a) i < 64
        unfold nset
        have h2a : 2 ^ a < 2 ^ 6 := pow_lt (by omega)
        split
        · exact Nat.or_lt_two_pow (n := 6) (h5 f (by have := hr.1; show f < 6; have : f < n := this; omega)) h2a
        · exact h5 i hi
      · cases hs
    · cases hs
section RDR
variable (cx : xC)
set_option maxHeartbeats 4000000
set_option maxRecDepth 100000
theorem c_explainedBy (τ : xT) {q : PS} (h : Rd τ q) (ho : pn q.2.2.1 ≤ 6) (hxx : ∀ k, k < 6 → px q.2.2.1 k < 64) {l : Nat} (hl : l < 31) : CI cx m_X3_explainedBy [.ref 4, .int (nI l)] PW τ (fun v τ' => τ' = τ ∧ v = nI (expN q.2.2.1 l (pn q.2.2.1))) := by
  obtain ⟨d0, d1, d2, d3, d4, d5, d6, d7⟩ := h
  have hn6 := ho
  refine Ct_of (by decide) (Nat.le_of_ble_eq_true rfl) (lv := [(0, _), (1, _)]) rfl ?_
  have hlp : ∀ (o : Nat) (τ' : xT), o ≤ pn q.2.2.1 → τ' = τ → X cx m_X3_explainedBy PW (qI PW (fun v τ' => τ' = τ ∧ v = nI (expN q.2.2.1 l (pn q.2.2.1)))) 4 [(3, .int (nI o)), (2, .int (nI (expN q.2.2.1 l o))), (0, .ref 4), (1, .int (nI l))] [] PW τ' := by
    refine xloop _ _ (pn q.2.2.1) (fun τ' h => ?_) (fun o τ' hj h ih => ?_)
    · subst h
      refine X_iload_n (i := 3) (pc' := 5) dX3_explainedBy_4 rfl rfl rfl ?_
      refine X_aload_n (i := 0) (pc' := 6) dX3_explainedBy_5 rfl rfl rfl ?_
      refine X_get (pc' := 9) (v := .int _) dX3_explainedBy_6 rfl (gf_X3_28 _ rfl) o_W_4 rfl rfl ?_
      refine X_eqi (nI (pn q.2.2.1)) (d4) ?_
      refine X_icmp_ge (pc' := 12) (tgt := 36) dX3_explainedBy_9 rfl (by decide) (fun h_9 => ?_) (fun h_9 => absurd (nI_le (Nat.le_refl _) (by omega)) h_9)
      refine X_iload_n (i := 2) (pc' := 37) dX3_explainedBy_36 rfl rfl rfl ?_
      refine X_ri dX3_explainedBy_37 rfl ⟨rfl, rfl⟩ ?_
      exact ⟨rfl, rfl⟩
    · subst h
      have hx := hxx o (by omega)
      refine X_iload_n (i := 3) (pc' := 5) dX3_explainedBy_4 rfl rfl rfl ?_
      refine X_aload_n (i := 0) (pc' := 6) dX3_explainedBy_5 rfl rfl rfl ?_
      refine X_get (pc' := 9) (v := .int _) dX3_explainedBy_6 rfl (gf_X3_28 _ rfl) o_W_4 rfl rfl ?_
      refine X_eqi (nI (pn q.2.2.1)) (d4) ?_
      refine X_icmp_ge (pc' := 12) (tgt := 36) dX3_explainedBy_9 rfl (by decide) (fun h_9 => absurd h_9 (nI_ge hj (by omega))) (fun h_9 => ?_)
      refine X_aload_n (i := 0) (pc' := 13) dX3_explainedBy_12 rfl rfl rfl ?_
      refine X_get (pc' := 16) (v := .ref 7) dX3_explainedBy_13 rfl (gf_X3_22 _ rfl) o_W_4 rfl rfl ?_
      refine X_iload_n (i := 3) (pc' := 17) dX3_explainedBy_16 rfl rfl rfl ?_
      refine X_NIp (As := [_, _]) (rest := []) (pc' := 20) dX3_explainedBy_17 rfl k_X4_at l_X3_45 s_X4_at ⟨by decide, by decide⟩ rfl rfl (Nat.le_of_ble_eq_true rfl) (c_at_in cx τ' (Or.inl r_W_7) (show o < 6 by omega)) ?_
      refine X_eqi (nI (px q.2.2.1 o)) (d7 o (by omega)) ?_
      refine X_iload_n (i := 1) (pc' := 21) dX3_explainedBy_20 rfl rfl rfl ?_
      refine X_NIp (As := [_, _]) (rest := []) (pc' := 24) dX3_explainedBy_21 rfl k_X4_has l_X3_49 s_X4_has ⟨by decide, by decide⟩ rfl rfl (Nat.le_of_ble_eq_true rfl) (c_X4_has cx τ' (px q.2.2.1 o) l (by omega) hl) ?_
      refine X_if_eq (pc' := 27) (tgt := 30) dX3_explainedBy_24 rfl (by decide) (fun h_24 => ?_) (fun h_24 => ?_)
      · refine X_iinc (pc' := 33) (v := nI (o + 1)) (lv' := [(3, _), (2, _), (0, _), (1, _)]) dX3_explainedBy_30 rfl rfl ((nI_succ o).symm) (Nat.le_of_ble_eq_true rfl) rfl ?_
        refine X_goto (pc' := 0) (tgt := 4) dX3_explainedBy_33 (by decide) ?_
        have hb : expN q.2.2.1 l (o + 1) = expN q.2.2.1 l o + (if bt (px q.2.2.1 o) l then 1 else 0) := rfl
        have := ih τ' rfl
        first
          | (rw [hb, if_neg (zI_0.mp h_24)] at this
             exact X_lv _ (by simp) this)
          | (rw [hb, if_pos (zI_1 h_24)] at this
             exact X_lv _ (by simp) this)
      · refine X_iinc (pc' := 30) (v := nI (expN q.2.2.1 l o + 1)) (lv' := [(2, _), (3, _), (0, _), (1, _)]) dX3_explainedBy_27 rfl rfl ((nI_succ _).symm) (Nat.le_of_ble_eq_true rfl) rfl ?_
        refine X_iinc (pc' := 33) (v := nI (o + 1)) (lv' := [(3, _), (2, _), (0, _), (1, _)]) dX3_explainedBy_30 rfl rfl ((nI_succ o).symm) (Nat.le_of_ble_eq_true rfl) rfl ?_
        refine X_goto (pc' := 0) (tgt := 4) dX3_explainedBy_33 (by decide) ?_
        have hb : expN q.2.2.1 l (o + 1) = expN q.2.2.1 l o + (if bt (px q.2.2.1 o) l then 1 else 0) := rfl
        have := ih τ' rfl
        first
          | (rw [hb, if_neg (zI_0.mp h_24)] at this
             exact X_lv _ (by simp) this)
          | (rw [hb, if_pos (zI_1 h_24)] at this
             exact X_lv _ (by simp) this)
  refine X_iconst (pc' := 1) (v := nI 0) dX3_explainedBy_0 rfl (by decide) ?_
  refine X_istore_n (i := 2) (pc' := 2) (lv' := [(2, _), (0, _), (1, _)]) dX3_explainedBy_1 rfl rfl (Nat.le_of_ble_eq_true rfl) rfl ?_
  refine X_iconst (pc' := 3) (v := nI 0) dX3_explainedBy_2 rfl (by decide) ?_
  refine X_istore_n (i := 3) (pc' := 4) (lv' := [(3, _), (2, _), (0, _), (1, _)]) dX3_explainedBy_3 rfl rfl (Nat.le_of_ble_eq_true rfl) rfl ?_
  exact X_lv _ (by simp [expN]) (hlp 0 τ (by omega) rfl)
theorem c_isOpen (τ : xT) {q : PS} (h : Rd τ q) (ho : pn q.2.2.1 ≤ 6) (hxx : ∀ k, k < 6 → px q.2.2.1 k < 64) {l : Nat} (hl : l < 31) : CI cx m_X1_isOpen [.ref 3, .int (nI l)] PW τ (fun v τ' => τ' = τ ∧ v = zI (isOp q.2.2.1 l)) := by
  obtain ⟨d0, d1, d2, d3, d4, d5, d6, d7⟩ := id h
  have hn6 := ho
  have he := expN_le q.2.2.1 l (pn q.2.2.1)
  refine Ct_of (by decide) (Nat.le_of_ble_eq_true rfl) (lv := [(0, _), (1, _)]) rfl ?_
  refine X_iload_n (i := 1) (pc' := 1) dX1_isOpen_0 rfl rfl rfl ?_
  refine X_if_lt (pc' := 4) (tgt := 39) dX1_isOpen_1 rfl (by decide) (fun h_1 => absurd h_1 (nI_pos (by omega))) (fun h_1 => ?_)
  refine X_iload_n (i := 1) (pc' := 5) dX1_isOpen_4 rfl rfl rfl ?_
  refine X_aload_n (i := 0) (pc' := 6) dX1_isOpen_5 rfl rfl rfl ?_
  refine X_get (pc' := 9) (v := .ref 4) dX1_isOpen_6 rfl (gf_X1_12 _ rfl) o_W_3 rfl rfl ?_
  refine X_get (pc' := 12) (v := .int _) dX1_isOpen_9 rfl (gf_X1_56 _ rfl) o_W_4 rfl rfl ?_
  refine X_eqi (nI (pn q.2.2.1)) (d4) ?_
  refine X_icmp_ge (pc' := 15) (tgt := 39) dX1_isOpen_12 rfl (by decide) (fun h_12 => ?_) (fun h_12 => ?_)
  · refine X_iconst (pc' := 40) (v := nI 0) dX1_isOpen_39 rfl (by decide) ?_
    refine X_rz dX1_isOpen_40 rfl (rfl) ⟨rfl, rfl⟩ ?_
    first
      | exact ⟨rfl, (zI_f (fun q => nI_ge q.1 (by omega) h_12)).symm⟩
      | exact ⟨rfl, (zI_f (fun q => nI_ge q.2 (by omega) h_32)).symm⟩
      | exact ⟨rfl, (zI_t ⟨hln, (nI_ltI (by omega) (by omega)).mp (Int32.not_le.mp h_32)⟩).symm⟩
  · have hln := (nI_ltI (by omega) (by omega)).mp (Int32.not_le.mp h_12)
    refine X_aload_n (i := 0) (pc' := 16) dX1_isOpen_15 rfl rfl rfl ?_
    refine X_get (pc' := 19) (v := .ref 4) dX1_isOpen_16 rfl (gf_X1_12 _ rfl) o_W_3 rfl rfl ?_
    refine X_iload_n (i := 1) (pc' := 20) dX1_isOpen_19 rfl rfl rfl ?_
    refine X_OIp (As := [_]) (rest := []) (pc' := 23) dX1_isOpen_20 rfl k_X3_explainedBy l_X1_96 v_X3_explainedBy o_W_4 rfl ⟨by decide, by decide⟩ rfl rfl (Nat.le_of_ble_eq_true rfl) (c_explainedBy cx τ h ho hxx hl) ?_
    refine X_aload_n (i := 0) (pc' := 24) dX1_isOpen_23 rfl rfl rfl ?_
    refine X_get (pc' := 27) (v := .ref 4) dX1_isOpen_24 rfl (gf_X1_12 _ rfl) o_W_3 rfl rfl ?_
    refine X_get (pc' := 30) (v := .int _) dX1_isOpen_27 rfl (gf_X1_56 _ rfl) o_W_4 rfl rfl ?_
    refine X_eqi (nI (pn q.2.2.1)) (d4) ?_
    refine X_iconst (pc' := 31) (v := nI 1) dX1_isOpen_30 rfl (by decide) ?_
    refine X_isub (pc' := 32) dX1_isOpen_31 rfl ?_
    refine X_eqi (nI (pn q.2.2.1 - 1)) (pk_sub (by omega)) ?_
    refine X_icmp_ge (pc' := 35) (tgt := 39) dX1_isOpen_32 rfl (by decide) (fun h_32 => ?_) (fun h_32 => ?_)
    · refine X_iconst (pc' := 40) (v := nI 0) dX1_isOpen_39 rfl (by decide) ?_
      refine X_rz dX1_isOpen_40 rfl (rfl) ⟨rfl, rfl⟩ ?_
      first
        | exact ⟨rfl, (zI_f (fun q => nI_ge q.1 (by omega) h_12)).symm⟩
        | exact ⟨rfl, (zI_f (fun q => nI_ge q.2 (by omega) h_32)).symm⟩
        | exact ⟨rfl, (zI_t ⟨hln, (nI_ltI (by omega) (by omega)).mp (Int32.not_le.mp h_32)⟩).symm⟩
    · refine X_iconst (pc' := 36) (v := nI 1) dX1_isOpen_35 rfl (by decide) ?_
      refine X_goto (pc' := 0) (tgt := 40) dX1_isOpen_36 (by decide) ?_
      refine X_rz dX1_isOpen_40 rfl (rfl) ⟨rfl, rfl⟩ ?_
      first
        | exact ⟨rfl, (zI_f (fun q => nI_ge q.1 (by omega) h_12)).symm⟩
        | exact ⟨rfl, (zI_f (fun q => nI_ge q.2 (by omega) h_32)).symm⟩
        | exact ⟨rfl, (zI_t ⟨hln, (nI_ltI (by omega) (by omega)).mp (Int32.not_le.mp h_32)⟩).symm⟩
theorem c_isOpenN (τ : xT) : CI cx m_X1_isOpen [.ref 3, .int (-1)] PW τ (fun v τ' => τ' = τ ∧ v = nI 0) := by
  refine Ct_of (by decide) (Nat.le_of_ble_eq_true rfl) (lv := [(0, _), (1, _)]) rfl ?_
  refine X_iload_n (i := 1) (pc' := 1) dX1_isOpen_0 rfl rfl rfl ?_
  refine X_if_lt (pc' := 4) (tgt := 39) dX1_isOpen_1 rfl (by decide) (fun h_1 => ?_) (fun h_1 => absurd (by decide) h_1)
  refine X_iconst (pc' := 40) (v := nI 0) dX1_isOpen_39 rfl (by decide) ?_
  refine X_rz dX1_isOpen_40 rfl (rfl) ⟨rfl, rfl⟩ ?_
  exact ⟨rfl, rfl⟩
theorem c_hasOpenPair (τ : xT) {q : PS} (h : Rd τ q) (ho : Rok q) : CI cx m_X1_hasOpenPair [.ref 3] PW τ (fun v τ' => τ' = τ ∧ v = zI (hasOp q.2.2.1)) := by
  obtain ⟨d0, d1, d2, d3, d4, d5, d6, d7⟩ := id h
  have hn6 := ho.1
  refine Ct_of (by decide) (Nat.le_of_ble_eq_true rfl) (lv := [(0, _)]) rfl ?_
  have hlp : ∀ (o : Nat) (τ' : xT), o ≤ pn q.2.2.1 → (τ' = τ ∧ ∀ l, l < o → ¬ isOp q.2.2.1 l) → X cx m_X1_hasOpenPair PW (qI PW (fun v τ' => τ' = τ ∧ v = zI (hasOp q.2.2.1))) 2 [(1, .int (nI o)), (0, .ref 3)] [] PW τ' := by
    refine xloop _ _ (pn q.2.2.1) (fun τ' h => ?_) (fun o τ' hj h' ih => ?_)
    · obtain ⟨h, hn⟩ := h
      subst h
      refine X_iload_n (i := 1) (pc' := 3) dX1_hasOpenPair_2 rfl rfl rfl ?_
      refine X_aload_n (i := 0) (pc' := 4) dX1_hasOpenPair_3 rfl rfl rfl ?_
      refine X_get (pc' := 7) (v := .ref 4) dX1_hasOpenPair_4 rfl (gf_X1_12 _ rfl) o_W_3 rfl rfl ?_
      refine X_get (pc' := 10) (v := .int _) dX1_hasOpenPair_7 rfl (gf_X1_56 _ rfl) o_W_4 rfl rfl ?_
      refine X_eqi (nI (pn q.2.2.1)) (d4) ?_
      refine X_icmp_ge (pc' := 13) (tgt := 29) dX1_hasOpenPair_10 rfl (by decide) (fun h_10 => ?_) (fun h_10 => absurd (nI_le (Nat.le_refl _) (by omega)) h_10)
      refine X_iconst (pc' := 30) (v := nI 0) dX1_hasOpenPair_29 rfl (by decide) ?_
      refine X_rz dX1_hasOpenPair_30 rfl (rfl) ⟨rfl, rfl⟩ ?_
      exact ⟨rfl, (zI_f (fun q => q hn)).symm⟩
    · obtain ⟨h2, hn⟩ := h'
      subst h2
      refine X_iload_n (i := 1) (pc' := 3) dX1_hasOpenPair_2 rfl rfl rfl ?_
      refine X_aload_n (i := 0) (pc' := 4) dX1_hasOpenPair_3 rfl rfl rfl ?_
      refine X_get (pc' := 7) (v := .ref 4) dX1_hasOpenPair_4 rfl (gf_X1_12 _ rfl) o_W_3 rfl rfl ?_
      refine X_get (pc' := 10) (v := .int _) dX1_hasOpenPair_7 rfl (gf_X1_56 _ rfl) o_W_4 rfl rfl ?_
      refine X_eqi (nI (pn q.2.2.1)) (d4) ?_
      refine X_icmp_ge (pc' := 13) (tgt := 29) dX1_hasOpenPair_10 rfl (by decide) (fun h_10 => absurd h_10 (nI_ge hj (by omega))) (fun h_10 => ?_)
      refine X_aload_n (i := 0) (pc' := 14) dX1_hasOpenPair_13 rfl rfl rfl ?_
      refine X_iload_n (i := 1) (pc' := 15) dX1_hasOpenPair_14 rfl rfl rfl ?_
      refine X_OIp (As := [_]) (rest := []) (pc' := 18) dX1_hasOpenPair_15 rfl k_X1_isOpen l_X1_74 v_X1_isOpen o_W_3 rfl ⟨by decide, by decide⟩ rfl rfl (Nat.le_of_ble_eq_true rfl) (c_isOpen cx τ' h ho.1 ho.2.2.2.2.1 (l := o) (by omega)) ?_
      refine X_if_eq (pc' := 21) (tgt := 23) dX1_hasOpenPair_18 rfl (by decide) (fun h_18 => ?_) (fun h_18 => ?_)
      · refine X_iinc (pc' := 26) (v := nI (o + 1)) (lv' := [(1, _), (0, _)]) dX1_hasOpenPair_23 rfl rfl ((nI_succ o).symm) (Nat.le_of_ble_eq_true rfl) rfl ?_
        refine X_goto (pc' := 0) (tgt := 2) dX1_hasOpenPair_26 (by decide) ?_
        refine X_lv _ (by simp) (ih τ' ⟨rfl, fun l hl => ?_⟩)
        by_cases hlo : l = o
        · subst hlo; exact zI_0.mp h_18
        · exact hn l (by omega)
      · refine X_iconst (pc' := 22) (v := nI 1) dX1_hasOpenPair_21 rfl (by decide) ?_
        refine X_rz dX1_hasOpenPair_22 rfl (rfl) ⟨rfl, rfl⟩ ?_
        exact ⟨rfl, (zI_t (show hasOp q.2.2.1 from fun g => g o hj (zI_1 h_18))).symm⟩
  refine X_iconst (pc' := 1) (v := nI 0) dX1_hasOpenPair_0 rfl (by decide) ?_
  refine X_istore_n (i := 1) (pc' := 2) (lv' := [(1, _), (0, _)]) dX1_hasOpenPair_1 rfl rfl (Nat.le_of_ble_eq_true rfl) rfl ?_
  exact X_lv _ (by simp) (hlp 0 τ (by omega) ⟨rfl, fun l hl => absurd hl (by omega)⟩)
theorem c_takesHead (τ : xT) {q : PS} (h : Rd τ q) (hq : q.1 = 0) {c : Nat} (hc : c < 1000) : CI cx m_X1_takesHead [.ref 3, .int (nI c)] PW τ (fun v τ' => xeq rdR τ τ' ∧ RdQ τ' v (rdS q c)) := by
  obtain ⟨st, a, P, w⟩ := q
  have hq : st = 0 := hq
  subst hq
  obtain ⟨d0, d1, d2, d3, d4, d5, d6, d7⟩ := h
  refine Ct_of (by decide) (Nat.le_of_ble_eq_true rfl) (lv := [(0, _), (1, _)]) rfl ?_
  refine X_aload_n (i := 0) (pc' := 1) dX1_takesHead_0 rfl rfl rfl ?_
  refine X_iconst (pc' := 2) (v := nI 1) dX1_takesHead_1 rfl (by decide) ?_
  refine X_putI (pc' := 5) dX1_takesHead_2 rfl (pf_X1_21 _ rfl) o_W_3 rfl ?_
  refine X_iload_n (i := 1) (pc' := 6) dX1_takesHead_5 rfl rfl rfl ?_
  refine X_bipush (pc' := 8) (v := nI 80) dX1_takesHead_6 rfl (by decide) ?_
  refine X_icmp_ne (pc' := 11) (tgt := 15) dX1_takesHead_8 rfl (by decide) (fun h_8 => ?_) (fun h_8 => ?_)
  · refine X_iconst (pc' := 16) (v := nI 0) dX1_takesHead_15 rfl (by decide) ?_
    refine X_rz dX1_takesHead_16 rfl (rfl) ⟨rfl, rfl⟩ ?_
    refine ⟨xeq.rf.si (by decide), ?_⟩
    first
      | exact Or.inl ⟨if_neg (fun q => h_8 (by rw [q])), rfl⟩
      | exact Or.inr ⟨_, if_pos ((nI_eq (by omega) (by decide)).mp h_8), rfl, by rw [xsi_self, pk_us], fun e => by simp at e, d2, d3, d4, d5, d6, d7⟩
  · refine X_iconst (pc' := 12) (v := nI 1) dX1_takesHead_11 rfl (by decide) ?_
    refine X_goto (pc' := 0) (tgt := 16) dX1_takesHead_12 (by decide) ?_
    refine X_rz dX1_takesHead_16 rfl (rfl) ⟨rfl, rfl⟩ ?_
    refine ⟨xeq.rf.si (by decide), ?_⟩
    first
      | exact Or.inl ⟨if_neg (fun q => h_8 (by rw [q])), rfl⟩
      | exact Or.inr ⟨_, if_pos ((nI_eq (by omega) (by decide)).mp h_8), rfl, by rw [xsi_self, pk_us], fun e => by simp at e, d2, d3, d4, d5, d6, d7⟩
theorem c_takesPardon (τ : xT) {q : PS} (h : Rd τ q) (hq : q.1 = 1) {c : Nat} : CI cx m_X1_takesPardon [.ref 3, .int (oI (fig c))] PW τ (fun v τ' => xeq rdR τ τ' ∧ RdQ τ' v (rdS q c)) := by
  obtain ⟨st, a, P, w⟩ := q
  have hq : st = 1 := hq
  subst hq
  obtain ⟨d0, d1, d2, d3, d4, d5, d6, d7⟩ := h
  have hlt := oI_lt0 (o := fig c) (fun k hk => by have := fig_le hk; omega)
  refine Ct_of (by decide) (Nat.le_of_ble_eq_true rfl) (lv := [(0, _), (1, _)]) rfl ?_
  refine X_aload_n (i := 0) (pc' := 1) dX1_takesPardon_0 rfl rfl rfl ?_
  refine X_get (pc' := 4) (v := .ref 4) dX1_takesPardon_1 rfl (gf_X1_12 _ rfl) o_W_3 rfl rfl ?_
  refine X_iload_n (i := 1) (pc' := 5) dX1_takesPardon_4 rfl rfl rfl ?_
  refine X_putI (pc' := 8) dX1_takesPardon_5 rfl (pf_X1_50 _ rfl) o_W_4 rfl ?_
  refine X_aload_n (i := 0) (pc' := 9) dX1_takesPardon_8 rfl rfl rfl ?_
  refine X_iconst (pc' := 10) (v := nI 2) dX1_takesPardon_9 rfl (by decide) ?_
  refine X_putI (pc' := 13) dX1_takesPardon_10 rfl (pf_X1_21 _ rfl) o_W_3 rfl ?_
  refine X_iload_n (i := 1) (pc' := 14) dX1_takesPardon_13 rfl rfl rfl ?_
  refine X_if_lt (pc' := 17) (tgt := 21) dX1_takesPardon_14 rfl (by decide) (fun h_14 => ?_) (fun h_14 => ?_)
  · refine X_iconst (pc' := 22) (v := nI 0) dX1_takesPardon_21 rfl (by decide) ?_
    refine X_rz dX1_takesPardon_22 rfl (rfl) ⟨rfl, rfl⟩ ?_
    refine ⟨(xeq.rf.si (by decide)).si (by decide), ?_⟩
    simp only [rdS]
    rcases hf : fig c with _ | f
    · first
        | exact Or.inl ⟨rfl, rfl⟩
        | exact absurd (hlt.mpr hf) h_14
    · first
        | exact absurd (hlt.mp h_14) (by rw [hf]; intro e; cases e)
        | exact Or.inr ⟨_, rfl, rfl, by simp [xsi, upd], fun e => by simp at e, by simp [xsi, upd, oI], by simp [xsi, upd]; exact d3, by simp [xsi, upd]; exact d4, d5, d6, d7⟩
  · refine X_iconst (pc' := 18) (v := nI 1) dX1_takesPardon_17 rfl (by decide) ?_
    refine X_goto (pc' := 0) (tgt := 22) dX1_takesPardon_18 (by decide) ?_
    refine X_rz dX1_takesPardon_22 rfl (rfl) ⟨rfl, rfl⟩ ?_
    refine ⟨(xeq.rf.si (by decide)).si (by decide), ?_⟩
    simp only [rdS]
    rcases hf : fig c with _ | f
    · first
        | exact Or.inl ⟨rfl, rfl⟩
        | exact absurd (hlt.mpr hf) h_14
    · first
        | exact absurd (hlt.mp h_14) (by rw [hf]; intro e; cases e)
        | exact Or.inr ⟨_, rfl, rfl, by simp [xsi, upd], fun e => by simp at e, by simp [xsi, upd, oI], by simp [xsi, upd]; exact d3, by simp [xsi, upd]; exact d4, d5, d6, d7⟩
theorem c_takesRoom (τ : xT) {q : PS} (h : Rd τ q) (hq : q.1 = 2) {c : Nat} : CI cx m_X1_takesRoom [.ref 3, .int (oI (fig c))] PW τ (fun v τ' => xeq rdR τ τ' ∧ RdQ τ' v (rdS q c)) := by
  obtain ⟨st, a, P, w⟩ := q
  have hq : st = 2 := hq
  subst hq
  obtain ⟨d0, d1, d2, d3, d4, d5, d6, d7⟩ := h
  refine Ct_of (by decide) (Nat.le_of_ble_eq_true rfl) (lv := [(0, _), (1, _)]) rfl ?_
  rcases hf : fig c with _ | f
  · refine X_aload_n (i := 0) (pc' := 1) dX1_takesRoom_0 rfl rfl rfl ?_
    refine X_get (pc' := 4) (v := .ref 4) dX1_takesRoom_1 rfl (gf_X1_12 _ rfl) o_W_3 rfl rfl ?_
    refine X_iload_n (i := 1) (pc' := 5) dX1_takesRoom_4 rfl rfl rfl ?_
    refine X_putI (pc' := 8) dX1_takesRoom_5 rfl (pf_X1_53 _ rfl) o_W_4 rfl ?_
    refine X_aload_n (i := 0) (pc' := 9) dX1_takesRoom_8 rfl rfl rfl ?_
    refine X_iconst (pc' := 10) (v := nI 3) dX1_takesRoom_9 rfl (by decide) ?_
    refine X_putI (pc' := 13) dX1_takesRoom_10 rfl (pf_X1_21 _ rfl) o_W_3 rfl ?_
    refine X_iload_n (i := 1) (pc' := 14) dX1_takesRoom_13 rfl rfl rfl ?_
    refine X_iconst (pc' := 15) (v := nI 1) dX1_takesRoom_14 rfl (by decide) ?_
    refine X_icmp_lt (pc' := 18) (tgt := 27) dX1_takesRoom_15 rfl (by decide) (fun h_15 => ?_) (fun h_15 => absurd (by decide) h_15)
    refine X_iconst (pc' := 28) (v := nI 0) dX1_takesRoom_27 rfl (by decide) ?_
    refine X_rz dX1_takesRoom_28 rfl (rfl) ⟨rfl, rfl⟩ ?_
    refine ⟨(xeq.rf.si (by decide)).si (by decide), Or.inl ⟨by simp only [rdS, hf], rfl⟩⟩
  · have hf9 := fig_le hf
    refine X_aload_n (i := 0) (pc' := 1) dX1_takesRoom_0 rfl rfl rfl ?_
    refine X_get (pc' := 4) (v := .ref 4) dX1_takesRoom_1 rfl (gf_X1_12 _ rfl) o_W_3 rfl rfl ?_
    refine X_iload_n (i := 1) (pc' := 5) dX1_takesRoom_4 rfl rfl rfl ?_
    refine X_putI (pc' := 8) dX1_takesRoom_5 rfl (pf_X1_53 _ rfl) o_W_4 rfl ?_
    refine X_aload_n (i := 0) (pc' := 9) dX1_takesRoom_8 rfl rfl rfl ?_
    refine X_iconst (pc' := 10) (v := nI 3) dX1_takesRoom_9 rfl (by decide) ?_
    refine X_putI (pc' := 13) dX1_takesRoom_10 rfl (pf_X1_21 _ rfl) o_W_3 rfl ?_
    refine X_iload_n (i := 1) (pc' := 14) dX1_takesRoom_13 rfl rfl rfl ?_
    refine X_iconst (pc' := 15) (v := nI 1) dX1_takesRoom_14 rfl (by decide) ?_
    refine X_icmp_lt (pc' := 18) (tgt := 27) dX1_takesRoom_15 rfl (by decide) (fun h_15 => ?_) (fun h_15 => ?_)
    · refine X_iconst (pc' := 28) (v := nI 0) dX1_takesRoom_27 rfl (by decide) ?_
      refine X_rz dX1_takesRoom_28 rfl (rfl) ⟨rfl, rfl⟩ ?_
      refine ⟨(xeq.rf.si (by decide)).si (by decide), ?_⟩
      simp only [rdS, hf]
      have h1 : nI f < nI 1 ↔ f < 1 := nI_ltI (by omega) (by decide)
      have h2 : nI 3 < nI f ↔ 3 < f := nI_ltI (by decide) (by omega)
      first
        | exact Or.inl ⟨if_neg (fun q => by have := h1.mp h_15; omega), rfl⟩
        | exact Or.inl ⟨if_neg (fun q => by have := h2.mp h_20; omega), rfl⟩
        | (refine Or.inr ⟨_, if_pos ⟨?_, ?_⟩, rfl, by simp [xsi, upd], fun e => by simp at e, by simp [xsi, upd]; exact d2, by simp [xsi, upd, oI], by simp [xsi, upd]; exact d4, d5, d6, d7⟩
           · rcases Nat.lt_or_ge f 1 with r | r
             · exact absurd (h1.mpr r) h_15
             · exact r
           · rcases Nat.lt_or_ge 3 f with r | r
             · exact absurd (h2.mpr r) h_20
             · exact r)
    · refine X_iload_n (i := 1) (pc' := 19) dX1_takesRoom_18 rfl rfl rfl ?_
      refine X_iconst (pc' := 20) (v := nI 3) dX1_takesRoom_19 rfl (by decide) ?_
      refine X_icmp_gt (pc' := 23) (tgt := 27) dX1_takesRoom_20 rfl (by decide) (fun h_20 => ?_) (fun h_20 => ?_)
      · refine X_iconst (pc' := 28) (v := nI 0) dX1_takesRoom_27 rfl (by decide) ?_
        refine X_rz dX1_takesRoom_28 rfl (rfl) ⟨rfl, rfl⟩ ?_
        refine ⟨(xeq.rf.si (by decide)).si (by decide), ?_⟩
        simp only [rdS, hf]
        have h1 : nI f < nI 1 ↔ f < 1 := nI_ltI (by omega) (by decide)
        have h2 : nI 3 < nI f ↔ 3 < f := nI_ltI (by decide) (by omega)
        first
          | exact Or.inl ⟨if_neg (fun q => by have := h1.mp h_15; omega), rfl⟩
          | exact Or.inl ⟨if_neg (fun q => by have := h2.mp h_20; omega), rfl⟩
          | (refine Or.inr ⟨_, if_pos ⟨?_, ?_⟩, rfl, by simp [xsi, upd], fun e => by simp at e, by simp [xsi, upd]; exact d2, by simp [xsi, upd, oI], by simp [xsi, upd]; exact d4, d5, d6, d7⟩
             · rcases Nat.lt_or_ge f 1 with r | r
               · exact absurd (h1.mpr r) h_15
               · exact r
             · rcases Nat.lt_or_ge 3 f with r | r
               · exact absurd (h2.mpr r) h_20
               · exact r)
      · refine X_iconst (pc' := 24) (v := nI 1) dX1_takesRoom_23 rfl (by decide) ?_
        refine X_goto (pc' := 0) (tgt := 28) dX1_takesRoom_24 (by decide) ?_
        refine X_rz dX1_takesRoom_28 rfl (rfl) ⟨rfl, rfl⟩ ?_
        refine ⟨(xeq.rf.si (by decide)).si (by decide), ?_⟩
        simp only [rdS, hf]
        have h1 : nI f < nI 1 ↔ f < 1 := nI_ltI (by omega) (by decide)
        have h2 : nI 3 < nI f ↔ 3 < f := nI_ltI (by decide) (by omega)
        first
          | exact Or.inl ⟨if_neg (fun q => by have := h1.mp h_15; omega), rfl⟩
          | exact Or.inl ⟨if_neg (fun q => by have := h2.mp h_20; omega), rfl⟩
          | (refine Or.inr ⟨_, if_pos ⟨?_, ?_⟩, rfl, by simp [xsi, upd], fun e => by simp at e, by simp [xsi, upd]; exact d2, by simp [xsi, upd, oI], by simp [xsi, upd]; exact d4, d5, d6, d7⟩
             · rcases Nat.lt_or_ge f 1 with r | r
               · exact absurd (h1.mpr r) h_15
               · exact r
             · rcases Nat.lt_or_ge 3 f with r | r
               · exact absurd (h2.mpr r) h_20
               · exact r)
theorem Rd_step {τ : xT} {st a : Nat} {P : PT} {w : Nat → Nat} (h : Rd τ (st, a, P, w)) (st' : Nat) (hs : st' ≠ 5 ∧ st' ≠ 7) : Rd (xsi τ 3 1 (nI st')) (st', a, P, w) := by
  obtain ⟨d0, d1, d2, d3, d4, d5, d6, d7⟩ := h
  exact ⟨by rw [xsi_self, pk_us], fun e => by rcases e with e | e; exact absurd e hs.1; exact absurd e hs.2, d2, d3, d4, d5, d6, d7⟩
theorem c_takesPart (τ : xT) {q : PS} (h : Rd τ q) (ho : Rok q) (hq : q.1 = 3) {c : Nat} (hc : c < 1000) : CI cx m_X1_takesPart [.ref 3, .int (nI c)] PW τ (fun v τ' => xeq rdR τ τ' ∧ RdQ τ' v (rdS q c)) := by
  obtain ⟨st, a, P, w⟩ := q
  have hq : st = 3 := hq
  subst hq
  have hn6 : pn P ≤ 6 := ho.1
  have h76 : nI c = nI 76 ↔ c = 76 := nI_eq (by omega) (by decide)
  have h69 : nI c = nI 69 ↔ c = 69 := nI_eq (by omega) (by decide)
  have hn : nI 6 ≤ nI (pn P) ↔ 6 ≤ pn P := nI_leI (by decide) (by omega)
  have ho6 : Rok (6, a, P, w) := by
    obtain ⟨o1, o2, o3, o4, o5, o6, o7, o8, o9, o10⟩ := ho
    exact ⟨o1, o2, o3, o4, o5, o6, by show 6 ≤ 7; decide, o8, fun e => by simp at e, fun e => by simp at e⟩
  have g4 := Rd_step h 4 (by decide)
  have g6 := Rd_step h 6 (by decide)
  refine Ct_of (by decide) (Nat.le_of_ble_eq_true rfl) (lv := [(0, _), (1, _)]) rfl ?_
  by_cases hc76 : c = 76
  · subst hc76
    refine X_aload_n (i := 0) (pc' := 1) dX1_takesPart_0 rfl rfl rfl ?_
    refine X_iload_n (i := 1) (pc' := 2) dX1_takesPart_1 rfl rfl rfl ?_
    refine X_bipush (pc' := 4) (v := nI 76) dX1_takesPart_2 rfl (by decide) ?_
    refine X_icmp_ne (pc' := 7) (tgt := 11) dX1_takesPart_4 rfl (by decide) (fun h_4 => absurd h_4 (fun q => q rfl)) (fun h_4 => ?_)
    refine X_iconst (pc' := 8) (v := nI 4) dX1_takesPart_7 rfl (by decide) ?_
    refine X_goto (pc' := 0) (tgt := 13) dX1_takesPart_8 (by decide) ?_
    refine X_putI (pc' := 16) dX1_takesPart_13 rfl (pf_X1_21 _ rfl) o_W_3 rfl ?_
    refine X_iload_n (i := 1) (pc' := 17) dX1_takesPart_16 rfl rfl rfl ?_
    refine X_bipush (pc' := 19) (v := nI 76) dX1_takesPart_17 rfl (by decide) ?_
    refine X_icmp_ne (pc' := 22) (tgt := 42) dX1_takesPart_19 rfl (by decide) (fun h_19 => absurd h_19 (fun q => q rfl)) (fun h_19 => ?_)
    refine X_aload_n (i := 0) (pc' := 23) dX1_takesPart_22 rfl rfl rfl ?_
    refine X_get (pc' := 26) (v := .ref 4) dX1_takesPart_23 rfl (gf_X1_12 _ rfl) o_W_3 rfl rfl ?_
    refine X_get (pc' := 29) (v := .int _) dX1_takesPart_26 rfl (gf_X1_56 _ rfl) o_W_4 rfl rfl ?_
    refine X_eqi (nI (pn P)) (g4.2.2.2.2.1) ?_
    refine X_bipush (pc' := 31) (v := nI 6) dX1_takesPart_29 rfl (by decide) ?_
    refine X_icmp_ge (pc' := 34) (tgt := 38) dX1_takesPart_31 rfl (by decide) (fun h_31 => ?_) (fun h_31 => ?_)
    · refine X_iconst (pc' := 39) (v := nI 0) dX1_takesPart_38 rfl (by decide) ?_
      refine X_goto (pc' := 0) (tgt := 60) dX1_takesPart_39 (by decide) ?_
      refine X_rz dX1_takesPart_60 rfl (rfl) ⟨rfl, rfl⟩ ?_
      refine ⟨xeq.rf.si (by decide), ?_⟩
      simp only [rdS]
      rw [if_pos trivial]
      first
        | exact Or.inl ⟨if_neg (fun q => by have := hn.mp h_31; omega), rfl⟩
        | exact Or.inr ⟨_, if_pos (Nat.not_le.mp (fun q => h_31 (hn.mpr q))), rfl, g4⟩
    · refine X_iconst (pc' := 35) (v := nI 1) dX1_takesPart_34 rfl (by decide) ?_
      refine X_goto (pc' := 0) (tgt := 60) dX1_takesPart_35 (by decide) ?_
      refine X_rz dX1_takesPart_60 rfl (rfl) ⟨rfl, rfl⟩ ?_
      refine ⟨xeq.rf.si (by decide), ?_⟩
      simp only [rdS]
      rw [if_pos trivial]
      first
        | exact Or.inl ⟨if_neg (fun q => by have := hn.mp h_31; omega), rfl⟩
        | exact Or.inr ⟨_, if_pos (Nat.not_le.mp (fun q => h_31 (hn.mpr q))), rfl, g4⟩
  · refine X_aload_n (i := 0) (pc' := 1) dX1_takesPart_0 rfl rfl rfl ?_
    refine X_iload_n (i := 1) (pc' := 2) dX1_takesPart_1 rfl rfl rfl ?_
    refine X_bipush (pc' := 4) (v := nI 76) dX1_takesPart_2 rfl (by decide) ?_
    refine X_icmp_ne (pc' := 7) (tgt := 11) dX1_takesPart_4 rfl (by decide) (fun h_4 => ?_) (fun h_4 => absurd h_4 (fun q => hc76 (h76.mp q)))
    refine X_bipush (pc' := 13) (v := nI 6) dX1_takesPart_11 rfl (by decide) ?_
    refine X_putI (pc' := 16) dX1_takesPart_13 rfl (pf_X1_21 _ rfl) o_W_3 rfl ?_
    refine X_iload_n (i := 1) (pc' := 17) dX1_takesPart_16 rfl rfl rfl ?_
    refine X_bipush (pc' := 19) (v := nI 76) dX1_takesPart_17 rfl (by decide) ?_
    refine X_icmp_ne (pc' := 22) (tgt := 42) dX1_takesPart_19 rfl (by decide) (fun h_19 => ?_) (fun h_19 => absurd h_19 (fun q => hc76 (h76.mp q)))
    refine X_iload_n (i := 1) (pc' := 43) dX1_takesPart_42 rfl rfl rfl ?_
    refine X_bipush (pc' := 45) (v := nI 69) dX1_takesPart_43 rfl (by decide) ?_
    refine X_icmp_ne (pc' := 48) (tgt := 59) dX1_takesPart_45 rfl (by decide) (fun h_45 => ?_) (fun h_45 => ?_)
    · refine X_iconst (pc' := 60) (v := nI 0) dX1_takesPart_59 rfl (by decide) ?_
      refine X_rz dX1_takesPart_60 rfl (rfl) ⟨rfl, rfl⟩ ?_
      refine ⟨xeq.rf.si (by decide), ?_⟩
      simp only [rdS]
      rw [if_neg hc76]
      first
        | exact Or.inl ⟨if_neg (fun q => h_45 (by rw [q.1])), rfl⟩
        | exact Or.inl ⟨if_neg (fun q => (zI_0.mp h_52) q.2), rfl⟩
        | exact Or.inr ⟨_, if_pos ⟨h69.mp h_45, zI_1 h_52⟩, rfl, g6⟩
    · refine X_aload_n (i := 0) (pc' := 49) dX1_takesPart_48 rfl rfl rfl ?_
      refine X_OIp (As := []) (rest := []) (pc' := 52) dX1_takesPart_49 rfl k_X1_hasOpenPair l_X1_59 v_X1_hasOpenPair o_W_3 rfl ⟨by decide, by decide⟩ rfl rfl (Nat.le_of_ble_eq_true rfl) (c_hasOpenPair cx (xsi τ 3 1 (nI 6)) g6 ho6) ?_
      refine X_if_eq (pc' := 55) (tgt := 59) dX1_takesPart_52 rfl (by decide) (fun h_52 => ?_) (fun h_52 => ?_)
      · refine X_iconst (pc' := 60) (v := nI 0) dX1_takesPart_59 rfl (by decide) ?_
        refine X_rz dX1_takesPart_60 rfl (rfl) ⟨rfl, rfl⟩ ?_
        refine ⟨xeq.rf.si (by decide), ?_⟩
        simp only [rdS]
        rw [if_neg hc76]
        first
          | exact Or.inl ⟨if_neg (fun q => h_45 (by rw [q.1])), rfl⟩
          | exact Or.inl ⟨if_neg (fun q => (zI_0.mp h_52) q.2), rfl⟩
          | exact Or.inr ⟨_, if_pos ⟨h69.mp h_45, zI_1 h_52⟩, rfl, g6⟩
      · refine X_iconst (pc' := 56) (v := nI 1) dX1_takesPart_55 rfl (by decide) ?_
        refine X_goto (pc' := 0) (tgt := 60) dX1_takesPart_56 (by decide) ?_
        refine X_rz dX1_takesPart_60 rfl (rfl) ⟨rfl, rfl⟩ ?_
        refine ⟨xeq.rf.si (by decide), ?_⟩
        simp only [rdS]
        rw [if_neg hc76]
        first
          | exact Or.inl ⟨if_neg (fun q => h_45 (by rw [q.1])), rfl⟩
          | exact Or.inl ⟨if_neg (fun q => (zI_0.mp h_52) q.2), rfl⟩
          | exact Or.inr ⟨_, if_pos ⟨h69.mp h_45, zI_1 h_52⟩, rfl, g6⟩
theorem c_takesWaited (τ : xT) {q : PS} (h : Rd τ q) (hq : q.1 = 4) {c : Nat} : CI cx m_X1_takesWaited [.ref 3, .int (oI (fig c))] PW τ (fun v τ' => xeq rdR τ τ' ∧ RdQ τ' v (rdS q c)) := by
  obtain ⟨st, a, P, w⟩ := q
  have hq : st = 4 := hq
  subst hq
  obtain ⟨d0, d1, d2, d3, d4, d5, d6, d7⟩ := h
  have hlt := oI_lt0 (o := fig c) (fun k hk => by have := fig_le hk; omega)
  refine Ct_of (by decide) (Nat.le_of_ble_eq_true rfl) (lv := [(0, _), (1, _)]) rfl ?_
  refine X_aload_n (i := 0) (pc' := 1) dX1_takesWaited_0 rfl rfl rfl ?_
  refine X_iload_n (i := 1) (pc' := 2) dX1_takesWaited_1 rfl rfl rfl ?_
  refine X_putI (pc' := 5) dX1_takesWaited_2 rfl (pf_X1_63 _ rfl) o_W_3 rfl ?_
  refine X_aload_n (i := 0) (pc' := 6) dX1_takesWaited_5 rfl rfl rfl ?_
  refine X_iconst (pc' := 7) (v := nI 5) dX1_takesWaited_6 rfl (by decide) ?_
  refine X_putI (pc' := 10) dX1_takesWaited_7 rfl (pf_X1_21 _ rfl) o_W_3 rfl ?_
  refine X_iload_n (i := 1) (pc' := 11) dX1_takesWaited_10 rfl rfl rfl ?_
  refine X_if_lt (pc' := 14) (tgt := 18) dX1_takesWaited_11 rfl (by decide) (fun h_11 => ?_) (fun h_11 => ?_)
  · refine X_iconst (pc' := 19) (v := nI 0) dX1_takesWaited_18 rfl (by decide) ?_
    refine X_rz dX1_takesWaited_19 rfl (rfl) ⟨rfl, rfl⟩ ?_
    refine ⟨(xeq.rf.si (by decide)).si (by decide), ?_⟩
    simp only [rdS]
    rcases hf : fig c with _ | f
    · first
        | exact Or.inl ⟨rfl, rfl⟩
        | exact absurd (hlt.mpr hf) h_11
    · first
        | exact absurd (hlt.mp h_11) (by rw [hf]; intro e; cases e)
        | exact Or.inr ⟨_, rfl, rfl, by simp [xsi, upd], fun _ => by simp [xsi, upd, oI], d2, d3, d4, d5, d6, d7⟩
  · refine X_iconst (pc' := 15) (v := nI 1) dX1_takesWaited_14 rfl (by decide) ?_
    refine X_goto (pc' := 0) (tgt := 19) dX1_takesWaited_15 (by decide) ?_
    refine X_rz dX1_takesWaited_19 rfl (rfl) ⟨rfl, rfl⟩ ?_
    refine ⟨(xeq.rf.si (by decide)).si (by decide), ?_⟩
    simp only [rdS]
    rcases hf : fig c with _ | f
    · first
        | exact Or.inl ⟨rfl, rfl⟩
        | exact absurd (hlt.mpr hf) h_11
    · first
        | exact absurd (hlt.mp h_11) (by rw [hf]; intro e; cases e)
        | exact Or.inr ⟨_, rfl, rfl, by simp [xsi, upd], fun _ => by simp [xsi, upd, oI], d2, d3, d4, d5, d6, d7⟩
theorem c_addLetter (τ : xT) {q : PS} (h : Rd τ q) (hn : pn q.2.2.1 < 6) {a f : Nat} : CV cx m_X3_addLetter [.ref 4, .int (nI a), .int (nI f)] PW τ (fun τ' => τ' = xsi (xsi (xsi τ 5 (pn q.2.2.1) (nI a)) 6 (pn q.2.2.1) (nI f)) 4 2 (nI (pn q.2.2.1 + 1))) := by
  obtain ⟨d0, d1, d2, d3, d4, d5, d6, d7⟩ := h
  refine Ct_of (by decide) (Nat.le_of_ble_eq_true rfl) (lv := [(0, _), (1, _), (2, _)]) rfl ?_
  refine X_aload_n (i := 0) (pc' := 1) dX3_addLetter_0 rfl rfl rfl ?_
  refine X_get (pc' := 4) (v := .ref 5) dX3_addLetter_1 rfl (gf_X3_15 _ rfl) o_W_4 rfl rfl ?_
  refine X_aload_n (i := 0) (pc' := 5) dX3_addLetter_4 rfl rfl rfl ?_
  refine X_get (pc' := 8) (v := .int _) dX3_addLetter_5 rfl (gf_X3_28 _ rfl) o_W_4 rfl rfl ?_
  refine X_eqi (nI (pn q.2.2.1)) (d4) ?_
  refine X_iload_n (i := 1) (pc' := 9) dX3_addLetter_8 rfl rfl rfl ?_
  refine X_NV (As := [_, _, _]) (rest := []) (pc' := 12) dX3_addLetter_9 rfl k_X4_put l_X3_41 s_X4_put ⟨by decide, by decide⟩ rfl rfl (Nat.le_of_ble_eq_true rfl) (c_X4_put cx τ r_W_5 hn _) (fun τ_9 h_9 => ?_)
  subst h_9
  refine X_aload_n (i := 0) (pc' := 13) dX3_addLetter_12 rfl rfl rfl ?_
  refine X_get (pc' := 16) (v := .ref 6) dX3_addLetter_13 rfl (gf_X3_19 _ rfl) o_W_4 rfl rfl ?_
  refine X_aload_n (i := 0) (pc' := 17) dX3_addLetter_16 rfl rfl rfl ?_
  refine X_get (pc' := 20) (v := .int _) dX3_addLetter_17 rfl (gf_X3_28 _ rfl) o_W_4 rfl rfl ?_
  refine X_eqi (nI (pn q.2.2.1)) (d4) ?_
  refine X_iload_n (i := 2) (pc' := 21) dX3_addLetter_20 rfl rfl rfl ?_
  refine X_NV (As := [_, _, _]) (rest := []) (pc' := 24) dX3_addLetter_21 rfl k_X4_put l_X3_41 s_X4_put ⟨by decide, by decide⟩ rfl rfl (Nat.le_of_ble_eq_true rfl) (c_X4_put cx _ r_W_6 hn _) (fun τ_21 h_21 => ?_)
  subst h_21
  refine X_aload_n (i := 0) (pc' := 25) dX3_addLetter_24 rfl rfl rfl ?_
  refine X_dup (pc' := 26) dX3_addLetter_25 rfl rfl ?_
  refine X_get (pc' := 29) (v := .int _) dX3_addLetter_26 rfl (gf_X3_28 _ rfl) o_W_4 rfl rfl ?_
  refine X_eqi (nI (pn q.2.2.1)) (d4) ?_
  refine X_iconst (pc' := 30) (v := nI 1) dX3_addLetter_29 rfl (by decide) ?_
  refine X_iadd (pc' := 31) dX3_addLetter_30 rfl ?_
  refine X_eqi (nI (pn q.2.2.1 + 1)) (nI_add _ _) ?_
  refine X_putI (pc' := 34) dX3_addLetter_31 rfl (pf_X3_28 _ rfl) o_W_4 rfl ?_
  refine X_rv dX3_addLetter_34 rfl ⟨rfl, rfl⟩ ?_
  rfl
theorem c_takesKind (τ : xT) {q : PS} (h : Rd τ q) (ho : Rok q) (hq : q.1 = 5) {c : Nat} : CI cx m_X1_takesKind [.ref 3, .int (oI (fig c))] PW τ (fun v τ' => xeq rdR τ τ' ∧ RdQ τ' v (rdS q c)) := by
  obtain ⟨st, a, P, w⟩ := q
  have hq : st = 5 := hq
  subst hq
  have hn6 : pn P < 6 := ho.2.2.2.2.2.2.2.2.1 (Or.inr rfl)
  obtain ⟨d0, d1, d2, d3, d4, d5, d6, d7⟩ := id h
  refine Ct_of (by decide) (Nat.le_of_ble_eq_true rfl) (lv := [(0, _), (1, _)]) rfl ?_
  rcases hf : fig c with _ | f
  · refine X_iload_n (i := 1) (pc' := 1) dX1_takesKind_0 rfl rfl rfl ?_
    refine X_if_lt (pc' := 4) (tgt := 12) dX1_takesKind_1 rfl (by decide) (fun h_1 => ?_) (fun h_1 => absurd (by decide) h_1)
    refine X_iconst (pc' := 13) (v := nI 0) dX1_takesKind_12 rfl (by decide) ?_
    refine X_rz dX1_takesKind_13 rfl (rfl) ⟨rfl, rfl⟩ ?_
    exact ⟨xeq.rf, Or.inl ⟨by simp only [rdS, hf], rfl⟩⟩
  · have hf9 := fig_le hf
    have h1 : nI f < nI 4 ↔ f < 4 := nI_ltI (by omega) (by decide)
    refine X_iload_n (i := 1) (pc' := 1) dX1_takesKind_0 rfl rfl rfl ?_
    refine X_if_lt (pc' := 4) (tgt := 12) dX1_takesKind_1 rfl (by decide) (fun h_1 => absurd h_1 (nI_pos (by omega))) (fun h_1 => ?_)
    refine X_iload_n (i := 1) (pc' := 5) dX1_takesKind_4 rfl rfl rfl ?_
    refine X_gets (pc' := 8) dX1_takesKind_5 rfl gs_X1_66 ?_
    refine X_alen (kd := 0) (pc' := 9) dX1_takesKind_8 rfl (Or.inr ⟨rfl, rfl⟩) ?_
    refine X_icmp_lt (pc' := 12) (tgt := 14) dX1_takesKind_9 rfl (by decide) (fun h_9 => ?_) (fun h_9 => ?_)
    · refine X_aload_n (i := 0) (pc' := 15) dX1_takesKind_14 rfl rfl rfl ?_
      refine X_get (pc' := 18) (v := .ref 4) dX1_takesKind_15 rfl (gf_X1_12 _ rfl) o_W_3 rfl rfl ?_
      refine X_aload_n (i := 0) (pc' := 19) dX1_takesKind_18 rfl rfl rfl ?_
      refine X_get (pc' := 22) (v := .int _) dX1_takesKind_19 rfl (gf_X1_63 _ rfl) o_W_3 rfl rfl ?_
      refine X_eqi (nI a) (d1 (Or.inl rfl)) ?_
      refine X_iload_n (i := 1) (pc' := 23) dX1_takesKind_22 rfl rfl rfl ?_
      refine X_OV (As := [_, _]) (rest := []) (pc' := 26) dX1_takesKind_23 rfl k_X3_addLetter l_X1_70 v_X3_addLetter o_W_4 rfl ⟨by decide, by decide⟩ rfl rfl (Nat.le_of_ble_eq_true rfl) (c_addLetter cx τ h hn6) (fun τ_23 h_23 => ?_)
      subst h_23
      refine X_aload_n (i := 0) (pc' := 27) dX1_takesKind_26 rfl rfl rfl ?_
      refine X_iconst (pc' := 28) (v := nI 3) dX1_takesKind_27 rfl (by decide) ?_
      refine X_putI (pc' := 31) dX1_takesKind_28 rfl (pf_X1_21 _ rfl) o_W_3 rfl ?_
      refine X_iconst (pc' := 32) (v := nI 1) dX1_takesKind_31 rfl (by decide) ?_
      refine X_rz dX1_takesKind_32 rfl (rfl) ⟨rfl, rfl⟩ ?_
      have hf3 := h1.mp h_9
      refine ⟨(((xeq.rf.si (by decide)).si (by decide)).si (by decide)).si (by decide), Or.inr ⟨_, by simp only [rdS, hf]; exact if_pos (by omega), rfl, ?_⟩⟩
      have hn : pn ((5, a, P, w) : PS).2.2.1 = pn P := rfl
      refine ⟨by simp [xsi, upd], fun e => by simp at e, by simp [xsi, upd]; exact d2, by simp [xsi, upd]; exact d3, by simp [xsi, upd], fun i hi => ?_, fun i hi => ?_, fun i hi => ?_⟩
      · have hi : i < pn P + 1 := hi
        show _ = nI (nset w (pn P) a i)
        by_cases hin : i = pn P
        · subst hin; simp [xsi, upd, nset]
        · simp [xsi, upd, nset, hin]; exact d5 i (by show i < pn P; omega)
      · have hi : i < pn P + 1 := hi
        show _ = nI (nset (pk P) (pn P) f i)
        by_cases hin : i = pn P
        · subst hin; simp [xsi, upd, nset]
        · simp [xsi, upd, nset, hin]; exact d6 i (by show i < pn P; omega)
      · simp [xsi]; exact d7 i hi
    · refine X_iconst (pc' := 13) (v := nI 0) dX1_takesKind_12 rfl (by decide) ?_
      refine X_rz dX1_takesKind_13 rfl (rfl) ⟨rfl, rfl⟩ ?_
      exact ⟨xeq.rf, Or.inl ⟨by simp only [rdS, hf]; exact if_neg (fun q => h_9 (h1.mpr (by omega))), rfl⟩⟩
theorem c_takesExplainer (τ : xT) {q : PS} (h : Rd τ q) (ho : Rok q) (hq : q.1 = 6) {c : Nat} : CI cx m_X1_takesExplainer [.ref 3, .int (oI (fig c))] PW τ (fun v τ' => xeq rdR τ τ' ∧ RdQ τ' v (rdS q c)) := by
  obtain ⟨st, a, P, w⟩ := q
  have hq : st = 6 := hq
  subst hq
  obtain ⟨d0, d1, d2, d3, d4, d5, d6, d7⟩ := id h
  refine Ct_of (by decide) (Nat.le_of_ble_eq_true rfl) (lv := [(0, _), (1, _)]) rfl ?_
  rcases hf : fig c with _ | f
  · refine X_aload_n (i := 0) (pc' := 1) dX1_takesExplainer_0 rfl rfl rfl ?_
    refine X_iload_n (i := 1) (pc' := 2) dX1_takesExplainer_1 rfl rfl rfl ?_
    refine X_putI (pc' := 5) dX1_takesExplainer_2 rfl (pf_X1_63 _ rfl) o_W_3 rfl ?_
    refine X_aload_n (i := 0) (pc' := 6) dX1_takesExplainer_5 rfl rfl rfl ?_
    refine X_bipush (pc' := 8) (v := nI 7) dX1_takesExplainer_6 rfl (by decide) ?_
    refine X_putI (pc' := 11) dX1_takesExplainer_8 rfl (pf_X1_21 _ rfl) o_W_3 rfl ?_
    refine X_aload_n (i := 0) (pc' := 12) dX1_takesExplainer_11 rfl rfl rfl ?_
    refine X_iload_n (i := 1) (pc' := 13) dX1_takesExplainer_12 rfl rfl rfl ?_
    refine X_OIp (As := [_]) (rest := []) (pc' := 16) dX1_takesExplainer_13 rfl k_X1_isOpen l_X1_74 v_X1_isOpen o_W_3 rfl ⟨by decide, by decide⟩ rfl rfl (Nat.le_of_ble_eq_true rfl) (c_isOpenN cx _) ?_
    refine X_rz dX1_takesExplainer_16 rfl (rfl) ⟨rfl, rfl⟩ ?_
    refine ⟨(xeq.rf.si (by decide)).si (by decide), Or.inl ⟨by simp only [rdS, hf], rfl⟩⟩
  · have hf9 := fig_le hf
    have g7 : Rd (xsi (xsi τ 3 2 (nI f)) 3 1 (nI 7)) (7, f, P, w) := ⟨by simp [xsi, upd], fun _ => by simp [xsi, upd], d2, d3, d4, d5, d6, d7⟩
    refine X_aload_n (i := 0) (pc' := 1) dX1_takesExplainer_0 rfl rfl rfl ?_
    refine X_iload_n (i := 1) (pc' := 2) dX1_takesExplainer_1 rfl rfl rfl ?_
    refine X_putI (pc' := 5) dX1_takesExplainer_2 rfl (pf_X1_63 _ rfl) o_W_3 rfl ?_
    refine X_aload_n (i := 0) (pc' := 6) dX1_takesExplainer_5 rfl rfl rfl ?_
    refine X_bipush (pc' := 8) (v := nI 7) dX1_takesExplainer_6 rfl (by decide) ?_
    refine X_putI (pc' := 11) dX1_takesExplainer_8 rfl (pf_X1_21 _ rfl) o_W_3 rfl ?_
    refine X_aload_n (i := 0) (pc' := 12) dX1_takesExplainer_11 rfl rfl rfl ?_
    refine X_iload_n (i := 1) (pc' := 13) dX1_takesExplainer_12 rfl rfl rfl ?_
    refine X_OIp (As := [_]) (rest := []) (pc' := 16) dX1_takesExplainer_13 rfl k_X1_isOpen l_X1_74 v_X1_isOpen o_W_3 rfl ⟨by decide, by decide⟩ rfl rfl (Nat.le_of_ble_eq_true rfl) (c_isOpen cx _ g7 ho.1 ho.2.2.2.2.1 (l := f) (by omega)) ?_
    refine X_rz dX1_takesExplainer_16 rfl (zI_nar) ⟨rfl, rfl⟩ ?_
    refine ⟨(xeq.rf.si (by decide)).si (by decide), ?_⟩
    simp only [rdS, hf]
    by_cases hop : isOp P f
    · exact Or.inr ⟨_, if_pos hop, zI_t hop, g7⟩
    · exact Or.inl ⟨if_neg hop, zI_f hop⟩
theorem c_takesExplained (τ : xT) {q : PS} (h : Rd τ q) (ho : Rok q) (hq : q.1 = 7) {c : Nat} : CI cx m_X1_takesExplained [.ref 3, .int (oI (fig c))] PW τ (fun v τ' => xeq rdR τ τ' ∧ RdQ τ' v (rdS q c)) := by
  obtain ⟨st, a, P, w⟩ := q
  have hq : st = 7 := hq
  subst hq
  have ha : a < pn P := ho.2.2.2.2.2.2.2.2.2 rfl
  have hn6 : pn P ≤ 6 := ho.1
  have hx64 : ∀ k, k < 6 → px P k < 64 := ho.2.2.2.2.1
  obtain ⟨d0, d1, d2, d3, d4, d5, d6, d7⟩ := id h
  have d1 : τ.1 3 2 = nI a := d1 (Or.inr rfl)
  refine Ct_of (by decide) (Nat.le_of_ble_eq_true rfl) (lv := [(0, _), (1, _)]) rfl ?_
  rcases hf : fig c with _ | f
  · refine X_aload_n (i := 0) (pc' := 1) dX1_takesExplained_0 rfl rfl rfl ?_
    refine X_get (pc' := 4) (v := .ref 4) dX1_takesExplained_1 rfl (gf_X1_12 _ rfl) o_W_3 rfl rfl ?_
    refine X_get (pc' := 7) (v := .ref 7) dX1_takesExplained_4 rfl (gf_X1_77 _ rfl) o_W_4 rfl rfl ?_
    refine X_iload_n (i := 1) (pc' := 8) dX1_takesExplained_7 rfl rfl rfl ?_
    refine X_NIp (As := [_, _]) (rest := []) (pc' := 11) dX1_takesExplained_8 rfl k_X4_at l_X1_80 s_X4_at ⟨by decide, by decide⟩ rfl rfl (Nat.le_of_ble_eq_true rfl) (c_X4_at cx τ 7 6 (Or.inl r_W_7) _) ?_
    refine X_istore_n (i := 2) (pc' := 12) (lv' := [(2, _), (0, _), (1, _)]) dX1_takesExplained_11 rfl rfl (Nat.le_of_ble_eq_true rfl) rfl ?_
    refine X_iload_n (i := 1) (pc' := 13) dX1_takesExplained_12 rfl rfl rfl ?_
    refine X_if_lt (pc' := 16) (tgt := 46) dX1_takesExplained_13 rfl (by decide) (fun h_13 => ?_) (fun h_13 => absurd (by decide) h_13)
    refine X_iconst (pc' := 47) (v := nI 0) dX1_takesExplained_46 rfl (by decide) ?_
    refine X_rz dX1_takesExplained_47 rfl (rfl) ⟨rfl, rfl⟩ ?_
    exact ⟨xeq.rf, Or.inl ⟨by simp only [rdS, hf], rfl⟩⟩
  · have hf9 := fig_le hf
    by_cases hfn : f < pn P
    · have hxf := hx64 f (by omega)
      have h2a : 2 ^ a < 2 ^ 6 := pow_lt (by omega)
      have hor : px P f ||| 2 ^ a < 2 ^ 6 := Nat.or_lt_two_pow (by omega) h2a
      refine X_aload_n (i := 0) (pc' := 1) dX1_takesExplained_0 rfl rfl rfl ?_
      refine X_get (pc' := 4) (v := .ref 4) dX1_takesExplained_1 rfl (gf_X1_12 _ rfl) o_W_3 rfl rfl ?_
      refine X_get (pc' := 7) (v := .ref 7) dX1_takesExplained_4 rfl (gf_X1_77 _ rfl) o_W_4 rfl rfl ?_
      refine X_iload_n (i := 1) (pc' := 8) dX1_takesExplained_7 rfl rfl rfl ?_
      refine X_NIp (As := [_, _]) (rest := []) (pc' := 11) dX1_takesExplained_8 rfl k_X4_at l_X1_80 s_X4_at ⟨by decide, by decide⟩ rfl rfl (Nat.le_of_ble_eq_true rfl) (c_at_in cx τ (Or.inl r_W_7) (show f < 6 by omega)) ?_
      refine X_eqi (nI (px P f)) (d7 f (by omega)) ?_
      refine X_istore_n (i := 2) (pc' := 12) (lv' := [(2, _), (0, _), (1, _)]) dX1_takesExplained_11 rfl rfl (Nat.le_of_ble_eq_true rfl) rfl ?_
      refine X_iload_n (i := 1) (pc' := 13) dX1_takesExplained_12 rfl rfl rfl ?_
      refine X_if_lt (pc' := 16) (tgt := 46) dX1_takesExplained_13 rfl (by decide) (fun h_13 => absurd h_13 (nI_pos (by omega))) (fun h_13 => ?_)
      refine X_iload_n (i := 1) (pc' := 17) dX1_takesExplained_16 rfl rfl rfl ?_
      refine X_aload_n (i := 0) (pc' := 18) dX1_takesExplained_17 rfl rfl rfl ?_
      refine X_get (pc' := 21) (v := .ref 4) dX1_takesExplained_18 rfl (gf_X1_12 _ rfl) o_W_3 rfl rfl ?_
      refine X_get (pc' := 24) (v := .int _) dX1_takesExplained_21 rfl (gf_X1_56 _ rfl) o_W_4 rfl rfl ?_
      refine X_eqi (nI (pn P)) (d4) ?_
      refine X_icmp_ge (pc' := 27) (tgt := 46) dX1_takesExplained_24 rfl (by decide) (fun h_24 => absurd h_24 (nI_ge hfn (by omega))) (fun h_24 => ?_)
      refine X_iload_n (i := 1) (pc' := 28) dX1_takesExplained_27 rfl rfl rfl ?_
      refine X_aload_n (i := 0) (pc' := 29) dX1_takesExplained_28 rfl rfl rfl ?_
      refine X_get (pc' := 32) (v := .int _) dX1_takesExplained_29 rfl (gf_X1_63 _ rfl) o_W_3 rfl rfl ?_
      refine X_eqi (nI a) (d1) ?_
      refine X_icmp_eq (pc' := 35) (tgt := 46) dX1_takesExplained_32 rfl (by decide) (fun h_32 => ?_) (fun h_32 => ?_)
      · refine X_iconst (pc' := 47) (v := nI 0) dX1_takesExplained_46 rfl (by decide) ?_
        refine X_rz dX1_takesExplained_47 rfl (rfl) ⟨rfl, rfl⟩ ?_
        refine ⟨xeq.rf, Or.inl ⟨?_, rfl⟩⟩
        simp only [rdS, hf]
        first
          | (have hb := zI_1 h_43
             exact if_neg (fun g => g.2.2 hb))
          | (have he : f = a := (nI_eq (by omega) (by omega)).mp h_32
             exact if_neg (fun g => g.2.1 he))
      · refine X_iload_n (i := 2) (pc' := 36) dX1_takesExplained_35 rfl rfl rfl ?_
        refine X_aload_n (i := 0) (pc' := 37) dX1_takesExplained_36 rfl rfl rfl ?_
        refine X_get (pc' := 40) (v := .int _) dX1_takesExplained_37 rfl (gf_X1_63 _ rfl) o_W_3 rfl rfl ?_
        refine X_eqi (nI a) (d1) ?_
        refine X_NIp (As := [_, _]) (rest := []) (pc' := 43) dX1_takesExplained_40 rfl k_X4_has l_X1_84 s_X4_has ⟨by decide, by decide⟩ rfl rfl (Nat.le_of_ble_eq_true rfl) (c_X4_has cx τ (px P f) a (by omega) (by omega)) ?_
        refine X_if_eq (pc' := 46) (tgt := 48) dX1_takesExplained_43 rfl (by decide) (fun h_43 => ?_) (fun h_43 => ?_)
        · refine X_aload_n (i := 0) (pc' := 49) dX1_takesExplained_48 rfl rfl rfl ?_
          refine X_get (pc' := 52) (v := .ref 4) dX1_takesExplained_49 rfl (gf_X1_12 _ rfl) o_W_3 rfl rfl ?_
          refine X_get (pc' := 55) (v := .ref 7) dX1_takesExplained_52 rfl (gf_X1_77 _ rfl) o_W_4 rfl rfl ?_
          refine X_iload_n (i := 1) (pc' := 56) dX1_takesExplained_55 rfl rfl rfl ?_
          refine X_iload_n (i := 2) (pc' := 57) dX1_takesExplained_56 rfl rfl rfl ?_
          refine X_aload_n (i := 0) (pc' := 58) dX1_takesExplained_57 rfl rfl rfl ?_
          refine X_get (pc' := 61) (v := .int _) dX1_takesExplained_58 rfl (gf_X1_63 _ rfl) o_W_3 rfl rfl ?_
          refine X_eqi (nI a) (d1) ?_
          refine X_NIp (As := [_]) (rest := [_, _, _]) (pc' := 64) dX1_takesExplained_61 rfl k_X4_bit l_X1_88 s_X4_bit ⟨by decide, by decide⟩ rfl rfl (Nat.le_of_ble_eq_true rfl) (c_X4_bit cx τ a (by omega)) ?_
          refine X_ior (pc' := 65) dX1_takesExplained_64 rfl ?_
          refine X_eqi (nI (px P f ||| 2 ^ a)) (nI_or (by omega) (by omega)) ?_
          refine X_NV (As := [_, _, _]) (rest := []) (pc' := 68) dX1_takesExplained_65 rfl k_X4_put l_X1_92 s_X4_put ⟨by decide, by decide⟩ rfl rfl (Nat.le_of_ble_eq_true rfl) (c_X4_put cx τ r_W_7 (show f < 6 by omega) _) (fun τ_65 h_65 => ?_)
          subst h_65
          refine X_aload_n (i := 0) (pc' := 69) dX1_takesExplained_68 rfl rfl rfl ?_
          refine X_iconst (pc' := 70) (v := nI 3) dX1_takesExplained_69 rfl (by decide) ?_
          refine X_putI (pc' := 73) dX1_takesExplained_70 rfl (pf_X1_21 _ rfl) o_W_3 rfl ?_
          refine X_iconst (pc' := 74) (v := nI 1) dX1_takesExplained_73 rfl (by decide) ?_
          refine X_rz dX1_takesExplained_74 rfl (rfl) ⟨rfl, rfl⟩ ?_
          refine ⟨(xeq.rf.si (by decide)).si (by decide), Or.inr ⟨_, by simp only [rdS, hf]; exact if_pos ⟨hfn, fun q => h_32 (by rw [q]; rfl), zI_0.mp h_43⟩, rfl, ?_⟩⟩
          refine ⟨by simp [xsi, upd], fun e => by simp at e, d2, d3, d4, d5, d6, fun i hi => ?_⟩
          show _ = nI (nset (px P) f (px P f ||| 2 ^ a) i)
          by_cases hin : i = f
          · subst hin; simp [xsi, upd, nset]
          · simp [xsi, upd, nset, hin]; exact d7 i hi
        · refine X_iconst (pc' := 47) (v := nI 0) dX1_takesExplained_46 rfl (by decide) ?_
          refine X_rz dX1_takesExplained_47 rfl (rfl) ⟨rfl, rfl⟩ ?_
          refine ⟨xeq.rf, Or.inl ⟨?_, rfl⟩⟩
          simp only [rdS, hf]
          first
            | (have hb := zI_1 h_43
               exact if_neg (fun g => g.2.2 hb))
            | (have he : f = a := (nI_eq (by omega) (by omega)).mp h_32
               exact if_neg (fun g => g.2.1 he))
    · refine X_aload_n (i := 0) (pc' := 1) dX1_takesExplained_0 rfl rfl rfl ?_
      refine X_get (pc' := 4) (v := .ref 4) dX1_takesExplained_1 rfl (gf_X1_12 _ rfl) o_W_3 rfl rfl ?_
      refine X_get (pc' := 7) (v := .ref 7) dX1_takesExplained_4 rfl (gf_X1_77 _ rfl) o_W_4 rfl rfl ?_
      refine X_iload_n (i := 1) (pc' := 8) dX1_takesExplained_7 rfl rfl rfl ?_
      refine X_NIp (As := [_, _]) (rest := []) (pc' := 11) dX1_takesExplained_8 rfl k_X4_at l_X1_80 s_X4_at ⟨by decide, by decide⟩ rfl rfl (Nat.le_of_ble_eq_true rfl) (c_X4_at cx τ 7 6 (Or.inl r_W_7) _) ?_
      refine X_istore_n (i := 2) (pc' := 12) (lv' := [(2, _), (0, _), (1, _)]) dX1_takesExplained_11 rfl rfl (Nat.le_of_ble_eq_true rfl) rfl ?_
      refine X_iload_n (i := 1) (pc' := 13) dX1_takesExplained_12 rfl rfl rfl ?_
      refine X_if_lt (pc' := 16) (tgt := 46) dX1_takesExplained_13 rfl (by decide) (fun h_13 => absurd h_13 (nI_pos (by omega))) (fun h_13 => ?_)
      refine X_iload_n (i := 1) (pc' := 17) dX1_takesExplained_16 rfl rfl rfl ?_
      refine X_aload_n (i := 0) (pc' := 18) dX1_takesExplained_17 rfl rfl rfl ?_
      refine X_get (pc' := 21) (v := .ref 4) dX1_takesExplained_18 rfl (gf_X1_12 _ rfl) o_W_3 rfl rfl ?_
      refine X_get (pc' := 24) (v := .int _) dX1_takesExplained_21 rfl (gf_X1_56 _ rfl) o_W_4 rfl rfl ?_
      refine X_eqi (nI (pn P)) (d4) ?_
      refine X_icmp_ge (pc' := 27) (tgt := 46) dX1_takesExplained_24 rfl (by decide) (fun h_24 => ?_) (fun h_24 => absurd (nI_le (by omega) (by omega)) h_24)
      refine X_iconst (pc' := 47) (v := nI 0) dX1_takesExplained_46 rfl (by decide) ?_
      refine X_rz dX1_takesExplained_47 rfl (rfl) ⟨rfl, rfl⟩ ?_
      exact ⟨xeq.rf, Or.inl ⟨by simp only [rdS, hf]; exact if_neg (fun q => hfn q.1), rfl⟩⟩
theorem l_takes (τ : xT) {q : PS} (h : Rd τ q) (ho : Rok q) {c : Nat} (hc : c < 256) : X cx m_X1_takes PW (qI PW (fun v τ' => xeq rdR τ τ' ∧ RdQ τ' v (rdS q c))) 20 [(0, .ref 3), (1, .int (nI c))] [.int (oI (fig c))] PW τ := by
  have hd0 := h.1
  have h7 : q.1 ≤ 7 := ho.2.2.2.2.2.2.1
  have hq8 : q.1 = 0 ∨ q.1 = 1 ∨ q.1 = 2 ∨ q.1 = 3 ∨ q.1 = 4 ∨ q.1 = 5 ∨ q.1 = 6 ∨ q.1 = 7 := by omega
  rcases hq8 with hq | hq | hq | hq | hq | hq | hq | hq
  · refine X_istore_n (i := 2) (pc' := 21) (lv' := [(2, _), (0, _), (1, _)]) dX1_takes_20 rfl rfl (Nat.le_of_ble_eq_true rfl) rfl ?_
    refine X_aload_n (i := 0) (pc' := 22) dX1_takes_21 rfl rfl rfl ?_
    refine X_get (pc' := 25) (v := .int _) dX1_takes_22 rfl (gf_X1_21 _ rfl) o_W_3 rfl rfl ?_
    refine X_eqi (nI 0) (hd0.trans (by rw [hq])) ?_
    refine X_tabIn (pc' := 0) (off := 47) (tgt := 72) dX1_takes_25 (by decide) (by decide) rfl (by decide) ?_
    refine X_aload_n (i := 0) (pc' := 73) dX1_takes_72 rfl rfl rfl ?_
    refine X_iload_n (i := 1) (pc' := 74) dX1_takes_73 rfl rfl rfl ?_
    refine X_OI (As := [_]) (rest := []) (pc' := 77) dX1_takes_74 rfl k_X1_takesHead l_X1_25 v_X1_takesHead o_W_3 rfl ⟨by decide, by decide⟩ rfl rfl (Nat.le_of_ble_eq_true rfl) (c_takesHead cx τ h hq (by omega)) (fun x_74 τ_74 h_74 => ?_)
    refine X_rz dX1_takes_77 rfl (RdQ_nar h_74.2) ⟨rfl, rfl⟩ ?_
    exact h_74
  · refine X_istore_n (i := 2) (pc' := 21) (lv' := [(2, _), (0, _), (1, _)]) dX1_takes_20 rfl rfl (Nat.le_of_ble_eq_true rfl) rfl ?_
    refine X_aload_n (i := 0) (pc' := 22) dX1_takes_21 rfl rfl rfl ?_
    refine X_get (pc' := 25) (v := .int _) dX1_takes_22 rfl (gf_X1_21 _ rfl) o_W_3 rfl rfl ?_
    refine X_eqi (nI 1) (hd0.trans (by rw [hq])) ?_
    refine X_tabIn (pc' := 0) (off := 53) (tgt := 78) dX1_takes_25 (by decide) (by decide) rfl (by decide) ?_
    refine X_aload_n (i := 0) (pc' := 79) dX1_takes_78 rfl rfl rfl ?_
    refine X_iload_n (i := 2) (pc' := 80) dX1_takes_79 rfl rfl rfl ?_
    refine X_OI (As := [_]) (rest := []) (pc' := 83) dX1_takes_80 rfl k_X1_takesPardon l_X1_29 v_X1_takesPardon o_W_3 rfl ⟨by decide, by decide⟩ rfl rfl (Nat.le_of_ble_eq_true rfl) (c_takesPardon cx τ h hq) (fun x_80 τ_80 h_80 => ?_)
    refine X_rz dX1_takes_83 rfl (RdQ_nar h_80.2) ⟨rfl, rfl⟩ ?_
    exact h_80
  · refine X_istore_n (i := 2) (pc' := 21) (lv' := [(2, _), (0, _), (1, _)]) dX1_takes_20 rfl rfl (Nat.le_of_ble_eq_true rfl) rfl ?_
    refine X_aload_n (i := 0) (pc' := 22) dX1_takes_21 rfl rfl rfl ?_
    refine X_get (pc' := 25) (v := .int _) dX1_takes_22 rfl (gf_X1_21 _ rfl) o_W_3 rfl rfl ?_
    refine X_eqi (nI 2) (hd0.trans (by rw [hq])) ?_
    refine X_tabIn (pc' := 0) (off := 59) (tgt := 84) dX1_takes_25 (by decide) (by decide) rfl (by decide) ?_
    refine X_aload_n (i := 0) (pc' := 85) dX1_takes_84 rfl rfl rfl ?_
    refine X_iload_n (i := 2) (pc' := 86) dX1_takes_85 rfl rfl rfl ?_
    refine X_OI (As := [_]) (rest := []) (pc' := 89) dX1_takes_86 rfl k_X1_takesRoom l_X1_32 v_X1_takesRoom o_W_3 rfl ⟨by decide, by decide⟩ rfl rfl (Nat.le_of_ble_eq_true rfl) (c_takesRoom cx τ h hq) (fun x_86 τ_86 h_86 => ?_)
    refine X_rz dX1_takes_89 rfl (RdQ_nar h_86.2) ⟨rfl, rfl⟩ ?_
    exact h_86
  · refine X_istore_n (i := 2) (pc' := 21) (lv' := [(2, _), (0, _), (1, _)]) dX1_takes_20 rfl rfl (Nat.le_of_ble_eq_true rfl) rfl ?_
    refine X_aload_n (i := 0) (pc' := 22) dX1_takes_21 rfl rfl rfl ?_
    refine X_get (pc' := 25) (v := .int _) dX1_takes_22 rfl (gf_X1_21 _ rfl) o_W_3 rfl rfl ?_
    refine X_eqi (nI 3) (hd0.trans (by rw [hq])) ?_
    refine X_tabIn (pc' := 0) (off := 65) (tgt := 90) dX1_takes_25 (by decide) (by decide) rfl (by decide) ?_
    refine X_aload_n (i := 0) (pc' := 91) dX1_takes_90 rfl rfl rfl ?_
    refine X_iload_n (i := 1) (pc' := 92) dX1_takes_91 rfl rfl rfl ?_
    refine X_OI (As := [_]) (rest := []) (pc' := 95) dX1_takes_92 rfl k_X1_takesPart l_X1_35 v_X1_takesPart o_W_3 rfl ⟨by decide, by decide⟩ rfl rfl (Nat.le_of_ble_eq_true rfl) (c_takesPart cx τ h ho hq (by omega)) (fun x_92 τ_92 h_92 => ?_)
    refine X_rz dX1_takes_95 rfl (RdQ_nar h_92.2) ⟨rfl, rfl⟩ ?_
    exact h_92
  · refine X_istore_n (i := 2) (pc' := 21) (lv' := [(2, _), (0, _), (1, _)]) dX1_takes_20 rfl rfl (Nat.le_of_ble_eq_true rfl) rfl ?_
    refine X_aload_n (i := 0) (pc' := 22) dX1_takes_21 rfl rfl rfl ?_
    refine X_get (pc' := 25) (v := .int _) dX1_takes_22 rfl (gf_X1_21 _ rfl) o_W_3 rfl rfl ?_
    refine X_eqi (nI 4) (hd0.trans (by rw [hq])) ?_
    refine X_tabIn (pc' := 0) (off := 71) (tgt := 96) dX1_takes_25 (by decide) (by decide) rfl (by decide) ?_
    refine X_aload_n (i := 0) (pc' := 97) dX1_takes_96 rfl rfl rfl ?_
    refine X_iload_n (i := 2) (pc' := 98) dX1_takes_97 rfl rfl rfl ?_
    refine X_OI (As := [_]) (rest := []) (pc' := 101) dX1_takes_98 rfl k_X1_takesWaited l_X1_38 v_X1_takesWaited o_W_3 rfl ⟨by decide, by decide⟩ rfl rfl (Nat.le_of_ble_eq_true rfl) (c_takesWaited cx τ h hq) (fun x_98 τ_98 h_98 => ?_)
    refine X_rz dX1_takes_101 rfl (RdQ_nar h_98.2) ⟨rfl, rfl⟩ ?_
    exact h_98
  · refine X_istore_n (i := 2) (pc' := 21) (lv' := [(2, _), (0, _), (1, _)]) dX1_takes_20 rfl rfl (Nat.le_of_ble_eq_true rfl) rfl ?_
    refine X_aload_n (i := 0) (pc' := 22) dX1_takes_21 rfl rfl rfl ?_
    refine X_get (pc' := 25) (v := .int _) dX1_takes_22 rfl (gf_X1_21 _ rfl) o_W_3 rfl rfl ?_
    refine X_eqi (nI 5) (hd0.trans (by rw [hq])) ?_
    refine X_tabIn (pc' := 0) (off := 77) (tgt := 102) dX1_takes_25 (by decide) (by decide) rfl (by decide) ?_
    refine X_aload_n (i := 0) (pc' := 103) dX1_takes_102 rfl rfl rfl ?_
    refine X_iload_n (i := 2) (pc' := 104) dX1_takes_103 rfl rfl rfl ?_
    refine X_OI (As := [_]) (rest := []) (pc' := 107) dX1_takes_104 rfl k_X1_takesKind l_X1_41 v_X1_takesKind o_W_3 rfl ⟨by decide, by decide⟩ rfl rfl (Nat.le_of_ble_eq_true rfl) (c_takesKind cx τ h ho hq) (fun x_104 τ_104 h_104 => ?_)
    refine X_rz dX1_takes_107 rfl (RdQ_nar h_104.2) ⟨rfl, rfl⟩ ?_
    exact h_104
  · refine X_istore_n (i := 2) (pc' := 21) (lv' := [(2, _), (0, _), (1, _)]) dX1_takes_20 rfl rfl (Nat.le_of_ble_eq_true rfl) rfl ?_
    refine X_aload_n (i := 0) (pc' := 22) dX1_takes_21 rfl rfl rfl ?_
    refine X_get (pc' := 25) (v := .int _) dX1_takes_22 rfl (gf_X1_21 _ rfl) o_W_3 rfl rfl ?_
    refine X_eqi (nI 6) (hd0.trans (by rw [hq])) ?_
    refine X_tabIn (pc' := 0) (off := 83) (tgt := 108) dX1_takes_25 (by decide) (by decide) rfl (by decide) ?_
    refine X_aload_n (i := 0) (pc' := 109) dX1_takes_108 rfl rfl rfl ?_
    refine X_iload_n (i := 2) (pc' := 110) dX1_takes_109 rfl rfl rfl ?_
    refine X_OI (As := [_]) (rest := []) (pc' := 113) dX1_takes_110 rfl k_X1_takesExplainer l_X1_44 v_X1_takesExplainer o_W_3 rfl ⟨by decide, by decide⟩ rfl rfl (Nat.le_of_ble_eq_true rfl) (c_takesExplainer cx τ h ho hq) (fun x_110 τ_110 h_110 => ?_)
    refine X_rz dX1_takes_113 rfl (RdQ_nar h_110.2) ⟨rfl, rfl⟩ ?_
    exact h_110
  · refine X_istore_n (i := 2) (pc' := 21) (lv' := [(2, _), (0, _), (1, _)]) dX1_takes_20 rfl rfl (Nat.le_of_ble_eq_true rfl) rfl ?_
    refine X_aload_n (i := 0) (pc' := 22) dX1_takes_21 rfl rfl rfl ?_
    refine X_get (pc' := 25) (v := .int _) dX1_takes_22 rfl (gf_X1_21 _ rfl) o_W_3 rfl rfl ?_
    refine X_eqi (nI 7) (hd0.trans (by rw [hq])) ?_
    refine X_tabIn (pc' := 0) (off := 89) (tgt := 114) dX1_takes_25 (by decide) (by decide) rfl (by decide) ?_
    refine X_aload_n (i := 0) (pc' := 115) dX1_takes_114 rfl rfl rfl ?_
    refine X_iload_n (i := 2) (pc' := 116) dX1_takes_115 rfl rfl rfl ?_
    refine X_OI (As := [_]) (rest := []) (pc' := 119) dX1_takes_116 rfl k_X1_takesExplained l_X1_47 v_X1_takesExplained o_W_3 rfl ⟨by decide, by decide⟩ rfl rfl (Nat.le_of_ble_eq_true rfl) (c_takesExplained cx τ h ho hq) (fun x_116 τ_116 h_116 => ?_)
    refine X_rz dX1_takes_119 rfl (RdQ_nar h_116.2) ⟨rfl, rfl⟩ ?_
    exact h_116
theorem c_takes (τ : xT) {q : PS} (h : Rd τ q) (ho : Rok q) {c : Nat} (hc : c < 256) : CI cx m_X1_takes [.ref 3, .int (nI c)] PW τ (fun v τ' => xeq rdR τ τ' ∧ RdQ τ' v (rdS q c)) := by
  have hd0 := h.1
  have h7 : q.1 ≤ 7 := ho.2.2.2.2.2.2.1
  refine Ct_of (by decide) (Nat.le_of_ble_eq_true rfl) (lv := [(0, _), (1, _)]) rfl ?_
  have hsw : ¬ ((nI q.1).toInt < 0 ∨ (7 : Int) < (nI q.1).toInt) := by rw [nI_toInt (by omega)]; omega
  refine X_iload_n (i := 1) (pc' := 1) dX1_takes_0 rfl rfl rfl ?_
  refine X_bipush (pc' := 3) (v := nI 48) dX1_takes_1 rfl (by decide) ?_
  refine X_icmp_lt (pc' := 6) (tgt := 19) dX1_takes_3 rfl (by decide) (fun h_3 => ?_) (fun h_3 => ?_)
  · refine X_iconst (pc' := 20) (v := (-1)) dX1_takes_19 rfl (by decide) ?_
    have hfg : ∀ v : Int32, v = oI (fig c) → X cx m_X1_takes PW (qI PW (fun v τ' => xeq rdR τ τ' ∧ RdQ τ' v (rdS q c))) 20 [(0, .ref 3), (1, .int (nI c))] [.int v] PW τ := fun v hv => by subst hv; exact l_takes cx τ h ho hc
    refine hfg _ ?_
    have g1 : nI c < nI 48 ↔ c < 48 := nI_ltI (by omega) (by decide)
    have g2 : nI 57 < nI c ↔ 57 < c := nI_ltI (by decide) (by omega)
    unfold fig
    first
      | (rw [if_neg (fun q => by have := g1.mp h_3; omega)]; rfl)
      | (rw [if_neg (fun q => by have := g2.mp h_9; omega)]; rfl)
      | (have k1 : 48 ≤ c := by
           rcases Nat.lt_or_ge c 48 with r | r
           · exact absurd (g1.mpr r) h_3
           · exact r
         have k2 : c ≤ 57 := by
           rcases Nat.lt_or_ge 57 c with r | r
           · exact absurd (g2.mpr r) h_9
           · exact r
         rw [if_pos ⟨k1, k2⟩]
         exact pk_sub k1)
  · refine X_iload_n (i := 1) (pc' := 7) dX1_takes_6 rfl rfl rfl ?_
    refine X_bipush (pc' := 9) (v := nI 57) dX1_takes_7 rfl (by decide) ?_
    refine X_icmp_gt (pc' := 12) (tgt := 19) dX1_takes_9 rfl (by decide) (fun h_9 => ?_) (fun h_9 => ?_)
    · refine X_iconst (pc' := 20) (v := (-1)) dX1_takes_19 rfl (by decide) ?_
      have hfg : ∀ v : Int32, v = oI (fig c) → X cx m_X1_takes PW (qI PW (fun v τ' => xeq rdR τ τ' ∧ RdQ τ' v (rdS q c))) 20 [(0, .ref 3), (1, .int (nI c))] [.int v] PW τ := fun v hv => by subst hv; exact l_takes cx τ h ho hc
      refine hfg _ ?_
      have g1 : nI c < nI 48 ↔ c < 48 := nI_ltI (by omega) (by decide)
      have g2 : nI 57 < nI c ↔ 57 < c := nI_ltI (by decide) (by omega)
      unfold fig
      first
        | (rw [if_neg (fun q => by have := g1.mp h_3; omega)]; rfl)
        | (rw [if_neg (fun q => by have := g2.mp h_9; omega)]; rfl)
        | (have k1 : 48 ≤ c := by
             rcases Nat.lt_or_ge c 48 with r | r
             · exact absurd (g1.mpr r) h_3
             · exact r
           have k2 : c ≤ 57 := by
             rcases Nat.lt_or_ge 57 c with r | r
             · exact absurd (g2.mpr r) h_9
             · exact r
           rw [if_pos ⟨k1, k2⟩]
           exact pk_sub k1)
    · refine X_iload_n (i := 1) (pc' := 13) dX1_takes_12 rfl rfl rfl ?_
      refine X_bipush (pc' := 15) (v := nI 48) dX1_takes_13 rfl (by decide) ?_
      refine X_isub (pc' := 16) dX1_takes_15 rfl ?_
      refine X_goto (pc' := 0) (tgt := 20) dX1_takes_16 (by decide) ?_
      have hfg : ∀ v : Int32, v = oI (fig c) → X cx m_X1_takes PW (qI PW (fun v τ' => xeq rdR τ τ' ∧ RdQ τ' v (rdS q c))) 20 [(0, .ref 3), (1, .int (nI c))] [.int v] PW τ := fun v hv => by subst hv; exact l_takes cx τ h ho hc
      refine hfg _ ?_
      have g1 : nI c < nI 48 ↔ c < 48 := nI_ltI (by omega) (by decide)
      have g2 : nI 57 < nI c ↔ 57 < c := nI_ltI (by decide) (by omega)
      unfold fig
      first
        | (rw [if_neg (fun q => by have := g1.mp h_3; omega)]; rfl)
        | (rw [if_neg (fun q => by have := g2.mp h_9; omega)]; rfl)
        | (have k1 : 48 ≤ c := by
             rcases Nat.lt_or_ge c 48 with r | r
             · exact absurd (g1.mpr r) h_3
             · exact r
           have k2 : c ≤ 57 := by
             rcases Nat.lt_or_ge 57 c with r | r
             · exact absurd (g2.mpr r) h_9
             · exact r
           rw [if_pos ⟨k1, k2⟩]
           exact pk_sub k1)
theorem c_begin (τ : xT) : CV cx m_X1_begin [.ref 3] PW τ (fun τ' => xeq rdR τ τ' ∧ Rd τ' (0, 0, (0, 0, 1, fun _ => 0, fun _ => 0), fun _ => 0)) := by
  have hclear : CV cx m_X3_clear [.ref 4] PW τ (fun τ' => xeq [4, 7] τ τ' ∧ τ'.1 4 0 = nI 0 ∧ τ'.1 4 1 = nI 1 ∧ τ'.1 4 2 = nI 0 ∧ ∀ i, i < 6 → τ'.1 7 i = nI 0) := by
    refine Ct_of (by decide) (Nat.le_of_ble_eq_true rfl) (lv := [(0, _)]) rfl ?_
    refine X_aload_n (i := 0) (pc' := 1) dX3_clear_0 rfl rfl rfl ?_
    refine X_iconst (pc' := 2) (v := nI 0) dX3_clear_1 rfl (by decide) ?_
    refine X_putI (pc' := 5) dX3_clear_2 rfl (pf_X3_25 _ rfl) o_W_4 rfl ?_
    refine X_aload_n (i := 0) (pc' := 6) dX3_clear_5 rfl rfl rfl ?_
    refine X_iconst (pc' := 7) (v := nI 1) dX3_clear_6 rfl (by decide) ?_
    refine X_putI (pc' := 10) dX3_clear_7 rfl (pf_X3_9 _ rfl) o_W_4 rfl ?_
    refine X_aload_n (i := 0) (pc' := 11) dX3_clear_10 rfl rfl rfl ?_
    refine X_iconst (pc' := 12) (v := nI 0) dX3_clear_11 rfl (by decide) ?_
    refine X_putI (pc' := 15) dX3_clear_12 rfl (pf_X3_28 _ rfl) o_W_4 rfl ?_
    refine X_aload_n (i := 0) (pc' := 16) dX3_clear_15 rfl rfl rfl ?_
    refine X_get (pc' := 19) (v := .ref 7) dX3_clear_16 rfl (gf_X3_22 _ rfl) o_W_4 rfl rfl ?_
    refine X_iconst (pc' := 20) (v := nI 0) dX3_clear_19 rfl (by decide) ?_
    refine X_SV (As := [_, _]) (rest := []) (pc' := 23) dX3_clear_20 rfl k_J7_fill_53178 l_X3_31 s_J7_fill_53178 ⟨by decide, by decide⟩ rfl rfl (Nat.le_of_ble_eq_true rfl) (c_fillI cx _ r_W_7 (nI 0)) (fun τ_20 h_20 => ?_)
    refine X_rv dX3_clear_23 rfl ⟨rfl, rfl⟩ ?_
    have e := h_20.1 4 (by decide)
    refine ⟨(((xeq.rf.si (by decide)).si (by decide)).si (by decide)).tr (h_20.1.mono (by decide)), ?_, ?_, ?_, h_20.2⟩ <;> (rw [e.1]; simp [xsi, upd])
  refine Ct_of (by decide) (Nat.le_of_ble_eq_true rfl) (lv := [(0, _)]) rfl ?_
  refine X_aload_n (i := 0) (pc' := 1) dX1_begin_0 rfl rfl rfl ?_
  refine X_get (pc' := 4) (v := .ref 4) dX1_begin_1 rfl (gf_X1_12 _ rfl) o_W_3 rfl rfl ?_
  refine X_OV (As := []) (rest := []) (pc' := 7) dX1_begin_4 rfl k_X3_clear l_X1_18 v_X3_clear o_W_4 rfl ⟨by decide, by decide⟩ rfl rfl (Nat.le_of_ble_eq_true rfl) (hclear) (fun τ_4 h_4 => ?_)
  refine X_aload_n (i := 0) (pc' := 8) dX1_begin_7 rfl rfl rfl ?_
  refine X_iconst (pc' := 9) (v := nI 0) dX1_begin_8 rfl (by decide) ?_
  refine X_putI (pc' := 12) dX1_begin_9 rfl (pf_X1_21 _ rfl) o_W_3 rfl ?_
  refine X_rv dX1_begin_12 rfl ⟨rfl, rfl⟩ ?_
  obtain ⟨e, e0, e1, e2, e3⟩ := h_4
  exact ⟨(e.mono (by decide)).si (by decide), by rw [xsi_self, pk_us], fun e => by simp at e, e0, e1, e2, fun i hi => absurd hi (Nat.not_lt_zero i), fun i hi => absurd hi (Nat.not_lt_zero i), e3⟩
end RDR
