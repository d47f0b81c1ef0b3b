/-! ===== the model: the text read ===== -/
/-- what was read so far, in the model's places -/
def RG (τ : xT) (P : PT) (w : Nat → Nat) : Prop := τ.1 1 9 = nI (pn P) ∧ τ.1 1 10 = nI (pp P) ∧ τ.1 1 11 = nI (pr P) ∧ (∀ k, k < pn P → τ.1 5 k = nI (w k)) ∧ (∀ k, k < pn P → τ.1 6 k = nI (pk P k)) ∧ ∀ k, k < 6 → τ.1 7 k = nI (px P k)
def xrd (τ τ' : xT) : Prop := xeq [1, 5, 6, 7] τ τ' ∧ (∀ i, ¬ i ∈ [9, 10, 11, 14, 15] → τ'.1 1 i = τ.1 1 i) ∧ τ'.2.1 1 = τ.2.1 1
theorem xrd.rf {τ : xT} : xrd τ τ := ⟨xeq.rf, fun _ _ => rfl, rfl⟩
theorem xrd.tr {τ τ' τ2 : xT} (h : xrd τ τ') (h2 : xrd τ' τ2) : xrd τ τ2 := ⟨h.1.tr h2.1, fun i hi => (h2.2.1 i hi).trans (h.2.1 i hi), h2.2.2.trans h.2.2⟩
theorem xrd.s1 {τ τ' : xT} (h : xrd τ τ') (k : Nat) (v : Int32) (hk : k ∈ [9, 10, 11, 14, 15]) : xrd τ (xsi τ' 1 k v) := ⟨h.1.si (by decide), fun i hi => by rw [xsi_un _ _ (fun e => hi (by rw [e]; exact hk))]; exact h.2.1 i hi, h.2.2⟩
theorem xrd.sc {τ τ' : xT} (h : xrd τ τ') (c k : Nat) (v : Int32) (hc : c ∈ [5, 6, 7]) : xrd τ (xsi τ' c k v) := by
  have h1 : 1 ≠ c := by intro e; subst e; exact absurd hc (by decide)
  refine ⟨h.1.si ?_, fun i hi => by rw [xsi_ne _ _ _ h1]; exact h.2.1 i hi, h.2.2⟩
  simp at hc ⊢
  omega
theorem xrd.tx {τ τ' : xT} {T : Nat → Nat} {L : Nat} (h : xrd τ τ') (hX : TX τ T L) : TX τ' T L := ⟨by rw [h.2.1 13 (by decide)]; exact hX.1, fun j hj => by rw [(h.1 8 (by decide)).1]; exact hX.2.1 j hj, hX.2.2⟩
def Bad (T : Nat → Nat) (L j : Nat) : Prop := faultF T L = nI j ∧ ∀ q, rdP T L = .inl q → q.1 ≠ 3
theorem rdP_s {T : Nat → Nat} {i : Nat} {q : PS} (h : rdP T i = .inl q) : rdP T (i + 1) = match rdS q (T i) with | some q' => (Sum.inl q' : PS ⊕ Nat) | none => Sum.inr i := by
  show (match rdP T i with | .inr j => (Sum.inr j : PS ⊕ Nat) | .inl q => match rdS q (T i) with | some q' => Sum.inl q' | none => Sum.inr i) = _
  rw [h]
theorem bad_of {T : Nat → Nat} {L i : Nat} {q : PS} (h : rdP T i = .inl q) (hi : i ≤ L) (h3 : i < L ∨ q.1 ≠ 3) (hn : i < L → rdS q (T i) = none) : Bad T L i := by
  by_cases hl : i < L
  · have h1 := rdP_s h
    rw [hn hl] at h1
    have h2 := rdP_inr (L - (i + 1)) h1
    rw [show i + 1 + (L - (i + 1)) = L by omega] at h2
    refine ⟨?_, fun q' hq' => by rw [h2] at hq'; cases hq'⟩
    unfold faultF
    rw [h2]
  · have e : i = L := by omega
    subst e
    have hq3 : q.1 ≠ 3 := h3.elim (fun a => absurd a hl) id
    refine ⟨?_, fun q' hq' => by rw [h] at hq'; cases hq'; exact hq3⟩
    unfold faultF
    rw [h]
    exact if_neg hq3
theorem rdP_go {T : Nat → Nat} {i : Nat} {q q' : PS} (h : rdP T i = .inl q) (hs : rdS q (T i) = some q') : rdP T (i + 1) = .inl q' := by
  rw [rdP_s h, hs]
def RR (T : Nat → Nat) (L : Nat) (τ : xT) (x : Int32) (τ' : xT) : Prop := x = faultF T L ∧ xrd τ τ' ∧ ∀ q, rdP T L = .inl q → q.1 = 3 → RG τ' q.2.2.1 q.2.2.2 ∧ Rok q
theorem rdS4 {a c : Nat} {P : PT} {w : Nat → Nat} : rdS (4, a, P, w) c = match fig c with | some f => some (5, f, P, w) | none => none := rfl
theorem rdS5 {a c : Nat} {P : PT} {w : Nat → Nat} : rdS (5, a, P, w) c = match fig c with | some f => if f ≤ 3 then some (3, a, (pn P + 1, pp P, pr P, nset (pk P) (pn P) f, px P), nset w (pn P) a) else none | none => none := rfl
theorem rdS6 {a c : Nat} {P : PT} {w : Nat → Nat} : rdS (6, a, P, w) c = match fig c with | some f => if isOp P f then some (7, f, P, w) else none | none => none := rfl
theorem rdS7 {a c : Nat} {P : PT} {w : Nat → Nat} : rdS (7, a, P, w) c = match fig c with | some f => if f < pn P ∧ f ≠ a ∧ ¬ bt (px P f) a then some (3, a, (pn P, pp P, pr P, pk P, nset (px P) f (px P f ||| 2 ^ a)), w) else none | none => none := rfl
theorem rdS3 {a c : Nat} {P : PT} {w : Nat → Nat} : rdS (3, a, P, w) c = if c = 76 then (if pn P < 6 then some (4, a, P, w) else none) else if c = 69 ∧ hasOp P then some (6, a, P, w) else none := rfl
section MR
variable (cx : xC)
set_option maxHeartbeats 4000000
set_option maxRecDepth 100000
theorem l2_rexit {τ τ' : xT} {T : Nat → Nat} {L j : Nat} (hj : j < 1000) (hfa : τ'.1 1 15 = nI j) (hb : Bad T L j) (hr : xrd τ τ') : X cx m_X5_readText PM (qI PM (RR T L τ)) 83 [(0, .ref 1)] [] PM τ' := by
  refine X_aload_n (i := 0) (pc' := 84) dX5_readText_83 rfl rfl rfl ?_
  refine X_get (pc' := 87) (v := .int _) dX5_readText_84 rfl (gf_X5_57 _ rfl) o_M_1 rfl rfl ?_
  refine X_eqi (nI j) (hfa) ?_
  refine X_bipush (pc' := 89) (v := (-9)) dX5_readText_87 rfl (by decide) ?_
  refine X_icmp_ne (pc' := 92) (tgt := 269) dX5_readText_89 rfl (by decide) (fun h_89 => ?_) (fun h_89 => absurd h_89 (nI_ne9 (by omega)))
  refine X_aload_n (i := 0) (pc' := 270) dX5_readText_269 rfl rfl rfl ?_
  refine X_get (pc' := 273) (v := .int _) dX5_readText_270 rfl (gf_X5_57 _ rfl) o_M_1 rfl rfl ?_
  refine X_eqi (nI j) (hfa) ?_
  refine X_ri dX5_readText_273 rfl ⟨rfl, rfl⟩ ?_
  exact ⟨hb.1.symm, hr, fun q hq h3 => absurd h3 (hb.2 q hq)⟩
/-- one letter's part: L and two figures -/
theorem l2_rL {τ τ' : xT} {T : Nat → Nat} {L i a : Nat} {P : PT} {w : Nat → Nat} (hX : TX τ' T L) (hr : xrd τ τ') (hG : RG τ' P w) (hfa : τ'.1 1 15 = -9) (hat : τ'.1 1 14 = nI i) (hi : i < L) (hq : rdP T i = .inl (3, a, P, w)) (h76 : T i = 76) (hn : pn P < 6)
    (hgo : ∀ (τ2 : xT) (q : PS), xrd τ τ2 → RG τ2 q.2.2.1 q.2.2.2 → τ2.1 1 15 = -9 → τ2.1 1 14 = nI (i + 3) → i + 3 ≤ L → q.1 = 3 → rdP T (i + 3) = .inl q → (EXok P → EXok q.2.2.1) → X cx m_X5_readText PM (qI PM (RR T L τ)) 83 [(0, .ref 1)] [] PM τ2) : X cx m_X5_readText PM (qI PM (RR T L τ)) 83 [(0, .ref 1)] [] PM τ' := by
  have hL := hX.2.2.1
  have hX1 : TX (xsi τ' 1 14 (nI (i + 1))) T L := hX.s1 _ (by decide)
  have hfa1 : (xsi τ' 1 14 (nI (i + 1))).1 1 15 = -9 := by rw [xsi_un _ _ (by decide)]; exact hfa
  have hat1 : (xsi τ' 1 14 (nI (i + 1))).1 1 14 = nI (i + 1) := xsi_at _ _ _ _
  have hq1 : rdP T (i + 1) = .inl (4, a, P, w) := rdP_go hq (by rw [rdS3, if_pos h76, if_pos hn])
  by_cases hg1 : ∃ f, i + 1 < L ∧ fig (T (i + 1)) = some f
  · obtain ⟨f, hi1, hf⟩ := hg1
    have hf9 := fig_le hf
    have hq2 : rdP T (i + 2) = .inl (5, f, P, w) := rdP_go hq1 (by rw [rdS4, hf])
    have hX2 : TX (xsi (xsi (xsi τ' 1 14 (nI (i + 1))) 1 14 (nI (i + 1 + 1))) 5 (pn P) (nI f)) T L := (hX1.s1 _ (by decide)).sc _ _ (by decide) (by decide)
    have hfa2 : (xsi (xsi (xsi τ' 1 14 (nI (i + 1))) 1 14 (nI (i + 1 + 1))) 5 (pn P) (nI f)).1 1 15 = -9 := by rw [xsi_ne _ _ _ (by decide), xsi_un _ _ (by decide)]; exact hfa1
    have hat2 : (xsi (xsi (xsi τ' 1 14 (nI (i + 1))) 1 14 (nI (i + 1 + 1))) 5 (pn P) (nI f)).1 1 14 = nI (i + 1 + 1) := by rw [xsi_ne _ _ _ (by decide), xsi_at]
    by_cases hg2 : ∃ g, i + 2 < L ∧ fig (T (i + 2)) = some g ∧ g ≤ 3
    · obtain ⟨g, hi2, hg, hg3⟩ := hg2
      have hq3 := rdP_go hq2 (by rw [rdS5, hg]; exact if_pos hg3)
      refine X_aload_n (i := 0) (pc' := 84) dX5_readText_83 rfl rfl rfl ?_
      refine X_get (pc' := 87) (v := .int _) dX5_readText_84 rfl (gf_X5_57 _ rfl) o_M_1 rfl rfl ?_
      refine X_eqi (-9) (hfa) ?_
      refine X_bipush (pc' := 89) (v := (-9)) dX5_readText_87 rfl (by decide) ?_
      refine X_icmp_ne (pc' := 92) (tgt := 269) dX5_readText_89 rfl (by decide) (fun h_89 => absurd h_89 (fun q => q rfl)) (fun h_89 => ?_)
      refine X_aload_n (i := 0) (pc' := 93) dX5_readText_92 rfl rfl rfl ?_
      refine X_get (pc' := 96) (v := .int _) dX5_readText_93 rfl (gf_X5_60 _ rfl) o_M_1 rfl rfl ?_
      refine X_eqi (nI i) (hat) ?_
      refine X_aload_n (i := 0) (pc' := 97) dX5_readText_96 rfl rfl rfl ?_
      refine X_get (pc' := 100) (v := .int _) dX5_readText_97 rfl (gf_X5_54 _ rfl) o_M_1 rfl rfl ?_
      refine X_eqi (nI L) (hX.1) ?_
      refine X_icmp_ge (pc' := 103) (tgt := 269) dX5_readText_100 rfl (by decide) (fun h_100 => absurd h_100 (nI_ge hi (by omega))) (fun h_100 => ?_)
      refine X_aload_n (i := 0) (pc' := 104) dX5_readText_103 rfl rfl rfl ?_
      refine X_get (pc' := 107) (v := .ref 8) dX5_readText_104 rfl (gf_X5_28 _ rfl) o_M_1 rfl rfl ?_
      refine X_aload_n (i := 0) (pc' := 108) dX5_readText_107 rfl rfl rfl ?_
      refine X_get (pc' := 111) (v := .int _) dX5_readText_108 rfl (gf_X5_60 _ rfl) o_M_1 rfl rfl ?_
      refine X_eqi (nI i) (hat) ?_
      refine X_iald (pc' := 112) (j := i) dX5_readText_111 rfl (Or.inl r_M_8) (rfl) (by omega) ?_
      refine X_eqi (nI (T i)) (hX.2.1 i hi) ?_
      refine X_bipush (pc' := 114) (v := nI 76) dX5_readText_112 rfl (by decide) ?_
      refine X_icmp_ne (pc' := 117) (tgt := 180) dX5_readText_114 rfl (by decide) (fun h_114 => absurd h_114 (fun q => q (by rw [h76]))) (fun h_114 => ?_)
      refine X_aload_n (i := 0) (pc' := 118) dX5_readText_117 rfl rfl rfl ?_
      refine X_get (pc' := 121) (v := .int _) dX5_readText_118 rfl (gf_X5_69 _ rfl) o_M_1 rfl rfl ?_
      refine X_eqi (nI (pn P)) (hG.1) ?_
      refine X_bipush (pc' := 123) (v := nI 6) dX5_readText_121 rfl (by decide) ?_
      refine X_icmp_ge (pc' := 126) (tgt := 180) dX5_readText_123 rfl (by decide) (fun h_123 => absurd h_123 (nI_ge hn (by decide))) (fun h_123 => ?_)
      refine X_aload_n (i := 0) (pc' := 127) dX5_readText_126 rfl rfl rfl ?_
      refine X_dup (pc' := 128) dX5_readText_127 rfl rfl ?_
      refine X_get (pc' := 131) (v := .int _) dX5_readText_128 rfl (gf_X5_60 _ rfl) o_M_1 rfl rfl ?_
      refine X_eqi (nI i) (hat) ?_
      refine X_iconst (pc' := 132) (v := nI 1) dX5_readText_131 rfl (by decide) ?_
      refine X_iadd (pc' := 133) dX5_readText_132 rfl ?_
      refine X_eqi (nI (i + 1)) (nI_add _ _) ?_
      refine X_putI (pc' := 136) dX5_readText_133 rfl (pf_X5_60 _ rfl) o_M_1 rfl ?_
      refine X_aload_n (i := 0) (pc' := 137) dX5_readText_136 rfl rfl rfl ?_
      refine X_get (pc' := 140) (v := .ref 5) dX5_readText_137 rfl (gf_X5_19 _ rfl) o_M_1 rfl rfl ?_
      refine X_aload_n (i := 0) (pc' := 141) dX5_readText_140 rfl rfl rfl ?_
      refine X_get (pc' := 144) (v := .int _) dX5_readText_141 rfl (gf_X5_69 _ rfl) o_M_1 rfl rfl ?_
      refine X_eqi (nI (pn P)) (by rw [xsi_un _ _ (by decide)]; exact hG.1) ?_
      refine X_aload_n (i := 0) (pc' := 145) dX5_readText_144 rfl rfl rfl ?_
      refine X_iconst (pc' := 146) (v := nI 0) dX5_readText_145 rfl (by decide) ?_
      refine X_bipush (pc' := 148) (v := nI 9) dX5_readText_146 rfl (by decide) ?_
      refine X_OI (As := [_, _]) (rest := [_, _]) (pc' := 151) dX5_readText_148 rfl k_X5_figure l_X5_76 v_X5_figure o_M_1 rfl ⟨by decide, by decide⟩ rfl rfl (Nat.le_of_ble_eq_true rfl) (d_figA cx _ (lo := 0) (hi := 9) hX1 (by decide) (by decide) hi1 hfa1 hat1 hf (by omega) (by omega)) (fun x_148 τ_148 h_148 => ?_)
      refine X_eqi (nI f) (h_148.1) ?_
      obtain ⟨-, e148⟩ := h_148
      subst e148
      refine X_iast (pc' := 152) (j := pn P) dX5_readText_151 rfl r_M_5 (rfl) (hn) ?_
      refine X_aload_n (i := 0) (pc' := 153) dX5_readText_152 rfl rfl rfl ?_
      refine X_get (pc' := 156) (v := .ref 6) dX5_readText_153 rfl (gf_X5_22 _ rfl) o_M_1 rfl rfl ?_
      refine X_aload_n (i := 0) (pc' := 157) dX5_readText_156 rfl rfl rfl ?_
      refine X_get (pc' := 160) (v := .int _) dX5_readText_157 rfl (gf_X5_69 _ rfl) o_M_1 rfl rfl ?_
      refine X_eqi (nI (pn P)) (by simp [xsi, upd]; exact hG.1) ?_
      refine X_aload_n (i := 0) (pc' := 161) dX5_readText_160 rfl rfl rfl ?_
      refine X_iconst (pc' := 162) (v := nI 0) dX5_readText_161 rfl (by decide) ?_
      refine X_iconst (pc' := 163) (v := nI 3) dX5_readText_162 rfl (by decide) ?_
      refine X_OI (As := [_, _]) (rest := [_, _]) (pc' := 166) dX5_readText_163 rfl k_X5_figure l_X5_76 v_X5_figure o_M_1 rfl ⟨by decide, by decide⟩ rfl rfl (Nat.le_of_ble_eq_true rfl) (d_figA cx _ (lo := 0) (hi := 3) hX2 (by decide) (by decide) hi2 hfa2 hat2 hg (by omega) hg3) (fun x_163 τ_163 h_163 => ?_)
      refine X_eqi (nI g) (h_163.1) ?_
      obtain ⟨-, e163⟩ := h_163
      subst e163
      refine X_iast (pc' := 167) (j := pn P) dX5_readText_166 rfl r_M_6 (rfl) (hn) ?_
      refine X_aload_n (i := 0) (pc' := 168) dX5_readText_167 rfl rfl rfl ?_
      refine X_dup (pc' := 169) dX5_readText_168 rfl rfl ?_
      refine X_get (pc' := 172) (v := .int _) dX5_readText_169 rfl (gf_X5_69 _ rfl) o_M_1 rfl rfl ?_
      refine X_eqi (nI (pn P)) (by simp [xsi, upd]; exact hG.1) ?_
      refine X_iconst (pc' := 173) (v := nI 1) dX5_readText_172 rfl (by decide) ?_
      refine X_iadd (pc' := 174) dX5_readText_173 rfl ?_
      refine X_eqi (nI (pn P + 1)) (nI_add _ _) ?_
      refine X_putI (pc' := 177) dX5_readText_174 rfl (pf_X5_69 _ rfl) o_M_1 rfl ?_
      refine X_goto (pc' := 0) (tgt := 83) dX5_readText_177 (by decide) ?_
      refine X_lv _ (by simp) (hgo _ _ ((((((hr.s1 14 _ (by decide)).s1 14 _ (by decide)).sc 5 _ _ (by decide)).s1 14 _ (by decide)).sc 6 _ _ (by decide)).s1 9 _ (by decide)) ?_ (by simp [xsi, upd]; exact hfa) (by simp [xsi, upd]) (by omega) rfl hq3 (fun hE j k h1 h2 h3 => ?_))
      · refine ⟨by simp [xsi, upd], by simp [xsi, upd]; exact hG.2.1, by simp [xsi, upd]; exact hG.2.2.1, fun k hk => ?_, fun k hk => ?_, fun k hk => by simp [xsi, upd]; exact hG.2.2.2.2.2 k hk⟩
        · have hk : k < pn P + 1 := hk
          show _ = nI (nset w (pn P) f k)
          by_cases e : k = pn P
          · subst e; simp [xsi, upd, nset]
          · simp [xsi, upd, nset, e]; exact hG.2.2.2.1 k (by omega)
        · have hk : k < pn P + 1 := hk
          show _ = nI (nset (pk P) (pn P) g k)
          by_cases e : k = pn P
          · subst e; simp [xsi, upd, nset]
          · simp [xsi, upd, nset, e]; exact hG.2.2.2.2.1 k (by omega)
      · have := hE j k h1 h2 h3
        exact ⟨by show k < pn P + 1; omega, this.2.1, by show j < pn P + 1; omega⟩
    · have hbad : Bad T L (i + 2) := bad_of hq2 (by omega) (Or.inr (by simp)) (fun hl => by
        rw [rdS5]
        rcases hg : fig (T (i + 2)) with _ | g
        · rfl
        · exact if_neg (fun h3 => hg2 ⟨g, hl, hg, h3⟩))
      refine X_aload_n (i := 0) (pc' := 84) dX5_readText_83 rfl rfl rfl ?_
      refine X_get (pc' := 87) (v := .int _) dX5_readText_84 rfl (gf_X5_57 _ rfl) o_M_1 rfl rfl ?_
      refine X_eqi (-9) (hfa) ?_
      refine X_bipush (pc' := 89) (v := (-9)) dX5_readText_87 rfl (by decide) ?_
      refine X_icmp_ne (pc' := 92) (tgt := 269) dX5_readText_89 rfl (by decide) (fun h_89 => absurd h_89 (fun q => q rfl)) (fun h_89 => ?_)
      refine X_aload_n (i := 0) (pc' := 93) dX5_readText_92 rfl rfl rfl ?_
      refine X_get (pc' := 96) (v := .int _) dX5_readText_93 rfl (gf_X5_60 _ rfl) o_M_1 rfl rfl ?_
      refine X_eqi (nI i) (hat) ?_
      refine X_aload_n (i := 0) (pc' := 97) dX5_readText_96 rfl rfl rfl ?_
      refine X_get (pc' := 100) (v := .int _) dX5_readText_97 rfl (gf_X5_54 _ rfl) o_M_1 rfl rfl ?_
      refine X_eqi (nI L) (hX.1) ?_
      refine X_icmp_ge (pc' := 103) (tgt := 269) dX5_readText_100 rfl (by decide) (fun h_100 => absurd h_100 (nI_ge hi (by omega))) (fun h_100 => ?_)
      refine X_aload_n (i := 0) (pc' := 104) dX5_readText_103 rfl rfl rfl ?_
      refine X_get (pc' := 107) (v := .ref 8) dX5_readText_104 rfl (gf_X5_28 _ rfl) o_M_1 rfl rfl ?_
      refine X_aload_n (i := 0) (pc' := 108) dX5_readText_107 rfl rfl rfl ?_
      refine X_get (pc' := 111) (v := .int _) dX5_readText_108 rfl (gf_X5_60 _ rfl) o_M_1 rfl rfl ?_
      refine X_eqi (nI i) (hat) ?_
      refine X_iald (pc' := 112) (j := i) dX5_readText_111 rfl (Or.inl r_M_8) (rfl) (by omega) ?_
      refine X_eqi (nI (T i)) (hX.2.1 i hi) ?_
      refine X_bipush (pc' := 114) (v := nI 76) dX5_readText_112 rfl (by decide) ?_
      refine X_icmp_ne (pc' := 117) (tgt := 180) dX5_readText_114 rfl (by decide) (fun h_114 => absurd h_114 (fun q => q (by rw [h76]))) (fun h_114 => ?_)
      refine X_aload_n (i := 0) (pc' := 118) dX5_readText_117 rfl rfl rfl ?_
      refine X_get (pc' := 121) (v := .int _) dX5_readText_118 rfl (gf_X5_69 _ rfl) o_M_1 rfl rfl ?_
      refine X_eqi (nI (pn P)) (hG.1) ?_
      refine X_bipush (pc' := 123) (v := nI 6) dX5_readText_121 rfl (by decide) ?_
      refine X_icmp_ge (pc' := 126) (tgt := 180) dX5_readText_123 rfl (by decide) (fun h_123 => absurd h_123 (nI_ge hn (by decide))) (fun h_123 => ?_)
      refine X_aload_n (i := 0) (pc' := 127) dX5_readText_126 rfl rfl rfl ?_
      refine X_dup (pc' := 128) dX5_readText_127 rfl rfl ?_
      refine X_get (pc' := 131) (v := .int _) dX5_readText_128 rfl (gf_X5_60 _ rfl) o_M_1 rfl rfl ?_
      refine X_eqi (nI i) (hat) ?_
      refine X_iconst (pc' := 132) (v := nI 1) dX5_readText_131 rfl (by decide) ?_
      refine X_iadd (pc' := 133) dX5_readText_132 rfl ?_
      refine X_eqi (nI (i + 1)) (nI_add _ _) ?_
      refine X_putI (pc' := 136) dX5_readText_133 rfl (pf_X5_60 _ rfl) o_M_1 rfl ?_
      refine X_aload_n (i := 0) (pc' := 137) dX5_readText_136 rfl rfl rfl ?_
      refine X_get (pc' := 140) (v := .ref 5) dX5_readText_137 rfl (gf_X5_19 _ rfl) o_M_1 rfl rfl ?_
      refine X_aload_n (i := 0) (pc' := 141) dX5_readText_140 rfl rfl rfl ?_
      refine X_get (pc' := 144) (v := .int _) dX5_readText_141 rfl (gf_X5_69 _ rfl) o_M_1 rfl rfl ?_
      refine X_eqi (nI (pn P)) (by rw [xsi_un _ _ (by decide)]; exact hG.1) ?_
      refine X_aload_n (i := 0) (pc' := 145) dX5_readText_144 rfl rfl rfl ?_
      refine X_iconst (pc' := 146) (v := nI 0) dX5_readText_145 rfl (by decide) ?_
      refine X_bipush (pc' := 148) (v := nI 9) dX5_readText_146 rfl (by decide) ?_
      refine X_OI (As := [_, _]) (rest := [_, _]) (pc' := 151) dX5_readText_148 rfl k_X5_figure l_X5_76 v_X5_figure o_M_1 rfl ⟨by decide, by decide⟩ rfl rfl (Nat.le_of_ble_eq_true rfl) (d_figA cx _ (lo := 0) (hi := 9) hX1 (by decide) (by decide) hi1 hfa1 hat1 hf (by omega) (by omega)) (fun x_148 τ_148 h_148 => ?_)
      refine X_eqi (nI f) (h_148.1) ?_
      obtain ⟨-, e148⟩ := h_148
      subst e148
      refine X_iast (pc' := 152) (j := pn P) dX5_readText_151 rfl r_M_5 (rfl) (hn) ?_
      refine X_aload_n (i := 0) (pc' := 153) dX5_readText_152 rfl rfl rfl ?_
      refine X_get (pc' := 156) (v := .ref 6) dX5_readText_153 rfl (gf_X5_22 _ rfl) o_M_1 rfl rfl ?_
      refine X_aload_n (i := 0) (pc' := 157) dX5_readText_156 rfl rfl rfl ?_
      refine X_get (pc' := 160) (v := .int _) dX5_readText_157 rfl (gf_X5_69 _ rfl) o_M_1 rfl rfl ?_
      refine X_eqi (nI (pn P)) (by simp [xsi, upd]; exact hG.1) ?_
      refine X_aload_n (i := 0) (pc' := 161) dX5_readText_160 rfl rfl rfl ?_
      refine X_iconst (pc' := 162) (v := nI 0) dX5_readText_161 rfl (by decide) ?_
      refine X_iconst (pc' := 163) (v := nI 3) dX5_readText_162 rfl (by decide) ?_
      refine X_OI (As := [_, _]) (rest := [_, _]) (pc' := 166) dX5_readText_163 rfl k_X5_figure l_X5_76 v_X5_figure o_M_1 rfl ⟨by decide, by decide⟩ rfl rfl (Nat.le_of_ble_eq_true rfl) (d_figB cx _ (lo := 0) (hi := 3) hX2 (by decide) (by decide) (by omega) hfa2 hat2 (fun g hl hg => Or.inr (Nat.not_le.mp (fun h3 => hg2 ⟨g, hl, hg, h3⟩)))) (fun x_163 τ_163 h_163 => ?_)
      refine X_eqi (nI 0) (h_163.1) ?_
      obtain ⟨-, e163⟩ := h_163
      subst e163
      refine X_iast (pc' := 167) (j := pn P) dX5_readText_166 rfl r_M_6 (rfl) (hn) ?_
      refine X_aload_n (i := 0) (pc' := 168) dX5_readText_167 rfl rfl rfl ?_
      refine X_dup (pc' := 169) dX5_readText_168 rfl rfl ?_
      refine X_get (pc' := 172) (v := .int _) dX5_readText_169 rfl (gf_X5_69 _ rfl) o_M_1 rfl rfl ?_
      refine X_eqi (nI (pn P)) (by simp [xsi, upd]; exact hG.1) ?_
      refine X_iconst (pc' := 173) (v := nI 1) dX5_readText_172 rfl (by decide) ?_
      refine X_iadd (pc' := 174) dX5_readText_173 rfl ?_
      refine X_eqi (nI (pn P + 1)) (nI_add _ _) ?_
      refine X_putI (pc' := 177) dX5_readText_174 rfl (pf_X5_69 _ rfl) o_M_1 rfl ?_
      refine X_goto (pc' := 0) (tgt := 83) dX5_readText_177 (by decide) ?_
      exact X_lv _ (by simp) (l2_rexit cx (j := i + 2) (by omega) (by simp [xsi, upd]) hbad ((((((hr.s1 14 _ (by decide)).s1 14 _ (by decide)).sc 5 _ _ (by decide)).s1 15 _ (by decide)).sc 6 _ _ (by decide)).s1 9 _ (by decide)))
  · have hbad : Bad T L (i + 1) := bad_of hq1 (by omega) (Or.inr (by simp)) (fun hl => by
      rw [rdS4]
      rcases hf : fig (T (i + 1)) with _ | f
      · rfl
      · exact absurd ⟨f, hl, hf⟩ hg1)
    refine X_aload_n (i := 0) (pc' := 84) dX5_readText_83 rfl rfl rfl ?_
    refine X_get (pc' := 87) (v := .int _) dX5_readText_84 rfl (gf_X5_57 _ rfl) o_M_1 rfl rfl ?_
    refine X_eqi (-9) (hfa) ?_
    refine X_bipush (pc' := 89) (v := (-9)) dX5_readText_87 rfl (by decide) ?_
    refine X_icmp_ne (pc' := 92) (tgt := 269) dX5_readText_89 rfl (by decide) (fun h_89 => absurd h_89 (fun q => q rfl)) (fun h_89 => ?_)
    refine X_aload_n (i := 0) (pc' := 93) dX5_readText_92 rfl rfl rfl ?_
    refine X_get (pc' := 96) (v := .int _) dX5_readText_93 rfl (gf_X5_60 _ rfl) o_M_1 rfl rfl ?_
    refine X_eqi (nI i) (hat) ?_
    refine X_aload_n (i := 0) (pc' := 97) dX5_readText_96 rfl rfl rfl ?_
    refine X_get (pc' := 100) (v := .int _) dX5_readText_97 rfl (gf_X5_54 _ rfl) o_M_1 rfl rfl ?_
    refine X_eqi (nI L) (hX.1) ?_
    refine X_icmp_ge (pc' := 103) (tgt := 269) dX5_readText_100 rfl (by decide) (fun h_100 => absurd h_100 (nI_ge hi (by omega))) (fun h_100 => ?_)
    refine X_aload_n (i := 0) (pc' := 104) dX5_readText_103 rfl rfl rfl ?_
    refine X_get (pc' := 107) (v := .ref 8) dX5_readText_104 rfl (gf_X5_28 _ rfl) o_M_1 rfl rfl ?_
    refine X_aload_n (i := 0) (pc' := 108) dX5_readText_107 rfl rfl rfl ?_
    refine X_get (pc' := 111) (v := .int _) dX5_readText_108 rfl (gf_X5_60 _ rfl) o_M_1 rfl rfl ?_
    refine X_eqi (nI i) (hat) ?_
    refine X_iald (pc' := 112) (j := i) dX5_readText_111 rfl (Or.inl r_M_8) (rfl) (by omega) ?_
    refine X_eqi (nI (T i)) (hX.2.1 i hi) ?_
    refine X_bipush (pc' := 114) (v := nI 76) dX5_readText_112 rfl (by decide) ?_
    refine X_icmp_ne (pc' := 117) (tgt := 180) dX5_readText_114 rfl (by decide) (fun h_114 => absurd h_114 (fun q => q (by rw [h76]))) (fun h_114 => ?_)
    refine X_aload_n (i := 0) (pc' := 118) dX5_readText_117 rfl rfl rfl ?_
    refine X_get (pc' := 121) (v := .int _) dX5_readText_118 rfl (gf_X5_69 _ rfl) o_M_1 rfl rfl ?_
    refine X_eqi (nI (pn P)) (hG.1) ?_
    refine X_bipush (pc' := 123) (v := nI 6) dX5_readText_121 rfl (by decide) ?_
    refine X_icmp_ge (pc' := 126) (tgt := 180) dX5_readText_123 rfl (by decide) (fun h_123 => absurd h_123 (nI_ge hn (by decide))) (fun h_123 => ?_)
    refine X_aload_n (i := 0) (pc' := 127) dX5_readText_126 rfl rfl rfl ?_
    refine X_dup (pc' := 128) dX5_readText_127 rfl rfl ?_
    refine X_get (pc' := 131) (v := .int _) dX5_readText_128 rfl (gf_X5_60 _ rfl) o_M_1 rfl rfl ?_
    refine X_eqi (nI i) (hat) ?_
    refine X_iconst (pc' := 132) (v := nI 1) dX5_readText_131 rfl (by decide) ?_
    refine X_iadd (pc' := 133) dX5_readText_132 rfl ?_
    refine X_eqi (nI (i + 1)) (nI_add _ _) ?_
    refine X_putI (pc' := 136) dX5_readText_133 rfl (pf_X5_60 _ rfl) o_M_1 rfl ?_
    refine X_aload_n (i := 0) (pc' := 137) dX5_readText_136 rfl rfl rfl ?_
    refine X_get (pc' := 140) (v := .ref 5) dX5_readText_137 rfl (gf_X5_19 _ rfl) o_M_1 rfl rfl ?_
    refine X_aload_n (i := 0) (pc' := 141) dX5_readText_140 rfl rfl rfl ?_
    refine X_get (pc' := 144) (v := .int _) dX5_readText_141 rfl (gf_X5_69 _ rfl) o_M_1 rfl rfl ?_
    refine X_eqi (nI (pn P)) (by rw [xsi_un _ _ (by decide)]; exact hG.1) ?_
    refine X_aload_n (i := 0) (pc' := 145) dX5_readText_144 rfl rfl rfl ?_
    refine X_iconst (pc' := 146) (v := nI 0) dX5_readText_145 rfl (by decide) ?_
    refine X_bipush (pc' := 148) (v := nI 9) dX5_readText_146 rfl (by decide) ?_
    refine X_OI (As := [_, _]) (rest := [_, _]) (pc' := 151) dX5_readText_148 rfl k_X5_figure l_X5_76 v_X5_figure o_M_1 rfl ⟨by decide, by decide⟩ rfl rfl (Nat.le_of_ble_eq_true rfl) (d_figB cx _ (lo := 0) (hi := 9) hX1 (by decide) (by decide) (by omega) hfa1 hat1 (fun f hl hf => absurd ⟨f, hl, hf⟩ hg1)) (fun x_148 τ_148 h_148 => ?_)
    refine X_eqi (nI 0) (h_148.1) ?_
    obtain ⟨-, e148⟩ := h_148
    subst e148
    refine X_iast (pc' := 152) (j := pn P) dX5_readText_151 rfl r_M_5 (rfl) (hn) ?_
    refine X_aload_n (i := 0) (pc' := 153) dX5_readText_152 rfl rfl rfl ?_
    refine X_get (pc' := 156) (v := .ref 6) dX5_readText_153 rfl (gf_X5_22 _ rfl) o_M_1 rfl rfl ?_
    refine X_aload_n (i := 0) (pc' := 157) dX5_readText_156 rfl rfl rfl ?_
    refine X_get (pc' := 160) (v := .int _) dX5_readText_157 rfl (gf_X5_69 _ rfl) o_M_1 rfl rfl ?_
    refine X_eqi (nI (pn P)) (by simp [xsi, upd]; exact hG.1) ?_
    refine X_aload_n (i := 0) (pc' := 161) dX5_readText_160 rfl rfl rfl ?_
    refine X_iconst (pc' := 162) (v := nI 0) dX5_readText_161 rfl (by decide) ?_
    refine X_iconst (pc' := 163) (v := nI 3) dX5_readText_162 rfl (by decide) ?_
    refine X_OI (As := [_, _]) (rest := [_, _]) (pc' := 166) dX5_readText_163 rfl k_X5_figure l_X5_76 v_X5_figure o_M_1 rfl ⟨by decide, by decide⟩ rfl rfl (Nat.le_of_ble_eq_true rfl) (d_figC cx _ (lo := 0) (hi := 3) (j := i + 1) (by decide) (by decide) (by omega) (by simp [xsi, upd])) (fun x_163 τ_163 h_163 => ?_)
    refine X_eqi (nI 0) (h_163.1) ?_
    obtain ⟨-, e163⟩ := h_163
    subst e163
    refine X_iast (pc' := 167) (j := pn P) dX5_readText_166 rfl r_M_6 (rfl) (hn) ?_
    refine X_aload_n (i := 0) (pc' := 168) dX5_readText_167 rfl rfl rfl ?_
    refine X_dup (pc' := 169) dX5_readText_168 rfl rfl ?_
    refine X_get (pc' := 172) (v := .int _) dX5_readText_169 rfl (gf_X5_69 _ rfl) o_M_1 rfl rfl ?_
    refine X_eqi (nI (pn P)) (by simp [xsi, upd]; exact hG.1) ?_
    refine X_iconst (pc' := 173) (v := nI 1) dX5_readText_172 rfl (by decide) ?_
    refine X_iadd (pc' := 174) dX5_readText_173 rfl ?_
    refine X_eqi (nI (pn P + 1)) (nI_add _ _) ?_
    refine X_putI (pc' := 177) dX5_readText_174 rfl (pf_X5_69 _ rfl) o_M_1 rfl ?_
    refine X_goto (pc' := 0) (tgt := 83) dX5_readText_177 (by decide) ?_
    exact X_lv _ (by simp) (l2_rexit cx (j := i + 1) (by omega) (by simp [xsi, upd]) hbad ((((((hr.s1 14 _ (by decide)).s1 15 _ (by decide)).sc 5 _ _ (by decide)).s1 15 _ (by decide)).sc 6 _ _ (by decide)).s1 9 _ (by decide)))
end MR
