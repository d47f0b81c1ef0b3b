/-! ===== what the queries answer ===== -/
def swF (w : Int32) (hi : Nat) (f : Nat → Int32) (d : Int32) : Int32 := if 0 ≤ w.toInt ∧ w.toInt ≤ (hi : Int) then f w.toInt.toNat else d
theorem swF_in {j hi : Nat} {f : Nat → Int32} {d : Int32} (hj : j ≤ hi) (hh : hi < 1000) : swF (nI j) hi f d = f j := by
  unfold swF
  rw [nI_toInt (by omega), if_pos (by omega)]; rfl
theorem swF_out {w : Int32} {hi : Nat} {f : Nat → Int32} {d : Int32} (h : w.toInt < 0 ∨ (hi : Int) < w.toInt) : swF w hi f d = d := if_neg (by omega)
abbrev isC (p : Int32) : Prop := 0 ≤ p.toInt ∧ p.toInt ≤ 60
def letterF (P : PT) (s : SN) (l w : Int32) : Int32 := onL P l fun k => swF w 6 (fun j => match j with | 0 => nI (sWt s k) | 1 => nI (pk P k) | 2 => nI (px P k) | 3 => zI (bt (sSt s) k) | 4 => zI (bt (sTn s) k) | 5 => nI (sCk s k) | _ => if bt (sSt s) k then -9 else nI (price P s k)) (-2)
def priceF (P : PT) (s : SN) (l n : Int32) : Int32 := onL P l fun k => swF n 9 (fun d => if bt (sSt s) k then -3 else nI (costIn P s k d (sSt s))) (-2)
def bestN (f : Nat → Nat) : Nat → Nat | 0 => 0 | n + 1 => if f (n + 1) < f (bestN f n) then n + 1 else bestN f n
theorem bestN_le (f : Nat → Nat) : ∀ n, bestN f n ≤ n := by
  intro n
  induction n with
  | zero => exact Nat.le_refl _
  | succ n ih => show (if f (n + 1) < f (bestN f n) then n + 1 else bestN f n) ≤ n + 1; split <;> omega
def cheapF (P : PT) (s : SN) (l : Int32) : Int32 := onL P l fun k => if bt (sSt s) k then -3 else nI (bestN (fun d => costIn P s k d (sSt s)) 9)
def waitsN (P : PT) (s : SN) (k : Nat) (p : Int32) : Nat → Nat | 0 => 0 | w + 1 => waitsN P s k p w ||| (if nI (cost P k w (bt (sTn s) k) (ones (px P k &&& sSt s)) (sDy s)) = p then 2 ^ w else 0)
theorem waitsN_lt (P : PT) (s : SN) (k : Nat) (p : Int32) : ∀ w, waitsN P s k p w < 2 ^ w := by
  intro w
  induction w with
  | zero => show 0 < 1; decide
  | succ w ih =>
    have h1 : waitsN P s k p w < 2 ^ (w + 1) := Nat.lt_of_lt_of_le ih (Nat.pow_le_pow_right (by decide) (by omega))
    refine Nat.or_lt_two_pow h1 ?_
    split
    · exact Nat.pow_lt_pow_right (by decide) (by omega)
    · exact Nat.two_pow_pos _
def waitsF (P : PT) (s : SN) (l p : Int32) : Int32 := onL P l fun k => if isC p then (if bt (sSt s) k then -3 else nI (waitsN P s k p 10)) else -2
def dif (a b : Nat) : Nat := a &&& (63 - b)
theorem dif_lt {a b : Nat} (ha : a < 64) : dif a b < 64 := and_lt64 ha
theorem dif_nI : ∀ a, a < 64 → ∀ b, b < 64 → nI a &&& (nI b ^^^ (-1)) = nI (dif a b) := by decide +kernel
/-- the price with some who explain -/
def costW (P : PT) (s : SN) (k set : Nat) : Nat := cost P k (sWt s k) (bt (sTn s) k) (ones (px P k &&& set)) (sDy s)
theorem costW_in {P : PT} {m : Nat} {s : SN} (h : Sok P m s) {k : Nat} (hk : k < pn P) (set : Nat) : costIn P s k 0 set = costW P s k set := by
  unfold costIn costW
  have := h.2.2.2.2.2.1 k hk
  rw [Nat.zero_sub, Nat.add_zero, Nat.add_zero, Nat.min_eq_right this]
def whoN (P : PT) (s : SN) (k : Nat) (p : Int32) : Nat → Nat × Nat × Nat
  | 0 => (0, px P k, 0)
  | u + 1 => if u &&& px P k = u ∧ nI (costW P s k u) = p then ((whoN P s k p u).1 + 1, (whoN P s k p u).2.1 &&& u, (whoN P s k p u).2.2 ||| u) else whoN P s k p u
theorem whoN_le {P : PT} (hP : Pok P) (s : SN) {k : Nat} (hk : k < pn P) (p : Int32) : ∀ u, u ≤ 64 → (whoN P s k p u).1 ≤ u ∧ (whoN P s k p u).2.1 < 64 ∧ (whoN P s k p u).2.2 < 64 := by
  intro u
  induction u with
  | zero => intro _; exact ⟨Nat.le_refl _, hP.2.2.2.2 k hk, by show 0 < 64; decide⟩
  | succ u ih =>
    intro hu
    obtain ⟨h1, h2, h3⟩ := ih (by omega)
    unfold whoN
    split
    · exact ⟨by show _ + 1 ≤ u + 1; omega, and_lt64 h2, Nat.or_lt_two_pow (n := 6) h3 (by omega)⟩
    · exact ⟨by omega, h2, h3⟩
def whoF (P : PT) (s : SN) (l p w : Int32) : Int32 := onL P l fun k => if isC p then swF w 2 (fun j => if bt (sSt s) k then -3 else if j = 0 then nI (whoN P s k p 64).1 else if (whoN P s k p 64).1 = 0 then -9 else if j = 1 then nI (whoN P s k p 64).2.1 else nI (dif (px P k) (whoN P s k p 64).2.2)) (-2) else -2
section C2
variable (cx : xC)
set_option maxHeartbeats 4000000
set_option maxRecDepth 100000
theorem c_letter (τ : xT) {P : PT} {s : SN} {m : Nat} (h : Qw τ P s m) (l w : Int32) : CI cx m_X4_letter [.ref 1, .int l, .int w] PW τ (fun x τ' => τ' = τ ∧ x = letterF P s l w) := by
  obtain ⟨hT, hs, hP, ho, hm⟩ := h
  obtain ⟨q0, q1, q2, q3, q4⟩ := id hT
  obtain ⟨p0, p1, p2, p3, p4, p5, p6⟩ := id hs
  have hn6 := hP.1
  have h26 := two6 hP
  have hst := ho.2.1
  have htn := ho.2.2.2.1
  refine Ct_of (by decide) (Nat.le_of_ble_eq_true rfl) (lv := [(0, _), (1, _), (2, _)]) rfl ?_
  refine X_aload_n (i := 0) (pc' := 1) dX4_letter_0 rfl rfl rfl ?_
  refine X_iload_n (i := 1) (pc' := 2) dX4_letter_1 rfl rfl rfl ?_
  refine X_OIp (As := [_]) (rest := []) (pc' := 5) dX4_letter_2 rfl k_X4_known l_X4_81 v_X4_known o_W_1 rfl ⟨by decide, by decide⟩ rfl rfl (Nat.le_of_ble_eq_true rfl) (c_known cx τ hP hT l) ?_
  refine X_if_ne (pc' := 8) (tgt := 10) dX4_letter_5 rfl (by decide) (fun h_5 => ?_) (fun h_5 => ?_)
  · obtain ⟨k, hk, rfl⟩ := kn_of (zI_1 h_5)
    rw [letterF, onL_in hP hk]
    refine X_iload_n (i := 2) (pc' := 11) dX4_letter_10 rfl rfl rfl ?_
    rcases Classical.em (w.toInt < 0 ∨ 6 < w.toInt) with hs_11 | hs_11
    · refine X_tabOut (pc' := 0) (tgt := 180) dX4_letter_11 hs_11 (by decide) ?_
      refine X_bipush (pc' := 182) (v := (-2)) dX4_letter_180 rfl (by decide) ?_
      refine X_ri dX4_letter_182 rfl ⟨rfl, rfl⟩ ?_
      exact ⟨rfl, (swF_out hs_11).symm⟩
    · obtain ⟨j_11, hj_11, rfl⟩ := xsw_of (n := 6) hs_11 (by decide)
      rcases (show j_11 = 0 ∨ j_11 = 1 ∨ j_11 = 2 ∨ j_11 = 3 ∨ j_11 = 4 ∨ j_11 = 5 ∨ j_11 = 6 by omega) with rfl | rfl | rfl | rfl | rfl | rfl | rfl
      · refine X_tabIn (pc' := 0) (off := 41) (tgt := 52) dX4_letter_11 (by decide) (by decide) rfl (by decide) ?_
        refine X_aload_n (i := 0) (pc' := 53) dX4_letter_52 rfl rfl rfl ?_
        refine X_get (pc' := 56) (v := .ref 12) dX4_letter_53 rfl (gf_X4_30 _ rfl) o_W_1 rfl rfl ?_
        refine X_get (pc' := 59) (v := .ref 13) dX4_letter_56 rfl (gf_X4_85 _ rfl) o_W_12 rfl rfl ?_
        refine X_iload_n (i := 1) (pc' := 60) dX4_letter_59 rfl rfl rfl ?_
        refine X_SIp (As := [_, _]) (rest := []) (pc' := 63) dX4_letter_60 rfl k_X4_at l_X4_88 s_X4_at ⟨by decide, by decide⟩ rfl rfl (Nat.le_of_ble_eq_true rfl) (c_at_in cx τ (Or.inl r_W_13) (show k < 6 by omega)) ?_
        refine X_ri dX4_letter_63 rfl ⟨rfl, rfl⟩ ?_
        rw [swF_in (by decide) (by decide)]; exact ⟨rfl, p5 k hk⟩
      · refine X_tabIn (pc' := 0) (off := 53) (tgt := 64) dX4_letter_11 (by decide) (by decide) rfl (by decide) ?_
        refine X_aload_n (i := 0) (pc' := 65) dX4_letter_64 rfl rfl rfl ?_
        refine X_get (pc' := 68) (v := .ref 8) dX4_letter_65 rfl (gf_X4_23 _ rfl) o_W_1 rfl rfl ?_
        refine X_get (pc' := 71) (v := .ref 10) dX4_letter_68 rfl (gf_X4_92 _ rfl) o_W_8 rfl rfl ?_
        refine X_iload_n (i := 1) (pc' := 72) dX4_letter_71 rfl rfl rfl ?_
        refine X_SIp (As := [_, _]) (rest := []) (pc' := 75) dX4_letter_72 rfl k_X4_at l_X4_88 s_X4_at ⟨by decide, by decide⟩ rfl rfl (Nat.le_of_ble_eq_true rfl) (c_at_in cx τ (Or.inl r_W_10) (show k < 6 by omega)) ?_
        refine X_ri dX4_letter_75 rfl ⟨rfl, rfl⟩ ?_
        rw [swF_in (by decide) (by decide)]; exact ⟨rfl, q3 k hk⟩
      · refine X_tabIn (pc' := 0) (off := 65) (tgt := 76) dX4_letter_11 (by decide) (by decide) rfl (by decide) ?_
        refine X_aload_n (i := 0) (pc' := 77) dX4_letter_76 rfl rfl rfl ?_
        refine X_get (pc' := 80) (v := .ref 8) dX4_letter_77 rfl (gf_X4_23 _ rfl) o_W_1 rfl rfl ?_
        refine X_get (pc' := 83) (v := .ref 11) dX4_letter_80 rfl (gf_X4_95 _ rfl) o_W_8 rfl rfl ?_
        refine X_iload_n (i := 1) (pc' := 84) dX4_letter_83 rfl rfl rfl ?_
        refine X_SIp (As := [_, _]) (rest := []) (pc' := 87) dX4_letter_84 rfl k_X4_at l_X4_88 s_X4_at ⟨by decide, by decide⟩ rfl rfl (Nat.le_of_ble_eq_true rfl) (c_at_in cx τ (Or.inl r_W_11) (show k < 6 by omega)) ?_
        refine X_ri dX4_letter_87 rfl ⟨rfl, rfl⟩ ?_
        rw [swF_in (by decide) (by decide)]; exact ⟨rfl, q4 k hk⟩
      · refine X_tabIn (pc' := 0) (off := 77) (tgt := 88) dX4_letter_11 (by decide) (by decide) rfl (by decide) ?_
        refine X_aload_n (i := 0) (pc' := 89) dX4_letter_88 rfl rfl rfl ?_
        refine X_get (pc' := 92) (v := .ref 12) dX4_letter_89 rfl (gf_X4_30 _ rfl) o_W_1 rfl rfl ?_
        refine X_get (pc' := 95) (v := .int _) dX4_letter_92 rfl (gf_X4_98 _ rfl) o_W_12 rfl rfl ?_
        refine X_eqi (nI (sSt s)) (p1) ?_
        refine X_iload_n (i := 1) (pc' := 96) dX4_letter_95 rfl rfl rfl ?_
        refine X_SIp (As := [_, _]) (rest := []) (pc' := 99) dX4_letter_96 rfl k_X4_has l_X4_101 s_X4_has ⟨by decide, by decide⟩ rfl rfl (Nat.le_of_ble_eq_true rfl) (c_X4_has cx τ (sSt s) k (by omega) (by omega)) ?_
        refine X_if_eq (pc' := 102) (tgt := 106) dX4_letter_99 rfl (by decide) (fun h_99 => ?_) (fun h_99 => ?_)
        · refine X_iconst (pc' := 107) (v := nI 0) dX4_letter_106 rfl (by decide) ?_
          refine X_ri dX4_letter_107 rfl ⟨rfl, rfl⟩ ?_
          rw [swF_in (by decide) (by decide)]
          first
            | exact ⟨rfl, (zI_f (zI_0.mp h_99)).symm⟩
            | exact ⟨rfl, (zI_t (zI_1 h_99)).symm⟩
        · refine X_iconst (pc' := 103) (v := nI 1) dX4_letter_102 rfl (by decide) ?_
          refine X_goto (pc' := 0) (tgt := 107) dX4_letter_103 (by decide) ?_
          refine X_ri dX4_letter_107 rfl ⟨rfl, rfl⟩ ?_
          rw [swF_in (by decide) (by decide)]
          first
            | exact ⟨rfl, (zI_f (zI_0.mp h_99)).symm⟩
            | exact ⟨rfl, (zI_t (zI_1 h_99)).symm⟩
      · refine X_tabIn (pc' := 0) (off := 97) (tgt := 108) dX4_letter_11 (by decide) (by decide) rfl (by decide) ?_
        refine X_aload_n (i := 0) (pc' := 109) dX4_letter_108 rfl rfl rfl ?_
        refine X_get (pc' := 112) (v := .ref 12) dX4_letter_109 rfl (gf_X4_30 _ rfl) o_W_1 rfl rfl ?_
        refine X_get (pc' := 115) (v := .int _) dX4_letter_112 rfl (gf_X4_105 _ rfl) o_W_12 rfl rfl ?_
        refine X_eqi (nI (sTn s)) (p3) ?_
        refine X_iload_n (i := 1) (pc' := 116) dX4_letter_115 rfl rfl rfl ?_
        refine X_SIp (As := [_, _]) (rest := []) (pc' := 119) dX4_letter_116 rfl k_X4_has l_X4_101 s_X4_has ⟨by decide, by decide⟩ rfl rfl (Nat.le_of_ble_eq_true rfl) (c_X4_has cx τ (sTn s) k (by omega) (by omega)) ?_
        refine X_if_eq (pc' := 122) (tgt := 126) dX4_letter_119 rfl (by decide) (fun h_119 => ?_) (fun h_119 => ?_)
        · refine X_iconst (pc' := 127) (v := nI 0) dX4_letter_126 rfl (by decide) ?_
          refine X_ri dX4_letter_127 rfl ⟨rfl, rfl⟩ ?_
          rw [swF_in (by decide) (by decide)]
          first
            | exact ⟨rfl, (zI_f (zI_0.mp h_119)).symm⟩
            | exact ⟨rfl, (zI_t (zI_1 h_119)).symm⟩
        · refine X_iconst (pc' := 123) (v := nI 1) dX4_letter_122 rfl (by decide) ?_
          refine X_goto (pc' := 0) (tgt := 127) dX4_letter_123 (by decide) ?_
          refine X_ri dX4_letter_127 rfl ⟨rfl, rfl⟩ ?_
          rw [swF_in (by decide) (by decide)]
          first
            | exact ⟨rfl, (zI_f (zI_0.mp h_119)).symm⟩
            | exact ⟨rfl, (zI_t (zI_1 h_119)).symm⟩
      · refine X_tabIn (pc' := 0) (off := 117) (tgt := 128) dX4_letter_11 (by decide) (by decide) rfl (by decide) ?_
        refine X_aload_n (i := 0) (pc' := 129) dX4_letter_128 rfl rfl rfl ?_
        refine X_get (pc' := 132) (v := .ref 12) dX4_letter_129 rfl (gf_X4_30 _ rfl) o_W_1 rfl rfl ?_
        refine X_get (pc' := 135) (v := .ref 14) dX4_letter_132 rfl (gf_X4_108 _ rfl) o_W_12 rfl rfl ?_
        refine X_iload_n (i := 1) (pc' := 136) dX4_letter_135 rfl rfl rfl ?_
        refine X_SIp (As := [_, _]) (rest := []) (pc' := 139) dX4_letter_136 rfl k_X4_at l_X4_88 s_X4_at ⟨by decide, by decide⟩ rfl rfl (Nat.le_of_ble_eq_true rfl) (c_at_in cx τ (Or.inl r_W_14) (show k < 6 by omega)) ?_
        refine X_ri dX4_letter_139 rfl ⟨rfl, rfl⟩ ?_
        rw [swF_in (by decide) (by decide)]; exact ⟨rfl, p6 k hk⟩
      · refine X_tabIn (pc' := 0) (off := 129) (tgt := 140) dX4_letter_11 (by decide) (by decide) rfl (by decide) ?_
        refine X_aload_n (i := 0) (pc' := 141) dX4_letter_140 rfl rfl rfl ?_
        refine X_get (pc' := 144) (v := .ref 12) dX4_letter_141 rfl (gf_X4_30 _ rfl) o_W_1 rfl rfl ?_
        refine X_get (pc' := 147) (v := .int _) dX4_letter_144 rfl (gf_X4_98 _ rfl) o_W_12 rfl rfl ?_
        refine X_eqi (nI (sSt s)) (p1) ?_
        refine X_iload_n (i := 1) (pc' := 148) dX4_letter_147 rfl rfl rfl ?_
        refine X_SIp (As := [_, _]) (rest := []) (pc' := 151) dX4_letter_148 rfl k_X4_has l_X4_101 s_X4_has ⟨by decide, by decide⟩ rfl rfl (Nat.le_of_ble_eq_true rfl) (c_X4_has cx τ (sSt s) k (by omega) (by omega)) ?_
        refine X_if_eq (pc' := 154) (tgt := 159) dX4_letter_151 rfl (by decide) (fun h_151 => ?_) (fun h_151 => ?_)
        · refine X_aload_n (i := 0) (pc' := 160) dX4_letter_159 rfl rfl rfl ?_
          refine X_get (pc' := 163) (v := .ref 8) dX4_letter_160 rfl (gf_X4_23 _ rfl) o_W_1 rfl rfl ?_
          refine X_aload_n (i := 0) (pc' := 164) dX4_letter_163 rfl rfl rfl ?_
          refine X_get (pc' := 167) (v := .ref 12) dX4_letter_164 rfl (gf_X4_30 _ rfl) o_W_1 rfl rfl ?_
          refine X_iload_n (i := 1) (pc' := 168) dX4_letter_167 rfl rfl rfl ?_
          refine X_iconst (pc' := 169) (v := nI 0) dX4_letter_168 rfl (by decide) ?_
          refine X_aload_n (i := 0) (pc' := 170) dX4_letter_169 rfl rfl rfl ?_
          refine X_get (pc' := 173) (v := .ref 12) dX4_letter_170 rfl (gf_X4_30 _ rfl) o_W_1 rfl rfl ?_
          refine X_get (pc' := 176) (v := .int _) dX4_letter_173 rfl (gf_X4_98 _ rfl) o_W_12 rfl rfl ?_
          refine X_eqi (nI (sSt s)) (p1) ?_
          refine X_OIp (As := [_, _, _, _]) (rest := []) (pc' := 179) dX4_letter_176 rfl k_X3_costIn l_X4_111 v_X3_costIn o_W_8 rfl ⟨by decide, by decide⟩ rfl rfl (Nat.le_of_ble_eq_true rfl) (c_costIn cx τ hP hT (by decide) hs ho (by omega) hk (by decide) (by omega)) ?_
          refine X_eqi (nI (price P s k)) (by rw [costIn_0 ho hk]) ?_
          refine X_ri dX4_letter_179 rfl ⟨rfl, rfl⟩ ?_
          rw [swF_in (by decide) (by decide)]
          first
            | exact ⟨rfl, (if_neg (zI_0.mp h_151)).symm⟩
            | exact ⟨rfl, (if_pos (zI_1 h_151)).symm⟩
        · refine X_bipush (pc' := 156) (v := (-9)) dX4_letter_154 rfl (by decide) ?_
          refine X_goto (pc' := 0) (tgt := 179) dX4_letter_156 (by decide) ?_
          refine X_ri dX4_letter_179 rfl ⟨rfl, rfl⟩ ?_
          rw [swF_in (by decide) (by decide)]
          first
            | exact ⟨rfl, (if_neg (zI_0.mp h_151)).symm⟩
            | exact ⟨rfl, (if_pos (zI_1 h_151)).symm⟩
  · refine X_iconst (pc' := 9) (v := (-1)) dX4_letter_8 rfl (by decide) ?_
    refine X_ri dX4_letter_9 rfl ⟨rfl, rfl⟩ ?_
    exact ⟨rfl, (onL_out (zI_0.mp h_5)).symm⟩
theorem c_price (τ : xT) {P : PT} {s : SN} {m : Nat} (h : Qw τ P s m) (l n : Int32) : CI cx m_X4_price [.ref 1, .int l, .int n] PW τ (fun x τ' => τ' = τ ∧ x = priceF P s l n) := by
  obtain ⟨hT, hs, hP, ho, hm⟩ := h
  obtain ⟨p0, p1, p2, p3, p4, p5, p6⟩ := id hs
  have hn6 := hP.1
  have h26 := two6 hP
  have hst := ho.2.1
  refine Ct_of (by decide) (Nat.le_of_ble_eq_true rfl) (lv := [(0, _), (1, _), (2, _)]) rfl ?_
  refine X_aload_n (i := 0) (pc' := 1) dX4_price_0 rfl rfl rfl ?_
  refine X_iload_n (i := 1) (pc' := 2) dX4_price_1 rfl rfl rfl ?_
  refine X_OIp (As := [_]) (rest := []) (pc' := 5) dX4_price_2 rfl k_X4_known l_X4_81 v_X4_known o_W_1 rfl ⟨by decide, by decide⟩ rfl rfl (Nat.le_of_ble_eq_true rfl) (c_known cx τ hP hT l) ?_
  refine X_if_ne (pc' := 8) (tgt := 10) dX4_price_5 rfl (by decide) (fun h_5 => ?_) (fun h_5 => ?_)
  · obtain ⟨k, hk, rfl⟩ := kn_of (zI_1 h_5)
    rw [priceF, onL_in hP hk]
    refine X_iload_n (i := 2) (pc' := 11) dX4_price_10 rfl rfl rfl ?_
    refine X_if_lt (pc' := 14) (tgt := 20) dX4_price_11 rfl (by decide) (fun h_11 => ?_) (fun h_11 => ?_)
    · refine X_bipush (pc' := 22) (v := (-2)) dX4_price_20 rfl (by decide) ?_
      refine X_ri dX4_price_22 rfl ⟨rfl, rfl⟩ ?_
      refine ⟨rfl, (swF_out ?_).symm⟩
      simp only [lt0, leI (n := 9) (by decide)] at *
      omega
    · refine X_iload_n (i := 2) (pc' := 15) dX4_price_14 rfl rfl rfl ?_
      refine X_bipush (pc' := 17) (v := nI 9) dX4_price_15 rfl (by decide) ?_
      refine X_icmp_le (pc' := 20) (tgt := 23) dX4_price_17 rfl (by decide) (fun h_17 => ?_) (fun h_17 => ?_)
      · have hn : 0 ≤ n.toInt ∧ n.toInt ≤ 9 := by
          simp only [lt0, leI (n := 9) (by decide)] at *
          omega
        obtain ⟨d, hd, rfl⟩ := xsw_of (x := n) (n := 9) (by omega) (by decide)
        rw [swF_in hd (by decide)]
        refine X_aload_n (i := 0) (pc' := 24) dX4_price_23 rfl rfl rfl ?_
        refine X_get (pc' := 27) (v := .ref 12) dX4_price_24 rfl (gf_X4_30 _ rfl) o_W_1 rfl rfl ?_
        refine X_get (pc' := 30) (v := .int _) dX4_price_27 rfl (gf_X4_98 _ rfl) o_W_12 rfl rfl ?_
        refine X_eqi (nI (sSt s)) (p1) ?_
        refine X_iload_n (i := 1) (pc' := 31) dX4_price_30 rfl rfl rfl ?_
        refine X_SIp (As := [_, _]) (rest := []) (pc' := 34) dX4_price_31 rfl k_X4_has l_X4_101 s_X4_has ⟨by decide, by decide⟩ rfl rfl (Nat.le_of_ble_eq_true rfl) (c_X4_has cx τ (sSt s) k (by omega) (by omega)) ?_
        refine X_if_eq (pc' := 37) (tgt := 40) dX4_price_34 rfl (by decide) (fun h_34 => ?_) (fun h_34 => ?_)
        · refine X_aload_n (i := 0) (pc' := 41) dX4_price_40 rfl rfl rfl ?_
          refine X_get (pc' := 44) (v := .ref 8) dX4_price_41 rfl (gf_X4_23 _ rfl) o_W_1 rfl rfl ?_
          refine X_aload_n (i := 0) (pc' := 45) dX4_price_44 rfl rfl rfl ?_
          refine X_get (pc' := 48) (v := .ref 12) dX4_price_45 rfl (gf_X4_30 _ rfl) o_W_1 rfl rfl ?_
          refine X_iload_n (i := 1) (pc' := 49) dX4_price_48 rfl rfl rfl ?_
          refine X_iload_n (i := 2) (pc' := 50) dX4_price_49 rfl rfl rfl ?_
          refine X_aload_n (i := 0) (pc' := 51) dX4_price_50 rfl rfl rfl ?_
          refine X_get (pc' := 54) (v := .ref 12) dX4_price_51 rfl (gf_X4_30 _ rfl) o_W_1 rfl rfl ?_
          refine X_get (pc' := 57) (v := .int _) dX4_price_54 rfl (gf_X4_98 _ rfl) o_W_12 rfl rfl ?_
          refine X_eqi (nI (sSt s)) (p1) ?_
          refine X_OIp (As := [_, _, _, _]) (rest := []) (pc' := 60) dX4_price_57 rfl k_X3_costIn l_X4_111 v_X3_costIn o_W_8 rfl ⟨by decide, by decide⟩ rfl rfl (Nat.le_of_ble_eq_true rfl) (c_costIn cx τ hP hT (by decide) hs ho (by omega) hk (by omega) (by omega)) ?_
          refine X_ri dX4_price_60 rfl ⟨rfl, rfl⟩ ?_
          exact ⟨rfl, (if_neg (zI_0.mp h_34)).symm⟩
        · refine X_bipush (pc' := 39) (v := (-3)) dX4_price_37 rfl (by decide) ?_
          refine X_ri dX4_price_39 rfl ⟨rfl, rfl⟩ ?_
          exact ⟨rfl, (if_pos (zI_1 h_34)).symm⟩
      · refine X_bipush (pc' := 22) (v := (-2)) dX4_price_20 rfl (by decide) ?_
        refine X_ri dX4_price_22 rfl ⟨rfl, rfl⟩ ?_
        refine ⟨rfl, (swF_out ?_).symm⟩
        simp only [lt0, leI (n := 9) (by decide)] at *
        omega
  · refine X_iconst (pc' := 9) (v := (-1)) dX4_price_8 rfl (by decide) ?_
    refine X_ri dX4_price_9 rfl ⟨rfl, rfl⟩ ?_
    exact ⟨rfl, (onL_out (zI_0.mp h_5)).symm⟩
theorem l_cheapest (τ : xT) {P : PT} {s : SN} {m : Nat} (h : Qw τ P s m) {k : Nat} (hk : k < pn P) {f : Nat → Nat} (hf : f = fun d => costIn P s k d (sSt s)) : ∀ (j : Nat) (τ' : xT), j ≤ 9 → τ' = τ → X cx m_X4_cheapest PW (qI PW (fun x τ' => τ' = τ ∧ x = nI (bestN f 9))) 53 [(4, .int (nI (j + 1))), (3, .int (nI (f (bestN f j)))), (2, .int (nI (bestN f j))), (0, .ref 1), (1, .int (nI k))] [] PW τ' := by
  obtain ⟨hT, hs, hP, ho, hm⟩ := h
  obtain ⟨p0, p1, p2, p3, p4, p5, p6⟩ := id hs
  have hn6 := hP.1
  have h26 := two6 hP
  have hst := ho.2.1
  have hfd : ∀ d, costIn P s k d (sSt s) = f d := fun d => by rw [hf]
  have hfb : ∀ d, f d ≤ 594 := fun d => by rw [hf]; exact costIn_le _ _ _ _ _
  refine xloop _ _ 9 (fun τ' h => ?_) (fun j τ' hj h ih => ?_)
  · subst h
    refine X_iload (pc' := 55) dX4_cheapest_53 rfl rfl ?_
    refine X_bipush (pc' := 57) (v := nI 9) dX4_cheapest_55 rfl (by decide) ?_
    refine X_icmp_gt (pc' := 60) (tgt := 101) dX4_cheapest_57 rfl (by decide) (fun h_57 => ?_) (fun h_57 => absurd (nI_lt (by decide) (by decide)) h_57)
    refine X_iload_n (i := 2) (pc' := 102) dX4_cheapest_101 rfl rfl rfl ?_
    refine X_ri dX4_cheapest_102 rfl ⟨rfl, rfl⟩ ?_
    exact ⟨rfl, rfl⟩
  · subst h
    have b1 := hfb (j + 1)
    have b2 := hfb (bestN f j)
    have b3 := bestN_le f j
    refine X_iload (pc' := 55) dX4_cheapest_53 rfl rfl ?_
    refine X_bipush (pc' := 57) (v := nI 9) dX4_cheapest_55 rfl (by decide) ?_
    refine X_icmp_gt (pc' := 60) (tgt := 101) dX4_cheapest_57 rfl (by decide) (fun h_57 => absurd h_57 (nI_nlt (by omega) (by decide))) (fun h_57 => ?_)
    refine X_aload_n (i := 0) (pc' := 61) dX4_cheapest_60 rfl rfl rfl ?_
    refine X_get (pc' := 64) (v := .ref 8) dX4_cheapest_61 rfl (gf_X4_23 _ rfl) o_W_1 rfl rfl ?_
    refine X_aload_n (i := 0) (pc' := 65) dX4_cheapest_64 rfl rfl rfl ?_
    refine X_get (pc' := 68) (v := .ref 12) dX4_cheapest_65 rfl (gf_X4_30 _ rfl) o_W_1 rfl rfl ?_
    refine X_iload_n (i := 1) (pc' := 69) dX4_cheapest_68 rfl rfl rfl ?_
    refine X_iload (pc' := 71) dX4_cheapest_69 rfl rfl ?_
    refine X_aload_n (i := 0) (pc' := 72) dX4_cheapest_71 rfl rfl rfl ?_
    refine X_get (pc' := 75) (v := .ref 12) dX4_cheapest_72 rfl (gf_X4_30 _ rfl) o_W_1 rfl rfl ?_
    refine X_get (pc' := 78) (v := .int _) dX4_cheapest_75 rfl (gf_X4_98 _ rfl) o_W_12 rfl rfl ?_
    refine X_eqi (nI (sSt s)) (p1) ?_
    refine X_OIp (As := [_, _, _, _]) (rest := []) (pc' := 81) dX4_cheapest_78 rfl k_X3_costIn l_X4_111 v_X3_costIn o_W_8 rfl ⟨by decide, by decide⟩ rfl rfl (Nat.le_of_ble_eq_true rfl) (c_costIn cx τ' hP hT (by decide) hs ho (by omega) hk (by omega) (by omega)) ?_
    refine X_eqi (nI (f (j + 1))) (by rw [hfd]) ?_
    refine X_istore (pc' := 83) (lv' := [(5, _), (4, _), (3, _), (2, _), (0, _), (1, _)]) dX4_cheapest_81 rfl (Nat.le_of_ble_eq_true rfl) rfl ?_
    refine X_iload (pc' := 85) dX4_cheapest_83 rfl rfl ?_
    refine X_iload_n (i := 3) (pc' := 86) dX4_cheapest_85 rfl rfl rfl ?_
    refine X_icmp_ge (pc' := 89) (tgt := 95) dX4_cheapest_86 rfl (by decide) (fun h_86 => ?_) (fun h_86 => ?_)
    · refine X_iinc (pc' := 98) (v := nI (j + 1 + 1)) (lv' := [(4, _), (5, _), (3, _), (2, _), (0, _), (1, _)]) dX4_cheapest_95 rfl rfl ((nI_succ (j + 1)).symm) (Nat.le_of_ble_eq_true rfl) rfl ?_
      refine X_goto (pc' := 0) (tgt := 53) dX4_cheapest_98 (by decide) ?_
      have hb : bestN f (j + 1) = if f (j + 1) < f (bestN f j) then j + 1 else bestN f j := rfl
      have := ih τ' rfl
      first
        | (rw [hb, if_pos ((nI_ltI (by omega) (by omega)).mp (Int32.not_le.mp h_86))] at this
           exact X_lv _ (by simp) this)
        | (rw [hb, if_neg (fun q => nI_ge q (by omega) h_86)] at this
           exact X_lv _ (by simp) this)
    · refine X_iload (pc' := 91) dX4_cheapest_89 rfl rfl ?_
      refine X_istore_n (i := 3) (pc' := 92) (lv' := [(3, _), (5, _), (4, _), (2, _), (0, _), (1, _)]) dX4_cheapest_91 rfl rfl (Nat.le_of_ble_eq_true rfl) rfl ?_
      refine X_iload (pc' := 94) dX4_cheapest_92 rfl rfl ?_
      refine X_istore_n (i := 2) (pc' := 95) (lv' := [(2, _), (3, _), (5, _), (4, _), (0, _), (1, _)]) dX4_cheapest_94 rfl rfl (Nat.le_of_ble_eq_true rfl) rfl ?_
      refine X_iinc (pc' := 98) (v := nI (j + 1 + 1)) (lv' := [(4, _), (2, _), (3, _), (5, _), (0, _), (1, _)]) dX4_cheapest_95 rfl rfl ((nI_succ (j + 1)).symm) (Nat.le_of_ble_eq_true rfl) rfl ?_
      refine X_goto (pc' := 0) (tgt := 53) dX4_cheapest_98 (by decide) ?_
      have hb : bestN f (j + 1) = if f (j + 1) < f (bestN f j) then j + 1 else bestN f j := rfl
      have := ih τ' rfl
      first
        | (rw [hb, if_pos ((nI_ltI (by omega) (by omega)).mp (Int32.not_le.mp h_86))] at this
           exact X_lv _ (by simp) this)
        | (rw [hb, if_neg (fun q => nI_ge q (by omega) h_86)] at this
           exact X_lv _ (by simp) this)
theorem c_cheapest (τ : xT) {P : PT} {s : SN} {m : Nat} (h : Qw τ P s m) (l : Int32) : CI cx m_X4_cheapest [.ref 1, .int l] PW τ (fun x τ' => τ' = τ ∧ x = cheapF P s l) := by
  obtain ⟨hT, hs, hP, ho, hm⟩ := h
  obtain ⟨p0, p1, p2, p3, p4, p5, p6⟩ := id hs
  have hn6 := hP.1
  have h26 := two6 hP
  have hst := ho.2.1
  refine Ct_of (by decide) (Nat.le_of_ble_eq_true rfl) (lv := [(0, _), (1, _)]) rfl ?_
  refine X_aload_n (i := 0) (pc' := 1) dX4_cheapest_0 rfl rfl rfl ?_
  refine X_iload_n (i := 1) (pc' := 2) dX4_cheapest_1 rfl rfl rfl ?_
  refine X_OIp (As := [_]) (rest := []) (pc' := 5) dX4_cheapest_2 rfl k_X4_known l_X4_81 v_X4_known o_W_1 rfl ⟨by decide, by decide⟩ rfl rfl (Nat.le_of_ble_eq_true rfl) (c_known cx τ hP hT l) ?_
  refine X_if_ne (pc' := 8) (tgt := 10) dX4_cheapest_5 rfl (by decide) (fun h_5 => ?_) (fun h_5 => ?_)
  · obtain ⟨k, hk, rfl⟩ := kn_of (zI_1 h_5)
    rw [cheapF, onL_in hP hk]
    refine X_aload_n (i := 0) (pc' := 11) dX4_cheapest_10 rfl rfl rfl ?_
    refine X_get (pc' := 14) (v := .ref 12) dX4_cheapest_11 rfl (gf_X4_30 _ rfl) o_W_1 rfl rfl ?_
    refine X_get (pc' := 17) (v := .int _) dX4_cheapest_14 rfl (gf_X4_98 _ rfl) o_W_12 rfl rfl ?_
    refine X_eqi (nI (sSt s)) (p1) ?_
    refine X_iload_n (i := 1) (pc' := 18) dX4_cheapest_17 rfl rfl rfl ?_
    refine X_SIp (As := [_, _]) (rest := []) (pc' := 21) dX4_cheapest_18 rfl k_X4_has l_X4_101 s_X4_has ⟨by decide, by decide⟩ rfl rfl (Nat.le_of_ble_eq_true rfl) (c_X4_has cx τ (sSt s) k (by omega) (by omega)) ?_
    refine X_if_eq (pc' := 24) (tgt := 27) dX4_cheapest_21 rfl (by decide) (fun h_21 => ?_) (fun h_21 => ?_)
    · refine X_iconst (pc' := 28) (v := nI 0) dX4_cheapest_27 rfl (by decide) ?_
      refine X_istore_n (i := 2) (pc' := 29) (lv' := [(2, _), (0, _), (1, _)]) dX4_cheapest_28 rfl rfl (Nat.le_of_ble_eq_true rfl) rfl ?_
      refine X_aload_n (i := 0) (pc' := 30) dX4_cheapest_29 rfl rfl rfl ?_
      refine X_get (pc' := 33) (v := .ref 8) dX4_cheapest_30 rfl (gf_X4_23 _ rfl) o_W_1 rfl rfl ?_
      refine X_aload_n (i := 0) (pc' := 34) dX4_cheapest_33 rfl rfl rfl ?_
      refine X_get (pc' := 37) (v := .ref 12) dX4_cheapest_34 rfl (gf_X4_30 _ rfl) o_W_1 rfl rfl ?_
      refine X_iload_n (i := 1) (pc' := 38) dX4_cheapest_37 rfl rfl rfl ?_
      refine X_iconst (pc' := 39) (v := nI 0) dX4_cheapest_38 rfl (by decide) ?_
      refine X_aload_n (i := 0) (pc' := 40) dX4_cheapest_39 rfl rfl rfl ?_
      refine X_get (pc' := 43) (v := .ref 12) dX4_cheapest_40 rfl (gf_X4_30 _ rfl) o_W_1 rfl rfl ?_
      refine X_get (pc' := 46) (v := .int _) dX4_cheapest_43 rfl (gf_X4_98 _ rfl) o_W_12 rfl rfl ?_
      refine X_eqi (nI (sSt s)) (p1) ?_
      refine X_OIp (As := [_, _, _, _]) (rest := []) (pc' := 49) dX4_cheapest_46 rfl k_X3_costIn l_X4_111 v_X3_costIn o_W_8 rfl ⟨by decide, by decide⟩ rfl rfl (Nat.le_of_ble_eq_true rfl) (c_costIn cx τ hP hT (by decide) hs ho (by omega) hk (by decide) (by omega)) ?_
      refine X_istore_n (i := 3) (pc' := 50) (lv' := [(3, _), (2, _), (0, _), (1, _)]) dX4_cheapest_49 rfl rfl (Nat.le_of_ble_eq_true rfl) rfl ?_
      refine X_iconst (pc' := 51) (v := nI 1) dX4_cheapest_50 rfl (by decide) ?_
      refine X_istore (pc' := 53) (lv' := [(4, _), (3, _), (2, _), (0, _), (1, _)]) dX4_cheapest_51 rfl (Nat.le_of_ble_eq_true rfl) rfl ?_
      rw [if_neg (zI_0.mp h_21)]
      exact X_lv _ (by simp [bestN]) (l_cheapest cx τ ⟨hT, hs, hP, ho, hm⟩ hk rfl 0 τ (by omega) rfl)
    · refine X_bipush (pc' := 26) (v := (-3)) dX4_cheapest_24 rfl (by decide) ?_
      refine X_ri dX4_cheapest_26 rfl ⟨rfl, rfl⟩ ?_
      exact ⟨rfl, (if_pos (zI_1 h_21)).symm⟩
  · refine X_iconst (pc' := 9) (v := (-1)) dX4_cheapest_8 rfl (by decide) ?_
    refine X_ri dX4_cheapest_9 rfl ⟨rfl, rfl⟩ ?_
    exact ⟨rfl, (onL_out (zI_0.mp h_5)).symm⟩
end C2
