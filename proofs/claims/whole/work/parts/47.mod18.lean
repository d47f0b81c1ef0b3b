/-! ===== the model: share ===== -/
theorem ofI_add (a b : Int) : Int32.ofInt a + Int32.ofInt b = Int32.ofInt (a + b) := (Int32.ofInt_add a b).symm
theorem ofI_mul (a b : Int) : Int32.ofInt a * Int32.ofInt b = Int32.ofInt (a * b) := (Int32.ofInt_mul a b).symm
theorem ofI_sub (a b : Int) : Int32.ofInt a - Int32.ofInt b = Int32.ofInt (a - b) := (Int32.ofInt_sub a b).symm
/-- as xtl, and the leasts -/
def xtw (τ τ' : xT) : Prop := xeq [1, 4, 10] τ τ' ∧ (∀ i, i < 17 → τ'.1 4 i = τ.1 4 i) ∧ (∀ i, i ≠ 19 → τ'.1 1 i = τ.1 1 i) ∧ τ'.2.1 1 = τ.2.1 1
theorem xtw.rf {τ : xT} : xtw τ τ := ⟨xeq.rf, fun i hi => rfl, fun i hi => rfl, rfl⟩
theorem xtw.tr {τ τ' τ2 : xT} (h : xtw τ τ') (h2 : xtw τ' τ2) : xtw τ τ2 := ⟨h.1.tr h2.1, fun i hi => (h2.2.1 i hi).trans (h.2.1 i hi), fun i hi => (h2.2.2.1 i hi).trans (h.2.2.1 i hi), h2.2.2.2.trans h.2.2.2⟩
theorem xtw.of {τ τ' : xT} (h : xtl τ τ') : xtw τ τ' := ⟨h.1.mono (by simp), h.2⟩
theorem xtw.put {τ : xT} (j : Nat) (v : Int32) : xtw τ (xsi τ 10 j v) := ⟨xeq.rf.si (by simp), fun i hi => by rw [xsi_ne _ _ _ (by decide)], fun i hi => by rw [xsi_ne _ _ _ (by decide)], rfl⟩
theorem xtw.mt {τ τ' : xT} {P : PT} (h : xtw τ τ') (hs : MT τ P) : MT τ' P := hs.rows (fun i hi => h.2.2.1 i (by omega)) (h.1 2 (by decide)).1 (h.1 3 (by decide)).1
theorem xtw.ms {τ τ' : xT} {n : Nat} {s : SN} (hn : n ≤ 6) (h : xtw τ τ') (hs : MS τ 4 0 n s) : MS τ' 4 0 n s := hs.copy hn (fun i hi => by rw [Nat.zero_add]; exact h.2.1 i hi)
theorem RM.scw {τ τ' : xT} {m : Nat} {S : SA} (h : RM τ m S) (e : xtw τ τ') : RM τ' m S := by
  obtain ⟨g1, g2, g3, g4, g5, g6, g7, g8⟩ := h
  exact ⟨g1, fun i hi => by rw [(e.1 8 (by decide)).1]; exact g2 i hi, by rw [e.2.2.1 13 (by decide)]; exact g3, e.mt g4, e.ms g1.2.2.1.1 g5, g6.rows (e.2.2.1 17 (by decide)) (e.2.2.1 16 (by decide)) (e.1 9 (by decide)).1, g7.rows (e.1 11 (by decide)).1 (e.1 12 (by decide)).1, by rw [e.2.2.2]; exact g8⟩
section MW
variable (cx : xC)
set_option maxHeartbeats 4000000
set_option maxRecDepth 100000
/-- the share's first loop, behind the search -/
theorem l2_sh1 {τ' : xT} {all k j : Nat} {u : Int32} {v c : Int32} (hj : j < 64) (hv : v = -9 ∧ c = nI 999 ∨ v ≠ -9 ∧ c = v) {R : Int32 → xT → Prop} (ih : X cx m_X5_share PM (qI PM R) 51 [(4, .int (nI (j + 1))), (3, .int (nI all)), (0, .ref 1), (1, .int (nI k)), (2, .int u)] [] PM (xsi τ' 10 j c)) : X cx m_X5_share PM (qI PM R) 76 [(4, .int (nI j)), (3, .int (nI all)), (0, .ref 1), (1, .int (nI k)), (2, .int u)] [.int v] PM τ' := by
  refine X_istore (pc' := 78) (lv' := [(5, _), (4, _), (3, _), (0, _), (1, _), (2, _)]) dX5_share_76 rfl (Nat.le_of_ble_eq_true rfl) rfl ?_
  refine X_aload_n (i := 0) (pc' := 79) dX5_share_78 rfl rfl rfl ?_
  refine X_get (pc' := 82) (v := .ref 10) dX5_share_79 rfl (gf_X5_34 _ rfl) o_M_1 rfl rfl ?_
  refine X_iload (pc' := 84) dX5_share_82 rfl rfl ?_
  refine X_iload (pc' := 86) dX5_share_84 rfl rfl ?_
  refine X_bipush (pc' := 88) (v := (-9)) dX5_share_86 rfl (by decide) ?_
  refine X_icmp_ne (pc' := 91) (tgt := 97) dX5_share_88 rfl (by decide) (fun h_88 => ?_) (fun h_88 => ?_)
  · refine X_iload (pc' := 99) dX5_share_97 rfl rfl ?_
    refine X_iast (pc' := 100) (j := j) dX5_share_99 rfl r_M_10 (rfl) (hj) ?_
    refine X_iinc (pc' := 103) (v := nI (j + 1)) (lv' := [(4, _), (5, _), (3, _), (0, _), (1, _), (2, _)]) dX5_share_100 rfl rfl ((nI_succ j).symm) (Nat.le_of_ble_eq_true rfl) rfl ?_
    refine X_goto (pc' := 0) (tgt := 51) dX5_share_103 (by decide) ?_
    rcases hv with ⟨h1, h2⟩ | ⟨h1, h2⟩
    · first
        | (rw [h2] at ih
           exact X_lv _ (by simp) ih)
        | exact absurd h1 h_88
    · first
        | (rw [h2] at ih
           exact X_lv _ (by simp) ih)
        | exact absurd h_88 h1
  · refine X_sipush (pc' := 94) (v := nI 999) dX5_share_91 rfl (by decide) ?_
    refine X_goto (pc' := 0) (tgt := 99) dX5_share_94 (by decide) ?_
    refine X_iast (pc' := 100) (j := j) dX5_share_99 rfl r_M_10 (rfl) (hj) ?_
    refine X_iinc (pc' := 103) (v := nI (j + 1)) (lv' := [(4, _), (5, _), (3, _), (0, _), (1, _), (2, _)]) dX5_share_100 rfl rfl ((nI_succ j).symm) (Nat.le_of_ble_eq_true rfl) rfl ?_
    refine X_goto (pc' := 0) (tgt := 51) dX5_share_103 (by decide) ?_
    rcases hv with ⟨h1, h2⟩ | ⟨h1, h2⟩
    · first
        | (rw [h2] at ih
           exact X_lv _ (by simp) ih)
        | exact absurd h1 h_88
    · first
        | (rw [h2] at ih
           exact X_lv _ (by simp) ih)
        | exact absurd h_88 h1
theorem l2_share1 (τ : xT) {P : PT} (hP : Pok P) (h : MT τ P) {m : Nat} {s : SN} (hs : MS τ 4 0 (pn P) s) (ho : Sok P m s) (hm : m < 4000) {all : Nat} (ha : all < 2 ^ pn P) (hdis : all &&& sSt s = 0) {k : Nat} {u : Int32} {R : Int32 → xT → Prop}
    (hq : ∀ τ' : xT, xtw τ τ' → (∀ c, c ≤ all → c &&& all = c → τ'.1 10 c = nI (cS (bS P s all 28) c)) → X cx m_X5_share PM (qI PM R) 106 [(3, .int (nI all)), (0, .ref 1), (1, .int (nI k)), (2, .int u)] [] PM τ') : ∀ (j : Nat) (τ' : xT), j ≤ all + 1 → (xtw τ τ' ∧ ∀ c, c < j → c &&& all = c → τ'.1 10 c = nI (cS (bS P s all 28) c)) → X cx m_X5_share PM (qI PM R) 51 [(4, .int (nI j)), (3, .int (nI all)), (0, .ref 1), (1, .int (nI k)), (2, .int u)] [] PM τ' := by
  have hn6 := hP.1
  have h26 := two6 hP
  refine xloop _ _ (all + 1) (fun τ' g => ?_) (fun j τ' hj g ih => ?_)
  · refine X_iload (pc' := 53) dX5_share_51 rfl rfl ?_
    refine X_iload_n (i := 3) (pc' := 54) dX5_share_53 rfl rfl rfl ?_
    refine X_icmp_gt (pc' := 57) (tgt := 106) dX5_share_54 rfl (by decide) (fun h_54 => ?_) (fun h_54 => absurd (nI_lt (by omega) (by omega)) h_54)
    exact X_lv _ (by simp) (hq τ' g.1 (fun c hc => g.2 c (by omega)))
  · obtain ⟨g1, g2⟩ := g
    have hj64 : j < 64 := by omega
    have ha64 : all < 64 := by omega
    have hd64 : dif j all < 64 := dif_lt hj64
    by_cases hsub : j &&& all = j
    · have hz : dif j all = 0 := (dif_0 j hj64 all ha64).mpr hsub
      have hb := best_x (x := j) hP ho hm ha hdis hj64 hsub
      have hcl := cS_le (P := P) (s := s) (set := all) (x := j) hj64
      have hpl := d_leastOf cx τ' hP (g1.mt h) (g1.ms hn6 hs) ho hm (x := j) (by omega)
      have hfin : ∀ (τ2 : xT), xtl τ' τ2 → X cx m_X5_share PM (qI PM R) 51 [(4, .int (nI (j + 1))), (3, .int (nI all)), (0, .ref 1), (1, .int (nI k)), (2, .int u)] [] PM (xsi τ2 10 j (nI (cS (bS P s all 28) j))) := by
        intro τ2 e
        refine ih _ ⟨(g1.tr (xtw.of e)).tr (xtw.put _ _), fun c hc hcs => ?_⟩
        by_cases e3 : c = j
        · rw [e3, xsi_at]
        · rw [xsi_un _ _ e3, (e.1 10 (by decide)).1]
          exact g2 c (by omega) hcs
      refine X_iload (pc' := 53) dX5_share_51 rfl rfl ?_
      refine X_iload_n (i := 3) (pc' := 54) dX5_share_53 rfl rfl rfl ?_
      refine X_icmp_gt (pc' := 57) (tgt := 106) dX5_share_54 rfl (by decide) (fun h_54 => absurd h_54 (nI_nlt (by omega) (by omega))) (fun h_54 => ?_)
      refine X_iload (pc' := 59) dX5_share_57 rfl rfl ?_
      refine X_iload_n (i := 3) (pc' := 60) dX5_share_59 rfl rfl rfl ?_
      refine X_iconst (pc' := 61) (v := (-1)) dX5_share_60 rfl (by decide) ?_
      refine X_ixor (pc' := 62) dX5_share_61 rfl ?_
      refine X_iand (pc' := 63) dX5_share_62 rfl ?_
      refine X_eqi (nI (dif j all)) (dif_nI _ hj64 _ ha64) ?_
      refine X_if_ne (pc' := 66) (tgt := 75) dX5_share_63 rfl (by decide) (fun h_63 => absurd h_63 (fun q => q (by rw [hz]; rfl))) (fun h_63 => ?_)
      refine X_aload_n (i := 0) (pc' := 67) dX5_share_66 rfl rfl rfl ?_
      refine X_iload (pc' := 69) dX5_share_67 rfl rfl ?_
      refine X_OI (As := [_]) (rest := []) (pc' := 72) dX5_share_69 rfl k_X5_leastOf l_X5_157 v_X5_leastOf o_M_1 rfl ⟨by decide, by decide⟩ rfl rfl (Nat.le_of_ble_eq_true rfl) (hpl) (fun x_69 τ_69 h_69 => ?_)
      refine X_eqi (o9p (lsA P s j (4 ^ ones j))) (h_69.1) ?_
      refine X_goto (pc' := 0) (tgt := 76) dX5_share_72 (by decide) ?_
      refine l2_sh1 cx hj64 ?_ (hfin τ_69 h_69.2.1)
      rcases hl : lsA P s j (4 ^ ones j) with _ | qq
      · rw [hl] at hb
        exact Or.inl ⟨rfl, by unfold cS; rw [if_neg hb]⟩
      · rw [hl] at hb
        have hc : cS (bS P s all 28) j = qq.1 := by unfold cS; rw [if_pos hb.2.1]; exact hb.2.2.1
        rw [hc] at hcl ⊢
        exact Or.inr ⟨nI_ne9 (by omega), rfl⟩
    · have hz : ¬ dif j all = 0 := fun q => hsub ((dif_0 j hj64 all ha64).mp q)
      refine X_iload (pc' := 53) dX5_share_51 rfl rfl ?_
      refine X_iload_n (i := 3) (pc' := 54) dX5_share_53 rfl rfl rfl ?_
      refine X_icmp_gt (pc' := 57) (tgt := 106) dX5_share_54 rfl (by decide) (fun h_54 => absurd h_54 (nI_nlt (by omega) (by omega))) (fun h_54 => ?_)
      refine X_iload (pc' := 59) dX5_share_57 rfl rfl ?_
      refine X_iload_n (i := 3) (pc' := 60) dX5_share_59 rfl rfl rfl ?_
      refine X_iconst (pc' := 61) (v := (-1)) dX5_share_60 rfl (by decide) ?_
      refine X_ixor (pc' := 62) dX5_share_61 rfl ?_
      refine X_iand (pc' := 63) dX5_share_62 rfl ?_
      refine X_eqi (nI (dif j all)) (dif_nI _ hj64 _ ha64) ?_
      refine X_if_ne (pc' := 66) (tgt := 75) dX5_share_63 rfl (by decide) (fun h_63 => ?_) (fun h_63 => absurd h_63 (fun q => hz ((nI_eq (by omega) (by decide)).mp q)))
      refine X_iconst (pc' := 76) (v := nI 0) dX5_share_75 rfl (by decide) ?_
      refine l2_sh1 cx hj64 (Or.inr ⟨by decide, rfl⟩) (ih _ ⟨g1.tr (xtw.put _ _), fun c hc hcs => ?_⟩)
      by_cases e3 : c = j
      · rw [e3] at hcs; exact absurd hcs hsub
      · rw [xsi_un _ _ e3]; exact g2 c (by omega) hcs
theorem l2_share2 {τ' : xT} {P : PT} (hP : Pok P) {s : SN} {all k : Nat} (ha : all < 64) (hk : k < 6) (hka : bt all k) (hc10 : ∀ c, c ≤ all → c &&& all = c → τ'.1 10 c = nI (cS (bS P s all 28) c)) (u : Prop) [Decidable u] {R : Int32 → xT → Prop} (hR : R (fracF (shN (bS P s all 28) k (dif all (2 ^ k)) 64) (fac (ones (dif all (2 ^ k)) + 1)) u) τ') : ∀ (c : Nat) (z : Unit), c ≤ all + 1 → True → X cx m_X5_share PM (qI PM R) 112 [(5, .int (nI c)), (4, .int (Int32.ofInt (shN (bS P s all 28) k (dif all (2 ^ k)) c))), (3, .int (nI all)), (0, .ref 1), (1, .int (nI k)), (2, .int (zI u))] [] PM τ' := by
  have oo := others_of all ha k hk hka
  have oa := ones_le all
  have hot : dif all (2 ^ k) < 64 := dif_lt ha
  have hol : dif all (2 ^ k) ≤ all := Nat.and_le_left
  have h2k : 2 ^ k < 2 ^ 6 := pow_lt hk
  refine xloop _ _ (all + 1) (fun _ _ => ?_) (fun c _ hc _ ih => ?_)
  · have bd := shN_bd2 (P := P) (s := s) (set := all) hk hot (by omega) (all + 1) (by omega)
    have he : shN (bS P s all 28) k (dif all (2 ^ k)) 64 = shN (bS P s all 28) k (dif all (2 ^ k)) (all + 1) := by
      have := shN_end (b := bS P s all 28) (k := k) (others := dif all (2 ^ k)) (64 - (all + 1)) (all + 1) (by omega)
      rwa [show all + 1 + (64 - (all + 1)) = 64 by omega] at this
    rw [he, oo] at hR
    generalize shN (bS P s all 28) k (dif all (2 ^ k)) (all + 1) = a at *
    have f := fac_le (ones all) (by omega)
    have hg0 : 0 < Nat.gcd a.natAbs (fac (ones all)) := Nat.gcd_pos_of_pos_right _ f.2
    have hgb : Nat.gcd a.natAbs (fac (ones all)) ≤ fac (ones all) := Nat.gcd_le_right _ f.2
    have hne : ¬ nI (Nat.gcd a.natAbs (fac (ones all))) = 0 := fun q => absurd ((nI_eq (by omega) (by decide)).mp q) (Nat.ne_of_gt hg0)
    refine X_iload (pc' := 114) dX5_share_112 rfl rfl ?_
    refine X_iload_n (i := 3) (pc' := 115) dX5_share_114 rfl rfl rfl ?_
    refine X_icmp_gt (pc' := 118) (tgt := 195) dX5_share_115 rfl (by decide) (fun h_115 => ?_) (fun h_115 => absurd (nI_lt (by omega) (by omega)) h_115)
    refine X_iload (pc' := 197) dX5_share_195 rfl rfl ?_
    refine X_iload_n (i := 3) (pc' := 198) dX5_share_197 rfl rfl rfl ?_
    refine X_SIp (As := [_]) (rest := [_]) (pc' := 201) dX5_share_198 rfl k_X5_ones l_X5_105 s_X5_ones ⟨by decide, by decide⟩ rfl rfl (Nat.le_of_ble_eq_true rfl) (d_ones cx τ' all ha) ?_
    refine X_SIp (As := [_]) (rest := [_]) (pc' := 204) dX5_share_201 rfl k_X5_factorial l_X5_178 s_X5_factorial ⟨by decide, by decide⟩ rfl rfl (Nat.le_of_ble_eq_true rfl) (d_factorial cx τ' (ones all) oa) ?_
    refine X_SIp (As := [_, _]) (rest := []) (pc' := 207) dX5_share_204 rfl k_X5_common l_X5_181 s_X5_common ⟨by decide, by decide⟩ rfl rfl (Nat.le_of_ble_eq_true rfl) (d_common cx τ' a (fac (ones all)) (by omega) (by omega) (by omega)) ?_
    refine X_istore (pc' := 209) (lv' := [(5, _), (4, _), (3, _), (0, _), (1, _), (2, _)]) dX5_share_207 rfl (Nat.le_of_ble_eq_true rfl) rfl ?_
    refine X_iload_n (i := 2) (pc' := 210) dX5_share_209 rfl rfl rfl ?_
    refine X_if_eq (pc' := 213) (tgt := 221) dX5_share_210 rfl (by decide) (fun h_210 => ?_) (fun h_210 => ?_)
    · refine X_iload_n (i := 3) (pc' := 222) dX5_share_221 rfl rfl rfl ?_
      refine X_SIp (As := [_]) (rest := []) (pc' := 225) dX5_share_222 rfl k_X5_ones l_X5_105 s_X5_ones ⟨by decide, by decide⟩ rfl rfl (Nat.le_of_ble_eq_true rfl) (d_ones cx τ' all ha) ?_
      refine X_SIp (As := [_]) (rest := []) (pc' := 228) dX5_share_225 rfl k_X5_factorial l_X5_178 s_X5_factorial ⟨by decide, by decide⟩ rfl rfl (Nat.le_of_ble_eq_true rfl) (d_factorial cx τ' (ones all) oa) ?_
      refine X_iload (pc' := 230) dX5_share_228 rfl rfl ?_
      refine X_idiv (pc' := 231) dX5_share_230 rfl (hne) ?_
      refine X_eqi (nI (fac (ones all) / Nat.gcd a.natAbs (fac (ones all)))) (pk_div (by omega) hg0 (by omega)) ?_
      refine X_ri dX5_share_231 rfl ⟨rfl, rfl⟩ ?_
      unfold fracF at hR
      first
        | (rw [if_neg (zI_0.mp h_210)] at hR; exact hR)
        | (rw [if_pos (zI_1 h_210)] at hR; exact hR)
    · refine X_iload (pc' := 215) dX5_share_213 rfl rfl ?_
      refine X_iload (pc' := 217) dX5_share_215 rfl rfl ?_
      refine X_idiv (pc' := 218) dX5_share_217 rfl (hne) ?_
      refine X_eqi (Int32.ofInt (a.tdiv (Nat.gcd a.natAbs (fac (ones all)) : Nat))) (by rw [← iI_nat (Nat.gcd a.natAbs (fac (ones all))), ofI_tdiv (by omega) (by omega) (by omega) (by omega)]) ?_
      refine X_goto (pc' := 0) (tgt := 231) dX5_share_218 (by decide) ?_
      refine X_ri dX5_share_231 rfl ⟨rfl, rfl⟩ ?_
      unfold fracF at hR
      first
        | (rw [if_neg (zI_0.mp h_210)] at hR; exact hR)
        | (rw [if_pos (zI_1 h_210)] at hR; exact hR)
  · have hc64 : c < 64 := by omega
    have oc := ones_le c
    have hd64 : dif c all < 64 := dif_lt hc64
    have hbb : shN (bS P s all 28) k (dif all (2 ^ k)) (c + 1) = shN (bS P s all 28) k (dif all (2 ^ k)) c + (if c &&& dif all (2 ^ k) = c then ((fac (ones c) * fac (ones (dif all (2 ^ k)) - ones c) : Nat) : Int) * ((cS (bS P s all 28) (c ||| 2 ^ k) : Int) - cS (bS P s all 28) c) else 0) := rfl
    have hih := ih () trivial
    by_cases hsub : c &&& dif all (2 ^ k) = c
    · obtain ⟨hca, hck⟩ := (others_and c hc64 all ha k hk).mpr hsub
      have hz : dif c all = 0 := (dif_0 c hc64 all ha).mpr hca
      have hos := ones_sub c hc64 _ hot hsub
      have hor := others_or c hc64 all ha k hk hka hca
      have hole : c ||| 2 ^ k ≤ all := by rw [← hor]; exact Nat.and_le_right
      rw [hbb, if_pos hsub] at hih
      refine X_iload (pc' := 114) dX5_share_112 rfl rfl ?_
      refine X_iload_n (i := 3) (pc' := 115) dX5_share_114 rfl rfl rfl ?_
      refine X_icmp_gt (pc' := 118) (tgt := 195) dX5_share_115 rfl (by decide) (fun h_115 => absurd h_115 (nI_nlt (by omega) (by omega))) (fun h_115 => ?_)
      refine X_iload (pc' := 120) dX5_share_118 rfl rfl ?_
      refine X_iload_n (i := 3) (pc' := 121) dX5_share_120 rfl rfl rfl ?_
      refine X_iconst (pc' := 122) (v := (-1)) dX5_share_121 rfl (by decide) ?_
      refine X_ixor (pc' := 123) dX5_share_122 rfl ?_
      refine X_iand (pc' := 124) dX5_share_123 rfl ?_
      refine X_eqi (nI (dif c all)) (dif_nI _ hc64 _ ha) ?_
      refine X_if_ne (pc' := 127) (tgt := 189) dX5_share_124 rfl (by decide) (fun h_124 => absurd h_124 (fun q => q (by rw [hz]; rfl))) (fun h_124 => ?_)
      refine X_iload (pc' := 129) dX5_share_127 rfl rfl ?_
      refine X_iload_n (i := 1) (pc' := 130) dX5_share_129 rfl rfl rfl ?_
      refine X_SIp (As := [_, _]) (rest := []) (pc' := 133) dX5_share_130 rfl k_X5_has l_X5_65 s_X5_has ⟨by decide, by decide⟩ rfl rfl (Nat.le_of_ble_eq_true rfl) (d_has cx τ' c k (by omega) (by omega)) ?_
      refine X_if_ne (pc' := 136) (tgt := 189) dX5_share_133 rfl (by decide) (fun h_133 => absurd h_133 (fun q => q (zI_0.mpr hck))) (fun h_133 => ?_)
      refine X_iload (pc' := 138) dX5_share_136 rfl rfl ?_
      refine X_SIp (As := [_]) (rest := []) (pc' := 141) dX5_share_138 rfl k_X5_ones l_X5_105 s_X5_ones ⟨by decide, by decide⟩ rfl rfl (Nat.le_of_ble_eq_true rfl) (d_ones cx τ' c hc64) ?_
      refine X_SIp (As := [_]) (rest := []) (pc' := 144) dX5_share_141 rfl k_X5_factorial l_X5_178 s_X5_factorial ⟨by decide, by decide⟩ rfl rfl (Nat.le_of_ble_eq_true rfl) (d_factorial cx τ' (ones c) oc) ?_
      refine X_iload_n (i := 3) (pc' := 145) dX5_share_144 rfl rfl rfl ?_
      refine X_SIp (As := [_]) (rest := [_]) (pc' := 148) dX5_share_145 rfl k_X5_ones l_X5_105 s_X5_ones ⟨by decide, by decide⟩ rfl rfl (Nat.le_of_ble_eq_true rfl) (d_ones cx τ' all ha) ?_
      refine X_iconst (pc' := 149) (v := nI 1) dX5_share_148 rfl (by decide) ?_
      refine X_isub (pc' := 150) dX5_share_149 rfl ?_
      refine X_eqi (nI (ones (dif all (2 ^ k)))) (by rw [← oo]; exact pk_sub (Nat.le_add_left _ _)) ?_
      refine X_iload (pc' := 152) dX5_share_150 rfl rfl ?_
      refine X_SIp (As := [_]) (rest := [_, _]) (pc' := 155) dX5_share_152 rfl k_X5_ones l_X5_105 s_X5_ones ⟨by decide, by decide⟩ rfl rfl (Nat.le_of_ble_eq_true rfl) (d_ones cx τ' c hc64) ?_
      refine X_isub (pc' := 156) dX5_share_155 rfl ?_
      refine X_eqi (nI (ones (dif all (2 ^ k)) - ones c)) (pk_sub hos) ?_
      refine X_SIp (As := [_]) (rest := [_]) (pc' := 159) dX5_share_156 rfl k_X5_factorial l_X5_178 s_X5_factorial ⟨by decide, by decide⟩ rfl rfl (Nat.le_of_ble_eq_true rfl) (d_factorial cx τ' (ones (dif all (2 ^ k)) - ones c) (by omega)) ?_
      refine X_imul (pc' := 160) dX5_share_159 rfl ?_
      refine X_eqi (nI (fac (ones c) * fac (ones (dif all (2 ^ k)) - ones c))) (pk_mul _ _) ?_
      refine X_istore (pc' := 162) (lv' := [(6, _), (5, _), (4, _), (3, _), (0, _), (1, _), (2, _)]) dX5_share_160 rfl (Nat.le_of_ble_eq_true rfl) rfl ?_
      refine X_iload (pc' := 164) dX5_share_162 rfl rfl ?_
      refine X_iload (pc' := 166) dX5_share_164 rfl rfl ?_
      refine X_aload_n (i := 0) (pc' := 167) dX5_share_166 rfl rfl rfl ?_
      refine X_get (pc' := 170) (v := .ref 10) dX5_share_167 rfl (gf_X5_34 _ rfl) o_M_1 rfl rfl ?_
      refine X_iload (pc' := 172) dX5_share_170 rfl rfl ?_
      refine X_iconst (pc' := 173) (v := nI 1) dX5_share_172 rfl (by decide) ?_
      refine X_iload_n (i := 1) (pc' := 174) dX5_share_173 rfl rfl rfl ?_
      refine X_ishl (pc' := 175) dX5_share_174 rfl ?_
      refine X_eqi (nI (2 ^ k)) (bt_shl (by omega)) ?_
      refine X_ior (pc' := 176) dX5_share_175 rfl ?_
      refine X_iald (pc' := 177) (j := c ||| 2 ^ k) dX5_share_176 rfl (Or.inl r_M_10) (nI_or (by omega) (by omega)) (by omega) ?_
      refine X_eqi (nI (cS (bS P s all 28) (c ||| 2 ^ k))) (hc10 _ hole hor) ?_
      refine X_aload_n (i := 0) (pc' := 178) dX5_share_177 rfl rfl rfl ?_
      refine X_get (pc' := 181) (v := .ref 10) dX5_share_178 rfl (gf_X5_34 _ rfl) o_M_1 rfl rfl ?_
      refine X_iload (pc' := 183) dX5_share_181 rfl rfl ?_
      refine X_iald (pc' := 184) (j := c) dX5_share_183 rfl (Or.inl r_M_10) (rfl) (by omega) ?_
      refine X_eqi (nI (cS (bS P s all 28) c)) (hc10 c (by omega) hca) ?_
      refine X_isub (pc' := 185) dX5_share_184 rfl ?_
      refine X_eqi (Int32.ofInt ((cS (bS P s all 28) (c ||| 2 ^ k) : Int) - cS (bS P s all 28) c)) (by rw [← iI_nat, ← iI_nat, ofI_sub]) ?_
      refine X_imul (pc' := 186) dX5_share_185 rfl ?_
      refine X_eqi (Int32.ofInt (((fac (ones c) * fac (ones (dif all (2 ^ k)) - ones c) : Nat) : Int) * ((cS (bS P s all 28) (c ||| 2 ^ k) : Int) - cS (bS P s all 28) c))) (by rw [← iI_nat, ofI_mul]) ?_
      refine X_iadd (pc' := 187) dX5_share_186 rfl ?_
      refine X_eqi (Int32.ofInt (shN (bS P s all 28) k (dif all (2 ^ k)) c + ((fac (ones c) * fac (ones (dif all (2 ^ k)) - ones c) : Nat) : Int) * ((cS (bS P s all 28) (c ||| 2 ^ k) : Int) - cS (bS P s all 28) c))) (ofI_add _ _) ?_
      refine X_istore (pc' := 189) (lv' := [(4, _), (6, _), (5, _), (3, _), (0, _), (1, _), (2, _)]) dX5_share_187 rfl (Nat.le_of_ble_eq_true rfl) rfl ?_
      refine X_iinc (pc' := 192) (v := nI (c + 1)) (lv' := [(5, _), (4, _), (6, _), (3, _), (0, _), (1, _), (2, _)]) dX5_share_189 rfl rfl ((nI_succ c).symm) (Nat.le_of_ble_eq_true rfl) rfl ?_
      refine X_goto (pc' := 0) (tgt := 112) dX5_share_192 (by decide) ?_
      exact X_lv _ (by simp) hih
    · rw [hbb, if_neg hsub, Int.add_zero] at hih
      refine X_iload (pc' := 114) dX5_share_112 rfl rfl ?_
      refine X_iload_n (i := 3) (pc' := 115) dX5_share_114 rfl rfl rfl ?_
      refine X_icmp_gt (pc' := 118) (tgt := 195) dX5_share_115 rfl (by decide) (fun h_115 => absurd h_115 (nI_nlt (by omega) (by omega))) (fun h_115 => ?_)
      refine X_iload (pc' := 120) dX5_share_118 rfl rfl ?_
      refine X_iload_n (i := 3) (pc' := 121) dX5_share_120 rfl rfl rfl ?_
      refine X_iconst (pc' := 122) (v := (-1)) dX5_share_121 rfl (by decide) ?_
      refine X_ixor (pc' := 123) dX5_share_122 rfl ?_
      refine X_iand (pc' := 124) dX5_share_123 rfl ?_
      refine X_eqi (nI (dif c all)) (dif_nI _ hc64 _ ha) ?_
      refine X_if_ne (pc' := 127) (tgt := 189) dX5_share_124 rfl (by decide) (fun h_124 => ?_) (fun h_124 => ?_)
      · refine X_iinc (pc' := 192) (v := nI (c + 1)) (lv' := [(5, _), (4, _), (3, _), (0, _), (1, _), (2, _)]) dX5_share_189 rfl rfl ((nI_succ c).symm) (Nat.le_of_ble_eq_true rfl) rfl ?_
        refine X_goto (pc' := 0) (tgt := 112) dX5_share_192 (by decide) ?_
        exact X_lv _ (by simp) hih
      · refine X_iload (pc' := 129) dX5_share_127 rfl rfl ?_
        refine X_iload_n (i := 1) (pc' := 130) dX5_share_129 rfl rfl rfl ?_
        refine X_SIp (As := [_, _]) (rest := []) (pc' := 133) dX5_share_130 rfl k_X5_has l_X5_65 s_X5_has ⟨by decide, by decide⟩ rfl rfl (Nat.le_of_ble_eq_true rfl) (d_has cx τ' c k (by omega) (by omega)) ?_
        refine X_if_ne (pc' := 136) (tgt := 189) dX5_share_133 rfl (by decide) (fun h_133 => ?_) (fun h_133 => ?_)
        · refine X_iinc (pc' := 192) (v := nI (c + 1)) (lv' := [(5, _), (4, _), (3, _), (0, _), (1, _), (2, _)]) dX5_share_189 rfl rfl ((nI_succ c).symm) (Nat.le_of_ble_eq_true rfl) rfl ?_
          refine X_goto (pc' := 0) (tgt := 112) dX5_share_192 (by decide) ?_
          exact X_lv _ (by simp) hih
        · exact absurd ((others_and c hc64 all ha k hk).mp ⟨(dif_0 c hc64 all ha).mp ((nI_eq (by omega) (by decide)).mp h_124), zI_0.mp h_133⟩) hsub
theorem l2_sh106 {τ' : xT} {P : PT} (hP : Pok P) {s : SN} {all k : Nat} (ha : all < 64) (hk : k < 6) (hka : bt all k) (hc10 : ∀ c, c ≤ all → c &&& all = c → τ'.1 10 c = nI (cS (bS P s all 28) c)) (u : Prop) [Decidable u] {R : Int32 → xT → Prop} (hR : R (fracF (shN (bS P s all 28) k (dif all (2 ^ k)) 64) (fac (ones (dif all (2 ^ k)) + 1)) u) τ') : X cx m_X5_share PM (qI PM R) 106 [(3, .int (nI all)), (0, .ref 1), (1, .int (nI k)), (2, .int (zI u))] [] PM τ' := by
  have hl := l2_share2 cx hP ha hk hka hc10 u hR 0 () (Nat.zero_le _) trivial
  rw [show Int32.ofInt (shN (bS P s all 28) k (dif all (2 ^ k)) 0) = nI 0 from iI_nat 0] at hl
  refine X_iconst (pc' := 107) (v := nI 0) dX5_share_106 rfl (by decide) ?_
  refine X_istore (pc' := 109) (lv' := [(4, _), (3, _), (0, _), (1, _), (2, _)]) dX5_share_107 rfl (Nat.le_of_ble_eq_true rfl) rfl ?_
  refine X_iconst (pc' := 110) (v := nI 0) dX5_share_109 rfl (by decide) ?_
  refine X_istore (pc' := 112) (lv' := [(5, _), (4, _), (3, _), (0, _), (1, _), (2, _)]) dX5_share_110 rfl (Nat.le_of_ble_eq_true rfl) rfl ?_
  exact X_lv _ (by simp) hl
theorem rest_dis : ∀ n, n < 7 → ∀ s, s < 64 → s < 2 ^ n → (2 ^ n - 1 - s) &&& s = 0 := by decide +kernel
theorem rest_bt : ∀ n, n < 7 → ∀ s, s < 64 → ∀ k, k < 6 → ((s < 2 ^ n ∧ k < n ∧ ¬ bt s k) → bt (2 ^ n - 1 - s) k) := by decide +kernel
theorem d_share (τ : xT) {S : SA} {m : Nat} (h : RM τ m S) (hm : m < 4000) (l : Int32) (u : Prop) [Decidable u] : CI cx m_X5_share [.ref 1, .int l, .int (zI u)] PM τ (fun x τ' => x = shareF (aP S) (aS S) l u ∧ RM τ' (m + 1) S) := by
  obtain ⟨g1, g2, g3, g4, g5, g6, g7, g8⟩ := id h
  have hP := g1.2.2.1
  have ho := g1.2.2.2.1
  have hn6 := hP.1
  have h26 := two6 hP
  have hst := ho.2.1
  have ht0 := Nat.two_pow_pos (pn (aP S))
  refine Ct_of (by decide) (Nat.le_of_ble_eq_true rfl) (lv := [(0, _), (1, _), (2, _)]) rfl ?_
  refine X_aload_n (i := 0) (pc' := 1) dX5_share_0 rfl rfl rfl ?_
  refine X_iload_n (i := 1) (pc' := 2) dX5_share_1 rfl rfl rfl ?_
  refine X_OIp (As := [_]) (rest := []) (pc' := 5) dX5_share_2 rfl k_X5_isLetter l_X5_112 v_X5_isLetter o_M_1 rfl ⟨by decide, by decide⟩ rfl rfl (Nat.le_of_ble_eq_true rfl) (d_isLetter cx τ hP g4 l) ?_
  refine X_if_ne (pc' := 8) (tgt := 10) dX5_share_5 rfl (by decide) (fun h_5 => ?_) (fun h_5 => ?_)
  · obtain ⟨k, hk, rfl⟩ := kn_of (zI_1 h_5)
    rw [shareF, onL_in hP hk]
    refine X_aload_n (i := 0) (pc' := 11) dX5_share_10 rfl rfl rfl ?_
    refine X_iconst (pc' := 12) (v := nI 0) dX5_share_11 rfl (by decide) ?_
    refine X_iload_n (i := 1) (pc' := 13) dX5_share_12 rfl rfl rfl ?_
    refine X_OIp (As := [_, _]) (rest := []) (pc' := 16) dX5_share_13 rfl k_X5_isSent l_X5_116 v_X5_isSent o_M_1 rfl ⟨by decide, by decide⟩ rfl rfl (Nat.le_of_ble_eq_true rfl) (d_isSent cx τ (lev := 0) (by decide) g5 (by omega) (show k < 31 by omega)) ?_
    refine X_if_eq (pc' := 19) (tgt := 29) dX5_share_16 rfl (by decide) (fun h_16 => ?_) (fun h_16 => ?_)
    · rw [if_neg (zI_0.mp h_16)]
      have hrd := rest_dis (pn (aP S)) (by omega) (sSt (aS S)) (by omega) hst
      have hrb := rest_bt (pn (aP S)) (by omega) (sSt (aS S)) (by omega) k (by omega) ⟨hst, hk, zI_0.mp h_16⟩
      refine X_iconst (pc' := 30) (v := nI 1) dX5_share_29 rfl (by decide) ?_
      refine X_aload_n (i := 0) (pc' := 31) dX5_share_30 rfl rfl rfl ?_
      refine X_get (pc' := 34) (v := .int _) dX5_share_31 rfl (gf_X5_96 _ rfl) o_M_1 rfl rfl ?_
      refine X_eqi (nI (pn (aP S))) (g4.1) ?_
      refine X_ishl (pc' := 35) dX5_share_34 rfl ?_
      refine X_eqi (nI (2 ^ pn (aP S))) (bt_shl (by omega)) ?_
      refine X_iconst (pc' := 36) (v := nI 1) dX5_share_35 rfl (by decide) ?_
      refine X_isub (pc' := 37) dX5_share_36 rfl ?_
      refine X_eqi (nI (2 ^ pn (aP S) - 1)) (pk_sub ht0) ?_
      refine X_aload_n (i := 0) (pc' := 38) dX5_share_37 rfl rfl rfl ?_
      refine X_get (pc' := 41) (v := .ref 4) dX5_share_38 rfl (gf_X5_16 _ rfl) o_M_1 rfl rfl ?_
      refine X_bipush (pc' := 43) (v := nI 13) dX5_share_41 rfl (by decide) ?_
      refine X_iald (pc' := 44) (j := 13) dX5_share_43 rfl (Or.inl r_M_4) (rfl) (by decide) ?_
      refine X_eqi (nI (sSt (aS S))) (g5.2.2.2.1) ?_
      refine X_iconst (pc' := 45) (v := (-1)) dX5_share_44 rfl (by decide) ?_
      refine X_ixor (pc' := 46) dX5_share_45 rfl ?_
      refine X_iand (pc' := 47) dX5_share_46 rfl ?_
      refine X_eqi (nI (2 ^ pn (aP S) - 1 - sSt (aS S))) (by rw [dif_nI _ (by omega) _ (by omega), dif_all _ hn6 _ (by omega) (by omega)]) ?_
      refine X_istore_n (i := 3) (pc' := 48) (lv' := [(3, _), (0, _), (1, _), (2, _)]) dX5_share_47 rfl rfl (Nat.le_of_ble_eq_true rfl) rfl ?_
      refine X_iconst (pc' := 49) (v := nI 0) dX5_share_48 rfl (by decide) ?_
      refine X_istore (pc' := 51) (lv' := [(4, _), (3, _), (0, _), (1, _), (2, _)]) dX5_share_49 rfl (Nat.le_of_ble_eq_true rfl) rfl ?_
      exact X_lv _ (by simp) (l2_share1 cx τ hP g4 g5 ho hm (all := 2 ^ pn (aP S) - 1 - sSt (aS S)) (by omega) hrd (R := fun x τ' => x = fracF (shN (bS (aP S) (aS S) (2 ^ pn (aP S) - 1 - sSt (aS S)) 28) k (dif (2 ^ pn (aP S) - 1 - sSt (aS S)) (2 ^ k)) 64) (fac (ones (dif (2 ^ pn (aP S) - 1 - sSt (aS S)) (2 ^ k)) + 1)) u ∧ RM τ' (m + 1) S) (fun τ' e ec => l2_sh106 cx hP (by omega) (by omega) hrb ec u ⟨rfl, (h.mono (by omega)).scw e⟩) 0 τ (Nat.zero_le _) ⟨xtw.rf, fun c hc => absurd hc (Nat.not_lt_zero c)⟩)
    · refine X_iload_n (i := 2) (pc' := 20) dX5_share_19 rfl rfl rfl ?_
      refine X_if_eq (pc' := 23) (tgt := 27) dX5_share_20 rfl (by decide) (fun h_20 => ?_) (fun h_20 => ?_)
      · refine X_iconst (pc' := 28) (v := nI 1) dX5_share_27 rfl (by decide) ?_
        refine X_ri dX5_share_28 rfl ⟨rfl, rfl⟩ ?_
        rw [if_pos (zI_1 h_16)]
        refine ⟨?_, h.mono (by omega)⟩
        first
          | (rw [if_neg (zI_0.mp h_20)])
          | (rw [if_pos (zI_1 h_20)])
      · refine X_iconst (pc' := 24) (v := nI 0) dX5_share_23 rfl (by decide) ?_
        refine X_goto (pc' := 0) (tgt := 28) dX5_share_24 (by decide) ?_
        refine X_ri dX5_share_28 rfl ⟨rfl, rfl⟩ ?_
        rw [if_pos (zI_1 h_16)]
        refine ⟨?_, h.mono (by omega)⟩
        first
          | (rw [if_neg (zI_0.mp h_20)])
          | (rw [if_pos (zI_1 h_20)])
  · refine X_iconst (pc' := 9) (v := (-1)) dX5_share_8 rfl (by decide) ?_
    refine X_ri dX5_share_9 rfl ⟨rfl, rfl⟩ ?_
    exact ⟨(onL_out (zI_0.mp h_5)).symm, h.mono (by omega)⟩
end MW
