/-! ===== the model: who explains whom; the text's whole reading; fault, post ===== -/
theorem rdP_ok {T : Nat → Nat} : ∀ {i : Nat} {q : PS}, rdP T i = .inl q → Rok q := by
  intro i
  induction i with
  | zero => intro q h; cases h; exact rdI_ok
  | succ i ih =>
    intro q h
    rcases h0 : rdP T i with q0 | j
    · rw [rdP_s h0] at h
      rcases hs : rdS q0 (T i) with _ | q1
      · rw [hs] at h; cases h
      · rw [hs] at h
        cases h
        exact rdS_ok (ih h0) hs
    · have := rdP_inr 1 h0
      rw [this] at h; cases h
section MQ
variable (cx : xC)
set_option maxHeartbeats 4000000
set_option maxRecDepth 100000
theorem l2_rE {τ τ' : xT} {T : Nat → Nat} {L i a : Nat} {P : PT} {w : Nat → Nat} (hn : pn P ≤ 6) (hx : ∀ k, k < 6 → px P k < 64) (hE : EXok P) (hX : TX τ' T L) (hr : xrd τ τ') (hG : RG τ' P w) (hfa : τ'.1 1 15 = -9) (hat : τ'.1 1 14 = nI i) (hi : i < L) (hq : rdP T i = .inl (3, a, P, w)) (h69 : T i = 69) (ho : hasOp P)
    (hgo : ∀ (τ2 : xT) (q : PS), xrd τ τ2 → RG τ2 q.2.2.1 q.2.2.2 → τ2.1 1 15 = -9 → τ2.1 1 14 = nI (i + 3) → i + 3 ≤ L → q.1 = 3 → rdP T (i + 3) = .inl q → EXok q.2.2.1 → X cx m_X5_readText PM (qI PM (RR T L τ)) 83 [(0, .ref 1)] [] PM τ2) : X cx m_X5_readText PM (qI PM (RR T L τ)) 83 [(0, .ref 1)] [] PM τ' := by
  have hL := hX.2.2.1
  have hX1 : TX (xsi τ' 1 14 (nI (i + 1))) T L := hX.s1 _ (by decide)
  have hfa1 : (xsi τ' 1 14 (nI (i + 1))).1 1 15 = -9 := by rw [xsi_un _ _ (by decide)]; exact hfa
  have hat1 : (xsi τ' 1 14 (nI (i + 1))).1 1 14 = nI (i + 1) := xsi_at _ _ _ _
  have h91 : (xsi τ' 1 14 (nI (i + 1))).1 1 9 = nI (pn P) := by rw [xsi_un _ _ (by decide)]; exact hG.1
  have h71 : ∀ k, k < 6 → (xsi τ' 1 14 (nI (i + 1))).1 7 k = nI (px P k) := fun k hk => by rw [xsi_ne _ _ _ (by decide)]; exact hG.2.2.2.2.2 k hk
  have hq1 : rdP T (i + 1) = .inl (6, a, P, w) := rdP_go hq (by rw [rdS3, if_neg (by omega), if_pos ⟨h69, ho⟩])
  have hfn := (hasOp_fir hn hE).mp ho
  have hf64 := (firN_bt P (pn P) hn).1
  have hfz : ¬ nI (firN P (pn P)) = 0 := fun q => hfn ((nI_eq (by omega) (by decide)).mp q)
  by_cases hg1 : ∃ f, i + 1 < L ∧ fig (T (i + 1)) = some f ∧ isOp P f
  · obtain ⟨f, hi1, hf, hop⟩ := hg1
    have hf9 := fig_le hf
    have hfp := hop.1
    have hq2 : rdP T (i + 2) = .inl (7, f, P, w) := rdP_go hq1 (by rw [rdS6, hf]; exact if_pos hop)
    have hX2 : TX (xsi (xsi τ' 1 14 (nI (i + 1))) 1 14 (nI (i + 1 + 1))) T L := hX1.s1 _ (by decide)
    have hfa2 : (xsi (xsi τ' 1 14 (nI (i + 1))) 1 14 (nI (i + 1 + 1))).1 1 15 = -9 := by rw [xsi_un _ _ (by decide)]; exact hfa1
    have hat2 : (xsi (xsi τ' 1 14 (nI (i + 1))) 1 14 (nI (i + 1 + 1))).1 1 14 = nI (i + 1 + 1) := xsi_at _ _ _ _
    have h92 : (xsi (xsi τ' 1 14 (nI (i + 1))) 1 14 (nI (i + 1 + 1))).1 1 9 = nI (pn P) := by rw [xsi_un _ _ (by decide)]; exact h91
    have h72 : ∀ k, k < 6 → (xsi (xsi τ' 1 14 (nI (i + 1))) 1 14 (nI (i + 1 + 1))).1 7 k = nI (px P k) := fun k hk => by rw [xsi_ne _ _ _ (by decide)]; exact h71 k hk
    have hl64 := (lefN_bt P f (pn P) hn).1
    by_cases hg2 : ∃ g, i + 2 < L ∧ fig (T (i + 2)) = some g ∧ (g < pn P ∧ g ≠ f ∧ ¬ bt (px P g) f)
    · obtain ⟨g, hi2, hg, hgc⟩ := hg2
      have hg6 : g < 6 := by omega
      have hxg := hx g hg6
      have h2f : 2 ^ f < 2 ^ 6 := pow_lt (by omega)
      have hq3 := rdP_go hq2 (by rw [rdS7, hg]; exact if_pos hgc)
      refine X_aload_n (i := 0) (pc' := 84) dX5_readText_83 rfl rfl rfl ?_
      refine X_get (pc' := 87) (v := .int _) dX5_readText_84 rfl (gf_X5_57 _ rfl) o_M_1 rfl rfl ?_
      refine X_eqi (-9) (hfa) ?_
      refine X_bipush (pc' := 89) (v := (-9)) dX5_readText_87 rfl (by decide) ?_
      refine X_icmp_ne (pc' := 92) (tgt := 269) dX5_readText_89 rfl (by decide) (fun h_89 => absurd h_89 (fun q => q rfl)) (fun h_89 => ?_)
      refine X_aload_n (i := 0) (pc' := 93) dX5_readText_92 rfl rfl rfl ?_
      refine X_get (pc' := 96) (v := .int _) dX5_readText_93 rfl (gf_X5_60 _ rfl) o_M_1 rfl rfl ?_
      refine X_eqi (nI i) (hat) ?_
      refine X_aload_n (i := 0) (pc' := 97) dX5_readText_96 rfl rfl rfl ?_
      refine X_get (pc' := 100) (v := .int _) dX5_readText_97 rfl (gf_X5_54 _ rfl) o_M_1 rfl rfl ?_
      refine X_eqi (nI L) (hX.1) ?_
      refine X_icmp_ge (pc' := 103) (tgt := 269) dX5_readText_100 rfl (by decide) (fun h_100 => absurd h_100 (nI_ge hi (by omega))) (fun h_100 => ?_)
      refine X_aload_n (i := 0) (pc' := 104) dX5_readText_103 rfl rfl rfl ?_
      refine X_get (pc' := 107) (v := .ref 8) dX5_readText_104 rfl (gf_X5_28 _ rfl) o_M_1 rfl rfl ?_
      refine X_aload_n (i := 0) (pc' := 108) dX5_readText_107 rfl rfl rfl ?_
      refine X_get (pc' := 111) (v := .int _) dX5_readText_108 rfl (gf_X5_60 _ rfl) o_M_1 rfl rfl ?_
      refine X_eqi (nI i) (hat) ?_
      refine X_iald (pc' := 112) (j := i) dX5_readText_111 rfl (Or.inl r_M_8) (rfl) (by omega) ?_
      refine X_eqi (nI 69) (by rw [hX.2.1 i hi, h69]) ?_
      refine X_bipush (pc' := 114) (v := nI 76) dX5_readText_112 rfl (by decide) ?_
      refine X_icmp_ne (pc' := 117) (tgt := 180) dX5_readText_114 rfl (by decide) (fun h_114 => ?_) (fun h_114 => absurd h_114 (by decide))
      refine X_aload_n (i := 0) (pc' := 181) dX5_readText_180 rfl rfl rfl ?_
      refine X_get (pc' := 184) (v := .ref 8) dX5_readText_181 rfl (gf_X5_28 _ rfl) o_M_1 rfl rfl ?_
      refine X_aload_n (i := 0) (pc' := 185) dX5_readText_184 rfl rfl rfl ?_
      refine X_get (pc' := 188) (v := .int _) dX5_readText_185 rfl (gf_X5_60 _ rfl) o_M_1 rfl rfl ?_
      refine X_eqi (nI i) (hat) ?_
      refine X_iald (pc' := 189) (j := i) dX5_readText_188 rfl (Or.inl r_M_8) (rfl) (by omega) ?_
      refine X_eqi (nI 69) (by rw [hX.2.1 i hi, h69]) ?_
      refine X_bipush (pc' := 191) (v := nI 69) dX5_readText_189 rfl (by decide) ?_
      refine X_icmp_ne (pc' := 194) (tgt := 258) dX5_readText_191 rfl (by decide) (fun h_191 => absurd h_191 (fun q => q rfl)) (fun h_191 => ?_)
      refine X_aload_n (i := 0) (pc' := 195) dX5_readText_194 rfl rfl rfl ?_
      refine X_OIp (As := []) (rest := []) (pc' := 198) dX5_readText_195 rfl k_X5_firstsLeft l_X5_86 v_X5_firstsLeft o_M_1 rfl ⟨by decide, by decide⟩ rfl rfl (Nat.le_of_ble_eq_true rfl) (d_firstsLeft cx τ' hn hx hG.1 hG.2.2.2.2.2) ?_
      refine X_if_eq (pc' := 201) (tgt := 258) dX5_readText_198 rfl (by decide) (fun h_198 => absurd h_198 (hfz)) (fun h_198 => ?_)
      refine X_aload_n (i := 0) (pc' := 202) dX5_readText_201 rfl rfl rfl ?_
      refine X_dup (pc' := 203) dX5_readText_202 rfl rfl ?_
      refine X_get (pc' := 206) (v := .int _) dX5_readText_203 rfl (gf_X5_60 _ rfl) o_M_1 rfl rfl ?_
      refine X_eqi (nI i) (hat) ?_
      refine X_iconst (pc' := 207) (v := nI 1) dX5_readText_206 rfl (by decide) ?_
      refine X_iadd (pc' := 208) dX5_readText_207 rfl ?_
      refine X_eqi (nI (i + 1)) (nI_add _ _) ?_
      refine X_putI (pc' := 211) dX5_readText_208 rfl (pf_X5_60 _ rfl) o_M_1 rfl ?_
      refine X_aload_n (i := 0) (pc' := 212) dX5_readText_211 rfl rfl rfl ?_
      refine X_aload_n (i := 0) (pc' := 213) dX5_readText_212 rfl rfl rfl ?_
      refine X_OIp (As := []) (rest := [_]) (pc' := 216) dX5_readText_213 rfl k_X5_firstsLeft l_X5_86 v_X5_firstsLeft o_M_1 rfl ⟨by decide, by decide⟩ rfl rfl (Nat.le_of_ble_eq_true rfl) (d_firstsLeft cx _ hn hx h91 h71) ?_
      refine X_OI (As := [_]) (rest := []) (pc' := 219) dX5_readText_216 rfl k_X5_figureOf l_X5_90 v_X5_figureOf o_M_1 rfl ⟨by decide, by decide⟩ rfl rfl (Nat.le_of_ble_eq_true rfl) (d_fgoA cx _ hX1 hf64 hi1 hfa1 hat1 hf ((fir_bt hn hE hf9).mpr hop)) (fun x_216 τ_216 h_216 => ?_)
      refine X_eqi (nI f) (h_216.1) ?_
      obtain ⟨-, e216⟩ := h_216
      subst e216
      refine X_istore_n (i := 1) (pc' := 220) (lv' := [(1, _), (0, _)]) dX5_readText_219 rfl rfl (Nat.le_of_ble_eq_true rfl) rfl ?_
      refine X_aload_n (i := 0) (pc' := 221) dX5_readText_220 rfl rfl rfl ?_
      refine X_aload_n (i := 0) (pc' := 222) dX5_readText_221 rfl rfl rfl ?_
      refine X_iload_n (i := 1) (pc' := 223) dX5_readText_222 rfl rfl rfl ?_
      refine X_OIp (As := [_]) (rest := [_]) (pc' := 226) dX5_readText_223 rfl k_X5_left l_X5_72 v_X5_left o_M_1 rfl ⟨by decide, by decide⟩ rfl rfl (Nat.le_of_ble_eq_true rfl) (d_left cx _ hn hx h92 h72 (show f < 31 by omega)) ?_
      refine X_OI (As := [_]) (rest := []) (pc' := 229) dX5_readText_226 rfl k_X5_figureOf l_X5_90 v_X5_figureOf o_M_1 rfl ⟨by decide, by decide⟩ rfl rfl (Nat.le_of_ble_eq_true rfl) (d_fgoA cx _ hX2 hl64 hi2 hfa2 hat2 hg ((lef_bt hn f).mpr hgc)) (fun x_226 τ_226 h_226 => ?_)
      refine X_eqi (nI g) (h_226.1) ?_
      obtain ⟨-, e226⟩ := h_226
      subst e226
      refine X_istore_n (i := 2) (pc' := 230) (lv' := [(2, _), (1, _), (0, _)]) dX5_readText_229 rfl rfl (Nat.le_of_ble_eq_true rfl) rfl ?_
      refine X_aload_n (i := 0) (pc' := 231) dX5_readText_230 rfl rfl rfl ?_
      refine X_get (pc' := 234) (v := .ref 7) dX5_readText_231 rfl (gf_X5_25 _ rfl) o_M_1 rfl rfl ?_
      refine X_iload_n (i := 2) (pc' := 235) dX5_readText_234 rfl rfl rfl ?_
      refine X_dup2 (pc' := 236) dX5_readText_235 rfl rfl rfl ?_
      refine X_iald (pc' := 237) (j := g) dX5_readText_236 rfl (Or.inl r_M_7) (rfl) (hg6) ?_
      refine X_eqi (nI (px P g)) (by simp [xsi, upd]; exact hG.2.2.2.2.2 g hg6) ?_
      refine X_aload_n (i := 0) (pc' := 238) dX5_readText_237 rfl rfl rfl ?_
      refine X_get (pc' := 241) (v := .int _) dX5_readText_238 rfl (gf_X5_57 _ rfl) o_M_1 rfl rfl ?_
      refine X_eqi (-9) (by simp [xsi, upd]; exact hfa) ?_
      refine X_bipush (pc' := 243) (v := (-9)) dX5_readText_241 rfl (by decide) ?_
      refine X_icmp_ne (pc' := 246) (tgt := 252) dX5_readText_243 rfl (by decide) (fun h_243 => absurd h_243 (fun q => q rfl)) (fun h_243 => ?_)
      refine X_iconst (pc' := 247) (v := nI 1) dX5_readText_246 rfl (by decide) ?_
      refine X_iload_n (i := 1) (pc' := 248) dX5_readText_247 rfl rfl rfl ?_
      refine X_ishl (pc' := 249) dX5_readText_248 rfl ?_
      refine X_eqi (nI (2 ^ f)) (bt_shl (by omega)) ?_
      refine X_goto (pc' := 0) (tgt := 253) dX5_readText_249 (by decide) ?_
      refine X_ior (pc' := 254) dX5_readText_253 rfl ?_
      refine X_eqi (nI (px P g ||| 2 ^ f)) (nI_or (by omega) (by omega)) ?_
      refine X_iast (pc' := 255) (j := g) dX5_readText_254 rfl r_M_7 (rfl) (hg6) ?_
      refine X_goto (pc' := 0) (tgt := 83) dX5_readText_255 (by decide) ?_
      refine X_lv _ (by simp) (hgo _ _ ((((hr.s1 14 _ (by decide)).s1 14 _ (by decide)).s1 14 _ (by decide)).sc 7 _ _ (by decide)) ?_ (by simp [xsi, upd]; exact hfa) (by simp [xsi, upd]) (by omega) rfl hq3 (fun j k h1 h2 h3 => ?_))
      · refine ⟨by simp [xsi, upd]; exact hG.1, by simp [xsi, upd]; exact hG.2.1, by simp [xsi, upd]; exact hG.2.2.1, fun k hk => by simp [xsi, upd]; exact hG.2.2.2.1 k hk, fun k hk => by simp [xsi, upd]; exact hG.2.2.2.2.1 k hk, fun k hk => ?_⟩
        show _ = nI (nset (px P) g (px P g ||| 2 ^ f) k)
        by_cases e : k = g
        · subst e; simp [xsi, upd, nset]
        · simp [xsi, upd, nset, e]; exact hG.2.2.2.2.2 k hk
      · have h3 : bt (nset (px P) g (px P g ||| 2 ^ f) j) k := h3
        by_cases e : j = g
        · subst e
          rw [nset_s, bt_or _ hxg _ h2f k h2, bt_two f (by omega) k h2] at h3
          rcases h3 with h3 | h3
          · exact hE j k h1 h2 h3
          · subst h3; exact ⟨hfp, fun e => hgc.2.1 e.symm, hgc.1⟩
        · rw [nset_n _ _ e] at h3
          exact hE j k h1 h2 h3
    · have hbad : Bad T L (i + 2) := bad_of hq2 (by omega) (Or.inr (by simp)) (fun hl => by
        rw [rdS7]
        rcases hg : fig (T (i + 2)) with _ | g
        · rfl
        · exact if_neg (fun h3 => hg2 ⟨g, hl, hg, h3⟩))
      have hx0 := hx 0 (by decide)
      refine X_aload_n (i := 0) (pc' := 84) dX5_readText_83 rfl rfl rfl ?_
      refine X_get (pc' := 87) (v := .int _) dX5_readText_84 rfl (gf_X5_57 _ rfl) o_M_1 rfl rfl ?_
      refine X_eqi (-9) (hfa) ?_
      refine X_bipush (pc' := 89) (v := (-9)) dX5_readText_87 rfl (by decide) ?_
      refine X_icmp_ne (pc' := 92) (tgt := 269) dX5_readText_89 rfl (by decide) (fun h_89 => absurd h_89 (fun q => q rfl)) (fun h_89 => ?_)
      refine X_aload_n (i := 0) (pc' := 93) dX5_readText_92 rfl rfl rfl ?_
      refine X_get (pc' := 96) (v := .int _) dX5_readText_93 rfl (gf_X5_60 _ rfl) o_M_1 rfl rfl ?_
      refine X_eqi (nI i) (hat) ?_
      refine X_aload_n (i := 0) (pc' := 97) dX5_readText_96 rfl rfl rfl ?_
      refine X_get (pc' := 100) (v := .int _) dX5_readText_97 rfl (gf_X5_54 _ rfl) o_M_1 rfl rfl ?_
      refine X_eqi (nI L) (hX.1) ?_
      refine X_icmp_ge (pc' := 103) (tgt := 269) dX5_readText_100 rfl (by decide) (fun h_100 => absurd h_100 (nI_ge hi (by omega))) (fun h_100 => ?_)
      refine X_aload_n (i := 0) (pc' := 104) dX5_readText_103 rfl rfl rfl ?_
      refine X_get (pc' := 107) (v := .ref 8) dX5_readText_104 rfl (gf_X5_28 _ rfl) o_M_1 rfl rfl ?_
      refine X_aload_n (i := 0) (pc' := 108) dX5_readText_107 rfl rfl rfl ?_
      refine X_get (pc' := 111) (v := .int _) dX5_readText_108 rfl (gf_X5_60 _ rfl) o_M_1 rfl rfl ?_
      refine X_eqi (nI i) (hat) ?_
      refine X_iald (pc' := 112) (j := i) dX5_readText_111 rfl (Or.inl r_M_8) (rfl) (by omega) ?_
      refine X_eqi (nI 69) (by rw [hX.2.1 i hi, h69]) ?_
      refine X_bipush (pc' := 114) (v := nI 76) dX5_readText_112 rfl (by decide) ?_
      refine X_icmp_ne (pc' := 117) (tgt := 180) dX5_readText_114 rfl (by decide) (fun h_114 => ?_) (fun h_114 => absurd h_114 (by decide))
      refine X_aload_n (i := 0) (pc' := 181) dX5_readText_180 rfl rfl rfl ?_
      refine X_get (pc' := 184) (v := .ref 8) dX5_readText_181 rfl (gf_X5_28 _ rfl) o_M_1 rfl rfl ?_
      refine X_aload_n (i := 0) (pc' := 185) dX5_readText_184 rfl rfl rfl ?_
      refine X_get (pc' := 188) (v := .int _) dX5_readText_185 rfl (gf_X5_60 _ rfl) o_M_1 rfl rfl ?_
      refine X_eqi (nI i) (hat) ?_
      refine X_iald (pc' := 189) (j := i) dX5_readText_188 rfl (Or.inl r_M_8) (rfl) (by omega) ?_
      refine X_eqi (nI 69) (by rw [hX.2.1 i hi, h69]) ?_
      refine X_bipush (pc' := 191) (v := nI 69) dX5_readText_189 rfl (by decide) ?_
      refine X_icmp_ne (pc' := 194) (tgt := 258) dX5_readText_191 rfl (by decide) (fun h_191 => absurd h_191 (fun q => q rfl)) (fun h_191 => ?_)
      refine X_aload_n (i := 0) (pc' := 195) dX5_readText_194 rfl rfl rfl ?_
      refine X_OIp (As := []) (rest := []) (pc' := 198) dX5_readText_195 rfl k_X5_firstsLeft l_X5_86 v_X5_firstsLeft o_M_1 rfl ⟨by decide, by decide⟩ rfl rfl (Nat.le_of_ble_eq_true rfl) (d_firstsLeft cx τ' hn hx hG.1 hG.2.2.2.2.2) ?_
      refine X_if_eq (pc' := 201) (tgt := 258) dX5_readText_198 rfl (by decide) (fun h_198 => absurd h_198 (hfz)) (fun h_198 => ?_)
      refine X_aload_n (i := 0) (pc' := 202) dX5_readText_201 rfl rfl rfl ?_
      refine X_dup (pc' := 203) dX5_readText_202 rfl rfl ?_
      refine X_get (pc' := 206) (v := .int _) dX5_readText_203 rfl (gf_X5_60 _ rfl) o_M_1 rfl rfl ?_
      refine X_eqi (nI i) (hat) ?_
      refine X_iconst (pc' := 207) (v := nI 1) dX5_readText_206 rfl (by decide) ?_
      refine X_iadd (pc' := 208) dX5_readText_207 rfl ?_
      refine X_eqi (nI (i + 1)) (nI_add _ _) ?_
      refine X_putI (pc' := 211) dX5_readText_208 rfl (pf_X5_60 _ rfl) o_M_1 rfl ?_
      refine X_aload_n (i := 0) (pc' := 212) dX5_readText_211 rfl rfl rfl ?_
      refine X_aload_n (i := 0) (pc' := 213) dX5_readText_212 rfl rfl rfl ?_
      refine X_OIp (As := []) (rest := [_]) (pc' := 216) dX5_readText_213 rfl k_X5_firstsLeft l_X5_86 v_X5_firstsLeft o_M_1 rfl ⟨by decide, by decide⟩ rfl rfl (Nat.le_of_ble_eq_true rfl) (d_firstsLeft cx _ hn hx h91 h71) ?_
      refine X_OI (As := [_]) (rest := []) (pc' := 219) dX5_readText_216 rfl k_X5_figureOf l_X5_90 v_X5_figureOf o_M_1 rfl ⟨by decide, by decide⟩ rfl rfl (Nat.le_of_ble_eq_true rfl) (d_fgoA cx _ hX1 hf64 hi1 hfa1 hat1 hf ((fir_bt hn hE hf9).mpr hop)) (fun x_216 τ_216 h_216 => ?_)
      refine X_eqi (nI f) (h_216.1) ?_
      obtain ⟨-, e216⟩ := h_216
      subst e216
      refine X_istore_n (i := 1) (pc' := 220) (lv' := [(1, _), (0, _)]) dX5_readText_219 rfl rfl (Nat.le_of_ble_eq_true rfl) rfl ?_
      refine X_aload_n (i := 0) (pc' := 221) dX5_readText_220 rfl rfl rfl ?_
      refine X_aload_n (i := 0) (pc' := 222) dX5_readText_221 rfl rfl rfl ?_
      refine X_iload_n (i := 1) (pc' := 223) dX5_readText_222 rfl rfl rfl ?_
      refine X_OIp (As := [_]) (rest := [_]) (pc' := 226) dX5_readText_223 rfl k_X5_left l_X5_72 v_X5_left o_M_1 rfl ⟨by decide, by decide⟩ rfl rfl (Nat.le_of_ble_eq_true rfl) (d_left cx _ hn hx h92 h72 (show f < 31 by omega)) ?_
      refine X_OI (As := [_]) (rest := []) (pc' := 229) dX5_readText_226 rfl k_X5_figureOf l_X5_90 v_X5_figureOf o_M_1 rfl ⟨by decide, by decide⟩ rfl rfl (Nat.le_of_ble_eq_true rfl) (d_fgoB cx _ hX2 hl64 (by omega) hfa2 hat2 (fun g hl hg hb => hg2 ⟨g, hl, hg, (lef_bt hn f).mp hb⟩)) (fun x_226 τ_226 h_226 => ?_)
      refine X_eqi (nI 0) (h_226.1) ?_
      obtain ⟨-, e226⟩ := h_226
      subst e226
      refine X_istore_n (i := 2) (pc' := 230) (lv' := [(2, _), (1, _), (0, _)]) dX5_readText_229 rfl rfl (Nat.le_of_ble_eq_true rfl) rfl ?_
      refine X_aload_n (i := 0) (pc' := 231) dX5_readText_230 rfl rfl rfl ?_
      refine X_get (pc' := 234) (v := .ref 7) dX5_readText_231 rfl (gf_X5_25 _ rfl) o_M_1 rfl rfl ?_
      refine X_iload_n (i := 2) (pc' := 235) dX5_readText_234 rfl rfl rfl ?_
      refine X_dup2 (pc' := 236) dX5_readText_235 rfl rfl rfl ?_
      refine X_iald (pc' := 237) (j := 0) dX5_readText_236 rfl (Or.inl r_M_7) (rfl) (by decide) ?_
      refine X_eqi (nI (px P 0)) (by simp [xsi, upd]; exact hG.2.2.2.2.2 0 (by decide)) ?_
      refine X_aload_n (i := 0) (pc' := 238) dX5_readText_237 rfl rfl rfl ?_
      refine X_get (pc' := 241) (v := .int _) dX5_readText_238 rfl (gf_X5_57 _ rfl) o_M_1 rfl rfl ?_
      refine X_eqi (nI (i + 2)) (by simp [xsi, upd]) ?_
      refine X_bipush (pc' := 243) (v := (-9)) dX5_readText_241 rfl (by decide) ?_
      refine X_icmp_ne (pc' := 246) (tgt := 252) dX5_readText_243 rfl (by decide) (fun h_243 => ?_) (fun h_243 => absurd h_243 (nI_ne9 (by omega)))
      refine X_iconst (pc' := 253) (v := nI 0) dX5_readText_252 rfl (by decide) ?_
      refine X_ior (pc' := 254) dX5_readText_253 rfl ?_
      refine X_iast (pc' := 255) (j := 0) dX5_readText_254 rfl r_M_7 (rfl) (by decide) ?_
      refine X_goto (pc' := 0) (tgt := 83) dX5_readText_255 (by decide) ?_
      exact X_lv _ (by simp) (l2_rexit cx (j := i + 2) (by omega) (by simp [xsi, upd]) hbad ((((hr.s1 14 _ (by decide)).s1 14 _ (by decide)).s1 15 _ (by decide)).sc 7 _ _ (by decide)))
  · have hbad : Bad T L (i + 1) := bad_of hq1 (by omega) (Or.inr (by simp)) (fun hl => by
      rw [rdS6]
      rcases hf : fig (T (i + 1)) with _ | f
      · rfl
      · exact if_neg (fun h3 => hg1 ⟨f, hl, hf, h3⟩))
    have hx0 := hx 0 (by decide)
    have hl64 := (lefN_bt P 0 (pn P) hn).1
    have h92 : (xsi (xsi τ' 1 14 (nI (i + 1))) 1 15 (nI (i + 1))).1 1 9 = nI (pn P) := by rw [xsi_un _ _ (by decide)]; exact h91
    have h72 : ∀ k, k < 6 → (xsi (xsi τ' 1 14 (nI (i + 1))) 1 15 (nI (i + 1))).1 7 k = nI (px P k) := fun k hk => by rw [xsi_ne _ _ _ (by decide)]; exact h71 k hk
    refine X_aload_n (i := 0) (pc' := 84) dX5_readText_83 rfl rfl rfl ?_
    refine X_get (pc' := 87) (v := .int _) dX5_readText_84 rfl (gf_X5_57 _ rfl) o_M_1 rfl rfl ?_
    refine X_eqi (-9) (hfa) ?_
    refine X_bipush (pc' := 89) (v := (-9)) dX5_readText_87 rfl (by decide) ?_
    refine X_icmp_ne (pc' := 92) (tgt := 269) dX5_readText_89 rfl (by decide) (fun h_89 => absurd h_89 (fun q => q rfl)) (fun h_89 => ?_)
    refine X_aload_n (i := 0) (pc' := 93) dX5_readText_92 rfl rfl rfl ?_
    refine X_get (pc' := 96) (v := .int _) dX5_readText_93 rfl (gf_X5_60 _ rfl) o_M_1 rfl rfl ?_
    refine X_eqi (nI i) (hat) ?_
    refine X_aload_n (i := 0) (pc' := 97) dX5_readText_96 rfl rfl rfl ?_
    refine X_get (pc' := 100) (v := .int _) dX5_readText_97 rfl (gf_X5_54 _ rfl) o_M_1 rfl rfl ?_
    refine X_eqi (nI L) (hX.1) ?_
    refine X_icmp_ge (pc' := 103) (tgt := 269) dX5_readText_100 rfl (by decide) (fun h_100 => absurd h_100 (nI_ge hi (by omega))) (fun h_100 => ?_)
    refine X_aload_n (i := 0) (pc' := 104) dX5_readText_103 rfl rfl rfl ?_
    refine X_get (pc' := 107) (v := .ref 8) dX5_readText_104 rfl (gf_X5_28 _ rfl) o_M_1 rfl rfl ?_
    refine X_aload_n (i := 0) (pc' := 108) dX5_readText_107 rfl rfl rfl ?_
    refine X_get (pc' := 111) (v := .int _) dX5_readText_108 rfl (gf_X5_60 _ rfl) o_M_1 rfl rfl ?_
    refine X_eqi (nI i) (hat) ?_
    refine X_iald (pc' := 112) (j := i) dX5_readText_111 rfl (Or.inl r_M_8) (rfl) (by omega) ?_
    refine X_eqi (nI 69) (by rw [hX.2.1 i hi, h69]) ?_
    refine X_bipush (pc' := 114) (v := nI 76) dX5_readText_112 rfl (by decide) ?_
    refine X_icmp_ne (pc' := 117) (tgt := 180) dX5_readText_114 rfl (by decide) (fun h_114 => ?_) (fun h_114 => absurd h_114 (by decide))
    refine X_aload_n (i := 0) (pc' := 181) dX5_readText_180 rfl rfl rfl ?_
    refine X_get (pc' := 184) (v := .ref 8) dX5_readText_181 rfl (gf_X5_28 _ rfl) o_M_1 rfl rfl ?_
    refine X_aload_n (i := 0) (pc' := 185) dX5_readText_184 rfl rfl rfl ?_
    refine X_get (pc' := 188) (v := .int _) dX5_readText_185 rfl (gf_X5_60 _ rfl) o_M_1 rfl rfl ?_
    refine X_eqi (nI i) (hat) ?_
    refine X_iald (pc' := 189) (j := i) dX5_readText_188 rfl (Or.inl r_M_8) (rfl) (by omega) ?_
    refine X_eqi (nI 69) (by rw [hX.2.1 i hi, h69]) ?_
    refine X_bipush (pc' := 191) (v := nI 69) dX5_readText_189 rfl (by decide) ?_
    refine X_icmp_ne (pc' := 194) (tgt := 258) dX5_readText_191 rfl (by decide) (fun h_191 => absurd h_191 (fun q => q rfl)) (fun h_191 => ?_)
    refine X_aload_n (i := 0) (pc' := 195) dX5_readText_194 rfl rfl rfl ?_
    refine X_OIp (As := []) (rest := []) (pc' := 198) dX5_readText_195 rfl k_X5_firstsLeft l_X5_86 v_X5_firstsLeft o_M_1 rfl ⟨by decide, by decide⟩ rfl rfl (Nat.le_of_ble_eq_true rfl) (d_firstsLeft cx τ' hn hx hG.1 hG.2.2.2.2.2) ?_
    refine X_if_eq (pc' := 201) (tgt := 258) dX5_readText_198 rfl (by decide) (fun h_198 => absurd h_198 (hfz)) (fun h_198 => ?_)
    refine X_aload_n (i := 0) (pc' := 202) dX5_readText_201 rfl rfl rfl ?_
    refine X_dup (pc' := 203) dX5_readText_202 rfl rfl ?_
    refine X_get (pc' := 206) (v := .int _) dX5_readText_203 rfl (gf_X5_60 _ rfl) o_M_1 rfl rfl ?_
    refine X_eqi (nI i) (hat) ?_
    refine X_iconst (pc' := 207) (v := nI 1) dX5_readText_206 rfl (by decide) ?_
    refine X_iadd (pc' := 208) dX5_readText_207 rfl ?_
    refine X_eqi (nI (i + 1)) (nI_add _ _) ?_
    refine X_putI (pc' := 211) dX5_readText_208 rfl (pf_X5_60 _ rfl) o_M_1 rfl ?_
    refine X_aload_n (i := 0) (pc' := 212) dX5_readText_211 rfl rfl rfl ?_
    refine X_aload_n (i := 0) (pc' := 213) dX5_readText_212 rfl rfl rfl ?_
    refine X_OIp (As := []) (rest := [_]) (pc' := 216) dX5_readText_213 rfl k_X5_firstsLeft l_X5_86 v_X5_firstsLeft o_M_1 rfl ⟨by decide, by decide⟩ rfl rfl (Nat.le_of_ble_eq_true rfl) (d_firstsLeft cx _ hn hx h91 h71) ?_
    refine X_OI (As := [_]) (rest := []) (pc' := 219) dX5_readText_216 rfl k_X5_figureOf l_X5_90 v_X5_figureOf o_M_1 rfl ⟨by decide, by decide⟩ rfl rfl (Nat.le_of_ble_eq_true rfl) (d_fgoB cx _ hX1 hf64 (by omega) hfa1 hat1 (fun f hl hf hb => hg1 ⟨f, hl, hf, (fir_bt hn hE (fig_le hf)).mp hb⟩)) (fun x_216 τ_216 h_216 => ?_)
    refine X_eqi (nI 0) (h_216.1) ?_
    obtain ⟨-, e216⟩ := h_216
    subst e216
    refine X_istore_n (i := 1) (pc' := 220) (lv' := [(1, _), (0, _)]) dX5_readText_219 rfl rfl (Nat.le_of_ble_eq_true rfl) rfl ?_
    refine X_aload_n (i := 0) (pc' := 221) dX5_readText_220 rfl rfl rfl ?_
    refine X_aload_n (i := 0) (pc' := 222) dX5_readText_221 rfl rfl rfl ?_
    refine X_iload_n (i := 1) (pc' := 223) dX5_readText_222 rfl rfl rfl ?_
    refine X_OIp (As := [_]) (rest := [_]) (pc' := 226) dX5_readText_223 rfl k_X5_left l_X5_72 v_X5_left o_M_1 rfl ⟨by decide, by decide⟩ rfl rfl (Nat.le_of_ble_eq_true rfl) (d_left cx _ hn hx h92 h72 (show 0 < 31 by decide)) ?_
    refine X_OI (As := [_]) (rest := []) (pc' := 229) dX5_readText_226 rfl k_X5_figureOf l_X5_90 v_X5_figureOf o_M_1 rfl ⟨by decide, by decide⟩ rfl rfl (Nat.le_of_ble_eq_true rfl) (d_fgoC cx _ (j := i + 1) hl64 (by omega) (by simp [xsi, upd])) (fun x_226 τ_226 h_226 => ?_)
    refine X_eqi (nI 0) (h_226.1) ?_
    obtain ⟨-, e226⟩ := h_226
    subst e226
    refine X_istore_n (i := 2) (pc' := 230) (lv' := [(2, _), (1, _), (0, _)]) dX5_readText_229 rfl rfl (Nat.le_of_ble_eq_true rfl) rfl ?_
    refine X_aload_n (i := 0) (pc' := 231) dX5_readText_230 rfl rfl rfl ?_
    refine X_get (pc' := 234) (v := .ref 7) dX5_readText_231 rfl (gf_X5_25 _ rfl) o_M_1 rfl rfl ?_
    refine X_iload_n (i := 2) (pc' := 235) dX5_readText_234 rfl rfl rfl ?_
    refine X_dup2 (pc' := 236) dX5_readText_235 rfl rfl rfl ?_
    refine X_iald (pc' := 237) (j := 0) dX5_readText_236 rfl (Or.inl r_M_7) (rfl) (by decide) ?_
    refine X_eqi (nI (px P 0)) (by simp [xsi, upd]; exact hG.2.2.2.2.2 0 (by decide)) ?_
    refine X_aload_n (i := 0) (pc' := 238) dX5_readText_237 rfl rfl rfl ?_
    refine X_get (pc' := 241) (v := .int _) dX5_readText_238 rfl (gf_X5_57 _ rfl) o_M_1 rfl rfl ?_
    refine X_eqi (nI (i + 1)) (by simp [xsi, upd]) ?_
    refine X_bipush (pc' := 243) (v := (-9)) dX5_readText_241 rfl (by decide) ?_
    refine X_icmp_ne (pc' := 246) (tgt := 252) dX5_readText_243 rfl (by decide) (fun h_243 => ?_) (fun h_243 => absurd h_243 (nI_ne9 (by omega)))
    refine X_iconst (pc' := 253) (v := nI 0) dX5_readText_252 rfl (by decide) ?_
    refine X_ior (pc' := 254) dX5_readText_253 rfl ?_
    refine X_iast (pc' := 255) (j := 0) dX5_readText_254 rfl r_M_7 (rfl) (by decide) ?_
    refine X_goto (pc' := 0) (tgt := 83) dX5_readText_255 (by decide) ?_
    exact X_lv _ (by simp) (l2_rexit cx (j := i + 1) (by omega) (by simp [xsi, upd]) hbad ((((hr.s1 14 _ (by decide)).s1 15 _ (by decide)).s1 15 _ (by decide)).sc 7 _ _ (by decide)))
theorem l2_r258 {τ τ' : xT} {T : Nat → Nat} {L i : Nat} (hi : i < 1000) (hat : τ'.1 1 14 = nI i) (hb : Bad T L i) (hr : xrd τ τ') : X cx m_X5_readText PM (qI PM (RR T L τ)) 258 [(0, .ref 1)] [] PM τ' := by
  refine X_aload_n (i := 0) (pc' := 259) dX5_readText_258 rfl rfl rfl ?_
  refine X_aload_n (i := 0) (pc' := 260) dX5_readText_259 rfl rfl rfl ?_
  refine X_get (pc' := 263) (v := .int _) dX5_readText_260 rfl (gf_X5_60 _ rfl) o_M_1 rfl rfl ?_
  refine X_eqi (nI i) (hat) ?_
  refine X_putI (pc' := 266) dX5_readText_263 rfl (pf_X5_57 _ rfl) o_M_1 rfl ?_
  refine X_goto (pc' := 0) (tgt := 83) dX5_readText_266 (by decide) ?_
  exact X_lv _ (by simp) (l2_rexit cx hi (xsi_at _ _ _ _) hb (hr.s1 15 _ (by decide)))
/-- neither of the two -/
theorem l2_rX {τ τ' : xT} {T : Nat → Nat} {L i a : Nat} {P : PT} {w : Nat → Nat} (hn : pn P ≤ 6) (hx : ∀ k, k < 6 → px P k < 64) (hE : EXok P) (hX : TX τ' T L) (hr : xrd τ τ') (hG : RG τ' P w) (hfa : τ'.1 1 15 = -9) (hat : τ'.1 1 14 = nI i) (hi : i < L) (hq : rdP T i = .inl (3, a, P, w)) (hno : rdS (3, a, P, w) (T i) = none) : X cx m_X5_readText PM (qI PM (RR T L τ)) 83 [(0, .ref 1)] [] PM τ' := by
  have hL := hX.2.2.1
  have hT := hX.2.2.2 i hi
  have hbad : Bad T L i := bad_of hq (by omega) (Or.inl hi) (fun _ => hno)
  have hend := l2_r258 cx (by omega) hat hbad hr
  rw [rdS3] at hno
  have h76 : nI (T i) = nI 76 ↔ T i = 76 := nI_eq (by omega) (by decide)
  have h69 : nI (T i) = nI 69 ↔ T i = 69 := nI_eq (by omega) (by decide)
  have hf64 := (firN_bt P (pn P) hn).1
  have hfz : nI (firN P (pn P)) = 0 ↔ firN P (pn P) = 0 := nI_eq (by omega) (by decide)
  have hho := hasOp_fir hn hE
  refine X_aload_n (i := 0) (pc' := 84) dX5_readText_83 rfl rfl rfl ?_
  refine X_get (pc' := 87) (v := .int _) dX5_readText_84 rfl (gf_X5_57 _ rfl) o_M_1 rfl rfl ?_
  refine X_eqi (-9) (hfa) ?_
  refine X_bipush (pc' := 89) (v := (-9)) dX5_readText_87 rfl (by decide) ?_
  refine X_icmp_ne (pc' := 92) (tgt := 269) dX5_readText_89 rfl (by decide) (fun h_89 => absurd h_89 (fun q => q rfl)) (fun h_89 => ?_)
  refine X_aload_n (i := 0) (pc' := 93) dX5_readText_92 rfl rfl rfl ?_
  refine X_get (pc' := 96) (v := .int _) dX5_readText_93 rfl (gf_X5_60 _ rfl) o_M_1 rfl rfl ?_
  refine X_eqi (nI i) (hat) ?_
  refine X_aload_n (i := 0) (pc' := 97) dX5_readText_96 rfl rfl rfl ?_
  refine X_get (pc' := 100) (v := .int _) dX5_readText_97 rfl (gf_X5_54 _ rfl) o_M_1 rfl rfl ?_
  refine X_eqi (nI L) (hX.1) ?_
  refine X_icmp_ge (pc' := 103) (tgt := 269) dX5_readText_100 rfl (by decide) (fun h_100 => absurd h_100 (nI_ge hi (by omega))) (fun h_100 => ?_)
  refine X_aload_n (i := 0) (pc' := 104) dX5_readText_103 rfl rfl rfl ?_
  refine X_get (pc' := 107) (v := .ref 8) dX5_readText_104 rfl (gf_X5_28 _ rfl) o_M_1 rfl rfl ?_
  refine X_aload_n (i := 0) (pc' := 108) dX5_readText_107 rfl rfl rfl ?_
  refine X_get (pc' := 111) (v := .int _) dX5_readText_108 rfl (gf_X5_60 _ rfl) o_M_1 rfl rfl ?_
  refine X_eqi (nI i) (hat) ?_
  refine X_iald (pc' := 112) (j := i) dX5_readText_111 rfl (Or.inl r_M_8) (rfl) (by omega) ?_
  refine X_eqi (nI (T i)) (hX.2.1 i hi) ?_
  refine X_bipush (pc' := 114) (v := nI 76) dX5_readText_112 rfl (by decide) ?_
  refine X_icmp_ne (pc' := 117) (tgt := 180) dX5_readText_114 rfl (by decide) (fun h_114 => ?_) (fun h_114 => ?_)
  · refine X_aload_n (i := 0) (pc' := 181) dX5_readText_180 rfl rfl rfl ?_
    refine X_get (pc' := 184) (v := .ref 8) dX5_readText_181 rfl (gf_X5_28 _ rfl) o_M_1 rfl rfl ?_
    refine X_aload_n (i := 0) (pc' := 185) dX5_readText_184 rfl rfl rfl ?_
    refine X_get (pc' := 188) (v := .int _) dX5_readText_185 rfl (gf_X5_60 _ rfl) o_M_1 rfl rfl ?_
    refine X_eqi (nI i) (hat) ?_
    refine X_iald (pc' := 189) (j := i) dX5_readText_188 rfl (Or.inl r_M_8) (rfl) (by omega) ?_
    refine X_eqi (nI (T i)) (hX.2.1 i hi) ?_
    refine X_bipush (pc' := 191) (v := nI 69) dX5_readText_189 rfl (by decide) ?_
    refine X_icmp_ne (pc' := 194) (tgt := 258) dX5_readText_191 rfl (by decide) (fun h_191 => ?_) (fun h_191 => ?_)
    · exact X_lv _ (by simp) hend
    · refine X_aload_n (i := 0) (pc' := 195) dX5_readText_194 rfl rfl rfl ?_
      refine X_OIp (As := []) (rest := []) (pc' := 198) dX5_readText_195 rfl k_X5_firstsLeft l_X5_86 v_X5_firstsLeft o_M_1 rfl ⟨by decide, by decide⟩ rfl rfl (Nat.le_of_ble_eq_true rfl) (d_firstsLeft cx τ' hn hx hG.1 hG.2.2.2.2.2) ?_
      refine X_if_eq (pc' := 201) (tgt := 258) dX5_readText_198 rfl (by decide) (fun h_198 => ?_) (fun h_198 => ?_)
      · exact X_lv _ (by simp) hend
      · have h6 := h69.mp h_191
        rw [if_neg (by omega), if_pos ⟨h6, hho.mpr (fun q => h_198 (hfz.mpr q))⟩] at hno
        cases hno
  · refine X_aload_n (i := 0) (pc' := 118) dX5_readText_117 rfl rfl rfl ?_
    refine X_get (pc' := 121) (v := .int _) dX5_readText_118 rfl (gf_X5_69 _ rfl) o_M_1 rfl rfl ?_
    refine X_eqi (nI (pn P)) (hG.1) ?_
    refine X_bipush (pc' := 123) (v := nI 6) dX5_readText_121 rfl (by decide) ?_
    refine X_icmp_ge (pc' := 126) (tgt := 180) dX5_readText_123 rfl (by decide) (fun h_123 => ?_) (fun h_123 => ?_)
    · refine X_aload_n (i := 0) (pc' := 181) dX5_readText_180 rfl rfl rfl ?_
      refine X_get (pc' := 184) (v := .ref 8) dX5_readText_181 rfl (gf_X5_28 _ rfl) o_M_1 rfl rfl ?_
      refine X_aload_n (i := 0) (pc' := 185) dX5_readText_184 rfl rfl rfl ?_
      refine X_get (pc' := 188) (v := .int _) dX5_readText_185 rfl (gf_X5_60 _ rfl) o_M_1 rfl rfl ?_
      refine X_eqi (nI i) (hat) ?_
      refine X_iald (pc' := 189) (j := i) dX5_readText_188 rfl (Or.inl r_M_8) (rfl) (by omega) ?_
      refine X_eqi (nI (T i)) (hX.2.1 i hi) ?_
      refine X_bipush (pc' := 191) (v := nI 69) dX5_readText_189 rfl (by decide) ?_
      refine X_icmp_ne (pc' := 194) (tgt := 258) dX5_readText_191 rfl (by decide) (fun h_191 => ?_) (fun h_191 => ?_)
      · exact X_lv _ (by simp) hend
      · refine X_aload_n (i := 0) (pc' := 195) dX5_readText_194 rfl rfl rfl ?_
        refine X_OIp (As := []) (rest := []) (pc' := 198) dX5_readText_195 rfl k_X5_firstsLeft l_X5_86 v_X5_firstsLeft o_M_1 rfl ⟨by decide, by decide⟩ rfl rfl (Nat.le_of_ble_eq_true rfl) (d_firstsLeft cx τ' hn hx hG.1 hG.2.2.2.2.2) ?_
        refine X_if_eq (pc' := 201) (tgt := 258) dX5_readText_198 rfl (by decide) (fun h_198 => ?_) (fun h_198 => ?_)
        · exact X_lv _ (by simp) hend
        · have h6 := h69.mp h_191
          rw [if_neg (by omega), if_pos ⟨h6, hho.mpr (fun q => h_198 (hfz.mpr q))⟩] at hno
          cases hno
    · have hlt : pn P < 6 := by
        rcases Nat.lt_or_ge (pn P) 6 with q | q
        · exact q
        · exact absurd (nI_le q (by omega)) h_123
      rw [if_pos (h76.mp h_114), if_pos hlt] at hno
      cases hno
theorem l2_rloop {τ : xT} {T : Nat → Nat} {L : Nat} (hX0 : TX τ T L) : ∀ (n i : Nat) (τ' : xT) (q : PS), L - i ≤ n → i ≤ L → xrd τ τ' → RG τ' q.2.2.1 q.2.2.2 → Rok q → EXok q.2.2.1 → q.1 = 3 → τ'.1 1 15 = -9 → τ'.1 1 14 = nI i → rdP T i = .inl q → X cx m_X5_readText PM (qI PM (RR T L τ)) 83 [(0, .ref 1)] [] PM τ' := by
  have hL := hX0.2.2.1
  intro n
  induction n with
  | zero =>
    intro i τ' q hn hi hr hG hok hE h3 hfa hat hq
    have e : i = L := by omega
    subst e
    have hX := hr.tx hX0
    refine X_aload_n (i := 0) (pc' := 84) dX5_readText_83 rfl rfl rfl ?_
    refine X_get (pc' := 87) (v := .int _) dX5_readText_84 rfl (gf_X5_57 _ rfl) o_M_1 rfl rfl ?_
    refine X_eqi (-9) (hfa) ?_
    refine X_bipush (pc' := 89) (v := (-9)) dX5_readText_87 rfl (by decide) ?_
    refine X_icmp_ne (pc' := 92) (tgt := 269) dX5_readText_89 rfl (by decide) (fun h_89 => absurd h_89 (fun q => q rfl)) (fun h_89 => ?_)
    refine X_aload_n (i := 0) (pc' := 93) dX5_readText_92 rfl rfl rfl ?_
    refine X_get (pc' := 96) (v := .int _) dX5_readText_93 rfl (gf_X5_60 _ rfl) o_M_1 rfl rfl ?_
    refine X_eqi (nI i) (hat) ?_
    refine X_aload_n (i := 0) (pc' := 97) dX5_readText_96 rfl rfl rfl ?_
    refine X_get (pc' := 100) (v := .int _) dX5_readText_97 rfl (gf_X5_54 _ rfl) o_M_1 rfl rfl ?_
    refine X_eqi (nI i) (hX.1) ?_
    refine X_icmp_ge (pc' := 103) (tgt := 269) dX5_readText_100 rfl (by decide) (fun h_100 => ?_) (fun h_100 => absurd (nI_le (Nat.le_refl _) (by omega)) h_100)
    refine X_aload_n (i := 0) (pc' := 270) dX5_readText_269 rfl rfl rfl ?_
    refine X_get (pc' := 273) (v := .int _) dX5_readText_270 rfl (gf_X5_57 _ rfl) o_M_1 rfl rfl ?_
    refine X_eqi (-9) (hfa) ?_
    refine X_ri dX5_readText_273 rfl ⟨rfl, rfl⟩ ?_
    refine ⟨?_, hr, fun q' hq' _ => by rw [hq] at hq'; cases hq'; exact ⟨hG, hok⟩⟩
    unfold faultF
    rw [hq]
    exact (if_pos h3).symm
  | succ n ih =>
    intro i τ' q hn hi hr hG hok hE h3 hfa hat hq
    have hX := hr.tx hX0
    obtain ⟨st, a, P, w⟩ := q
    have h3 : st = 3 := h3
    subst h3
    have hn6 : pn P ≤ 6 := hok.1
    have hx : ∀ k, k < 6 → px P k < 64 := hok.2.2.2.2.1
    by_cases hiL : i < L
    · have hgo : ∀ (τ2 : xT) (q : PS), xrd τ τ2 → RG τ2 q.2.2.1 q.2.2.2 → τ2.1 1 15 = -9 → τ2.1 1 14 = nI (i + 3) → i + 3 ≤ L → q.1 = 3 → rdP T (i + 3) = .inl q → EXok q.2.2.1 → X cx m_X5_readText PM (qI PM (RR T L τ)) 83 [(0, .ref 1)] [] PM τ2 := by
        intro τ2 q2 k1 k2 k3 k4 k5 k6 k7 k8
        exact ih (i + 3) τ2 q2 (by omega) k5 k1 k2 (rdP_ok k7) k8 k6 k3 k4 k7
      by_cases h76 : T i = 76 ∧ pn P < 6
      · exact l2_rL cx hX hr hG hfa hat hiL hq h76.1 h76.2 (fun τ2 q2 k1 k2 k3 k4 k5 k6 k7 k8 => hgo τ2 q2 k1 k2 k3 k4 k5 k6 k7 (k8 hE))
      · by_cases h69 : T i = 69 ∧ hasOp P
        · exact l2_rE cx hn6 hx hE hX hr hG hfa hat hiL hq h69.1 h69.2 hgo
        · refine l2_rX cx hn6 hx hE hX hr hG hfa hat hiL hq ?_
          rw [rdS3]
          by_cases e : T i = 76
          · rw [if_pos e, if_neg (fun r => h76 ⟨e, r⟩)]
          · rw [if_neg e, if_neg h69]
    · exact ih i τ' (3, a, P, w) (by omega) hi hr hG hok hE rfl hfa hat hq
end MQ
