/-! ===== the constructors ===== -/
abbrev lyE : Type := (Nat × Nat) ⊕ (Nat × List Nat)
def lyO (l : List lyE) : xLy := fun a => l.getD a (.inl (9, 0))
theorem lyO_push {l : List lyE} {a : Nat} (v : lyE) (h : l.length = a) : xly (lyO l) a v = lyO (l ++ [v]) := by
  funext b
  show (if b = a then v else l.getD b (.inl (9, 0))) = (l ++ [v]).getD b (.inl (9, 0))
  rw [List.getD_eq_getElem?_getD, List.getD_eq_getElem?_getD]
  by_cases e : b = a
  · subst e
    rw [if_pos rfl, List.getElem?_append_right (by omega), h, Nat.sub_self]; rfl
  · rw [if_neg e]
    by_cases hb : b < a
    · rw [List.getElem?_append_left (by omega)]
    · rw [List.getElem?_eq_none (by omega), List.getElem?_eq_none (by simp; omega)]
theorem lyO_set {l : List lyE} {a : Nat} (v : lyE) (h : a < l.length) : xly (lyO l) a v = lyO (l.set a v) := by
  funext b
  show (if b = a then v else l.getD b (.inl (9, 0))) = (l.set a v).getD b (.inl (9, 0))
  rw [List.getD_eq_getElem?_getD, List.getD_eq_getElem?_getD]
  by_cases e : b = a
  · subst e
    rw [if_pos rfl, List.getElem?_set_self h]; rfl
  · rw [if_neg e, List.getElem?_set_ne (Ne.symm e)]
/-- nothing is written beyond the cell N -/
def Zr (τ : xT) (N : Nat) : Prop := ∀ a, N < a → (∀ k, τ.1 a k = 0) ∧ (∀ k, τ.2.1 a k = 0) ∧ ∀ k, τ.2.2 a k = 0
theorem Zr.up {τ : xT} {N M : Nat} (h : Zr τ N) (hm : N ≤ M) : Zr τ M := fun a ha => h a (by omega)
theorem Zr.si {τ : xT} {N a : Nat} (h : Zr τ N) (k : Nat) (v : Int32) (ha : a ≤ N) : Zr (xsi τ a k v) N := fun b hb => ⟨fun j => by rw [xsi_ne _ _ _ (by omega)]; exact (h b hb).1 j, (h b hb).2⟩
theorem Zr.sr {τ : xT} {N a : Nat} (h : Zr τ N) (k v : Nat) (ha : a ≤ N) : Zr (xsr τ a k v) N := fun b hb => ⟨(h b hb).1, (h b hb).2.1, fun j => by rw [sr_ne _ _ (fun q => by omega)]; exact (h b hb).2.2 j⟩
theorem xz_id {τ : xT} {N : Nat} (h : Zr τ N) : xz τ (N + 1) = τ := by
  obtain ⟨h1, h2, h3⟩ := h (N + 1) (Nat.lt_succ_self N)
  unfold xz
  refine Prod.ext ?_ (Prod.ext ?_ ?_)
  · funext b
    show (if b = N + 1 then (fun _ => 0) else τ.1 b) = τ.1 b
    by_cases e : b = N + 1
    · subst e; rw [if_pos rfl]; funext k; exact (h1 k).symm
    · rw [if_neg e]
  · funext b
    show (if b = N + 1 then (fun _ => 0) else τ.2.1 b) = τ.2.1 b
    by_cases e : b = N + 1
    · subst e; rw [if_pos rfl]; funext k; exact (h2 k).symm
    · rw [if_neg e]
  · funext b
    show (if b = N + 1 then (fun _ => 0) else τ.2.2 b) = τ.2.2 b
    by_cases e : b = N + 1
    · subst e; rw [if_pos rfl]; funext k; exact (h3 k).symm
    · rw [if_neg e]
section KT
variable {cx : xC} {M : xY} {P0 : xP} {Q : Option Value → xP → xT → Prop} {pc pc' : Nat} {lv : List (Nat × Value)} {st : List Value} {N S : Nat} {l : List lyE} {τ : xT} {idx : Nat}
theorem K_newI {n : Nat} {i : Int32} (he0 : cx.2.1 = 0) (hd : decode M.2.1 pc = .ok (.newarray .int, 2)) (hp : pc + 2 = pc') (hi : i = nI n) (hn : n < 100000) (hcs : N - P0.1 + 1 ≤ M.2.2.2.2.cells ∧ S - P0.2.1 + n ≤ M.2.2.2.2.slots) (hz : Zr τ N) (hlen : l.length = N + 1)
    (kk : X cx M P0 Q pc' lv (.ref (N + 1) :: st) (N + 1, S + n, lyO (l ++ [.inl (0, n)])) τ) : X cx M P0 Q pc lv (.int i :: st) (N, S, lyO l) τ := by
  refine X_newI he0 hd hp ac_int hi hn hcs ?_
  show X cx M P0 Q pc' lv (.ref (N + 1) :: st) (N + 1, S + n, xly (lyO l) (N + 1) (.inl (0, n))) (xz τ (N + 1))
  rw [xz_id hz, lyO_push _ hlen]
  exact kk
theorem K_newZ {n : Nat} {i : Int32} (he0 : cx.2.1 = 0) (hd : decode M.2.1 pc = .ok (.newarray .boolean, 2)) (hp : pc + 2 = pc') (hi : i = nI n) (hn : n < 100000) (hcs : N - P0.1 + 1 ≤ M.2.2.2.2.cells ∧ S - P0.2.1 + n ≤ M.2.2.2.2.slots) (hz : Zr τ N) (hlen : l.length = N + 1)
    (kk : X cx M P0 Q pc' lv (.ref (N + 1) :: st) (N + 1, S + n, lyO (l ++ [.inl (2, n)])) τ) : X cx M P0 Q pc lv (.int i :: st) (N, S, lyO l) τ := by
  refine X_newZ he0 hd hp ac_boolean hi hn hcs ?_
  show X cx M P0 Q pc' lv (.ref (N + 1) :: st) (N + 1, S + n, xly (lyO l) (N + 1) (.inl (2, n))) (xz τ (N + 1))
  rw [xz_id hz, lyO_push _ hlen]
  exact kk
theorem K_newJ {n : Nat} {i : Int32} (he0 : cx.2.1 = 0) (hd : decode M.2.1 pc = .ok (.newarray .long, 2)) (hp : pc + 2 = pc') (hi : i = nI n) (hn : n < 100000) (hcs : N - P0.1 + 1 ≤ M.2.2.2.2.cells ∧ S - P0.2.1 + n ≤ M.2.2.2.2.slots) (hz : Zr τ N) (hlen : l.length = N + 1)
    (kk : X cx M P0 Q pc' lv (.ref (N + 1) :: st) (N + 1, S + n, lyO (l ++ [.inl (1, n)])) τ) : X cx M P0 Q pc lv (.int i :: st) (N, S, lyO l) τ := by
  refine X_newJ he0 hd hp ac_long hi hn hcs ?_
  show X cx M P0 Q pc' lv (.ref (N + 1) :: st) (N + 1, S + n, xly (lyO l) (N + 1) (.inl (1, n))) (xz τ (N + 1))
  rw [xz_id hz, lyO_push _ hlen]
  exact kk
theorem K_newS {n : Nat} {i : Int32} (he0 : cx.2.1 = 0) (hd : decode M.2.1 pc = .ok (.anewarray idx, 3)) (hp : pc + 3 = pc') (hw : Cond.classLink M.1.cls idx "WaitedPost$Standing" ∈ xtbl) (hi : i = nI n) (hn : n < 100000) (hcs : N - P0.1 + 1 ≤ M.2.2.2.2.cells ∧ S - P0.2.1 + n ≤ M.2.2.2.2.slots) (hz : Zr τ N) (hlen : l.length = N + 1)
    (kk : X cx M P0 Q pc' lv (.ref (N + 1) :: st) (N + 1, S + n, lyO (l ++ [.inl (3, n)])) τ) : X cx M P0 Q pc lv (.int i :: st) (N, S, lyO l) τ := by
  refine X_newS he0 hd hp hw hi hn hcs ?_
  show X cx M P0 Q pc' lv (.ref (N + 1) :: st) (N + 1, S + n, xly (lyO l) (N + 1) (.inl (3, n))) (xz τ (N + 1))
  rw [xz_id hz, lyO_push _ hlen]
  exact kk
theorem K_new {ci n : Nat} {Cn : String} {T : u_T} {ty : Nat → FieldType} (fks : List Nat) (he0 : cx.2.1 = 0) (hd : decode M.2.1 pc = .ok (.new idx, 3)) (hp : pc + 3 = pc') (hcl : xCl ci Cn T n ty) (hw : Cond.classLink M.1.cls idx Cn ∈ xtbl ∧ Cond.instantiable Cn n ∈ xtbl ∧ Cond.initialized Cn ∈ xtbl) (hf : fks.length = n ∧ ∀ j, j < n → defaultValue (ty j) = xdv (fks.getD j 0) ∧ fks.getD j 0 < 3) (hcs : N - P0.1 + 1 ≤ M.2.2.2.2.cells ∧ S - P0.2.1 + n ≤ M.2.2.2.2.slots) (hz : Zr τ N) (hlen : l.length = N + 1)
    (kk : X cx M P0 Q pc' lv (.ref (N + 1) :: st) (N + 1, S + n, lyO (l ++ [.inr (ci, fks)])) τ) : X cx M P0 Q pc lv st (N, S, lyO l) τ := by
  refine X_new he0 hd hp hcl hw hf hcs ?_
  show X cx M P0 Q pc' lv (.ref (N + 1) :: st) (N + 1, S + n, xly (lyO l) (N + 1) (.inr (ci, fks))) (xz τ (N + 1))
  rw [xz_id hz, lyO_push _ hlen]
  exact kk
theorem K_putR {a ci k r : Nat} {fks : List Nat} {t : FieldType} (hd : decode M.2.1 pc = .ok (.putfield idx, 3)) (hp : pc + 3 = pc') (hg : xPFF M idx ci k t) (ho : xO (N, S, lyO l) a ci fks) (ha : a < l.length) (hk : k < fks.length) (hn : ∀ q, narrow t (.ref q) = .ref q) (hfit : ∀ q, fits t (.ref q) = true) (kk : X cx M P0 Q pc' lv st (N, S, lyO (l.set a (.inr (ci, fks.set k (r + 3))))) τ) : X cx M P0 Q pc lv (.ref r :: .ref a :: st) (N, S, lyO l) τ := by
  refine X_putR hd hp hg ho hk hn hfit ?_
  show X cx M P0 Q pc' lv st (N, S, xly (lyO l) a (.inr (ci, fks.set k (r + 3)))) τ
  rw [lyO_set _ ha]
  exact kk
theorem K_call {M' : xY} {b : Nat} {l' : List lyE} {τ' : xT} {rest : List Value} (hd : decode M.2.1 pc = .ok (.invokespecial idx, 3)) (hp : pc + 3 = pc') (hm : xMt M' 0) (hl : Cond.methodLink M.1.cls idx M'.1 ∈ xtbl) (hin : Cond.instanceMethod M'.1 ∈ xtbl ∧ M'.1.name = "<init>" ∧ M'.2.2.2.1 = none) (hrm : xRm M M') (hcs : N - P0.1 + M'.2.2.2.2.cells ≤ M.2.2.2.2.cells ∧ S - P0.2.1 + M'.2.2.2.2.slots ≤ M.2.2.2.2.slots) (hw : (rest.map fun v => v.category).sum ≤ 8) (hC : Ct cx M' [.ref b] (N, S, lyO l) τ (fun r P' τ2 => r = none ∧ P' = (N + M'.2.2.2.2.cells, S + M'.2.2.2.2.slots, lyO l') ∧ τ2 = τ')) (k : X cx M P0 Q pc' lv rest (N + M'.2.2.2.2.cells, S + M'.2.2.2.2.slots, lyO l') τ') : X cx M P0 Q pc lv (.ref b :: rest) (N, S, lyO l) τ :=
  X_callI (As := []) hd hp hm hl hin hrm hcs hw hC (fun r P' τ2 h _ _ => by obtain ⟨rfl, rfl, rfl⟩ := h; exact k)
end KT
theorem ly_old {l : List lyE} {b : Nat} (v : lyE) (h : b < l.length) : lyO (l ++ [v]) b = lyO l b := by
  show (l ++ [v]).getD b _ = l.getD b _
  rw [List.getD_eq_getElem?_getD, List.getD_eq_getElem?_getD, List.getElem?_append_left h]
theorem ly_at {l : List lyE} {b : Nat} (v : lyE) (h : b < l.length) : lyO (l.set b v) b = v := by
  show (l.set b v).getD b _ = v
  rw [List.getD_eq_getElem?_getD, List.getElem?_set_self h]; rfl
section KC
variable (cx : xC)
set_option maxHeartbeats 4000000
set_option maxRecDepth 100000
theorem t_X2 (he0 : cx.2.1 = 0) {N S b : Nat} {l : List lyE} {τ : xT} (hlen : l.length = N + 1) (hb : 1 ≤ b ∧ b ≤ N) (hl : lyO l b = .inr (2, [0, 0, 0, 0, 0, 2, 2])) (hz : Zr τ N) : Ct cx m_X2_init [.ref b] (N, S, lyO l) τ (fun r P' τ' => r = none ∧ P' = (N + 2, S + 12, lyO ((((l ++ [(.inl (0, 6) : lyE)]).set b (.inr (2, [0, 0, 0, 0, 0, N + 4, 2]))) ++ [(.inl (0, 6) : lyE)]).set b (.inr (2, [0, 0, 0, 0, 0, N + 4, N + 5])))) ∧ τ' = τ) := by
  refine Ct_of (by decide) (Nat.le_of_ble_eq_true rfl) (lv := [(0, _)]) rfl ?_
  refine X_aload_n (i := 0) (pc' := 1) dX2_init_0 rfl rfl rfl ?_
  refine X_obj (pc' := 4) dX2_init_1 rfl l_X2_3 oi_in ⟨by decide, by decide⟩ (by decide) ?_
  refine X_aload_n (i := 0) (pc' := 5) dX2_init_4 rfl rfl rfl ?_
  refine X_bipush (pc' := 7) (v := nI 6) dX2_init_5 rfl (by decide) ?_
  refine K_newI (pc' := 9) (n := 6) he0 dX2_init_7 rfl rfl (by decide) ⟨by show N - N + 1 ≤ 2; omega, by show S - S + 6 ≤ 12; omega⟩ hz hlen ?_
  refine K_putR (pc' := 12) dX2_init_9 rfl (pr_X2_9 _ rfl rfl) (fks := [0, 0, 0, 0, 0, 2, 2]) ⟨⟨b - 1, by omega, by show b - 1 < N + 1; omega⟩, (ly_old _ (by omega)).trans hl⟩ (by rw [List.length_append]; show b < l.length + 1; omega) (by decide) (fun q => rfl) (fun q => rfl) ?_
  refine X_aload_n (i := 0) (pc' := 13) dX2_init_12 rfl rfl rfl ?_
  refine X_bipush (pc' := 15) (v := nI 6) dX2_init_13 rfl (by decide) ?_
  refine K_newI (pc' := 17) (n := 6) he0 dX2_init_15 rfl rfl (by decide) ⟨by show N + 1 - N + 1 ≤ 2; omega, by show S + 6 - S + 6 ≤ 12; omega⟩ (hz.up (Nat.le_succ N)) (by rw [List.length_set, List.length_append, hlen]; rfl) ?_
  refine K_putR (pc' := 20) dX2_init_17 rfl (pr_X2_15 _ rfl rfl) (fks := [0, 0, 0, 0, 0, N + 4, 2]) ⟨⟨b - 1, by omega, by show b - 1 < N + 1 + 1; omega⟩, (ly_old _ (by rw [List.length_set, List.length_append]; show b < l.length + 1; omega)).trans (ly_at _ (by rw [List.length_append]; show b < l.length + 1; omega))⟩ (by rw [List.length_append, List.length_set, List.length_append]; show b < l.length + 1 + 1; omega) (by simp) (fun q => rfl) (fun q => rfl) ?_
  exact X_vret dX2_init_20 rfl ⟨rfl, rfl⟩ ⟨rfl, rfl, rfl⟩
theorem t_X3 (he0 : cx.2.1 = 0) {N S b : Nat} {l : List lyE} {τ : xT} (hlen : l.length = N + 1) (hb : 1 ≤ b ∧ b ≤ N) (hl : lyO l b = .inr (3, [0, 0, 0, 2, 2, 2])) (hz : Zr τ N) : Ct cx m_X3_init [.ref b] (N, S, lyO l) τ (fun r P' τ' => r = none ∧ P' = (N + 3, S + 18, lyO ((((((l ++ [(.inl (0, 6) : lyE)]).set b (.inr (3, [0, 0, 0, N + 4, 2, 2]))) ++ [(.inl (0, 6) : lyE)]).set b (.inr (3, [0, 0, 0, N + 4, N + 5, 2]))) ++ [(.inl (0, 6) : lyE)]).set b (.inr (3, [0, 0, 0, N + 4, N + 5, N + 6])))) ∧ τ' = xsi τ b 1 (nI 1)) := by
  have hz1 := hz.si 1 (nI 1) hb.2
  refine Ct_of (by decide) (Nat.le_of_ble_eq_true rfl) (lv := [(0, _)]) rfl ?_
  refine X_aload_n (i := 0) (pc' := 1) dX3_init_0 rfl rfl rfl ?_
  refine X_obj (pc' := 4) dX3_init_1 rfl l_X3_3 oi_in ⟨by decide, by decide⟩ (by decide) ?_
  refine X_aload_n (i := 0) (pc' := 5) dX3_init_4 rfl rfl rfl ?_
  refine X_iconst (pc' := 6) (v := nI 1) dX3_init_5 rfl (by decide) ?_
  refine X_putI (pc' := 9) dX3_init_6 rfl (pf_X3_9 _ rfl) (fks := [0, 0, 0, 2, 2, 2]) ⟨⟨b - 1, by omega, by show b - 1 < N; omega⟩, hl⟩ rfl ?_
  refine X_aload_n (i := 0) (pc' := 10) dX3_init_9 rfl rfl rfl ?_
  refine X_bipush (pc' := 12) (v := nI 6) dX3_init_10 rfl (by decide) ?_
  refine K_newI (pc' := 14) (n := 6) he0 dX3_init_12 rfl rfl (by decide) ⟨by show N - N + 1 ≤ 3; omega, by show S - S + 6 ≤ 18; omega⟩ hz1 hlen ?_
  refine K_putR (pc' := 17) dX3_init_14 rfl (pr_X3_15 _ rfl rfl) (fks := [0, 0, 0, 2, 2, 2]) ⟨⟨b - 1, by omega, by show b - 1 < N + 1; omega⟩, (ly_old _ (by omega)).trans hl⟩ (by rw [List.length_append]; show b < l.length + 1; omega) (by decide) (fun q => rfl) (fun q => rfl) ?_
  refine X_aload_n (i := 0) (pc' := 18) dX3_init_17 rfl rfl rfl ?_
  refine X_bipush (pc' := 20) (v := nI 6) dX3_init_18 rfl (by decide) ?_
  refine K_newI (pc' := 22) (n := 6) he0 dX3_init_20 rfl rfl (by decide) ⟨by show N + 1 - N + 1 ≤ 3; omega, by show S + 6 - S + 6 ≤ 18; omega⟩ (hz1.up (Nat.le_succ N)) (by rw [List.length_set, List.length_append, hlen]; rfl) ?_
  refine K_putR (pc' := 25) dX3_init_22 rfl (pr_X3_19 _ rfl rfl) (fks := [0, 0, 0, N + 4, 2, 2]) ⟨⟨b - 1, by omega, by show b - 1 < N + 1 + 1; omega⟩, (ly_old _ (by rw [List.length_set, List.length_append]; show b < l.length + 1; omega)).trans (ly_at _ (by rw [List.length_append]; show b < l.length + 1; omega))⟩ (by rw [List.length_append, List.length_set, List.length_append]; show b < l.length + 1 + 1; omega) (by simp) (fun q => rfl) (fun q => rfl) ?_
  refine X_aload_n (i := 0) (pc' := 26) dX3_init_25 rfl rfl rfl ?_
  refine X_bipush (pc' := 28) (v := nI 6) dX3_init_26 rfl (by decide) ?_
  refine K_newI (pc' := 30) (n := 6) he0 dX3_init_28 rfl rfl (by decide) ⟨by show N + 1 + 1 - N + 1 ≤ 3; omega, by show S + 6 + 6 - S + 6 ≤ 18; omega⟩ (hz1.up (by omega)) (by rw [List.length_set, List.length_append, List.length_set, List.length_append, hlen]; rfl) ?_
  refine K_putR (pc' := 33) dX3_init_30 rfl (pr_X3_22 _ rfl rfl) (fks := [0, 0, 0, N + 4, N + 5, 2]) ⟨⟨b - 1, by omega, by show b - 1 < N + 1 + 1 + 1; omega⟩, (ly_old _ (by rw [List.length_set, List.length_append, List.length_set, List.length_append]; show b < l.length + 1 + 1; omega)).trans (ly_at _ (by rw [List.length_append, List.length_set, List.length_append]; show b < l.length + 1 + 1; omega))⟩ (by rw [List.length_append, List.length_set, List.length_append, List.length_set, List.length_append]; show b < l.length + 1 + 1 + 1; omega) (by simp) (fun q => rfl) (fun q => rfl) ?_
  exact X_vret dX3_init_33 rfl ⟨rfl, rfl⟩ ⟨rfl, rfl, rfl⟩
/-- the field words of what is made -/
theorem hf_X0 : [2].length = 1 ∧ ∀ j, j < 1 → defaultValue (tyX0 j) = xdv ([2].getD j 0) ∧ [2].getD j 0 < 3 := by
  refine ⟨rfl, fun j hj => ?_⟩
  have : j = 0 := by omega
  subst this; exact ⟨rfl, by decide⟩
theorem hf_X1 : [2, 0, 0].length = 3 ∧ ∀ j, j < 3 → defaultValue (tyX1 j) = xdv ([2, 0, 0].getD j 0) ∧ [2, 0, 0].getD j 0 < 3 := by
  refine ⟨rfl, fun j hj => ?_⟩
  have : j = 0 ∨ j = 1 ∨ j = 2 := by omega
  rcases this with rfl | rfl | rfl <;> exact ⟨rfl, by decide⟩
theorem hf_X2 : [0, 0, 0, 0, 0, 2, 2].length = 7 ∧ ∀ j, j < 7 → defaultValue (tyX2 j) = xdv ([0, 0, 0, 0, 0, 2, 2].getD j 0) ∧ [0, 0, 0, 0, 0, 2, 2].getD j 0 < 3 := by
  refine ⟨rfl, fun j hj => ?_⟩
  have : j = 0 ∨ j = 1 ∨ j = 2 ∨ j = 3 ∨ j = 4 ∨ j = 5 ∨ j = 6 := by omega
  rcases this with rfl | rfl | rfl | rfl | rfl | rfl | rfl <;> exact ⟨rfl, by decide⟩
theorem hf_X3 : [0, 0, 0, 2, 2, 2].length = 6 ∧ ∀ j, j < 6 → defaultValue (tyX3 j) = xdv ([0, 0, 0, 2, 2, 2].getD j 0) ∧ [0, 0, 0, 2, 2, 2].getD j 0 < 3 := by
  refine ⟨rfl, fun j hj => ?_⟩
  have : j = 0 ∨ j = 1 ∨ j = 2 ∨ j = 3 ∨ j = 4 ∨ j = 5 := by omega
  rcases this with rfl | rfl | rfl | rfl | rfl | rfl <;> exact ⟨rfl, by decide⟩
end KC
