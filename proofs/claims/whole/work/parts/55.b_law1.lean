/-! ===== the law: what is known at its start; a new object; calls ===== -/
theorem subl2 {ws : List Cond} (is : List Nat) (h : ws.map some = is.map (fun i => tables_1[i]?)) : ∀ w ∈ ws, w ∈ lw_tbl := by
  intro w hw
  have h1 : some w ∈ is.map (fun i => tables_1[i]?) := by rw [← h]; exact List.mem_map.mpr ⟨w, hw, rfl⟩
  obtain ⟨i, _, hi⟩ := List.mem_map.mp h1
  exact List.mem_append_right _ (List.mem_of_getElem? hi)
theorem nest_m : ∀ w ∈ xnM.map (fun q => Cond.methodLinkNest q.1 q.2.1 q.2.2.1 q.2.2.2), w ∈ lw_tbl := subl2 [389, 395, 398, 403, 257, 258, 259, 262, 283, 348, 349, 350, 275, 246, 226, 229] (by decide +kernel)
theorem nest_f : ∀ w ∈ xnF.map (fun q => Cond.fieldLinkNest q.1 q.2.1 q.2.2.1 q.2.2.2.1 q.2.2.2.2.1 q.2.2.2.2.2), w ∈ lw_tbl := subl2 [240, 308] (by decide +kernel)
theorem w_over : Cond.arrayOver (.object "WaitedPost$Standing") ∈ lw_tbl := List.mem_append_right _ (List.mem_of_getElem? (i := 115) (by decide +kernel))
theorem w_lays : Cond.laysStatic "WaitedPost" "RATES" "[I" ∈ lw_tbl := List.mem_append_right _ (List.mem_of_getElem? (i := 241) (by decide +kernel))
theorem x_in {w : Cond} (h : w ∈ xtbl) : w ∈ lw_tbl := (List.mem_filter.mp h).1
theorem nest_onM (q : String × Nat × MethodName × String) : (Cond.methodLinkNest q.1 q.2.1 q.2.2.1 q.2.2.2).onTables = true := rfl
theorem nest_onF (q : String × Nat × String × String × String × String) : (Cond.fieldLinkNest q.1 q.2.1 q.2.2.1 q.2.2.2.1 q.2.2.2.2.1 q.2.2.2.2.2).onTables = true := rfl
theorem lg_cls {s : State} {args : Array Value} (hts : ∀ w ∈ lw_tbl, w.before args s = true) : ∃ D : va_G, ∀ (c : Nat) (q : vw_C), vwCl[c]? = some q → u_Kn s q.1 q.2.1 q.2.2 (D.1 c) (D.2 c) := by
  have hx : ∀ w ∈ xtbl, w.before args s = true := fun w hw => hts w (x_in hw)
  have one : ∀ c : Nat, ∃ d : ClassId × (Nat → Nat), ∀ q, vwCl[c]? = some q → u_Kn s q.1 q.2.1 q.2.2 d.1 d.2 := by
    intro c
    match c with
    | 0 =>
      obtain ⟨a, b, h⟩ := u_known (C := RX0) (T := TX0) (N := 1) hx cl_X0.2.1 (hx _ nw_X4_47.2.1)
      exact ⟨(a, b), fun q hq => by cases hq; exact h⟩
    | 1 =>
      obtain ⟨a, b, h⟩ := u_known (C := RX1) (T := TX1) (N := 3) hx cl_X1.2.1 (hx _ nw_X4_13.2.1)
      exact ⟨(a, b), fun q hq => by cases hq; exact h⟩
    | 2 =>
      obtain ⟨a, b, h⟩ := u_known (C := RX2) (T := TX2) (N := 7) hx cl_X2.2.1 (hx _ nw_X4_27.2.1)
      exact ⟨(a, b), fun q hq => by cases hq; exact h⟩
    | 3 =>
      obtain ⟨a, b, h⟩ := u_known (C := RX3) (T := TX3) (N := 6) hx cl_X3.2.1 (hx _ nw_X4_20.2.1)
      exact ⟨(a, b), fun q hq => by cases hq; exact h⟩
    | 4 =>
      obtain ⟨a, b, h⟩ := u_known (C := RX4) (T := TX4) (N := 13) hx cl_X4.2.1 (hx _ nw_L_7.2.1)
      exact ⟨(a, b), fun q hq => by cases hq; exact h⟩
    | 5 =>
      obtain ⟨a, b, h⟩ := u_known (C := RX5) (T := TX5) (N := 24) hx cl_X5.2.1 (hx _ nw_L_10.2.1)
      exact ⟨(a, b), fun q hq => by cases hq; exact h⟩
    | n + 6 => exact ⟨(default, fun _ => 0), fun q hq => by simp [vwCl] at hq⟩
  obtain ⟨f, hf⟩ := Classical.axiomOfChoice one
  exact ⟨(fun c => (f c).1, fun c => (f c).2), fun c q hq => hf c q hq⟩
theorem lg_arr {s : State} {args : Array Value} (hts : ∀ w ∈ lw_tbl, w.before args s = true) : ∃ cI cJ cZ cS : ClassId, ∀ (k : Nat) (q : ClassId × FieldType), [(cI, FieldType.int), (cJ, .long), (cZ, .boolean), (cS, .object "WaitedPost$Standing")][k]? = some q → ArrOfT s q.1 q.2 ∧ va_RA s q.1 q.2 := by
  obtain ⟨cI, kI, pI, i1, i2, i3⟩ := Cond.arrayClass_spec (hts _ (x_in ac_int))
  obtain ⟨cJ, kJ, pJ, j1, j2, j3⟩ := Cond.arrayClass_spec (hts _ (x_in ac_long))
  obtain ⟨cZ, kZ, pZ, z1, z2, z3⟩ := Cond.arrayClass_spec (hts _ (x_in ac_boolean))
  obtain ⟨pS, cS, kS, s1, s2, s3, s4, s5⟩ := Cond.arrayOver_spec (hts _ w_over)
  refine ⟨cI, cJ, cZ, cS, fun k q hq => ?_⟩
  match k with
  | 0 => cases hq; exact ⟨fun n z => ⟨fun k h => (by cases h), kI, i2, pI, i3⟩, i1⟩
  | 1 => cases hq; exact ⟨fun n z => ⟨fun k h => (by cases h), kJ, j2, pJ, j3⟩, j1⟩
  | 2 => cases hq; exact ⟨fun n z => ⟨fun k h => (by cases h), kZ, z2, pZ, z3⟩, z1⟩
  | 3 => cases hq; exact ⟨fun n z => ⟨fun k h => (by cases h), kS, s3, pS, s4⟩, ⟨kS, pS, s3, s4, s1, s5⟩⟩
  | n + 4 => simp at hq
theorem lg_K {s : State} {b : Nat} (hts : ∀ w ∈ lw_tbl, w.before #[Value.ref b] s = true) (hgv : (Jvm.Cond.and given_1 narrow_1).before #[Value.ref b] s = true) : ∃ (t : Nat) (D : va_G) (cI cJ cZ cS : ClassId), ∀ b' e : Nat, s.heap.size ≤ b' → xK (b', e, t, D, cI, cJ, cZ, cS) s := by
  obtain ⟨D, hD⟩ := lg_cls hts
  obtain ⟨cI, cJ, cZ, cS, hA⟩ := lg_arr hts
  have hs := flat_of_before _ hgv
  have harr : (Cond.arrayOf (.static "WaitedPost" "RATES" "[I") .int).before #[Value.ref b] s = true := hs _ (by decide +kernel)
  have hlen : (Cond.eq (.length (.static "WaitedPost" "RATES" "[I")) (.int 4)).before #[Value.ref b] s = true := hs _ (by decide +kernel)
  have h0 : (Cond.eq (.elem (.static "WaitedPost" "RATES" "[I") (.int 0)) (.int 1)).before #[Value.ref b] s = true := hs _ (by decide +kernel)
  have h1 : (Cond.eq (.elem (.static "WaitedPost" "RATES" "[I") (.int 1)) (.int 2)).before #[Value.ref b] s = true := hs _ (by decide +kernel)
  have h2 : (Cond.eq (.elem (.static "WaitedPost" "RATES" "[I") (.int 2)) (.int 3)).before #[Value.ref b] s = true := hs _ (by decide +kernel)
  have h3 : (Cond.eq (.elem (.static "WaitedPost" "RATES" "[I") (.int 3)) (.int 0)).before #[Value.ref b] s = true := hs _ (by decide +kernel)
  obtain ⟨t, hv, hT⟩ := va_Tof (A := fun q : Nat => s.heap.size ≤ q) (N := 4) (f := fun j => .int (xrate j)) (by decide) harr (va_eqt hlen) (fun j hj => by
    have : j = 0 ∨ j = 1 ∨ j = 2 ∨ j = 3 := by omega
    rcases this with rfl | rfl | rfl | rfl
    · exact va_eqt h0
    · exact va_eqt h1
    · exact va_eqt h2
    · exact va_eqt h3) (fun a ha => Nat.not_le.mpr ha)
  have hZ := va_Zref (A := fun q : Nat => s.heap.size ≤ q) (hts _ w_lays) (hts _ (x_in q_1)) hv (fun a ha => Nat.not_le.mpr ha)
  refine ⟨t, D, cI, cJ, cZ, cS, fun b' e hb' => ⟨⟨hD, hA⟩, ⟨fun q hq => va_Nw.of (nest_onM q) (hts _ (nest_m _ (List.mem_map.mpr ⟨q, hq, rfl⟩))), fun q hq => va_Nw.of (nest_onF q) (hts _ (nest_f _ (List.mem_map.mpr ⟨q, hq, rfl⟩)))⟩, hZ.narrow (fun q hq => Nat.le_trans hb' hq), hT.narrow (fun q hq => Nat.le_trans hb' hq), va_AO.of (hts _ w_over)⟩⟩
/-- the world's cells are as they were -/
theorem xH.keep {b e e' : Nat} {r : Nat × va_G × ClassId × ClassId × ClassId × ClassId} {P : xP} {τ : xT} {H H1 : Heap} (h : xH (b, e, r) P τ H) (hz : H1.size = b + P.1 + e') (hk : ∀ q : Nat, b ≤ q → q < b + P.1 → H1[q]? = H[q]?) : xH (b, e', r) P τ H1 := by
  refine ⟨hz, h.2.1, h.2.2.1, fun k q hq => ?_⟩
  have hq' : (xws (b, e, r) P τ)[k]? = some q := hq
  have hk1 := (xws_in hq').1
  have ha := h.2.2.2 k q hq'
  obtain ⟨_, rfl⟩ := xws_in hq'
  exact ha.kept (hk (b + k) (Nat.le_add_right _ _) (by omega))
section LW1
variable {p : Program} {l : Launch} {e : Env} {s : State} {m : MethodId} {below : List Frame} {meth : Method} {c : Code} {b L : Nat} {xs : Nat → Int32}
/-- the law's context -/
def LC (p : Program) (s : State) (m : MethodId) (meth : Method) (c : Code) (b L : Nat) (xs : Nat → Int32) (K : Nat × va_G × ClassId × ClassId × ClassId × ClassId) : Prop :=
  p.tables.exec = Jvm.exec ∧ c.code = code ∧ meth.sig.returnType = ret ∧ c.maxLocals = 4 ∧ s.vm.findClass R_law = some m.cls ∧ (∀ w ∈ xtbl, w.before #[Value.ref b] s = true) ∧ va_X b L xs s s.heap ∧ b < s.heap.size ∧ meth.locks = false ∧ ∀ b' e' : Nat, s.heap.size ≤ b' → xK (b', e', K) s
variable {K : Nat × va_G × ClassId × ClassId × ClassId × ClassId}
theorem lGo {b0 e0 : Nat} {P : xP} {τ : xT} {M' : xY} {Q0 : Option Value → xP → xT → Prop} {a0 : Array Value} {H : Heap} {locs : List Loc} {ls : Array Slot} {stk rest : List Value} {pc cells slots : Nat} {Q : State → Prop} (hb0 : s.heap.size ≤ b0) (hS : va_S (fun q => s.heap.size ≤ q) s.heap H locs) (hH : xH (b0, e0, K) P τ H)
    (hr : va_Run p l e room_1 s m #[Value.ref b] below meth c H locs cells slots M'.2.2.2.2.cells M'.2.2.2.2.slots (F0 m pc ls stk) rest (xQc (b0, e0, K) M' P Q0 a0) (fun q => b0 ≤ q))
    (k : ∀ (r : Option Value) (P' : xP) (τ' : xT) (H' : Heap) (locs' : List Loc), Q0 r P' τ' → P'.1 = P.1 + M'.2.2.2.2.cells → P'.2.1 = P.2.1 + M'.2.2.2.2.slots → xH (b0, e0, K) P' τ' H' → (∀ q : Nat, q < H.size → q < b0 → H'[q]? = H[q]?) → xFr (b0, e0, K) P H H' → va_S (fun q => s.heap.size ≤ q) s.heap H' locs' → W p l e room_1 s m #[Value.ref b] below meth c H' locs' (cells + M'.2.2.2.2.cells) (slots + M'.2.2.2.2.slots) Q (F0 m (pc + 3) ls ((r.map (xup (b0, e0, K))).toList ++ rest))) :
    W p l e room_1 s m #[Value.ref b] below meth c H locs cells slots Q (F0 m pc ls stk) := by
  intro T hT X
  obtain ⟨v, st₀, t, T', L, h0, X', hL, e1, e2, ⟨r, P', τ', hv, hq, c1, c2, c3, hH', hfr, hzone⟩, stp⟩ := hr T hT X
  have hv := Outcome.returned.inj hv
  subst hv
  have hsz : H.size ≤ t.heap.size := by rw [hH.1, hH'.1, c1]; show b0 + P.1 + e0 ≤ b0 + (P.1 + _) + e0; omega
  have hfr2 : ∀ q : Nat, q < H.size → q < b0 → t.heap[q]? = H[q]? := fun q h1 h2 => by rw [hfr q (by rw [h0]; exact h1) h2, h0]
  have Kk := k r P' τ' t.heap (locs ++ L) hq c1 c2 hH' hfr2 (fun q h1 h2 => by rw [hzone q h1 h2, h0])
    ⟨Nat.le_trans hS.1 hsz, fun q h1 h2 => by
        rw [hfr2 q (Nat.lt_of_lt_of_le h1 hS.1) (Nat.lt_of_lt_of_le (Nat.not_le.mp h2) hb0)]
        exact hS.2.1 q h1 h2, fun q hq => by
        rcases List.mem_append.mp hq with h | h
        · exact hS.2.2 q h
        · exact Nat.le_trans hb0 (hL q h)⟩
  obtain ⟨t2, a1, b1⟩ := Kk T' e1 X'
  exact ⟨t2, stp t2 a1, b1⟩
theorem lpre {b0 e0 : Nat} {P : xP} {τ : xT} {H : Heap} {locs : List Loc} (C : LC p s m meth c b L xs K) (hb0 : s.heap.size ≤ b0) (hH : xH (b0, e0, K) P τ H) (hS : va_S (fun q => s.heap.size ≤ q) s.heap H locs) (vs : List Value) : ∀ U : State, U.heap = H → s.WarmedH U.vm → xPc (b0, e0, K) P τ vs (vs.map (xup (b0, e0, K))).toArray U :=
  fun U hU hW => ⟨rfl, by rw [hU]; exact hH, xK_warm (locs := []) (C.2.2.2.2.2.2.2.2.2 b0 e0 hb0) ⟨hS.1, fun q h1 _ => hS.2.1 q h1 (Nat.not_le.mpr h1), fun q hq => by cases hq⟩ hU hW⟩
/-- a method of the class or of the model that makes nothing -/
theorem lV {b0 e0 ci idx pc cells slots : Nat} {fks : List Nat} {P : xP} {τ : xT} {M' : xY} {Q0 : Option Value → xP → xT → Prop} {As rest : List Value} {H : Heap} {locs : List Loc} {ls : Array Slot} {Q : State → Prop} (C : LC p s m meth c b L xs K) (hb0 : s.heap.size ≤ b0) (hS : va_S (fun q => s.heap.size ≤ q) s.heap H locs) (hH : xH (b0, e0, K) P τ H) (hls : ls.size = 4) (hd : decode code pc = .ok (.invokevirtual idx, 3)) (hm : xMt M' As.length) (hl : Cond.methodLink "WaitedPostLaw" idx M'.1 ∈ xtbl) (hin : Cond.instanceMethod M'.1 ∈ xtbl ∧ Cond.selects M'.1.cls M'.1 M'.1 ∈ xtbl) (ho : xO P 1 ci fks) (hcl : vwCl[ci]?.map (fun q => q.1) = some M'.1.cls) (hrm : M'.2.2.2.2.frames + 1 ≤ room_1.frames ∧ 8 + (M'.2.2.1 + 11) + M'.2.2.2.2.locals ≤ room_1.locals) (h1 : M'.2.2.2.2.cells = 0) (h2 : M'.2.2.2.2.slots = 0) (hcs : cells ≤ room_1.cells ∧ slots ≤ room_1.slots) (hAs : As.map (xup (b0, e0, K)) = As) (hw : (rest.map fun v => v.category).sum ≤ 8) (hC : Ct (b0, e0, K) M' (.ref 1 :: As) P τ Q0)
    (k : ∀ (r : Option Value) (τ' : xT) (H' : Heap) (locs' : List Loc), Q0 r P τ' → H'.size = H.size → xH (b0, e0, K) P τ' H' → (∀ q : Nat, q < H.size → q < b0 → H'[q]? = H[q]?) → xFr (b0, e0, K) P H H' → va_S (fun q => s.heap.size ≤ q) s.heap H' locs' → W p l e room_1 s m #[Value.ref b] below meth c H' locs' cells slots Q (F0 m (pc + 3) ls ((r.map (xup (b0, e0, K))).toList ++ rest))) (hP : ∀ r P' τ', Q0 r P' τ' → P' = P) :
    W p l e room_1 s m #[Value.ref b] below meth c H locs cells slots Q (F0 m pc ls (As.reverse ++ .ref b0 :: rest)) := by
  have hts := C.2.2.2.2.2.1
  obtain ⟨⟨b', hb1, hb'⟩, hly⟩ := ho
  have hb1 : b' = 0 := by omega
  subst hb1
  have hcell : ∃ cellB : Cell, H[b0 + 0]? = some cellB ∧ cellB.vm.isStatics = false ∧ s.vm.findClass M'.1.cls = some cellB.cls := by
    cases hq : vwCl[ci]? with
    | none => rw [hq] at hcl; cases hcl
    | some q =>
      rw [hq] at hcl
      have he := xws_get (cx := (b0, e0, K)) (τ := τ) hb'
      rw [xcell_O hly] at he
      have := va_recv (C.2.2.2.2.2.2.2.2.2 b0 e0 hb0).1 hH.2.2.2 hq he
      rw [← Option.some.inj hcl]
      exact this
  have hcb : CallB room_1 s #[Value.ref b] R_law idx M'.1 M'.2.1 M'.2.2.1 M'.2.2.2.1 (xyw M') M'.2.2.2.2 M'.2.2.2.2.cells M'.2.2.2.2.slots As.length := callB_of As.length hts (xyw_good hm) rfl rfl rfl (hts _ hm.2.1) (hts _ hl) ⟨hm.2.2.1.1, hm.2.2.1.2, hm.2.2.2⟩ hrm
  refine lGo hb0 hS hH (va_runV (n := As.length) (As := As) (b := b0) (rest := rest) ⟨C.1, C.2.1, C.2.2.2.1, C.2.2.2.2.1, hts⟩ (hC l) ⟨hcb, hts _ hin.1, hts _ hin.2⟩ ⟨xblind, hcell, ?_⟩ rfl rfl hls rfl (lv_room hw) hd ⟨by rw [h1]; exact hcs.1, by rw [h2]; exact hcs.2⟩) (fun r P' τ' H' locs' q0 q1 q2 q3 q4 q5 q6 => ?_)
  · have := lpre C hb0 hH hS (.ref 1 :: As)
    rw [List.map_cons, hAs] at this
    exact this
  · have e := hP _ _ _ q0
    subst e
    rw [h1, h2]
    exact k r τ' H' locs' q0 (by rw [q3.1, hH.1]) q3 q4 q5 q6
end LW1
