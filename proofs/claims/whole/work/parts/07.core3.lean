/-! ===== calls and making ===== -/
def xMt (M : xY) (n : Nat) : Prop := Cond.code M.1 M.2.1 M.2.2.1 M.2.2.2.1 ∈ xtbl ∧ Cond.initialized M.1.cls ∈ xtbl ∧ (M.1.cls ≠ "java/lang/invoke/MethodHandle" ∧ M.1.cls ≠ "java/lang/invoke/VarHandle") ∧ (parseMethodDescriptor M.1.desc).map (fun d => d.parameters.length) = some n
def xRm (M M' : xY) : Prop := M'.2.2.2.2.frames + 1 ≤ M.2.2.2.2.frames ∧ 8 + (M'.2.2.1 + 11) + M'.2.2.2.2.locals ≤ M.2.2.2.2.locals
def xCs (M M' : xY) (P0 P : xP) : Prop := P.1 - P0.1 + M'.2.2.2.2.cells ≤ M.2.2.2.2.cells ∧ P.2.1 - P0.2.1 + M'.2.2.2.2.slots ≤ M.2.2.2.2.slots
theorem xtbl_good {w : Cond} (h : w ∈ xtbl) : (w.onTables && w.keeps) = true ∨ ∃ ty, w = .arrayClass ty := good_of_word (List.mem_filter.mp h).2
theorem xyw_good {M : xY} {n : Nat} (hm : xMt M n) : GoodIn xtbl (xyw M) := by
  intro w hw
  rcases List.mem_cons.mp hw with rfl | h
  · exact ⟨hm.1, xtbl_good hm.1⟩
  · exact ⟨h, xtbl_good h⟩
theorem xK_warm {cx : xC} {s U : State} {H : Heap} {locs : List Loc} (hK : xK cx s) (hS : va_S (fun q => cx.1 ≤ q) s.heap H locs) (hU : U.heap = H) (hW : s.WarmedH U.vm) : xK cx U := by
  obtain ⟨h1, ⟨h2, h3⟩, h4, h5, h6⟩ := hK
  have hq : ∀ a : Nat, a < s.heap.size → ¬ (fun q : Nat => cx.1 ≤ q) a → H[a]? = s.heap[a]? := hS.2.1
  refine ⟨va_K.moved hW.alike h1, ⟨fun q hq => va_Nw.warmM hW (h2 q hq), fun q hq => va_Nw.warmF hW (h3 q hq)⟩, ?_, ?_, va_AO.moved hW.alike h6⟩
  · rw [hU]; exact va_Z.kept (va_Z.moved hW.alike h4) hq
  · rw [hU]; exact va_T.kept (va_T.moved hW.alike h5) hq
theorem xK_call {cx : xC} {U : State} {g : JFrame} {mk : MethodId} {a : Array Value} (hK : xK cx U) : xK cx (U.calling g mk a) := by
  obtain ⟨h1, ⟨h2, h3⟩, h4, h5, h6⟩ := hK
  exact ⟨va_K.moved (u := U) (U := U.calling g mk a) (Vm.Alike.refl U.vm) h1, ⟨fun q hq => va_Nw.same (u := U) (U := U.calling g mk a) rfl rfl (h2 q hq), fun q hq => va_Nw.same (u := U) (U := U.calling g mk a) rfl rfl (h3 q hq)⟩, va_Z.moved (u := U) (U := U.calling g mk a) (Vm.Alike.refl U.vm) h4, va_T.moved (u := U) (U := U.calling g mk a) (Vm.Alike.refl U.vm) h5, va_AO.moved (u := U) (U := U.calling g mk a) (Vm.Alike.refl U.vm) h6⟩
theorem xblind {cx : xC} {P : xP} {τ : xT} {vs : List Value} : FrameBlind (xPc cx P τ vs) := fun a U g mk h => ⟨h.1, h.2.1, xK_call h.2.2⟩
section XCL
variable {cx : xC} {M : xY} {P0 : xP} {Q : Option Value → xP → xT → Prop} {pc pc' : Nat} {lv : List (Nat × Value)} {st : List Value} {P : xP} {τ : xT}
variable {M' : xY} {Q0 : Option Value → xP → xT → Prop} {As rest : List Value} {idx : Nat}
theorem xpre {s : State} {args : Array Value} {m : MethodId} {p : Program} {meth : Method} {c : Code} {H : Heap} {locs : List Loc} (C : xCtx cx M P0 p s m args meth c) (hH : xH cx P τ H) (hS : va_S (fun q => cx.1 ≤ q) s.heap H locs) (vs : List Value) : ∀ U : State, U.heap = H → s.WarmedH U.vm → xPc cx P τ vs (vs.map (xup cx)).toArray U :=
  fun U hU hW => ⟨rfl, by rw [hU]; exact hH, xK_warm C.2.2.2.2.2.2.2.2.1 hS hU hW⟩
theorem xGo {p : Program} {l : Launch} {e : Env} {s : State} {m : MethodId} {args a0 : Array Value} {below : List Frame} {meth : Method} {c : Code} {H : Heap} {locs : List Loc} {ls : Array Slot} {stk : List Value} (C : xCtx cx M P0 p s m args meth c) (hm : xMo cx P0 P) (hS : va_S (fun q => cx.1 ≤ q) s.heap H locs) (hF : xFr cx P0 s.heap H) (hl : lv_has ls M.2.2.1 (lv.map (xup2 cx))) (hH : xH cx P τ H)
    (hr : va_Run p l e M.2.2.2.2 s m args below meth c H locs (P.1 - P0.1) (P.2.1 - P0.2.1) M'.2.2.2.2.cells M'.2.2.2.2.slots (F0 m pc ls stk) (rest.map (xup cx)) (xQc cx M' P Q0 a0) (fun q => cx.1 ≤ q))
    (k : ∀ (r : Option Value) (P' : xP) (τ' : xT), Q0 r P' τ' → P'.1 = P.1 + M'.2.2.2.2.cells → P'.2.1 = P.2.1 + M'.2.2.2.2.slots → X cx M P0 Q (pc + 3) lv (r.toList ++ rest) P' τ') :
    W p l e M.2.2.2.2 s m args below meth c H locs (P.1 - P0.1) (P.2.1 - P0.2.1) (MQ below (xQc cx M P0 Q) args s M.2.2.2.2.cells M.2.2.2.2.slots (fun q => cx.1 ≤ q)) (F0 m pc ls stk) := by
  intro T hT X
  obtain ⟨v, st₀, t, T', L, h0, X', hL, e1, e2, ⟨r, P', τ', hv, hq, c1, c2, c3, hH', hfr, hzone⟩, stp⟩ := hr T hT X
  have hv := Outcome.returned.inj hv
  subst hv
  have hsz : H.size ≤ t.heap.size := by rw [hH.1, hH'.1, c1]; omega
  have K := k r P' τ' hq c1 c2 p l e s m args below meth c t.heap (locs ++ L) ls C ⟨hH', by rw [c1]; exact Nat.le_trans hm.1 (Nat.le_add_right _ _), by rw [c2]; exact Nat.le_trans hm.2.1 (Nat.le_add_right _ _), by rcases c3 with c3 | c3; rw [← c3]; exact hm.2.2; exact Or.inr c3⟩
    ⟨Nat.le_trans hS.1 hsz, fun q h1 h2 => by
        rw [hfr q (by rw [h0]; exact Nat.lt_of_lt_of_le h1 hS.1) (Nat.not_le.mp h2), h0]
        exact hS.2.1 q h1 h2, fun q hq => by
        rcases List.mem_append.mp hq with h | h
        · exact hS.2.2 q h
        · exact hL q h⟩
    (fun q h1 h2 => by
      rw [← hF q h1 h2, ← h0]
      rcases hm.2.2 with z | z
      · exact hzone q (by rw [← z]; exact h1) (by rw [← z]; exact h2)
      · omega) hl
  have e3 : P.1 - P0.1 + M'.2.2.2.2.cells = P'.1 - P0.1 := by rw [c1]; have := hm.1; omega
  have e4 : P.2.1 - P0.2.1 + M'.2.2.2.2.slots = P'.2.1 - P0.2.1 := by rw [c2]; have := hm.2.1; omega
  rw [e3, e4] at X'
  obtain ⟨t2, a1, b1⟩ := K T' e1 X'
  refine ⟨t2, stp t2 ?_, b1⟩
  have e5 : (Option.map (xup cx) r).toList ++ rest.map (xup cx) = (r.toList ++ rest).map (xup cx) := by cases r <;> simp
  rw [e5]
  exact a1
theorem xcat (h : (rest.map fun v => v.category).sum ≤ 8) {m : MethodId} {ls : Array Slot} {rr : List Value} : 2 * (F0 m pc ls rr).monitorRoom + ((rest.map (xup cx)).map fun v => v.category).sum ≤ 8 := by
  refine lv_room ?_
  have : (rest.map (xup cx)).map (fun v => v.category) = rest.map (fun v => v.category) := by
    rw [List.map_map]; apply List.map_congr_left; intro v _; exact xup_cat cx v
  rw [this]; exact h
theorem xCB {s : State} {args : Array Value} (hts : ∀ w ∈ xtbl, w.before args s = true) {n : Nat} {own : String} (hm : xMt M' n) (hrm : xRm M M') (hl : Cond.methodLink own idx M'.1 ∈ xtbl) : CallB M.2.2.2.2 s args own idx M'.1 M'.2.1 M'.2.2.1 M'.2.2.2.1 (xyw M') M'.2.2.2.2 M'.2.2.2.2.cells M'.2.2.2.2.slots n :=
  callB_of n hts (xyw_good hm) rfl rfl rfl (hts _ hm.2.1) (hts _ hl) ⟨hm.2.2.1.1, hm.2.2.1.2, hm.2.2.2⟩ hrm
theorem X_callS (hd : decode M.2.1 pc = .ok (.invokestatic idx, 3)) (hp : pc + 3 = pc') (hm : xMt M' As.length) (hl : Cond.methodLink M.1.cls idx M'.1 ∈ xtbl) (hst : Cond.static M'.1 ∈ xtbl) (hrm : xRm M M') (hcs : xCs M M' P0 P) (hw : (rest.map fun v => v.category).sum ≤ 8) (hC : Ct cx M' As P τ Q0)
    (k : ∀ (r : Option Value) (P' : xP) (τ' : xT), Q0 r P' τ' → P'.1 = P.1 + M'.2.2.2.2.cells → P'.2.1 = P.2.1 + M'.2.2.2.2.slots → X cx M P0 Q pc' lv (r.toList ++ rest) P' τ') : X cx M P0 Q pc lv (As.reverse ++ rest) P τ := by
  subst hp
  intro p l e s m args below meth c H locs ls C hH hS hF hl'
  have hts := xtbl_hts C.2.2.2.2.2.2.2.1
  rw [List.map_append]
  exact xGo C hH.2 hS hF hl' hH.1 (va_runS (n := As.length) ⟨C.1, C.2.1, C.2.2.1, C.2.2.2.2.2.1, hts⟩ (hC l) ⟨xCB hts hm hrm hl, hts _ hst⟩ ⟨xblind, xpre C hH.1 hS As⟩ rfl (by simp) hl'.1 (by show _ = (As.map (xup cx)).reverse ++ _; rw [List.map_reverse]) (xcat hw) hd hcs) k
theorem X_callN {host : String} (hd : decode M.2.1 pc = .ok (.invokestatic idx, 3)) (hp : pc + 3 = pc') (hm : xMt M' As.length) (hl : (M.1.cls, idx, M'.1, host) ∈ xnM) (hst : Cond.static M'.1 ∈ xtbl) (hrm : xRm M M') (hcs : xCs M M' P0 P) (hw : (rest.map fun v => v.category).sum ≤ 8) (hC : Ct cx M' As P τ Q0)
    (k : ∀ (r : Option Value) (P' : xP) (τ' : xT), Q0 r P' τ' → P'.1 = P.1 + M'.2.2.2.2.cells → P'.2.1 = P.2.1 + M'.2.2.2.2.slots → X cx M P0 Q pc' lv (r.toList ++ rest) P' τ') : X cx M P0 Q pc lv (As.reverse ++ rest) P τ := by
  subst hp
  intro p l e s m args below meth c H locs ls C hH hS hF hl'
  have hts := xtbl_hts C.2.2.2.2.2.2.2.1
  rw [List.map_append]
  exact xGo C hH.2 hS hF hl' hH.1 (va_runSN (n := As.length) ⟨C.1, C.2.1, C.2.2.1, C.2.2.2.2.2.1, hts⟩ (hC l) ⟨va_cnB As.length hts (xyw_good hm) rfl rfl rfl (C.2.2.2.2.2.2.2.2.1.2.1.1 _ hl) (hts _ hm.2.1) ⟨hm.2.2.1.1, hm.2.2.1.2, hm.2.2.2⟩ hrm, hts _ hst, trivial⟩ ⟨xblind, xpre C hH.1 hS As⟩ rfl (by simp) hl'.1 (by show _ = (As.map (xup cx)).reverse ++ _; rw [List.map_reverse]) (xcat hw) hd hcs) k
theorem X_callV {b ci : Nat} {fks : List Nat} (hd : decode M.2.1 pc = .ok (.invokevirtual idx, 3)) (hp : pc + 3 = pc') (hm : xMt M' As.length) (hl : Cond.methodLink M.1.cls idx M'.1 ∈ xtbl) (hin : Cond.instanceMethod M'.1 ∈ xtbl ∧ Cond.selects M'.1.cls M'.1 M'.1 ∈ xtbl) (hb : xO P b ci fks) (hcl : vwCl[ci]?.map (fun q => q.1) = some M'.1.cls) (hrm : xRm M M') (hcs : xCs M M' P0 P) (hw : (rest.map fun v => v.category).sum ≤ 8) (hC : Ct cx M' (.ref b :: As) P τ Q0)
    (k : ∀ (r : Option Value) (P' : xP) (τ' : xT), Q0 r P' τ' → P'.1 = P.1 + M'.2.2.2.2.cells → P'.2.1 = P.2.1 + M'.2.2.2.2.slots → X cx M P0 Q pc' lv (r.toList ++ rest) P' τ') : X cx M P0 Q pc lv (As.reverse ++ .ref b :: rest) P τ := by
  subst hp
  intro p l e s m args below meth c H locs ls C hH hS hF hl'
  have hts := xtbl_hts C.2.2.2.2.2.2.2.1
  obtain ⟨⟨b', rfl, hb'⟩, hly⟩ := hb
  have hcell : ∃ cellB : Cell, H[cx.1 + b']? = some cellB ∧ cellB.vm.isStatics = false ∧ s.vm.findClass M'.1.cls = some cellB.cls := by
    cases hq : vwCl[ci]? with
    | none => rw [hq] at hcl; cases hcl
    | some q =>
      rw [hq] at hcl
      have he := xws_get (cx := cx) (τ := τ) hb'
      rw [xcell_O hly] at he
      have := va_recv C.2.2.2.2.2.2.2.2.1.1 hH.1.2.2.2 hq he
      rw [← Option.some.inj hcl]
      exact this
  rw [List.map_append]
  exact xGo C hH.2 hS hF hl' hH.1 (va_runV (n := As.length) (As := As.map (xup cx)) (b := cx.1 + b') ⟨C.1, C.2.1, C.2.2.1, C.2.2.2.2.2.1, hts⟩ (hC l) ⟨xCB hts hm hrm hl, hts _ hin.1, hts _ hin.2⟩ ⟨xblind, hcell, xpre C hH.1 hS (.ref (b' + 1) :: As)⟩ rfl (by simp) hl'.1 (by show _ = (As.map (xup cx)).reverse ++ _; rw [List.map_reverse]; rfl) (xcat hw) hd hcs) k
theorem X_callI {b : Nat} (hd : decode M.2.1 pc = .ok (.invokespecial idx, 3)) (hp : pc + 3 = pc') (hm : xMt M' As.length) (hl : Cond.methodLink M.1.cls idx M'.1 ∈ xtbl) (hin : Cond.instanceMethod M'.1 ∈ xtbl ∧ M'.1.name = "<init>" ∧ M'.2.2.2.1 = none) (hrm : xRm M M') (hcs : xCs M M' P0 P) (hw : (rest.map fun v => v.category).sum ≤ 8) (hC : Ct cx M' (.ref b :: As) P τ Q0)
    (k : ∀ (r : Option Value) (P' : xP) (τ' : xT), Q0 r P' τ' → P'.1 = P.1 + M'.2.2.2.2.cells → P'.2.1 = P.2.1 + M'.2.2.2.2.slots → X cx M P0 Q pc' lv (r.toList ++ rest) P' τ') : X cx M P0 Q pc lv (As.reverse ++ .ref b :: rest) P τ := by
  subst hp
  intro p l e s m args below meth c H locs ls C hH hS hF hl'
  have hts := xtbl_hts C.2.2.2.2.2.2.2.1
  have cb := xCB hts hm hrm hl
  rw [hin.2.2] at cb
  rw [List.map_append]
  exact xGo C hH.2 hS hF hl' hH.1 (va_runI (n := As.length) (As := As.map (xup cx)) (b := xad cx b) ⟨C.1, C.2.1, C.2.2.1, C.2.2.2.2.2.1, hts⟩ (hC l) ⟨cb, hin.2.1, hts _ hin.1⟩ ⟨xblind, xpre C hH.1 hS (.ref b :: As)⟩ rfl (by simp) hl'.1 (by show _ = (As.map (xup cx)).reverse ++ _; rw [List.map_reverse]; rfl) (xcat hw) hd hcs) k
theorem X_obj {a : Nat} (hd : decode M.2.1 pc = .ok (.invokespecial idx, 3)) (hp : pc + 3 = pc') (hl : Cond.methodLink M.1.cls idx Lib.objectInit ∈ xtbl) (hin : Cond.instanceMethod Lib.objectInit ∈ xtbl ∧ Cond.code Lib.objectInit ⟨#[0xb1]⟩ 1 none ∈ xtbl) (hr : 1 ≤ M.2.2.2.2.frames ∧ 20 ≤ M.2.2.2.2.locals) (hw : (st.map fun v => v.category).sum ≤ 8) (k : X cx M P0 Q pc' lv st P τ) : X cx M P0 Q pc lv (.ref a :: st) P τ := by
  subst hp
  intro p l e s m args below meth c H locs ls C hH hS hF hl'
  have hts := xtbl_hts C.2.2.2.2.2.2.2.1
  refine W.objInit C.1 C.2.1 C.2.2.2.2.2.1 (hts _ hl) (hts _ hin.1) (hts _ hin.2) rfl (by rw [C.2.2.1]; exact hl'.1) rfl hd hr.1 ?_ (k p l e s m args below meth c H locs ls C hH hS hF hl')
  have h8 := xcat (cx := cx) (pc := pc) (m := m) (ls := ls) (rr := (Value.ref a :: st).map (xup cx)) hw
  have : 2 * (F0 m pc ls ((Value.ref a :: st).map (xup cx))).monitorRoom + ((st.map (xup cx)).map fun v => v.category).sum + 12 ≤ 8 + 12 := Nat.add_le_add_right h8 12
  exact Nat.le_trans this hr.2
/-- a row of zeros at a new cell -/
def xz (τ : xT) (a : Nat) : xT := (fun b => if b = a then (fun _ => 0) else τ.1 b, fun b => if b = a then (fun _ => 0) else τ.2.1 b, fun b => if b = a then (fun _ => 0) else τ.2.2 b)
def xdv (kd : Nat) : Value := match kd with | 0 => .int 0 | 1 => .long 0 | _ => .null
theorem xz_ne {a j : Nat} (h : j ≠ a) : (xz τ a).1 j = τ.1 j ∧ (xz τ a).2.1 j = τ.2.1 j ∧ (xz τ a).2.2 j = τ.2.2 j := ⟨if_neg h, if_neg h, if_neg h⟩
theorem xNew {p : Program} {l : Launch} {e : Env} {s : State} {m : MethodId} {args : Array Value} {below : List Frame} {meth : Method} {c : Code} {H H1 : Heap} {locs : List Loc} {ls : Array Slot} {S : Nat} {v : (Nat × Nat) ⊕ (Nat × List Nat)} (he0 : cx.2.1 = 0) (C : xCtx cx M P0 p s m args meth c) (hH : xH cx P τ H ∧ xMo cx P0 P) (hS : va_S (fun q => cx.1 ≤ q) s.heap H locs) (hF : xFr cx P0 s.heap H) (hl : lv_has ls M.2.2.1 (lv.map (xup2 cx))) (hS2 : P.2.1 ≤ S) (hz : H1.size = H.size + 1) (ho : ∀ q : Nat, q < H.size → H1[q]? = H[q]?)
    (he : va_at cx.2.2.2.1 vwCl (cx.1 + P.1, xcell cx (xly P.2.2 (P.1 + 1) v) (xz τ (P.1 + 1)) (P.1 + 1)) H1)
    (kk : X cx M P0 Q pc lv (.ref (P.1 + 1) :: st) (P.1 + 1, S, xly P.2.2 (P.1 + 1) v) (xz τ (P.1 + 1))) : W p l e M.2.2.2.2 s m args below meth c H1 locs (P.1 - P0.1 + 1) (S - P0.2.1) (MQ below (xQc cx M P0 Q) args s M.2.2.2.2.cells M.2.2.2.2.slots (fun q => cx.1 ≤ q)) (F0 m pc ls (.ref (cx.1 + P.1) :: st.map (xup cx))) := by
  have e3 : P.1 - P0.1 + 1 = P.1 + 1 - P0.1 := by have := hH.2.1; omega
  rw [e3]
  refine kk p l e s m args below meth c H1 locs ls C ⟨hH.1.push he0 _ hz ho _ he (if_neg (by omega)) (fun j => by rw [(xz_ne (τ := τ) (a := P.1 + 1) (j := 0) (by omega)).1]) (fun j hj => ?_), Nat.le_succ_of_le hH.2.1, Nat.le_trans hH.2.2.1 hS2, Or.inr he0⟩ ?_ (fun q h1 h2 => by omega) hl
  · obtain ⟨q1, q2, q3⟩ := xz_ne (τ := τ) hj
    exact xcell_congr (if_neg hj) q1 q2 q3
  · exact ⟨by rw [hz]; exact Nat.le_succ_of_le hS.1, fun q h1 h2 => (ho q (Nat.lt_of_lt_of_le h1 hS.1)).trans (hS.2.1 q h1 h2), hS.2.2⟩
theorem X_new {ci n : Nat} {Cn : String} {T : u_T} {ty : Nat → FieldType} {fks : List Nat} (he0 : cx.2.1 = 0) (hd : decode M.2.1 pc = .ok (.new idx, 3)) (hp : pc + 3 = pc') (hcl : xCl ci Cn T n ty) (hw : Cond.classLink M.1.cls idx Cn ∈ xtbl ∧ Cond.instantiable Cn n ∈ xtbl ∧ Cond.initialized Cn ∈ xtbl) (hf : fks.length = n ∧ ∀ j, j < n → defaultValue (ty j) = xdv (fks.getD j 0) ∧ fks.getD j 0 < 3) (hcs : P.1 - P0.1 + 1 ≤ M.2.2.2.2.cells ∧ P.2.1 - P0.2.1 + n ≤ M.2.2.2.2.slots)
    (kk : X cx M P0 Q pc' lv (.ref (P.1 + 1) :: st) (P.1 + 1, P.2.1 + n, xly P.2.2 (P.1 + 1) (.inr (ci, fks))) (xz τ (P.1 + 1))) : X cx M P0 Q pc lv st P τ := by
  subst hp
  intro p l e s m args below meth c H locs ls C hH hS hF hl'
  have hts := xtbl_hts C.2.2.2.2.2.2.2.1
  obtain ⟨hc, hu, hty, hnm, hT⟩ := hcl
  have hKn := C.2.2.2.2.2.2.2.2.1.1.1 ci _ hc
  have hsz : H.size = cx.1 + P.1 := by rw [hH.1.1, he0]; omega
  refine W.newcK C.1 C.2.1 C.2.2.2.2.2.1 (hts _ hw.1) (hts _ hw.2.1) (hts _ hw.2.2) rfl hd hcs.1 hcs.2 hKn.2.1 hsz fun H1 kC hkC e1 z1 o1 => ?_
  have e4 : P.2.1 - P0.2.1 + n = P.2.1 + n - P0.2.1 := by have := hH.2.2.1; omega
  rw [e4]
  refine xNew (pc := pc + 3) (S := P.2.1 + n) he0 C hH hS hF hl' (Nat.le_add_right _ _) (by rw [z1, hsz]) (fun q hq => o1 q (by rw [← hsz]; exact hq)) ?_ kk
  rw [xcell_O (if_pos rfl)]
  refine ⟨_, hc, (u_born ty hts hu hKn hkC e1 hty).to fun k hk => ?_⟩
  have hk2 : k < fks.length := by rw [hf.1]; exact hk
  show _ = vp_V _ k
  unfold vp_V
  rw [List.getD_eq_getElem?_getD, List.getElem?_map, List.getElem?_range hk2, (hf.2 k hk).1]
  have h3 := (hf.2 k hk).2
  show xdv (fks.getD k 0) = xup cx (xfv (xz τ (P.1 + 1)) (P.1 + 1) k (fks.getD k 0))
  generalize fks.getD k 0 = kd at h3
  match kd, h3 with
  | 0, _ => show Value.int 0 = .int ((if P.1 + 1 = P.1 + 1 then (fun _ => 0) else τ.1 _) k); rw [if_pos rfl]
  | 1, _ => show Value.long 0 = .long ((if P.1 + 1 = P.1 + 1 then (fun _ => 0) else τ.2.1 _) k); rw [if_pos rfl]
  | 2, _ => rfl
theorem xnewA {s : State} {cA : ClassId} {i : Nat} {ty : FieldType} (hK : xK cx s) (hi : (xtys cx)[i]? = some (cA, ty)) (hty : ∀ C, ty ≠ .object C) {cB : ClassId} (hf : s.vm.findClass ("[" ++ ty.toString) = some cB) : cB = cA := by
  have h := (hK.1.2 i _ hi).2
  unfold va_RA at h
  cases ty with
  | object C => exact absurd rfl (hty C)
  | _ => exact Option.some.inj (hf.symm.trans h)
theorem X_newI {n : Nat} {i : Int32} (he0 : cx.2.1 = 0) (hd : decode M.2.1 pc = .ok (.newarray .int, 2)) (hp : pc + 2 = pc') (hw : Cond.arrayClass .int ∈ xtbl) (hi : i = nI n) (hn : n < 100000) (hcs : P.1 - P0.1 + 1 ≤ M.2.2.2.2.cells ∧ P.2.1 - P0.2.1 + n ≤ M.2.2.2.2.slots)
    (kk : X cx M P0 Q pc' lv (.ref (P.1 + 1) :: st) (P.1 + 1, P.2.1 + n, xly P.2.2 (P.1 + 1) (.inl (0, n))) (xz τ (P.1 + 1))) : X cx M P0 Q pc lv (.int i :: st) P τ := by
  subst hp; subst hi
  intro p l e s m args below meth c H locs ls C hH hS hF hl'
  have hts := xtbl_hts C.2.2.2.2.2.2.2.1
  have hsz : H.size = cx.1 + P.1 := by rw [hH.1.1, he0]; omega
  refine va_newaK (atype := .int) C.1 C.2.1 (hts _ hw) rfl hd rfl (nI_pos (by omega)) (nI_clamp (by omega)) (show n * 4 ≤ 536870912 by omega) hcs.1 hcs.2 hsz fun H1 cA e1 z1 o1 hAr hNm => ?_
  have hcA := xnewA (i := 0) C.2.2.2.2.2.2.2.2.1 rfl (fun C h => by cases h) hNm
  subst hcA
  have e4 : P.2.1 - P0.2.1 + n = P.2.1 + n - P0.2.1 := by have := hH.2.2.1; omega
  rw [e4]
  refine xNew (pc := pc + 2) (S := P.2.1 + n) he0 C hH hS hF hl' (Nat.le_add_right _ _) (by rw [z1, hsz]) (fun q hq => o1 q (by rw [← hsz]; exact hq)) ?_ kk
  rw [xcell_I (if_pos rfl)]
  show H1[cx.1 + P.1]? = some (vp_cell _ _)
  rw [e1, vp_cell_i]
  show _ = some (arrV _ _ (fun j => Value.int ((if P.1 + 1 = P.1 + 1 then (fun _ => 0) else τ.1 _) j)))
  rw [if_pos rfl]; rfl
theorem X_newZ {n : Nat} {i : Int32} (he0 : cx.2.1 = 0) (hd : decode M.2.1 pc = .ok (.newarray .boolean, 2)) (hp : pc + 2 = pc') (hw : Cond.arrayClass .boolean ∈ xtbl) (hi : i = nI n) (hn : n < 100000) (hcs : P.1 - P0.1 + 1 ≤ M.2.2.2.2.cells ∧ P.2.1 - P0.2.1 + n ≤ M.2.2.2.2.slots)
    (kk : X cx M P0 Q pc' lv (.ref (P.1 + 1) :: st) (P.1 + 1, P.2.1 + n, xly P.2.2 (P.1 + 1) (.inl (2, n))) (xz τ (P.1 + 1))) : X cx M P0 Q pc lv (.int i :: st) P τ := by
  subst hp; subst hi
  intro p l e s m args below meth c H locs ls C hH hS hF hl'
  have hts := xtbl_hts C.2.2.2.2.2.2.2.1
  have hsz : H.size = cx.1 + P.1 := by rw [hH.1.1, he0]; omega
  refine va_newaK (atype := .boolean) C.1 C.2.1 (hts _ hw) rfl hd rfl (nI_pos (by omega)) (nI_clamp (by omega)) (show n * 1 ≤ 536870912 by omega) hcs.1 hcs.2 hsz fun H1 cA e1 z1 o1 hAr hNm => ?_
  have hcA := xnewA (i := 2) C.2.2.2.2.2.2.2.2.1 rfl (fun C h => by cases h) hNm
  subst hcA
  have e4 : P.2.1 - P0.2.1 + n = P.2.1 + n - P0.2.1 := by have := hH.2.2.1; omega
  rw [e4]
  refine xNew (pc := pc + 2) (S := P.2.1 + n) he0 C hH hS hF hl' (Nat.le_add_right _ _) (by rw [z1, hsz]) (fun q hq => o1 q (by rw [← hsz]; exact hq)) ?_ kk
  rw [xcell_Z (if_pos rfl)]
  show H1[cx.1 + P.1]? = some (vp_cell _ _)
  rw [e1, vp_cell_i]
  show _ = some (arrV _ _ (fun j => Value.int ((if P.1 + 1 = P.1 + 1 then (fun _ => 0) else τ.1 _) j)))
  rw [if_pos rfl]; rfl
theorem X_newJ {n : Nat} {i : Int32} (he0 : cx.2.1 = 0) (hd : decode M.2.1 pc = .ok (.newarray .long, 2)) (hp : pc + 2 = pc') (hw : Cond.arrayClass .long ∈ xtbl) (hi : i = nI n) (hn : n < 100000) (hcs : P.1 - P0.1 + 1 ≤ M.2.2.2.2.cells ∧ P.2.1 - P0.2.1 + n ≤ M.2.2.2.2.slots)
    (kk : X cx M P0 Q pc' lv (.ref (P.1 + 1) :: st) (P.1 + 1, P.2.1 + n, xly P.2.2 (P.1 + 1) (.inl (1, n))) (xz τ (P.1 + 1))) : X cx M P0 Q pc lv (.int i :: st) P τ := by
  subst hp; subst hi
  intro p l e s m args below meth c H locs ls C hH hS hF hl'
  have hts := xtbl_hts C.2.2.2.2.2.2.2.1
  have hsz : H.size = cx.1 + P.1 := by rw [hH.1.1, he0]; omega
  refine va_newaK (atype := .long) C.1 C.2.1 (hts _ hw) rfl hd rfl (nI_pos (by omega)) (nI_clamp (by omega)) (show n * 8 ≤ 536870912 by omega) hcs.1 hcs.2 hsz fun H1 cA e1 z1 o1 hAr hNm => ?_
  have hcA := xnewA (i := 1) C.2.2.2.2.2.2.2.2.1 rfl (fun C h => by cases h) hNm
  subst hcA
  have e4 : P.2.1 - P0.2.1 + n = P.2.1 + n - P0.2.1 := by have := hH.2.2.1; omega
  rw [e4]
  refine xNew (pc := pc + 2) (S := P.2.1 + n) he0 C hH hS hF hl' (Nat.le_add_right _ _) (by rw [z1, hsz]) (fun q hq => o1 q (by rw [← hsz]; exact hq)) ?_ kk
  rw [xcell_J (if_pos rfl)]
  show H1[cx.1 + P.1]? = some (vp_cell _ _)
  rw [e1, vp_cell_l]
  show _ = some (arrV _ _ (fun j => Value.long ((if P.1 + 1 = P.1 + 1 then (fun _ => 0) else τ.2.1 _) j)))
  rw [if_pos rfl]; rfl
theorem X_newS {n : Nat} {i : Int32} (he0 : cx.2.1 = 0) (hd : decode M.2.1 pc = .ok (.anewarray idx, 3)) (hp : pc + 3 = pc') (hw : Cond.classLink M.1.cls idx "WaitedPost$Standing" ∈ xtbl) (hi : i = nI n) (hn : n < 100000) (hcs : P.1 - P0.1 + 1 ≤ M.2.2.2.2.cells ∧ P.2.1 - P0.2.1 + n ≤ M.2.2.2.2.slots)
    (kk : X cx M P0 Q pc' lv (.ref (P.1 + 1) :: st) (P.1 + 1, P.2.1 + n, xly P.2.2 (P.1 + 1) (.inl (3, n))) (xz τ (P.1 + 1))) : X cx M P0 Q pc lv (.int i :: st) P τ := by
  subst hp; subst hi
  intro p l e s m args below meth c H locs ls C hH hS hF hl'
  have hts := xtbl_hts C.2.2.2.2.2.2.2.1
  have hsz : H.size = cx.1 + P.1 := by rw [hH.1.1, he0]; omega
  refine W.anew C.1 C.2.1 C.2.2.2.2.2.1 (hts _ hw) (va_AO.use C.2.2.2.2.2.2.2.2.1.2.2.2.2) rfl hd rfl (nI_pos (by omega)) (show _ * 4 ≤ 536870912 by rw [nI_clamp (by omega)]; omega) hcs.1 (by rw [nI_clamp (by omega)]; exact hcs.2) fun cA kA comp f1 f2 f3 f4 => ?_
  rw [nI_clamp (by omega : n < 2 ^ 31)]
  have h3 := (C.2.2.2.2.2.2.2.2.1.1.2 3 _ rfl).2
  obtain ⟨_, _, -, -, -, g4⟩ := h3
  have hcA := Option.some.inj (f1.symm.trans g4)
  subst hcA
  have e4 : P.2.1 - P0.2.1 + n = P.2.1 + n - P0.2.1 := by have := hH.2.2.1; omega
  rw [e4, show (F0 m pc ls _).pc + 3 = pc + 3 from rfl, hsz]
  refine xNew (pc := pc + 3) (S := P.2.1 + n) he0 C hH hS hF hl' (Nat.le_add_right _ _) (by rw [Array.size_push]) (fun q hq => by rw [Array.getElem?_push, if_neg (Nat.ne_of_lt hq)]) ?_ kk
  rw [xcell_S (if_pos rfl)]
  show (H.push _)[cx.1 + P.1]? = some (vp_cell _ _)
  rw [← hsz, Array.getElem?_push_size, arrV_new, vp_cell_q]
  show some (arrV _ _ _) = some (arrV _ _ (fun j => va_rf (if (if P.1 + 1 = P.1 + 1 then (fun _ => 0) else τ.2.2 _) j = 0 then none else some _)))
  simp only [if_pos]; rfl
end XCL
