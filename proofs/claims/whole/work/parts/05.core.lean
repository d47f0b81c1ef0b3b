/-! ===== the judgement X: a method's frame over one world; cell 0 is the static table, cell a+1 lies at base + a ===== -/
abbrev xC : Type := Nat × Nat × Nat × va_G × ClassId × ClassId × ClassId × ClassId
abbrev xLy : Type := Nat → (Nat × Nat) ⊕ (Nat × List Nat)
abbrev xT : Type := (Nat → Nat → Int32) × (Nat → Nat → Int64) × (Nat → Nat → Nat)
abbrev xP : Type := Nat × Nat × xLy
abbrev xY : Type := MethodName × ByteArray × Nat × Option FieldType × Room
/-- where a cell of the world lies -/
def xad (cx : xC) (a : Nat) : Nat := match a with | 0 => cx.2.2.1 | a + 1 => cx.1 + a
def xup (cx : xC) (v : Value) : Value := match v with | .ref a => .ref (xad cx a) | v => v
def xup2 (cx : xC) (q : Nat × Value) : Nat × Value := (q.1, xup cx q.2)
theorem xup_int (cx : xC) (x : Int32) : xup cx (.int x) = .int x := rfl
theorem xup_long (cx : xC) (x : Int64) : xup cx (.long x) = .long x := rfl
theorem xup_ref (cx : xC) (a : Nat) : xup cx (.ref a) = .ref (xad cx a) := rfl
theorem xup_cat (cx : xC) (v : Value) : (xup cx v).category = v.category := by cases v <;> rfl
def xtys (cx : xC) : List (ClassId × FieldType) := [(cx.2.2.2.2.1, .int), (cx.2.2.2.2.2.1, .long), (cx.2.2.2.2.2.2.1, .boolean), (cx.2.2.2.2.2.2.2, .object "WaitedPost$Standing")]
def xrate (j : Nat) : Int32 := match j with | 0 => 1 | 1 => 2 | 2 => 3 | _ => 0
def xnM : List (String × Nat × MethodName × String) := [("WaitedPost$Planner", 33, ⟨"WaitedPost", "has", "(II)Z"⟩, "WaitedPost"), ("WaitedPost$Planner", 56, ⟨"WaitedPost", "power", "(II)J"⟩, "WaitedPost"), ("WaitedPost$Planner", 60, ⟨"WaitedPost", "within", "(II)Z"⟩, "WaitedPost"), ("WaitedPost$Planner", 72, ⟨"WaitedPost", "bit", "(I)I"⟩, "WaitedPost"), ("WaitedPost$Reader", 80, ⟨"WaitedPost", "at", "([II)I"⟩, "WaitedPost"), ("WaitedPost$Reader", 84, ⟨"WaitedPost", "has", "(II)Z"⟩, "WaitedPost"), ("WaitedPost$Reader", 88, ⟨"WaitedPost", "bit", "(I)I"⟩, "WaitedPost"), ("WaitedPost$Reader", 92, ⟨"WaitedPost", "put", "([III)V"⟩, "WaitedPost"), ("WaitedPost$Standing", 43, ⟨"WaitedPost", "copyRow", "([I[I)V"⟩, "WaitedPost"), ("WaitedPost$Standing", 47, ⟨"WaitedPost", "has", "(II)Z"⟩, "WaitedPost"), ("WaitedPost$Standing", 51, ⟨"WaitedPost", "at", "([II)I"⟩, "WaitedPost"), ("WaitedPost$Standing", 55, ⟨"WaitedPost", "put", "([III)V"⟩, "WaitedPost"), ("WaitedPost$Told", 37, ⟨"WaitedPost", "copyRow", "([I[I)V"⟩, "WaitedPost"), ("WaitedPost$Told", 41, ⟨"WaitedPost", "put", "([III)V"⟩, "WaitedPost"), ("WaitedPost$Told", 45, ⟨"WaitedPost", "at", "([II)I"⟩, "WaitedPost"), ("WaitedPost$Told", 49, ⟨"WaitedPost", "has", "(II)Z"⟩, "WaitedPost")]
def xnF : List (String × Nat × String × String × String × String) := [("WaitedPost$Reader", 66, "WaitedPost", "RATES", "[I", "WaitedPost"), ("WaitedPost$Told", 78, "WaitedPost", "RATES", "[I", "WaitedPost")]
def xNest (U : State) : Prop := (∀ q ∈ xnM, va_Nw (.methodLinkNest q.1 q.2.1 q.2.2.1 q.2.2.2) U) ∧ ∀ q ∈ xnF, va_Nw (.fieldLinkNest q.1 q.2.1 q.2.2.1 q.2.2.2.1 q.2.2.2.2.1 q.2.2.2.2.2) U
/-- what is known of the tables and of the static table -/
def xK (cx : xC) (U : State) : Prop := va_K cx.2.2.2.1 vwCl (xtys cx) U ∧ xNest U ∧ va_Z "WaitedPost" "RATES" "[I" (.ref cx.2.2.1) (fun q => cx.1 ≤ q) U U.heap ∧ va_T .int cx.2.2.1 4 (fun j => .int (xrate j)) (fun q => cx.1 ≤ q) U U.heap ∧ va_AO "WaitedPost$Standing" U
/-- a field: 0 an int, 1 a long, 2 null, j + 3 the cell j -/
def xfv (τ : xT) (a k kd : Nat) : Value := match kd with | 0 => .int (τ.1 a k) | 1 => .long (τ.2.1 a k) | 2 => .null | j + 3 => .ref j
def xrf (r : Nat) : Value := if r = 0 then .null else .ref r
def xcell (cx : xC) (ly : xLy) (τ : xT) (a : Nat) : va_E := match ly a with
  | .inl (0, n) => .inl (cx.2.2.2.2.1, n, .inl (τ.1 a))
  | .inl (1, n) => .inl (cx.2.2.2.2.2.1, n, .inr (.inl (τ.2.1 a)))
  | .inl (2, n) => .inl (cx.2.2.2.2.2.2.1, n, .inl (τ.1 a))
  | .inl (_, n) => .inl (cx.2.2.2.2.2.2.2, n, .inr (.inr (.inr (.inr (fun j => if τ.2.2 a j = 0 then none else some (xad cx (τ.2.2 a j)))))))
  | .inr (ci, fks) => .inr (ci, (List.range fks.length).map (fun k => xup cx (xfv τ a k (fks.getD k 0))))
def xws (cx : xC) (P : xP) (τ : xT) : va_W := (List.range P.1).map (fun a => (cx.1 + a, xcell cx P.2.2 τ (a + 1)))
/-- the world stands in the heap -/
def xH (cx : xC) (P : xP) (τ : xT) (H : Heap) : Prop := H.size = cx.1 + P.1 + cx.2.1 ∧ P.2.2 0 = .inl (4, 4) ∧ (∀ j, τ.1 0 j = xrate j) ∧ va_P cx.2.2.2.1 vwCl (xws cx P τ) H
def xtbl : List Cond := lw_tbl.filter goodWord
def xyw (M : xY) : List Cond := Cond.code M.1 M.2.1 M.2.2.1 M.2.2.2.1 :: xtbl
def xCtx (cx : xC) (M : xY) (P0 : xP) (p : Program) (s : State) (m : MethodId) (args : Array Value) (meth : Method) (c : Code) : Prop :=
  p.tables.exec = Jvm.exec ∧ c.code = M.2.1 ∧ c.maxLocals = M.2.2.1 ∧ meth.sig.returnType = M.2.2.2.1 ∧ meth.locks = false ∧ s.vm.findClass M.1.cls = some m.cls ∧ meth.name = M.1.name ∧ (∀ w ∈ xyw M, w.before args s = true) ∧ xK cx s ∧ s.heap.size = cx.1 + P0.1 + cx.2.1
def xFr (cx : xC) (P0 : xP) (H0 H : Heap) : Prop := ∀ q : Nat, cx.1 + P0.1 ≤ q → q < cx.1 + P0.1 + cx.2.1 → H[q]? = H0[q]?
def xMo (cx : xC) (P0 P : xP) : Prop := P0.1 ≤ P.1 ∧ P0.2.1 ≤ P.2.1 ∧ (P0.1 = P.1 ∨ cx.2.1 = 0)
def xQc (cx : xC) (M : xY) (P : xP) (Q : Option Value → xP → xT → Prop) : Array Value → State → Outcome → State → Prop := fun _ st oc t =>
  ∃ (r : Option Value) (P' : xP) (τ' : xT), oc = .returned (r.map (xup cx)) ∧ Q r P' τ' ∧ P'.1 = P.1 + M.2.2.2.2.cells ∧ P'.2.1 = P.2.1 + M.2.2.2.2.slots ∧ (P.1 = P'.1 ∨ cx.2.1 = 0) ∧ xH cx P' τ' t.heap ∧ (∀ q : Nat, q < st.heap.size → q < cx.1 → t.heap[q]? = st.heap[q]?) ∧ xFr cx P st.heap t.heap
def xPc (cx : xC) (P : xP) (τ : xT) (vs : List Value) : Array Value → State → Prop := fun v U => v = (vs.map (xup cx)).toArray ∧ xH cx P τ U.heap ∧ xK cx U
/-- a method's contract: on these arguments, in this world, it returns, and Q holds of its answer and of the world behind it -/
def Ct (cx : xC) (M : xY) (vs : List Value) (P : xP) (τ : xT) (Q : Option Value → xP → xT → Prop) : Prop :=
  ∀ l : Launch, Met l M.1 (xyw M) M.2.2.2.2 (xPc cx P τ vs) (xQc cx M P Q) M.2.2.2.2.cells M.2.2.2.2.slots (fun q => cx.1 ≤ q)
def X (cx : xC) (M : xY) (P0 : xP) (Q : Option Value → xP → xT → Prop) (pc : Nat) (lv : List (Nat × Value)) (st : List Value) (P : xP) (τ : xT) : Prop :=
  ∀ (p : Program) (l : Launch) (e : Env) (s : State) (m : MethodId) (args : Array Value) (below : List Frame) (meth : Method) (c : Code) (H : Heap) (locs : List Loc) (ls : Array Slot),
    xCtx cx M P0 p s m args meth c → xH cx P τ H ∧ xMo cx P0 P → va_S (fun q => cx.1 ≤ q) s.heap H locs → xFr cx P0 s.heap H → lv_has ls M.2.2.1 (lv.map (xup2 cx)) →
    W p l e M.2.2.2.2 s m args below meth c H locs (P.1 - P0.1) (P.2.1 - P0.2.1) (MQ below (xQc cx M P0 Q) args s M.2.2.2.2.cells M.2.2.2.2.slots (fun q => cx.1 ≤ q)) (F0 m pc ls (st.map (xup cx)))
/-- what stands at a local's place -/
def xlk (lv : List (Nat × Value)) (i : Nat) : Option Value := match lv with | [] => none | q :: r => if q.1 = i then some q.2 else xlk r i
theorem xlk_mem {lv : List (Nat × Value)} {i : Nat} {v : Value} (h : xlk lv i = some v) : (i, v) ∈ lv := by
  induction lv with
  | nil => cases h
  | cons q r ih =>
    unfold xlk at h
    split at h
    · rename_i hq
      cases h
      rw [← hq]
      exact List.mem_cons_self
    · exact List.mem_cons_of_mem _ (ih h)
theorem xlk_at {cx : xC} {ls : Array Slot} {nL : Nat} {lv : List (Nat × Value)} {i : Nat} {v : Value} (h : lv_has ls nL (lv.map (xup2 cx))) (hk : xlk lv i = some v) : ls[i]? = some (.val (xup cx v)) :=
  h.2.2 (i, xup cx v) (List.mem_map.mpr ⟨(i, v), xlk_mem hk, rfl⟩)
def xst1 (lv : List (Nat × Value)) (i : Nat) (v : Value) : List (Nat × Value) := (i, v) :: lv.filter (fun q => !(q.1 == i) && !(q.1 + 1 == i && q.2.category == 2))
def xst2 (lv : List (Nat × Value)) (i : Nat) (v : Value) : List (Nat × Value) := (i, v) :: lv.filter (fun q => !(q.1 == i) && (!(q.1 == i + 1) && !(q.1 + 1 == i && q.2.category == 2)))
theorem xst1_up (cx : xC) (lv : List (Nat × Value)) (i : Nat) (v : Value) : (i, xup cx v) :: (lv.map (xup2 cx)).filter (fun q => !(q.1 == i) && !(q.1 + 1 == i && q.2.category == 2)) = (xst1 lv i v).map (xup2 cx) := by
  simp only [xst1, List.map_cons, List.filter_map]
  congr 2
  apply List.filter_congr
  intro q _
  simp [xup2, xup_cat]
theorem xst2_up (cx : xC) (lv : List (Nat × Value)) (i : Nat) (v : Value) : (i, xup cx v) :: (lv.map (xup2 cx)).filter (fun q => !(q.1 == i) && (!(q.1 == i + 1) && !(q.1 + 1 == i && q.2.category == 2))) = (xst2 lv i v).map (xup2 cx) := by
  simp only [xst2, List.map_cons, List.filter_map]
  congr 2
  apply List.filter_congr
  intro q _
  simp [xup2, xup_cat]
theorem xws_get {cx : xC} {P : xP} {τ : xT} {a : Nat} (h : a < P.1) : (xws cx P τ)[a]? = some (cx.1 + a, xcell cx P.2.2 τ (a + 1)) := by
  simp [xws, h]
theorem xws_in {cx : xC} {P : xP} {τ : xT} {k : Nat} {q : Nat × va_E} (h : (xws cx P τ)[k]? = some q) : k < P.1 ∧ q = (cx.1 + k, xcell cx P.2.2 τ (k + 1)) := by
  have hk : k < P.1 := by
    have := (List.getElem?_eq_some_iff.mp h).1
    simpa [xws] using this
  rw [xws_get hk] at h
  exact ⟨hk, (Option.some.inj h).symm⟩
theorem xH.at {cx : xC} {P : xP} {τ : xT} {H : Heap} (h : xH cx P τ H) {a : Nat} (ha : a < P.1) : va_at cx.2.2.2.1 vwCl (cx.1 + a, xcell cx P.2.2 τ (a + 1)) H := h.2.2.2 a _ (xws_get ha)
/-- one cell is written -/
theorem xH.set {cx : xC} {P : xP} {τ τ' : xT} {H H1 : Heap} (h : xH cx P τ H) {a : Nat} (ha : a < P.1) (ly' : xLy) (hz : H1.size = H.size) (ho : ∀ q : Nat, q ≠ cx.1 + a → H1[q]? = H[q]?) (he : va_at cx.2.2.2.1 vwCl (cx.1 + a, xcell cx ly' τ' (a + 1)) H1) (h0 : ly' 0 = P.2.2 0) (h1 : ∀ j, τ'.1 0 j = τ.1 0 j) (hk : ∀ j, j ≠ a + 1 → xcell cx ly' τ' j = xcell cx P.2.2 τ j) : xH cx (P.1, P.2.1, ly') τ' H1 := by
  refine ⟨hz.trans h.1, h0.trans h.2.1, fun j => (h1 j).trans (h.2.2.1 j), fun k q hq => ?_⟩
  obtain ⟨hk1, rfl⟩ := xws_in hq
  have hk1 : k < P.1 := hk1
  by_cases hka : k = a
  · subst hka
    exact he
  · show va_at _ _ (cx.1 + k, xcell cx ly' τ' (k + 1)) H1
    rw [hk (k + 1) (by omega)]
    exact (h.at hk1).kept (ho _ (by show cx.1 + k ≠ cx.1 + a; omega))
theorem xH.push {cx : xC} {P : xP} {τ : xT} {H H1 : Heap} {S : Nat} (h : xH cx P τ H) (h0 : cx.2.1 = 0) (ly' : xLy) (hz : H1.size = H.size + 1) (ho : ∀ q : Nat, q < H.size → H1[q]? = H[q]?) (τ' : xT) (he : va_at cx.2.2.2.1 vwCl (cx.1 + P.1, xcell cx ly' τ' (P.1 + 1)) H1) (hl0 : ly' 0 = P.2.2 0) (h1 : ∀ j, τ'.1 0 j = τ.1 0 j) (hk : ∀ j, j ≠ P.1 + 1 → xcell cx ly' τ' j = xcell cx P.2.2 τ j) : xH cx (P.1 + 1, S, ly') τ' H1 := by
  refine ⟨by rw [hz, h.1]; simp only [h0]; omega, hl0.trans h.2.1, fun j => (h1 j).trans (h.2.2.1 j), fun k q hq => ?_⟩
  obtain ⟨hk1, rfl⟩ := xws_in hq
  have hk1 : k < P.1 + 1 := hk1
  by_cases hka : k = P.1
  · subst hka
    exact he
  · show va_at _ _ (cx.1 + k, xcell cx ly' τ' (k + 1)) H1
    rw [hk (k + 1) (by omega)]
    have hk2 : k < P.1 := by omega
    exact (h.at hk2).kept (ho _ (by show cx.1 + k < H.size; rw [h.1]; omega))
theorem xS.put {A : Nat → Prop} {H0 H H1 : Heap} {locs : List Loc} {a k : Nat} (h : va_S A H0 H locs) (z : H1.size = H.size) (oq : ∀ q : Nat, q ≠ a → H1[q]? = H[q]?) (ha : A a) : va_S A H0 H1 (locs ++ [⟨a, k⟩]) := va_S.put h z oq ha
theorem xFr.put {cx : xC} {P0 P : xP} {H0 H H1 : Heap} {a : Nat} (h : xFr cx P0 H0 H) (hm : xMo cx P0 P) (ha : a < P.1) (oq : ∀ q : Nat, q ≠ cx.1 + a → H1[q]? = H[q]?) : xFr cx P0 H0 H1 := by
  intro q h1 h2
  rw [oq q ?_]
  · exact h q h1 h2
  · rcases hm.2.2 with z | z
    · omega
    · omega

theorem X_iadd {cx : xC} {M : xY} {P0 : xP} {Q : Option Value → xP → xT → Prop} {pc pc' : Nat} {lv : List (Nat × Value)} {st : List Value} {P : xP} {τ : xT} {x y : Int32} (hd : decode M.2.1 pc = .ok (.iadd, 1)) (hp : pc + 1 = pc')  (k : X cx M P0 Q pc' lv (.int (x + y) :: st) P τ) : X cx M P0 Q pc lv (.int y :: .int x :: st) P τ := by
  subst hp
  exact fun p l e s m args below meth c H locs ls C hH hS hF hl => lv_iadd C.1 C.2.1 hd (k p l e s m args below meth c H locs ls C hH hS hF hl)
theorem X_isub {cx : xC} {M : xY} {P0 : xP} {Q : Option Value → xP → xT → Prop} {pc pc' : Nat} {lv : List (Nat × Value)} {st : List Value} {P : xP} {τ : xT} {x y : Int32} (hd : decode M.2.1 pc = .ok (.isub, 1)) (hp : pc + 1 = pc')  (k : X cx M P0 Q pc' lv (.int (x - y) :: st) P τ) : X cx M P0 Q pc lv (.int y :: .int x :: st) P τ := by
  subst hp
  exact fun p l e s m args below meth c H locs ls C hH hS hF hl => lv_isub C.1 C.2.1 hd (k p l e s m args below meth c H locs ls C hH hS hF hl)
theorem X_imul {cx : xC} {M : xY} {P0 : xP} {Q : Option Value → xP → xT → Prop} {pc pc' : Nat} {lv : List (Nat × Value)} {st : List Value} {P : xP} {τ : xT} {x y : Int32} (hd : decode M.2.1 pc = .ok (.imul, 1)) (hp : pc + 1 = pc')  (k : X cx M P0 Q pc' lv (.int (x * y) :: st) P τ) : X cx M P0 Q pc lv (.int y :: .int x :: st) P τ := by
  subst hp
  exact fun p l e s m args below meth c H locs ls C hH hS hF hl => lv_imul C.1 C.2.1 hd (k p l e s m args below meth c H locs ls C hH hS hF hl)
theorem X_iand {cx : xC} {M : xY} {P0 : xP} {Q : Option Value → xP → xT → Prop} {pc pc' : Nat} {lv : List (Nat × Value)} {st : List Value} {P : xP} {τ : xT} {x y : Int32} (hd : decode M.2.1 pc = .ok (.iand, 1)) (hp : pc + 1 = pc')  (k : X cx M P0 Q pc' lv (.int (x &&& y) :: st) P τ) : X cx M P0 Q pc lv (.int y :: .int x :: st) P τ := by
  subst hp
  exact fun p l e s m args below meth c H locs ls C hH hS hF hl => lv_iand C.1 C.2.1 hd (k p l e s m args below meth c H locs ls C hH hS hF hl)
theorem X_ior {cx : xC} {M : xY} {P0 : xP} {Q : Option Value → xP → xT → Prop} {pc pc' : Nat} {lv : List (Nat × Value)} {st : List Value} {P : xP} {τ : xT} {x y : Int32} (hd : decode M.2.1 pc = .ok (.ior, 1)) (hp : pc + 1 = pc')  (k : X cx M P0 Q pc' lv (.int (x ||| y) :: st) P τ) : X cx M P0 Q pc lv (.int y :: .int x :: st) P τ := by
  subst hp
  exact fun p l e s m args below meth c H locs ls C hH hS hF hl => lv_ior C.1 C.2.1 hd (k p l e s m args below meth c H locs ls C hH hS hF hl)
theorem X_ixor {cx : xC} {M : xY} {P0 : xP} {Q : Option Value → xP → xT → Prop} {pc pc' : Nat} {lv : List (Nat × Value)} {st : List Value} {P : xP} {τ : xT} {x y : Int32} (hd : decode M.2.1 pc = .ok (.ixor, 1)) (hp : pc + 1 = pc')  (k : X cx M P0 Q pc' lv (.int (x ^^^ y) :: st) P τ) : X cx M P0 Q pc lv (.int y :: .int x :: st) P τ := by
  subst hp
  exact fun p l e s m args below meth c H locs ls C hH hS hF hl => lv_ixor C.1 C.2.1 hd (k p l e s m args below meth c H locs ls C hH hS hF hl)
theorem X_ishl {cx : xC} {M : xY} {P0 : xP} {Q : Option Value → xP → xT → Prop} {pc pc' : Nat} {lv : List (Nat × Value)} {st : List Value} {P : xP} {τ : xT} {x y : Int32} (hd : decode M.2.1 pc = .ok (.ishl, 1)) (hp : pc + 1 = pc')  (k : X cx M P0 Q pc' lv (.int (x <<< (y &&& 31)) :: st) P τ) : X cx M P0 Q pc lv (.int y :: .int x :: st) P τ := by
  subst hp
  exact fun p l e s m args below meth c H locs ls C hH hS hF hl => lv_ishl C.1 C.2.1 hd (k p l e s m args below meth c H locs ls C hH hS hF hl)
theorem X_ishr {cx : xC} {M : xY} {P0 : xP} {Q : Option Value → xP → xT → Prop} {pc pc' : Nat} {lv : List (Nat × Value)} {st : List Value} {P : xP} {τ : xT} {x y : Int32} (hd : decode M.2.1 pc = .ok (.ishr, 1)) (hp : pc + 1 = pc')  (k : X cx M P0 Q pc' lv (.int (x >>> (y &&& 31)) :: st) P τ) : X cx M P0 Q pc lv (.int y :: .int x :: st) P τ := by
  subst hp
  exact fun p l e s m args below meth c H locs ls C hH hS hF hl => lv_ishr C.1 C.2.1 hd (k p l e s m args below meth c H locs ls C hH hS hF hl)
theorem X_iushr {cx : xC} {M : xY} {P0 : xP} {Q : Option Value → xP → xT → Prop} {pc pc' : Nat} {lv : List (Nat × Value)} {st : List Value} {P : xP} {τ : xT} {x y : Int32} (hd : decode M.2.1 pc = .ok (.iushr, 1)) (hp : pc + 1 = pc')  (k : X cx M P0 Q pc' lv (.int (x.toUInt32 >>> (y.toUInt32 &&& Int32.toUInt32 31)).toInt32 :: st) P τ) : X cx M P0 Q pc lv (.int y :: .int x :: st) P τ := by
  subst hp
  exact fun p l e s m args below meth c H locs ls C hH hS hF hl => lv_iushr C.1 C.2.1 hd rfl (k p l e s m args below meth c H locs ls C hH hS hF hl)
theorem X_idiv {cx : xC} {M : xY} {P0 : xP} {Q : Option Value → xP → xT → Prop} {pc pc' : Nat} {lv : List (Nat × Value)} {st : List Value} {P : xP} {τ : xT} {x y : Int32} (hd : decode M.2.1 pc = .ok (.idiv, 1)) (hp : pc + 1 = pc') (hne : ¬ y = 0) (k : X cx M P0 Q pc' lv (.int (x / y) :: st) P τ) : X cx M P0 Q pc lv (.int y :: .int x :: st) P τ := by
  subst hp
  exact fun p l e s m args below meth c H locs ls C hH hS hF hl => lv_idiv C.1 C.2.1 hd hne (k p l e s m args below meth c H locs ls C hH hS hF hl)
theorem X_irem {cx : xC} {M : xY} {P0 : xP} {Q : Option Value → xP → xT → Prop} {pc pc' : Nat} {lv : List (Nat × Value)} {st : List Value} {P : xP} {τ : xT} {x y : Int32} (hd : decode M.2.1 pc = .ok (.irem, 1)) (hp : pc + 1 = pc') (hne : ¬ y = 0) (k : X cx M P0 Q pc' lv (.int (x - x / y * y) :: st) P τ) : X cx M P0 Q pc lv (.int y :: .int x :: st) P τ := by
  subst hp
  exact fun p l e s m args below meth c H locs ls C hH hS hF hl => lv_irem C.1 C.2.1 hd hne (k p l e s m args below meth c H locs ls C hH hS hF hl)
theorem X_ineg {cx : xC} {M : xY} {P0 : xP} {Q : Option Value → xP → xT → Prop} {pc pc' : Nat} {lv : List (Nat × Value)} {st : List Value} {P : xP} {τ : xT} {x : Int32} (hd : decode M.2.1 pc = .ok (.ineg, 1)) (hp : pc + 1 = pc')  (k : X cx M P0 Q pc' lv (.int (-x) :: st) P τ) : X cx M P0 Q pc lv (.int x :: st) P τ := by
  subst hp
  exact fun p l e s m args below meth c H locs ls C hH hS hF hl => lv_ineg C.1 C.2.1 hd (k p l e s m args below meth c H locs ls C hH hS hF hl)
theorem X_ladd {cx : xC} {M : xY} {P0 : xP} {Q : Option Value → xP → xT → Prop} {pc pc' : Nat} {lv : List (Nat × Value)} {st : List Value} {P : xP} {τ : xT} {x y : Int64} (hd : decode M.2.1 pc = .ok (.ladd, 1)) (hp : pc + 1 = pc')  (k : X cx M P0 Q pc' lv (.long (x + y) :: st) P τ) : X cx M P0 Q pc lv (.long y :: .long x :: st) P τ := by
  subst hp
  exact fun p l e s m args below meth c H locs ls C hH hS hF hl => lv_ladd C.1 C.2.1 hd (k p l e s m args below meth c H locs ls C hH hS hF hl)
theorem X_lsub {cx : xC} {M : xY} {P0 : xP} {Q : Option Value → xP → xT → Prop} {pc pc' : Nat} {lv : List (Nat × Value)} {st : List Value} {P : xP} {τ : xT} {x y : Int64} (hd : decode M.2.1 pc = .ok (.lsub, 1)) (hp : pc + 1 = pc')  (k : X cx M P0 Q pc' lv (.long (x - y) :: st) P τ) : X cx M P0 Q pc lv (.long y :: .long x :: st) P τ := by
  subst hp
  exact fun p l e s m args below meth c H locs ls C hH hS hF hl => lv_lsub C.1 C.2.1 hd (k p l e s m args below meth c H locs ls C hH hS hF hl)
theorem X_lmul {cx : xC} {M : xY} {P0 : xP} {Q : Option Value → xP → xT → Prop} {pc pc' : Nat} {lv : List (Nat × Value)} {st : List Value} {P : xP} {τ : xT} {x y : Int64} (hd : decode M.2.1 pc = .ok (.lmul, 1)) (hp : pc + 1 = pc')  (k : X cx M P0 Q pc' lv (.long (x * y) :: st) P τ) : X cx M P0 Q pc lv (.long y :: .long x :: st) P τ := by
  subst hp
  exact fun p l e s m args below meth c H locs ls C hH hS hF hl => lv_lmul C.1 C.2.1 hd (k p l e s m args below meth c H locs ls C hH hS hF hl)
theorem X_land {cx : xC} {M : xY} {P0 : xP} {Q : Option Value → xP → xT → Prop} {pc pc' : Nat} {lv : List (Nat × Value)} {st : List Value} {P : xP} {τ : xT} {x y : Int64} (hd : decode M.2.1 pc = .ok (.land, 1)) (hp : pc + 1 = pc')  (k : X cx M P0 Q pc' lv (.long (x &&& y) :: st) P τ) : X cx M P0 Q pc lv (.long y :: .long x :: st) P τ := by
  subst hp
  exact fun p l e s m args below meth c H locs ls C hH hS hF hl => lv_land C.1 C.2.1 hd (k p l e s m args below meth c H locs ls C hH hS hF hl)
theorem X_lor {cx : xC} {M : xY} {P0 : xP} {Q : Option Value → xP → xT → Prop} {pc pc' : Nat} {lv : List (Nat × Value)} {st : List Value} {P : xP} {τ : xT} {x y : Int64} (hd : decode M.2.1 pc = .ok (.lor, 1)) (hp : pc + 1 = pc')  (k : X cx M P0 Q pc' lv (.long (x ||| y) :: st) P τ) : X cx M P0 Q pc lv (.long y :: .long x :: st) P τ := by
  subst hp
  exact fun p l e s m args below meth c H locs ls C hH hS hF hl => lv_lor C.1 C.2.1 hd (k p l e s m args below meth c H locs ls C hH hS hF hl)
theorem X_lneg {cx : xC} {M : xY} {P0 : xP} {Q : Option Value → xP → xT → Prop} {pc pc' : Nat} {lv : List (Nat × Value)} {st : List Value} {P : xP} {τ : xT} {x : Int64} (hd : decode M.2.1 pc = .ok (.lneg, 1)) (hp : pc + 1 = pc')  (k : X cx M P0 Q pc' lv (.long (-x) :: st) P τ) : X cx M P0 Q pc lv (.long x :: st) P τ := by
  subst hp
  exact fun p l e s m args below meth c H locs ls C hH hS hF hl => lv_lneg C.1 C.2.1 hd (k p l e s m args below meth c H locs ls C hH hS hF hl)
theorem X_ldiv {cx : xC} {M : xY} {P0 : xP} {Q : Option Value → xP → xT → Prop} {pc pc' : Nat} {lv : List (Nat × Value)} {st : List Value} {P : xP} {τ : xT} {x y : Int64} (hd : decode M.2.1 pc = .ok (.ldiv, 1)) (hp : pc + 1 = pc') (hne : ¬ y = 0) (k : X cx M P0 Q pc' lv (.long (x / y) :: st) P τ) : X cx M P0 Q pc lv (.long y :: .long x :: st) P τ := by
  subst hp
  exact fun p l e s m args below meth c H locs ls C hH hS hF hl => lv_ldiv C.1 C.2.1 hd hne (k p l e s m args below meth c H locs ls C hH hS hF hl)
theorem X_lrem {cx : xC} {M : xY} {P0 : xP} {Q : Option Value → xP → xT → Prop} {pc pc' : Nat} {lv : List (Nat × Value)} {st : List Value} {P : xP} {τ : xT} {x y : Int64} (hd : decode M.2.1 pc = .ok (.lrem, 1)) (hp : pc + 1 = pc') (hne : ¬ y = 0) (k : X cx M P0 Q pc' lv (.long (x - x / y * y) :: st) P τ) : X cx M P0 Q pc lv (.long y :: .long x :: st) P τ := by
  subst hp
  exact fun p l e s m args below meth c H locs ls C hH hS hF hl => lv_lrem C.1 C.2.1 hd hne (k p l e s m args below meth c H locs ls C hH hS hF hl)
theorem X_lushr {cx : xC} {M : xY} {P0 : xP} {Q : Option Value → xP → xT → Prop} {pc pc' : Nat} {lv : List (Nat × Value)} {st : List Value} {P : xP} {τ : xT} {x : Int64} {y : Int32} (hd : decode M.2.1 pc = .ok (.lushr, 1)) (hp : pc + 1 = pc')  (k : X cx M P0 Q pc' lv (.long (x.toUInt64 >>> (y.toInt64.toUInt64 &&& Int64.toUInt64 63)).toInt64 :: st) P τ) : X cx M P0 Q pc lv (.int y :: .long x :: st) P τ := by
  subst hp
  exact fun p l e s m args below meth c H locs ls C hH hS hF hl => lv_lushr C.1 C.2.1 hd rfl (k p l e s m args below meth c H locs ls C hH hS hF hl)
theorem X_lshl {cx : xC} {M : xY} {P0 : xP} {Q : Option Value → xP → xT → Prop} {pc pc' : Nat} {lv : List (Nat × Value)} {st : List Value} {P : xP} {τ : xT} {x : Int64} {y : Int32} (hd : decode M.2.1 pc = .ok (.lshl, 1)) (hp : pc + 1 = pc')  (k : X cx M P0 Q pc' lv (.long (x <<< (y.toInt64 &&& 63)) :: st) P τ) : X cx M P0 Q pc lv (.int y :: .long x :: st) P τ := by
  subst hp
  exact fun p l e s m args below meth c H locs ls C hH hS hF hl => lv_lshl C.1 C.2.1 hd rfl (k p l e s m args below meth c H locs ls C hH hS hF hl)
theorem X_lcmp {cx : xC} {M : xY} {P0 : xP} {Q : Option Value → xP → xT → Prop} {pc pc' : Nat} {lv : List (Nat × Value)} {st : List Value} {P : xP} {τ : xT} {x y : Int64} (hd : decode M.2.1 pc = .ok (.lcmp, 1)) (hp : pc + 1 = pc')  (k : X cx M P0 Q pc' lv (.int (lg_cmp x y) :: st) P τ) : X cx M P0 Q pc lv (.long y :: .long x :: st) P τ := by
  subst hp
  exact fun p l e s m args below meth c H locs ls C hH hS hF hl => W.lcmp C.1 C.2.1 hd (k p l e s m args below meth c H locs ls C hH hS hF hl)
theorem X_i2l {cx : xC} {M : xY} {P0 : xP} {Q : Option Value → xP → xT → Prop} {pc pc' : Nat} {lv : List (Nat × Value)} {st : List Value} {P : xP} {τ : xT} {x : Int32} (hd : decode M.2.1 pc = .ok (.i2l, 1)) (hp : pc + 1 = pc')  (k : X cx M P0 Q pc' lv (.long x.toInt64 :: st) P τ) : X cx M P0 Q pc lv (.int x :: st) P τ := by
  subst hp
  exact fun p l e s m args below meth c H locs ls C hH hS hF hl => lv_i2l C.1 C.2.1 hd rfl (k p l e s m args below meth c H locs ls C hH hS hF hl)
theorem X_l2i {cx : xC} {M : xY} {P0 : xP} {Q : Option Value → xP → xT → Prop} {pc pc' : Nat} {lv : List (Nat × Value)} {st : List Value} {P : xP} {τ : xT} {x : Int64} (hd : decode M.2.1 pc = .ok (.l2i, 1)) (hp : pc + 1 = pc')  (k : X cx M P0 Q pc' lv (.int x.toInt32 :: st) P τ) : X cx M P0 Q pc lv (.long x :: st) P τ := by
  subst hp
  exact fun p l e s m args below meth c H locs ls C hH hS hF hl => lv_l2i C.1 C.2.1 hd rfl (k p l e s m args below meth c H locs ls C hH hS hF hl)
theorem X_iconst {cx : xC} {M : xY} {P0 : xP} {Q : Option Value → xP → xT → Prop} {pc pc' : Nat} {lv : List (Nat × Value)} {st : List Value} {P : xP} {τ : xT} {n : Int} {v : Int32} (hd : decode M.2.1 pc = .ok (.iconst n, 1)) (hp : pc + 1 = pc') (hv : Int32.ofInt n = v) (k : X cx M P0 Q pc' lv (.int v :: st) P τ) : X cx M P0 Q pc lv (st) P τ := by
  subst hp
  exact fun p l e s m args below meth c H locs ls C hH hS hF hl => lv_iconst C.1 C.2.1 hd hv (k p l e s m args below meth c H locs ls C hH hS hF hl)
theorem X_bipush {cx : xC} {M : xY} {P0 : xP} {Q : Option Value → xP → xT → Prop} {pc pc' : Nat} {lv : List (Nat × Value)} {st : List Value} {P : xP} {τ : xT} {n : Int} {v : Int32} (hd : decode M.2.1 pc = .ok (.bipush n, 2)) (hp : pc + 2 = pc') (hv : (Int8.ofInt n).toInt32 = v) (k : X cx M P0 Q pc' lv (.int v :: st) P τ) : X cx M P0 Q pc lv (st) P τ := by
  subst hp
  exact fun p l e s m args below meth c H locs ls C hH hS hF hl => lv_bipush C.1 C.2.1 hd hv (k p l e s m args below meth c H locs ls C hH hS hF hl)
theorem X_sipush {cx : xC} {M : xY} {P0 : xP} {Q : Option Value → xP → xT → Prop} {pc pc' : Nat} {lv : List (Nat × Value)} {st : List Value} {P : xP} {τ : xT} {n : Int} {v : Int32} (hd : decode M.2.1 pc = .ok (.sipush n, 3)) (hp : pc + 3 = pc') (hv : (Int16.ofInt n).toInt32 = v) (k : X cx M P0 Q pc' lv (.int v :: st) P τ) : X cx M P0 Q pc lv (st) P τ := by
  subst hp
  exact fun p l e s m args below meth c H locs ls C hH hS hF hl => lv_sipush C.1 C.2.1 hd hv (k p l e s m args below meth c H locs ls C hH hS hF hl)
theorem X_lconst {cx : xC} {M : xY} {P0 : xP} {Q : Option Value → xP → xT → Prop} {pc pc' : Nat} {lv : List (Nat × Value)} {st : List Value} {P : xP} {τ : xT} {n : Fin 2} {v : Int64} (hd : decode M.2.1 pc = .ok (.lconst n, 1)) (hp : pc + 1 = pc') (hv : Int64.ofNat (n : Nat) = v) (k : X cx M P0 Q pc' lv (.long v :: st) P τ) : X cx M P0 Q pc lv (st) P τ := by
  subst hp
  exact fun p l e s m args below meth c H locs ls C hH hS hF hl => lv_lconst C.1 C.2.1 hd hv (k p l e s m args below meth c H locs ls C hH hS hF hl)
theorem X_ldcw {cx : xC} {M : xY} {P0 : xP} {Q : Option Value → xP → xT → Prop} {pc pc' : Nat} {lv : List (Nat × Value)} {st : List Value} {P : xP} {τ : xT} {idx : Nat} {v : Int32} (hd : decode M.2.1 pc = .ok (.ldc_w idx, 3)) (hp : pc + 3 = pc') (hw : Cond.constant M.1.cls idx v ∈ xtbl) (k : X cx M P0 Q pc' lv (.int v :: st) P τ) : X cx M P0 Q pc lv (st) P τ := by
  subst hp
  exact fun p l e s m args below meth c H locs ls C hH hS hF hl => lv_ldcw C.1 C.2.1 C.2.2.2.2.2.1 (C.2.2.2.2.2.2.2.1 _ (List.mem_cons_of_mem _ hw)) hd (k p l e s m args below meth c H locs ls C hH hS hF hl)
theorem X_ldc2 {cx : xC} {M : xY} {P0 : xP} {Q : Option Value → xP → xT → Prop} {pc pc' : Nat} {lv : List (Nat × Value)} {st : List Value} {P : xP} {τ : xT} {idx : Nat} {v : Int64} (hd : decode M.2.1 pc = .ok (.ldc2_w idx, 3)) (hp : pc + 3 = pc') (hw : Cond.constantLong M.1.cls idx v ∈ xtbl) (k : X cx M P0 Q pc' lv (.long v :: st) P τ) : X cx M P0 Q pc lv (st) P τ := by
  subst hp
  exact fun p l e s m args below meth c H locs ls C hH hS hF hl => lv_ldc2 C.1 C.2.1 C.2.2.2.2.2.1 (C.2.2.2.2.2.2.2.1 _ (List.mem_cons_of_mem _ hw)) hd (k p l e s m args below meth c H locs ls C hH hS hF hl)
theorem X_null {cx : xC} {M : xY} {P0 : xP} {Q : Option Value → xP → xT → Prop} {pc pc' : Nat} {lv : List (Nat × Value)} {st : List Value} {P : xP} {τ : xT}  (hd : decode M.2.1 pc = .ok (.aconst_null, 1)) (hp : pc + 1 = pc')  (k : X cx M P0 Q pc' lv (.null :: st) P τ) : X cx M P0 Q pc lv (st) P τ := by
  subst hp
  exact fun p l e s m args below meth c H locs ls C hH hS hF hl => lv_null C.1 C.2.1 hd (k p l e s m args below meth c H locs ls C hH hS hF hl)
theorem X_iload_n {cx : xC} {M : xY} {P0 : xP} {Q : Option Value → xP → xT → Prop} {pc pc' : Nat} {lv : List (Nat × Value)} {st : List Value} {P : xP} {τ : xT} {j : Fin 4} {i : Nat} {x : Int32} (hd : decode M.2.1 pc = .ok (.iload_n j, 1)) (hp : pc + 1 = pc') (hi : (j : Nat) = i) (hx : xlk lv i = some (.int x)) (k : X cx M P0 Q pc' lv (.int x :: st) P τ) : X cx M P0 Q pc lv (st) P τ := by
  subst hp
  exact fun p l e s m args below meth c H locs ls C hH hS hF hl => lv_iload_n C.1 C.2.1 hd hi (xlk_at hl hx) (k p l e s m args below meth c H locs ls C hH hS hF hl)
theorem X_iload {cx : xC} {M : xY} {P0 : xP} {Q : Option Value → xP → xT → Prop} {pc pc' : Nat} {lv : List (Nat × Value)} {st : List Value} {P : xP} {τ : xT} {i : Nat} {x : Int32} (hd : decode M.2.1 pc = .ok (.iload i, 2)) (hp : pc + 2 = pc') (hx : xlk lv i = some (.int x)) (k : X cx M P0 Q pc' lv (.int x :: st) P τ) : X cx M P0 Q pc lv (st) P τ := by
  subst hp
  exact fun p l e s m args below meth c H locs ls C hH hS hF hl => lv_iload C.1 C.2.1 hd (xlk_at hl hx) (k p l e s m args below meth c H locs ls C hH hS hF hl)
theorem X_lload_n {cx : xC} {M : xY} {P0 : xP} {Q : Option Value → xP → xT → Prop} {pc pc' : Nat} {lv : List (Nat × Value)} {st : List Value} {P : xP} {τ : xT} {j : Fin 4} {i : Nat} {x : Int64} (hd : decode M.2.1 pc = .ok (.lload_n j, 1)) (hp : pc + 1 = pc') (hi : (j : Nat) = i) (hx : xlk lv i = some (.long x)) (k : X cx M P0 Q pc' lv (.long x :: st) P τ) : X cx M P0 Q pc lv (st) P τ := by
  subst hp
  exact fun p l e s m args below meth c H locs ls C hH hS hF hl => lv_lload_n C.1 C.2.1 hd hi (xlk_at hl hx) (k p l e s m args below meth c H locs ls C hH hS hF hl)
theorem X_lload {cx : xC} {M : xY} {P0 : xP} {Q : Option Value → xP → xT → Prop} {pc pc' : Nat} {lv : List (Nat × Value)} {st : List Value} {P : xP} {τ : xT} {i : Nat} {x : Int64} (hd : decode M.2.1 pc = .ok (.lload i, 2)) (hp : pc + 2 = pc') (hx : xlk lv i = some (.long x)) (k : X cx M P0 Q pc' lv (.long x :: st) P τ) : X cx M P0 Q pc lv (st) P τ := by
  subst hp
  exact fun p l e s m args below meth c H locs ls C hH hS hF hl => lv_lload C.1 C.2.1 hd (xlk_at hl hx) (k p l e s m args below meth c H locs ls C hH hS hF hl)
theorem X_aload_n {cx : xC} {M : xY} {P0 : xP} {Q : Option Value → xP → xT → Prop} {pc pc' : Nat} {lv : List (Nat × Value)} {st : List Value} {P : xP} {τ : xT} {j : Fin 4} {i : Nat} {x : Nat} (hd : decode M.2.1 pc = .ok (.aload_n j, 1)) (hp : pc + 1 = pc') (hi : (j : Nat) = i) (hx : xlk lv i = some (.ref x)) (k : X cx M P0 Q pc' lv (.ref x :: st) P τ) : X cx M P0 Q pc lv (st) P τ := by
  subst hp
  exact fun p l e s m args below meth c H locs ls C hH hS hF hl => lv_aload_n C.1 C.2.1 hd hi (xlk_at hl hx) (k p l e s m args below meth c H locs ls C hH hS hF hl)
theorem X_aload {cx : xC} {M : xY} {P0 : xP} {Q : Option Value → xP → xT → Prop} {pc pc' : Nat} {lv : List (Nat × Value)} {st : List Value} {P : xP} {τ : xT} {i : Nat} {x : Nat} (hd : decode M.2.1 pc = .ok (.aload i, 2)) (hp : pc + 2 = pc') (hx : xlk lv i = some (.ref x)) (k : X cx M P0 Q pc' lv (.ref x :: st) P τ) : X cx M P0 Q pc lv (st) P τ := by
  subst hp
  exact fun p l e s m args below meth c H locs ls C hH hS hF hl => lv_aload C.1 C.2.1 hd (xlk_at hl hx) (k p l e s m args below meth c H locs ls C hH hS hF hl)
theorem X_istore_n {cx : xC} {M : xY} {P0 : xP} {Q : Option Value → xP → xT → Prop} {pc pc' : Nat} {lv lv' : List (Nat × Value)} {st : List Value} {P : xP} {τ : xT} {j : Fin 4} {i : Nat} {x : Int32} (hd : decode M.2.1 pc = .ok (.istore_n j, 1)) (hp : pc + 1 = pc') (hi : (j : Nat) = i) (hn : i < M.2.2.1) (hlv : xst1 lv i (.int x) = lv') (k : X cx M P0 Q pc' lv' st P τ) : X cx M P0 Q pc lv (.int x :: st) P τ := by
  subst hp; subst hlv
  exact fun p l e s m args below meth c H locs ls C hH hS hF hl => lv_istore_n C.1 C.2.1 hd hi hl hn (xst1_up cx lv i (.int x)) (fun ls' hl' => k p l e s m args below meth c H locs ls' C hH hS hF hl')
theorem X_istore {cx : xC} {M : xY} {P0 : xP} {Q : Option Value → xP → xT → Prop} {pc pc' : Nat} {lv lv' : List (Nat × Value)} {st : List Value} {P : xP} {τ : xT}  {i : Nat} {x : Int32} (hd : decode M.2.1 pc = .ok (.istore i, 2)) (hp : pc + 2 = pc')  (hn : i < M.2.2.1) (hlv : xst1 lv i (.int x) = lv') (k : X cx M P0 Q pc' lv' st P τ) : X cx M P0 Q pc lv (.int x :: st) P τ := by
  subst hp; subst hlv
  exact fun p l e s m args below meth c H locs ls C hH hS hF hl => lv_istore C.1 C.2.1 hd  hl hn (xst1_up cx lv i (.int x)) (fun ls' hl' => k p l e s m args below meth c H locs ls' C hH hS hF hl')
theorem X_lstore_n {cx : xC} {M : xY} {P0 : xP} {Q : Option Value → xP → xT → Prop} {pc pc' : Nat} {lv lv' : List (Nat × Value)} {st : List Value} {P : xP} {τ : xT} {j : Fin 4} {i : Nat} {x : Int64} (hd : decode M.2.1 pc = .ok (.lstore_n j, 1)) (hp : pc + 1 = pc') (hi : (j : Nat) = i) (hn : i + 1 < M.2.2.1) (hlv : xst2 lv i (.long x) = lv') (k : X cx M P0 Q pc' lv' st P τ) : X cx M P0 Q pc lv (.long x :: st) P τ := by
  subst hp; subst hlv
  exact fun p l e s m args below meth c H locs ls C hH hS hF hl => lv_lstore_n C.1 C.2.1 hd hi hl hn (xst2_up cx lv i (.long x)) (fun ls' hl' => k p l e s m args below meth c H locs ls' C hH hS hF hl')
theorem X_lstore {cx : xC} {M : xY} {P0 : xP} {Q : Option Value → xP → xT → Prop} {pc pc' : Nat} {lv lv' : List (Nat × Value)} {st : List Value} {P : xP} {τ : xT}  {i : Nat} {x : Int64} (hd : decode M.2.1 pc = .ok (.lstore i, 2)) (hp : pc + 2 = pc')  (hn : i + 1 < M.2.2.1) (hlv : xst2 lv i (.long x) = lv') (k : X cx M P0 Q pc' lv' st P τ) : X cx M P0 Q pc lv (.long x :: st) P τ := by
  subst hp; subst hlv
  exact fun p l e s m args below meth c H locs ls C hH hS hF hl => lv_lstore C.1 C.2.1 hd  hl hn (xst2_up cx lv i (.long x)) (fun ls' hl' => k p l e s m args below meth c H locs ls' C hH hS hF hl')
theorem X_astore_n {cx : xC} {M : xY} {P0 : xP} {Q : Option Value → xP → xT → Prop} {pc pc' : Nat} {lv lv' : List (Nat × Value)} {st : List Value} {P : xP} {τ : xT} {j : Fin 4} {i : Nat} {x : Nat} (hd : decode M.2.1 pc = .ok (.astore_n j, 1)) (hp : pc + 1 = pc') (hi : (j : Nat) = i) (hn : i < M.2.2.1) (hlv : xst1 lv i (.ref x) = lv') (k : X cx M P0 Q pc' lv' st P τ) : X cx M P0 Q pc lv (.ref x :: st) P τ := by
  subst hp; subst hlv
  exact fun p l e s m args below meth c H locs ls C hH hS hF hl => lv_astore_n C.1 C.2.1 hd hi hl hn (xst1_up cx lv i (.ref x)) (fun ls' hl' => k p l e s m args below meth c H locs ls' C hH hS hF hl')
theorem X_astore {cx : xC} {M : xY} {P0 : xP} {Q : Option Value → xP → xT → Prop} {pc pc' : Nat} {lv lv' : List (Nat × Value)} {st : List Value} {P : xP} {τ : xT}  {i : Nat} {x : Nat} (hd : decode M.2.1 pc = .ok (.astore i, 2)) (hp : pc + 2 = pc')  (hn : i < M.2.2.1) (hlv : xst1 lv i (.ref x) = lv') (k : X cx M P0 Q pc' lv' st P τ) : X cx M P0 Q pc lv (.ref x :: st) P τ := by
  subst hp; subst hlv
  exact fun p l e s m args below meth c H locs ls C hH hS hF hl => lv_astore C.1 C.2.1 hd  hl hn (xst1_up cx lv i (.ref x)) (fun ls' hl' => k p l e s m args below meth c H locs ls' C hH hS hF hl')
theorem X_iinc {cx : xC} {M : xY} {P0 : xP} {Q : Option Value → xP → xT → Prop} {pc pc' : Nat} {lv : List (Nat × Value)} {st : List Value} {P : xP} {τ : xT} {lv' : List (Nat × Value)} {i : Nat} {n : Int} {x v : Int32} (hd : decode M.2.1 pc = .ok (.iinc i n, 3)) (hp : pc + 3 = pc') (hx : xlk lv i = some (.int x)) (hv : x + Int32.ofInt n = v) (hn : i < M.2.2.1) (hlv : xst1 lv i (.int v) = lv') (k : X cx M P0 Q pc' lv' st P τ) : X cx M P0 Q pc lv st P τ := by
  subst hp; subst hlv
  intro p l e s m args below meth c H locs ls C hH hS hF hl
  obtain ⟨j, hj⟩ := List.getElem?_of_mem (List.mem_map.mpr ⟨(i, .int x), xlk_mem hx, rfl⟩ : (i, xup cx (.int x)) ∈ lv.map (xup2 cx))
  exact lv_iinc C.1 C.2.1 hd hl hj hv hn (xst1_up cx lv i (.int v)) (fun ls' hl' => k p l e s m args below meth c H locs ls' C hH hS hF hl')
theorem X_dup {cx : xC} {M : xY} {P0 : xP} {Q : Option Value → xP → xT → Prop} {pc pc' : Nat} {lv : List (Nat × Value)} {st : List Value} {P : xP} {τ : xT} {v : Value} (hd : decode M.2.1 pc = .ok (.dup, 1)) (hp : pc + 1 = pc') (hc : v.category = 1) (k : X cx M P0 Q pc' lv (v :: v :: st) P τ) : X cx M P0 Q pc lv (v :: st) P τ := by
  subst hp
  exact fun p l e s m args below meth c H locs ls C hH hS hF hl => lv_dup C.1 C.2.1 hd ((xup_cat cx v).trans hc) (k p l e s m args below meth c H locs ls C hH hS hF hl)
theorem X_dup2 {cx : xC} {M : xY} {P0 : xP} {Q : Option Value → xP → xT → Prop} {pc pc' : Nat} {lv : List (Nat × Value)} {st : List Value} {P : xP} {τ : xT} {v w : Value} (hd : decode M.2.1 pc = .ok (.dup2, 1)) (hp : pc + 1 = pc') (hc : v.category = 1) (hc2 : w.category = 1) (k : X cx M P0 Q pc' lv (v :: w :: v :: w :: st) P τ) : X cx M P0 Q pc lv (v :: w :: st) P τ := by
  subst hp
  exact fun p l e s m args below meth c H locs ls C hH hS hF hl => lv_dup2_11 C.1 C.2.1 hd ((xup_cat cx v).trans hc) ((xup_cat cx w).trans hc2) (k p l e s m args below meth c H locs ls C hH hS hF hl)
theorem X_pop {cx : xC} {M : xY} {P0 : xP} {Q : Option Value → xP → xT → Prop} {pc pc' : Nat} {lv : List (Nat × Value)} {st : List Value} {P : xP} {τ : xT} {v : Value} (hd : decode M.2.1 pc = .ok (.pop, 1)) (hp : pc + 1 = pc') (hc : v.category = 1) (k : X cx M P0 Q pc' lv (st) P τ) : X cx M P0 Q pc lv (v :: st) P τ := by
  subst hp
  exact fun p l e s m args below meth c H locs ls C hH hS hF hl => lv_pop C.1 C.2.1 hd ((xup_cat cx v).trans hc) (k p l e s m args below meth c H locs ls C hH hS hF hl)
-- BRANCHES
theorem X_if_eq {cx : xC} {M : xY} {P0 : xP} {Q : Option Value → xP → xT → Prop} {pc pc' tgt : Nat} {lv : List (Nat × Value)} {st : List Value} {P : xP} {τ : xT} {off : Int} {x : Int32} (hd : decode M.2.1 pc = .ok (.ifCond .eq off, 3)) (hp : pc + 3 = pc') (ht : (pc : Int) + off = (tgt : Int)) (kt : x = 0 → X cx M P0 Q tgt lv st P τ) (kf : ¬ x = 0 → X cx M P0 Q pc' lv st P τ) : X cx M P0 Q pc lv (.int x :: st) P τ := by
  subst hp
  exact fun p l e s m args below meth c H locs ls C hH hS hF hl => lv_if_eq C.1 C.2.1 hd ht (fun h => kt h p l e s m args below meth c H locs ls C hH hS hF hl) (fun h => kf h p l e s m args below meth c H locs ls C hH hS hF hl)
theorem X_icmp_eq {cx : xC} {M : xY} {P0 : xP} {Q : Option Value → xP → xT → Prop} {pc pc' tgt : Nat} {lv : List (Nat × Value)} {st : List Value} {P : xP} {τ : xT} {off : Int} {x y : Int32} (hd : decode M.2.1 pc = .ok (.if_icmp .eq off, 3)) (hp : pc + 3 = pc') (ht : (pc : Int) + off = (tgt : Int)) (kt : x = y → X cx M P0 Q tgt lv st P τ) (kf : ¬ x = y → X cx M P0 Q pc' lv st P τ) : X cx M P0 Q pc lv (.int y :: .int x :: st) P τ := by
  subst hp
  exact fun p l e s m args below meth c H locs ls C hH hS hF hl => lv_icmp_eq C.1 C.2.1 hd ht (fun h => kt h p l e s m args below meth c H locs ls C hH hS hF hl) (fun h => kf h p l e s m args below meth c H locs ls C hH hS hF hl)
theorem X_if_ne {cx : xC} {M : xY} {P0 : xP} {Q : Option Value → xP → xT → Prop} {pc pc' tgt : Nat} {lv : List (Nat × Value)} {st : List Value} {P : xP} {τ : xT} {off : Int} {x : Int32} (hd : decode M.2.1 pc = .ok (.ifCond .ne off, 3)) (hp : pc + 3 = pc') (ht : (pc : Int) + off = (tgt : Int)) (kt : ¬ x = 0 → X cx M P0 Q tgt lv st P τ) (kf : x = 0 → X cx M P0 Q pc' lv st P τ) : X cx M P0 Q pc lv (.int x :: st) P τ := by
  subst hp
  exact fun p l e s m args below meth c H locs ls C hH hS hF hl => lv_if_ne C.1 C.2.1 hd ht (fun h => kt h p l e s m args below meth c H locs ls C hH hS hF hl) (fun h => kf h p l e s m args below meth c H locs ls C hH hS hF hl)
theorem X_icmp_ne {cx : xC} {M : xY} {P0 : xP} {Q : Option Value → xP → xT → Prop} {pc pc' tgt : Nat} {lv : List (Nat × Value)} {st : List Value} {P : xP} {τ : xT} {off : Int} {x y : Int32} (hd : decode M.2.1 pc = .ok (.if_icmp .ne off, 3)) (hp : pc + 3 = pc') (ht : (pc : Int) + off = (tgt : Int)) (kt : ¬ x = y → X cx M P0 Q tgt lv st P τ) (kf : x = y → X cx M P0 Q pc' lv st P τ) : X cx M P0 Q pc lv (.int y :: .int x :: st) P τ := by
  subst hp
  exact fun p l e s m args below meth c H locs ls C hH hS hF hl => lv_icmp_ne C.1 C.2.1 hd ht (fun h => kt h p l e s m args below meth c H locs ls C hH hS hF hl) (fun h => kf h p l e s m args below meth c H locs ls C hH hS hF hl)
theorem X_if_lt {cx : xC} {M : xY} {P0 : xP} {Q : Option Value → xP → xT → Prop} {pc pc' tgt : Nat} {lv : List (Nat × Value)} {st : List Value} {P : xP} {τ : xT} {off : Int} {x : Int32} (hd : decode M.2.1 pc = .ok (.ifCond .lt off, 3)) (hp : pc + 3 = pc') (ht : (pc : Int) + off = (tgt : Int)) (kt : x < 0 → X cx M P0 Q tgt lv st P τ) (kf : ¬ x < 0 → X cx M P0 Q pc' lv st P τ) : X cx M P0 Q pc lv (.int x :: st) P τ := by
  subst hp
  exact fun p l e s m args below meth c H locs ls C hH hS hF hl => lv_if_lt C.1 C.2.1 hd ht (fun h => kt h p l e s m args below meth c H locs ls C hH hS hF hl) (fun h => kf h p l e s m args below meth c H locs ls C hH hS hF hl)
theorem X_icmp_lt {cx : xC} {M : xY} {P0 : xP} {Q : Option Value → xP → xT → Prop} {pc pc' tgt : Nat} {lv : List (Nat × Value)} {st : List Value} {P : xP} {τ : xT} {off : Int} {x y : Int32} (hd : decode M.2.1 pc = .ok (.if_icmp .lt off, 3)) (hp : pc + 3 = pc') (ht : (pc : Int) + off = (tgt : Int)) (kt : x < y → X cx M P0 Q tgt lv st P τ) (kf : ¬ x < y → X cx M P0 Q pc' lv st P τ) : X cx M P0 Q pc lv (.int y :: .int x :: st) P τ := by
  subst hp
  exact fun p l e s m args below meth c H locs ls C hH hS hF hl => lv_icmp_lt C.1 C.2.1 hd ht (fun h => kt h p l e s m args below meth c H locs ls C hH hS hF hl) (fun h => kf h p l e s m args below meth c H locs ls C hH hS hF hl)
theorem X_if_ge {cx : xC} {M : xY} {P0 : xP} {Q : Option Value → xP → xT → Prop} {pc pc' tgt : Nat} {lv : List (Nat × Value)} {st : List Value} {P : xP} {τ : xT} {off : Int} {x : Int32} (hd : decode M.2.1 pc = .ok (.ifCond .ge off, 3)) (hp : pc + 3 = pc') (ht : (pc : Int) + off = (tgt : Int)) (kt : 0 ≤ x → X cx M P0 Q tgt lv st P τ) (kf : ¬ 0 ≤ x → X cx M P0 Q pc' lv st P τ) : X cx M P0 Q pc lv (.int x :: st) P τ := by
  subst hp
  exact fun p l e s m args below meth c H locs ls C hH hS hF hl => lv_if_ge C.1 C.2.1 hd ht (fun h => kt h p l e s m args below meth c H locs ls C hH hS hF hl) (fun h => kf h p l e s m args below meth c H locs ls C hH hS hF hl)
theorem X_icmp_ge {cx : xC} {M : xY} {P0 : xP} {Q : Option Value → xP → xT → Prop} {pc pc' tgt : Nat} {lv : List (Nat × Value)} {st : List Value} {P : xP} {τ : xT} {off : Int} {x y : Int32} (hd : decode M.2.1 pc = .ok (.if_icmp .ge off, 3)) (hp : pc + 3 = pc') (ht : (pc : Int) + off = (tgt : Int)) (kt : y ≤ x → X cx M P0 Q tgt lv st P τ) (kf : ¬ y ≤ x → X cx M P0 Q pc' lv st P τ) : X cx M P0 Q pc lv (.int y :: .int x :: st) P τ := by
  subst hp
  exact fun p l e s m args below meth c H locs ls C hH hS hF hl => lv_icmp_ge C.1 C.2.1 hd ht (fun h => kt h p l e s m args below meth c H locs ls C hH hS hF hl) (fun h => kf h p l e s m args below meth c H locs ls C hH hS hF hl)
theorem X_if_gt {cx : xC} {M : xY} {P0 : xP} {Q : Option Value → xP → xT → Prop} {pc pc' tgt : Nat} {lv : List (Nat × Value)} {st : List Value} {P : xP} {τ : xT} {off : Int} {x : Int32} (hd : decode M.2.1 pc = .ok (.ifCond .gt off, 3)) (hp : pc + 3 = pc') (ht : (pc : Int) + off = (tgt : Int)) (kt : 0 < x → X cx M P0 Q tgt lv st P τ) (kf : ¬ 0 < x → X cx M P0 Q pc' lv st P τ) : X cx M P0 Q pc lv (.int x :: st) P τ := by
  subst hp
  exact fun p l e s m args below meth c H locs ls C hH hS hF hl => lv_if_gt C.1 C.2.1 hd ht (fun h => kt h p l e s m args below meth c H locs ls C hH hS hF hl) (fun h => kf h p l e s m args below meth c H locs ls C hH hS hF hl)
theorem X_icmp_gt {cx : xC} {M : xY} {P0 : xP} {Q : Option Value → xP → xT → Prop} {pc pc' tgt : Nat} {lv : List (Nat × Value)} {st : List Value} {P : xP} {τ : xT} {off : Int} {x y : Int32} (hd : decode M.2.1 pc = .ok (.if_icmp .gt off, 3)) (hp : pc + 3 = pc') (ht : (pc : Int) + off = (tgt : Int)) (kt : y < x → X cx M P0 Q tgt lv st P τ) (kf : ¬ y < x → X cx M P0 Q pc' lv st P τ) : X cx M P0 Q pc lv (.int y :: .int x :: st) P τ := by
  subst hp
  exact fun p l e s m args below meth c H locs ls C hH hS hF hl => lv_icmp_gt C.1 C.2.1 hd ht (fun h => kt h p l e s m args below meth c H locs ls C hH hS hF hl) (fun h => kf h p l e s m args below meth c H locs ls C hH hS hF hl)
theorem X_if_le {cx : xC} {M : xY} {P0 : xP} {Q : Option Value → xP → xT → Prop} {pc pc' tgt : Nat} {lv : List (Nat × Value)} {st : List Value} {P : xP} {τ : xT} {off : Int} {x : Int32} (hd : decode M.2.1 pc = .ok (.ifCond .le off, 3)) (hp : pc + 3 = pc') (ht : (pc : Int) + off = (tgt : Int)) (kt : x ≤ 0 → X cx M P0 Q tgt lv st P τ) (kf : ¬ x ≤ 0 → X cx M P0 Q pc' lv st P τ) : X cx M P0 Q pc lv (.int x :: st) P τ := by
  subst hp
  exact fun p l e s m args below meth c H locs ls C hH hS hF hl => lv_if_le C.1 C.2.1 hd ht (fun h => kt h p l e s m args below meth c H locs ls C hH hS hF hl) (fun h => kf h p l e s m args below meth c H locs ls C hH hS hF hl)
theorem X_icmp_le {cx : xC} {M : xY} {P0 : xP} {Q : Option Value → xP → xT → Prop} {pc pc' tgt : Nat} {lv : List (Nat × Value)} {st : List Value} {P : xP} {τ : xT} {off : Int} {x y : Int32} (hd : decode M.2.1 pc = .ok (.if_icmp .le off, 3)) (hp : pc + 3 = pc') (ht : (pc : Int) + off = (tgt : Int)) (kt : x ≤ y → X cx M P0 Q tgt lv st P τ) (kf : ¬ x ≤ y → X cx M P0 Q pc' lv st P τ) : X cx M P0 Q pc lv (.int y :: .int x :: st) P τ := by
  subst hp
  exact fun p l e s m args below meth c H locs ls C hH hS hF hl => lv_icmp_le C.1 C.2.1 hd ht (fun h => kt h p l e s m args below meth c H locs ls C hH hS hF hl) (fun h => kf h p l e s m args below meth c H locs ls C hH hS hF hl)
theorem X_goto {cx : xC} {M : xY} {P0 : xP} {Q : Option Value → xP → xT → Prop} {pc pc' tgt : Nat} {lv : List (Nat × Value)} {st : List Value} {P : xP} {τ : xT} {off : Int} (hd : decode M.2.1 pc = .ok (.goto off, 3)) (ht : (pc : Int) + off = (tgt : Int)) (k : X cx M P0 Q tgt lv st P τ) : X cx M P0 Q pc lv st P τ := fun p l e s m args below meth c H locs ls C hH hS hF hl => lv_goto C.1 C.2.1 hd ht (k p l e s m args below meth c H locs ls C hH hS hF hl)
theorem X_ifnull {cx : xC} {M : xY} {P0 : xP} {Q : Option Value → xP → xT → Prop} {pc pc' : Nat} {lv : List (Nat × Value)} {st : List Value} {P : xP} {τ : xT} {off : Int} {a : Nat} (hd : decode M.2.1 pc = .ok (.ifnull off, 3)) (hp : pc + 3 = pc') (k : X cx M P0 Q pc' lv st P τ) : X cx M P0 Q pc lv (.ref a :: st) P τ := by
  subst hp
  exact fun p l e s m args below meth c H locs ls C hH hS hF hl => lv_ifnull C.1 C.2.1 hd (k p l e s m args below meth c H locs ls C hH hS hF hl)
theorem X_ifnonnull {cx : xC} {M : xY} {P0 : xP} {Q : Option Value → xP → xT → Prop} {pc pc' tgt : Nat} {lv : List (Nat × Value)} {st : List Value} {P : xP} {τ : xT} {off : Int} {a : Nat} (hd : decode M.2.1 pc = .ok (.ifnonnull off, 3)) (ht : (pc : Int) + off = (tgt : Int)) (k : X cx M P0 Q tgt lv st P τ) : X cx M P0 Q pc lv (.ref a :: st) P τ := fun p l e s m args below meth c H locs ls C hH hS hF hl => lv_ifnonnull C.1 C.2.1 hd ht (k p l e s m args below meth c H locs ls C hH hS hF hl)
theorem X_tabIn {cx : xC} {M : xY} {P0 : xP} {Q : Option Value → xP → xT → Prop} {pc pc' tgt : Nat} {lv : List (Nat × Value)} {st : List Value} {P : xP} {τ : xT} {dflt lo hi : Int} {offs : Array Int} {len : Nat} {x : Int32} {off : Int} (hd : decode M.2.1 pc = .ok (.tableswitch dflt lo hi offs, len)) (h1 : ¬ x.toInt < lo) (h2 : ¬ hi < x.toInt) (ho : offs[(x.toInt - lo).toNat]? = some off) (ht : (pc : Int) + off = (tgt : Int)) (k : X cx M P0 Q tgt lv st P τ) : X cx M P0 Q pc lv (.int x :: st) P τ := fun p l e s m args below meth c H locs ls C hH hS hF hl => lv_tableIn C.1 C.2.1 hd h1 h2 ho ht (k p l e s m args below meth c H locs ls C hH hS hF hl)
theorem X_tabOut {cx : xC} {M : xY} {P0 : xP} {Q : Option Value → xP → xT → Prop} {pc pc' tgt : Nat} {lv : List (Nat × Value)} {st : List Value} {P : xP} {τ : xT} {dflt lo hi : Int} {offs : Array Int} {len : Nat} {x : Int32} (hd : decode M.2.1 pc = .ok (.tableswitch dflt lo hi offs, len)) (h : x.toInt < lo ∨ hi < x.toInt) (ht : (pc : Int) + dflt = (tgt : Int)) (k : X cx M P0 Q tgt lv st P τ) : X cx M P0 Q pc lv (.int x :: st) P τ := fun p l e s m args below meth c H locs ls C hH hS hF hl => lv_tableOut C.1 C.2.1 hd h ht (k p l e s m args below meth c H locs ls C hH hS hF hl)
