/-! ===== the judgement's rows over the heap, its ends, its calls ===== -/
def xsi (τ : xT) (a k : Nat) (v : Int32) : xT := (fun a' => if a' = a then upd (τ.1 a) k v else τ.1 a', τ.2)
def xsl (τ : xT) (a k : Nat) (v : Int64) : xT := (τ.1, fun a' => if a' = a then vp_updL (τ.2.1 a) k v else τ.2.1 a', τ.2.2)
def xsr (τ : xT) (a k : Nat) (v : Nat) : xT := (τ.1, τ.2.1, fun a' j => if a' = a ∧ j = k then v else τ.2.2 a' j)
/-- an object's place, an array's place -/
def xO (P : xP) (a ci : Nat) (fks : List Nat) : Prop := (∃ a', a = a' + 1 ∧ a' < P.1) ∧ P.2.2 a = .inr (ci, fks)
def xR (P : xP) (a kd n : Nat) : Prop := (∃ a', a = a' + 1 ∧ a' < P.1) ∧ P.2.2 a = .inl (kd, n) ∧ n < 100000
/-- an array of ints, perhaps the static table -/
def xI (P : xP) (a n : Nat) : Prop := xR P a 0 n ∨ (a = 0 ∧ n = 4)
def xCl (ci : Nat) (C : String) (T : u_T) (N : Nat) (ty : Nat → FieldType) : Prop :=
  vwCl[ci]? = some (C, T, N) ∧ (∀ w ∈ u_ws C T N, w ∈ xtbl) ∧ (∀ k, k < N → parseFieldDescriptor (T k).2.2.1 = some (ty k)) ∧ (∀ a, a < N → ∀ b, b < N → a ≠ b → (T a).2.1 ≠ (T b).2.1) ∧ (∀ k, k < N → (T k).1 = C)
def xGF (M : xY) (idx ci k : Nat) : Prop := ∃ (C : String) (T : u_T) (N : Nat) (ty : Nat → FieldType), xCl ci C T N ty ∧ k < N ∧ Cond.fieldLink M.1.cls idx C (T k).2.1 (T k).2.2.1 ∈ xtbl
def xPF (M : xY) (idx ci k : Nat) (t : FieldType) : Prop := ∃ (C : String) (T : u_T) (N : Nat) (ty : Nat → FieldType), xCl ci C T N ty ∧ k < N ∧ Cond.fieldLink M.1.cls idx C (T k).2.1 (T k).2.2.1 ∈ xtbl ∧ (T k).2.2.2 = false ∧ ty k = t
def xPFF (M : xY) (idx ci k : Nat) (t : FieldType) : Prop := ∃ (C : String) (T : u_T) (N : Nat) (ty : Nat → FieldType), xCl ci C T N ty ∧ k < N ∧ Cond.fieldLink M.1.cls idx C (T k).2.1 (T k).2.2.1 ∈ xtbl ∧ (T k).2.2.2 = true ∧ ty k = t ∧ C = M.1.cls ∧ M.1.name = "<init>"
section XR
variable {cx : xC} {M : xY} {P0 : xP} {Q : Option Value → xP → xT → Prop} {pc pc' : Nat} {lv : List (Nat × Value)} {st : List Value} {P : xP} {τ : xT}
theorem xtbl_hts {s : State} {args : Array Value} (h : ∀ w ∈ xyw M, w.before args s = true) : ∀ w ∈ xtbl, w.before args s = true := fun w hw => h w (List.mem_cons_of_mem _ hw)
theorem xcell_O {ly : xLy} {a ci : Nat} {fks : List Nat} (h : ly a = .inr (ci, fks)) : xcell cx ly τ a = .inr (ci, (List.range fks.length).map (fun k => xup cx (xfv τ a k (fks.getD k 0)))) := by
  unfold xcell; simp only [h]
theorem xcell_I {ly : xLy} {a n : Nat} (h : ly a = .inl (0, n)) : xcell cx ly τ a = .inl (cx.2.2.2.2.1, n, .inl (τ.1 a)) := by unfold xcell; simp only [h]
theorem xcell_J {ly : xLy} {a n : Nat} (h : ly a = .inl (1, n)) : xcell cx ly τ a = .inl (cx.2.2.2.2.2.1, n, .inr (.inl (τ.2.1 a))) := by unfold xcell; simp only [h]
theorem xcell_Z {ly : xLy} {a n : Nat} (h : ly a = .inl (2, n)) : xcell cx ly τ a = .inl (cx.2.2.2.2.2.2.1, n, .inl (τ.1 a)) := by unfold xcell; simp only [h]
theorem xcell_S {ly : xLy} {a n : Nat} (h : ly a = .inl (3, n)) : xcell cx ly τ a = .inl (cx.2.2.2.2.2.2.2, n, .inr (.inr (.inr (.inr (fun j => if τ.2.2 a j = 0 then none else some (xad cx (τ.2.2 a j))))))) := by unfold xcell; simp only [h]
theorem xcell_congr {ly ly' : xLy} {τ τ' : xT} {a : Nat} (hl : ly' a = ly a) (h1 : τ'.1 a = τ.1 a) (h2 : τ'.2.1 a = τ.2.1 a) (h3 : τ'.2.2 a = τ.2.2 a) : xcell cx ly' τ' a = xcell cx ly τ a := by
  unfold xcell xfv
  rw [hl, h1, h2, h3]
theorem xfs_get {a k kd : Nat} {fks : List Nat} (h : fks[k]? = some kd) : ((List.range fks.length).map (fun k => xup cx (xfv τ a k (fks.getD k 0))))[k]? = some (xup cx (xfv τ a k kd)) := by
  have hk := (List.getElem?_eq_some_iff.mp h).1
  have hg : fks[k] = kd := (List.getElem?_eq_some_iff.mp h).2
  simp [hk, hg]
theorem X_get {a idx ci k kd : Nat} {fks : List Nat} {v : Value} (hd : decode M.2.1 pc = .ok (.getfield idx, 3)) (hp : pc + 3 = pc') (hg : xGF M idx ci k) (ho : xO P a ci fks) (hk : fks[k]? = some kd) (hv : xfv τ a k kd = v) (kk : X cx M P0 Q pc' lv (v :: st) P τ) : X cx M P0 Q pc lv (.ref a :: st) P τ := by
  subst hp; subst hv
  intro p l e s m args below meth c H locs ls C hH hS hF hl
  obtain ⟨⟨a', rfl, ha⟩, hly⟩ := ho
  obtain ⟨Cn, T, N, ty, ⟨hc, hu, -, -, hT⟩, hkN, hlink⟩ := hg
  have hts := xtbl_hts C.2.2.2.2.2.2.2.1
  have he := xws_get (cx := cx) (τ := τ) ha
  rw [xcell_O hly] at he
  exact va_get (D := cx.2.2.2.1) (ci := ci) (C := Cn) (T := T) (N := N) C.1 C.2.1 hts hu C.2.2.2.2.2.1 C.2.2.2.2.2.2.2.2.1.1 hH.1.2.2.2 a' he hc k hkN (hts _ hlink) (fun x hx => by rw [hT k hkN] at hx; exact hx) (xfs_get hk) hd (kk p l e s m args below meth c H locs ls C hH hS hF hl)
/-- the put, to any new world that differs at that cell alone -/
theorem X_putG {a idx ci k : Nat} {fks : List Nat} {v : Value} {t : FieldType} {ly' : xLy} {fks' : List Nat} {τ' : xT} (hd : decode M.2.1 pc = .ok (.putfield idx, 3)) (hp : pc + 3 = pc') (hg : xPF M idx ci k t ∨ xPFF M idx ci k t) (ho : xO P a ci fks) (hk : k < fks.length) (hn : narrow t (xup cx v) = xup cx v) (hfit : fits t (xup cx v) = true)
    (hly' : ly' a = .inr (ci, fks')) (hfs : (List.range fks'.length).map (fun j => xup cx (xfv τ' a j (fks'.getD j 0))) = ((List.range fks.length).map (fun j => xup cx (xfv τ a j (fks.getD j 0)))).set k (xup cx v))
    (h0 : ∀ j, j ≠ a → ly' j = P.2.2 j ∧ τ'.1 j = τ.1 j ∧ τ'.2.1 j = τ.2.1 j ∧ τ'.2.2 j = τ.2.2 j)
    (kk : X cx M P0 Q pc' lv st (P.1, P.2.1, ly') τ') : X cx M P0 Q pc lv (v :: .ref a :: st) P τ := by
  subst hp
  intro p l e s m args below meth c H locs ls C hH hS hF hl
  obtain ⟨⟨a', rfl, ha⟩, hly⟩ := ho
  have hts := xtbl_hts C.2.2.2.2.2.2.2.1
  have hK := C.2.2.2.2.2.2.2.2.1.1
  have hat := hH.1.at ha
  rw [xcell_O hly] at hat
  have fin : ∀ (H1 : Heap) (kx : Nat), H1.size = H.size → (∀ q : Nat, q ≠ cx.1 + a' → H1[q]? = H[q]?) → va_at cx.2.2.2.1 vwCl (cx.1 + a', .inr (ci, ((List.range fks.length).map (fun j => xup cx (xfv τ (a' + 1) j (fks.getD j 0)))).set k (xup cx v))) H1 →
      W p l e M.2.2.2.2 s m args below meth c H1 (locs ++ [⟨cx.1 + a', kx⟩]) (P.1 - P0.1) (P.2.1 - P0.2.1) (MQ below (xQc cx M P0 Q) args s M.2.2.2.2.cells M.2.2.2.2.slots (fun q => cx.1 ≤ q)) (F0 m (pc + 3) ls (st.map (xup cx))) := by
    intro H1 kx hz ho1 hat1
    have hz0 := h0 0 (by omega)
    refine kk p l e s m args below meth c H1 _ ls C ⟨hH.1.set ha ly' hz ho1 ?_ hz0.1 (fun j => by rw [hz0.2.1]) (fun j hj => ?_), hH.2⟩ (hS.put hz ho1 (by show cx.1 ≤ cx.1 + a'; omega)) (hF.put hH.2 ha ho1) hl
    · rw [xcell_O hly', hfs]; exact hat1
    · obtain ⟨q1, q2, q3, q4⟩ := h0 j hj
      exact xcell_congr q1 q2 q3 q4
  obtain ⟨r, h1, cell, q1, q2, q3, q4⟩ := hat
  have hlen : k < ((List.range fks.length).map (fun j => xup cx (xfv τ (a' + 1) j (fks.getD j 0)))).length := by simpa using hk
  rcases hg with ⟨Cn, T, N, ty, ⟨hc, hu, hty, hnm, hT⟩, hkN, hlink, hfin, htk⟩ | ⟨Cn, T, N, ty, ⟨hc, hu, hty, hnm, hT⟩, hkN, hlink, hfin, htk, hCM, hini⟩
  · have hap := va_apart (own := M.1.cls) hts hu ty hty hnm hK hc
    have hr : r = (Cn, T, N) := Option.some.inj (h1.symm.trans hc)
    subst hr
    obtain ⟨hSl, hfc, kC, hkC, hkind⟩ := hK.1 ci _ hc
    obtain ⟨cf, kf, fi, f, hi, hsl⟩ := hSl k hkN
    have hlay := hts _ (hu _ (u_in_lay hkN))
    unfold u_lay at hlay
    rw [if_neg (by rw [hfin]; decide)] at hlay
    have hst := (u_facts hfc hkC (u_lays hts hu hkN) hi).1
    have hd9 : parseFieldDescriptor (T k).2.2.1 = some t := (hty k hkN).trans (congrArg some htk)
    have h6 := u_store hfc hkC hkind hlay hi hd9 hn hfit
    refine W.putK C.1 C.2.1 (f := f) ⟨C.2.2.2.2.2.1, hts _ hlink, ⟨_, _, _, (by rw [hT k hkN] at hi; exact hi)⟩, hst⟩ (by rw [q2]; exact h6) q1 q3 (by rw [hsl]; exact k2_hasslot (q4 k hkN)) rfl rfl hd fun H' e1 e2 e3 => ?_
    rw [hsl] at e1
    exact fin H' _ e2 e3 ⟨_, hc, t_OB.to (V := updV (vp_V _) k (xup cx v)) ⟨_, e1, q2, q3, t_set q4 hap hkN (xup cx v)⟩ (fun j _ => vp_updV_set hlen (xup cx v) j)⟩
  · have hap := va_apart (own := M.1.cls) hts hu ty hty hnm hK hc
    have hr : r = (Cn, T, N) := Option.some.inj (h1.symm.trans hc)
    subst hr
    obtain ⟨hSl, hfc, kC, hkC, hkind⟩ := hK.1 ci _ hc
    obtain ⟨cf, kf, fi, f, hi, hsl⟩ := hSl k hkN
    have hlay := hts _ (hu _ (u_in_lay hkN))
    unfold u_lay at hlay
    rw [if_pos hfin] at hlay
    have hst := (u_facts hfc hkC (u_lays hts hu hkN) hi).1
    have hcf : m.cls = cf := by
      obtain ⟨_, _, c', _, _, _, -, -, hf', -, -, -, hown2, -⟩ := Cond.laysFinal_spec hlay
      have e1 : c' = cf := by have := hi.symm.trans hf'; simp at this; exact this.1.symm
      rw [hT k hkN, hCM] at hown2
      rw [← e1]; exact Option.some.inj (C.2.2.2.2.2.1.symm.trans hown2)
    have hd9 : parseFieldDescriptor (T k).2.2.1 = some t := (hty k hkN).trans (congrArg some htk)
    have h6 := u_fits hfc hkC hkind (Or.inr hlay) hi hd9 hn hfit
    refine W.putFinK C.1 C.2.1 C.2.2.2.2.2.1 (hts _ hlink) (by rw [hT k hkN] at hi; exact hi) hst hcf (C.2.2.2.2.2.2.1.trans hini) (by rw [q2]; exact h6) q1 q3 (by rw [hsl]; exact k2_hasslot (q4 k hkN)) rfl rfl hd fun H' e1 e2 e3 => ?_
    rw [hsl] at e1
    exact fin H' _ e2 e3 ⟨_, hc, t_OB.to (V := updV (vp_V _) k (xup cx v)) ⟨_, e1, q2, q3, t_set q4 hap hkN (xup cx v)⟩ (fun j _ => vp_updV_set hlen (xup cx v) j)⟩
theorem xfs_set {a k : Nat} {fks fks' : List Nat} {τ' : xT} {v : Value} (hlen : fks'.length = fks.length) (hk : k < fks.length) (hsame : ∀ j, j ≠ k → xfv τ' a j (fks'.getD j 0) = xfv τ a j (fks.getD j 0)) (hv : xfv τ' a k (fks'.getD k 0) = v) : (List.range fks'.length).map (fun j => xup cx (xfv τ' a j (fks'.getD j 0))) = ((List.range fks.length).map (fun j => xup cx (xfv τ a j (fks.getD j 0)))).set k (xup cx v) := by
  apply List.ext_getElem?
  intro j
  by_cases hjk : j = k
  · subst hjk
    rw [List.getElem?_set_self (by simpa using hk), ← hv]
    rw [List.getElem?_map, List.getElem?_range (by omega)]; rfl
  · rw [List.getElem?_set_ne (Ne.symm hjk), List.getElem?_map, List.getElem?_map, hlen]
    by_cases hj : j < fks.length
    · rw [List.getElem?_range hj, Option.map_some, Option.map_some, hsame j hjk]
    · rw [List.getElem?_eq_none (by simpa using hj)]; rfl
theorem X_putI {a idx ci k : Nat} {fks : List Nat} {v : Int32} (hd : decode M.2.1 pc = .ok (.putfield idx, 3)) (hp : pc + 3 = pc') (hg : xPF M idx ci k .int) (ho : xO P a ci fks) (hk : fks[k]? = some 0) (kk : X cx M P0 Q pc' lv st P (xsi τ a k v)) : X cx M P0 Q pc lv (.int v :: .ref a :: st) P τ := by
  have hkl := (List.getElem?_eq_some_iff.mp hk).1
  have hk0 : fks.getD k 0 = 0 := by simp [hk]
  refine X_putG (v := .int v) (τ' := xsi τ a k v) (ly' := P.2.2) hd hp (Or.inl hg) ho hkl rfl rfl ho.2 (xfs_set rfl hkl (fun j hj => ?_) ?_) (fun j hj => ⟨rfl, if_neg hj, rfl, rfl⟩) kk
  · generalize fks.getD j 0 = kd
    match kd with
    | 0 => show Value.int ((if a = a then upd (τ.1 a) k v else τ.1 a) j) = .int (τ.1 a j); simp [upd, hj]
    | 1 => rfl
    | 2 => rfl
    | n + 3 => rfl
  · rw [hk0]; show Value.int ((if a = a then upd (τ.1 a) k v else τ.1 a) k) = .int v; simp [upd]
theorem X_putL {a idx ci k : Nat} {fks : List Nat} {v : Int64} (hd : decode M.2.1 pc = .ok (.putfield idx, 3)) (hp : pc + 3 = pc') (hg : xPF M idx ci k .long) (ho : xO P a ci fks) (hk : fks[k]? = some 1) (kk : X cx M P0 Q pc' lv st P (xsl τ a k v)) : X cx M P0 Q pc lv (.long v :: .ref a :: st) P τ := by
  have hkl := (List.getElem?_eq_some_iff.mp hk).1
  have hk0 : fks.getD k 0 = 1 := by simp [hk]
  refine X_putG (v := .long v) (τ' := xsl τ a k v) (ly' := P.2.2) hd hp (Or.inl hg) ho hkl rfl rfl ho.2 (xfs_set rfl hkl (fun j hj => ?_) ?_) (fun j hj => ⟨rfl, rfl, if_neg hj, rfl⟩) kk
  · generalize fks.getD j 0 = kd
    match kd with
    | 0 => rfl
    | 1 => show Value.long ((if a = a then vp_updL (τ.2.1 a) k v else τ.2.1 a) j) = .long (τ.2.1 a j); simp [vp_updL, hj]
    | 2 => rfl
    | n + 3 => rfl
  · rw [hk0]; show Value.long ((if a = a then vp_updL (τ.2.1 a) k v else τ.2.1 a) k) = .long v; simp [vp_updL]
/-- a final reference, in a constructor -/
def xly (ly : xLy) (a : Nat) (v : (Nat × Nat) ⊕ (Nat × List Nat)) : xLy := fun b => if b = a then v else ly b
theorem X_putR {a idx ci k r : Nat} {fks : List Nat} {t : FieldType} (hd : decode M.2.1 pc = .ok (.putfield idx, 3)) (hp : pc + 3 = pc') (hg : xPFF M idx ci k t) (ho : xO P a ci fks) (hk : k < fks.length) (hn : ∀ q, narrow t (.ref q) = .ref q) (hfit : ∀ q, fits t (.ref q) = true) (kk : X cx M P0 Q pc' lv st (P.1, P.2.1, xly P.2.2 a (.inr (ci, fks.set k (r + 3)))) τ) : X cx M P0 Q pc lv (.ref r :: .ref a :: st) P τ := by
  refine X_putG (v := .ref r) (τ' := τ) (ly' := xly P.2.2 a (.inr (ci, fks.set k (r + 3)))) hd hp (Or.inr hg) ho hk (hn _) (hfit _) (fks' := fks.set k (r + 3)) (if_pos rfl) (xfs_set (by simp) hk (fun j hj => ?_) ?_) (fun j hj => ⟨if_neg hj, rfl, rfl, rfl⟩) kk
  · rw [List.getD_eq_getElem?_getD, List.getD_eq_getElem?_getD, List.getElem?_set_ne (Ne.symm hj)]
  · rw [List.getD_eq_getElem?_getD, List.getElem?_set_self hk]; rfl
theorem xix {j n : Nat} {i : Int32} (hi : i = nI j) (h : j < n) (hn : n < 100000) : vp_in i n ∧ i.toNatClampNeg = j := by
  subst hi
  exact ⟨vp_in_nI h (by omega), nI_clamp (by omega)⟩
theorem X_iald {a n j : Nat} {i : Int32} (hd : decode M.2.1 pc = .ok (.iaload, 1)) (hp : pc + 1 = pc') (ha : xI P a n) (hi : i = nI j) (hj : j < n) (kk : X cx M P0 Q pc' lv (.int (τ.1 a j) :: st) P τ) : X cx M P0 Q pc lv (.int i :: .ref a :: st) P τ := by
  subst hp
  intro p l e s m args below meth c H locs ls C hH hS hF hl
  have K := kk p l e s m args below meth c H locs ls C hH hS hF hl
  rcases ha with ⟨⟨a', rfl, ha⟩, hly, hn⟩ | ⟨rfl, rfl⟩
  · obtain ⟨h1, h2⟩ := xix hi hj hn
    have he := xws_get (cx := cx) (τ := τ) ha
    rw [xcell_I hly] at he
    refine va_iald C.1 C.2.1 C.2.2.2.2.2.2.2.2.1.1 hH.1.2.2.2 a' 0 he rfl h1 hd ?_
    rw [h2]; exact K
  · obtain ⟨h1, h2⟩ := xix hi hj (by decide)
    refine va_ti C.1 C.2.1 C.2.2.2.2.2.2.2.2.1.2.2.2.1 hS h1 (v := .int (τ.1 0 j)) ?_ hd K
    rw [h2, hH.1.2.2.1]
theorem X_lald {a n j : Nat} {i : Int32} (hd : decode M.2.1 pc = .ok (.laload, 1)) (hp : pc + 1 = pc') (ha : xR P a 1 n) (hi : i = nI j) (hj : j < n) (kk : X cx M P0 Q pc' lv (.long (τ.2.1 a j) :: st) P τ) : X cx M P0 Q pc lv (.int i :: .ref a :: st) P τ := by
  subst hp
  intro p l e s m args below meth c H locs ls C hH hS hF hl
  have K := kk p l e s m args below meth c H locs ls C hH hS hF hl
  obtain ⟨⟨a', rfl, ha⟩, hly, hn⟩ := ha
  obtain ⟨h1, h2⟩ := xix hi hj hn
  have he := xws_get (cx := cx) (τ := τ) ha
  rw [xcell_J hly] at he
  refine va_lald C.1 C.2.1 C.2.2.2.2.2.2.2.2.1.1 hH.1.2.2.2 a' 1 he rfl h1 hd ?_
  rw [h2]; exact K
theorem X_zald {a n j : Nat} {i : Int32} (hd : decode M.2.1 pc = .ok (.baload, 1)) (hp : pc + 1 = pc') (ha : xR P a 2 n) (hi : i = nI j) (hj : j < n) (kk : X cx M P0 Q pc' lv (.int (τ.1 a j) :: st) P τ) : X cx M P0 Q pc lv (.int i :: .ref a :: st) P τ := by
  subst hp
  intro p l e s m args below meth c H locs ls C hH hS hF hl
  have K := kk p l e s m args below meth c H locs ls C hH hS hF hl
  obtain ⟨⟨a', rfl, ha⟩, hly, hn⟩ := ha
  obtain ⟨h1, h2⟩ := xix hi hj hn
  have he := xws_get (cx := cx) (τ := τ) ha
  rw [xcell_Z hly] at he
  refine va_zald C.1 C.2.1 C.2.2.2.2.2.2.2.2.1.1 hH.1.2.2.2 a' 2 he rfl h1 hd ?_
  rw [h2]; exact K
theorem xrf_up {r : Nat} : va_rf (if r = 0 then none else some (xad cx r)) = xup cx (xrf r) := by
  unfold xrf
  split <;> rfl
theorem X_aald {a n j : Nat} {i : Int32} (hd : decode M.2.1 pc = .ok (.aaload, 1)) (hp : pc + 1 = pc') (ha : xR P a 3 n) (hi : i = nI j) (hj : j < n) (kk : X cx M P0 Q pc' lv (xrf (τ.2.2 a j) :: st) P τ) : X cx M P0 Q pc lv (.int i :: .ref a :: st) P τ := by
  subst hp
  intro p l e s m args below meth c H locs ls C hH hS hF hl
  have K := kk p l e s m args below meth c H locs ls C hH hS hF hl
  obtain ⟨⟨a', rfl, ha⟩, hly, hn⟩ := ha
  obtain ⟨h1, h2⟩ := xix hi hj hn
  have he := xws_get (cx := cx) (τ := τ) ha
  rw [xcell_S hly] at he
  refine va_aldq C.1 C.2.1 C.2.2.2.2.2.2.2.2.1.1 hH.1.2.2.2 a' 3 he rfl h1 hd ?_
  rw [h2, xrf_up]; exact K
theorem X_alen {a kd n : Nat} (hd : decode M.2.1 pc = .ok (.arraylength, 1)) (hp : pc + 1 = pc') (ha : (xR P a kd n ∧ kd < 4) ∨ (a = 0 ∧ n = 4)) (kk : X cx M P0 Q pc' lv (.int (nI n) :: st) P τ) : X cx M P0 Q pc lv (.ref a :: st) P τ := by
  subst hp
  intro p l e s m args below meth c H locs ls C hH hS hF hl
  have K := kk p l e s m args below meth c H locs ls C hH hS hF hl
  rcases ha with ⟨⟨⟨a', rfl, ha⟩, hly, hn⟩, hkd⟩ | ⟨rfl, rfl⟩
  · have he := xws_get (cx := cx) (τ := τ) ha
    match kd, hkd, hly with
    | 0, _, hly => rw [xcell_I hly] at he; exact va_alen C.1 C.2.1 C.2.2.2.2.2.2.2.2.1.1 hH.1.2.2.2 a' 0 he rfl rfl hd K
    | 1, _, hly => rw [xcell_J hly] at he; exact va_alen C.1 C.2.1 C.2.2.2.2.2.2.2.2.1.1 hH.1.2.2.2 a' 1 he rfl rfl hd K
    | 2, _, hly => rw [xcell_Z hly] at he; exact va_alen C.1 C.2.1 C.2.2.2.2.2.2.2.2.1.1 hH.1.2.2.2 a' 2 he rfl rfl hd K
    | 3, _, hly => rw [xcell_S hly] at he; exact va_alen C.1 C.2.1 C.2.2.2.2.2.2.2.2.1.1 hH.1.2.2.2 a' 3 he rfl rfl hd K
  · exact va_tlen C.1 C.2.1 C.2.2.2.2.2.2.2.2.1.2.2.2.1 hS rfl hd K
theorem X_gets {idx : Nat} (hd : decode M.2.1 pc = .ok (.getstatic idx, 3)) (hp : pc + 3 = pc') (hw : (M.1.cls, idx, "WaitedPost", "RATES", "[I", "WaitedPost") ∈ xnF) (kk : X cx M P0 Q pc' lv (.ref 0 :: st) P τ) : X cx M P0 Q pc lv st P τ := by
  subst hp
  exact fun p l e s m args below meth c H locs ls C hH hS hF hl => va_getsN C.1 C.2.1 C.2.2.2.2.2.2.2.2.1.2.2.1 hS C.2.2.2.2.2.1 (va_Nw.use rfl (C.2.2.2.2.2.2.2.2.1.2.1.2 _ hw)) (fun _ h => h) hd (kk p l e s m args below meth c H locs ls C hH hS hF hl)
/-- an array's cell is written -/
theorem xAst {p : Program} {l : Launch} {e : Env} {s : State} {m : MethodId} {args : Array Value} {below : List Frame} {meth : Method} {c : Code} {H H1 : Heap} {locs : List Loc} {ls : Array Slot} {a' kx : Nat} {τ' : xT} (C : xCtx cx M P0 p s m args meth c) (hH : xH cx P τ H ∧ xMo cx P0 P) (hS : va_S (fun q => cx.1 ≤ q) s.heap H locs) (hF : xFr cx P0 s.heap H) (hl : lv_has ls M.2.2.1 (lv.map (xup2 cx))) (ha : a' < P.1) (hz : H1.size = H.size) (ho : ∀ q : Nat, q ≠ cx.1 + a' → H1[q]? = H[q]?)
    (he : va_at cx.2.2.2.1 vwCl (cx.1 + a', xcell cx P.2.2 τ' (a' + 1)) H1) (h0 : ∀ j, j ≠ a' + 1 → τ'.1 j = τ.1 j ∧ τ'.2.1 j = τ.2.1 j ∧ τ'.2.2 j = τ.2.2 j)
    (kk : X cx M P0 Q pc lv st P τ') : W p l e M.2.2.2.2 s m args below meth c H1 (locs ++ [⟨cx.1 + a', kx⟩]) (P.1 - P0.1) (P.2.1 - P0.2.1) (MQ below (xQc cx M P0 Q) args s M.2.2.2.2.cells M.2.2.2.2.slots (fun q => cx.1 ≤ q)) (F0 m pc ls (st.map (xup cx))) := by
  refine kk p l e s m args below meth c H1 _ ls C ⟨hH.1.set ha P.2.2 hz ho he rfl (fun j => by rw [(h0 0 (by omega)).1]) (fun j hj => ?_), hH.2⟩ (hS.put hz ho (by show cx.1 ≤ cx.1 + a'; omega)) (hF.put hH.2 ha ho) hl
  obtain ⟨q2, q3, q4⟩ := h0 j hj
  exact xcell_congr rfl q2 q3 q4
theorem X_iast {a n j : Nat} {i v : Int32} (hd : decode M.2.1 pc = .ok (.iastore, 1)) (hp : pc + 1 = pc') (ha : xR P a 0 n) (hi : i = nI j) (hj : j < n) (kk : X cx M P0 Q pc' lv st P (xsi τ a j v)) : X cx M P0 Q pc lv (.int v :: .int i :: .ref a :: st) P τ := by
  subst hp
  intro p l e s m args below meth c H locs ls C hH hS hF hl
  obtain ⟨⟨a', rfl, ha⟩, hly, hn⟩ := ha
  obtain ⟨h1, h2⟩ := xix hi hj hn
  have hat := hH.1.at ha
  rw [xcell_I hly] at hat
  refine W.iast C.1 C.2.1 hat ((C.2.2.2.2.2.2.2.2.1.1.2 0 _ rfl).1 n (fun j => .int (τ.1 (a' + 1) j))) (fun q => by cases q) (by show ¬ (i < 0 ∨ (arrV _ _ _).slots.size ≤ _); rw [arrV_size]; exact h1) rfl rfl hd fun H1 e1 z oq => ?_
  refine xAst (pc := pc + 1) (st := st) (τ' := xsi τ (a' + 1) j v) C hH hS hF hl ha z oq ?_ (fun j hj => ⟨if_neg hj, rfl, rfl⟩) kk
  rw [xcell_I hly]
  show H1[cx.1 + a']? = some (vp_cell _ _)
  rw [e1, vp_cell_i, vp_cell_i, arrV_store, h2]
  congr 2
  funext q
  by_cases hq : q = j
  · subst hq; simp [updV, upd, xsi]
  · simp [updV, upd, xsi, hq]
theorem X_zast {a n j : Nat} {i v : Int32} (hd : decode M.2.1 pc = .ok (.bastore, 1)) (hp : pc + 1 = pc') (ha : xR P a 2 n) (hi : i = nI j) (hj : j < n) (hv : narrow .boolean (.int v) = .int v) (kk : X cx M P0 Q pc' lv st P (xsi τ a j v)) : X cx M P0 Q pc lv (.int v :: .int i :: .ref a :: st) P τ := by
  subst hp
  intro p l e s m args below meth c H locs ls C hH hS hF hl
  obtain ⟨⟨a', rfl, ha⟩, hly, hn⟩ := ha
  obtain ⟨h1, h2⟩ := xix hi hj hn
  have hat := hH.1.at ha
  rw [xcell_Z hly] at hat
  refine W.zast C.1 C.2.1 hat ((C.2.2.2.2.2.2.2.2.1.1.2 2 _ rfl).1 n (fun j => .int (τ.1 (a' + 1) j))) (fun q => by cases q) (by show ¬ (i < 0 ∨ (arrV _ _ _).slots.size ≤ _); rw [arrV_size]; exact h1) rfl rfl hd fun H1 e1 z oq => ?_
  refine xAst (pc := pc + 1) (st := st) (τ' := xsi τ (a' + 1) j v) C hH hS hF hl ha z oq ?_ (fun j hj => ⟨if_neg hj, rfl, rfl⟩) kk
  rw [xcell_Z hly]
  show H1[cx.1 + a']? = some (vp_cell _ _)
  rw [e1, hv, vp_cell_i, vp_cell_i, arrV_store, h2]
  congr 2
  funext q
  by_cases hq : q = j
  · subst hq; simp [updV, upd, xsi]
  · simp [updV, upd, xsi, hq]
theorem X_last {a n j : Nat} {i : Int32} {v : Int64} (hd : decode M.2.1 pc = .ok (.lastore, 1)) (hp : pc + 1 = pc') (ha : xR P a 1 n) (hi : i = nI j) (hj : j < n) (kk : X cx M P0 Q pc' lv st P (xsl τ a j v)) : X cx M P0 Q pc lv (.long v :: .int i :: .ref a :: st) P τ := by
  subst hp
  intro p l e s m args below meth c H locs ls C hH hS hF hl
  obtain ⟨⟨a', rfl, ha⟩, hly, hn⟩ := ha
  obtain ⟨h1, h2⟩ := xix hi hj hn
  have hat := hH.1.at ha
  rw [xcell_J hly] at hat
  refine W.last C.1 C.2.1 hat ((C.2.2.2.2.2.2.2.2.1.1.2 1 _ rfl).1 n (fun j => .long (τ.2.1 (a' + 1) j))) (fun q => by cases q) (by show ¬ (i < 0 ∨ (arrV _ _ _).slots.size ≤ _); rw [arrV_size]; exact h1) rfl rfl hd fun H1 e1 z oq => ?_
  refine xAst (pc := pc + 1) (st := st) (τ' := xsl τ (a' + 1) j v) C hH hS hF hl ha z oq ?_ (fun j hj => ⟨rfl, if_neg hj, rfl⟩) kk
  rw [xcell_J hly]
  show H1[cx.1 + a']? = some (vp_cell _ _)
  rw [e1, vp_cell_l, vp_cell_l, arrV_store, h2]
  congr 2
  funext q
  by_cases hq : q = j
  · subst hq; simp [updV, vp_updL, xsl]
  · simp [updV, vp_updL, xsl, hq]
theorem X_aast {a n j r : Nat} {i : Int32} {fks : List Nat} (hd : decode M.2.1 pc = .ok (.aastore, 1)) (hp : pc + 1 = pc') (ha : xR P a 3 n) (hi : i = nI j) (hj : j < n) (hr : xO P r 2 fks) (kk : X cx M P0 Q pc' lv st P (xsr τ a j r)) : X cx M P0 Q pc lv (.ref r :: .int i :: .ref a :: st) P τ := by
  subst hp
  intro p l e s m args below meth c H locs ls C hH hS hF hl
  obtain ⟨⟨a', rfl, ha⟩, hly, hn⟩ := ha
  obtain ⟨⟨r', rfl, hr⟩, hlr⟩ := hr
  obtain ⟨h1, h2⟩ := xix hi hj hn
  have hK := C.2.2.2.2.2.2.2.2.1.1
  have hat := hH.1.at ha
  rw [xcell_S hly] at hat
  have har := hH.1.at hr
  rw [xcell_O hlr] at har
  obtain ⟨q', hq', cellV, g1, g2, g3, -⟩ := har
  have hcls := (hK.1 2 _ rfl).2
  obtain ⟨kA, comp, k1, k2, k3, -⟩ := (hK.2 3 _ rfl).2
  have hcomp : comp = cx.2.2.2.1.1 2 := Option.some.inj (k3.symm.trans hcls.1)
  subst hcomp
  obtain ⟨kC, hkC, -⟩ := hcls.2
  have hlt : i.toNatClampNeg < n := Nat.not_le.mp fun q => h1 (Or.inr q)
  have h0 : ¬ i < 0 := fun q => h1 (Or.inl q)
  refine W.aast C.1 C.2.1 hat (fun q h => by cases h) (fun h => by cases h) k1 k2 rfl hkC ⟨h0, by show _ < (arrV _ _ _).slots.size; rw [arrV_size]; exact hlt⟩ g1 (fun q h => by rw [g3] at h; cases h) (by rw [g2]; exact hkC) (by rw [g2]; exact va_assign hcls) rfl rfl hd fun H1 e1 z oq => ?_
  refine xAst (pc := pc + 1) (st := st) (τ' := xsr τ (a' + 1) j (r' + 1)) C hH hS hF hl ha z oq ?_ (fun j hj => ⟨rfl, rfl, by funext q; simp [xsr, hj]⟩) kk
  rw [xcell_S hly]
  show H1[cx.1 + a']? = some (vp_cell _ _)
  rw [e1, vp_cell_q, vp_cell_q, arrV_store, h2]
  congr 2
  funext q
  by_cases hq : q = j
  · subst hq; simp [updV, xsr, va_rf, xad]
  · simp [updV, xsr, hq]
/-! ends -/
theorem xEnd {p : Program} {s : State} {m : MethodId} {args : Array Value} {meth : Method} {c : Code} {H : Heap} {locs : List Loc} {t : State} {r : Option Value} (C : xCtx cx M P0 p s m args meth c) (hH : xH cx P τ H ∧ xMo cx P0 P) (hS : va_S (fun q => cx.1 ≤ q) s.heap H locs) (hF : xFr cx P0 s.heap H) (hP : P.1 = P0.1 + M.2.2.2.2.cells ∧ P.2.1 = P0.2.1 + M.2.2.2.2.slots) (hQ : Q r P τ) (ht : t.heap = H) : xQc cx M P0 Q args s (.returned (r.map (xup cx))) t :=
  ⟨r, P, τ, rfl, hQ, hP.1, hP.2, hH.2.2.2, by rw [ht]; exact hH.1, fun q h1 h2 => by rw [ht]; exact hS.2.1 q h1 (Nat.not_le.mpr h2), fun q h1 h2 => by rw [ht]; exact hF q h1 h2⟩
theorem X_iret {v : Int32} (hd : decode M.2.1 pc = .ok (.ireturn, 1)) (hr : M.2.2.2.1 = some .int) (hP : P.1 = P0.1 + M.2.2.2.2.cells ∧ P.2.1 = P0.2.1 + M.2.2.2.2.slots) (hQ : Q (some (.int v)) P τ) : X cx M P0 Q pc lv [.int v] P τ := by
  intro p l e s m args below meth c H locs ls C hH hS hF hl
  rw [hP.1, hP.2, Nat.add_sub_cancel_left, Nat.add_sub_cancel_left]
  exact W.iret C.1 C.2.1 (C.2.2.2.1.trans hr) (fun t ht _ => xEnd (r := some (.int v)) C hH hS hF hP hQ ht) hS.2.2 hd C.2.2.2.2.1
theorem X_zret {v : Int32} (hd : decode M.2.1 pc = .ok (.ireturn, 1)) (hr : M.2.2.2.1 = some .boolean) (hv : narrow .boolean (.int v) = .int v) (hP : P.1 = P0.1 + M.2.2.2.2.cells ∧ P.2.1 = P0.2.1 + M.2.2.2.2.slots) (hQ : Q (some (.int v)) P τ) : X cx M P0 Q pc lv [.int v] P τ := by
  intro p l e s m args below meth c H locs ls C hH hS hF hl
  rw [hP.1, hP.2, Nat.add_sub_cancel_left, Nat.add_sub_cancel_left]
  exact W.zret C.1 C.2.1 (C.2.2.2.1.trans hr) hv (fun t ht _ => xEnd (r := some (.int v)) C hH hS hF hP hQ ht) hS.2.2 hd C.2.2.2.2.1
theorem X_lret {v : Int64} (hd : decode M.2.1 pc = .ok (.lreturn, 1)) (hr : M.2.2.2.1 = some .long) (hP : P.1 = P0.1 + M.2.2.2.2.cells ∧ P.2.1 = P0.2.1 + M.2.2.2.2.slots) (hQ : Q (some (.long v)) P τ) : X cx M P0 Q pc lv [.long v] P τ := by
  intro p l e s m args below meth c H locs ls C hH hS hF hl
  rw [hP.1, hP.2, Nat.add_sub_cancel_left, Nat.add_sub_cancel_left]
  exact W.lret C.1 C.2.1 (C.2.2.2.1.trans hr) (fun t ht _ => xEnd (r := some (.long v)) C hH hS hF hP hQ ht) hS.2.2 hd C.2.2.2.2.1
theorem X_vret (hd : decode M.2.1 pc = .ok (.return_, 1)) (hr : M.2.2.2.1 = none) (hP : P.1 = P0.1 + M.2.2.2.2.cells ∧ P.2.1 = P0.2.1 + M.2.2.2.2.slots) (hQ : Q none P τ) : X cx M P0 Q pc lv [] P τ := by
  intro p l e s m args below meth c H locs ls C hH hS hF hl
  rw [hP.1, hP.2, Nat.add_sub_cancel_left, Nat.add_sub_cancel_left]
  exact W.vret C.1 C.2.1 (C.2.2.2.1.trans hr) (fun t ht _ => xEnd (r := none) C hH hS hF hP hQ ht) hS.2.2 hd C.2.2.2.2.1
/-! a contract out of a walk -/
theorem xargs_up (cx : xC) (vs : List Value) : ∀ i : Nat, lv_args i (vs.map (xup cx)) = (lv_args i vs).map (xup2 cx) := by
  induction vs with
  | nil => intro i; rfl
  | cons v r ih =>
    intro i
    simp only [List.map_cons, lv_args, xup_cat]
    rw [ih]
    rfl
theorem xsl_len (cx : xC) (vs : List Value) : (lg_sl (vs.map (xup cx))).length = (lg_sl vs).length := by
  induction vs with
  | nil => rfl
  | cons v r ih =>
    simp only [lg_sl, List.map_cons, List.flatMap_cons, List.length_append] at ih ⊢
    rw [ih, xup_cat]
    split <;> rfl
theorem Ct_of {vs : List Value} (hy : plainName M.1.cls = true) (hn : (lg_sl vs).length ≤ M.2.2.1) (hlv : lv_args 0 vs = lv) (k : X cx M P Q 0 lv [] P τ) : Ct cx M vs P τ Q := by
  intro l
  subst hlv
  refine Met.ofW (cc := M.2.1) (maxL := M.2.2.1) (ret := M.2.2.2.1) (ws' := xtbl) hy rfl ?_
  intro p e s m args below meth c s₁ B hml hv
  obtain ⟨rfl, hH, hK⟩ := hv
  have hl := lv_entry (vs.map (xup cx)) (n := M.2.2.1) (by rw [xsl_len]; exact hn)
  rw [xargs_up] at hl
  rw [lg_entry_eq]
  have C : xCtx cx M P p s m (vs.map (xup cx)).toArray meth c := ⟨B.exec, B.bytes, hml, B.returns, B.notSynchronized, findClass_of_methodNamed B.named, (name_of_methodNamed B.named B.method).1, atoms_spec (ws := xyw M) B.pre, hK, hH.1⟩
  have K := k p l e s m _ below meth c s.heap [] _ C ⟨hH, Nat.le_refl _, Nat.le_refl _, Or.inl rfl⟩ va_S.rf (fun _ _ _ => rfl) hl
  rw [Nat.sub_self, Nat.sub_self] at K
  exact K
theorem Ct.weaken {vs : List Value} {Q' : Option Value → xP → xT → Prop} (h : Ct cx M vs P τ Q) (hq : ∀ r P' τ', Q r P' τ' → Q' r P' τ') : Ct cx M vs P τ Q' := by
  intro l p e a1 a2 a3 s m args below b1 b2 b3 b4
  obtain ⟨t, o, c1, c2, c3, ⟨r, P', τ', d1, d2, d3⟩, c5⟩ := h l p e a1 a2 a3 s m args below b1 b2 b3 b4
  exact ⟨t, o, c1, c2, c3, ⟨r, P', τ', d1, hq _ _ _ d2, d3⟩, c5⟩
end XR
