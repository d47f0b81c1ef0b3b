/-! ===== Math.max, min, abs ===== -/
theorem mq_max : Cond.code Lib.Math.max.name Lib.Math.max.code 2 (some .int) ∈ xtbl ∧ Cond.static Lib.Math.max.name ∈ xtbl := ⟨xq2 60 (by decide +kernel) rfl, xq2 59 (by decide +kernel) rfl⟩
theorem mq_min : Cond.code Lib.Math.min.name Lib.Math.min.code 2 (some .int) ∈ xtbl ∧ Cond.static Lib.Math.min.name ∈ xtbl := ⟨xq2 63 (by decide +kernel) rfl, xq2 62 (by decide +kernel) rfl⟩
theorem mq_abs : Cond.code Lib.MathLoose.abs_long.x Lib.MathLoose.abs_long.code 2 (some .long) ∈ xtbl ∧ Cond.static Lib.MathLoose.abs_long.x ∈ xtbl := ⟨xq2 234 (by decide +kernel) rfl, xq2 233 (by decide +kernel) rfl⟩
theorem ml_X3_58 : Cond.methodLink "WaitedPost$Told" 58 Lib.Math.max.name ∈ xtbl := xq2 58 (by decide +kernel) rfl
theorem ml_X3_65 : Cond.methodLink "WaitedPost$Told" 65 Lib.Math.min.name ∈ xtbl := xq2 61 (by decide +kernel) rfl
theorem ml_X2_59 : Cond.methodLink "WaitedPost$Standing" 59 Lib.Math.min.name ∈ xtbl := xq2 111 (by decide +kernel) rfl
theorem ml_X4_242 : Cond.methodLink "WaitedPost" 242 Lib.MathLoose.abs_long.x ∈ xtbl := xq2 232 (by decide +kernel) rfl
theorem mini : Cond.initialized "java/lang/Math" ∈ xtbl := xq1 8 (by decide +kernel) rfl
theorem X_mmax {cx : xC} {M : xY} {P0 : xP} {Q : Option Value → xP → xT → Prop} {pc pc' idx : Nat} {lv : List (Nat × Value)} {st : List Value} {P : xP} {τ : xT} {x y : Int32} (hd : decode M.2.1 pc = .ok (.invokestatic idx, 3)) (hp : pc + 3 = pc') (hk : Cond.methodLink M.1.cls idx Lib.Math.max.name ∈ xtbl) (hr : 1 ≤ M.2.2.2.2.frames ∧ 21 ≤ M.2.2.2.2.locals) (hcs : P.1 - P0.1 ≤ M.2.2.2.2.cells ∧ P.2.1 - P0.2.1 ≤ M.2.2.2.2.slots) (hw : (st.map fun v => v.category).sum ≤ 8) (k : X cx M P0 Q pc' lv (.int (if x < y then y else x) :: st) P τ) : X cx M P0 Q pc lv (.int y :: .int x :: st) P τ := by
  subst hp
  intro p l e s m args below meth c H locs ls C hH hS hF hl
  have hts := xtbl_hts C.2.2.2.2.2.2.2.1
  have h8 : ((st.map (xup cx)).map fun v => v.category).sum ≤ 8 := by
    have : (st.map (xup cx)).map (fun v => v.category) = st.map (fun v => v.category) := by
      rw [List.map_map]; apply List.map_congr_left; intro v _; exact xup_cat cx v
    rw [this]; exact hw
  exact va_mmax C.1 C.2.1 (C.2.2.1.trans hl.1.symm) C.2.2.2.2.2.1 (hts _ hk) (hts _ mq_max.2) (hts _ mini) (hts _ mq_max.1) hr.1 (by omega) hcs.1 hcs.2 hd (k p l e s m args below meth c H locs ls C hH hS hF hl)
theorem X_mmin {cx : xC} {M : xY} {P0 : xP} {Q : Option Value → xP → xT → Prop} {pc pc' idx : Nat} {lv : List (Nat × Value)} {st : List Value} {P : xP} {τ : xT} {x y : Int32} (hd : decode M.2.1 pc = .ok (.invokestatic idx, 3)) (hp : pc + 3 = pc') (hk : Cond.methodLink M.1.cls idx Lib.Math.min.name ∈ xtbl) (hr : 1 ≤ M.2.2.2.2.frames ∧ 21 ≤ M.2.2.2.2.locals) (hcs : P.1 - P0.1 ≤ M.2.2.2.2.cells ∧ P.2.1 - P0.2.1 ≤ M.2.2.2.2.slots) (hw : (st.map fun v => v.category).sum ≤ 8) (k : X cx M P0 Q pc' lv (.int (if y < x then y else x) :: st) P τ) : X cx M P0 Q pc lv (.int y :: .int x :: st) P τ := by
  subst hp
  intro p l e s m args below meth c H locs ls C hH hS hF hl
  have hts := xtbl_hts C.2.2.2.2.2.2.2.1
  have h8 : ((st.map (xup cx)).map fun v => v.category).sum ≤ 8 := by
    have : (st.map (xup cx)).map (fun v => v.category) = st.map (fun v => v.category) := by
      rw [List.map_map]; apply List.map_congr_left; intro v _; exact xup_cat cx v
    rw [this]; exact hw
  exact va_mmin C.1 C.2.1 (C.2.2.1.trans hl.1.symm) C.2.2.2.2.2.1 (hts _ hk) (hts _ mq_min.2) (hts _ mini) (hts _ mq_min.1) hr.1 (by omega) hcs.1 hcs.2 hd (k p l e s m args below meth c H locs ls C hH hS hF hl)
theorem X_mabs {cx : xC} {M : xY} {P0 : xP} {Q : Option Value → xP → xT → Prop} {pc pc' idx : Nat} {lv : List (Nat × Value)} {st : List Value} {P : xP} {τ : xT} {x : Int64} (hd : decode M.2.1 pc = .ok (.invokestatic idx, 3)) (hp : pc + 3 = pc') (hk : Cond.methodLink M.1.cls idx Lib.MathLoose.abs_long.x ∈ xtbl) (hr : 1 ≤ M.2.2.2.2.frames ∧ 21 ≤ M.2.2.2.2.locals) (hcs : P.1 - P0.1 ≤ M.2.2.2.2.cells ∧ P.2.1 - P0.2.1 ≤ M.2.2.2.2.slots) (hw : (st.map fun v => v.category).sum ≤ 8) (k : X cx M P0 Q pc' lv (.long (if 0 < x then x else -x) :: st) P τ) : X cx M P0 Q pc lv (.long x :: st) P τ := by
  subst hp
  intro p l e s m args below meth c H locs ls C hH hS hF hl
  have hts := xtbl_hts C.2.2.2.2.2.2.2.1
  have h8 : ((st.map (xup cx)).map fun v => v.category).sum ≤ 8 := by
    have : (st.map (xup cx)).map (fun v => v.category) = st.map (fun v => v.category) := by
      rw [List.map_map]; apply List.map_congr_left; intro v _; exact xup_cat cx v
    rw [this]; exact hw
  exact va_mabs_long C.1 C.2.1 (C.2.2.1.trans hl.1.symm) C.2.2.2.2.2.1 (hts _ hk) (hts _ mq_abs.2) (hts _ mini) (hts _ mq_abs.1) hr.1 (by omega) hcs.1 hcs.2 hd (k p l e s m args below meth c H locs ls C hH hS hF hl)
