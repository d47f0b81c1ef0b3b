/-! ===== calls of methods that change nothing ===== -/
section XPu
variable {cx : xC} {M : xY} {pc pc' : Nat} {lv : List (Nat × Value)} {st : List Value} {P : xP} {τ : xT}
variable {Q : Option Value → xP → xT → Prop} {M' : xY} {As rest : List Value} {idx : Nat}
theorem X_SIp {v : Int32} (hd : decode M.2.1 pc = .ok (.invokestatic idx, 3)) (hp : pc + 3 = pc') (hm : xMt M' As.length) (hl : Cond.methodLink M.1.cls idx M'.1 ∈ xtbl) (hst : Cond.static M'.1 ∈ xtbl) (hrm : xRm M M') (h1 : M'.2.2.2.2.cells = 0) (h2 : M'.2.2.2.2.slots = 0) (hw : (rest.map fun v => v.category).sum ≤ 8) (hC : CI cx M' As P τ (fun x τ' => τ' = τ ∧ x = v)) (k : X cx M P Q pc' lv (.int v :: rest) P τ) : X cx M P Q pc lv (As.reverse ++ rest) P τ :=
  X_SI hd hp hm hl hst hrm h1 h2 hw hC (fun x τ' h => by obtain ⟨rfl, rfl⟩ := h; exact k)
theorem X_SLp {v : Int64} (hd : decode M.2.1 pc = .ok (.invokestatic idx, 3)) (hp : pc + 3 = pc') (hm : xMt M' As.length) (hl : Cond.methodLink M.1.cls idx M'.1 ∈ xtbl) (hst : Cond.static M'.1 ∈ xtbl) (hrm : xRm M M') (h1 : M'.2.2.2.2.cells = 0) (h2 : M'.2.2.2.2.slots = 0) (hw : (rest.map fun v => v.category).sum ≤ 8) (hC : CL cx M' As P τ (fun x τ' => τ' = τ ∧ x = v)) (k : X cx M P Q pc' lv (.long v :: rest) P τ) : X cx M P Q pc lv (As.reverse ++ rest) P τ :=
  X_SL hd hp hm hl hst hrm h1 h2 hw hC (fun x τ' h => by obtain ⟨rfl, rfl⟩ := h; exact k)
theorem X_NIp {v : Int32} (hd : decode M.2.1 pc = .ok (.invokestatic idx, 3)) (hp : pc + 3 = pc') (hm : xMt M' As.length) {host : String} (hl : (M.1.cls, idx, M'.1, host) ∈ xnM) (hst : Cond.static M'.1 ∈ xtbl) (hrm : xRm M M') (h1 : M'.2.2.2.2.cells = 0) (h2 : M'.2.2.2.2.slots = 0) (hw : (rest.map fun v => v.category).sum ≤ 8) (hC : CI cx M' As P τ (fun x τ' => τ' = τ ∧ x = v)) (k : X cx M P Q pc' lv (.int v :: rest) P τ) : X cx M P Q pc lv (As.reverse ++ rest) P τ :=
  X_NI hd hp hm hl hst hrm h1 h2 hw hC (fun x τ' h => by obtain ⟨rfl, rfl⟩ := h; exact k)
theorem X_NLp {v : Int64} (hd : decode M.2.1 pc = .ok (.invokestatic idx, 3)) (hp : pc + 3 = pc') (hm : xMt M' As.length) {host : String} (hl : (M.1.cls, idx, M'.1, host) ∈ xnM) (hst : Cond.static M'.1 ∈ xtbl) (hrm : xRm M M') (h1 : M'.2.2.2.2.cells = 0) (h2 : M'.2.2.2.2.slots = 0) (hw : (rest.map fun v => v.category).sum ≤ 8) (hC : CL cx M' As P τ (fun x τ' => τ' = τ ∧ x = v)) (k : X cx M P Q pc' lv (.long v :: rest) P τ) : X cx M P Q pc lv (As.reverse ++ rest) P τ :=
  X_NL hd hp hm hl hst hrm h1 h2 hw hC (fun x τ' h => by obtain ⟨rfl, rfl⟩ := h; exact k)
theorem X_OIp {v : Int32} (hd : decode M.2.1 pc = .ok (.invokevirtual idx, 3)) (hp : pc + 3 = pc') (hm : xMt M' As.length) {b ci : Nat} {fks : List Nat} (hl : Cond.methodLink M.1.cls idx M'.1 ∈ xtbl) (hst : Cond.instanceMethod M'.1 ∈ xtbl ∧ Cond.selects M'.1.cls M'.1 M'.1 ∈ xtbl) (hb : xO P b ci fks) (hcl : vwCl[ci]?.map (fun q => q.1) = some M'.1.cls) (hrm : xRm M M') (h1 : M'.2.2.2.2.cells = 0) (h2 : M'.2.2.2.2.slots = 0) (hw : (rest.map fun v => v.category).sum ≤ 8) (hC : CI cx M' (.ref b :: As) P τ (fun x τ' => τ' = τ ∧ x = v)) (k : X cx M P Q pc' lv (.int v :: rest) P τ) : X cx M P Q pc lv (As.reverse ++ .ref b :: rest) P τ :=
  X_OI hd hp hm hl hst hb hcl hrm h1 h2 hw hC (fun x τ' h => by obtain ⟨rfl, rfl⟩ := h; exact k)
theorem X_OLp {v : Int64} (hd : decode M.2.1 pc = .ok (.invokevirtual idx, 3)) (hp : pc + 3 = pc') (hm : xMt M' As.length) {b ci : Nat} {fks : List Nat} (hl : Cond.methodLink M.1.cls idx M'.1 ∈ xtbl) (hst : Cond.instanceMethod M'.1 ∈ xtbl ∧ Cond.selects M'.1.cls M'.1 M'.1 ∈ xtbl) (hb : xO P b ci fks) (hcl : vwCl[ci]?.map (fun q => q.1) = some M'.1.cls) (hrm : xRm M M') (h1 : M'.2.2.2.2.cells = 0) (h2 : M'.2.2.2.2.slots = 0) (hw : (rest.map fun v => v.category).sum ≤ 8) (hC : CL cx M' (.ref b :: As) P τ (fun x τ' => τ' = τ ∧ x = v)) (k : X cx M P Q pc' lv (.long v :: rest) P τ) : X cx M P Q pc lv (As.reverse ++ .ref b :: rest) P τ :=
  X_OL hd hp hm hl hst hb hcl hrm h1 h2 hw hC (fun x τ' h => by obtain ⟨rfl, rfl⟩ := h; exact k)
end XPu
theorem xmin_nI {a b : Nat} (ha : a < 2 ^ 31) (hb : b < 2 ^ 31) : (if nI b < nI a then nI b else nI a) = nI (min a b) := by
  by_cases h : b < a
  · rw [if_pos (nI_lt h ha), Nat.min_eq_right (by omega)]
  · rw [if_neg (nI_nlt (by omega) hb), Nat.min_eq_left (by omega)]
theorem xpos_nI {a : Nat} (ha : a < 2 ^ 31) (h : ¬ nI a ≤ 0) : 0 < a := by
  rcases Nat.eq_zero_or_pos a with q | q
  · subst q; exact absurd (by decide) h
  · exact q
theorem xpos_nI' {a : Nat} (h : 0 < a) (ha : a < 2 ^ 31) (h2 : nI a ≤ 0) : False := nI_nle h ha h2
