def LWl : List ((Nat × Nat) ⊕ (Nat × List Nat)) := [.inl (4, 4), .inr (4, [5, 0, 6, 11, 15, 18, 21, 0, 64, 0, 71, 72, 1]), .inl (0, 48), .inr (1, [7, 0, 0]), .inr (3, [0, 0, 0, 8, 9, 10]), .inl (0, 6), .inl (0, 6), .inl (0, 6), .inr (3, [0, 0, 0, 12, 13, 14]), .inl (0, 6), .inl (0, 6), .inl (0, 6), .inr (2, [0, 0, 0, 0, 0, 16, 17]), .inl (0, 6), .inl (0, 6), .inr (2, [0, 0, 0, 0, 0, 19, 20]), .inl (0, 6), .inl (0, 6), .inl (3, 14), .inr (2, [0, 0, 0, 0, 0, 23, 24]), .inl (0, 6), .inl (0, 6), .inr (2, [0, 0, 0, 0, 0, 26, 27]), .inl (0, 6), .inl (0, 6), .inr (2, [0, 0, 0, 0, 0, 29, 30]), .inl (0, 6), .inl (0, 6), .inr (2, [0, 0, 0, 0, 0, 32, 33]), .inl (0, 6), .inl (0, 6), .inr (2, [0, 0, 0, 0, 0, 35, 36]), .inl (0, 6), .inl (0, 6), .inr (2, [0, 0, 0, 0, 0, 38, 39]), .inl (0, 6), .inl (0, 6), .inr (2, [0, 0, 0, 0, 0, 41, 42]), .inl (0, 6), .inl (0, 6), .inr (2, [0, 0, 0, 0, 0, 44, 45]), .inl (0, 6), .inl (0, 6), .inr (2, [0, 0, 0, 0, 0, 47, 48]), .inl (0, 6), .inl (0, 6), .inr (2, [0, 0, 0, 0, 0, 50, 51]), .inl (0, 6), .inl (0, 6), .inr (2, [0, 0, 0, 0, 0, 53, 54]), .inl (0, 6), .inl (0, 6), .inr (2, [0, 0, 0, 0, 0, 56, 57]), .inl (0, 6), .inl (0, 6), .inr (2, [0, 0, 0, 0, 0, 59, 60]), .inl (0, 6), .inl (0, 6), .inr (2, [0, 0, 0, 0, 0, 62, 63]), .inl (0, 6), .inl (0, 6), .inl (3, 2), .inr (2, [0, 0, 0, 0, 0, 66, 67]), .inl (0, 6), .inl (0, 6), .inr (2, [0, 0, 0, 0, 0, 69, 70]), .inl (0, 6), .inl (0, 6), .inl (0, 6), .inr (0, [73]), .inl (1, 256)]
def LW : xLy := fun a => LWl.getD a (.inl (9, 0))
def PW : xP := (70, 733, LW)
theorem o_W_1 : xO PW 1 4 [5, 0, 6, 11, 15, 18, 21, 0, 64, 0, 71, 72, 1] := ⟨⟨0, rfl, by decide⟩, rfl⟩
theorem r_W_2 : xR PW 2 0 48 := ⟨⟨1, rfl, by decide⟩, rfl, by decide⟩
theorem o_W_3 : xO PW 3 1 [7, 0, 0] := ⟨⟨2, rfl, by decide⟩, rfl⟩
theorem o_W_4 : xO PW 4 3 [0, 0, 0, 8, 9, 10] := ⟨⟨3, rfl, by decide⟩, rfl⟩
theorem r_W_5 : xR PW 5 0 6 := ⟨⟨4, rfl, by decide⟩, rfl, by decide⟩
theorem r_W_6 : xR PW 6 0 6 := ⟨⟨5, rfl, by decide⟩, rfl, by decide⟩
theorem r_W_7 : xR PW 7 0 6 := ⟨⟨6, rfl, by decide⟩, rfl, by decide⟩
theorem o_W_8 : xO PW 8 3 [0, 0, 0, 12, 13, 14] := ⟨⟨7, rfl, by decide⟩, rfl⟩
theorem r_W_9 : xR PW 9 0 6 := ⟨⟨8, rfl, by decide⟩, rfl, by decide⟩
theorem r_W_10 : xR PW 10 0 6 := ⟨⟨9, rfl, by decide⟩, rfl, by decide⟩
theorem r_W_11 : xR PW 11 0 6 := ⟨⟨10, rfl, by decide⟩, rfl, by decide⟩
theorem o_W_12 : xO PW 12 2 [0, 0, 0, 0, 0, 16, 17] := ⟨⟨11, rfl, by decide⟩, rfl⟩
theorem r_W_13 : xR PW 13 0 6 := ⟨⟨12, rfl, by decide⟩, rfl, by decide⟩
theorem r_W_14 : xR PW 14 0 6 := ⟨⟨13, rfl, by decide⟩, rfl, by decide⟩
theorem o_W_15 : xO PW 15 2 [0, 0, 0, 0, 0, 19, 20] := ⟨⟨14, rfl, by decide⟩, rfl⟩
theorem r_W_16 : xR PW 16 0 6 := ⟨⟨15, rfl, by decide⟩, rfl, by decide⟩
theorem r_W_17 : xR PW 17 0 6 := ⟨⟨16, rfl, by decide⟩, rfl, by decide⟩
theorem r_W_18 : xR PW 18 3 14 := ⟨⟨17, rfl, by decide⟩, rfl, by decide⟩
theorem o_W_19 : xO PW 19 2 [0, 0, 0, 0, 0, 23, 24] := ⟨⟨18, rfl, by decide⟩, rfl⟩
theorem r_W_20 : xR PW 20 0 6 := ⟨⟨19, rfl, by decide⟩, rfl, by decide⟩
theorem r_W_21 : xR PW 21 0 6 := ⟨⟨20, rfl, by decide⟩, rfl, by decide⟩
theorem o_W_22 : xO PW 22 2 [0, 0, 0, 0, 0, 26, 27] := ⟨⟨21, rfl, by decide⟩, rfl⟩
theorem r_W_23 : xR PW 23 0 6 := ⟨⟨22, rfl, by decide⟩, rfl, by decide⟩
theorem r_W_24 : xR PW 24 0 6 := ⟨⟨23, rfl, by decide⟩, rfl, by decide⟩
theorem o_W_25 : xO PW 25 2 [0, 0, 0, 0, 0, 29, 30] := ⟨⟨24, rfl, by decide⟩, rfl⟩
theorem r_W_26 : xR PW 26 0 6 := ⟨⟨25, rfl, by decide⟩, rfl, by decide⟩
theorem r_W_27 : xR PW 27 0 6 := ⟨⟨26, rfl, by decide⟩, rfl, by decide⟩
theorem o_W_28 : xO PW 28 2 [0, 0, 0, 0, 0, 32, 33] := ⟨⟨27, rfl, by decide⟩, rfl⟩
theorem r_W_29 : xR PW 29 0 6 := ⟨⟨28, rfl, by decide⟩, rfl, by decide⟩
theorem r_W_30 : xR PW 30 0 6 := ⟨⟨29, rfl, by decide⟩, rfl, by decide⟩
theorem o_W_31 : xO PW 31 2 [0, 0, 0, 0, 0, 35, 36] := ⟨⟨30, rfl, by decide⟩, rfl⟩
theorem r_W_32 : xR PW 32 0 6 := ⟨⟨31, rfl, by decide⟩, rfl, by decide⟩
theorem r_W_33 : xR PW 33 0 6 := ⟨⟨32, rfl, by decide⟩, rfl, by decide⟩
theorem o_W_34 : xO PW 34 2 [0, 0, 0, 0, 0, 38, 39] := ⟨⟨33, rfl, by decide⟩, rfl⟩
theorem r_W_35 : xR PW 35 0 6 := ⟨⟨34, rfl, by decide⟩, rfl, by decide⟩
theorem r_W_36 : xR PW 36 0 6 := ⟨⟨35, rfl, by decide⟩, rfl, by decide⟩
theorem o_W_37 : xO PW 37 2 [0, 0, 0, 0, 0, 41, 42] := ⟨⟨36, rfl, by decide⟩, rfl⟩
theorem r_W_38 : xR PW 38 0 6 := ⟨⟨37, rfl, by decide⟩, rfl, by decide⟩
theorem r_W_39 : xR PW 39 0 6 := ⟨⟨38, rfl, by decide⟩, rfl, by decide⟩
theorem o_W_40 : xO PW 40 2 [0, 0, 0, 0, 0, 44, 45] := ⟨⟨39, rfl, by decide⟩, rfl⟩
theorem r_W_41 : xR PW 41 0 6 := ⟨⟨40, rfl, by decide⟩, rfl, by decide⟩
theorem r_W_42 : xR PW 42 0 6 := ⟨⟨41, rfl, by decide⟩, rfl, by decide⟩
theorem o_W_43 : xO PW 43 2 [0, 0, 0, 0, 0, 47, 48] := ⟨⟨42, rfl, by decide⟩, rfl⟩
theorem r_W_44 : xR PW 44 0 6 := ⟨⟨43, rfl, by decide⟩, rfl, by decide⟩
theorem r_W_45 : xR PW 45 0 6 := ⟨⟨44, rfl, by decide⟩, rfl, by decide⟩
theorem o_W_46 : xO PW 46 2 [0, 0, 0, 0, 0, 50, 51] := ⟨⟨45, rfl, by decide⟩, rfl⟩
theorem r_W_47 : xR PW 47 0 6 := ⟨⟨46, rfl, by decide⟩, rfl, by decide⟩
theorem r_W_48 : xR PW 48 0 6 := ⟨⟨47, rfl, by decide⟩, rfl, by decide⟩
theorem o_W_49 : xO PW 49 2 [0, 0, 0, 0, 0, 53, 54] := ⟨⟨48, rfl, by decide⟩, rfl⟩
theorem r_W_50 : xR PW 50 0 6 := ⟨⟨49, rfl, by decide⟩, rfl, by decide⟩
theorem r_W_51 : xR PW 51 0 6 := ⟨⟨50, rfl, by decide⟩, rfl, by decide⟩
theorem o_W_52 : xO PW 52 2 [0, 0, 0, 0, 0, 56, 57] := ⟨⟨51, rfl, by decide⟩, rfl⟩
theorem r_W_53 : xR PW 53 0 6 := ⟨⟨52, rfl, by decide⟩, rfl, by decide⟩
theorem r_W_54 : xR PW 54 0 6 := ⟨⟨53, rfl, by decide⟩, rfl, by decide⟩
theorem o_W_55 : xO PW 55 2 [0, 0, 0, 0, 0, 59, 60] := ⟨⟨54, rfl, by decide⟩, rfl⟩
theorem r_W_56 : xR PW 56 0 6 := ⟨⟨55, rfl, by decide⟩, rfl, by decide⟩
theorem r_W_57 : xR PW 57 0 6 := ⟨⟨56, rfl, by decide⟩, rfl, by decide⟩
theorem o_W_58 : xO PW 58 2 [0, 0, 0, 0, 0, 62, 63] := ⟨⟨57, rfl, by decide⟩, rfl⟩
theorem r_W_59 : xR PW 59 0 6 := ⟨⟨58, rfl, by decide⟩, rfl, by decide⟩
theorem r_W_60 : xR PW 60 0 6 := ⟨⟨59, rfl, by decide⟩, rfl, by decide⟩
theorem r_W_61 : xR PW 61 3 2 := ⟨⟨60, rfl, by decide⟩, rfl, by decide⟩
theorem o_W_62 : xO PW 62 2 [0, 0, 0, 0, 0, 66, 67] := ⟨⟨61, rfl, by decide⟩, rfl⟩
theorem r_W_63 : xR PW 63 0 6 := ⟨⟨62, rfl, by decide⟩, rfl, by decide⟩
theorem r_W_64 : xR PW 64 0 6 := ⟨⟨63, rfl, by decide⟩, rfl, by decide⟩
theorem o_W_65 : xO PW 65 2 [0, 0, 0, 0, 0, 69, 70] := ⟨⟨64, rfl, by decide⟩, rfl⟩
theorem r_W_66 : xR PW 66 0 6 := ⟨⟨65, rfl, by decide⟩, rfl, by decide⟩
theorem r_W_67 : xR PW 67 0 6 := ⟨⟨66, rfl, by decide⟩, rfl, by decide⟩
theorem r_W_68 : xR PW 68 0 6 := ⟨⟨67, rfl, by decide⟩, rfl, by decide⟩
theorem o_W_69 : xO PW 69 0 [73] := ⟨⟨68, rfl, by decide⟩, rfl⟩
theorem r_W_70 : xR PW 70 1 256 := ⟨⟨69, rfl, by decide⟩, rfl, by decide⟩
def LMl : List ((Nat × Nat) ⊕ (Nat × List Nat)) := [.inl (4, 4), .inr (5, [0, 0, 0, 5, 6, 7, 8, 9, 10, 0, 0, 0, 11, 0, 0, 0, 0, 0, 12, 0, 13, 1, 14, 15]), .inl (0, 6), .inl (0, 6), .inl (0, 34), .inl (0, 6), .inl (0, 6), .inl (0, 6), .inl (0, 48), .inl (0, 238), .inl (0, 64), .inl (2, 2), .inl (0, 34)]
def LM : xLy := fun a => LMl.getD a (.inl (9, 0))
def PM : xP := (12, 474, LM)
theorem o_M_1 : xO PM 1 5 [0, 0, 0, 5, 6, 7, 8, 9, 10, 0, 0, 0, 11, 0, 0, 0, 0, 0, 12, 0, 13, 1, 14, 15] := ⟨⟨0, rfl, by decide⟩, rfl⟩
theorem r_M_2 : xR PM 2 0 6 := ⟨⟨1, rfl, by decide⟩, rfl, by decide⟩
theorem r_M_3 : xR PM 3 0 6 := ⟨⟨2, rfl, by decide⟩, rfl, by decide⟩
theorem r_M_4 : xR PM 4 0 34 := ⟨⟨3, rfl, by decide⟩, rfl, by decide⟩
theorem r_M_5 : xR PM 5 0 6 := ⟨⟨4, rfl, by decide⟩, rfl, by decide⟩
theorem r_M_6 : xR PM 6 0 6 := ⟨⟨5, rfl, by decide⟩, rfl, by decide⟩
theorem r_M_7 : xR PM 7 0 6 := ⟨⟨6, rfl, by decide⟩, rfl, by decide⟩
theorem r_M_8 : xR PM 8 0 48 := ⟨⟨7, rfl, by decide⟩, rfl, by decide⟩
theorem r_M_9 : xR PM 9 0 238 := ⟨⟨8, rfl, by decide⟩, rfl, by decide⟩
theorem r_M_10 : xR PM 10 0 64 := ⟨⟨9, rfl, by decide⟩, rfl, by decide⟩
theorem r_M_11 : xR PM 11 2 2 := ⟨⟨10, rfl, by decide⟩, rfl, by decide⟩
theorem r_M_12 : xR PM 12 0 34 := ⟨⟨11, rfl, by decide⟩, rfl, by decide⟩
def stW : List Nat := [12, 15, 19, 22, 25, 28, 31, 34, 37, 40, 43, 46, 49, 52, 55, 58, 62, 65]
theorem st_all : ∀ k ∈ stW, (k < 69 ∧ 0 < k) ∧ LW k = .inr (2, [0, 0, 0, 0, 0, k + 4, k + 5]) ∧ LW (k + 1) = .inl (0, 6) ∧ LW (k + 2) = .inl (0, 6) := by decide +kernel
theorem st_o {k : Nat} (h : k ∈ stW) : xO PW k 2 [0, 0, 0, 0, 0, k + 4, k + 5] := ⟨⟨k - 1, by have := (st_all k h).1; omega, by have := (st_all k h).1; show k - 1 < 70; omega⟩, (st_all k h).2.1⟩
theorem st_w {k : Nat} (h : k ∈ stW) : xR PW (k + 1) 0 6 := ⟨⟨k, rfl, by have := (st_all k h).1; show k < 70; omega⟩, (st_all k h).2.2.1, by decide⟩
theorem st_c {k : Nat} (h : k ∈ stW) : xR PW (k + 2) 0 6 := ⟨⟨k + 1, rfl, by have := (st_all k h).1; show k + 1 < 70; omega⟩, (st_all k h).2.2.2, by decide⟩
def tdW : List Nat := [4, 8]
theorem td_all : ∀ k ∈ tdW, (k < 20 ∧ 0 < k) ∧ LW k = .inr (3, [0, 0, 0, k + 4, k + 5, k + 6]) ∧ LW (k + 1) = .inl (0, 6) ∧ LW (k + 2) = .inl (0, 6) ∧ LW (k + 3) = .inl (0, 6) := by decide +kernel
theorem td_o {k : Nat} (h : k ∈ tdW) : xO PW k 3 [0, 0, 0, k + 4, k + 5, k + 6] := ⟨⟨k - 1, by have := (td_all k h).1; omega, by have := (td_all k h).1; show k - 1 < 70; omega⟩, (td_all k h).2.1⟩
theorem td_w {k : Nat} (h : k ∈ tdW) : xR PW (k + 1) 0 6 := ⟨⟨k, rfl, by have := (td_all k h).1; show k < 70; omega⟩, (td_all k h).2.2.1, by decide⟩
theorem td_k {k : Nat} (h : k ∈ tdW) : xR PW (k + 2) 0 6 := ⟨⟨k + 1, rfl, by have := (td_all k h).1; show k + 1 < 70; omega⟩, (td_all k h).2.2.2.1, by decide⟩
theorem td_e {k : Nat} (h : k ∈ tdW) : xR PW (k + 3) 0 6 := ⟨⟨k + 2, rfl, by have := (td_all k h).1; show k + 2 < 70; omega⟩, (td_all k h).2.2.2.2, by decide⟩
/-! contracts of methods that make nothing -/
def qI (P : xP) (Q : Int32 → xT → Prop) : Option Value → xP → xT → Prop := fun r P' τ' => P' = P ∧ ∃ x : Int32, r = some (.int x) ∧ Q x τ'
def qL (P : xP) (Q : Int64 → xT → Prop) : Option Value → xP → xT → Prop := fun r P' τ' => P' = P ∧ ∃ x : Int64, r = some (.long x) ∧ Q x τ'
def qV (P : xP) (Q : xT → Prop) : Option Value → xP → xT → Prop := fun r P' τ' => P' = P ∧ r = none ∧ Q τ'
abbrev CI (cx : xC) (M : xY) (vs : List Value) (P : xP) (τ : xT) (Q : Int32 → xT → Prop) : Prop := Ct cx M vs P τ (qI P Q)
abbrev CL (cx : xC) (M : xY) (vs : List Value) (P : xP) (τ : xT) (Q : Int64 → xT → Prop) : Prop := Ct cx M vs P τ (qL P Q)
abbrev CV (cx : xC) (M : xY) (vs : List Value) (P : xP) (τ : xT) (Q : xT → Prop) : Prop := Ct cx M vs P τ (qV P Q)
theorem xcs0 {M M' : xY} {P : xP} (h1 : M'.2.2.2.2.cells = 0) (h2 : M'.2.2.2.2.slots = 0) : xCs M M' P P := ⟨by rw [h1, Nat.sub_self]; exact Nat.zero_le _, by rw [h2, Nat.sub_self]; exact Nat.zero_le _⟩
section XT
variable {cx : xC} {M : xY} {pc pc' : Nat} {lv : List (Nat × Value)} {st : List Value} {P : xP} {τ : xT}
variable {Q : Option Value → xP → xT → Prop} {M' : xY} {As rest : List Value} {idx : Nat}
theorem X_ri {q : Int32 → xT → Prop} {v : Int32} (hd : decode M.2.1 pc = .ok (.ireturn, 1)) (hr : M.2.2.2.1 = some .int) (h0 : M.2.2.2.2.cells = 0 ∧ M.2.2.2.2.slots = 0) (hQ : q v τ) : X cx M P (qI P q) pc lv [.int v] P τ := X_iret hd hr ⟨by rw [h0.1]; rfl, by rw [h0.2]; rfl⟩ ⟨rfl, v, rfl, hQ⟩
theorem X_rz {q : Int32 → xT → Prop} {v : Int32} (hd : decode M.2.1 pc = .ok (.ireturn, 1)) (hr : M.2.2.2.1 = some .boolean) (hv : narrow .boolean (.int v) = .int v) (h0 : M.2.2.2.2.cells = 0 ∧ M.2.2.2.2.slots = 0) (hQ : q v τ) : X cx M P (qI P q) pc lv [.int v] P τ := X_zret hd hr hv ⟨by rw [h0.1]; rfl, by rw [h0.2]; rfl⟩ ⟨rfl, v, rfl, hQ⟩
theorem X_rl {q : Int64 → xT → Prop} {v : Int64} (hd : decode M.2.1 pc = .ok (.lreturn, 1)) (hr : M.2.2.2.1 = some .long) (h0 : M.2.2.2.2.cells = 0 ∧ M.2.2.2.2.slots = 0) (hQ : q v τ) : X cx M P (qL P q) pc lv [.long v] P τ := X_lret hd hr ⟨by rw [h0.1]; rfl, by rw [h0.2]; rfl⟩ ⟨rfl, v, rfl, hQ⟩
theorem X_rv {q : xT → Prop} (hd : decode M.2.1 pc = .ok (.return_, 1)) (hr : M.2.2.2.1 = none) (h0 : M.2.2.2.2.cells = 0 ∧ M.2.2.2.2.slots = 0) (hQ : q τ) : X cx M P (qV P q) pc lv [] P τ := X_vret hd hr ⟨by rw [h0.1]; rfl, by rw [h0.2]; rfl⟩ ⟨rfl, rfl, hQ⟩
theorem X_SI {Q0 : Int32 → xT → Prop} (hd : decode M.2.1 pc = .ok (.invokestatic idx, 3)) (hp : pc + 3 = pc') (hm : xMt M' As.length) (hl : Cond.methodLink M.1.cls idx M'.1 ∈ xtbl) (hst : Cond.static M'.1 ∈ xtbl) (hrm : xRm M M') (h1 : M'.2.2.2.2.cells = 0) (h2 : M'.2.2.2.2.slots = 0) (hw : (rest.map fun v => v.category).sum ≤ 8) (hC : CI cx M' As P τ Q0) (k : ∀ (x : Int32) (τ' : xT), Q0 x τ' → X cx M P Q pc' lv (.int x :: rest) P τ') : X cx M P Q pc lv (As.reverse ++ rest) P τ :=
  X_callS hd hp hm hl hst hrm (xcs0 h1 h2) hw hC (fun r P' τ' h _ _ => by obtain ⟨rfl, x, rfl, hq⟩ := h; exact k x τ' hq)
theorem X_SL {Q0 : Int64 → xT → Prop} (hd : decode M.2.1 pc = .ok (.invokestatic idx, 3)) (hp : pc + 3 = pc') (hm : xMt M' As.length) (hl : Cond.methodLink M.1.cls idx M'.1 ∈ xtbl) (hst : Cond.static M'.1 ∈ xtbl) (hrm : xRm M M') (h1 : M'.2.2.2.2.cells = 0) (h2 : M'.2.2.2.2.slots = 0) (hw : (rest.map fun v => v.category).sum ≤ 8) (hC : CL cx M' As P τ Q0) (k : ∀ (x : Int64) (τ' : xT), Q0 x τ' → X cx M P Q pc' lv (.long x :: rest) P τ') : X cx M P Q pc lv (As.reverse ++ rest) P τ :=
  X_callS hd hp hm hl hst hrm (xcs0 h1 h2) hw hC (fun r P' τ' h _ _ => by obtain ⟨rfl, x, rfl, hq⟩ := h; exact k x τ' hq)
theorem X_SV {Q0 : xT → Prop} (hd : decode M.2.1 pc = .ok (.invokestatic idx, 3)) (hp : pc + 3 = pc') (hm : xMt M' As.length) (hl : Cond.methodLink M.1.cls idx M'.1 ∈ xtbl) (hst : Cond.static M'.1 ∈ xtbl) (hrm : xRm M M') (h1 : M'.2.2.2.2.cells = 0) (h2 : M'.2.2.2.2.slots = 0) (hw : (rest.map fun v => v.category).sum ≤ 8) (hC : CV cx M' As P τ Q0) (k : ∀ (τ' : xT), Q0 τ' → X cx M P Q pc' lv (rest) P τ') : X cx M P Q pc lv (As.reverse ++ rest) P τ :=
  X_callS hd hp hm hl hst hrm (xcs0 h1 h2) hw hC (fun r P' τ' h _ _ => by obtain ⟨rfl, rfl, hq⟩ := h; exact k τ' hq)
theorem X_NI {Q0 : Int32 → xT → Prop} (hd : decode M.2.1 pc = .ok (.invokestatic idx, 3)) (hp : pc + 3 = pc') (hm : xMt M' As.length) {host : String} (hl : (M.1.cls, idx, M'.1, host) ∈ xnM) (hst : Cond.static M'.1 ∈ xtbl) (hrm : xRm M M') (h1 : M'.2.2.2.2.cells = 0) (h2 : M'.2.2.2.2.slots = 0) (hw : (rest.map fun v => v.category).sum ≤ 8) (hC : CI cx M' As P τ Q0) (k : ∀ (x : Int32) (τ' : xT), Q0 x τ' → X cx M P Q pc' lv (.int x :: rest) P τ') : X cx M P Q pc lv (As.reverse ++ rest) P τ :=
  X_callN hd hp hm hl hst hrm (xcs0 h1 h2) hw hC (fun r P' τ' h _ _ => by obtain ⟨rfl, x, rfl, hq⟩ := h; exact k x τ' hq)
theorem X_NL {Q0 : Int64 → xT → Prop} (hd : decode M.2.1 pc = .ok (.invokestatic idx, 3)) (hp : pc + 3 = pc') (hm : xMt M' As.length) {host : String} (hl : (M.1.cls, idx, M'.1, host) ∈ xnM) (hst : Cond.static M'.1 ∈ xtbl) (hrm : xRm M M') (h1 : M'.2.2.2.2.cells = 0) (h2 : M'.2.2.2.2.slots = 0) (hw : (rest.map fun v => v.category).sum ≤ 8) (hC : CL cx M' As P τ Q0) (k : ∀ (x : Int64) (τ' : xT), Q0 x τ' → X cx M P Q pc' lv (.long x :: rest) P τ') : X cx M P Q pc lv (As.reverse ++ rest) P τ :=
  X_callN hd hp hm hl hst hrm (xcs0 h1 h2) hw hC (fun r P' τ' h _ _ => by obtain ⟨rfl, x, rfl, hq⟩ := h; exact k x τ' hq)
theorem X_NV {Q0 : xT → Prop} (hd : decode M.2.1 pc = .ok (.invokestatic idx, 3)) (hp : pc + 3 = pc') (hm : xMt M' As.length) {host : String} (hl : (M.1.cls, idx, M'.1, host) ∈ xnM) (hst : Cond.static M'.1 ∈ xtbl) (hrm : xRm M M') (h1 : M'.2.2.2.2.cells = 0) (h2 : M'.2.2.2.2.slots = 0) (hw : (rest.map fun v => v.category).sum ≤ 8) (hC : CV cx M' As P τ Q0) (k : ∀ (τ' : xT), Q0 τ' → X cx M P Q pc' lv (rest) P τ') : X cx M P Q pc lv (As.reverse ++ rest) P τ :=
  X_callN hd hp hm hl hst hrm (xcs0 h1 h2) hw hC (fun r P' τ' h _ _ => by obtain ⟨rfl, rfl, hq⟩ := h; exact k τ' hq)
theorem X_OI {Q0 : Int32 → xT → Prop} (hd : decode M.2.1 pc = .ok (.invokevirtual idx, 3)) (hp : pc + 3 = pc') (hm : xMt M' As.length) {b ci : Nat} {fks : List Nat} (hl : Cond.methodLink M.1.cls idx M'.1 ∈ xtbl) (hin : Cond.instanceMethod M'.1 ∈ xtbl ∧ Cond.selects M'.1.cls M'.1 M'.1 ∈ xtbl) (hb : xO P b ci fks) (hcl : vwCl[ci]?.map (fun q => q.1) = some M'.1.cls) (hrm : xRm M M') (h1 : M'.2.2.2.2.cells = 0) (h2 : M'.2.2.2.2.slots = 0) (hw : (rest.map fun v => v.category).sum ≤ 8) (hC : CI cx M' (.ref b :: As) P τ Q0) (k : ∀ (x : Int32) (τ' : xT), Q0 x τ' → X cx M P Q pc' lv (.int x :: rest) P τ') : X cx M P Q pc lv (As.reverse ++ .ref b :: rest) P τ :=
  X_callV hd hp hm hl hin hb hcl hrm (xcs0 h1 h2) hw hC (fun r P' τ' h _ _ => by obtain ⟨rfl, x, rfl, hq⟩ := h; exact k x τ' hq)
theorem X_OL {Q0 : Int64 → xT → Prop} (hd : decode M.2.1 pc = .ok (.invokevirtual idx, 3)) (hp : pc + 3 = pc') (hm : xMt M' As.length) {b ci : Nat} {fks : List Nat} (hl : Cond.methodLink M.1.cls idx M'.1 ∈ xtbl) (hin : Cond.instanceMethod M'.1 ∈ xtbl ∧ Cond.selects M'.1.cls M'.1 M'.1 ∈ xtbl) (hb : xO P b ci fks) (hcl : vwCl[ci]?.map (fun q => q.1) = some M'.1.cls) (hrm : xRm M M') (h1 : M'.2.2.2.2.cells = 0) (h2 : M'.2.2.2.2.slots = 0) (hw : (rest.map fun v => v.category).sum ≤ 8) (hC : CL cx M' (.ref b :: As) P τ Q0) (k : ∀ (x : Int64) (τ' : xT), Q0 x τ' → X cx M P Q pc' lv (.long x :: rest) P τ') : X cx M P Q pc lv (As.reverse ++ .ref b :: rest) P τ :=
  X_callV hd hp hm hl hin hb hcl hrm (xcs0 h1 h2) hw hC (fun r P' τ' h _ _ => by obtain ⟨rfl, x, rfl, hq⟩ := h; exact k x τ' hq)
theorem X_OV {Q0 : xT → Prop} (hd : decode M.2.1 pc = .ok (.invokevirtual idx, 3)) (hp : pc + 3 = pc') (hm : xMt M' As.length) {b ci : Nat} {fks : List Nat} (hl : Cond.methodLink M.1.cls idx M'.1 ∈ xtbl) (hin : Cond.instanceMethod M'.1 ∈ xtbl ∧ Cond.selects M'.1.cls M'.1 M'.1 ∈ xtbl) (hb : xO P b ci fks) (hcl : vwCl[ci]?.map (fun q => q.1) = some M'.1.cls) (hrm : xRm M M') (h1 : M'.2.2.2.2.cells = 0) (h2 : M'.2.2.2.2.slots = 0) (hw : (rest.map fun v => v.category).sum ≤ 8) (hC : CV cx M' (.ref b :: As) P τ Q0) (k : ∀ (τ' : xT), Q0 τ' → X cx M P Q pc' lv (rest) P τ') : X cx M P Q pc lv (As.reverse ++ .ref b :: rest) P τ :=
  X_callV hd hp hm hl hin hb hcl hrm (xcs0 h1 h2) hw hC (fun r P' τ' h _ _ => by obtain ⟨rfl, rfl, hq⟩ := h; exact k τ' hq)
theorem X_eqi {P0 : xP} {x : Int32} (y : Int32) (h : x = y) (k : X cx M P0 Q pc lv (.int y :: st) P τ) : X cx M P0 Q pc lv (.int x :: st) P τ := h ▸ k
theorem X_eql {P0 : xP} {x : Int64} (y : Int64) (h : x = y) (k : X cx M P0 Q pc lv (.long y :: st) P τ) : X cx M P0 Q pc lv (.long x :: st) P τ := h ▸ k
theorem X_topi {P0 : xP} {x : Int32} (k : ∀ y : Int32, y = x → X cx M P0 Q pc lv (.int y :: st) P τ) : X cx M P0 Q pc lv (.int x :: st) P τ := k x rfl
theorem X_lv {P0 : xP} (lv' : List (Nat × Value)) (h : ∀ q ∈ lv', q ∈ lv) (k : X cx M P0 Q pc lv' st P τ) : X cx M P0 Q pc lv st P τ :=
  fun p l e s m args below meth c H locs ls C hH hS hF hl => k p l e s m args below meth c H locs ls C hH hS hF ⟨hl.1, hl.2.1, fun q hq => by
    obtain ⟨w, hw, rfl⟩ := List.mem_map.mp hq
    exact hl.2.2 _ (List.mem_map.mpr ⟨w, h w hw, rfl⟩)⟩
end XT
