/-! ===== the whole state, and what acts do ===== -/
/-- the text, its length, the post, the standing, the row of acts, what was kept, the seed -/
abbrev SA : Type := (Nat → Nat) × Nat × PT × SN × List SN × (Nat → Option SN) × Int64
abbrev aT (S : SA) : Nat → Nat := S.1
abbrev aL (S : SA) : Nat := S.2.1
abbrev aP (S : SA) : PT := S.2.2.1
abbrev aS (S : SA) : SN := S.2.2.2.1
abbrev aA (S : SA) : List SN := S.2.2.2.2.1
abbrev aK (S : SA) : Nat → Option SN := S.2.2.2.2.2.1
abbrev aC (S : SA) : Int64 := S.2.2.2.2.2.2
def SAok (m : Nat) (S : SA) : Prop := aL S ≤ 48 ∧ (∀ i, i < aL S → aT S i < 256) ∧ Pok (aP S) ∧ Sok (aP S) m (aS S) ∧ (aA S).length ≤ 14 ∧ (∀ a ∈ aA S, Sok (aP S) m a) ∧ ∀ j a, aK S j = some a → Sok (aP S) m a
def KW (τ : xT) (n : Nat) (K : Nat → Option SN) : Prop := (∀ j, j < 2 → τ.2.2 61 j = 62 + 3 * j) ∧ (∃ kb : Nat, kb < 4 ∧ τ.1 1 9 = nI kb ∧ ∀ j, j < 2 → (bt kb j ↔ (K j).isSome = true)) ∧ ∀ j s, j < 2 → K j = some s → SR τ (62 + 3 * j) n s
def RW (τ : xT) (m : Nat) (S : SA) : Prop := SAok m S ∧ (∀ i, i < aL S → τ.1 2 i = nI (aT S i)) ∧ τ.1 1 1 = nI (aL S) ∧ TR τ 8 (aP S) ∧ SR τ 12 (pn (aP S)) (aS S) ∧ AW τ (pn (aP S)) (aA S) ∧ KW τ (pn (aP S)) (aK S) ∧ τ.2.1 1 12 = aC S
theorem RW.q {τ : xT} {m : Nat} {S : SA} (h : RW τ m S) (hm : m < 5000) : Qw τ (aP S) (aS S) m := ⟨h.2.2.2.1, h.2.2.2.2.1, h.1.2.2.1, h.1.2.2.2.1, hm⟩
theorem SAok.mono {m m' : Nat} {S : SA} (h : SAok m S) (hm : m ≤ m') : SAok m' S := ⟨h.1, h.2.1, h.2.2.1, h.2.2.2.1.mono hm, h.2.2.2.2.1, fun a ha => (h.2.2.2.2.2.1 a ha).mono hm, fun j a ha => (h.2.2.2.2.2.2 j a ha).mono hm⟩
theorem RW.mono {τ : xT} {m m' : Nat} {S : SA} (h : RW τ m S) (hm : m ≤ m') : RW τ m' S := ⟨h.1.mono hm, h.2⟩
def scrW : List Nat := [3, 4, 5, 6, 7, 15, 16, 17, 68, 69, 70]
theorem act_scr : ∀ k ∈ actW, k ∉ scrW ∧ k + 1 ∉ scrW ∧ k + 2 ∉ scrW := by decide +kernel
theorem AW.scr {τ τ' : xT} {n : Nat} {acts : List SN} (h : AW τ n acts) (h7 : τ'.1 1 7 = τ.1 1 7) (h18 : τ'.2.2 18 = τ.2.2 18) (hr : ∀ k ∈ actW, τ'.1 k = τ.1 k ∧ τ'.1 (k + 1) = τ.1 (k + 1) ∧ τ'.1 (k + 2) = τ.1 (k + 2)) : AW τ' n acts := by
  obtain ⟨a1, a2, a3, a4, a5⟩ := h
  refine ⟨h7.trans a1, a2, fun j hj => by rw [h18]; exact a3 j hj, fun i j hi hj e => a4 i j hi hj (by rw [h18] at e; exact e), fun j s hs => ?_⟩
  rw [h18]
  have hj : j < acts.length := (List.getElem?_eq_some_iff.mp hs).1
  have hq := hr _ (a3 j (by omega))
  exact SR_rows (a5 j s hs) hq.1 hq.2.1 hq.2.2
theorem KW.rows {τ τ' : xT} {n : Nat} {K : Nat → Option SN} (h : KW τ n K) (h9 : τ'.1 1 9 = τ.1 1 9) (h61 : τ'.2.2 61 = τ.2.2 61) (hr : ∀ k, 62 ≤ k → k ≤ 67 → τ'.1 k = τ.1 k) : KW τ' n K := by
  obtain ⟨a1, ⟨kb, b1, b2, b3⟩, a3⟩ := h
  refine ⟨fun j hj => by rw [h61]; exact a1 j hj, ⟨kb, b1, h9.trans b2, b3⟩, fun j s hj hs => ?_⟩
  exact SR_rows (a3 j s hj hs) (hr _ (by omega) (by omega)) (hr _ (by omega) (by omega)) (hr _ (by omega) (by omega))
theorem RW.scr {τ τ' : xT} {m : Nat} {S : SA} (h : RW τ m S) (e : xeq scrW τ τ') : RW τ' m S := by
  obtain ⟨h1, h2, h3, h4, h5, h6, h7, h8⟩ := h
  have r1 := e 1 (by decide)
  refine ⟨h1, fun i hi => by rw [(e 2 (by decide)).1]; exact h2 i hi, by rw [r1.1]; exact h3, h4.kept e (by decide) (by decide) (by decide), h5.kept e (by decide) (by decide) (by decide), h6.scr (by rw [r1.1]) (e 18 (by decide)).2.2 (fun k hk => ?_), h7.rows (by rw [r1.1]) (e 61 (by decide)).2.2 (fun k h1 h2 => (e k ?_).1), by rw [r1.2.1]; exact h8⟩
  · have := act_scr k hk
    exact ⟨(e _ this.1).1, (e _ this.2.1).1, (e _ this.2.2).1⟩
  · have : k = 62 ∨ k = 63 ∨ k = 64 ∨ k = 65 ∨ k = 66 ∨ k = 67 := by omega
    rcases this with rfl | rfl | rfl | rfl | rfl | rfl <;> decide
/-- the state with another standing and another row of acts -/
def wS (S : SA) (s : SN) (acts : List SN) : SA := (aT S, aL S, aP S, s, acts, aK S, aC S)
def sendA (S : SA) (l : Int32) : Int32 × SA :=
  if kn (aP S) l then (if bt (sSt (aS S)) l.toInt.toNat then (-3, S) else if sTd (aS S) < pr (aP S) then (nI (price (aP S) (aS S) l.toInt.toNat), wS S (sendS (aP S) (aS S) l.toInt.toNat) (pushA (aA S) (aS S))) else (-4, S)) else (-1, S)
def dayA (S : SA) : Int32 × SA := (nI (sDy (aS S) + 1), wS S (pass (aS S)) (pushA (aA S) (aS S)))
def tearS (s : SN) (k : Nat) : SN := (sDy s, sSt s, sTd s, sTn s ||| 2 ^ k, sPd s, nset (sWt s) k 0, sCk s)
def tearA (S : SA) (l : Int32) : Int32 × SA :=
  if kn (aP S) l then (if bt (sSt (aS S)) l.toInt.toNat ∨ bt (sTn (aS S)) l.toInt.toNat then (-3, S) else (nI (sWt (aS S) l.toInt.toNat), wS S (tearS (aS S) l.toInt.toNat) (pushA (aA S) (aS S)))) else (-1, S)
def cardS (s : SN) (k : Nat) : SN := (sDy s, sSt s, sTd s, sTn s, sPd s, sWt s, nset (sCk s) k 3)
def cardA (S : SA) (l : Int32) : Int32 × SA :=
  if kn (aP S) l then (if bt (sSt (aS S)) l.toInt.toNat ∨ 0 < sCk (aS S) l.toInt.toNat then (-3, S) else (nI (price (aP S) (cardS (aS S) l.toInt.toNat) l.toInt.toNat), wS S (cardS (aS S) l.toInt.toNat) (pushA (aA S) (aS S)))) else (-1, S)
def undoA (S : SA) : Int32 × SA := match (aA S).getLast? with
  | none => (-3, S)
  | some s => (nI ((aA S).length - 1), wS S s (aA S).dropLast)
abbrev slotOk (l : Int32) : Prop := 0 ≤ l.toInt ∧ l.toInt < 2
def keepA (S : SA) (l : Int32) : Int32 × SA := if slotOk l then (nI (sDy (aS S)), (aT S, aL S, aP S, aS S, aA S, fun j => if j = l.toInt.toNat then some (aS S) else aK S j, aC S)) else (-1, S)
def againA (S : SA) (l : Int32) : Int32 × SA := if slotOk l then (match aK S l.toInt.toNat with
  | none => (-3, S)
  | some s => (nI (sDy s), wS S s [])) else (-1, S)
theorem pushA_len {acts : List SN} {s : SN} (h : acts.length ≤ 14) : (pushA acts s).length ≤ 14 := by
  unfold pushA
  split
  · rw [List.length_append, List.length_tail]; show _ + 1 ≤ 14; omega
  · rw [List.length_append]; show _ + 1 ≤ 14; omega
theorem pushA_mem {acts : List SN} {s a : SN} (h : a ∈ pushA acts s) : a ∈ acts ∨ a = s := by
  unfold pushA at h
  rcases List.mem_append.mp h with q | q
  · split at q
    · exact Or.inl (List.mem_of_mem_tail q)
    · exact Or.inl q
  · exact Or.inr (List.mem_singleton.mp q)
theorem wS_ok {m : Nat} {S : SA} {s : SN} (h : SAok m S) (hs : Sok (aP S) (m + 1) s) : SAok (m + 1) (wS S s (pushA (aA S) (aS S))) := by
  obtain ⟨h1, h2, h3, h4, h5, h6, h7⟩ := h
  refine ⟨h1, h2, h3, hs, pushA_len h5, fun a ha => ?_, fun j a ha => (h7 j a ha).mono (by omega)⟩
  rcases pushA_mem ha with q | q
  · exact (h6 a q).mono (by omega)
  · rw [q]; exact h4.mono (by omega)
theorem tear_ok {P : PT} {m : Nat} {s : SN} (h : Sok P m s) {k : Nat} (hk : k < pn P) : Sok P m (tearS s k) := by
  obtain ⟨h1, h2, h3, h4, h5, h6, h7⟩ := h
  refine ⟨h1, h2, h3, or_lt h4 (pow_lt hk), h5, fun i hi => ?_, h7⟩
  show nset (sWt s) k 0 i ≤ 99
  unfold nset
  split
  · omega
  · exact h6 i hi
theorem card_ok {P : PT} {m : Nat} {s : SN} (h : Sok P m s) (k : Nat) : Sok P m (cardS s k) := by
  obtain ⟨h1, h2, h3, h4, h5, h6, h7⟩ := h
  refine ⟨h1, h2, h3, h4, h5, h6, fun i hi => ?_⟩
  show nset (sCk s) k 3 i ≤ 3
  unfold nset
  split
  · omega
  · exact h7 i hi
theorem bt_or : ∀ a, a < 64 → ∀ b, b < 64 → ∀ k, k < 6 → (bt (a ||| b) k ↔ bt a k ∨ bt b k) := by decide +kernel
/-- behind remember, and behind what changed the standing of now alone -/
theorem RW_act {τ τ1 τ2 : xT} {m : Nat} {S : SA} {s : SN} (h : RW τ m S) (hs : Sok (aP S) (m + 1) s) (r1 : xeq actR τ τ1) (r2 : ∀ i, i ≠ 7 → τ1.1 1 i = τ.1 1 i) (r3 : τ1.2.1 1 = τ.2.1 1) (r4 : AW τ1 (pn (aP S)) (pushA (aA S) (aS S))) (e : xeq [12, 13, 14] τ1 τ2) (h2 : SR τ2 12 (pn (aP S)) s) : RW τ2 (m + 1) (wS S s (pushA (aA S) (aS S))) := by
  obtain ⟨g1, g2, g3, g4, g5, g6, g7, g8⟩ := h
  have q1 := e 1 (by decide)
  have a12 : ∀ k ∈ actW, k ∉ [12, 13, 14] ∧ k + 1 ∉ [12, 13, 14] ∧ k + 2 ∉ [12, 13, 14] := by decide +kernel
  have a62 : ∀ k, 62 ≤ k → k ≤ 67 → k ∉ actR ∧ k ∉ [12, 13, 14] := by
    intro k h1 h2
    have : k = 62 ∨ k = 63 ∨ k = 64 ∨ k = 65 ∨ k = 66 ∨ k = 67 := by omega
    rcases this with rfl | rfl | rfl | rfl | rfl | rfl <;> decide
  refine ⟨wS_ok g1 hs, fun i hi => ?_, ?_, ?_, h2, r4.scr (by rw [q1.1]) (e 18 (by decide)).2.2 (fun k hk => ?_), ?_, ?_⟩
  · rw [(e 2 (by decide)).1, (r1 2 (by decide)).1]; exact g2 i hi
  · rw [q1.1, r2 1 (by decide)]; exact g3
  · exact (g4.kept r1 (by decide) (by decide) (by decide)).kept e (by decide) (by decide) (by decide)
  · have := a12 k hk
    exact ⟨(e _ this.1).1, (e _ this.2.1).1, (e _ this.2.2).1⟩
  · refine g7.rows (by rw [q1.1, r2 9 (by decide)]) (by rw [(e 61 (by decide)).2.2, (r1 61 (by decide)).2.2]) (fun k h1 h2 => ?_)
    have := a62 k h1 h2
    rw [(e k this.2).1, (r1 k this.1).1]
  · rw [q1.2.1, r3]; exact g8
section AS
variable (cx : xC)
set_option maxHeartbeats 4000000
set_option maxRecDepth 100000
theorem c_send (τ : xT) {S : SA} {m : Nat} (h : RW τ m S) (hm : m < 4000) (l : Int32) : CI cx m_X4_send [.ref 1, .int l] PW τ (fun x τ' => x = (sendA S l).1 ∧ RW τ' (m + 1) (sendA S l).2) := by
  have hq := h.q (by omega)
  obtain ⟨hT, hs, hP, ho, hm5⟩ := id hq
  obtain ⟨p0, p1, p2, p3, p4, p5, p6⟩ := id hs
  have hn6 := hP.1
  have h26 := two6 hP
  have hst := ho.2.1
  refine Ct_of (by decide) (Nat.le_of_ble_eq_true rfl) (lv := [(0, _), (1, _)]) rfl ?_
  unfold sendA
  refine X_aload_n (i := 0) (pc' := 1) dX4_send_0 rfl rfl rfl ?_
  refine X_iload_n (i := 1) (pc' := 2) dX4_send_1 rfl rfl rfl ?_
  refine X_OIp (As := [_]) (rest := []) (pc' := 5) dX4_send_2 rfl k_X4_known l_X4_81 v_X4_known o_W_1 rfl ⟨by decide, by decide⟩ rfl rfl (Nat.le_of_ble_eq_true rfl) (c_known cx τ hP hT l) ?_
  refine X_if_ne (pc' := 8) (tgt := 10) dX4_send_5 rfl (by decide) (fun h_5 => ?_) (fun h_5 => ?_)
  · obtain ⟨k, hk, rfl⟩ := kn_of (zI_1 h_5)
    rw [if_pos (kn_in hP hk).1, (kn_in hP hk).2]
    refine X_aload_n (i := 0) (pc' := 11) dX4_send_10 rfl rfl rfl ?_
    refine X_get (pc' := 14) (v := .ref 12) dX4_send_11 rfl (gf_X4_30 _ rfl) o_W_1 rfl rfl ?_
    refine X_get (pc' := 17) (v := .int _) dX4_send_14 rfl (gf_X4_98 _ rfl) o_W_12 rfl rfl ?_
    refine X_eqi (nI (sSt (aS S))) (p1) ?_
    refine X_iload_n (i := 1) (pc' := 18) dX4_send_17 rfl rfl rfl ?_
    refine X_SIp (As := [_, _]) (rest := []) (pc' := 21) dX4_send_18 rfl k_X4_has l_X4_101 s_X4_has ⟨by decide, by decide⟩ rfl rfl (Nat.le_of_ble_eq_true rfl) (c_X4_has cx τ (sSt (aS S)) k (by omega) (by omega)) ?_
    refine X_if_eq (pc' := 24) (tgt := 27) dX4_send_21 rfl (by decide) (fun h_21 => ?_) (fun h_21 => ?_)
    · rw [if_neg (zI_0.mp h_21)]
      refine X_aload_n (i := 0) (pc' := 28) dX4_send_27 rfl rfl rfl ?_
      refine X_aload_n (i := 0) (pc' := 29) dX4_send_28 rfl rfl rfl ?_
      refine X_get (pc' := 32) (v := .ref 12) dX4_send_29 rfl (gf_X4_30 _ rfl) o_W_1 rfl rfl ?_
      refine X_iload_n (i := 1) (pc' := 33) dX4_send_32 rfl rfl rfl ?_
      refine X_OIp (As := [_, _]) (rest := []) (pc' := 36) dX4_send_33 rfl k_X4_canBeSent l_X4_115 v_X4_canBeSent o_W_1 rfl ⟨by decide, by decide⟩ rfl rfl (Nat.le_of_ble_eq_true rfl) (c_canBeSent cx τ (by decide) hT hs hP ho (nI k)) ?_
      refine X_if_ne (pc' := 39) (tgt := 42) dX4_send_36 rfl (by decide) (fun h_36 => ?_) (fun h_36 => ?_)
      · have hcan : can (aP S) (aS S) k := by have := (zI_1 h_36).2; rwa [(kn_in hP hk).2] at this
        rw [if_pos hcan.2.2]
        refine X_aload_n (i := 0) (pc' := 43) dX4_send_42 rfl rfl rfl ?_
        refine X_OV (As := []) (rest := []) (pc' := 46) dX4_send_43 rfl k_X4_remember l_X4_119 v_X4_remember o_W_1 rfl ⟨by decide, by decide⟩ rfl rfl (Nat.le_of_ble_eq_true rfl) (c_remember cx τ hn6 hs h.2.2.2.2.2.1) (fun τ_43 h_43 => ?_)
        refine X_aload_n (i := 0) (pc' := 47) dX4_send_46 rfl rfl rfl ?_
        refine X_aload_n (i := 0) (pc' := 48) dX4_send_47 rfl rfl rfl ?_
        refine X_get (pc' := 51) (v := .ref 12) dX4_send_48 rfl (gf_X4_30 _ rfl) o_W_1 rfl rfl ?_
        refine X_iload_n (i := 1) (pc' := 52) dX4_send_51 rfl rfl rfl ?_
        refine X_OI (As := [_, _]) (rest := []) (pc' := 55) dX4_send_52 rfl k_X4_putSent l_X4_122 v_X4_putSent o_W_1 rfl ⟨by decide, by decide⟩ rfl rfl (Nat.le_of_ble_eq_true rfl) (c_putSent cx τ_43 (by decide) (hT.kept h_43.1 (by decide) (by decide) (by decide)) (hs.kept h_43.1 (by decide) (by decide) (by decide)) hP ho (by omega) hk) (fun x_52 τ_52 h_52 => ?_)
        refine X_ri dX4_send_55 rfl ⟨rfl, rfl⟩ ?_
        obtain ⟨⟨e1, e2⟩, e3⟩ := h_52
        exact ⟨e3, RW_act h (sendS_ok hP ho hcan) h_43.1 h_43.2.1 h_43.2.2.1 h_43.2.2.2 (e1.mono (by decide)) e2⟩
      · refine X_bipush (pc' := 41) (v := (-4)) dX4_send_39 rfl (by decide) ?_
        refine X_ri dX4_send_41 rfl ⟨rfl, rfl⟩ ?_
        rw [if_neg (fun q => (zI_0.mp h_36) ⟨(kn_in hP hk).1, by rw [(kn_in hP hk).2]; exact ⟨hk, zI_0.mp h_21, q⟩⟩)]; exact ⟨rfl, h.mono (by omega)⟩
    · refine X_bipush (pc' := 26) (v := (-3)) dX4_send_24 rfl (by decide) ?_
      refine X_ri dX4_send_26 rfl ⟨rfl, rfl⟩ ?_
      rw [if_pos (zI_1 h_21)]; exact ⟨rfl, h.mono (by omega)⟩
  · refine X_iconst (pc' := 9) (v := (-1)) dX4_send_8 rfl (by decide) ?_
    refine X_ri dX4_send_9 rfl ⟨rfl, rfl⟩ ?_
    rw [if_neg (zI_0.mp h_5)]; exact ⟨rfl, h.mono (by omega)⟩
theorem c_day (τ : xT) {S : SA} {m : Nat} (h : RW τ m S) (hm : m < 4000) : CI cx m_X4_day [.ref 1] PW τ (fun x τ' => x = (dayA S).1 ∧ RW τ' (m + 1) (dayA S).2) := by
  have hq := h.q (by omega)
  obtain ⟨hT, hs, hP, ho, hm5⟩ := id hq
  have hn6 := hP.1
  refine Ct_of (by decide) (Nat.le_of_ble_eq_true rfl) (lv := [(0, _)]) rfl ?_
  refine X_aload_n (i := 0) (pc' := 1) dX4_day_0 rfl rfl rfl ?_
  refine X_OV (As := []) (rest := []) (pc' := 4) dX4_day_1 rfl k_X4_remember l_X4_119 v_X4_remember o_W_1 rfl ⟨by decide, by decide⟩ rfl rfl (Nat.le_of_ble_eq_true rfl) (c_remember cx τ hn6 hs h.2.2.2.2.2.1) (fun τ_1 h_1 => ?_)
  refine X_aload_n (i := 0) (pc' := 5) dX4_day_4 rfl rfl rfl ?_
  refine X_get (pc' := 8) (v := .ref 12) dX4_day_5 rfl (gf_X4_30 _ rfl) o_W_1 rfl rfl ?_
  refine X_aload_n (i := 0) (pc' := 9) dX4_day_8 rfl rfl rfl ?_
  refine X_get (pc' := 12) (v := .ref 8) dX4_day_9 rfl (gf_X4_23 _ rfl) o_W_1 rfl rfl ?_
  refine X_get (pc' := 15) (v := .int _) dX4_day_12 rfl (gf_X4_78 _ rfl) o_W_8 rfl rfl ?_
  refine X_eqi (nI (pn (aP S))) ((hT.kept h_1.1 (by decide) (by decide) (by decide)).2.2.1) ?_
  refine X_OV (As := [_]) (rest := []) (pc' := 18) dX4_day_15 rfl k_X2_passDay l_X4_126 v_X2_passDay o_W_12 rfl ⟨by decide, by decide⟩ rfl rfl (Nat.le_of_ble_eq_true rfl) (c_passDay cx τ_1 (by decide) hP rfl (hs.kept h_1.1 (by decide) (by decide) (by decide)) ho (by omega)) (fun τ_15 h_15 => ?_)
  refine X_aload_n (i := 0) (pc' := 19) dX4_day_18 rfl rfl rfl ?_
  refine X_get (pc' := 22) (v := .ref 12) dX4_day_19 rfl (gf_X4_30 _ rfl) o_W_1 rfl rfl ?_
  refine X_get (pc' := 25) (v := .int _) dX4_day_22 rfl (gf_X4_130 _ rfl) o_W_12 rfl rfl ?_
  refine X_ri dX4_day_25 rfl ⟨rfl, rfl⟩ ?_
  exact ⟨h_15.2.1, RW_act h (pass_ok ho) h_1.1 h_1.2.1 h_1.2.2.1 h_1.2.2.2 h_15.1 h_15.2⟩
theorem c_tear (τ : xT) {S : SA} {m : Nat} (h : RW τ m S) (hm : m < 4000) (l : Int32) : CI cx m_X4_tear [.ref 1, .int l] PW τ (fun x τ' => x = (tearA S l).1 ∧ RW τ' (m + 1) (tearA S l).2) := by
  have hq := h.q (by omega)
  obtain ⟨hT, hs, hP, ho, hm5⟩ := id hq
  obtain ⟨p0, p1, p2, p3, p4, p5, p6⟩ := id hs
  have hn6 := hP.1
  have h26 := two6 hP
  have hst := ho.2.1
  have htn := ho.2.2.2.1
  refine Ct_of (by decide) (Nat.le_of_ble_eq_true rfl) (lv := [(0, _), (1, _)]) rfl ?_
  unfold tearA
  refine X_aload_n (i := 0) (pc' := 1) dX4_tear_0 rfl rfl rfl ?_
  refine X_iload_n (i := 1) (pc' := 2) dX4_tear_1 rfl rfl rfl ?_
  refine X_OIp (As := [_]) (rest := []) (pc' := 5) dX4_tear_2 rfl k_X4_known l_X4_81 v_X4_known o_W_1 rfl ⟨by decide, by decide⟩ rfl rfl (Nat.le_of_ble_eq_true rfl) (c_known cx τ hP hT l) ?_
  refine X_if_ne (pc' := 8) (tgt := 10) dX4_tear_5 rfl (by decide) (fun h_5 => ?_) (fun h_5 => ?_)
  · obtain ⟨k, hk, rfl⟩ := kn_of (zI_1 h_5)
    rw [if_pos (kn_in hP hk).1, (kn_in hP hk).2]
    have h2k : 2 ^ k < 2 ^ 6 := pow_lt (by omega)
    have hor := bt_or (sSt (aS S)) (by omega) (sTn (aS S)) (by omega) k (by omega)
    have hor64 : sSt (aS S) ||| sTn (aS S) < 2 ^ 6 := Nat.or_lt_two_pow (by omega) (by omega)
    refine X_aload_n (i := 0) (pc' := 11) dX4_tear_10 rfl rfl rfl ?_
    refine X_get (pc' := 14) (v := .ref 12) dX4_tear_11 rfl (gf_X4_30 _ rfl) o_W_1 rfl rfl ?_
    refine X_get (pc' := 17) (v := .int _) dX4_tear_14 rfl (gf_X4_98 _ rfl) o_W_12 rfl rfl ?_
    refine X_eqi (nI (sSt (aS S))) (p1) ?_
    refine X_aload_n (i := 0) (pc' := 18) dX4_tear_17 rfl rfl rfl ?_
    refine X_get (pc' := 21) (v := .ref 12) dX4_tear_18 rfl (gf_X4_30 _ rfl) o_W_1 rfl rfl ?_
    refine X_get (pc' := 24) (v := .int _) dX4_tear_21 rfl (gf_X4_105 _ rfl) o_W_12 rfl rfl ?_
    refine X_eqi (nI (sTn (aS S))) (p3) ?_
    refine X_ior (pc' := 25) dX4_tear_24 rfl ?_
    refine X_eqi (nI (sSt (aS S) ||| sTn (aS S))) (nI_or (by omega) (by omega)) ?_
    refine X_iload_n (i := 1) (pc' := 26) dX4_tear_25 rfl rfl rfl ?_
    refine X_SIp (As := [_, _]) (rest := []) (pc' := 29) dX4_tear_26 rfl k_X4_has l_X4_101 s_X4_has ⟨by decide, by decide⟩ rfl rfl (Nat.le_of_ble_eq_true rfl) (c_X4_has cx τ (sSt (aS S) ||| sTn (aS S)) k (by omega) (by omega)) ?_
    refine X_if_eq (pc' := 32) (tgt := 35) dX4_tear_29 rfl (by decide) (fun h_29 => ?_) (fun h_29 => ?_)
    · rw [if_neg (fun q => (zI_0.mp h_29) (hor.mpr q))]
      refine X_aload_n (i := 0) (pc' := 36) dX4_tear_35 rfl rfl rfl ?_
      refine X_OV (As := []) (rest := []) (pc' := 39) dX4_tear_36 rfl k_X4_remember l_X4_119 v_X4_remember o_W_1 rfl ⟨by decide, by decide⟩ rfl rfl (Nat.le_of_ble_eq_true rfl) (c_remember cx τ hn6 hs h.2.2.2.2.2.1) (fun τ_36 h_36 => ?_)
      refine X_aload_n (i := 0) (pc' := 40) dX4_tear_39 rfl rfl rfl ?_
      refine X_get (pc' := 43) (v := .ref 12) dX4_tear_40 rfl (gf_X4_30 _ rfl) o_W_1 rfl rfl ?_
      refine X_get (pc' := 46) (v := .ref 13) dX4_tear_43 rfl (gf_X4_85 _ rfl) o_W_12 rfl rfl ?_
      refine X_iload_n (i := 1) (pc' := 47) dX4_tear_46 rfl rfl rfl ?_
      refine X_SIp (As := [_, _]) (rest := []) (pc' := 50) dX4_tear_47 rfl k_X4_at l_X4_88 s_X4_at ⟨by decide, by decide⟩ rfl rfl (Nat.le_of_ble_eq_true rfl) (c_at_in cx τ_36 (Or.inl r_W_13) (show k < 6 by omega)) ?_
      refine X_eqi (nI (sWt (aS S) k)) ((hs.kept h_36.1 (by decide) (by decide) (by decide)).2.2.2.2.2.1 k hk) ?_
      refine X_istore_n (i := 2) (pc' := 51) (lv' := [(2, _), (0, _), (1, _)]) dX4_tear_50 rfl rfl (Nat.le_of_ble_eq_true rfl) rfl ?_
      refine X_aload_n (i := 0) (pc' := 52) dX4_tear_51 rfl rfl rfl ?_
      refine X_get (pc' := 55) (v := .ref 12) dX4_tear_52 rfl (gf_X4_30 _ rfl) o_W_1 rfl rfl ?_
      refine X_get (pc' := 58) (v := .ref 13) dX4_tear_55 rfl (gf_X4_85 _ rfl) o_W_12 rfl rfl ?_
      refine X_iload_n (i := 1) (pc' := 59) dX4_tear_58 rfl rfl rfl ?_
      refine X_iconst (pc' := 60) (v := nI 0) dX4_tear_59 rfl (by decide) ?_
      refine X_SV (As := [_, _, _]) (rest := []) (pc' := 63) dX4_tear_60 rfl k_X4_put l_X4_133 s_X4_put ⟨by decide, by decide⟩ rfl rfl (Nat.le_of_ble_eq_true rfl) (c_X4_put cx τ_36 r_W_13 (show k < 6 by omega) _) (fun τ_60 h_60 => ?_)
      refine X_aload_n (i := 0) (pc' := 64) dX4_tear_63 rfl rfl rfl ?_
      refine X_get (pc' := 67) (v := .ref 12) dX4_tear_64 rfl (gf_X4_30 _ rfl) o_W_1 rfl rfl ?_
      refine X_dup (pc' := 68) dX4_tear_67 rfl rfl ?_
      refine X_get (pc' := 71) (v := .int _) dX4_tear_68 rfl (gf_X4_105 _ rfl) o_W_12 rfl rfl ?_
      refine X_eqi (nI (sTn (aS S))) (by rw [h_60]; exact (hs.kept h_36.1 (by decide) (by decide) (by decide)).2.2.2.1) ?_
      refine X_iload_n (i := 1) (pc' := 72) dX4_tear_71 rfl rfl rfl ?_
      refine X_SIp (As := [_]) (rest := [_, _]) (pc' := 75) dX4_tear_72 rfl k_X4_bit l_X4_137 s_X4_bit ⟨by decide, by decide⟩ rfl rfl (Nat.le_of_ble_eq_true rfl) (c_X4_bit cx τ_60 k (by omega)) ?_
      refine X_ior (pc' := 76) dX4_tear_75 rfl ?_
      refine X_eqi (nI (sTn (aS S) ||| 2 ^ k)) (nI_or (by omega) (by omega)) ?_
      refine X_putI (pc' := 79) dX4_tear_76 rfl (pf_X4_105 _ rfl) o_W_12 rfl ?_
      refine X_iload_n (i := 2) (pc' := 80) dX4_tear_79 rfl rfl rfl ?_
      refine X_ri dX4_tear_80 rfl ⟨rfl, rfl⟩ ?_
      obtain ⟨s0, s1, s2, s3, s4, s5, s6⟩ := hs.kept h_36.1 (by decide) (by decide) (by decide)
      subst h_60
      refine ⟨rfl, RW_act h ((tear_ok ho hk).mono (by omega)) h_36.1 h_36.2.1 h_36.2.2.1 h_36.2.2.2 ((xeq.rf.si (by decide)).si (by decide)) ?_⟩
      refine ⟨by simp [xsi, upd, s0, tearS], by simp [xsi, upd, s1, tearS], by simp [xsi, upd, s2, tearS], by simp [xsi, upd, tearS], by simp [xsi, upd, s4, tearS], fun i hi => ?_, fun i hi => ?_⟩
      · show (xsi (xsi τ_36 13 k (nI 0)) 12 3 _).1 13 i = nI (nset (sWt (aS S)) k 0 i)
        rw [xsi_ne _ _ _ (by decide), xsi_self]
        by_cases hik : i = k
        · subst hik; rw [pk_us, nset_s]
        · rw [pk_un hik, nset_n _ _ hik]; exact s5 i hi
      · exact s6 i hi
    · refine X_bipush (pc' := 34) (v := (-3)) dX4_tear_32 rfl (by decide) ?_
      refine X_ri dX4_tear_34 rfl ⟨rfl, rfl⟩ ?_
      rw [if_pos (hor.mp (zI_1 h_29))]; exact ⟨rfl, h.mono (by omega)⟩
  · refine X_iconst (pc' := 9) (v := (-1)) dX4_tear_8 rfl (by decide) ?_
    refine X_ri dX4_tear_9 rfl ⟨rfl, rfl⟩ ?_
    rw [if_neg (zI_0.mp h_5)]; exact ⟨rfl, h.mono (by omega)⟩
theorem c_card (τ : xT) {S : SA} {m : Nat} (h : RW τ m S) (hm : m < 4000) (l : Int32) : CI cx m_X4_card [.ref 1, .int l] PW τ (fun x τ' => x = (cardA S l).1 ∧ RW τ' (m + 1) (cardA S l).2) := by
  have hq := h.q (by omega)
  obtain ⟨hT, hs, hP, ho, hm5⟩ := id hq
  obtain ⟨p0, p1, p2, p3, p4, p5, p6⟩ := id hs
  have hn6 := hP.1
  have h26 := two6 hP
  have hst := ho.2.1
  refine Ct_of (by decide) (Nat.le_of_ble_eq_true rfl) (lv := [(0, _), (1, _)]) rfl ?_
  unfold cardA
  refine X_aload_n (i := 0) (pc' := 1) dX4_card_0 rfl rfl rfl ?_
  refine X_iload_n (i := 1) (pc' := 2) dX4_card_1 rfl rfl rfl ?_
  refine X_OIp (As := [_]) (rest := []) (pc' := 5) dX4_card_2 rfl k_X4_known l_X4_81 v_X4_known o_W_1 rfl ⟨by decide, by decide⟩ rfl rfl (Nat.le_of_ble_eq_true rfl) (c_known cx τ hP hT l) ?_
  refine X_if_ne (pc' := 8) (tgt := 10) dX4_card_5 rfl (by decide) (fun h_5 => ?_) (fun h_5 => ?_)
  · obtain ⟨k, hk, rfl⟩ := kn_of (zI_1 h_5)
    rw [if_pos (kn_in hP hk).1, (kn_in hP hk).2]
    have hck := ho.2.2.2.2.2.2 k hk
    refine X_aload_n (i := 0) (pc' := 11) dX4_card_10 rfl rfl rfl ?_
    refine X_get (pc' := 14) (v := .ref 12) dX4_card_11 rfl (gf_X4_30 _ rfl) o_W_1 rfl rfl ?_
    refine X_get (pc' := 17) (v := .int _) dX4_card_14 rfl (gf_X4_98 _ rfl) o_W_12 rfl rfl ?_
    refine X_eqi (nI (sSt (aS S))) (p1) ?_
    refine X_iload_n (i := 1) (pc' := 18) dX4_card_17 rfl rfl rfl ?_
    refine X_SIp (As := [_, _]) (rest := []) (pc' := 21) dX4_card_18 rfl k_X4_has l_X4_101 s_X4_has ⟨by decide, by decide⟩ rfl rfl (Nat.le_of_ble_eq_true rfl) (c_X4_has cx τ (sSt (aS S)) k (by omega) (by omega)) ?_
    refine X_if_ne (pc' := 24) (tgt := 38) dX4_card_21 rfl (by decide) (fun h_21 => ?_) (fun h_21 => ?_)
    · refine X_bipush (pc' := 40) (v := (-3)) dX4_card_38 rfl (by decide) ?_
      refine X_ri dX4_card_40 rfl ⟨rfl, rfl⟩ ?_
      first
        | (rw [if_pos (Or.inl (zI_1 h_21))]; exact ⟨rfl, h.mono (by omega)⟩)
        | (rw [if_pos (Or.inr (xpos_nI (by omega) h_35))]; exact ⟨rfl, h.mono (by omega)⟩)
    · refine X_aload_n (i := 0) (pc' := 25) dX4_card_24 rfl rfl rfl ?_
      refine X_get (pc' := 28) (v := .ref 12) dX4_card_25 rfl (gf_X4_30 _ rfl) o_W_1 rfl rfl ?_
      refine X_get (pc' := 31) (v := .ref 14) dX4_card_28 rfl (gf_X4_108 _ rfl) o_W_12 rfl rfl ?_
      refine X_iload_n (i := 1) (pc' := 32) dX4_card_31 rfl rfl rfl ?_
      refine X_SIp (As := [_, _]) (rest := []) (pc' := 35) dX4_card_32 rfl k_X4_at l_X4_88 s_X4_at ⟨by decide, by decide⟩ rfl rfl (Nat.le_of_ble_eq_true rfl) (c_at_in cx τ (Or.inl r_W_14) (show k < 6 by omega)) ?_
      refine X_eqi (nI (sCk (aS S) k)) (p6 k hk) ?_
      refine X_if_le (pc' := 38) (tgt := 41) dX4_card_35 rfl (by decide) (fun h_35 => ?_) (fun h_35 => ?_)
      · rw [if_neg (fun q => q.elim (zI_0.mp h_21) (fun q => xpos_nI' q (by omega) h_35))]
        refine X_aload_n (i := 0) (pc' := 42) dX4_card_41 rfl rfl rfl ?_
        refine X_OV (As := []) (rest := []) (pc' := 45) dX4_card_42 rfl k_X4_remember l_X4_119 v_X4_remember o_W_1 rfl ⟨by decide, by decide⟩ rfl rfl (Nat.le_of_ble_eq_true rfl) (c_remember cx τ hn6 hs h.2.2.2.2.2.1) (fun τ_42 h_42 => ?_)
        refine X_aload_n (i := 0) (pc' := 46) dX4_card_45 rfl rfl rfl ?_
        refine X_get (pc' := 49) (v := .ref 12) dX4_card_46 rfl (gf_X4_30 _ rfl) o_W_1 rfl rfl ?_
        refine X_get (pc' := 52) (v := .ref 14) dX4_card_49 rfl (gf_X4_108 _ rfl) o_W_12 rfl rfl ?_
        refine X_iload_n (i := 1) (pc' := 53) dX4_card_52 rfl rfl rfl ?_
        refine X_iconst (pc' := 54) (v := nI 3) dX4_card_53 rfl (by decide) ?_
        refine X_SV (As := [_, _, _]) (rest := []) (pc' := 57) dX4_card_54 rfl k_X4_put l_X4_133 s_X4_put ⟨by decide, by decide⟩ rfl rfl (Nat.le_of_ble_eq_true rfl) (c_X4_put cx τ_42 r_W_14 (show k < 6 by omega) _) (fun τ_54 h_54 => ?_)
        subst h_54
        have hs2 := hs.kept h_42.1 (by decide) (by decide) (by decide)
        have hT2 : TR (xsi τ_42 14 k (nI 3)) 8 (aP S) := (hT.kept h_42.1 (by decide) (by decide) (by decide)).kept (xeq.rf.si (R := [14]) (by decide)) (by decide) (by decide) (by decide)
        have hs3 : SR (xsi τ_42 14 k (nI 3)) 12 (pn (aP S)) (cardS (aS S) k) := by
          obtain ⟨s0, s1, s2, s3, s4, s5, s6⟩ := hs2
          refine ⟨s0, s1, s2, s3, s4, s5, fun i hi => ?_⟩
          show (xsi τ_42 14 k (nI 3)).1 14 i = nI (nset (sCk (aS S)) k 3 i)
          rw [xsi_self]
          by_cases hik : i = k
          · subst hik; rw [pk_us, nset_s]
          · rw [pk_un hik, nset_n _ _ hik]; exact s6 i hi
        have ho3 := card_ok ho k
        refine X_aload_n (i := 0) (pc' := 58) dX4_card_57 rfl rfl rfl ?_
        refine X_get (pc' := 61) (v := .ref 8) dX4_card_58 rfl (gf_X4_23 _ rfl) o_W_1 rfl rfl ?_
        refine X_aload_n (i := 0) (pc' := 62) dX4_card_61 rfl rfl rfl ?_
        refine X_get (pc' := 65) (v := .ref 12) dX4_card_62 rfl (gf_X4_30 _ rfl) o_W_1 rfl rfl ?_
        refine X_iload_n (i := 1) (pc' := 66) dX4_card_65 rfl rfl rfl ?_
        refine X_iconst (pc' := 67) (v := nI 0) dX4_card_66 rfl (by decide) ?_
        refine X_aload_n (i := 0) (pc' := 68) dX4_card_67 rfl rfl rfl ?_
        refine X_get (pc' := 71) (v := .ref 12) dX4_card_68 rfl (gf_X4_30 _ rfl) o_W_1 rfl rfl ?_
        refine X_get (pc' := 74) (v := .int _) dX4_card_71 rfl (gf_X4_98 _ rfl) o_W_12 rfl rfl ?_
        refine X_eqi (nI (sSt (cardS (aS S) k))) (hs3.2.1) ?_
        refine X_OIp (As := [_, _, _, _]) (rest := []) (pc' := 77) dX4_card_74 rfl k_X3_costIn l_X4_111 v_X3_costIn o_W_8 rfl ⟨by decide, by decide⟩ rfl rfl (Nat.le_of_ble_eq_true rfl) (c_costIn cx (xsi τ_42 14 k (nI 3)) hP hT2 (by decide) hs3 ho3 (by omega) hk (by decide) (show sSt (aS S) < 64 by omega)) ?_
        refine X_eqi (nI (price (aP S) (cardS (aS S) k) k)) (by rw [costIn_0 ho3 hk]) ?_
        refine X_ri dX4_card_77 rfl ⟨rfl, rfl⟩ ?_
        exact ⟨rfl, RW_act h (ho3.mono (by omega)) h_42.1 h_42.2.1 h_42.2.2.1 h_42.2.2.2 (xeq.rf.si (by decide)) hs3⟩
      · refine X_bipush (pc' := 40) (v := (-3)) dX4_card_38 rfl (by decide) ?_
        refine X_ri dX4_card_40 rfl ⟨rfl, rfl⟩ ?_
        first
          | (rw [if_pos (Or.inl (zI_1 h_21))]; exact ⟨rfl, h.mono (by omega)⟩)
          | (rw [if_pos (Or.inr (xpos_nI (by omega) h_35))]; exact ⟨rfl, h.mono (by omega)⟩)
  · refine X_iconst (pc' := 9) (v := (-1)) dX4_card_8 rfl (by decide) ?_
    refine X_ri dX4_card_9 rfl ⟨rfl, rfl⟩ ?_
    rw [if_neg (zI_0.mp h_5)]; exact ⟨rfl, h.mono (by omega)⟩
end AS
