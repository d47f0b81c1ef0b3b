/-! ===== the law: one call on both sides, in all its kinds ===== -/
theorem CIw {cx : xC} {M : xY} {vs : List Value} {P : xP} {τ : xT} {Q Q' : Int32 → xT → Prop} (h : CI cx M vs P τ Q) (hq : ∀ x τ', Q x τ' → Q' x τ') : CI cx M vs P τ Q' :=
  Ct.weaken h (fun r P' τ' q => by obtain ⟨e, x, hr, h2⟩ := q; exact ⟨e, x, hr, hq x τ' h2⟩)
section LW2
variable {p : Program} {l : Launch} {e : Env} {s : State} {m : MethodId} {below : List Frame} {meth : Method} {c : Code} {b L : Nat} {xs : Nat → Int32} {K : Nat × va_G × ClassId × ClassId × ClassId × ClassId}
theorem lsl {H : Heap} {locs : List Loc} {ls : Array Slot} {st : List Value} {Q : State → Prop} (C : LC p s m meth c b L xs K) (hL : L ≤ 320) {i k pc : Nat} {kz : Int} {v1 v2 : Value} (hi : i + k < L) (hl : lv_has ls 4 [(3, .int (nI i)), (0, .ref b), (1, v1), (2, v2)]) (hS : va_S (fun q => s.heap.size ≤ q) s.heap H locs) (hk : Int32.ofInt kz = nI k)
    (d0 : decode code pc = .ok (.aload_n 0, 1)) (d1 : decode code (pc + 1) = .ok (.iload_n 3, 1)) (d2 : decode code (pc + 2) = .ok (.iconst kz, 1)) (d3 : decode code (pc + 3) = .ok (.iadd, 1)) (d4 : decode code (pc + 4) = .ok (.iaload, 1))
    (kk : W p l e room_1 s m #[Value.ref b] below meth c H locs 82 1207 Q (F0 m (pc + 5) ls (.int (xs (i + k)) :: st))) : W p l e room_1 s m #[Value.ref b] below meth c H locs 82 1207 Q (F0 m pc ls st) := by
  obtain ⟨hx, hb, hr, hml, hown, hts, hX, hbl, hlocks, hK⟩ := C
  refine lv_aload_n hx hb d0 rfl (lv_at hl 1 rfl) ?_
  refine lv_iload_n hx hb d1 rfl (lv_at hl 0 rfl) ?_
  refine lv_iconst (v := nI k) hx hb d2 hk ?_
  refine lv_iadd hx hb d3 ?_
  rw [nI_add]
  refine va_sld (i := nI (i + k)) hx hb hX hbl (Nat.not_le.mpr hbl) hS (vp_in_nI hi (by omega)) d4 ?_
  rw [nI_clamp (by omega)]
  exact kk
/-- a number that isn't 0 is true -/
theorem lsb {H : Heap} {locs : List Loc} {ls : Array Slot} {st : List Value} {Q : State → Prop} (C : LC p s m meth c b L xs K) {pc : Nat} {u : Int32} (d0 : decode code pc = .ok (.ifCond .eq 7, 3)) (d1 : decode code (pc + 3) = .ok (.iconst 1, 1)) (d2 : decode code (pc + 4) = .ok (.goto 4, 3)) (d3 : decode code (pc + 7) = .ok (.iconst 0, 1))
    (kk : W p l e room_1 s m #[Value.ref b] below meth c H locs 82 1207 Q (F0 m (pc + 8) ls (.int (zI (¬ u = 0)) :: st))) : W p l e room_1 s m #[Value.ref b] below meth c H locs 82 1207 Q (F0 m pc ls (.int u :: st)) := by
  obtain ⟨hx, hb, hr, hml, hown, hts, hX, hbl, hlocks, hK⟩ := C
  refine lv_if_eq (tgt := pc + 7) hx hb d0 (by omega) (fun h => ?_) (fun h => ?_)
  · refine lv_iconst (v := nI 0) hx hb d3 (by decide) ?_
    have hz : zI (¬ u = 0) = nI 0 := if_neg (fun q => q h)
    rw [hz] at kk
    exact kk
  · refine lv_iconst (v := nI 1) hx hb d1 (by decide) ?_
    refine lv_goto (tgt := pc + 8) hx hb d2 (by omega) ?_
    have hz : zI (¬ u = 0) = nI 1 := if_pos h
    rw [hz] at kk
    exact kk
theorem lWI {H : Heap} {locs : List Loc} {ls : Array Slot} {rest As : List Value} {Q : State → Prop} {τW τM : xT} {pc idx : Nat} {M' : xY} {v : Int32} {R : xT → Prop} (C : LC p s m meth c b L xs K) (hz : H.size = s.heap.size + 82) (hW : xH (s.heap.size, 12, K) PW τW H) (hM : xH (s.heap.size + 70, 0, K) PM τM H) (hS : va_S (fun q => s.heap.size ≤ q) s.heap H locs) (hls : ls.size = 4) (hd : decode code pc = .ok (.invokevirtual idx, 3)) (hm : xMt M' As.length) (hl : Cond.methodLink "WaitedPostLaw" idx M'.1 ∈ xtbl) (hin : Cond.instanceMethod M'.1 ∈ xtbl ∧ Cond.selects M'.1.cls M'.1 M'.1 ∈ xtbl) (hcl : vwCl[4]?.map (fun q => q.1) = some M'.1.cls) (hrm : M'.2.2.2.2.frames + 1 ≤ room_1.frames ∧ 8 + (M'.2.2.1 + 11) + M'.2.2.2.2.locals ≤ room_1.locals) (h1 : M'.2.2.2.2.cells = 0) (h2 : M'.2.2.2.2.slots = 0) (hAs : As.map (xup (s.heap.size, 12, K)) = As) (hw : (rest.map fun v => v.category).sum ≤ 8) (hC : CI (s.heap.size, 12, K) M' (.ref 1 :: As) PW τW (fun x τ' => x = v ∧ R τ'))
    (k : ∀ (τ' : xT) (H' : Heap) (locs' : List Loc), R τ' → H'.size = s.heap.size + 82 → xH (s.heap.size, 12, K) PW τ' H' → xH (s.heap.size + 70, 0, K) PM τM H' → va_S (fun q => s.heap.size ≤ q) s.heap H' locs' → W p l e room_1 s m #[Value.ref b] below meth c H' locs' 82 1207 Q (F0 m (pc + 3) ls (.int v :: rest))) : W p l e room_1 s m #[Value.ref b] below meth c H locs 82 1207 Q (F0 m pc ls (As.reverse ++ .ref s.heap.size :: rest)) := by
  refine lV C (by omega) hS hW hls hd hm hl hin o_W_1 hcl hrm h1 h2 ⟨by decide, by decide⟩ hAs hw hC (fun r τ' H' locs' q z1 hX' f1 f2 hS' => ?_) (fun r P' τ' q => q.1)
  obtain ⟨-, x, rfl, rfl, hr⟩ := q
  exact k τ' H' locs' hr (z1.trans hz) hX' (hM.keep (by rw [z1, hz]; show s.heap.size + 82 = s.heap.size + 70 + 12 + 0; omega) (fun q h1 h2 => f2 q (by show s.heap.size + 70 ≤ q; exact h1) (by show q < s.heap.size + 70 + 12; exact h2))) hS'
theorem lWL {H : Heap} {locs : List Loc} {ls : Array Slot} {rest As : List Value} {Q : State → Prop} {τW τM : xT} {pc idx : Nat} {M' : xY} {v : Int64} {R : xT → Prop} (C : LC p s m meth c b L xs K) (hz : H.size = s.heap.size + 82) (hW : xH (s.heap.size, 12, K) PW τW H) (hM : xH (s.heap.size + 70, 0, K) PM τM H) (hS : va_S (fun q => s.heap.size ≤ q) s.heap H locs) (hls : ls.size = 4) (hd : decode code pc = .ok (.invokevirtual idx, 3)) (hm : xMt M' As.length) (hl : Cond.methodLink "WaitedPostLaw" idx M'.1 ∈ xtbl) (hin : Cond.instanceMethod M'.1 ∈ xtbl ∧ Cond.selects M'.1.cls M'.1 M'.1 ∈ xtbl) (hcl : vwCl[4]?.map (fun q => q.1) = some M'.1.cls) (hrm : M'.2.2.2.2.frames + 1 ≤ room_1.frames ∧ 8 + (M'.2.2.1 + 11) + M'.2.2.2.2.locals ≤ room_1.locals) (h1 : M'.2.2.2.2.cells = 0) (h2 : M'.2.2.2.2.slots = 0) (hAs : As.map (xup (s.heap.size, 12, K)) = As) (hw : (rest.map fun v => v.category).sum ≤ 8) (hC : CL (s.heap.size, 12, K) M' (.ref 1 :: As) PW τW (fun x τ' => x = v ∧ R τ'))
    (k : ∀ (τ' : xT) (H' : Heap) (locs' : List Loc), R τ' → H'.size = s.heap.size + 82 → xH (s.heap.size, 12, K) PW τ' H' → xH (s.heap.size + 70, 0, K) PM τM H' → va_S (fun q => s.heap.size ≤ q) s.heap H' locs' → W p l e room_1 s m #[Value.ref b] below meth c H' locs' 82 1207 Q (F0 m (pc + 3) ls (.long v :: rest))) : W p l e room_1 s m #[Value.ref b] below meth c H locs 82 1207 Q (F0 m pc ls (As.reverse ++ .ref s.heap.size :: rest)) := by
  refine lV C (by omega) hS hW hls hd hm hl hin o_W_1 hcl hrm h1 h2 ⟨by decide, by decide⟩ hAs hw hC (fun r τ' H' locs' q z1 hX' f1 f2 hS' => ?_) (fun r P' τ' q => q.1)
  obtain ⟨-, x, rfl, rfl, hr⟩ := q
  exact k τ' H' locs' hr (z1.trans hz) hX' (hM.keep (by rw [z1, hz]; show s.heap.size + 82 = s.heap.size + 70 + 12 + 0; omega) (fun q h1 h2 => f2 q (by show s.heap.size + 70 ≤ q; exact h1) (by show q < s.heap.size + 70 + 12; exact h2))) hS'
theorem lMI {H : Heap} {locs : List Loc} {ls : Array Slot} {rest As : List Value} {Q : State → Prop} {τW τM : xT} {pc idx : Nat} {M' : xY} {v : Int32} {R : xT → Prop} (C : LC p s m meth c b L xs K) (hz : H.size = s.heap.size + 82) (hW : xH (s.heap.size, 12, K) PW τW H) (hM : xH (s.heap.size + 70, 0, K) PM τM H) (hS : va_S (fun q => s.heap.size ≤ q) s.heap H locs) (hls : ls.size = 4) (hd : decode code pc = .ok (.invokevirtual idx, 3)) (hm : xMt M' As.length) (hl : Cond.methodLink "WaitedPostLaw" idx M'.1 ∈ xtbl) (hin : Cond.instanceMethod M'.1 ∈ xtbl ∧ Cond.selects M'.1.cls M'.1 M'.1 ∈ xtbl) (hcl : vwCl[5]?.map (fun q => q.1) = some M'.1.cls) (hrm : M'.2.2.2.2.frames + 1 ≤ room_1.frames ∧ 8 + (M'.2.2.1 + 11) + M'.2.2.2.2.locals ≤ room_1.locals) (h1 : M'.2.2.2.2.cells = 0) (h2 : M'.2.2.2.2.slots = 0) (hAs : As.map (xup (s.heap.size + 70, 0, K)) = As) (hw : (rest.map fun v => v.category).sum ≤ 8) (hC : CI (s.heap.size + 70, 0, K) M' (.ref 1 :: As) PM τM (fun x τ' => x = v ∧ R τ'))
    (k : ∀ (τ' : xT) (H' : Heap) (locs' : List Loc), R τ' → H'.size = s.heap.size + 82 → xH (s.heap.size, 12, K) PW τW H' → xH (s.heap.size + 70, 0, K) PM τ' H' → va_S (fun q => s.heap.size ≤ q) s.heap H' locs' → W p l e room_1 s m #[Value.ref b] below meth c H' locs' 82 1207 Q (F0 m (pc + 3) ls (.int v :: rest))) : W p l e room_1 s m #[Value.ref b] below meth c H locs 82 1207 Q (F0 m pc ls (As.reverse ++ .ref (s.heap.size + 70) :: rest)) := by
  refine lV C (by omega) hS hM hls hd hm hl hin o_M_1 hcl hrm h1 h2 ⟨by decide, by decide⟩ hAs hw hC (fun r τ' H' locs' q z1 hX' f1 f2 hS' => ?_) (fun r P' τ' q => q.1)
  obtain ⟨-, x, rfl, rfl, hr⟩ := q
  exact k τ' H' locs' hr (z1.trans hz) (hW.keep (by rw [z1, hz]; show s.heap.size + 82 = s.heap.size + 70 + 12; omega) (fun q h1 h2 => f1 q (by have h2 : q < s.heap.size + 70 := h2; omega) (by have h2 : q < s.heap.size + 70 := h2; omega))) hX' hS'
theorem lML {H : Heap} {locs : List Loc} {ls : Array Slot} {rest As : List Value} {Q : State → Prop} {τW τM : xT} {pc idx : Nat} {M' : xY} {v : Int64} {R : xT → Prop} (C : LC p s m meth c b L xs K) (hz : H.size = s.heap.size + 82) (hW : xH (s.heap.size, 12, K) PW τW H) (hM : xH (s.heap.size + 70, 0, K) PM τM H) (hS : va_S (fun q => s.heap.size ≤ q) s.heap H locs) (hls : ls.size = 4) (hd : decode code pc = .ok (.invokevirtual idx, 3)) (hm : xMt M' As.length) (hl : Cond.methodLink "WaitedPostLaw" idx M'.1 ∈ xtbl) (hin : Cond.instanceMethod M'.1 ∈ xtbl ∧ Cond.selects M'.1.cls M'.1 M'.1 ∈ xtbl) (hcl : vwCl[5]?.map (fun q => q.1) = some M'.1.cls) (hrm : M'.2.2.2.2.frames + 1 ≤ room_1.frames ∧ 8 + (M'.2.2.1 + 11) + M'.2.2.2.2.locals ≤ room_1.locals) (h1 : M'.2.2.2.2.cells = 0) (h2 : M'.2.2.2.2.slots = 0) (hAs : As.map (xup (s.heap.size + 70, 0, K)) = As) (hw : (rest.map fun v => v.category).sum ≤ 8) (hC : CL (s.heap.size + 70, 0, K) M' (.ref 1 :: As) PM τM (fun x τ' => x = v ∧ R τ'))
    (k : ∀ (τ' : xT) (H' : Heap) (locs' : List Loc), R τ' → H'.size = s.heap.size + 82 → xH (s.heap.size, 12, K) PW τW H' → xH (s.heap.size + 70, 0, K) PM τ' H' → va_S (fun q => s.heap.size ≤ q) s.heap H' locs' → W p l e room_1 s m #[Value.ref b] below meth c H' locs' 82 1207 Q (F0 m (pc + 3) ls (.long v :: rest))) : W p l e room_1 s m #[Value.ref b] below meth c H locs 82 1207 Q (F0 m pc ls (As.reverse ++ .ref (s.heap.size + 70) :: rest)) := by
  refine lV C (by omega) hS hM hls hd hm hl hin o_M_1 hcl hrm h1 h2 ⟨by decide, by decide⟩ hAs hw hC (fun r τ' H' locs' q z1 hX' f1 f2 hS' => ?_) (fun r P' τ' q => q.1)
  obtain ⟨-, x, rfl, rfl, hr⟩ := q
  exact k τ' H' locs' hr (z1.trans hz) (hW.keep (by rw [z1, hz]; show s.heap.size + 82 = s.heap.size + 70 + 12; omega) (fun q h1 h2 => f1 q (by have h2 : q < s.heap.size + 70 := h2; omega) (by have h2 : q < s.heap.size + 70 := h2; omega))) hX' hS'
/-- at this place of the law, with i ints read, n calls made, both sides in the state S -/
def LI (p : Program) (l : Launch) (e : Env) (s : State) (m : MethodId) (below : List Frame) (meth : Method) (c : Code) (b : Nat) (K : Nat × va_G × ClassId × ClassId × ClassId × ClassId) (pc i n : Nat) (S : SA) : Prop :=
  ∀ (H : Heap) (locs : List Loc) (ls : Array Slot) (τW τM : xT), H.size = s.heap.size + 82 → xH (s.heap.size, 12, K) PW τW H → xH (s.heap.size + 70, 0, K) PM τM H → va_S (fun q => s.heap.size ≤ q) s.heap H locs → RW τW n S → RM τM n S → lv_has ls 4 [(3, .int (nI i)), (0, .ref b), (1, .ref s.heap.size), (2, .ref (s.heap.size + 70))] → W p l e room_1 s m #[Value.ref b] below meth c H locs 82 1207 (lw_Z below #[Value.ref b] s) (F0 m pc ls [])
set_option maxHeartbeats 4000000
set_option maxRecDepth 100000
theorem lk_write (C : LC p s m meth c b L xs K) (hL : L ≤ 320) {i n : Nat} {S : SA} (hi : i + 5 ≤ L) (hn : n < 3000) (nxt : ∀ S' : SA, LI p l e s m below meth c b K 909 i (n + 1) S') : LI p l e s m below meth c b K 152 i n S := by
  intro H locs ls τW τM hz hW hM hS hRW hRM hl
  obtain ⟨hx, hb, hr, hml, hown, hts, hX, hbl, hlocks, hK⟩ := id C
  have hP := hRM.1.2.2.1
  have ho := hRM.1.2.2.2.1
  have hMT := hRM.2.2.2.1
  have hMS := hRM.2.2.2.2.1
  refine lv_aload_n hx hb dL_law_152 rfl (lv_at hl 2 rfl) ?_
  refine lsl (pc := 153) (k := 1) C hL (by omega) hl hS (by decide) dL_law_153 dL_law_154 dL_law_155 dL_law_156 dL_law_157 ?_
  refine lWI (As := [.int (xs (i + 1))]) (rest := []) (v := (writeA S (xs (i + 1))).1) (R := fun τ' => RW τ' (n + 1) (writeA S (xs (i + 1))).2) C hz hW hM hS hl.1 dL_law_158 k_X4_write l_L_13 v_X4_write rfl ⟨by decide, by decide⟩ rfl rfl rfl (Nat.le_of_ble_eq_true rfl) (c_write _ τW hRW (xs (i + 1))) (fun τW2 H2 locs2 hRW2 hz2 hW2 hM2 hS2 => ?_)
  refine lv_aload_n hx hb dL_law_161 rfl (lv_at hl 3 rfl) ?_
  refine lsl (pc := 162) (k := 1) C hL (by omega) hl hS2 (by decide) dL_law_162 dL_law_163 dL_law_164 dL_law_165 dL_law_166 ?_
  refine lMI (As := [.int (xs (i + 1))]) (rest := [.int _]) (v := (writeA S (xs (i + 1))).1) (R := fun τ' => RM τ' (n + 1) (writeA S (xs (i + 1))).2) C hz2 hW2 hM2 hS2 hl.1 dL_law_167 k_X5_write l_L_17 v_X5_write rfl ⟨by decide, by decide⟩ rfl rfl rfl (Nat.le_of_ble_eq_true rfl) (d_write _ τM hRM (xs (i + 1))) (fun τM3 H3 locs3 hRM3 hz3 hW3 hM3 hS3 => ?_)
  refine lv_icmp_eq (tgt := 909) hx hb dL_law_170 (by decide) (fun _ => ?_) (fun q => absurd rfl q)
  exact nxt _ H3 locs3 ls τW2 τM3 hz3 hW3 hM3 hS3 hRW2 hRM3 hl
theorem lk_wipe (C : LC p s m meth c b L xs K) (hL : L ≤ 320) {i n : Nat} {S : SA} (hi : i + 5 ≤ L) (hn : n < 3000) (nxt : ∀ S' : SA, LI p l e s m below meth c b K 909 i (n + 1) S') : LI p l e s m below meth c b K 175 i n S := by
  intro H locs ls τW τM hz hW hM hS hRW hRM hl
  obtain ⟨hx, hb, hr, hml, hown, hts, hX, hbl, hlocks, hK⟩ := id C
  have hP := hRM.1.2.2.1
  have ho := hRM.1.2.2.2.1
  have hMT := hRM.2.2.2.1
  have hMS := hRM.2.2.2.2.1
  refine lv_aload_n hx hb dL_law_175 rfl (lv_at hl 2 rfl) ?_
  refine lWI (As := []) (rest := []) (v := (wipeA S).1) (R := fun τ' => RW τ' (n + 1) (wipeA S).2) C hz hW hM hS hl.1 dL_law_176 k_X4_wipe l_L_18 v_X4_wipe rfl ⟨by decide, by decide⟩ rfl rfl rfl (Nat.le_of_ble_eq_true rfl) (c_wipe _ τW hRW ) (fun τW2 H2 locs2 hRW2 hz2 hW2 hM2 hS2 => ?_)
  refine lv_aload_n hx hb dL_law_179 rfl (lv_at hl 3 rfl) ?_
  refine lMI (As := []) (rest := [.int _]) (v := (wipeA S).1) (R := fun τ' => RM τ' (n + 1) (wipeA S).2) C hz2 hW2 hM2 hS2 hl.1 dL_law_180 k_X5_wipe l_L_22 v_X5_wipe rfl ⟨by decide, by decide⟩ rfl rfl rfl (Nat.le_of_ble_eq_true rfl) (d_wipe _ τM hRM ) (fun τM3 H3 locs3 hRM3 hz3 hW3 hM3 hS3 => ?_)
  refine lv_icmp_eq (tgt := 909) hx hb dL_law_183 (by decide) (fun _ => ?_) (fun q => absurd rfl q)
  exact nxt _ H3 locs3 ls τW2 τM3 hz3 hW3 hM3 hS3 hRW2 hRM3 hl
theorem lk_fault (C : LC p s m meth c b L xs K) (hL : L ≤ 320) {i n : Nat} {S : SA} (hi : i + 5 ≤ L) (hn : n < 3000) (nxt : ∀ S' : SA, LI p l e s m below meth c b K 909 i (n + 1) S') : LI p l e s m below meth c b K 188 i n S := by
  intro H locs ls τW τM hz hW hM hS hRW hRM hl
  obtain ⟨hx, hb, hr, hml, hown, hts, hX, hbl, hlocks, hK⟩ := id C
  have hP := hRM.1.2.2.1
  have ho := hRM.1.2.2.2.1
  have hMT := hRM.2.2.2.1
  have hMS := hRM.2.2.2.2.1
  refine lv_aload_n hx hb dL_law_188 rfl (lv_at hl 2 rfl) ?_
  refine lWI (As := []) (rest := []) (v := (faultF (aT S) (aL S))) (R := fun τ' => RW τ' (n + 1) S) C hz hW hM hS hl.1 dL_law_189 k_X4_fault l_L_23 v_X4_fault rfl ⟨by decide, by decide⟩ rfl rfl rfl (Nat.le_of_ble_eq_true rfl) (c_fault _ τW hRW ) (fun τW2 H2 locs2 hRW2 hz2 hW2 hM2 hS2 => ?_)
  refine lv_aload_n hx hb dL_law_192 rfl (lv_at hl 3 rfl) ?_
  refine lMI (As := []) (rest := [.int _]) (v := (faultF (aT S) (aL S))) (R := fun τ' => RM τ' (n + 1) S) C hz2 hW2 hM2 hS2 hl.1 dL_law_193 k_X5_fault l_L_26 v_X5_fault rfl ⟨by decide, by decide⟩ rfl rfl rfl (Nat.le_of_ble_eq_true rfl) (d_fault _ τM hRM ) (fun τM3 H3 locs3 hRM3 hz3 hW3 hM3 hS3 => ?_)
  refine lv_icmp_eq (tgt := 909) hx hb dL_law_196 (by decide) (fun _ => ?_) (fun q => absurd rfl q)
  exact nxt _ H3 locs3 ls τW2 τM3 hz3 hW3 hM3 hS3 hRW2 hRM3 hl
theorem lk_post (C : LC p s m meth c b L xs K) (hL : L ≤ 320) {i n : Nat} {S : SA} (hi : i + 5 ≤ L) (hn : n < 3000) (nxt : ∀ S' : SA, LI p l e s m below meth c b K 909 i (n + 1) S') : LI p l e s m below meth c b K 201 i n S := by
  intro H locs ls τW τM hz hW hM hS hRW hRM hl
  obtain ⟨hx, hb, hr, hml, hown, hts, hX, hbl, hlocks, hK⟩ := id C
  have hP := hRM.1.2.2.1
  have ho := hRM.1.2.2.2.1
  have hMT := hRM.2.2.2.1
  have hMS := hRM.2.2.2.2.1
  refine lv_aload_n hx hb dL_law_201 rfl (lv_at hl 2 rfl) ?_
  refine lWI (As := []) (rest := []) (v := (postA S).1) (R := fun τ' => RW τ' (n + 1) (postA S).2) C hz hW hM hS hl.1 dL_law_202 k_X4_post l_L_27 v_X4_post rfl ⟨by decide, by decide⟩ rfl rfl rfl (Nat.le_of_ble_eq_true rfl) (c_post _ τW hRW ) (fun τW2 H2 locs2 hRW2 hz2 hW2 hM2 hS2 => ?_)
  refine lv_aload_n hx hb dL_law_205 rfl (lv_at hl 3 rfl) ?_
  refine lMI (As := []) (rest := [.int _]) (v := (postA S).1) (R := fun τ' => RM τ' (n + 1) (postA S).2) C hz2 hW2 hM2 hS2 hl.1 dL_law_206 k_X5_post l_L_30 v_X5_post rfl ⟨by decide, by decide⟩ rfl rfl rfl (Nat.le_of_ble_eq_true rfl) (d_post _ τM hRM ) (fun τM3 H3 locs3 hRM3 hz3 hW3 hM3 hS3 => ?_)
  refine lv_icmp_eq (tgt := 909) hx hb dL_law_209 (by decide) (fun _ => ?_) (fun q => absurd rfl q)
  exact nxt _ H3 locs3 ls τW2 τM3 hz3 hW3 hM3 hS3 hRW2 hRM3 hl
theorem lk_letter (C : LC p s m meth c b L xs K) (hL : L ≤ 320) {i n : Nat} {S : SA} (hi : i + 5 ≤ L) (hn : n < 3000) (nxt : ∀ S' : SA, LI p l e s m below meth c b K 909 i (n + 1) S') : LI p l e s m below meth c b K 214 i n S := by
  intro H locs ls τW τM hz hW hM hS hRW hRM hl
  obtain ⟨hx, hb, hr, hml, hown, hts, hX, hbl, hlocks, hK⟩ := id C
  have hP := hRM.1.2.2.1
  have ho := hRM.1.2.2.2.1
  have hMT := hRM.2.2.2.1
  have hMS := hRM.2.2.2.2.1
  refine lv_aload_n hx hb dL_law_214 rfl (lv_at hl 2 rfl) ?_
  refine lsl (pc := 215) (k := 1) C hL (by omega) hl hS (by decide) dL_law_215 dL_law_216 dL_law_217 dL_law_218 dL_law_219 ?_
  refine lsl (pc := 220) (k := 2) C hL (by omega) hl hS (by decide) dL_law_220 dL_law_221 dL_law_222 dL_law_223 dL_law_224 ?_
  refine lWI (As := [.int (xs (i + 1)), .int (xs (i + 2))]) (rest := []) (v := (letterF (aP S) (aS S) (xs (i + 1)) (xs (i + 2)))) (R := fun τ' => RW τ' (n + 1) S) C hz hW hM hS hl.1 dL_law_225 k_X4_letter l_L_31 v_X4_letter rfl ⟨by decide, by decide⟩ rfl rfl rfl (Nat.le_of_ble_eq_true rfl) (CIw (c_letter _ τW (hRW.q (by omega)) (xs (i + 1)) (xs (i + 2))) (fun x τ' q => ⟨q.2, by rw [q.1]; exact hRW.mono (Nat.le_succ n)⟩)) (fun τW2 H2 locs2 hRW2 hz2 hW2 hM2 hS2 => ?_)
  refine lv_aload_n hx hb dL_law_228 rfl (lv_at hl 3 rfl) ?_
  refine lsl (pc := 229) (k := 1) C hL (by omega) hl hS2 (by decide) dL_law_229 dL_law_230 dL_law_231 dL_law_232 dL_law_233 ?_
  refine lsl (pc := 234) (k := 2) C hL (by omega) hl hS2 (by decide) dL_law_234 dL_law_235 dL_law_236 dL_law_237 dL_law_238 ?_
  refine lMI (As := [.int (xs (i + 1)), .int (xs (i + 2))]) (rest := [.int _]) (v := (letterF (aP S) (aS S) (xs (i + 1)) (xs (i + 2)))) (R := fun τ' => RM τ' (n + 1) S) C hz2 hW2 hM2 hS2 hl.1 dL_law_239 k_X5_letter l_L_35 v_X5_letter rfl ⟨by decide, by decide⟩ rfl rfl rfl (Nat.le_of_ble_eq_true rfl) (CIw (d_letter _ τM hP hMT hMS ho (by omega) (xs (i + 1)) (xs (i + 2))) (fun x τ' q => ⟨q.2, by rw [q.1]; exact hRM.mono (Nat.le_succ n)⟩)) (fun τM3 H3 locs3 hRM3 hz3 hW3 hM3 hS3 => ?_)
  refine lv_icmp_eq (tgt := 909) hx hb dL_law_242 (by decide) (fun _ => ?_) (fun q => absurd rfl q)
  exact nxt _ H3 locs3 ls τW2 τM3 hz3 hW3 hM3 hS3 hRW2 hRM3 hl
theorem lk_send (C : LC p s m meth c b L xs K) (hL : L ≤ 320) {i n : Nat} {S : SA} (hi : i + 5 ≤ L) (hn : n < 3000) (nxt : ∀ S' : SA, LI p l e s m below meth c b K 909 i (n + 1) S') : LI p l e s m below meth c b K 247 i n S := by
  intro H locs ls τW τM hz hW hM hS hRW hRM hl
  obtain ⟨hx, hb, hr, hml, hown, hts, hX, hbl, hlocks, hK⟩ := id C
  have hP := hRM.1.2.2.1
  have ho := hRM.1.2.2.2.1
  have hMT := hRM.2.2.2.1
  have hMS := hRM.2.2.2.2.1
  refine lv_aload_n hx hb dL_law_247 rfl (lv_at hl 2 rfl) ?_
  refine lsl (pc := 248) (k := 1) C hL (by omega) hl hS (by decide) dL_law_248 dL_law_249 dL_law_250 dL_law_251 dL_law_252 ?_
  refine lWI (As := [.int (xs (i + 1))]) (rest := []) (v := (sendA S (xs (i + 1))).1) (R := fun τ' => RW τ' (n + 1) (sendA S (xs (i + 1))).2) C hz hW hM hS hl.1 dL_law_253 k_X4_send l_L_36 v_X4_send rfl ⟨by decide, by decide⟩ rfl rfl rfl (Nat.le_of_ble_eq_true rfl) (c_send _ τW hRW (by omega) (xs (i + 1))) (fun τW2 H2 locs2 hRW2 hz2 hW2 hM2 hS2 => ?_)
  refine lv_aload_n hx hb dL_law_256 rfl (lv_at hl 3 rfl) ?_
  refine lsl (pc := 257) (k := 1) C hL (by omega) hl hS2 (by decide) dL_law_257 dL_law_258 dL_law_259 dL_law_260 dL_law_261 ?_
  refine lMI (As := [.int (xs (i + 1))]) (rest := [.int _]) (v := (sendA S (xs (i + 1))).1) (R := fun τ' => RM τ' (n + 1) (sendA S (xs (i + 1))).2) C hz2 hW2 hM2 hS2 hl.1 dL_law_262 k_X5_send l_L_39 v_X5_send rfl ⟨by decide, by decide⟩ rfl rfl rfl (Nat.le_of_ble_eq_true rfl) (d_send _ τM hRM (by omega) (xs (i + 1))) (fun τM3 H3 locs3 hRM3 hz3 hW3 hM3 hS3 => ?_)
  refine lv_icmp_eq (tgt := 909) hx hb dL_law_265 (by decide) (fun _ => ?_) (fun q => absurd rfl q)
  exact nxt _ H3 locs3 ls τW2 τM3 hz3 hW3 hM3 hS3 hRW2 hRM3 hl
theorem lk_day (C : LC p s m meth c b L xs K) (hL : L ≤ 320) {i n : Nat} {S : SA} (hi : i + 5 ≤ L) (hn : n < 3000) (nxt : ∀ S' : SA, LI p l e s m below meth c b K 909 i (n + 1) S') : LI p l e s m below meth c b K 270 i n S := by
  intro H locs ls τW τM hz hW hM hS hRW hRM hl
  obtain ⟨hx, hb, hr, hml, hown, hts, hX, hbl, hlocks, hK⟩ := id C
  have hP := hRM.1.2.2.1
  have ho := hRM.1.2.2.2.1
  have hMT := hRM.2.2.2.1
  have hMS := hRM.2.2.2.2.1
  refine lv_aload_n hx hb dL_law_270 rfl (lv_at hl 2 rfl) ?_
  refine lWI (As := []) (rest := []) (v := (dayA S).1) (R := fun τ' => RW τ' (n + 1) (dayA S).2) C hz hW hM hS hl.1 dL_law_271 k_X4_day l_L_40 v_X4_day rfl ⟨by decide, by decide⟩ rfl rfl rfl (Nat.le_of_ble_eq_true rfl) (c_day _ τW hRW (by omega) ) (fun τW2 H2 locs2 hRW2 hz2 hW2 hM2 hS2 => ?_)
  refine lv_aload_n hx hb dL_law_274 rfl (lv_at hl 3 rfl) ?_
  refine lMI (As := []) (rest := [.int _]) (v := (dayA S).1) (R := fun τ' => RM τ' (n + 1) (dayA S).2) C hz2 hW2 hM2 hS2 hl.1 dL_law_275 k_X5_day l_L_43 v_X5_day rfl ⟨by decide, by decide⟩ rfl rfl rfl (Nat.le_of_ble_eq_true rfl) (d_day _ τM hRM (by omega) ) (fun τM3 H3 locs3 hRM3 hz3 hW3 hM3 hS3 => ?_)
  refine lv_icmp_eq (tgt := 909) hx hb dL_law_278 (by decide) (fun _ => ?_) (fun q => absurd rfl q)
  exact nxt _ H3 locs3 ls τW2 τM3 hz3 hW3 hM3 hS3 hRW2 hRM3 hl
theorem lk_tear (C : LC p s m meth c b L xs K) (hL : L ≤ 320) {i n : Nat} {S : SA} (hi : i + 5 ≤ L) (hn : n < 3000) (nxt : ∀ S' : SA, LI p l e s m below meth c b K 909 i (n + 1) S') : LI p l e s m below meth c b K 283 i n S := by
  intro H locs ls τW τM hz hW hM hS hRW hRM hl
  obtain ⟨hx, hb, hr, hml, hown, hts, hX, hbl, hlocks, hK⟩ := id C
  have hP := hRM.1.2.2.1
  have ho := hRM.1.2.2.2.1
  have hMT := hRM.2.2.2.1
  have hMS := hRM.2.2.2.2.1
  refine lv_aload_n hx hb dL_law_283 rfl (lv_at hl 2 rfl) ?_
  refine lsl (pc := 284) (k := 1) C hL (by omega) hl hS (by decide) dL_law_284 dL_law_285 dL_law_286 dL_law_287 dL_law_288 ?_
  refine lWI (As := [.int (xs (i + 1))]) (rest := []) (v := (tearA S (xs (i + 1))).1) (R := fun τ' => RW τ' (n + 1) (tearA S (xs (i + 1))).2) C hz hW hM hS hl.1 dL_law_289 k_X4_tear l_L_44 v_X4_tear rfl ⟨by decide, by decide⟩ rfl rfl rfl (Nat.le_of_ble_eq_true rfl) (c_tear _ τW hRW (by omega) (xs (i + 1))) (fun τW2 H2 locs2 hRW2 hz2 hW2 hM2 hS2 => ?_)
  refine lv_aload_n hx hb dL_law_292 rfl (lv_at hl 3 rfl) ?_
  refine lsl (pc := 293) (k := 1) C hL (by omega) hl hS2 (by decide) dL_law_293 dL_law_294 dL_law_295 dL_law_296 dL_law_297 ?_
  refine lMI (As := [.int (xs (i + 1))]) (rest := [.int _]) (v := (tearA S (xs (i + 1))).1) (R := fun τ' => RM τ' (n + 1) (tearA S (xs (i + 1))).2) C hz2 hW2 hM2 hS2 hl.1 dL_law_298 k_X5_tear l_L_47 v_X5_tear rfl ⟨by decide, by decide⟩ rfl rfl rfl (Nat.le_of_ble_eq_true rfl) (d_tear _ τM hRM (by omega) (xs (i + 1))) (fun τM3 H3 locs3 hRM3 hz3 hW3 hM3 hS3 => ?_)
  refine lv_icmp_eq (tgt := 909) hx hb dL_law_301 (by decide) (fun _ => ?_) (fun q => absurd rfl q)
  exact nxt _ H3 locs3 ls τW2 τM3 hz3 hW3 hM3 hS3 hRW2 hRM3 hl
theorem lk_card (C : LC p s m meth c b L xs K) (hL : L ≤ 320) {i n : Nat} {S : SA} (hi : i + 5 ≤ L) (hn : n < 3000) (nxt : ∀ S' : SA, LI p l e s m below meth c b K 909 i (n + 1) S') : LI p l e s m below meth c b K 306 i n S := by
  intro H locs ls τW τM hz hW hM hS hRW hRM hl
  obtain ⟨hx, hb, hr, hml, hown, hts, hX, hbl, hlocks, hK⟩ := id C
  have hP := hRM.1.2.2.1
  have ho := hRM.1.2.2.2.1
  have hMT := hRM.2.2.2.1
  have hMS := hRM.2.2.2.2.1
  refine lv_aload_n hx hb dL_law_306 rfl (lv_at hl 2 rfl) ?_
  refine lsl (pc := 307) (k := 1) C hL (by omega) hl hS (by decide) dL_law_307 dL_law_308 dL_law_309 dL_law_310 dL_law_311 ?_
  refine lWI (As := [.int (xs (i + 1))]) (rest := []) (v := (cardA S (xs (i + 1))).1) (R := fun τ' => RW τ' (n + 1) (cardA S (xs (i + 1))).2) C hz hW hM hS hl.1 dL_law_312 k_X4_card l_L_48 v_X4_card rfl ⟨by decide, by decide⟩ rfl rfl rfl (Nat.le_of_ble_eq_true rfl) (c_card _ τW hRW (by omega) (xs (i + 1))) (fun τW2 H2 locs2 hRW2 hz2 hW2 hM2 hS2 => ?_)
  refine lv_aload_n hx hb dL_law_315 rfl (lv_at hl 3 rfl) ?_
  refine lsl (pc := 316) (k := 1) C hL (by omega) hl hS2 (by decide) dL_law_316 dL_law_317 dL_law_318 dL_law_319 dL_law_320 ?_
  refine lMI (As := [.int (xs (i + 1))]) (rest := [.int _]) (v := (cardA S (xs (i + 1))).1) (R := fun τ' => RM τ' (n + 1) (cardA S (xs (i + 1))).2) C hz2 hW2 hM2 hS2 hl.1 dL_law_321 k_X5_card l_L_51 v_X5_card rfl ⟨by decide, by decide⟩ rfl rfl rfl (Nat.le_of_ble_eq_true rfl) (d_card _ τM hRM (by omega) (xs (i + 1))) (fun τM3 H3 locs3 hRM3 hz3 hW3 hM3 hS3 => ?_)
  refine lv_icmp_eq (tgt := 909) hx hb dL_law_324 (by decide) (fun _ => ?_) (fun q => absurd rfl q)
  exact nxt _ H3 locs3 ls τW2 τM3 hz3 hW3 hM3 hS3 hRW2 hRM3 hl
theorem lk_undo (C : LC p s m meth c b L xs K) (hL : L ≤ 320) {i n : Nat} {S : SA} (hi : i + 5 ≤ L) (hn : n < 3000) (nxt : ∀ S' : SA, LI p l e s m below meth c b K 909 i (n + 1) S') : LI p l e s m below meth c b K 329 i n S := by
  intro H locs ls τW τM hz hW hM hS hRW hRM hl
  obtain ⟨hx, hb, hr, hml, hown, hts, hX, hbl, hlocks, hK⟩ := id C
  have hP := hRM.1.2.2.1
  have ho := hRM.1.2.2.2.1
  have hMT := hRM.2.2.2.1
  have hMS := hRM.2.2.2.2.1
  refine lv_aload_n hx hb dL_law_329 rfl (lv_at hl 2 rfl) ?_
  refine lWI (As := []) (rest := []) (v := (undoA S).1) (R := fun τ' => RW τ' (n + 1) (undoA S).2) C hz hW hM hS hl.1 dL_law_330 k_X4_undo l_L_52 v_X4_undo rfl ⟨by decide, by decide⟩ rfl rfl rfl (Nat.le_of_ble_eq_true rfl) (c_undo _ τW hRW (by omega) ) (fun τW2 H2 locs2 hRW2 hz2 hW2 hM2 hS2 => ?_)
  refine lv_aload_n hx hb dL_law_333 rfl (lv_at hl 3 rfl) ?_
  refine lMI (As := []) (rest := [.int _]) (v := (undoA S).1) (R := fun τ' => RM τ' (n + 1) (undoA S).2) C hz2 hW2 hM2 hS2 hl.1 dL_law_334 k_X5_undo l_L_55 v_X5_undo rfl ⟨by decide, by decide⟩ rfl rfl rfl (Nat.le_of_ble_eq_true rfl) (d_undo _ τM hRM (by omega) ) (fun τM3 H3 locs3 hRM3 hz3 hW3 hM3 hS3 => ?_)
  refine lv_icmp_eq (tgt := 909) hx hb dL_law_337 (by decide) (fun _ => ?_) (fun q => absurd rfl q)
  exact nxt _ H3 locs3 ls τW2 τM3 hz3 hW3 hM3 hS3 hRW2 hRM3 hl
theorem lk_price (C : LC p s m meth c b L xs K) (hL : L ≤ 320) {i n : Nat} {S : SA} (hi : i + 5 ≤ L) (hn : n < 3000) (nxt : ∀ S' : SA, LI p l e s m below meth c b K 909 i (n + 1) S') : LI p l e s m below meth c b K 342 i n S := by
  intro H locs ls τW τM hz hW hM hS hRW hRM hl
  obtain ⟨hx, hb, hr, hml, hown, hts, hX, hbl, hlocks, hK⟩ := id C
  have hP := hRM.1.2.2.1
  have ho := hRM.1.2.2.2.1
  have hMT := hRM.2.2.2.1
  have hMS := hRM.2.2.2.2.1
  refine lv_aload_n hx hb dL_law_342 rfl (lv_at hl 2 rfl) ?_
  refine lsl (pc := 343) (k := 1) C hL (by omega) hl hS (by decide) dL_law_343 dL_law_344 dL_law_345 dL_law_346 dL_law_347 ?_
  refine lsl (pc := 348) (k := 2) C hL (by omega) hl hS (by decide) dL_law_348 dL_law_349 dL_law_350 dL_law_351 dL_law_352 ?_
  refine lWI (As := [.int (xs (i + 1)), .int (xs (i + 2))]) (rest := []) (v := (priceF (aP S) (aS S) (xs (i + 1)) (xs (i + 2)))) (R := fun τ' => RW τ' (n + 1) S) C hz hW hM hS hl.1 dL_law_353 k_X4_price l_L_56 v_X4_price rfl ⟨by decide, by decide⟩ rfl rfl rfl (Nat.le_of_ble_eq_true rfl) (CIw (c_price _ τW (hRW.q (by omega)) (xs (i + 1)) (xs (i + 2))) (fun x τ' q => ⟨q.2, by rw [q.1]; exact hRW.mono (Nat.le_succ n)⟩)) (fun τW2 H2 locs2 hRW2 hz2 hW2 hM2 hS2 => ?_)
  refine lv_aload_n hx hb dL_law_356 rfl (lv_at hl 3 rfl) ?_
  refine lsl (pc := 357) (k := 1) C hL (by omega) hl hS2 (by decide) dL_law_357 dL_law_358 dL_law_359 dL_law_360 dL_law_361 ?_
  refine lsl (pc := 362) (k := 2) C hL (by omega) hl hS2 (by decide) dL_law_362 dL_law_363 dL_law_364 dL_law_365 dL_law_366 ?_
  refine lMI (As := [.int (xs (i + 1)), .int (xs (i + 2))]) (rest := [.int _]) (v := (priceF (aP S) (aS S) (xs (i + 1)) (xs (i + 2)))) (R := fun τ' => RM τ' (n + 1) S) C hz2 hW2 hM2 hS2 hl.1 dL_law_367 k_X5_price l_L_59 v_X5_price rfl ⟨by decide, by decide⟩ rfl rfl rfl (Nat.le_of_ble_eq_true rfl) (CIw (d_price _ τM hP hMT hMS ho (by omega) (xs (i + 1)) (xs (i + 2))) (fun x τ' q => ⟨q.1, (hRM.scr q.2).mono (Nat.le_succ n)⟩)) (fun τM3 H3 locs3 hRM3 hz3 hW3 hM3 hS3 => ?_)
  refine lv_icmp_eq (tgt := 909) hx hb dL_law_370 (by decide) (fun _ => ?_) (fun q => absurd rfl q)
  exact nxt _ H3 locs3 ls τW2 τM3 hz3 hW3 hM3 hS3 hRW2 hRM3 hl
theorem lk_cheapest (C : LC p s m meth c b L xs K) (hL : L ≤ 320) {i n : Nat} {S : SA} (hi : i + 5 ≤ L) (hn : n < 3000) (nxt : ∀ S' : SA, LI p l e s m below meth c b K 909 i (n + 1) S') : LI p l e s m below meth c b K 375 i n S := by
  intro H locs ls τW τM hz hW hM hS hRW hRM hl
  obtain ⟨hx, hb, hr, hml, hown, hts, hX, hbl, hlocks, hK⟩ := id C
  have hP := hRM.1.2.2.1
  have ho := hRM.1.2.2.2.1
  have hMT := hRM.2.2.2.1
  have hMS := hRM.2.2.2.2.1
  refine lv_aload_n hx hb dL_law_375 rfl (lv_at hl 2 rfl) ?_
  refine lsl (pc := 376) (k := 1) C hL (by omega) hl hS (by decide) dL_law_376 dL_law_377 dL_law_378 dL_law_379 dL_law_380 ?_
  refine lWI (As := [.int (xs (i + 1))]) (rest := []) (v := (cheapF (aP S) (aS S) (xs (i + 1)))) (R := fun τ' => RW τ' (n + 1) S) C hz hW hM hS hl.1 dL_law_381 k_X4_cheapest l_L_60 v_X4_cheapest rfl ⟨by decide, by decide⟩ rfl rfl rfl (Nat.le_of_ble_eq_true rfl) (CIw (c_cheapest _ τW (hRW.q (by omega)) (xs (i + 1))) (fun x τ' q => ⟨q.2, by rw [q.1]; exact hRW.mono (Nat.le_succ n)⟩)) (fun τW2 H2 locs2 hRW2 hz2 hW2 hM2 hS2 => ?_)
  refine lv_aload_n hx hb dL_law_384 rfl (lv_at hl 3 rfl) ?_
  refine lsl (pc := 385) (k := 1) C hL (by omega) hl hS2 (by decide) dL_law_385 dL_law_386 dL_law_387 dL_law_388 dL_law_389 ?_
  refine lMI (As := [.int (xs (i + 1))]) (rest := [.int _]) (v := (cheapF (aP S) (aS S) (xs (i + 1)))) (R := fun τ' => RM τ' (n + 1) S) C hz2 hW2 hM2 hS2 hl.1 dL_law_390 k_X5_cheapest l_L_63 v_X5_cheapest rfl ⟨by decide, by decide⟩ rfl rfl rfl (Nat.le_of_ble_eq_true rfl) (CIw (d_cheapest _ τM hP hMT hMS ho (by omega) (xs (i + 1))) (fun x τ' q => ⟨q.1, (hRM.scr q.2).mono (Nat.le_succ n)⟩)) (fun τM3 H3 locs3 hRM3 hz3 hW3 hM3 hS3 => ?_)
  refine lv_icmp_eq (tgt := 909) hx hb dL_law_393 (by decide) (fun _ => ?_) (fun q => absurd rfl q)
  exact nxt _ H3 locs3 ls τW2 τM3 hz3 hW3 hM3 hS3 hRW2 hRM3 hl
theorem lk_plan (C : LC p s m meth c b L xs K) (hL : L ≤ 320) {i n : Nat} {S : SA} (hi : i + 5 ≤ L) (hn : n < 3000) (nxt : ∀ S' : SA, LI p l e s m below meth c b K 909 i (n + 1) S') : LI p l e s m below meth c b K 398 i n S := by
  intro H locs ls τW τM hz hW hM hS hRW hRM hl
  obtain ⟨hx, hb, hr, hml, hown, hts, hX, hbl, hlocks, hK⟩ := id C
  have hP := hRM.1.2.2.1
  have ho := hRM.1.2.2.2.1
  have hMT := hRM.2.2.2.1
  have hMS := hRM.2.2.2.2.1
  refine lv_aload_n hx hb dL_law_398 rfl (lv_at hl 2 rfl) ?_
  refine lsl (pc := 399) (k := 1) C hL (by omega) hl hS (by decide) dL_law_399 dL_law_400 dL_law_401 dL_law_402 dL_law_403 ?_
  refine lsl (pc := 404) (k := 2) C hL (by omega) hl hS (by decide) dL_law_404 dL_law_405 dL_law_406 dL_law_407 dL_law_408 ?_
  refine lsb (pc := 409) C dL_law_409 dL_law_412 dL_law_413 dL_law_416 ?_
  refine lWI (As := [.int (xs (i + 1)), .int (zI (¬ (xs (i + 2)) = 0))]) (rest := []) (v := (planF (aP S) (aS S) (xs (i + 1)) (¬ (xs (i + 2)) = 0))) (R := fun τ' => RW τ' (n + 1) S) C hz hW hM hS hl.1 dL_law_417 k_X4_plan l_L_64 v_X4_plan rfl ⟨by decide, by decide⟩ rfl rfl rfl (Nat.le_of_ble_eq_true rfl) (c_plan _ τW hRW (by omega) (xs (i + 1)) (¬ (xs (i + 2)) = 0)) (fun τW2 H2 locs2 hRW2 hz2 hW2 hM2 hS2 => ?_)
  refine lv_aload_n hx hb dL_law_420 rfl (lv_at hl 3 rfl) ?_
  refine lsl (pc := 421) (k := 1) C hL (by omega) hl hS2 (by decide) dL_law_421 dL_law_422 dL_law_423 dL_law_424 dL_law_425 ?_
  refine lsl (pc := 426) (k := 2) C hL (by omega) hl hS2 (by decide) dL_law_426 dL_law_427 dL_law_428 dL_law_429 dL_law_430 ?_
  refine lsb (pc := 431) C dL_law_431 dL_law_434 dL_law_435 dL_law_438 ?_
  refine lMI (As := [.int (xs (i + 1)), .int (zI (¬ (xs (i + 2)) = 0))]) (rest := [.int _]) (v := (planF (aP S) (aS S) (xs (i + 1)) (¬ (xs (i + 2)) = 0))) (R := fun τ' => RM τ' (n + 1) S) C hz2 hW2 hM2 hS2 hl.1 dL_law_439 k_X5_plan l_L_68 v_X5_plan rfl ⟨by decide, by decide⟩ rfl rfl rfl (Nat.le_of_ble_eq_true rfl) (d_plan _ τM hRM (by omega) (xs (i + 1)) (¬ (xs (i + 2)) = 0)) (fun τM3 H3 locs3 hRM3 hz3 hW3 hM3 hS3 => ?_)
  refine lv_icmp_eq (tgt := 909) hx hb dL_law_442 (by decide) (fun _ => ?_) (fun q => absurd rfl q)
  exact nxt _ H3 locs3 ls τW2 τM3 hz3 hW3 hM3 hS3 hRW2 hRM3 hl
theorem lk_order (C : LC p s m meth c b L xs K) (hL : L ≤ 320) {i n : Nat} {S : SA} (hi : i + 5 ≤ L) (hn : n < 3000) (nxt : ∀ S' : SA, LI p l e s m below meth c b K 909 i (n + 1) S') : LI p l e s m below meth c b K 447 i n S := by
  intro H locs ls τW τM hz hW hM hS hRW hRM hl
  obtain ⟨hx, hb, hr, hml, hown, hts, hX, hbl, hlocks, hK⟩ := id C
  have hP := hRM.1.2.2.1
  have ho := hRM.1.2.2.2.1
  have hMT := hRM.2.2.2.1
  have hMS := hRM.2.2.2.2.1
  refine lv_aload_n hx hb dL_law_447 rfl (lv_at hl 2 rfl) ?_
  refine lWI (As := []) (rest := []) (v := (orderF (aP S) (aS S))) (R := fun τ' => RW τ' (n + 1) S) C hz hW hM hS hl.1 dL_law_448 k_X4_order l_L_69 v_X4_order rfl ⟨by decide, by decide⟩ rfl rfl rfl (Nat.le_of_ble_eq_true rfl) (CIw (c_order _ τW (hRW.q (by omega)) ) (fun x τ' q => ⟨q.2, by rw [q.1]; exact hRW.mono (Nat.le_succ n)⟩)) (fun τW2 H2 locs2 hRW2 hz2 hW2 hM2 hS2 => ?_)
  refine lv_aload_n hx hb dL_law_451 rfl (lv_at hl 3 rfl) ?_
  refine lMI (As := []) (rest := [.int _]) (v := (orderF (aP S) (aS S))) (R := fun τ' => RM τ' (n + 1) S) C hz2 hW2 hM2 hS2 hl.1 dL_law_452 k_X5_order l_L_72 v_X5_order rfl ⟨by decide, by decide⟩ rfl rfl rfl (Nat.le_of_ble_eq_true rfl) (CIw (d_order _ τM hP hMT hMS ho (by omega) ) (fun x τ' q => ⟨q.2, by rw [q.1]; exact hRM.mono (Nat.le_succ n)⟩)) (fun τM3 H3 locs3 hRM3 hz3 hW3 hM3 hS3 => ?_)
  refine lv_icmp_eq (tgt := 909) hx hb dL_law_455 (by decide) (fun _ => ?_) (fun q => absurd rfl q)
  exact nxt _ H3 locs3 ls τW2 τM3 hz3 hW3 hM3 hS3 hRW2 hRM3 hl
theorem lk_judge (C : LC p s m meth c b L xs K) (hL : L ≤ 320) {i n : Nat} {S : SA} (hi : i + 5 ≤ L) (hn : n < 3000) (nxt : ∀ S' : SA, LI p l e s m below meth c b K 909 i (n + 1) S') : LI p l e s m below meth c b K 460 i n S := by
  intro H locs ls τW τM hz hW hM hS hRW hRM hl
  obtain ⟨hx, hb, hr, hml, hown, hts, hX, hbl, hlocks, hK⟩ := id C
  have hP := hRM.1.2.2.1
  have ho := hRM.1.2.2.2.1
  have hMT := hRM.2.2.2.1
  have hMS := hRM.2.2.2.2.1
  refine lv_aload_n hx hb dL_law_460 rfl (lv_at hl 2 rfl) ?_
  refine lsl (pc := 461) (k := 1) C hL (by omega) hl hS (by decide) dL_law_461 dL_law_462 dL_law_463 dL_law_464 dL_law_465 ?_
  refine lsl (pc := 466) (k := 2) C hL (by omega) hl hS (by decide) dL_law_466 dL_law_467 dL_law_468 dL_law_469 dL_law_470 ?_
  refine lWI (As := [.int (xs (i + 1)), .int (xs (i + 2))]) (rest := []) (v := (judgeF (aP S) (aS S) (xs (i + 1)) (xs (i + 2)))) (R := fun τ' => RW τ' (n + 1) S) C hz hW hM hS hl.1 dL_law_471 k_X4_judge l_L_73 v_X4_judge rfl ⟨by decide, by decide⟩ rfl rfl rfl (Nat.le_of_ble_eq_true rfl) (c_judge _ τW hRW (by omega) (xs (i + 1)) (xs (i + 2))) (fun τW2 H2 locs2 hRW2 hz2 hW2 hM2 hS2 => ?_)
  refine lv_aload_n hx hb dL_law_474 rfl (lv_at hl 3 rfl) ?_
  refine lsl (pc := 475) (k := 1) C hL (by omega) hl hS2 (by decide) dL_law_475 dL_law_476 dL_law_477 dL_law_478 dL_law_479 ?_
  refine lsl (pc := 480) (k := 2) C hL (by omega) hl hS2 (by decide) dL_law_480 dL_law_481 dL_law_482 dL_law_483 dL_law_484 ?_
  refine lMI (As := [.int (xs (i + 1)), .int (xs (i + 2))]) (rest := [.int _]) (v := (judgeF (aP S) (aS S) (xs (i + 1)) (xs (i + 2)))) (R := fun τ' => RM τ' (n + 1) S) C hz2 hW2 hM2 hS2 hl.1 dL_law_485 k_X5_judge l_L_76 v_X5_judge rfl ⟨by decide, by decide⟩ rfl rfl rfl (Nat.le_of_ble_eq_true rfl) (CIw (d_judge _ τM hP hMT hMS ho (by omega) (xs (i + 1)) (xs (i + 2))) (fun x τ' q => ⟨q.1, (hRM.scr q.2).mono (Nat.le_succ n)⟩)) (fun τM3 H3 locs3 hRM3 hz3 hW3 hM3 hS3 => ?_)
  refine lv_icmp_eq (tgt := 909) hx hb dL_law_488 (by decide) (fun _ => ?_) (fun q => absurd rfl q)
  exact nxt _ H3 locs3 ls τW2 τM3 hz3 hW3 hM3 hS3 hRW2 hRM3 hl
theorem lk_cost (C : LC p s m meth c b L xs K) (hL : L ≤ 320) {i n : Nat} {S : SA} (hi : i + 5 ≤ L) (hn : n < 3000) (nxt : ∀ S' : SA, LI p l e s m below meth c b K 909 i (n + 1) S') : LI p l e s m below meth c b K 493 i n S := by
  intro H locs ls τW τM hz hW hM hS hRW hRM hl
  obtain ⟨hx, hb, hr, hml, hown, hts, hX, hbl, hlocks, hK⟩ := id C
  have hP := hRM.1.2.2.1
  have ho := hRM.1.2.2.2.1
  have hMT := hRM.2.2.2.1
  have hMS := hRM.2.2.2.2.1
  refine lv_aload_n hx hb dL_law_493 rfl (lv_at hl 2 rfl) ?_
  refine lsl (pc := 494) (k := 1) C hL (by omega) hl hS (by decide) dL_law_494 dL_law_495 dL_law_496 dL_law_497 dL_law_498 ?_
  refine lsl (pc := 499) (k := 2) C hL (by omega) hl hS (by decide) dL_law_499 dL_law_500 dL_law_501 dL_law_502 dL_law_503 ?_
  refine lWI (As := [.int (xs (i + 1)), .int (xs (i + 2))]) (rest := []) (v := (costF (aP S) (aS S) (xs (i + 1)) (xs (i + 2)))) (R := fun τ' => RW τ' (n + 1) S) C hz hW hM hS hl.1 dL_law_504 k_X4_cost l_L_77 v_X4_cost rfl ⟨by decide, by decide⟩ rfl rfl rfl (Nat.le_of_ble_eq_true rfl) (c_cost _ τW hRW (by omega) (xs (i + 1)) (xs (i + 2))) (fun τW2 H2 locs2 hRW2 hz2 hW2 hM2 hS2 => ?_)
  refine lv_aload_n hx hb dL_law_507 rfl (lv_at hl 3 rfl) ?_
  refine lsl (pc := 508) (k := 1) C hL (by omega) hl hS2 (by decide) dL_law_508 dL_law_509 dL_law_510 dL_law_511 dL_law_512 ?_
  refine lsl (pc := 513) (k := 2) C hL (by omega) hl hS2 (by decide) dL_law_513 dL_law_514 dL_law_515 dL_law_516 dL_law_517 ?_
  refine lMI (As := [.int (xs (i + 1)), .int (xs (i + 2))]) (rest := [.int _]) (v := (costF (aP S) (aS S) (xs (i + 1)) (xs (i + 2)))) (R := fun τ' => RM τ' (n + 1) S) C hz2 hW2 hM2 hS2 hl.1 dL_law_518 k_X5_cost l_L_80 v_X5_cost rfl ⟨by decide, by decide⟩ rfl rfl rfl (Nat.le_of_ble_eq_true rfl) (CIw (d_cost _ τM hP hMT hMS ho (by omega) (xs (i + 1)) (xs (i + 2))) (fun x τ' q => ⟨q.1, (hRM.scr q.2).mono (Nat.le_succ n)⟩)) (fun τM3 H3 locs3 hRM3 hz3 hW3 hM3 hS3 => ?_)
  refine lv_icmp_eq (tgt := 909) hx hb dL_law_521 (by decide) (fun _ => ?_) (fun q => absurd rfl q)
  exact nxt _ H3 locs3 ls τW2 τM3 hz3 hW3 hM3 hS3 hRW2 hRM3 hl
theorem lk_waits (C : LC p s m meth c b L xs K) (hL : L ≤ 320) {i n : Nat} {S : SA} (hi : i + 5 ≤ L) (hn : n < 3000) (nxt : ∀ S' : SA, LI p l e s m below meth c b K 909 i (n + 1) S') : LI p l e s m below meth c b K 526 i n S := by
  intro H locs ls τW τM hz hW hM hS hRW hRM hl
  obtain ⟨hx, hb, hr, hml, hown, hts, hX, hbl, hlocks, hK⟩ := id C
  have hP := hRM.1.2.2.1
  have ho := hRM.1.2.2.2.1
  have hMT := hRM.2.2.2.1
  have hMS := hRM.2.2.2.2.1
  refine lv_aload_n hx hb dL_law_526 rfl (lv_at hl 2 rfl) ?_
  refine lsl (pc := 527) (k := 1) C hL (by omega) hl hS (by decide) dL_law_527 dL_law_528 dL_law_529 dL_law_530 dL_law_531 ?_
  refine lsl (pc := 532) (k := 2) C hL (by omega) hl hS (by decide) dL_law_532 dL_law_533 dL_law_534 dL_law_535 dL_law_536 ?_
  refine lWI (As := [.int (xs (i + 1)), .int (xs (i + 2))]) (rest := []) (v := (waitsF (aP S) (aS S) (xs (i + 1)) (xs (i + 2)))) (R := fun τ' => RW τ' (n + 1) S) C hz hW hM hS hl.1 dL_law_537 k_X4_waits l_L_81 v_X4_waits rfl ⟨by decide, by decide⟩ rfl rfl rfl (Nat.le_of_ble_eq_true rfl) (CIw (c_waits _ τW (hRW.q (by omega)) (xs (i + 1)) (xs (i + 2))) (fun x τ' q => ⟨q.2, by rw [q.1]; exact hRW.mono (Nat.le_succ n)⟩)) (fun τW2 H2 locs2 hRW2 hz2 hW2 hM2 hS2 => ?_)
  refine lv_aload_n hx hb dL_law_540 rfl (lv_at hl 3 rfl) ?_
  refine lsl (pc := 541) (k := 1) C hL (by omega) hl hS2 (by decide) dL_law_541 dL_law_542 dL_law_543 dL_law_544 dL_law_545 ?_
  refine lsl (pc := 546) (k := 2) C hL (by omega) hl hS2 (by decide) dL_law_546 dL_law_547 dL_law_548 dL_law_549 dL_law_550 ?_
  refine lMI (As := [.int (xs (i + 1)), .int (xs (i + 2))]) (rest := [.int _]) (v := (waitsF (aP S) (aS S) (xs (i + 1)) (xs (i + 2)))) (R := fun τ' => RM τ' (n + 1) S) C hz2 hW2 hM2 hS2 hl.1 dL_law_551 k_X5_waits l_L_84 v_X5_waits rfl ⟨by decide, by decide⟩ rfl rfl rfl (Nat.le_of_ble_eq_true rfl) (CIw (d_waits _ τM hP hMT hMS ho (by omega) (xs (i + 1)) (xs (i + 2))) (fun x τ' q => ⟨q.2, by rw [q.1]; exact hRM.mono (Nat.le_succ n)⟩)) (fun τM3 H3 locs3 hRM3 hz3 hW3 hM3 hS3 => ?_)
  refine lv_icmp_eq (tgt := 909) hx hb dL_law_554 (by decide) (fun _ => ?_) (fun q => absurd rfl q)
  exact nxt _ H3 locs3 ls τW2 τM3 hz3 hW3 hM3 hS3 hRW2 hRM3 hl
theorem lk_who (C : LC p s m meth c b L xs K) (hL : L ≤ 320) {i n : Nat} {S : SA} (hi : i + 5 ≤ L) (hn : n < 3000) (nxt : ∀ S' : SA, LI p l e s m below meth c b K 909 i (n + 1) S') : LI p l e s m below meth c b K 559 i n S := by
  intro H locs ls τW τM hz hW hM hS hRW hRM hl
  obtain ⟨hx, hb, hr, hml, hown, hts, hX, hbl, hlocks, hK⟩ := id C
  have hP := hRM.1.2.2.1
  have ho := hRM.1.2.2.2.1
  have hMT := hRM.2.2.2.1
  have hMS := hRM.2.2.2.2.1
  refine lv_aload_n hx hb dL_law_559 rfl (lv_at hl 2 rfl) ?_
  refine lsl (pc := 560) (k := 1) C hL (by omega) hl hS (by decide) dL_law_560 dL_law_561 dL_law_562 dL_law_563 dL_law_564 ?_
  refine lsl (pc := 565) (k := 2) C hL (by omega) hl hS (by decide) dL_law_565 dL_law_566 dL_law_567 dL_law_568 dL_law_569 ?_
  refine lsl (pc := 570) (k := 3) C hL (by omega) hl hS (by decide) dL_law_570 dL_law_571 dL_law_572 dL_law_573 dL_law_574 ?_
  refine lWI (As := [.int (xs (i + 1)), .int (xs (i + 2)), .int (xs (i + 3))]) (rest := []) (v := (whoF (aP S) (aS S) (xs (i + 1)) (xs (i + 2)) (xs (i + 3)))) (R := fun τ' => RW τ' (n + 1) S) C hz hW hM hS hl.1 dL_law_575 k_X4_who l_L_85 v_X4_who rfl ⟨by decide, by decide⟩ rfl rfl rfl (Nat.le_of_ble_eq_true rfl) (CIw (c_who _ τW (hRW.q (by omega)) (xs (i + 1)) (xs (i + 2)) (xs (i + 3))) (fun x τ' q => ⟨q.2, by rw [q.1]; exact hRW.mono (Nat.le_succ n)⟩)) (fun τW2 H2 locs2 hRW2 hz2 hW2 hM2 hS2 => ?_)
  refine lv_aload_n hx hb dL_law_578 rfl (lv_at hl 3 rfl) ?_
  refine lsl (pc := 579) (k := 1) C hL (by omega) hl hS2 (by decide) dL_law_579 dL_law_580 dL_law_581 dL_law_582 dL_law_583 ?_
  refine lsl (pc := 584) (k := 2) C hL (by omega) hl hS2 (by decide) dL_law_584 dL_law_585 dL_law_586 dL_law_587 dL_law_588 ?_
  refine lsl (pc := 589) (k := 3) C hL (by omega) hl hS2 (by decide) dL_law_589 dL_law_590 dL_law_591 dL_law_592 dL_law_593 ?_
  refine lMI (As := [.int (xs (i + 1)), .int (xs (i + 2)), .int (xs (i + 3))]) (rest := [.int _]) (v := (whoF (aP S) (aS S) (xs (i + 1)) (xs (i + 2)) (xs (i + 3)))) (R := fun τ' => RM τ' (n + 1) S) C hz2 hW2 hM2 hS2 hl.1 dL_law_594 k_X5_who l_L_89 v_X5_who rfl ⟨by decide, by decide⟩ rfl rfl rfl (Nat.le_of_ble_eq_true rfl) (CIw (d_who _ τM hP hMT hMS ho (by omega) (xs (i + 1)) (xs (i + 2)) (xs (i + 3))) (fun x τ' q => ⟨q.2, by rw [q.1]; exact hRM.mono (Nat.le_succ n)⟩)) (fun τM3 H3 locs3 hRM3 hz3 hW3 hM3 hS3 => ?_)
  refine lv_icmp_eq (tgt := 909) hx hb dL_law_597 (by decide) (fun _ => ?_) (fun q => absurd rfl q)
  exact nxt _ H3 locs3 ls τW2 τM3 hz3 hW3 hM3 hS3 hRW2 hRM3 hl
theorem lk_share (C : LC p s m meth c b L xs K) (hL : L ≤ 320) {i n : Nat} {S : SA} (hi : i + 5 ≤ L) (hn : n < 3000) (nxt : ∀ S' : SA, LI p l e s m below meth c b K 909 i (n + 1) S') : LI p l e s m below meth c b K 602 i n S := by
  intro H locs ls τW τM hz hW hM hS hRW hRM hl
  obtain ⟨hx, hb, hr, hml, hown, hts, hX, hbl, hlocks, hK⟩ := id C
  have hP := hRM.1.2.2.1
  have ho := hRM.1.2.2.2.1
  have hMT := hRM.2.2.2.1
  have hMS := hRM.2.2.2.2.1
  refine lv_aload_n hx hb dL_law_602 rfl (lv_at hl 2 rfl) ?_
  refine lsl (pc := 603) (k := 1) C hL (by omega) hl hS (by decide) dL_law_603 dL_law_604 dL_law_605 dL_law_606 dL_law_607 ?_
  refine lsl (pc := 608) (k := 2) C hL (by omega) hl hS (by decide) dL_law_608 dL_law_609 dL_law_610 dL_law_611 dL_law_612 ?_
  refine lsb (pc := 613) C dL_law_613 dL_law_616 dL_law_617 dL_law_620 ?_
  refine lWI (As := [.int (xs (i + 1)), .int (zI (¬ (xs (i + 2)) = 0))]) (rest := []) (v := (shareF (aP S) (aS S) (xs (i + 1)) (¬ (xs (i + 2)) = 0))) (R := fun τ' => RW τ' (n + 1) S) C hz hW hM hS hl.1 dL_law_621 k_X4_share l_L_90 v_X4_share rfl ⟨by decide, by decide⟩ rfl rfl rfl (Nat.le_of_ble_eq_true rfl) (c_share _ τW hRW (by omega) (xs (i + 1)) (¬ (xs (i + 2)) = 0)) (fun τW2 H2 locs2 hRW2 hz2 hW2 hM2 hS2 => ?_)
  refine lv_aload_n hx hb dL_law_624 rfl (lv_at hl 3 rfl) ?_
  refine lsl (pc := 625) (k := 1) C hL (by omega) hl hS2 (by decide) dL_law_625 dL_law_626 dL_law_627 dL_law_628 dL_law_629 ?_
  refine lsl (pc := 630) (k := 2) C hL (by omega) hl hS2 (by decide) dL_law_630 dL_law_631 dL_law_632 dL_law_633 dL_law_634 ?_
  refine lsb (pc := 635) C dL_law_635 dL_law_638 dL_law_639 dL_law_642 ?_
  refine lMI (As := [.int (xs (i + 1)), .int (zI (¬ (xs (i + 2)) = 0))]) (rest := [.int _]) (v := (shareF (aP S) (aS S) (xs (i + 1)) (¬ (xs (i + 2)) = 0))) (R := fun τ' => RM τ' (n + 1) S) C hz2 hW2 hM2 hS2 hl.1 dL_law_643 k_X5_share l_L_93 v_X5_share rfl ⟨by decide, by decide⟩ rfl rfl rfl (Nat.le_of_ble_eq_true rfl) (d_share _ τM hRM (by omega) (xs (i + 1)) (¬ (xs (i + 2)) = 0)) (fun τM3 H3 locs3 hRM3 hz3 hW3 hM3 hS3 => ?_)
  refine lv_icmp_eq (tgt := 909) hx hb dL_law_646 (by decide) (fun _ => ?_) (fun q => absurd rfl q)
  exact nxt _ H3 locs3 ls τW2 τM3 hz3 hW3 hM3 hS3 hRW2 hRM3 hl
theorem lk_rests (C : LC p s m meth c b L xs K) (hL : L ≤ 320) {i n : Nat} {S : SA} (hi : i + 5 ≤ L) (hn : n < 3000) (nxt : ∀ S' : SA, LI p l e s m below meth c b K 909 i (n + 1) S') : LI p l e s m below meth c b K 651 i n S := by
  intro H locs ls τW τM hz hW hM hS hRW hRM hl
  obtain ⟨hx, hb, hr, hml, hown, hts, hX, hbl, hlocks, hK⟩ := id C
  have hP := hRM.1.2.2.1
  have ho := hRM.1.2.2.2.1
  have hMT := hRM.2.2.2.1
  have hMS := hRM.2.2.2.2.1
  refine lv_aload_n hx hb dL_law_651 rfl (lv_at hl 2 rfl) ?_
  refine lsl (pc := 652) (k := 1) C hL (by omega) hl hS (by decide) dL_law_652 dL_law_653 dL_law_654 dL_law_655 dL_law_656 ?_
  refine lsl (pc := 657) (k := 2) C hL (by omega) hl hS (by decide) dL_law_657 dL_law_658 dL_law_659 dL_law_660 dL_law_661 ?_
  refine lsl (pc := 662) (k := 3) C hL (by omega) hl hS (by decide) dL_law_662 dL_law_663 dL_law_664 dL_law_665 dL_law_666 ?_
  refine lWI (As := [.int (xs (i + 1)), .int (xs (i + 2)), .int (xs (i + 3))]) (rest := []) (v := (restsF (aP S) (aS S) (xs (i + 1)) (xs (i + 2)) (xs (i + 3)))) (R := fun τ' => RW τ' (n + 1) S) C hz hW hM hS hl.1 dL_law_667 k_X4_rests l_L_94 v_X4_rests rfl ⟨by decide, by decide⟩ rfl rfl rfl (Nat.le_of_ble_eq_true rfl) (CIw (c_rests _ τW (hRW.q (by omega)) (xs (i + 1)) (xs (i + 2)) (xs (i + 3))) (fun x τ' q => ⟨q.2, by rw [q.1]; exact hRW.mono (Nat.le_succ n)⟩)) (fun τW2 H2 locs2 hRW2 hz2 hW2 hM2 hS2 => ?_)
  refine lv_aload_n hx hb dL_law_670 rfl (lv_at hl 3 rfl) ?_
  refine lsl (pc := 671) (k := 1) C hL (by omega) hl hS2 (by decide) dL_law_671 dL_law_672 dL_law_673 dL_law_674 dL_law_675 ?_
  refine lsl (pc := 676) (k := 2) C hL (by omega) hl hS2 (by decide) dL_law_676 dL_law_677 dL_law_678 dL_law_679 dL_law_680 ?_
  refine lsl (pc := 681) (k := 3) C hL (by omega) hl hS2 (by decide) dL_law_681 dL_law_682 dL_law_683 dL_law_684 dL_law_685 ?_
  refine lMI (As := [.int (xs (i + 1)), .int (xs (i + 2)), .int (xs (i + 3))]) (rest := [.int _]) (v := (restsF (aP S) (aS S) (xs (i + 1)) (xs (i + 2)) (xs (i + 3)))) (R := fun τ' => RM τ' (n + 1) S) C hz2 hW2 hM2 hS2 hl.1 dL_law_686 k_X5_rests l_L_97 v_X5_rests rfl ⟨by decide, by decide⟩ rfl rfl rfl (Nat.le_of_ble_eq_true rfl) (CIw (d_rests _ τM hP hMT hMS ho (by omega) (xs (i + 1)) (xs (i + 2)) (xs (i + 3))) (fun x τ' q => ⟨q.1, (hRM.scr q.2).mono (Nat.le_succ n)⟩)) (fun τM3 H3 locs3 hRM3 hz3 hW3 hM3 hS3 => ?_)
  refine lv_icmp_eq (tgt := 909) hx hb dL_law_689 (by decide) (fun _ => ?_) (fun q => absurd rfl q)
  exact nxt _ H3 locs3 ls τW2 τM3 hz3 hW3 hM3 hS3 hRW2 hRM3 hl
theorem lk_lost (C : LC p s m meth c b L xs K) (hL : L ≤ 320) {i n : Nat} {S : SA} (hi : i + 5 ≤ L) (hn : n < 3000) (nxt : ∀ S' : SA, LI p l e s m below meth c b K 909 i (n + 1) S') : LI p l e s m below meth c b K 694 i n S := by
  intro H locs ls τW τM hz hW hM hS hRW hRM hl
  obtain ⟨hx, hb, hr, hml, hown, hts, hX, hbl, hlocks, hK⟩ := id C
  have hP := hRM.1.2.2.1
  have ho := hRM.1.2.2.2.1
  have hMT := hRM.2.2.2.1
  have hMS := hRM.2.2.2.2.1
  refine lv_aload_n hx hb dL_law_694 rfl (lv_at hl 2 rfl) ?_
  refine lsl (pc := 695) (k := 1) C hL (by omega) hl hS (by decide) dL_law_695 dL_law_696 dL_law_697 dL_law_698 dL_law_699 ?_
  refine lsl (pc := 700) (k := 2) C hL (by omega) hl hS (by decide) dL_law_700 dL_law_701 dL_law_702 dL_law_703 dL_law_704 ?_
  refine lsl (pc := 705) (k := 3) C hL (by omega) hl hS (by decide) dL_law_705 dL_law_706 dL_law_707 dL_law_708 dL_law_709 ?_
  refine lsl (pc := 710) (k := 4) C hL (by omega) hl hS (by decide) dL_law_710 dL_law_711 dL_law_712 dL_law_713 dL_law_714 ?_
  refine lsb (pc := 715) C dL_law_715 dL_law_718 dL_law_719 dL_law_722 ?_
  refine lWI (As := [.int (xs (i + 1)), .int (xs (i + 2)), .int (xs (i + 3)), .int (zI (¬ (xs (i + 4)) = 0))]) (rest := []) (v := (lostF (aP S) (aS S) (xs (i + 1)) (xs (i + 2)) (xs (i + 3)) (¬ (xs (i + 4)) = 0))) (R := fun τ' => RW τ' (n + 1) S) C hz hW hM hS hl.1 dL_law_723 k_X4_lost l_L_98 v_X4_lost rfl ⟨by decide, by decide⟩ rfl rfl rfl (Nat.le_of_ble_eq_true rfl) (CIw (c_lost _ τW (hRW.q (by omega)) (xs (i + 1)) (xs (i + 2)) (xs (i + 3)) (¬ (xs (i + 4)) = 0)) (fun x τ' q => ⟨q.2, by rw [q.1]; exact hRW.mono (Nat.le_succ n)⟩)) (fun τW2 H2 locs2 hRW2 hz2 hW2 hM2 hS2 => ?_)
  refine lv_aload_n hx hb dL_law_726 rfl (lv_at hl 3 rfl) ?_
  refine lsl (pc := 727) (k := 1) C hL (by omega) hl hS2 (by decide) dL_law_727 dL_law_728 dL_law_729 dL_law_730 dL_law_731 ?_
  refine lsl (pc := 732) (k := 2) C hL (by omega) hl hS2 (by decide) dL_law_732 dL_law_733 dL_law_734 dL_law_735 dL_law_736 ?_
  refine lsl (pc := 737) (k := 3) C hL (by omega) hl hS2 (by decide) dL_law_737 dL_law_738 dL_law_739 dL_law_740 dL_law_741 ?_
  refine lsl (pc := 742) (k := 4) C hL (by omega) hl hS2 (by decide) dL_law_742 dL_law_743 dL_law_744 dL_law_745 dL_law_746 ?_
  refine lsb (pc := 747) C dL_law_747 dL_law_750 dL_law_751 dL_law_754 ?_
  refine lMI (As := [.int (xs (i + 1)), .int (xs (i + 2)), .int (xs (i + 3)), .int (zI (¬ (xs (i + 4)) = 0))]) (rest := [.int _]) (v := (lostF (aP S) (aS S) (xs (i + 1)) (xs (i + 2)) (xs (i + 3)) (¬ (xs (i + 4)) = 0))) (R := fun τ' => RM τ' (n + 1) S) C hz2 hW2 hM2 hS2 hl.1 dL_law_755 k_X5_lost l_L_102 v_X5_lost rfl ⟨by decide, by decide⟩ rfl rfl rfl (Nat.le_of_ble_eq_true rfl) (CIw (d_lost _ τM hP hMT hMS ho (by omega) (xs (i + 1)) (xs (i + 2)) (xs (i + 3)) (¬ (xs (i + 4)) = 0)) (fun x τ' q => ⟨q.2, by rw [q.1]; exact hRM.mono (Nat.le_succ n)⟩)) (fun τM3 H3 locs3 hRM3 hz3 hW3 hM3 hS3 => ?_)
  refine lv_icmp_eq (tgt := 909) hx hb dL_law_758 (by decide) (fun _ => ?_) (fun q => absurd rfl q)
  exact nxt _ H3 locs3 ls τW2 τM3 hz3 hW3 hM3 hS3 hRW2 hRM3 hl
theorem lk_seed (C : LC p s m meth c b L xs K) (hL : L ≤ 320) {i n : Nat} {S : SA} (hi : i + 5 ≤ L) (hn : n < 3000) (nxt : ∀ S' : SA, LI p l e s m below meth c b K 909 i (n + 1) S') : LI p l e s m below meth c b K 763 i n S := by
  intro H locs ls τW τM hz hW hM hS hRW hRM hl
  obtain ⟨hx, hb, hr, hml, hown, hts, hX, hbl, hlocks, hK⟩ := id C
  have hP := hRM.1.2.2.1
  have ho := hRM.1.2.2.2.1
  have hMT := hRM.2.2.2.1
  have hMS := hRM.2.2.2.2.1
  refine lv_aload_n hx hb dL_law_763 rfl (lv_at hl 2 rfl) ?_
  refine lsl (pc := 764) (k := 1) C hL (by omega) hl hS (by decide) dL_law_764 dL_law_765 dL_law_766 dL_law_767 dL_law_768 ?_
  refine lv_i2l hx hb dL_law_769 rfl ?_
  refine lv_bipush (v := nI 32) hx hb dL_law_770 (by decide) ?_
  refine lv_lshl hx hb dL_law_772 rfl ?_
  refine lsl (pc := 773) (k := 2) C hL (by omega) hl hS (by decide) dL_law_773 dL_law_774 dL_law_775 dL_law_776 dL_law_777 ?_
  refine lv_i2l hx hb dL_law_778 rfl ?_
  refine lv_ldc2 hx hb hown (hts _ cn_L_103) dL_law_779 ?_
  refine lv_land hx hb dL_law_782 ?_
  refine lv_lor hx hb dL_law_783 ?_
  refine lWL (As := [.long ((xs (i + 1)).toInt64 <<< ((nI 32).toInt64 &&& 63) ||| (xs (i + 2)).toInt64 &&& (4294967295 : Int64))]) (rest := []) (v := (seedA S ((xs (i + 1)).toInt64 <<< ((nI 32).toInt64 &&& 63) ||| (xs (i + 2)).toInt64 &&& (4294967295 : Int64))).1) (R := fun τ' => RW τ' (n + 1) (seedA S ((xs (i + 1)).toInt64 <<< ((nI 32).toInt64 &&& 63) ||| (xs (i + 2)).toInt64 &&& (4294967295 : Int64))).2) C hz hW hM hS hl.1 dL_law_784 k_X4_seed l_L_105 v_X4_seed rfl ⟨by decide, by decide⟩ rfl rfl rfl (Nat.le_of_ble_eq_true rfl) (c_seed _ τW hRW _) (fun τW2 H2 locs2 hRW2 hz2 hW2 hM2 hS2 => ?_)
  refine lv_aload_n hx hb dL_law_787 rfl (lv_at hl 3 rfl) ?_
  refine lsl (pc := 788) (k := 1) C hL (by omega) hl hS2 (by decide) dL_law_788 dL_law_789 dL_law_790 dL_law_791 dL_law_792 ?_
  refine lv_i2l hx hb dL_law_793 rfl ?_
  refine lv_bipush (v := nI 32) hx hb dL_law_794 (by decide) ?_
  refine lv_lshl hx hb dL_law_796 rfl ?_
  refine lsl (pc := 797) (k := 2) C hL (by omega) hl hS2 (by decide) dL_law_797 dL_law_798 dL_law_799 dL_law_800 dL_law_801 ?_
  refine lv_i2l hx hb dL_law_802 rfl ?_
  refine lv_ldc2 hx hb hown (hts _ cn_L_103) dL_law_803 ?_
  refine lv_land hx hb dL_law_806 ?_
  refine lv_lor hx hb dL_law_807 ?_
  refine lML (As := [.long ((xs (i + 1)).toInt64 <<< ((nI 32).toInt64 &&& 63) ||| (xs (i + 2)).toInt64 &&& (4294967295 : Int64))]) (rest := [.long _]) (v := (seedA S ((xs (i + 1)).toInt64 <<< ((nI 32).toInt64 &&& 63) ||| (xs (i + 2)).toInt64 &&& (4294967295 : Int64))).1) (R := fun τ' => RM τ' (n + 1) (seedA S ((xs (i + 1)).toInt64 <<< ((nI 32).toInt64 &&& 63) ||| (xs (i + 2)).toInt64 &&& (4294967295 : Int64))).2) C hz2 hW2 hM2 hS2 hl.1 dL_law_808 k_X5_seed l_L_109 v_X5_seed rfl ⟨by decide, by decide⟩ rfl rfl rfl (Nat.le_of_ble_eq_true rfl) (d_seed _ τM hRM _) (fun τM3 H3 locs3 hRM3 hz3 hW3 hM3 hS3 => ?_)
  refine W.lcmp hx hb dL_law_811 ?_
  refine lv_if_eq (tgt := 909) hx hb dL_law_812 (by decide) (fun _ => ?_) (fun q => absurd ((lg_cmp_eq _ _).mpr rfl) q)
  exact nxt _ H3 locs3 ls τW2 τM3 hz3 hW3 hM3 hS3 hRW2 hRM3 hl
theorem lk_years (C : LC p s m meth c b L xs K) (hL : L ≤ 320) {i n : Nat} {S : SA} (hi : i + 5 ≤ L) (hn : n < 3000) (nxt : ∀ S' : SA, LI p l e s m below meth c b K 909 i (n + 1) S') : LI p l e s m below meth c b K 817 i n S := by
  intro H locs ls τW τM hz hW hM hS hRW hRM hl
  obtain ⟨hx, hb, hr, hml, hown, hts, hX, hbl, hlocks, hK⟩ := id C
  have hP := hRM.1.2.2.1
  have ho := hRM.1.2.2.2.1
  have hMT := hRM.2.2.2.1
  have hMS := hRM.2.2.2.2.1
  refine lv_aload_n hx hb dL_law_817 rfl (lv_at hl 2 rfl) ?_
  refine lsl (pc := 818) (k := 1) C hL (by omega) hl hS (by decide) dL_law_818 dL_law_819 dL_law_820 dL_law_821 dL_law_822 ?_
  refine lWI (As := [.int (xs (i + 1))]) (rest := []) (v := (yearsA S (xs (i + 1))).1) (R := fun τ' => RW τ' (n + 1) (yearsA S (xs (i + 1))).2) C hz hW hM hS hl.1 dL_law_823 k_X4_years l_L_110 v_X4_years rfl ⟨by decide, by decide⟩ rfl rfl rfl (Nat.le_of_ble_eq_true rfl) (c_years _ τW hRW (by omega) (xs (i + 1))) (fun τW2 H2 locs2 hRW2 hz2 hW2 hM2 hS2 => ?_)
  refine lv_aload_n hx hb dL_law_826 rfl (lv_at hl 3 rfl) ?_
  refine lsl (pc := 827) (k := 1) C hL (by omega) hl hS2 (by decide) dL_law_827 dL_law_828 dL_law_829 dL_law_830 dL_law_831 ?_
  refine lMI (As := [.int (xs (i + 1))]) (rest := [.int _]) (v := (yearsA S (xs (i + 1))).1) (R := fun τ' => RM τ' (n + 1) (yearsA S (xs (i + 1))).2) C hz2 hW2 hM2 hS2 hl.1 dL_law_832 k_X5_years l_L_113 v_X5_years rfl ⟨by decide, by decide⟩ rfl rfl rfl (Nat.le_of_ble_eq_true rfl) (d_years _ τM hRM (by omega) (xs (i + 1))) (fun τM3 H3 locs3 hRM3 hz3 hW3 hM3 hS3 => ?_)
  refine lv_icmp_eq (tgt := 909) hx hb dL_law_835 (by decide) (fun _ => ?_) (fun q => absurd rfl q)
  exact nxt _ H3 locs3 ls τW2 τM3 hz3 hW3 hM3 hS3 hRW2 hRM3 hl
theorem lk_keep (C : LC p s m meth c b L xs K) (hL : L ≤ 320) {i n : Nat} {S : SA} (hi : i + 5 ≤ L) (hn : n < 3000) (nxt : ∀ S' : SA, LI p l e s m below meth c b K 909 i (n + 1) S') : LI p l e s m below meth c b K 840 i n S := by
  intro H locs ls τW τM hz hW hM hS hRW hRM hl
  obtain ⟨hx, hb, hr, hml, hown, hts, hX, hbl, hlocks, hK⟩ := id C
  have hP := hRM.1.2.2.1
  have ho := hRM.1.2.2.2.1
  have hMT := hRM.2.2.2.1
  have hMS := hRM.2.2.2.2.1
  refine lv_aload_n hx hb dL_law_840 rfl (lv_at hl 2 rfl) ?_
  refine lsl (pc := 841) (k := 1) C hL (by omega) hl hS (by decide) dL_law_841 dL_law_842 dL_law_843 dL_law_844 dL_law_845 ?_
  refine lWI (As := [.int (xs (i + 1))]) (rest := []) (v := (keepA S (xs (i + 1))).1) (R := fun τ' => RW τ' (n + 1) (keepA S (xs (i + 1))).2) C hz hW hM hS hl.1 dL_law_846 k_X4_keep l_L_114 v_X4_keep rfl ⟨by decide, by decide⟩ rfl rfl rfl (Nat.le_of_ble_eq_true rfl) (c_keep _ τW hRW (by omega) (xs (i + 1))) (fun τW2 H2 locs2 hRW2 hz2 hW2 hM2 hS2 => ?_)
  refine lv_aload_n hx hb dL_law_849 rfl (lv_at hl 3 rfl) ?_
  refine lsl (pc := 850) (k := 1) C hL (by omega) hl hS2 (by decide) dL_law_850 dL_law_851 dL_law_852 dL_law_853 dL_law_854 ?_
  refine lMI (As := [.int (xs (i + 1))]) (rest := [.int _]) (v := (keepA S (xs (i + 1))).1) (R := fun τ' => RM τ' (n + 1) (keepA S (xs (i + 1))).2) C hz2 hW2 hM2 hS2 hl.1 dL_law_855 k_X5_keep l_L_117 v_X5_keep rfl ⟨by decide, by decide⟩ rfl rfl rfl (Nat.le_of_ble_eq_true rfl) (d_keep _ τM hRM (by omega) (xs (i + 1))) (fun τM3 H3 locs3 hRM3 hz3 hW3 hM3 hS3 => ?_)
  refine lv_icmp_eq (tgt := 909) hx hb dL_law_858 (by decide) (fun _ => ?_) (fun q => absurd rfl q)
  exact nxt _ H3 locs3 ls τW2 τM3 hz3 hW3 hM3 hS3 hRW2 hRM3 hl
theorem lk_again (C : LC p s m meth c b L xs K) (hL : L ≤ 320) {i n : Nat} {S : SA} (hi : i + 5 ≤ L) (hn : n < 3000) (nxt : ∀ S' : SA, LI p l e s m below meth c b K 909 i (n + 1) S') : LI p l e s m below meth c b K 863 i n S := by
  intro H locs ls τW τM hz hW hM hS hRW hRM hl
  obtain ⟨hx, hb, hr, hml, hown, hts, hX, hbl, hlocks, hK⟩ := id C
  have hP := hRM.1.2.2.1
  have ho := hRM.1.2.2.2.1
  have hMT := hRM.2.2.2.1
  have hMS := hRM.2.2.2.2.1
  refine lv_aload_n hx hb dL_law_863 rfl (lv_at hl 2 rfl) ?_
  refine lsl (pc := 864) (k := 1) C hL (by omega) hl hS (by decide) dL_law_864 dL_law_865 dL_law_866 dL_law_867 dL_law_868 ?_
  refine lWI (As := [.int (xs (i + 1))]) (rest := []) (v := (againA S (xs (i + 1))).1) (R := fun τ' => RW τ' (n + 1) (againA S (xs (i + 1))).2) C hz hW hM hS hl.1 dL_law_869 k_X4_again l_L_118 v_X4_again rfl ⟨by decide, by decide⟩ rfl rfl rfl (Nat.le_of_ble_eq_true rfl) (c_again _ τW hRW (by omega) (xs (i + 1))) (fun τW2 H2 locs2 hRW2 hz2 hW2 hM2 hS2 => ?_)
  refine lv_aload_n hx hb dL_law_872 rfl (lv_at hl 3 rfl) ?_
  refine lsl (pc := 873) (k := 1) C hL (by omega) hl hS2 (by decide) dL_law_873 dL_law_874 dL_law_875 dL_law_876 dL_law_877 ?_
  refine lMI (As := [.int (xs (i + 1))]) (rest := [.int _]) (v := (againA S (xs (i + 1))).1) (R := fun τ' => RM τ' (n + 1) (againA S (xs (i + 1))).2) C hz2 hW2 hM2 hS2 hl.1 dL_law_878 k_X5_again l_L_121 v_X5_again rfl ⟨by decide, by decide⟩ rfl rfl rfl (Nat.le_of_ble_eq_true rfl) (d_again _ τM hRM (by omega) (xs (i + 1))) (fun τM3 H3 locs3 hRM3 hz3 hW3 hM3 hS3 => ?_)
  refine lv_icmp_eq (tgt := 909) hx hb dL_law_881 (by decide) (fun _ => ?_) (fun q => absurd rfl q)
  exact nxt _ H3 locs3 ls τW2 τM3 hz3 hW3 hM3 hS3 hRW2 hRM3 hl
theorem lk_count (C : LC p s m meth c b L xs K) (hL : L ≤ 320) {i n : Nat} {S : SA} (hi : i + 5 ≤ L) (hn : n < 3000) (nxt : ∀ S' : SA, LI p l e s m below meth c b K 909 i (n + 1) S') : LI p l e s m below meth c b K 886 i n S := by
  intro H locs ls τW τM hz hW hM hS hRW hRM hl
  obtain ⟨hx, hb, hr, hml, hown, hts, hX, hbl, hlocks, hK⟩ := id C
  have hP := hRM.1.2.2.1
  have ho := hRM.1.2.2.2.1
  have hMT := hRM.2.2.2.1
  have hMS := hRM.2.2.2.2.1
  refine lv_aload_n hx hb dL_law_886 rfl (lv_at hl 2 rfl) ?_
  refine lsl (pc := 887) (k := 1) C hL (by omega) hl hS (by decide) dL_law_887 dL_law_888 dL_law_889 dL_law_890 dL_law_891 ?_
  have hna : τM.1 1 16 = nI (aA S).length := by obtain ⟨nx, a1, a2, a3, a4⟩ := hRM.2.2.2.2.2.1; exact a3
  refine lWI (As := [.int (xs (i + 1))]) (rest := []) (v := (countF (aP S) (aS S) (aL S) (aA S).length (xs (i + 1)))) (R := fun τ' => RW τ' (n + 1) S) C hz hW hM hS hl.1 dL_law_892 k_X4_count l_L_122 v_X4_count rfl ⟨by decide, by decide⟩ rfl rfl rfl (Nat.le_of_ble_eq_true rfl) (CIw (c_count _ τW (hRW.q (by omega)) hRW.2.2.1 hRW.2.2.2.2.2.1.1 (xs (i + 1))) (fun x τ' q => ⟨q.2, by rw [q.1]; exact hRW.mono (Nat.le_succ n)⟩)) (fun τW2 H2 locs2 hRW2 hz2 hW2 hM2 hS2 => ?_)
  refine lv_aload_n hx hb dL_law_895 rfl (lv_at hl 3 rfl) ?_
  refine lsl (pc := 896) (k := 1) C hL (by omega) hl hS2 (by decide) dL_law_896 dL_law_897 dL_law_898 dL_law_899 dL_law_900 ?_
  refine lMI (As := [.int (xs (i + 1))]) (rest := [.int _]) (v := (countF (aP S) (aS S) (aL S) (aA S).length (xs (i + 1)))) (R := fun τ' => RM τ' (n + 1) S) C hz2 hW2 hM2 hS2 hl.1 dL_law_901 k_X5_count l_L_125 v_X5_count rfl ⟨by decide, by decide⟩ rfl rfl rfl (Nat.le_of_ble_eq_true rfl) (CIw (d_count _ τM hP hMT hMS ho (by omega) hRM.2.2.1 hna (xs (i + 1))) (fun x τ' q => ⟨q.2, by rw [q.1]; exact hRM.mono (Nat.le_succ n)⟩)) (fun τM3 H3 locs3 hRM3 hz3 hW3 hM3 hS3 => ?_)
  refine lv_icmp_eq (tgt := 909) hx hb dL_law_904 (by decide) (fun _ => ?_) (fun q => absurd rfl q)
  exact nxt _ H3 locs3 ls τW2 τM3 hz3 hW3 hM3 hS3 hRW2 hRM3 hl
end LW2
