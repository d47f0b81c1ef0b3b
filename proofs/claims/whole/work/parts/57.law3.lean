/-! ===== the law: its loop, its start ===== -/
section LW3
variable {p : Program} {l : Launch} {e : Env} {s : State} {m : MethodId} {below : List Frame} {meth : Method} {c : Code} {b L : Nat} {xs : Nat → Int32} {K : Nat × va_G × ClassId × ClassId × ClassId × ClassId}
set_option maxHeartbeats 4000000
set_option maxRecDepth 100000
theorem law_loop (C : LC p s m meth c b L xs K) (hL : L ≤ 320) : ∀ (f i n : Nat) (S : SA), L ≤ i + f → n ≤ i → i ≤ 400 → LI p l e s m below meth c b K 18 i n S := by
  intro f
  induction f with
  | zero =>
    intro i n S hf hn hi4 H locs ls τW τM hz hW hM hS hRW hRM hl
    obtain ⟨hx, hb, hr, hml, hown, hts, hX, hbl, hlocks, hK⟩ := id C
    refine lv_iload_n hx hb dL_law_18 rfl (lv_at hl 0 rfl) ?_
    refine lv_aload_n hx hb dL_law_19 rfl (lv_at hl 1 rfl) ?_
    refine va_slen hx hb hX hbl (Nat.not_le.mpr hbl) hS dL_law_20 ?_
    refine lv_iconst (v := nI 5) hx hb dL_law_21 (by decide) ?_
    refine lv_isub hx hb dL_law_22 ?_
    refine lv_icmp_gt (tgt := 915) hx hb dL_law_23 (by decide) (fun h => ?_) (fun h => absurd ?_ h)
    · refine lv_iconst (v := 1) hx hb dL_law_915 (by decide) ?_
      refine va_forget (fun q hq => hS.2.2 q hq) ?_
      refine W.widen (k := 600000) (n := 7302250) (Nat.le_of_ble_eq_true rfl) (Nat.le_of_ble_eq_true rfl) ?_
      exact lw_ret hx hb hr hlocks dL_law_916
    · rw [Int32.lt_iff_toInt_lt, show (Int32.ofNat L - nI 5).toInt = (L : Int) - (5 : Nat) from pk_sub_toInt (a := L) (b := 5) (by omega) (by decide), nI_toInt (by omega)]
      omega
  | succ f ih =>
    intro i n S hf hn hi4 H locs ls τW τM hz hW hM hS hRW hRM hl
    obtain ⟨hx, hb, hr, hml, hown, hts, hX, hbl, hlocks, hK⟩ := id C
    refine lv_iload_n hx hb dL_law_18 rfl (lv_at hl 0 rfl) ?_
    refine lv_aload_n hx hb dL_law_19 rfl (lv_at hl 1 rfl) ?_
    refine va_slen hx hb hX hbl (Nat.not_le.mpr hbl) hS dL_law_20 ?_
    refine lv_iconst (v := nI 5) hx hb dL_law_21 (by decide) ?_
    refine lv_isub hx hb dL_law_22 ?_
    refine lv_icmp_gt (tgt := 915) hx hb dL_law_23 (by decide) (fun h => ?_) (fun h => ?_)
    · refine lv_iconst (v := 1) hx hb dL_law_915 (by decide) ?_
      refine va_forget (fun q hq => hS.2.2 q hq) ?_
      refine W.widen (k := 600000) (n := 7302250) (Nat.le_of_ble_eq_true rfl) (Nat.le_of_ble_eq_true rfl) ?_
      exact lw_ret hx hb hr hlocks dL_law_916
    rw [Int32.lt_iff_toInt_lt, show (Int32.ofNat L - nI 5).toInt = (L : Int) - (5 : Nat) from pk_sub_toInt (a := L) (b := 5) (by omega) (by decide), nI_toInt (by omega)] at h
    have hi5 : i + 5 ≤ L := by omega
    have nxt : ∀ S' : SA, LI p l e s m below meth c b K 909 i (n + 1) S' := by
      intro S' H locs ls τW τM hz hW hM hS hRW hRM hl
      refine lv_iinc (v := nI (i + 5)) (lv' := [(3, .int (nI (i + 5))), (0, .ref b), (1, .ref s.heap.size), (2, .ref (s.heap.size + 70))]) hx hb dL_law_909 hl (k := 0) rfl (nI_add i 5) (by decide) rfl (fun ls hl => ?_)
      refine lv_goto (tgt := 18) hx hb dL_law_912 (by decide) ?_
      exact ih (i + 5) (n + 1) S' (by omega) (by omega) (by omega) H locs ls τW τM hz hW hM hS hRW hRM hl
    refine lv_aload_n hx hb dL_law_26 rfl (lv_at hl 1 rfl) ?_
    refine lv_iload_n hx hb dL_law_27 rfl (lv_at hl 0 rfl) ?_
    refine va_sld hx hb hX hbl (Nat.not_le.mpr hbl) hS (vp_in_nI (show i < L by omega) (by omega)) dL_law_28 ?_
    refine lv_bipush (v := nI 31) hx hb dL_law_29 (by decide) ?_
    refine lv_iand hx hb dL_law_31 ?_
    rw [pk_and (xs (nI i).toNatClampNeg) (m := nI 31) 5 (by decide)]
    have hv := Nat.mod_lt (xs (nI i).toNatClampNeg).toBitVec.toNat (show 0 < 2 ^ 5 by decide)
    generalize (xs (nI i).toNatClampNeg).toBitVec.toNat % 2 ^ 5 = v at hv ⊢
    have hc : v = 0 ∨ v = 1 ∨ v = 2 ∨ v = 3 ∨ v = 4 ∨ v = 5 ∨ v = 6 ∨ v = 7 ∨ v = 8 ∨ v = 9 ∨ v = 10 ∨ v = 11 ∨ v = 12 ∨ v = 13 ∨ v = 14 ∨ v = 15 ∨ v = 16 ∨ v = 17 ∨ v = 18 ∨ v = 19 ∨ v = 20 ∨ v = 21 ∨ v = 22 ∨ v = 23 ∨ v = 24 ∨ v = 25 ∨ 26 ≤ v := by omega
    rcases hc with rfl | rfl | rfl | rfl | rfl | rfl | rfl | rfl | rfl | rfl | rfl | rfl | rfl | rfl | rfl | rfl | rfl | rfl | rfl | rfl | rfl | rfl | rfl | rfl | rfl | rfl | hv26
    · refine lv_tableIn (off := 120) (tgt := 152) hx hb dL_law_32 (by decide) (by decide) rfl (by decide) ?_
      exact lk_write C hL hi5 (by omega) nxt H locs ls τW τM hz hW hM hS hRW hRM hl
    · refine lv_tableIn (off := 143) (tgt := 175) hx hb dL_law_32 (by decide) (by decide) rfl (by decide) ?_
      exact lk_wipe C hL hi5 (by omega) nxt H locs ls τW τM hz hW hM hS hRW hRM hl
    · refine lv_tableIn (off := 156) (tgt := 188) hx hb dL_law_32 (by decide) (by decide) rfl (by decide) ?_
      exact lk_fault C hL hi5 (by omega) nxt H locs ls τW τM hz hW hM hS hRW hRM hl
    · refine lv_tableIn (off := 169) (tgt := 201) hx hb dL_law_32 (by decide) (by decide) rfl (by decide) ?_
      exact lk_post C hL hi5 (by omega) nxt H locs ls τW τM hz hW hM hS hRW hRM hl
    · refine lv_tableIn (off := 182) (tgt := 214) hx hb dL_law_32 (by decide) (by decide) rfl (by decide) ?_
      exact lk_letter C hL hi5 (by omega) nxt H locs ls τW τM hz hW hM hS hRW hRM hl
    · refine lv_tableIn (off := 215) (tgt := 247) hx hb dL_law_32 (by decide) (by decide) rfl (by decide) ?_
      exact lk_send C hL hi5 (by omega) nxt H locs ls τW τM hz hW hM hS hRW hRM hl
    · refine lv_tableIn (off := 238) (tgt := 270) hx hb dL_law_32 (by decide) (by decide) rfl (by decide) ?_
      exact lk_day C hL hi5 (by omega) nxt H locs ls τW τM hz hW hM hS hRW hRM hl
    · refine lv_tableIn (off := 251) (tgt := 283) hx hb dL_law_32 (by decide) (by decide) rfl (by decide) ?_
      exact lk_tear C hL hi5 (by omega) nxt H locs ls τW τM hz hW hM hS hRW hRM hl
    · refine lv_tableIn (off := 274) (tgt := 306) hx hb dL_law_32 (by decide) (by decide) rfl (by decide) ?_
      exact lk_card C hL hi5 (by omega) nxt H locs ls τW τM hz hW hM hS hRW hRM hl
    · refine lv_tableIn (off := 297) (tgt := 329) hx hb dL_law_32 (by decide) (by decide) rfl (by decide) ?_
      exact lk_undo C hL hi5 (by omega) nxt H locs ls τW τM hz hW hM hS hRW hRM hl
    · refine lv_tableIn (off := 310) (tgt := 342) hx hb dL_law_32 (by decide) (by decide) rfl (by decide) ?_
      exact lk_price C hL hi5 (by omega) nxt H locs ls τW τM hz hW hM hS hRW hRM hl
    · refine lv_tableIn (off := 343) (tgt := 375) hx hb dL_law_32 (by decide) (by decide) rfl (by decide) ?_
      exact lk_cheapest C hL hi5 (by omega) nxt H locs ls τW τM hz hW hM hS hRW hRM hl
    · refine lv_tableIn (off := 366) (tgt := 398) hx hb dL_law_32 (by decide) (by decide) rfl (by decide) ?_
      exact lk_plan C hL hi5 (by omega) nxt H locs ls τW τM hz hW hM hS hRW hRM hl
    · refine lv_tableIn (off := 415) (tgt := 447) hx hb dL_law_32 (by decide) (by decide) rfl (by decide) ?_
      exact lk_order C hL hi5 (by omega) nxt H locs ls τW τM hz hW hM hS hRW hRM hl
    · refine lv_tableIn (off := 428) (tgt := 460) hx hb dL_law_32 (by decide) (by decide) rfl (by decide) ?_
      exact lk_judge C hL hi5 (by omega) nxt H locs ls τW τM hz hW hM hS hRW hRM hl
    · refine lv_tableIn (off := 461) (tgt := 493) hx hb dL_law_32 (by decide) (by decide) rfl (by decide) ?_
      exact lk_cost C hL hi5 (by omega) nxt H locs ls τW τM hz hW hM hS hRW hRM hl
    · refine lv_tableIn (off := 494) (tgt := 526) hx hb dL_law_32 (by decide) (by decide) rfl (by decide) ?_
      exact lk_waits C hL hi5 (by omega) nxt H locs ls τW τM hz hW hM hS hRW hRM hl
    · refine lv_tableIn (off := 527) (tgt := 559) hx hb dL_law_32 (by decide) (by decide) rfl (by decide) ?_
      exact lk_who C hL hi5 (by omega) nxt H locs ls τW τM hz hW hM hS hRW hRM hl
    · refine lv_tableIn (off := 570) (tgt := 602) hx hb dL_law_32 (by decide) (by decide) rfl (by decide) ?_
      exact lk_share C hL hi5 (by omega) nxt H locs ls τW τM hz hW hM hS hRW hRM hl
    · refine lv_tableIn (off := 619) (tgt := 651) hx hb dL_law_32 (by decide) (by decide) rfl (by decide) ?_
      exact lk_rests C hL hi5 (by omega) nxt H locs ls τW τM hz hW hM hS hRW hRM hl
    · refine lv_tableIn (off := 662) (tgt := 694) hx hb dL_law_32 (by decide) (by decide) rfl (by decide) ?_
      exact lk_lost C hL hi5 (by omega) nxt H locs ls τW τM hz hW hM hS hRW hRM hl
    · refine lv_tableIn (off := 731) (tgt := 763) hx hb dL_law_32 (by decide) (by decide) rfl (by decide) ?_
      exact lk_seed C hL hi5 (by omega) nxt H locs ls τW τM hz hW hM hS hRW hRM hl
    · refine lv_tableIn (off := 785) (tgt := 817) hx hb dL_law_32 (by decide) (by decide) rfl (by decide) ?_
      exact lk_years C hL hi5 (by omega) nxt H locs ls τW τM hz hW hM hS hRW hRM hl
    · refine lv_tableIn (off := 808) (tgt := 840) hx hb dL_law_32 (by decide) (by decide) rfl (by decide) ?_
      exact lk_keep C hL hi5 (by omega) nxt H locs ls τW τM hz hW hM hS hRW hRM hl
    · refine lv_tableIn (off := 831) (tgt := 863) hx hb dL_law_32 (by decide) (by decide) rfl (by decide) ?_
      exact lk_again C hL hi5 (by omega) nxt H locs ls τW τM hz hW hM hS hRW hRM hl
    · refine lv_tableIn (off := 854) (tgt := 886) hx hb dL_law_32 (by decide) (by decide) rfl (by decide) ?_
      exact lk_count C hL hi5 (by omega) nxt H locs ls τW τM hz hW hM hS hRW hRM hl
    · refine lv_tableOut (tgt := 909) hx hb dL_law_32 (Or.inr (by rw [nI_toInt (by omega)]; omega)) (by decide) ?_
      exact nxt S H locs ls τW τM hz hW hM hS (hRW.mono (Nat.le_succ n)) (hRM.mono (Nat.le_succ n)) hl
/-- nothing is written but the static table -/
def τ0 : xT := (fun a k => if a = 0 then xrate k else 0, fun _ _ => 0, fun _ _ => 0)
theorem Zr0 : Zr τ0 0 := fun a ha => ⟨fun k => if_neg (by omega), fun k => rfl, fun k => rfl⟩
theorem lNew {b0 ci n idx pc cells slots : Nat} {Cn : String} {T : u_T} {ty : Nat → FieldType} (fks : List Nat) {H : Heap} {locs : List Loc} {ls : Array Slot} {st : List Value} {Q : State → Prop} (C : LC p s m meth c b L xs K) (hb0 : s.heap.size ≤ b0) (hz : H.size = b0) (hS : va_S (fun q => s.heap.size ≤ q) s.heap H locs) (hd : decode code pc = .ok (.new idx, 3)) (hcl : xCl ci Cn T n ty) (hw : Cond.classLink R_law idx Cn ∈ xtbl ∧ Cond.instantiable Cn n ∈ xtbl ∧ Cond.initialized Cn ∈ xtbl) (hf : fks.length = n ∧ ∀ j, j < n → defaultValue (ty j) = xdv (fks.getD j 0) ∧ fks.getD j 0 < 3) (hc1 : cells + 1 ≤ room_1.cells) (hc2 : slots + n ≤ room_1.slots)
    (kk : ∀ H1 : Heap, H1.size = b0 + 1 → (∀ q : Nat, q < b0 → H1[q]? = H[q]?) → xH (b0, 0, K) (1, n, lyO [.inl (4, 4), .inr (ci, fks)]) τ0 H1 → va_S (fun q => s.heap.size ≤ q) s.heap H1 locs → W p l e room_1 s m #[Value.ref b] below meth c H1 locs (cells + 1) (slots + n) Q (F0 m (pc + 3) ls (.ref b0 :: st))) : W p l e room_1 s m #[Value.ref b] below meth c H locs cells slots Q (F0 m pc ls st) := by
  obtain ⟨hx, hb, hr, hml, hown, hts, hX, hbl, hlocks, hK⟩ := id C
  obtain ⟨hc, hu, hty, hnm, hT⟩ := hcl
  have hKn := (hK b0 0 hb0).1.1 ci _ hc
  refine W.newcK hx hb hown (hts _ hw.1) (hts _ hw.2.1) (hts _ hw.2.2) rfl hd hc1 hc2 hKn.2.1 hz fun H1 kC hkC e1 z1 o1 => ?_
  have hE : xH (b0, 0, K) (0, 0, lyO [.inl (4, 4)]) τ0 H := ⟨by rw [hz]; rfl, rfl, fun j => rfl, fun k q hq => by simp [xws] at hq⟩
  refine kk H1 (by rw [z1]) (fun q hq => o1 q hq) (hE.push (S := n) rfl (lyO [.inl (4, 4), .inr (ci, fks)]) (by rw [z1, hz]) (fun q hq => o1 q (by rw [← hz]; exact hq)) τ0 ?_ rfl (fun j => rfl) (fun j hj => ?_)) ?_
  · show va_at K.2.1 vwCl (b0 + 0, xcell (b0, 0, K) (lyO [.inl (4, 4), .inr (ci, fks)]) τ0 1) H1
    rw [xcell_O rfl]
    refine ⟨_, hc, (u_born ty hts hu hKn hkC e1 hty).to fun k hk => ?_⟩
    have hk2 : k < fks.length := by rw [hf.1]; exact hk
    show _ = vp_V _ k
    unfold vp_V
    rw [List.getD_eq_getElem?_getD, List.getElem?_map, List.getElem?_range hk2, (hf.2 k hk).1]
    have h3 := (hf.2 k hk).2
    show xdv (fks.getD k 0) = xup (b0, 0, K) (xfv τ0 1 k (fks.getD k 0))
    generalize fks.getD k 0 = kd at h3
    match kd, h3 with
    | 0, _ => rfl
    | 1, _ => rfl
    | 2, _ => rfl
  · refine xcell_congr ?_ rfl rfl rfl
    match j, hj with
    | 0, _ => rfl
    | 1, hj => exact absurd rfl hj
    | j + 2, _ => rfl
  · exact ⟨by rw [z1]; exact Nat.le_succ_of_le hb0, fun q h1 h2 => (o1 q (Nat.lt_of_lt_of_le h1 hb0)).trans (hS.2.1 q h1 h2), hS.2.2⟩
theorem lInit {b0 idx pc cells slots : Nat} {P : xP} {τ : xT} {M' : xY} {Q0 : Option Value → xP → xT → Prop} {rest : List Value} {H : Heap} {locs : List Loc} {ls : Array Slot} {Q : State → Prop} (C : LC p s m meth c b L xs K) (hb0 : s.heap.size ≤ b0) (hS : va_S (fun q => s.heap.size ≤ q) s.heap H locs) (hH : xH (b0, 0, K) P τ H) (hls : ls.size = 4) (hd : decode code pc = .ok (.invokespecial idx, 3)) (hm : xMt M' 0) (hl : Cond.methodLink "WaitedPostLaw" idx M'.1 ∈ xtbl) (hin : Cond.instanceMethod M'.1 ∈ xtbl ∧ M'.1.name = "<init>" ∧ M'.2.2.2.1 = none) (hrm : M'.2.2.2.2.frames + 1 ≤ room_1.frames ∧ 8 + (M'.2.2.1 + 11) + M'.2.2.2.2.locals ≤ room_1.locals) (hcs : cells + M'.2.2.2.2.cells ≤ room_1.cells ∧ slots + M'.2.2.2.2.slots ≤ room_1.slots) (hw : (rest.map fun v => v.category).sum ≤ 8) (hC : Ct (b0, 0, K) M' [.ref 1] P τ Q0)
    (k : ∀ (r : Option Value) (P' : xP) (τ' : xT) (H' : Heap) (locs' : List Loc), Q0 r P' τ' → xH (b0, 0, K) P' τ' H' → (∀ q : Nat, q < H.size → q < b0 → H'[q]? = H[q]?) → va_S (fun q => s.heap.size ≤ q) s.heap H' locs' → W p l e room_1 s m #[Value.ref b] below meth c H' locs' (cells + M'.2.2.2.2.cells) (slots + M'.2.2.2.2.slots) Q (F0 m (pc + 3) ls ((r.map (xup (b0, 0, K))).toList ++ rest))) :
    W p l e room_1 s m #[Value.ref b] below meth c H locs cells slots Q (F0 m pc ls (.ref b0 :: rest)) := by
  have hts := C.2.2.2.2.2.1
  have hcb : CallB room_1 s #[Value.ref b] R_law idx M'.1 M'.2.1 M'.2.2.1 M'.2.2.2.1 (xyw M') M'.2.2.2.2 M'.2.2.2.2.cells M'.2.2.2.2.slots 0 := callB_of 0 hts (xyw_good hm) rfl rfl rfl (hts _ hm.2.1) (hts _ hl) ⟨hm.2.2.1.1, hm.2.2.1.2, hm.2.2.2⟩ hrm
  rw [hin.2.2] at hcb
  exact lGo hb0 hS hH (va_runI (n := 0) (As := []) (b := b0) (rest := rest) ⟨C.1, C.2.1, C.2.2.2.1, C.2.2.2.2.1, hts⟩ (hC l) ⟨hcb, hin.2.1, hts _ hin.1⟩ ⟨xblind, lpre C hb0 hH hS [.ref 1]⟩ rfl rfl hls rfl (lv_room hw) hd hcs) (fun r P' τ' H' locs' q0 q1 q2 q3 q4 q5 q6 => k r P' τ' H' locs' q0 q3 q4 q6)
end LW3
def S0 : SA := (fun _ => 0, 0, (0, 0, 1, fun _ => 0, fun _ => 0), (0, 0, 0, 0, 0, fun _ => 0, fun _ => 0), [], fun _ => none, 0)
theorem S0_ok : SAok 0 S0 := ⟨Nat.zero_le _, fun i hi => absurd hi (Nat.not_lt_zero i), ⟨Nat.zero_le _, Nat.zero_le _, ⟨Nat.le_refl _, (by decide)⟩, fun k hk => absurd hk (Nat.not_lt_zero k), fun k hk => absurd hk (Nat.not_lt_zero k)⟩, ⟨Nat.zero_le _, (by decide : 0 < 2 ^ 0), Nat.zero_le _, (by decide : 0 < 2 ^ 0), Nat.zero_le _, fun k hk => absurd hk (Nat.not_lt_zero k), fun k hk => absurd hk (Nat.not_lt_zero k)⟩, Nat.zero_le _, fun a (ha : a ∈ ([] : List SN)) => absurd ha (by simp), fun j a (ha : (none : Option SN) = some a) => absurd ha (by simp)⟩
theorem RW_0 {τ : xT} (h1 : τ.1 = (xsi (xsi τ0 4 1 (nI 1)) 8 1 (nI 1)).1) (h2 : τ.2.1 = τ0.2.1) (h3 : ∀ j, j < 14 → τ.2.2 18 j = 19 + 3 * j) (h4 : ∀ j, j < 2 → τ.2.2 61 j = 62 + 3 * j) : RW τ 0 S0 := by
  have z : ∀ a k, a ≠ 0 → a ≠ 4 → a ≠ 8 → τ.1 a k = nI 0 := fun a k ha h4 h8 => by
    rw [h1, xsi_ne _ _ _ h8, xsi_ne _ _ _ h4]
    exact if_neg ha
  have z8 : ∀ k, k ≠ 1 → τ.1 8 k = nI 0 := fun k hk => by
    rw [h1, xsi_un _ _ hk, xsi_ne _ _ _ (by decide)]
    rfl
  refine ⟨S0_ok, fun i hi => absurd hi (Nat.not_lt_zero i), z 1 1 (by decide) (by decide) (by decide), ⟨z8 0 (by decide), ?_, z8 2 (by decide), fun i hi => absurd hi (Nat.not_lt_zero i), fun i hi => absurd hi (Nat.not_lt_zero i)⟩, ⟨z 12 0 (by decide) (by decide) (by decide), z 12 1 (by decide) (by decide) (by decide), z 12 2 (by decide) (by decide) (by decide), z 12 3 (by decide) (by decide) (by decide), z 12 4 (by decide) (by decide) (by decide), fun i hi => absurd hi (Nat.not_lt_zero i), fun i hi => absurd hi (Nat.not_lt_zero i)⟩, ⟨z 1 7 (by decide) (by decide) (by decide), Nat.zero_le _, fun j hj => ?_, fun i j hi hj e => ?_, fun j s' hs' => by cases hs'⟩, ⟨h4, ⟨0, by decide, z 1 9 (by decide) (by decide) (by decide), fun j hj => ⟨fun e => by unfold bt at e; rw [Nat.zero_div] at e; exact absurd e (by decide), fun e => by cases e⟩⟩, fun j s' hj hs' => by cases hs'⟩, ?_⟩
  · rw [h1, xsi_at]; rfl
  · rw [h3 j hj]
    have : j = 0 ∨ j = 1 ∨ j = 2 ∨ j = 3 ∨ j = 4 ∨ j = 5 ∨ j = 6 ∨ j = 7 ∨ j = 8 ∨ j = 9 ∨ j = 10 ∨ j = 11 ∨ j = 12 ∨ j = 13 := by omega
    rcases this with rfl | rfl | rfl | rfl | rfl | rfl | rfl | rfl | rfl | rfl | rfl | rfl | rfl | rfl <;> decide
  · rw [h3 i hi, h3 j hj] at e
    omega
  · rw [h2]; rfl
theorem RM_0 : RM (xsi τ0 1 2 (nI 1)) 0 S0 := by
  have z : ∀ a k, a ≠ 0 → ¬ (a = 1 ∧ k = 2) → (xsi τ0 1 2 (nI 1)).1 a k = nI 0 := fun a k ha h => by
    by_cases e : a = 1
    · subst e
      rw [xsi_un _ _ (fun q => h ⟨rfl, q⟩)]; rfl
    · rw [xsi_ne _ _ _ e]; exact if_neg ha
  refine ⟨S0_ok, fun i hi => absurd hi (Nat.not_lt_zero i), z 1 13 (by decide) (by decide), ⟨z 1 0 (by decide) (by decide), z 1 1 (by decide) (by decide), xsi_at _ _ _ _, fun i hi => absurd hi (Nat.not_lt_zero i), fun i hi => absurd hi (Nat.not_lt_zero i)⟩, ⟨fun i hi => absurd hi (Nat.not_lt_zero i), fun i hi => absurd hi (Nat.not_lt_zero i), z 4 _ (by decide) (by decide), z 4 _ (by decide) (by decide), z 4 _ (by decide) (by decide), z 4 _ (by decide) (by decide), z 4 _ (by decide) (by decide)⟩, ⟨0, by decide, z 1 17 (by decide) (by decide), z 1 16 (by decide) (by decide), Nat.zero_le _, fun j s' hs' => by cases hs'⟩, fun j hj => ⟨?_, fun s' hs' => by cases hs'⟩, rfl⟩
  rw [z 11 j (by decide) (fun q => absurd q.1 (by decide))]; rfl
set_option maxHeartbeats 4000000 in
set_option maxRecDepth 100000 in
/-- THE LAW, from its entry -/
theorem whole_start {p : Program} {e : Env} {s : State} {m : MethodId} {below : List Frame} {meth : Method} {c : Code} (l : Launch) (hflags : l.flags = flags0) {b L : Nat} {xs : Nat → Int32} (hL : L ≤ 320) (C0 : lw_At p s m meth c b L xs) : W p l e room_1 s m #[Value.ref b] below meth c s.heap [] 0 0 (lw_Z below #[Value.ref b] s) (entryFrame m ([Value.ref b] : List Value).toArray 4) := by
  obtain ⟨hx, hb, hr, hml, hown, hts, hX, hbl, hlocks, hgv⟩ := id C0
  obtain ⟨t, D, cI, cJ, cZ, cS, hK⟩ := lg_K hts hgv
  have C : LC p s m meth c b L xs (t, D, cI, cJ, cZ, cS) := ⟨hx, hb, hr, hml, hown, fun w hw => hts w (x_in hw), hX, hbl, hlocks, hK⟩
  have hS : va_S (fun q : Nat => s.heap.size ≤ q) s.heap s.heap [] := va_S.rf
  have hl := lv_entry ([.ref b]) (n := 4) (Nat.le_of_ble_eq_true rfl)
  rw [lg_entry_eq]
  generalize (lg_sl ([.ref b]) ++ List.replicate (4 - (lg_sl ([.ref b])).length) Slot.unset).toArray = ls at hl ⊢
  have hl : lv_has ls 4 [(0, .ref b)] := hl
  refine lNew [2, 0, 2, 2, 2, 2, 2, 0, 2, 0, 2, 2, 1] C (Nat.le_refl _) rfl hS dL_law_0 cl_X4 nw_L_7 hf_X4 (by decide) (by decide) (fun H1 z1 o1 hH1 hS1 => ?_)
  refine lv_dup hx hb dL_law_3 rfl ?_
  refine lInit C (Nat.le_refl _) hS1 hH1 hl.1 dL_law_4 k_X4_init l_L_9 ⟨v_X4_init, rfl, rfl⟩ ⟨by decide, by decide⟩ ⟨by decide, by decide⟩ (rest := [.ref s.heap.size]) (Nat.le_of_ble_eq_true rfl) (t_X4 _ rfl (Zr0.up (Nat.zero_le 1))) (fun r P2 τ2 H2 locs2 q2 hH2 f2 hS2 => ?_)
  obtain ⟨rfl, rfl, r1, r2, r3, r4⟩ := q2
  have z2 : H2.size = s.heap.size + 70 := hH2.1
  refine lv_astore_n (lv' := [(1, .ref s.heap.size), (0, .ref b)]) hx hb dL_law_7 rfl hl (by decide) rfl (fun ls hl => ?_)
  refine lNew [0, 0, 0, 2, 2, 2, 2, 2, 2, 0, 0, 0, 2, 0, 0, 0, 0, 0, 2, 0, 2, 1, 2, 2] C (b0 := s.heap.size + 70) (Nat.le_add_right _ _) z2 hS2 dL_law_8 cl_X5 nw_L_10 hf_X5 (by decide) (by decide) (fun H3 z3 o3 hH3 hS3 => ?_)
  refine lv_dup hx hb dL_law_11 rfl ?_
  refine lInit C (Nat.le_add_right _ _) hS3 hH3 hl.1 dL_law_12 k_X5_init l_L_12 ⟨v_X5_init, rfl, rfl⟩ ⟨by decide, by decide⟩ ⟨by decide, by decide⟩ (rest := [.ref (s.heap.size + 70)]) (Nat.le_of_ble_eq_true rfl) (t_X5 _ rfl (Zr0.up (Nat.zero_le 1))) (fun r P4 τ4 H4 locs4 q4 hH4 f4 hS4 => ?_)
  obtain ⟨rfl, rfl, rfl⟩ := q4
  have z4 : H4.size = s.heap.size + 82 := hH4.1
  have hW : xH (s.heap.size, 12, t, D, cI, cJ, cZ, cS) PW τ2 H4 := hH2.keep (e' := 12) (by rw [z4]; show s.heap.size + 82 = s.heap.size + 70 + 12; omega) (fun q h1 h2 => by
    have h2 : q < s.heap.size + 70 := h2
    rw [f4 q (by rw [z3]; omega) h2, o3 q h2])
  refine lv_astore_n (lv' := [(2, .ref (s.heap.size + 70)), (1, .ref s.heap.size), (0, .ref b)]) hx hb dL_law_15 rfl hl (by decide) rfl (fun ls hl => ?_)
  refine lv_iconst (v := nI 0) hx hb dL_law_16 (by decide) ?_
  refine lv_istore_n (lv' := [(3, .int (nI 0)), (2, .ref (s.heap.size + 70)), (1, .ref s.heap.size), (0, .ref b)]) hx hb dL_law_17 rfl hl (by decide) rfl (fun ls hl => ?_)
  exact law_loop C hL L 0 0 S0 (by omega) (Nat.le_refl _) (Nat.zero_le _) H4 _ ls τ2 _ z4 hW hH4 hS4 (RW_0 r1 r2 r3 r4) RM_0 (lv_sub hl [0, 3, 2, 1] rfl)
