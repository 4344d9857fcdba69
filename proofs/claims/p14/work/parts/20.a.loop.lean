theorem i_off {i x : Int32} {L k : Nat} (h0 : 0 ≤ i.toInt) (h1 : i.toInt + 6 ≤ L) (hL : L ≤ 3072) (hk : k ≤ 5) (e : x.toInt = (k : Int)) : vp_in (i + x) L := by
  have h9 : (i + x).toInt = i.toInt + x.toInt := i_add (a := i.toInt) (b := x.toInt) rfl rfl rfl (by omega) (by omega)
  exact i_in (by omega) (by omega)
set_option maxHeartbeats 4000000 in
set_option maxRecDepth 100000 in
theorem law_loop {p : Program} {l : Launch} {e : Env} {s : State} {m : MethodId} {below : List Frame} {meth : Method} {c : Code} {dC : Nat → ClassId} {dI : Nat → Nat → Nat} {b : Nat} {xs : Nat → Int32} {K : Nat → ClassId} {ox om oo L : Nat} (hl9 : l.stackTraces = false) (hL : L ≤ 3072) (C0 : lw_At p s m meth c b L xs) (hE : EX s) (hK : va_K (dC, dI) vwCl [(K 0, .int), (K 1, .boolean), (K 2, .long), (K 3, .object "PatternWorkshop$Tree"), (K 4, .object "PatternWorkshop$Row"), (K 5, .object "PatternWorkshop$Group")] s) (n9 : Nat) : ∀ (hd : Nat → Nat) (OS : Int32) (GT GS QC QS : Nat) (sT : Nat → Bool) (sC : Nat → Int32) (MT : Nat → Bool) (ML : Nat → Int32) (sI : Nat → Nat → Int32) (MS : Nat → Int32) (MH : Int32) (c9 : Nat → va_W) (H : Heap) (locs : List Loc) (cc ss : Nat) (ls : Array Slot) (i9 : Int32), (hd 0 = om ∧ hd 1 = ox ∧ hd 60 = oo) → 0 ≤ i9.toInt → (i9.toInt ≤ 3072 ∧ (L : Int) < i9.toInt + 6 * (n9 : Int)) → GI (dC, dI) vwCl c9 (fun q : Nat => s.heap.size ≤ q) H → SH K hd OS GT GS QC QS sT sC MT ML sI MS MH c9 → OPN hd OS GT GS → REL sT sC MT ML sI MS → (cc + QC + n9 ≤ 60000 ∧ ss + QS + 8 * n9 ≤ 7000000) → va_S (fun q : Nat => s.heap.size ≤ q) s.heap H locs → lv_has ls 7 [(4, .int i9), (3, .ref oo), (2, .ref om), (1, .ref ox), (0, .ref b)] → W p l e room_1 s m #[Value.ref b] below meth c H locs cc ss (lw_Z below #[Value.ref b] s) (F0 m 23 ls []) := by
  obtain ⟨hx, hb, hr, hml, hown, hts, hX, hbl, hlocks, hgv⟩ := id C0
  have hA : ∀ q : Nat, s.heap.size ≤ q → (fun q : Nat => s.heap.size ≤ q) q := fun _ h => h
  have hbA : ¬ (fun q : Nat => s.heap.size ≤ q) b := Nat.not_le.mpr hbl
  have ht : ∀ w ∈ TW, w.before #[Value.ref b] s = true := fun w h => hts w (List.mem_filter.mp h).1
  have hr1 : room_1.cells = 63072 := rfl
  have hr2 : room_1.slots = 8806538 := rfl
  induction n9 with
  | zero =>
    intro hd OS GT GS QC QS sT sC MT ML sI MS MH c9 H locs cc ss ls i9 hhd h0 hn hG hSH hop hrel hcb hS hl
    obtain ⟨rfl, rfl, rfl⟩ := hhd
    refine lv_iload hx hb dL_law_23 (lv_at hl 0 rfl) ?_
    refine lv_aload_n hx hb dL_law_25 rfl (lv_at hl 4 rfl) ?_
    refine va_slen hx hb hX hbl hbA hS dL_law_26 ?_
    refine lv_topi (fun y_1 ey_1 => ?_)
    have ey_1 : y_1 = Int32.ofNat L := ey_1
    have fy_1 : y_1.toInt = (L : Int) := i_len ey_1 (by omega)
    refine lv_bipush (v := 6) hx hb dL_law_27 (by decide) ?_
    refine lv_isub hx hb dL_law_29 ?_
    refine lv_topi (fun y_2 ey_2 => ?_)
    have ey_2 : y_2 = y_1 - 6 := ey_2
    have fy_2 : y_2.toInt = y_1.toInt - 6 := i_sub (a := y_1.toInt) (b := 6) ey_2 rfl rfl (by omega) (by omega)
    refine lv_icmp_gt (tgt := 1403) hx hb dL_law_30 (by decide) (fun c_1 => ?_) (fun c_1 => absurd (Int32.lt_iff_toInt_lt.mpr (by omega)) c_1)
    refine lv_iconst (v := 1) hx hb dL_law_1403 (by decide) ?_
    refine va_forget (fun q hq => hS.2.2 q hq) ?_
    refine W.widen (k := 63072) (n := 8806538) (by omega) (by omega) ?_
    exact lw_ret hx hb hr hlocks dL_law_1404
  | succ n9 ih =>
    intro hd OS GT GS QC QS sT sC MT ML sI MS MH c9 H locs cc ss ls i9 hhd h0 hn hG hSH hop hrel hcb hS hl
    obtain ⟨rfl, rfl, rfl⟩ := hhd
    refine lv_iload hx hb dL_law_23 (lv_at hl 0 rfl) ?_
    refine lv_aload_n hx hb dL_law_25 rfl (lv_at hl 4 rfl) ?_
    refine va_slen hx hb hX hbl hbA hS dL_law_26 ?_
    refine lv_topi (fun y_1 ey_1 => ?_)
    have ey_1 : y_1 = Int32.ofNat L := ey_1
    have fy_1 : y_1.toInt = (L : Int) := i_len ey_1 (by omega)
    refine lv_bipush (v := 6) hx hb dL_law_27 (by decide) ?_
    refine lv_isub hx hb dL_law_29 ?_
    refine lv_topi (fun y_2 ey_2 => ?_)
    have ey_2 : y_2 = y_1 - 6 := ey_2
    have fy_2 : y_2.toInt = y_1.toInt - 6 := i_sub (a := y_1.toInt) (b := 6) ey_2 rfl rfl (by omega) (by omega)
    refine lv_icmp_gt (tgt := 1403) hx hb dL_law_30 (by decide) (fun c_1 => ?_) (fun c_1 => ?_)
    · refine lv_iconst (v := 1) hx hb dL_law_1403 (by decide) ?_
      refine va_forget (fun q hq => hS.2.2 q hq) ?_
      refine W.widen (k := 63072) (n := 8806538) (by omega) (by omega) ?_
      exact lw_ret hx hb hr hlocks dL_law_1404
    · have g1 : ¬ y_2.toInt < i9.toInt := fun h => c_1 (Int32.lt_iff_toInt_lt.mpr h)
      have hin0 : vp_in i9 L := i_in (by omega) (by omega)
      have hin1 : vp_in (i9 + 1) L := i_off (k := 1) h0 (by omega) hL (by omega) rfl
      have hin2 : vp_in (i9 + 2) L := i_off (k := 2) h0 (by omega) hL (by omega) rfl
      have hin3 : vp_in (i9 + 3) L := i_off (k := 3) h0 (by omega) hL (by omega) rfl
      have hin4 : vp_in (i9 + 4) L := i_off (k := 4) h0 (by omega) hL (by omega) rfl
      have hin5 : vp_in (i9 + 5) L := i_off (k := 5) h0 (by omega) hL (by omega) rfl
      have kk : ∀ (hd2 : Nat → Nat) (OS2 : Int32) (GT2 GS2 QC2 QS2 : Nat) (sT2 : Nat → Bool) (sC2 : Nat → Int32) (MT2 : Nat → Bool) (ML2 : Nat → Int32) (sI2 : Nat → Nat → Int32) (MS2 : Nat → Int32) (MH2 : Int32) (c2 : Nat → va_W) (H2 : Heap) (locs2 : List Loc) (cc2 ss2 : Nat) (ls2 : Array Slot), (hd2 0 = hd 0 ∧ hd2 1 = hd 1 ∧ hd2 60 = hd 60) → GI (dC, dI) vwCl c2 (fun q : Nat => s.heap.size ≤ q) H2 → SH K hd2 OS2 GT2 GS2 QC2 QS2 sT2 sC2 MT2 ML2 sI2 MS2 MH2 c2 → OPN hd2 OS2 GT2 GS2 → REL sT2 sC2 MT2 ML2 sI2 MS2 → (cc2 + QC2 ≤ cc + QC + 1 ∧ ss2 + QS2 ≤ ss + QS + 8) → va_S (fun q : Nat => s.heap.size ≤ q) s.heap H2 locs2 → lv_has ls2 7 [(4, .int i9), (3, .ref (hd 60)), (2, .ref (hd 0)), (1, .ref (hd 1)), (0, .ref b)] → W p l e room_1 s m #[Value.ref b] below meth c H2 locs2 cc2 ss2 (lw_Z below #[Value.ref b] s) (F0 m 1397 ls2 []) := by
        intro hd2 OS2 GT2 GS2 QC2 QS2 sT2 sC2 MT2 ML2 sI2 MS2 MH2 c2 H2 locs2 cc2 ss2 ls2 e2 hG2 hSH2 hop2 hrel2 hcb2 hS2 hl2
        obtain ⟨x_6, ex_6⟩ : ∃ y : Int32, y = i9 + 6 := ⟨_, rfl⟩
        have fx_6 : x_6.toInt = i9.toInt + 6 := i_add (a := i9.toInt) (b := 6) ex_6 rfl rfl (by omega) (by omega)
        refine lv_iinc (v := x_6) (lv' := [(4, .int x_6), (3, .ref (hd 60)), (2, .ref (hd 0)), (1, .ref (hd 1)), (0, .ref b)]) hx hb dL_law_1397 hl2 (k := 0) rfl ex_6.symm (by decide) rfl (fun ls_6 hl_6 => ?_)
        refine lv_goto (tgt := 23) hx hb dL_law_1400 (by decide) ?_
        exact ih hd2 OS2 GT2 GS2 QC2 QS2 sT2 sC2 MT2 ML2 sI2 MS2 MH2 c2 H2 locs2 cc2 ss2 ls_6 x_6 e2 (by omega) ⟨by omega, by omega⟩ hG2 hSH2 hop2 hrel2 ⟨by omega, by omega⟩ hS2 hl_6
      refine lv_aload_n hx hb dL_law_33 rfl (lv_at hl 4 rfl) ?_
      refine lv_iload hx hb dL_law_34 (lv_at hl 0 rfl) ?_
      refine va_sld hx hb hX hbl hbA hS (i := i9) hin0 dL_law_36 ?_
      refine lv_topi (fun a_0 ea_0 => ?_)
      have ea_0 : a_0 = xs i9.toNatClampNeg := ea_0
      refine lv_bipush (v := 31) hx hb dL_law_37 (by decide) ?_
      refine lv_iand hx hb dL_law_39 ?_
      obtain ⟨j, hj, ej⟩ := pk_andE a_0 (m := 31) 5 (by decide)
      refine lv_topi (fun y_40 ey_40 => ?_)
      have ey_40 : y_40 = nI j := ey_40.trans ej
      clear ej
      rcases (show j = 0 ∨ j = 1 ∨ j = 2 ∨ j = 3 ∨ j = 4 ∨ j = 5 ∨ j = 6 ∨ j = 7 ∨ j = 8 ∨ j = 9 ∨ j = 10 ∨ j = 11 ∨ j = 12 ∨ j = 13 ∨ j = 14 ∨ j = 15 ∨ j = 16 ∨ j = 17 ∨ j = 18 ∨ j = 19 ∨ j = 20 ∨ j = 21 ∨ j = 22 ∨ j = 23 ∨ j = 24 ∨ j = 25 ∨ j = 26 ∨ j = 27 ∨ j = 28 ∨ j = 29 ∨ j = 30 ∨ j = 31 by omega) with rfl | rfl | rfl | rfl | rfl | rfl | rfl | rfl | rfl | rfl | rfl | rfl | rfl | rfl | rfl | rfl | rfl | rfl | rfl | rfl | rfl | rfl | rfl | rfl | rfl | rfl | rfl | rfl | rfl | rfl | rfl | rfl
      · obtain rfl : y_40 = 0 := ey_40.trans (by decide)
        refine lv_tableIn (tgt := 180) (off := 140) hx hb dL_law_40 (by decide) (by decide) (by decide) (by decide) ?_
        exact lc_0 C0 hE hK hin0 hin1 hin2 hin3 hin4 hin5 H locs cc ss hG hSH hop hrel ⟨Nat.le_refl _, Nat.le_refl _⟩ ⟨by omega, by omega⟩ hS ls hl kk
      · obtain rfl : y_40 = 1 := ey_40.trans (by decide)
        refine lv_tableIn (tgt := 249) (off := 209) hx hb dL_law_40 (by decide) (by decide) (by decide) (by decide) ?_
        exact lc_1 C0 hE hK hin0 hin1 hin2 hin3 hin4 hin5 H locs cc ss hG hSH hop hrel ⟨Nat.le_refl _, Nat.le_refl _⟩ ⟨by omega, by omega⟩ hS ls hl kk
      · obtain rfl : y_40 = 2 := ey_40.trans (by decide)
        refine lv_tableIn (tgt := 274) (off := 234) hx hb dL_law_40 (by decide) (by decide) (by decide) (by decide) ?_
        exact lc_2 C0 hE hK hin0 hin1 hin2 hin3 hin4 hin5 H locs cc ss hG hSH hop hrel ⟨Nat.le_refl _, Nat.le_refl _⟩ ⟨by omega, by omega⟩ hS ls hl kk
      · obtain rfl : y_40 = 3 := ey_40.trans (by decide)
        refine lv_tableIn (tgt := 287) (off := 247) hx hb dL_law_40 (by decide) (by decide) (by decide) (by decide) ?_
        exact lc_3 C0 hE hK hin0 hin1 hin2 hin3 hin4 hin5 H locs cc ss hG hSH hop hrel ⟨Nat.le_refl _, Nat.le_refl _⟩ ⟨by omega, by omega⟩ hS ls hl kk
      · obtain rfl : y_40 = 4 := ey_40.trans (by decide)
        refine lv_tableIn (tgt := 312) (off := 272) hx hb dL_law_40 (by decide) (by decide) (by decide) (by decide) ?_
        exact lc_4 C0 hE hK hin0 hin1 hin2 hin3 hin4 hin5 H locs cc ss hG hSH hop hrel ⟨Nat.le_refl _, Nat.le_refl _⟩ ⟨by omega, by omega⟩ hS ls hl kk
      · obtain rfl : y_40 = 5 := ey_40.trans (by decide)
        refine lv_tableIn (tgt := 361) (off := 321) hx hb dL_law_40 (by decide) (by decide) (by decide) (by decide) ?_
        exact lc_5 C0 hE hK hin0 hin1 hin2 hin3 hin4 hin5 H locs cc ss hG hSH hop hrel ⟨Nat.le_refl _, Nat.le_refl _⟩ ⟨by omega, by omega⟩ hS ls hl kk
      · obtain rfl : y_40 = 6 := ey_40.trans (by decide)
        refine lv_tableIn (tgt := 438) (off := 398) hx hb dL_law_40 (by decide) (by decide) (by decide) (by decide) ?_
        exact lc_6 C0 hE hK hin0 hin1 hin2 hin3 hin4 hin5 H locs cc ss hG hSH hop hrel ⟨Nat.le_refl _, Nat.le_refl _⟩ ⟨by omega, by omega⟩ hS ls hl kk
      · obtain rfl : y_40 = 7 := ey_40.trans (by decide)
        refine lv_tableIn (tgt := 463) (off := 423) hx hb dL_law_40 (by decide) (by decide) (by decide) (by decide) ?_
        exact lc_7 C0 hE hK hin0 hin1 hin2 hin3 hin4 hin5 H locs cc ss hG hSH hop hrel ⟨Nat.le_refl _, Nat.le_refl _⟩ ⟨by omega, by omega⟩ hS ls hl kk
      · obtain rfl : y_40 = 8 := ey_40.trans (by decide)
        refine lv_tableIn (tgt := 500) (off := 460) hx hb dL_law_40 (by decide) (by decide) (by decide) (by decide) ?_
        exact lc_8 C0 hE hK hin0 hin1 hin2 hin3 hin4 hin5 H locs cc ss hG hSH hop hrel ⟨Nat.le_refl _, Nat.le_refl _⟩ ⟨by omega, by omega⟩ hS ls hl kk
      · obtain rfl : y_40 = 9 := ey_40.trans (by decide)
        refine lv_tableIn (tgt := 525) (off := 485) hx hb dL_law_40 (by decide) (by decide) (by decide) (by decide) ?_
        exact lc_9 C0 hE hK hin0 hin1 hin2 hin3 hin4 hin5 H locs cc ss hG hSH hop hrel ⟨Nat.le_refl _, Nat.le_refl _⟩ ⟨by omega, by omega⟩ hS ls hl kk
      · obtain rfl : y_40 = 10 := ey_40.trans (by decide)
        refine lv_tableIn (tgt := 562) (off := 522) hx hb dL_law_40 (by decide) (by decide) (by decide) (by decide) ?_
        exact lc_10 C0 hE hK hin0 hin1 hin2 hin3 hin4 hin5 H locs cc ss hG hSH hop hrel ⟨Nat.le_refl _, Nat.le_refl _⟩ ⟨by omega, by omega⟩ hS ls hl kk
      · obtain rfl : y_40 = 11 := ey_40.trans (by decide)
        refine lv_tableIn (tgt := 643) (off := 603) hx hb dL_law_40 (by decide) (by decide) (by decide) (by decide) ?_
        exact lc_11 C0 hE hK hin0 hin1 hin2 hin3 hin4 hin5 H locs cc ss hG hSH hop hrel ⟨Nat.le_refl _, Nat.le_refl _⟩ ⟨by omega, by omega⟩ hS ls hl kk
      · obtain rfl : y_40 = 12 := ey_40.trans (by decide)
        refine lv_tableIn (tgt := 668) (off := 628) hx hb dL_law_40 (by decide) (by decide) (by decide) (by decide) ?_
        exact lc_12 hl9 C0 hE hK hin0 hin1 hin2 hin3 hin4 hin5 H locs cc ss hG hSH hop hrel ⟨Nat.le_refl _, Nat.le_refl _⟩ ⟨by omega, by omega⟩ hS ls hl kk
      · obtain rfl : y_40 = 13 := ey_40.trans (by decide)
        refine lv_tableIn (tgt := 736) (off := 696) hx hb dL_law_40 (by decide) (by decide) (by decide) (by decide) ?_
        exact lc_13 C0 hE hK hin0 hin1 hin2 hin3 hin4 hin5 H locs cc ss hG hSH hop hrel ⟨Nat.le_refl _, Nat.le_refl _⟩ ⟨by omega, by omega⟩ hS ls hl kk
      · obtain rfl : y_40 = 14 := ey_40.trans (by decide)
        refine lv_tableIn (tgt := 809) (off := 769) hx hb dL_law_40 (by decide) (by decide) (by decide) (by decide) ?_
        exact lc_14 C0 hE hK hin0 hin1 hin2 hin3 hin4 hin5 H locs cc ss hG hSH hop hrel ⟨Nat.le_refl _, Nat.le_refl _⟩ ⟨by omega, by omega⟩ hS ls hl kk
      · obtain rfl : y_40 = 15 := ey_40.trans (by decide)
        refine lv_tableIn (tgt := 834) (off := 794) hx hb dL_law_40 (by decide) (by decide) (by decide) (by decide) ?_
        exact lc_15 C0 hE hK hin0 hin1 hin2 hin3 hin4 hin5 H locs cc ss hG hSH hop hrel ⟨Nat.le_refl _, Nat.le_refl _⟩ ⟨by omega, by omega⟩ hS ls hl kk
      · obtain rfl : y_40 = 16 := ey_40.trans (by decide)
        refine lv_tableIn (tgt := 887) (off := 847) hx hb dL_law_40 (by decide) (by decide) (by decide) (by decide) ?_
        exact lc_16 C0 hE hK hin0 hin1 hin2 hin3 hin4 hin5 H locs cc ss hG hSH hop hrel ⟨Nat.le_refl _, Nat.le_refl _⟩ ⟨by omega, by omega⟩ hS ls hl kk
      · obtain rfl : y_40 = 17 := ey_40.trans (by decide)
        refine lv_tableIn (tgt := 924) (off := 884) hx hb dL_law_40 (by decide) (by decide) (by decide) (by decide) ?_
        exact lc_17 C0 hE hK hin0 hin1 hin2 hin3 hin4 hin5 H locs cc ss hG hSH hop hrel ⟨Nat.le_refl _, Nat.le_refl _⟩ ⟨by omega, by omega⟩ hS ls hl kk
      · obtain rfl : y_40 = 18 := ey_40.trans (by decide)
        refine lv_tableIn (tgt := 973) (off := 933) hx hb dL_law_40 (by decide) (by decide) (by decide) (by decide) ?_
        exact lc_18 C0 hE hK hin0 hin1 hin2 hin3 hin4 hin5 H locs cc ss hG hSH hop hrel ⟨Nat.le_refl _, Nat.le_refl _⟩ ⟨by omega, by omega⟩ hS ls hl kk
      · obtain rfl : y_40 = 19 := ey_40.trans (by decide)
        refine lv_tableIn (tgt := 1022) (off := 982) hx hb dL_law_40 (by decide) (by decide) (by decide) (by decide) ?_
        exact lc_19 C0 hE hK hin0 hin1 hin2 hin3 hin4 hin5 H locs cc ss hG hSH hop hrel ⟨Nat.le_refl _, Nat.le_refl _⟩ ⟨by omega, by omega⟩ hS ls hl kk
      · obtain rfl : y_40 = 20 := ey_40.trans (by decide)
        refine lv_tableIn (tgt := 1071) (off := 1031) hx hb dL_law_40 (by decide) (by decide) (by decide) (by decide) ?_
        exact lc_20 C0 hE hK hin0 hin1 hin2 hin3 hin4 hin5 H locs cc ss hG hSH hop hrel ⟨Nat.le_refl _, Nat.le_refl _⟩ ⟨by omega, by omega⟩ hS ls hl kk
      · obtain rfl : y_40 = 21 := ey_40.trans (by decide)
        refine lv_tableIn (tgt := 1132) (off := 1092) hx hb dL_law_40 (by decide) (by decide) (by decide) (by decide) ?_
        exact lc_21 C0 hE hK hin0 hin1 hin2 hin3 hin4 hin5 H locs cc ss hG hSH hop hrel ⟨Nat.le_refl _, Nat.le_refl _⟩ ⟨by omega, by omega⟩ hS ls hl kk
      · obtain rfl : y_40 = 22 := ey_40.trans (by decide)
        refine lv_tableIn (tgt := 1181) (off := 1141) hx hb dL_law_40 (by decide) (by decide) (by decide) (by decide) ?_
        exact lc_22 C0 hE hK hin0 hin1 hin2 hin3 hin4 hin5 H locs cc ss hG hSH hop hrel ⟨Nat.le_refl _, Nat.le_refl _⟩ ⟨by omega, by omega⟩ hS ls hl kk
      · obtain rfl : y_40 = 23 := ey_40.trans (by decide)
        refine lv_tableIn (tgt := 1194) (off := 1154) hx hb dL_law_40 (by decide) (by decide) (by decide) (by decide) ?_
        exact lc_23 C0 hE hK hin0 hin1 hin2 hin3 hin4 hin5 H locs cc ss hG hSH hop hrel ⟨Nat.le_refl _, Nat.le_refl _⟩ ⟨by omega, by omega⟩ hS ls hl kk
      · obtain rfl : y_40 = 24 := ey_40.trans (by decide)
        refine lv_tableIn (tgt := 1219) (off := 1179) hx hb dL_law_40 (by decide) (by decide) (by decide) (by decide) ?_
        exact lc_24 C0 hE hK hin0 hin1 hin2 hin3 hin4 hin5 H locs cc ss hG hSH hop hrel ⟨Nat.le_refl _, Nat.le_refl _⟩ ⟨by omega, by omega⟩ hS ls hl kk
      · obtain rfl : y_40 = 25 := ey_40.trans (by decide)
        refine lv_tableIn (tgt := 1244) (off := 1204) hx hb dL_law_40 (by decide) (by decide) (by decide) (by decide) ?_
        exact lc_25 C0 hE hK hin0 hin1 hin2 hin3 hin4 hin5 H locs cc ss hG hSH hop hrel ⟨Nat.le_refl _, Nat.le_refl _⟩ ⟨by omega, by omega⟩ hS ls hl kk
      · obtain rfl : y_40 = 26 := ey_40.trans (by decide)
        refine lv_tableIn (tgt := 1281) (off := 1241) hx hb dL_law_40 (by decide) (by decide) (by decide) (by decide) ?_
        exact lc_26 C0 hE hK hin0 hin1 hin2 hin3 hin4 hin5 H locs cc ss hG hSH hop hrel ⟨Nat.le_refl _, Nat.le_refl _⟩ ⟨by omega, by omega⟩ hS ls hl kk
      · obtain rfl : y_40 = 27 := ey_40.trans (by decide)
        refine lv_tableIn (tgt := 1318) (off := 1278) hx hb dL_law_40 (by decide) (by decide) (by decide) (by decide) ?_
        exact lc_27 hl9 C0 hE hK hin0 hin1 hin2 hin3 hin4 hin5 H locs cc ss hG hSH hop hrel ⟨Nat.le_refl _, Nat.le_refl _⟩ ⟨by omega, by omega⟩ hS ls hl kk
      · obtain rfl : y_40 = 28 := ey_40.trans (by decide)
        refine lv_tableIn (tgt := 1346) (off := 1306) hx hb dL_law_40 (by decide) (by decide) (by decide) (by decide) ?_
        exact lc_28 C0 hE hK hin0 hin1 hin2 hin3 hin4 hin5 H locs cc ss hG hSH hop hrel ⟨Nat.le_refl _, Nat.le_refl _⟩ ⟨by omega, by omega⟩ hS ls hl kk
      · obtain rfl : y_40 = 29 := ey_40.trans (by decide)
        refine lv_tableIn (tgt := 1359) (off := 1319) hx hb dL_law_40 (by decide) (by decide) (by decide) (by decide) ?_
        exact lc_29 C0 hE hK hin0 hin1 hin2 hin3 hin4 hin5 H locs cc ss hG hSH hop hrel ⟨Nat.le_refl _, Nat.le_refl _⟩ ⟨by omega, by omega⟩ hS ls hl kk
      · obtain rfl : y_40 = 30 := ey_40.trans (by decide)
        refine lv_tableIn (tgt := 1384) (off := 1344) hx hb dL_law_40 (by decide) (by decide) (by decide) (by decide) ?_
        exact lc_30 C0 hE hK hin0 hin1 hin2 hin3 hin4 hin5 H locs cc ss hG hSH hop hrel ⟨Nat.le_refl _, Nat.le_refl _⟩ ⟨by omega, by omega⟩ hS ls hl kk
      · obtain rfl : y_40 = 31 := ey_40.trans (by decide)
        refine lv_tableOut (tgt := 1397) hx hb dL_law_40 (by decide) (by decide) ?_
        exact lc_31 C0 hE hK hin0 hin1 hin2 hin3 hin4 hin5 H locs cc ss hG hSH hop hrel ⟨Nat.le_refl _, Nat.le_refl _⟩ ⟨by omega, by omega⟩ hS ls hl kk
