set_option maxHeartbeats 4000000 in
set_option maxRecDepth 100000 in
theorem law_loop {p : Program} {e : Env} {s : State} {m : MethodId} {below : List Frame} {meth : Method} {c : Code} (l : Launch) {b N : Nat} {xs : Nat → Int32} (C0 : lw_At p s m meth c b N xs) (hNN : N ≤ 3072) {dC : Nat → ClassId} {dI : Nat → Nat → Nat} {ct : Nat → ClassId} {q0 q1 : Nat} (hK : va_K (dC, dI) vwCl (TT ct) s) (hN : NW s) {adK adV : Nat → Nat} (hW0 : SW adK adV (fun q : Nat => s.heap.size ≤ q) s s.heap) : ∀ (n i cells slots : Nat), N ≤ i + 6 * n → cells + 60 * n ≤ 600000 → slots + 3000 * n ≤ 7302250 → i ≤ 3072 → LGo p l e s m below meth c b dC dI ct q0 q1 i i cells slots 18 := by
  obtain ⟨hx, hb, hr, hml, hown, hts, hX, hbl, hlocks, hgv⟩ := id C0
  have hbA : ¬ (fun q : Nat => s.heap.size ≤ q) b := Nat.not_le.mpr hbl
  have hhead : ∀ (i : Nat) (Q9 : Prop), i ≤ 3072 → ((N < i + 6 → nI N - 6 < nI i → Q9) → (i + 6 ≤ N → ¬ nI N - 6 < nI i → Q9) → Q9) := by
    intro i Q9 hi k1 k2
    have z6 : (6 : Int32).toInt = 6 := by decide +kernel
    have a1 := nI_toInt (n := N) (by omega)
    have a2 := nI_toInt (n := i) (by omega)
    have a3 : (nI N - 6).toInt = (N : Int) - 6 := by rw [fb_subI (by rw [a1, z6]; omega) (by rw [a1, z6]; omega), a1, z6]
    by_cases h : N < i + 6
    · exact k1 h (by rw [Int32.lt_iff_toInt_lt, a3, a2]; omega)
    · exact k2 (by omega) (by rw [Int32.lt_iff_toInt_lt, a3, a2]; omega)
  intro n
  induction n with
  | zero =>
    intro i cells slots hn hc hs hi L f H locs ls hO m0 m1 hT hCp hP hD hS hl
    refine lv_iload_n hx hb d_law_18 rfl (lv_at hl 0 rfl) ?_
    refine lv_aload_n hx hb d_law_19 rfl (lv_at hl 3 rfl) ?_
    refine va_slen hx hb hX hbl hbA hS d_law_20 ?_
    refine lv_bipush (v := 6) hx hb d_law_21 (by decide +kernel) ?_
    refine lv_isub hx hb d_law_23 ?_
    refine hhead i _ hi (fun hlt h1 => ?_) (fun hge h1 => ?_)
    · refine lv_icmp_gt (tgt := 1265) hx hb d_law_24 (by decide) (fun _ => ?_) (fun h => absurd h1 h)
      refine lv_iconst (v := 1) hx hb d_law_1265 (by decide +kernel) ?_
      refine va_forget (fun q hq => hS.2.2 q hq) ?_
      refine W.widen (k := 600000) (n := 7302250) (by omega) (by omega) ?_
      exact lw_ret hx hb hr hlocks d_law_1266
    · omega
  | succ n ih =>
    intro i cells slots hn hc hs hi L f H locs ls hO m0 m1 hT hCp hP hD hS hl
    refine lv_iload_n hx hb d_law_18 rfl (lv_at hl 0 rfl) ?_
    refine lv_aload_n hx hb d_law_19 rfl (lv_at hl 3 rfl) ?_
    refine va_slen hx hb hX hbl hbA hS d_law_20 ?_
    refine lv_bipush (v := 6) hx hb d_law_21 (by decide +kernel) ?_
    refine lv_isub hx hb d_law_23 ?_
    refine hhead i _ hi (fun hlt h1 => ?_) (fun hge h1 => ?_)
    · refine lv_icmp_gt (tgt := 1265) hx hb d_law_24 (by decide) (fun _ => ?_) (fun h => absurd h1 h)
      refine lv_iconst (v := 1) hx hb d_law_1265 (by decide +kernel) ?_
      refine va_forget (fun q hq => hS.2.2 q hq) ?_
      refine W.widen (k := 600000) (n := 7302250) (by omega) (by omega) ?_
      exact lw_ret hx hb hr hlocks d_law_1266
    · refine lv_icmp_gt (tgt := 1265) hx hb d_law_24 (by decide) (fun h => absurd h h1) (fun _ => ?_)
      have hgo : LGo p l e s m below meth c b dC dI ct q0 q1 i (i + 6) (cells + 60) (slots + 3000) 1259 := by
        intro L f H locs ls hO m0 m1 hT hCp hP hD hS hl
        refine lv_iinc (v := nI (i + 6)) (lv' := [(3, .int (nI (i + 6))), (2, .ref q1), (1, .ref q0), (0, .ref b)]) hx hb d_law_1259 hl (k := 0) rfl (nI_add i 6) (by decide) rfl (fun ls hl => ?_)
        refine lv_goto (tgt := 18) hx hb d_law_1262 (by decide) ?_
        exact ih (i + 6) (cells + 60) (slots + 3000) (by omega) (by omega) (by omega) (by omega) L f H locs ls hO m0 m1 hT hCp hP hD hS hl
      refine lv_aload_n hx hb d_law_27 rfl (lv_at hl 3 rfl) ?_
      refine lv_iload_n hx hb d_law_28 rfl (lv_at hl 0 rfl) ?_
      refine va_sld hx hb hX hbl hbA hS (i := nI i) (vp_in_nI (by omega) (by omega)) d_law_29 ?_
      refine hb_ti (xs i) (congrArg xs (nI_clamp (by omega))) ?_
      refine lv_bipush (v := 63) hx hb d_law_30 (by decide +kernel) ?_
      refine lv_iand hx hb d_law_32 ?_
      by_cases h_0 : xs i &&& 63 = 0
      · refine lv_tableIn (off := 147) (tgt := 180) hx hb d_law_33 (by rw [h_0]; decide +kernel) (by rw [h_0]; decide +kernel) (by rw [h_0]; decide +kernel) (by decide) ?_
        exact law_case_0 l C0 hNN hK hN hW0 hge (by omega) (by omega) hgo L f H locs ls hO m0 m1 hT hCp hP hD hS hl
      by_cases h_1 : xs i &&& 63 = 1
      · refine lv_tableIn (off := 170) (tgt := 203) hx hb d_law_33 (by rw [h_1]; decide +kernel) (by rw [h_1]; decide +kernel) (by rw [h_1]; decide +kernel) (by decide) ?_
        exact law_case_1 l C0 hNN hK hN hW0 hge (by omega) (by omega) hgo L f H locs ls hO m0 m1 hT hCp hP hD hS hl
      by_cases h_2 : xs i &&& 63 = 2
      · refine lv_tableIn (off := 193) (tgt := 226) hx hb d_law_33 (by rw [h_2]; decide +kernel) (by rw [h_2]; decide +kernel) (by rw [h_2]; decide +kernel) (by decide) ?_
        exact law_case_2 l C0 hNN hK hN hW0 hge (by omega) (by omega) hgo L f H locs ls hO m0 m1 hT hCp hP hD hS hl
      by_cases h_3 : xs i &&& 63 = 3
      · refine lv_tableIn (off := 236) (tgt := 269) hx hb d_law_33 (by rw [h_3]; decide +kernel) (by rw [h_3]; decide +kernel) (by rw [h_3]; decide +kernel) (by decide) ?_
        exact law_case_3 l C0 hNN hK hN hW0 hge (by omega) (by omega) hgo L f H locs ls hO m0 m1 hT hCp hP hD hS hl
      by_cases h_4 : xs i &&& 63 = 4
      · refine lv_tableIn (off := 269) (tgt := 302) hx hb d_law_33 (by rw [h_4]; decide +kernel) (by rw [h_4]; decide +kernel) (by rw [h_4]; decide +kernel) (by decide) ?_
        exact law_case_4 l C0 hNN hK hN hW0 hge (by omega) (by omega) hgo L f H locs ls hO m0 m1 hT hCp hP hD hS hl
      by_cases h_5 : xs i &&& 63 = 5
      · refine lv_tableIn (off := 302) (tgt := 335) hx hb d_law_33 (by rw [h_5]; decide +kernel) (by rw [h_5]; decide +kernel) (by rw [h_5]; decide +kernel) (by decide) ?_
        exact law_case_5 l C0 hNN hK hN hW0 hge (by omega) (by omega) hgo L f H locs ls hO m0 m1 hT hCp hP hD hS hl
      by_cases h_6 : xs i &&& 63 = 6
      · refine lv_tableIn (off := 335) (tgt := 368) hx hb d_law_33 (by rw [h_6]; decide +kernel) (by rw [h_6]; decide +kernel) (by rw [h_6]; decide +kernel) (by decide) ?_
        exact law_case_6 l C0 hNN hK hN hW0 hge (by omega) (by omega) hgo L f H locs ls hO m0 m1 hT hCp hP hD hS hl
      by_cases h_7 : xs i &&& 63 = 7
      · refine lv_tableIn (off := 358) (tgt := 391) hx hb d_law_33 (by rw [h_7]; decide +kernel) (by rw [h_7]; decide +kernel) (by rw [h_7]; decide +kernel) (by decide) ?_
        exact law_case_7 l C0 hNN hK hN hW0 hge (by omega) (by omega) hgo L f H locs ls hO m0 m1 hT hCp hP hD hS hl
      by_cases h_8 : xs i &&& 63 = 8
      · refine lv_tableIn (off := 391) (tgt := 424) hx hb d_law_33 (by rw [h_8]; decide +kernel) (by rw [h_8]; decide +kernel) (by rw [h_8]; decide +kernel) (by decide) ?_
        exact law_case_8 l C0 hNN hK hN hW0 hge (by omega) (by omega) hgo L f H locs ls hO m0 m1 hT hCp hP hD hS hl
      by_cases h_9 : xs i &&& 63 = 9
      · refine lv_tableIn (off := 434) (tgt := 467) hx hb d_law_33 (by rw [h_9]; decide +kernel) (by rw [h_9]; decide +kernel) (by rw [h_9]; decide +kernel) (by decide) ?_
        exact law_case_9 l C0 hNN hK hN hW0 hge (by omega) (by omega) hgo L f H locs ls hO m0 m1 hT hCp hP hD hS hl
      by_cases h_10 : xs i &&& 63 = 10
      · refine lv_tableIn (off := 457) (tgt := 490) hx hb d_law_33 (by rw [h_10]; decide +kernel) (by rw [h_10]; decide +kernel) (by rw [h_10]; decide +kernel) (by decide) ?_
        exact law_case_10 l C0 hNN hK hN hW0 hge (by omega) (by omega) hgo L f H locs ls hO m0 m1 hT hCp hP hD hS hl
      by_cases h_11 : xs i &&& 63 = 11
      · refine lv_tableIn (off := 480) (tgt := 513) hx hb d_law_33 (by rw [h_11]; decide +kernel) (by rw [h_11]; decide +kernel) (by rw [h_11]; decide +kernel) (by decide) ?_
        exact law_case_11 l C0 hNN hK hN hW0 hge (by omega) (by omega) hgo L f H locs ls hO m0 m1 hT hCp hP hD hS hl
      by_cases h_12 : xs i &&& 63 = 12
      · refine lv_tableIn (off := 513) (tgt := 546) hx hb d_law_33 (by rw [h_12]; decide +kernel) (by rw [h_12]; decide +kernel) (by rw [h_12]; decide +kernel) (by decide) ?_
        exact law_case_12 l C0 hNN hK hN hW0 hge (by omega) (by omega) hgo L f H locs ls hO m0 m1 hT hCp hP hD hS hl
      by_cases h_13 : xs i &&& 63 = 13
      · refine lv_tableIn (off := 546) (tgt := 579) hx hb d_law_33 (by rw [h_13]; decide +kernel) (by rw [h_13]; decide +kernel) (by rw [h_13]; decide +kernel) (by decide) ?_
        exact law_case_13 l C0 hNN hK hN hW0 hge (by omega) (by omega) hgo L f H locs ls hO m0 m1 hT hCp hP hD hS hl
      by_cases h_14 : xs i &&& 63 = 14
      · refine lv_tableIn (off := 579) (tgt := 612) hx hb d_law_33 (by rw [h_14]; decide +kernel) (by rw [h_14]; decide +kernel) (by rw [h_14]; decide +kernel) (by decide) ?_
        exact law_case_14 l C0 hNN hK hN hW0 hge (by omega) (by omega) hgo L f H locs ls hO m0 m1 hT hCp hP hD hS hl
      by_cases h_15 : xs i &&& 63 = 15
      · refine lv_tableIn (off := 612) (tgt := 645) hx hb d_law_33 (by rw [h_15]; decide +kernel) (by rw [h_15]; decide +kernel) (by rw [h_15]; decide +kernel) (by decide) ?_
        exact law_case_15 l C0 hNN hK hN hW0 hge (by omega) (by omega) hgo L f H locs ls hO m0 m1 hT hCp hP hD hS hl
      by_cases h_16 : xs i &&& 63 = 16
      · refine lv_tableIn (off := 635) (tgt := 668) hx hb d_law_33 (by rw [h_16]; decide +kernel) (by rw [h_16]; decide +kernel) (by rw [h_16]; decide +kernel) (by decide) ?_
        exact law_case_16 l C0 hNN hK hN hW0 hge (by omega) (by omega) hgo L f H locs ls hO m0 m1 hT hCp hP hD hS hl
      by_cases h_17 : xs i &&& 63 = 17
      · refine lv_tableIn (off := 698) (tgt := 731) hx hb d_law_33 (by rw [h_17]; decide +kernel) (by rw [h_17]; decide +kernel) (by rw [h_17]; decide +kernel) (by decide) ?_
        exact law_case_17 l C0 hNN hK hN hW0 hge (by omega) (by omega) hgo L f H locs ls hO m0 m1 hT hCp hP hD hS hl
      by_cases h_18 : xs i &&& 63 = 18
      · refine lv_tableIn (off := 721) (tgt := 754) hx hb d_law_33 (by rw [h_18]; decide +kernel) (by rw [h_18]; decide +kernel) (by rw [h_18]; decide +kernel) (by decide) ?_
        exact law_case_18 l C0 hNN hK hN hW0 hge (by omega) (by omega) hgo L f H locs ls hO m0 m1 hT hCp hP hD hS hl
      by_cases h_19 : xs i &&& 63 = 19
      · refine lv_tableIn (off := 744) (tgt := 777) hx hb d_law_33 (by rw [h_19]; decide +kernel) (by rw [h_19]; decide +kernel) (by rw [h_19]; decide +kernel) (by decide) ?_
        exact law_case_19 l C0 hNN hK hN hW0 hge (by omega) (by omega) hgo L f H locs ls hO m0 m1 hT hCp hP hD hS hl
      by_cases h_20 : xs i &&& 63 = 20
      · refine lv_tableIn (off := 777) (tgt := 810) hx hb d_law_33 (by rw [h_20]; decide +kernel) (by rw [h_20]; decide +kernel) (by rw [h_20]; decide +kernel) (by decide) ?_
        exact law_case_20 l C0 hNN hK hN hW0 hge (by omega) (by omega) hgo L f H locs ls hO m0 m1 hT hCp hP hD hS hl
      by_cases h_21 : xs i &&& 63 = 21
      · refine lv_tableIn (off := 840) (tgt := 873) hx hb d_law_33 (by rw [h_21]; decide +kernel) (by rw [h_21]; decide +kernel) (by rw [h_21]; decide +kernel) (by decide) ?_
        exact law_case_21 l C0 hNN hK hN hW0 hge (by omega) (by omega) hgo L f H locs ls hO m0 m1 hT hCp hP hD hS hl
      by_cases h_22 : xs i &&& 63 = 22
      · refine lv_tableIn (off := 883) (tgt := 916) hx hb d_law_33 (by rw [h_22]; decide +kernel) (by rw [h_22]; decide +kernel) (by rw [h_22]; decide +kernel) (by decide) ?_
        exact law_case_22 l C0 hNN hK hN hW0 hge (by omega) (by omega) hgo L f H locs ls hO m0 m1 hT hCp hP hD hS hl
      by_cases h_23 : xs i &&& 63 = 23
      · refine lv_tableIn (off := 936) (tgt := 969) hx hb d_law_33 (by rw [h_23]; decide +kernel) (by rw [h_23]; decide +kernel) (by rw [h_23]; decide +kernel) (by decide) ?_
        exact law_case_23 l C0 hNN hK hN hW0 hge (by omega) (by omega) hgo L f H locs ls hO m0 m1 hT hCp hP hD hS hl
      by_cases h_24 : xs i &&& 63 = 24
      · refine lv_tableIn (off := 959) (tgt := 992) hx hb d_law_33 (by rw [h_24]; decide +kernel) (by rw [h_24]; decide +kernel) (by rw [h_24]; decide +kernel) (by decide) ?_
        exact law_case_24 l C0 hNN hK hN hW0 hge (by omega) (by omega) hgo L f H locs ls hO m0 m1 hT hCp hP hD hS hl
      by_cases h_25 : xs i &&& 63 = 25
      · refine lv_tableIn (off := 1002) (tgt := 1035) hx hb d_law_33 (by rw [h_25]; decide +kernel) (by rw [h_25]; decide +kernel) (by rw [h_25]; decide +kernel) (by decide) ?_
        exact law_case_25 l C0 hNN hK hN hW0 hge (by omega) (by omega) hgo L f H locs ls hO m0 m1 hT hCp hP hD hS hl
      by_cases h_26 : xs i &&& 63 = 26
      · refine lv_tableIn (off := 1035) (tgt := 1068) hx hb d_law_33 (by rw [h_26]; decide +kernel) (by rw [h_26]; decide +kernel) (by rw [h_26]; decide +kernel) (by decide) ?_
        exact law_case_26 l C0 hNN hK hN hW0 hge (by omega) (by omega) hgo L f H locs ls hO m0 m1 hT hCp hP hD hS hl
      by_cases h_27 : xs i &&& 63 = 27
      · refine lv_tableIn (off := 1068) (tgt := 1101) hx hb d_law_33 (by rw [h_27]; decide +kernel) (by rw [h_27]; decide +kernel) (by rw [h_27]; decide +kernel) (by decide) ?_
        exact law_case_27 l C0 hNN hK hN hW0 hge (by omega) (by omega) hgo L f H locs ls hO m0 m1 hT hCp hP hD hS hl
      by_cases h_28 : xs i &&& 63 = 28
      · refine lv_tableIn (off := 1101) (tgt := 1134) hx hb d_law_33 (by rw [h_28]; decide +kernel) (by rw [h_28]; decide +kernel) (by rw [h_28]; decide +kernel) (by decide) ?_
        exact law_case_28 l C0 hNN hK hN hW0 hge (by omega) (by omega) hgo L f H locs ls hO m0 m1 hT hCp hP hD hS hl
      by_cases h_29 : xs i &&& 63 = 29
      · refine lv_tableIn (off := 1134) (tgt := 1167) hx hb d_law_33 (by rw [h_29]; decide +kernel) (by rw [h_29]; decide +kernel) (by rw [h_29]; decide +kernel) (by decide) ?_
        exact law_case_29 l C0 hNN hK hN hW0 hge (by omega) (by omega) hgo L f H locs ls hO m0 m1 hT hCp hP hD hS hl
      by_cases h_30 : xs i &&& 63 = 30
      · refine lv_tableIn (off := 1147) (tgt := 1180) hx hb d_law_33 (by rw [h_30]; decide +kernel) (by rw [h_30]; decide +kernel) (by rw [h_30]; decide +kernel) (by decide) ?_
        exact law_case_30 l C0 hNN hK hN hW0 hge (by omega) (by omega) hgo L f H locs ls hO m0 m1 hT hCp hP hD hS hl
      by_cases h_31 : xs i &&& 63 = 31
      · refine lv_tableIn (off := 1180) (tgt := 1213) hx hb d_law_33 (by rw [h_31]; decide +kernel) (by rw [h_31]; decide +kernel) (by rw [h_31]; decide +kernel) (by decide) ?_
        exact law_case_31 l C0 hNN hK hN hW0 hge (by omega) (by omega) hgo L f H locs ls hO m0 m1 hT hCp hP hD hS hl
      by_cases h_32 : xs i &&& 63 = 32
      · refine lv_tableIn (off := 1203) (tgt := 1236) hx hb d_law_33 (by rw [h_32]; decide +kernel) (by rw [h_32]; decide +kernel) (by rw [h_32]; decide +kernel) (by decide) ?_
        exact law_case_32 l C0 hNN hK hN hW0 hge (by omega) (by omega) hgo L f H locs ls hO m0 m1 hT hCp hP hD hS hl
      refine lv_tableOut (tgt := 1259) hx hb d_law_33 (by have g0 := lv_neT h_0 (show (0 : Int32).toInt = 0 by decide +kernel); have g1 := lv_neT h_1 (show (1 : Int32).toInt = 1 by decide +kernel); have g2 := lv_neT h_2 (show (2 : Int32).toInt = 2 by decide +kernel); have g3 := lv_neT h_3 (show (3 : Int32).toInt = 3 by decide +kernel); have g4 := lv_neT h_4 (show (4 : Int32).toInt = 4 by decide +kernel); have g5 := lv_neT h_5 (show (5 : Int32).toInt = 5 by decide +kernel); have g6 := lv_neT h_6 (show (6 : Int32).toInt = 6 by decide +kernel); have g7 := lv_neT h_7 (show (7 : Int32).toInt = 7 by decide +kernel); have g8 := lv_neT h_8 (show (8 : Int32).toInt = 8 by decide +kernel); have g9 := lv_neT h_9 (show (9 : Int32).toInt = 9 by decide +kernel); have g10 := lv_neT h_10 (show (10 : Int32).toInt = 10 by decide +kernel); have g11 := lv_neT h_11 (show (11 : Int32).toInt = 11 by decide +kernel); have g12 := lv_neT h_12 (show (12 : Int32).toInt = 12 by decide +kernel); have g13 := lv_neT h_13 (show (13 : Int32).toInt = 13 by decide +kernel); have g14 := lv_neT h_14 (show (14 : Int32).toInt = 14 by decide +kernel); have g15 := lv_neT h_15 (show (15 : Int32).toInt = 15 by decide +kernel); have g16 := lv_neT h_16 (show (16 : Int32).toInt = 16 by decide +kernel); have g17 := lv_neT h_17 (show (17 : Int32).toInt = 17 by decide +kernel); have g18 := lv_neT h_18 (show (18 : Int32).toInt = 18 by decide +kernel); have g19 := lv_neT h_19 (show (19 : Int32).toInt = 19 by decide +kernel); have g20 := lv_neT h_20 (show (20 : Int32).toInt = 20 by decide +kernel); have g21 := lv_neT h_21 (show (21 : Int32).toInt = 21 by decide +kernel); have g22 := lv_neT h_22 (show (22 : Int32).toInt = 22 by decide +kernel); have g23 := lv_neT h_23 (show (23 : Int32).toInt = 23 by decide +kernel); have g24 := lv_neT h_24 (show (24 : Int32).toInt = 24 by decide +kernel); have g25 := lv_neT h_25 (show (25 : Int32).toInt = 25 by decide +kernel); have g26 := lv_neT h_26 (show (26 : Int32).toInt = 26 by decide +kernel); have g27 := lv_neT h_27 (show (27 : Int32).toInt = 27 by decide +kernel); have g28 := lv_neT h_28 (show (28 : Int32).toInt = 28 by decide +kernel); have g29 := lv_neT h_29 (show (29 : Int32).toInt = 29 by decide +kernel); have g30 := lv_neT h_30 (show (30 : Int32).toInt = 30 by decide +kernel); have g31 := lv_neT h_31 (show (31 : Int32).toInt = 31 by decide +kernel); have g32 := lv_neT h_32 (show (32 : Int32).toInt = 32 by decide +kernel); omega) (by decide) ?_
      exact W.widen (k := cells + 60) (n := slots + 3000) (by omega) (by omega) (hgo L f H locs ls hO m0 m1 hT (CplC.mono hCp (by omega)) hP hD hS hl)
