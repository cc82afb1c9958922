section FARM
variable {L : List Nat} {f : TF} {q0 q1 : Nat}
theorem lo_m {am : Nat → Nat} {i j : Nat} {o : OS} {c : Int32} {Q : Int32 → Prop} (hM : OrdM f q1 am i o) (hi : i < 20) (hj : j < 9) (hc : c = nI (10 + j)) (h : Q (o.2.2.1 j)) : wp_Md_lineOf_w L f q1 (nI i) c Q := by
  intro q e x ex
  rw [hM.1 40 (by decide) (by decide)] at e; cases e
  rw [hc, show (9 : Int32) = nI 9 from rfl, show (10 : Int32) = nI 10 from rfl, pk_mul, nI_add, pk_sub (by omega), nI_clamp (by omega), show 9 * i + (10 + j) - 10 = 9 * i + j by omega, hM.2.2.2.1 j hj] at ex
  subst ex
  exact h
abbrev leastT (L : List Nat) (f : TF) (q : Nat) (p0 : Int32) (Q : Int32 → Prop) (v : Int32) : Prop := wp_Md_lineOf_w L f q p0 (15 : Int32) (fun r => ((r ≤ v → Q v) ∧ (¬ (r ≤ v) → wp_Md_lineOf_w L f q p0 (15 : Int32) (fun r' => Q r'))))
abbrev oarsT (L : List Nat) (f : TF) (q : Nat) (p0 p5 : Int32) (Q : Int32 → Prop) (v : Int32) : Prop := ((p5 = 2 → wp_Md_lineOf_w L f q p0 (18 : Int32) (fun r => ((r < 0 → leastT L f q p0 Q v) ∧ (¬ (r < 0) → wp_Md_lineOf_w L f q p0 (18 : Int32) (fun r => wp_Md_by_w L f v r (fun r' => leastT L f q p0 Q r')))))) ∧ (¬ (p5 = 2) → leastT L f q p0 Q v))
abbrev sunT (L : List Nat) (f : TF) (q : Nat) (p0 p3 p5 : Int32) (Q : Int32 → Prop) (v : Int32) : Prop := ∀ y : Int32, y = p3 - p3 / 7 * 7 → ((y = 0 → wp_Md_lineOf_w L f q p0 (14 : Int32) (fun r => ((r < 0 → oarsT L f q p0 p5 Q v) ∧ (¬ (r < 0) → wp_Md_lineOf_w L f q p0 (14 : Int32) (fun r => wp_Md_by_w L f v r (fun r' => oarsT L f q p0 p5 Q r')))))) ∧ (¬ (y = 0) → oarsT L f q p0 p5 Q v))
theorem least_m {am : Nat → Nat} {i : Nat} {o : OS} {v : Int32} {Q : Int32 → Prop} (hM : OrdM f q1 am i o) (hi : i < 20) (h : Q (mx v (o.2.2.1 5))) : leastT L f q1 (nI i) Q v := by
  unfold mx at h
  refine lo_m hM hi (j := 5) (by decide) rfl ⟨fun g => ?_, fun g => lo_m hM hi (j := 5) (by decide) rfl ?_⟩
  · rw [if_neg (by rw [Int32.le_iff_toInt_le] at g; rw [Int32.lt_iff_toInt_lt]; omega)] at h
    exact h
  · rw [if_pos (by rw [Int32.le_iff_toInt_le] at g; rw [Int32.lt_iff_toInt_lt]; omega)] at h
    exact h
/-- a line that may be there -/
theorem may_m {am : Nat → Nat} {i j : Nat} {o : OS} {c v : Int32} {K : Int32 → Prop} (hM : OrdM f q1 am i o) (hw : WfO o) (hi : i < 20) (hj : j < 9) (hc : c = nI (10 + j)) (h : K (bym v (o.2.2.1 j))) : wp_Md_lineOf_w L f q1 (nI i) c (fun r => ((r < 0 → K v) ∧ (¬ (r < 0) → wp_Md_lineOf_w L f q1 (nI i) c (fun r => wp_Md_by_w L f v r (fun r' => K r'))))) := by
  refine lo_m hM hi hj hc ⟨fun g => ?_, fun g => lo_m hM hi hj hc (by_m ?_)⟩
  · rcases hw.2.2.1 j hj with k | k
    · unfold bym at h
      rw [if_pos k] at h
      exact h
    · exact absurd g k
  · rw [bym_y g] at h
    exact h
theorem oars_m {am : Nat → Nat} {i : Nat} {o : OS} {v oars : Int32} {Q : Int32 → Prop} (hM : OrdM f q1 am i o) (hw : WfO o) (hi : i < 20) (h : Q (frO o.2.2.1 oars v)) : oarsT L f q1 (nI i) oars Q v := by
  unfold frO at h
  refine ⟨fun g => ?_, fun g => ?_⟩
  · rw [if_pos g] at h
    exact may_m (K := fun r => leastT L f q1 (nI i) Q r) hM hw hi (j := 8) (by decide) rfl (least_m hM hi h)
  · rw [if_neg g] at h
    exact least_m hM hi h
theorem sun_m {am : Nat → Nat} {i : Nat} {o : OS} {v day oars : Int32} {Q : Int32 → Prop} (hM : OrdM f q1 am i o) (hw : WfO o) (hi : i < 20) (h : Q (frE o.2.2.1 day oars v)) : sunT L f q1 (nI i) day oars Q v := by
  unfold frE at h
  intro y ey
  subst ey
  refine ⟨fun g => ?_, fun g => ?_⟩
  · rw [if_pos g] at h
    exact may_m (K := fun r => oarsT L f q1 (nI i) oars Q r) hM hw hi (j := 4) (by decide) rfl (oars_m hM hw hi h)
  · rw [if_neg g] at h
    exact oars_m hM hw hi h
theorem ix12n (i k : Nat) : (12 : Int32) * nI i + nI k = nI (12 * i + k) := by rw [show (12 : Int32) = nI 12 from rfl, pk_mul, nI_add]
theorem ml_5 {am : Nat → Nat} {i : Nat} {o : OS} {p1 p2 day hour oars v7 v8 v9 v10 x3 : Int32} {q2 : Nat} {rec_1 : Int32 → Int32 → Int32 → Int32 → Prop} {Q : Int32 → Prop} (hM : OrdM f q1 am i o) (hw : WfO o) (hi : i < 20) : ∀ (m k : Nat) (v : Int32), k ≤ o.2.1.1 → Q (frE o.2.2.1 day oars (hrP o.2.1 hour (o.2.1.1 - k) k v)) → wpL_Md_fareOf_w_199_5 L f q1 (nI i) p1 p2 day hour oars v7 v8 v9 v10 rec_1 q2 x3 Q m v (nI k) := by
  obtain ⟨b1, b2, b3, b4, b5⟩ := id hM
  have w1 := hw.2.1
  have hstep : ∀ (rc : Int32 → Int32 → Prop) (k : Nat) (v : Int32), k ≤ o.2.1.1 → Q (frE o.2.2.1 day oars (hrP o.2.1 hour (o.2.1.1 - k) k v)) → (∀ v' : Int32, k < o.2.1.1 → Q (frE o.2.2.1 day oars (hrP o.2.1 hour (o.2.1.1 - (k + 1)) (k + 1) v')) → rc v' (nI (k + 1))) → wpB_Md_fareOf_w_199_5 L f q1 (nI i) p1 p2 day hour oars v7 v8 v9 v10 rec_1 q2 x3 Q rc v (nI k) := by
    intro rc k v hk hqk hrec q6 e6 x7 e7
    rw [b1 36 (by decide) (by decide)] at e6; cases e6
    rw [nI_clamp (by omega), b3.1] at e7
    subst e7
    refine ⟨fun g => ?_, fun g q1' e1 x1 ex1 q2' e2 x2 ex2 => ?_⟩
    · rw [nI_leI (by omega) (by omega)] at g
      rw [hrP_z g] at hqk
      exact sun_m hM hw hi hqk
    · rw [nI_leI (by omega) (by omega)] at g
      have hlt : k < o.2.1.1 := by omega
      rw [b1 37 (by decide) (by decide)] at e1; cases e1
      rw [b1 38 (by decide) (by decide)] at e2; cases e2
      rw [ix12n, nI_clamp (by omega), (b3.2 k hlt).1] at ex1
      rw [ix12n, nI_clamp (by omega), (b3.2 k hlt).2.1] at ex2
      subst ex1 ex2
      rw [hrP_s hlt] at hqk
      rw [nI_1]
      refine ⟨fun g1 => ?_, fun g1 => ⟨fun g2 => ?_, fun g2 q3 e3 x3 ex3 => by_m ?_⟩⟩
      · rw [if_neg (fun z => z.1 g1)] at hqk
        exact hrec _ hlt hqk
      · rw [if_neg (fun z => z.2 g2)] at hqk
        exact hrec _ hlt hqk
      · rw [b1 39 (by decide) (by decide)] at e3; cases e3
        rw [ix12n, nI_clamp (by omega), (b3.2 k hlt).2.2] at ex3
        subst ex3
        rw [if_pos ⟨g1, g2⟩, bym_y (hw.2.2.2.2 k hlt)] at hqk
        exact hrec _ hlt hqk
  intro m
  induction m with
  | zero => intro k v c1 c2; exact hstep (fun _ _ => True) k v c1 c2 (fun _ _ _ => trivial)
  | succ m ih => intro k v c1 c2; exact hstep _ k v c1 c2 (fun v' d1 d2 => ih _ _ (by omega) d2)
theorem ml_90 {am : Nat → Nat} {i : Nat} {o : OS} {p1 p2 day hour oars v7 v8 v9 v10 x3 : Int32} {q2 : Nat} {rec_1 : Int32 → Int32 → Int32 → Int32 → Prop} {Q : Int32 → Prop} (hM : OrdM f q1 am i o) (hw : WfO o) (hi : i < 20) : ∀ (m k : Nat) (v : Int32), k ≤ o.2.1.1 → Q (frE o.2.2.1 day oars (hrP o.2.1 hour (o.2.1.1 - k) k v)) → wpL_Md_fareOf_w_199_90 L f q1 (nI i) p1 p2 day hour oars v7 v8 v9 v10 rec_1 q2 x3 Q m v (nI k) := by
  obtain ⟨b1, b2, b3, b4, b5⟩ := id hM
  have w1 := hw.2.1
  have hstep : ∀ (rc : Int32 → Int32 → Prop) (k : Nat) (v : Int32), k ≤ o.2.1.1 → Q (frE o.2.2.1 day oars (hrP o.2.1 hour (o.2.1.1 - k) k v)) → (∀ v' : Int32, k < o.2.1.1 → Q (frE o.2.2.1 day oars (hrP o.2.1 hour (o.2.1.1 - (k + 1)) (k + 1) v')) → rc v' (nI (k + 1))) → wpB_Md_fareOf_w_199_90 L f q1 (nI i) p1 p2 day hour oars v7 v8 v9 v10 rec_1 q2 x3 Q rc v (nI k) := by
    intro rc k v hk hqk hrec q6 e6 x7 e7
    rw [b1 36 (by decide) (by decide)] at e6; cases e6
    rw [nI_clamp (by omega), b3.1] at e7
    subst e7
    refine ⟨fun g => ?_, fun g q1' e1 x1 ex1 q2' e2 x2 ex2 => ?_⟩
    · rw [nI_leI (by omega) (by omega)] at g
      rw [hrP_z g] at hqk
      exact sun_m hM hw hi hqk
    · rw [nI_leI (by omega) (by omega)] at g
      have hlt : k < o.2.1.1 := by omega
      rw [b1 37 (by decide) (by decide)] at e1; cases e1
      rw [b1 38 (by decide) (by decide)] at e2; cases e2
      rw [ix12n, nI_clamp (by omega), (b3.2 k hlt).1] at ex1
      rw [ix12n, nI_clamp (by omega), (b3.2 k hlt).2.1] at ex2
      subst ex1 ex2
      rw [hrP_s hlt] at hqk
      rw [nI_1]
      refine ⟨fun g1 => ?_, fun g1 => ⟨fun g2 => ?_, fun g2 q3 e3 x3 ex3 => by_m ?_⟩⟩
      · rw [if_neg (fun z => z.1 g1)] at hqk
        exact hrec _ hlt hqk
      · rw [if_neg (fun z => z.2 g2)] at hqk
        exact hrec _ hlt hqk
      · rw [b1 39 (by decide) (by decide)] at e3; cases e3
        rw [ix12n, nI_clamp (by omega), (b3.2 k hlt).2.2] at ex3
        subst ex3
        rw [if_pos ⟨g1, g2⟩, bym_y (hw.2.2.2.2 k hlt)] at hqk
        exact hrec _ hlt hqk
  intro m
  induction m with
  | zero => intro k v c1 c2; exact hstep (fun _ _ => True) k v c1 c2 (fun _ _ _ => trivial)
  | succ m ih => intro k v c1 c2; exact hstep _ k v c1 c2 (fun v' d1 d2 => ih _ _ (by omega) d2)
/-- the flow of the water in an hour -/
def flv (f : TF) (ad : Nat → Nat) (d h : Int32) : Int32 := if h = 11 then hgt f ad (d + 1) 0 - hgt f ad d h else hgt f ad d (h + 1) - hgt f ad d h
theorem flow_m {ad : Nat → Nat} {Q : Int32 → Prop} (hR : Refs f q0 q1 ad) (d h : Int32) (hq : Q (flv f ad d h)) : wp_Md_flowOf_w L f q1 d h Q := by
  unfold flv at hq
  refine ⟨fun g => ?_, fun g => ?_⟩
  · rw [if_pos g] at hq
    exact hgt_m hR _ _ (hgt_m hR _ _ hq)
  · rw [if_neg g] at hq
    exact hgt_m hR _ _ (hgt_m hR _ _ hq)
theorem flow_x {ad : Nat → Nat} {Q : Int32 → Prop} (hR : Refs f q0 q1 ad) (hV : Vals f q0 q1 ad) (d h : Int32) (c1 : ¬ d < 0) (c2' : ¬ 499 < d) (c3 : ¬ h < 0) (c4' : ¬ 11 < h) (hq : Q (flv f ad d h)) : wp_Rv_flowIn_w L f (ad 1) d h Q := by
  unfold flv at hq
  have z0 : (0 : Int32).toInt = 0 := by decide
  have z1 : (1 : Int32).toInt = 1 := by decide
  have z11 : (11 : Int32).toInt = 11 := by decide
  have z499 : (499 : Int32).toInt = 499 := by decide
  have d1 : ¬ d + 1 < 0 := by
    rw [Int32.lt_iff_toInt_lt] at c1 c2' ⊢
    rw [fb_addI (by omega) (by omega)]
    omega
  refine ⟨fun g => ?_, fun g => ?_⟩
  · rw [if_pos g] at hq
    exact hgt_x hR hV _ _ d1 (by decide) (by decide) (hgt_x hR hV _ _ c1 c3 c4' hq)
  · rw [if_neg g] at hq
    have g' : ¬ h.toInt = 11 := fun e => g (by rw [← Int32.toInt_inj, e, z11])
    have hb : ¬ h + 1 < 0 ∧ ¬ 11 < h + 1 := by
      rw [Int32.lt_iff_toInt_lt] at c3 c4'
      rw [Int32.lt_iff_toInt_lt, Int32.lt_iff_toInt_lt, fb_addI (by omega) (by omega)]
      omega
    exact hgt_x hR hV _ _ c1 hb.1 hb.2 (hgt_x hR hV _ _ c1 c3 c4' hq)
abbrev wordT (L : List Nat) (f : TF) (q : Nat) (p0 v8 v : Int32) (K : Int32 → Prop) (r : Int32) : Prop := ((r = 0 → K v) ∧ (¬ (r = 0) → ((r ≤ 0 → ((0 = v8 → wp_Md_lineOf_w L f q p0 (12 : Int32) (fun r => ((r < 0 → K v) ∧ (¬ (r < 0) → wp_Md_lineOf_w L f q p0 (12 : Int32) (fun r => wp_Md_by_w L f v r (fun r' => K r')))))) ∧ (¬ (0 = v8) → wp_Md_lineOf_w L f q p0 (13 : Int32) (fun r => ((r < 0 → K v) ∧ (¬ (r < 0) → wp_Md_lineOf_w L f q p0 (13 : Int32) (fun r => wp_Md_by_w L f v r (fun r' => K r')))))))) ∧ (¬ (r ≤ 0) → ((1 = v8 → wp_Md_lineOf_w L f q p0 (12 : Int32) (fun r => ((r < 0 → K v) ∧ (¬ (r < 0) → wp_Md_lineOf_w L f q p0 (12 : Int32) (fun r => wp_Md_by_w L f v r (fun r' => K r')))))) ∧ (¬ (1 = v8) → wp_Md_lineOf_w L f q p0 (13 : Int32) (fun r => ((r < 0 → K v) ∧ (¬ (r < 0) → wp_Md_lineOf_w L f q p0 (13 : Int32) (fun r => wp_Md_by_w L f v r (fun r' => K r')))))))))))
theorem wrd_m {am : Nat → Nat} {i : Nat} {o : OS} {v fl : Int32} {up : Bool} {K : Int32 → Prop} (hM : OrdM f q1 am i o) (hw : WfO o) (hi : i < 20) (h : K (frW o.2.2.1 fl up v)) : wordT L f q1 (nI i) (if up = true then 1 else 0) v K fl := by
  unfold frW at h
  refine ⟨fun g => ?_, fun g => ⟨fun g1 => ?_, fun g1 => ?_⟩⟩
  · rw [if_pos g] at h; exact h
  · rw [if_neg g, if_pos g1] at h
    cases up
    · exact ⟨fun _ => may_m (K := K) hM hw hi (j := 2) (by decide) rfl h, fun z => absurd rfl z⟩
    · exact ⟨fun z => absurd z (by decide), fun _ => may_m (K := K) hM hw hi (j := 3) (by decide) rfl h⟩
  · rw [if_neg g, if_neg g1] at h
    cases up
    · exact ⟨fun z => absurd z (by decide), fun _ => may_m (K := K) hM hw hi (j := 3) (by decide) rfl h⟩
    · exact ⟨fun _ => may_m (K := K) hM hw hi (j := 2) (by decide) rfl h, fun z => absurd rfl z⟩
def frN (v : Int32) : Int32 := if v = -1 then -2 else v
theorem le0 {x : Int32} : 0 ≤ x ↔ ¬ x < 0 := by
  rw [Int32.le_iff_toInt_le, Int32.lt_iff_toInt_lt]
  omega
theorem fl_loop {ad am : Nat → Nat} {i : Nat} {o : OS} {p1 p2 day hour oars d : Int32} {up : Bool} {Q : Int32 → Prop} (hR : Refs f q0 q1 ad) (hM : OrdM f q1 am i o) (hw : WfO o) (hi : i < 20) (hq : Q (frN (FR o d (flv f ad day hour) up day hour oars))) : ∀ (m k : Nat) (v : Int32), k ≤ o.1.1 → (v = -1 ∧ bsP o.1 d o.1.1 0 = bsP o.1 d (o.1.1 - k) k ∨ ¬ v < 0 ∧ bsP o.1 d o.1.1 0 = v) → wpL_Md_fareOf_w_48_1 L f q1 (nI i) p1 p2 day hour oars Q m d (if up = true then 1 else 0) v (nI k) := by
  obtain ⟨b1, b2, b3, b4, b5⟩ := id hM
  have w1 := hw.1
  have hgo : ∀ v : Int32, ¬ v < 0 → bsP o.1 d o.1.1 0 = v → Q (frE o.2.2.1 day oars (hrP o.2.1 hour (o.2.1.1 - 0) 0 (frW o.2.2.1 (flv f ad day hour) up v))) := by
    intro v hv hb
    have hne : ¬ bsP o.1 d o.1.1 0 = -1 := by
      rw [hb]; rintro rfl; exact hv (by decide)
    have hnn := FR_nn (fl := flv f ad day hour) (day := day) (hour := hour) (oars := oars) (up := up) hw hne
    unfold frN at hq
    rw [if_neg (by intro z; rw [z] at hnn; exact hnn (by decide))] at hq
    unfold FR at hq
    rw [if_neg hne, hb] at hq
    exact hq
  have hno : ∀ k, o.1.1 ≤ k → bsP o.1 d o.1.1 0 = bsP o.1 d (o.1.1 - k) k → Q (-2) := by
    intro k hk hb
    rw [bsP_z hk] at hb
    unfold frN FR at hq
    rw [if_pos hb, if_pos rfl] at hq
    exact hq
  have hm1 : ¬ (0 : Int32) ≤ -1 := by decide
  have hstep : ∀ (rc : Int32 → Int32 → Int32 → Int32 → Prop) (k : Nat) (v : Int32), k ≤ o.1.1 → (v = -1 ∧ bsP o.1 d o.1.1 0 = bsP o.1 d (o.1.1 - k) k ∨ ¬ v < 0 ∧ bsP o.1 d o.1.1 0 = v) → (∀ v' : Int32, k < o.1.1 → (v' = -1 ∧ bsP o.1 d o.1.1 0 = bsP o.1 d (o.1.1 - (k + 1)) (k + 1) ∨ ¬ v' < 0 ∧ bsP o.1 d o.1.1 0 = v') → rc d (if up = true then 1 else 0) v' (nI (k + 1))) → wpB_Md_fareOf_w_48_1 L f q1 (nI i) p1 p2 day hour oars Q rc d (if up = true then 1 else 0) v (nI k) := by
    intro rc k v hk hv hrec q2 e2 x3 e3
    rw [b1 32 (by decide) (by decide)] at e2; cases e2
    rw [nI_clamp (by omega), b2.1] at e3
    subst e3
    refine ⟨fun g => ⟨fun g1 => ?_, fun g1 => ?_⟩, fun g => ⟨fun g1 => ?_, fun g1 qa ea xa exa qb eb xb exb => ?_⟩⟩
    · rcases hv with ⟨rfl, -⟩ | ⟨h1, h2⟩
      · exact absurd g1 hm1
      · exact flow_m hR _ _ (wrd_m (K := fun v' => wpL_Md_fareOf_w_199_5 L f q1 (nI i) p1 p2 day hour oars d (if up = true then 1 else 0) v (nI k) rc (am 32) (nI o.1.1) Q (((12 : Int32).toInt - (0 : Int32).toInt).toNat) v' (0 : Int32)) hM hw hi (ml_5 hM hw hi _ 0 _ (Nat.zero_le _) (hgo v h1 h2)))
    · rw [nI_leI (by omega) (by omega)] at g
      rcases hv with ⟨rfl, h2⟩ | ⟨h1, h2⟩
      · exact hno k g h2
      · exact absurd (le0.mpr h1) g1
    · rcases hv with ⟨rfl, -⟩ | ⟨h1, h2⟩
      · exact absurd g1 hm1
      · exact flow_m hR _ _ (wrd_m (K := fun v' => wpL_Md_fareOf_w_199_90 L f q1 (nI i) p1 p2 day hour oars d (if up = true then 1 else 0) v (nI k) rc (am 32) (nI o.1.1) Q (((12 : Int32).toInt - (0 : Int32).toInt).toNat) v' (0 : Int32)) hM hw hi (ml_90 hM hw hi _ 0 _ (Nat.zero_le _) (hgo v h1 h2)))
    · rw [nI_leI (by omega) (by omega)] at g
      have hlt : k < o.1.1 := by omega
      rcases hv with ⟨rfl, h2⟩ | ⟨h1, h2⟩
      · rw [b1 33 (by decide) (by decide)] at ea; cases ea
        rw [b1 34 (by decide) (by decide)] at eb; cases eb
        rw [ix12n, nI_clamp (by omega), (b2.2 k hlt).1] at exa
        rw [ix12n, nI_clamp (by omega), (b2.2 k hlt).2.1] at exb
        subst exa exb
        rw [bsP_s hlt] at h2
        rw [nI_1]
        refine ⟨fun k1 => ?_, fun k1 => ⟨fun k2 => ?_, fun k2 qc ec xc exc => ?_⟩⟩
        · rw [if_neg (fun z => z.1 k1)] at h2
          exact hrec _ hlt (Or.inl ⟨rfl, h2⟩)
        · rw [if_neg (fun z => z.2 k2)] at h2
          exact hrec _ hlt (Or.inl ⟨rfl, h2⟩)
        · rw [b1 35 (by decide) (by decide)] at ec; cases ec
          rw [ix12n, nI_clamp (by omega), (b2.2 k hlt).2.2] at exc
          subst exc
          rw [if_pos ⟨k1, k2⟩] at h2
          exact hrec _ hlt (Or.inr ⟨hw.2.2.2.1 k hlt, h2⟩)
      · exact absurd (le0.mpr h1) g1
  intro m
  induction m with
  | zero => intro k v c1 c2; exact hstep (fun _ _ _ _ => True) k v c1 c2 (fun _ _ _ => trivial)
  | succ m ih => intro k v c1 c2; exact hstep _ k v c1 c2 (fun v' d1 d2 => ih _ _ (by omega) d2)
/-- the miles from one stairs up to another, as they are told -/
def mup (f : TF) (ad : Nat → Nat) (a b : Int32) : Int32 := ti f (ad 28) b.toNatClampNeg - ti f (ad 28) a.toNatClampNeg
def mdi (f : TF) (ad : Nat → Nat) (a b : Int32) : Int32 := if mup f ad a b ≤ 0 then -(mup f ad a b) else mup f ad a b
theorem fareOf_m {ad am : Nat → Nat} {i : Nat} {o : OS} {a b day hour oars : Int32} {Q : Int32 → Prop} (hR : Refs f q0 q1 ad) (hM : OrdM f q1 am i o) (hw : WfO o) (hi : i < 20) (hq : Q (frN (FR o (mdi f ad a b) (flv f ad day hour) (decide (¬ mup f ad a b ≤ 0)) day hour oars))) : wp_Md_fareOf_w L f q1 (nI i) a b day hour oars Q := by
  intro q e x ex y ey
  rw [hR.2.2.2.2.2.1] at e; cases e
  subst ex ey
  have h0 : (-1 : Int32) = -1 ∧ bsP o.1 (mdi f ad a b) o.1.1 0 = bsP o.1 (mdi f ad a b) (o.1.1 - 0) 0 ∨ ¬ (-1 : Int32) < 0 ∧ bsP o.1 (mdi f ad a b) o.1.1 0 = -1 := Or.inl ⟨rfl, rfl⟩
  have := fl_loop (p1 := a) (p2 := b) (L := L) hR hM hw hi hq (((12 : Int32).toInt - (0 : Int32).toInt).toNat) 0 (-1) (Nat.zero_le _) h0
  refine ⟨fun g => ?_, fun g => ?_⟩
  · have e1 : mdi f ad a b = -(ti f (ad 28) b.toNatClampNeg - ti f (ad 28) a.toNatClampNeg) := if_pos g
    have e2 : decide (¬ mup f ad a b ≤ 0) = false := decide_eq_false (fun z => z g)
    rw [e1, e2] at this
    exact this
  · have e1 : mdi f ad a b = ti f (ad 28) b.toNatClampNeg - ti f (ad 28) a.toNatClampNeg := if_neg g
    have e2 : decide (¬ mup f ad a b ≤ 0) = true := decide_eq_true g
    rw [e1, e2] at this
    exact this
end FARM
