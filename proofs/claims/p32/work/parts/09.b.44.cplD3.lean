section PAY
variable {L : List Nat} {f : TF} {q0 q1 : Nat} {ad : Nat → Nat}
def pay1 (pen pend : Nat → Int32) (d i : Nat) (M : MS) : MS := if nI d < pend i ∧ (pen i).toInt ≤ M.1 then (M.1 - (pen i).toInt, M.2.1, M.2.2.1 + pen i, M.2.2.2.1, M.2.2.2.2.1, fun x => if x = i then M.2.2.2.2.2 x + pen i else M.2.2.2.2.2 x) else M
def payN (pen pend : Nat → Int32) (d : Nat) : Nat → MS → MS
  | 0, M => M
  | n + 1, M => pay1 pen pend d n (payN pen pend d n M)
def payF (np : Nat) (pen pend : Nat → Int32) (d : Nat) (M : MS) : MS := if d % 100 = 0 then payN pen pend d np M else M
/-- a pension is no more than 10000 -/
def PB (np : Nat) (pen : Nat → Int32) : Prop := ∀ i, i < np → 0 ≤ (pen i).toInt ∧ (pen i).toInt ≤ 10000
theorem IV.payi {B : Int} {M : MS} {pen pend : Nat → Int32} {d i : Nat} (h : IV B M) (hp : 0 ≤ (pen i).toInt) : IV B (pay1 pen pend d i M) := by
  unfold pay1
  obtain ⟨h1, h2, h3, h4, h5⟩ := id h
  by_cases hc : nI d < pend i ∧ (pen i).toInt ≤ M.1
  · rw [if_pos hc]
    refine ⟨?_, h2, ?_, h4, h5⟩
    · show 0 ≤ M.1 - (pen i).toInt; omega
    · show M.1 - (pen i).toInt + M.2.1 ≤ B; omega
  · rw [if_neg hc]; exact h
theorem IV.payN {B : Int} {M : MS} {pen pend : Nat → Int32} {d np : Nat} (h : IV B M) (hp : PB np pen) : ∀ n, n ≤ np → IV B (payN pen pend d n M) := by
  intro n
  induction n with
  | zero => intro _; exact h
  | succ n ih => intro hn; exact (ih (by omega)).payi (hp n (by omega)).1
theorem IV.pay {B : Int} {M : MS} {pen pend : Nat → Int32} {d np : Nat} (h : IV B M) (hp : PB np pen) : IV B (payF np pen pend d M) := by
  unfold payF
  split
  · exact h.payN hp np (Nat.le_refl _)
  · exact h
theorem d100 {d : Nat} (hd : d < 500) : (nI d - nI d / 100 * 100 = 0) ↔ d % 100 = 0 := by
  rw [show (100 : Int32) = nI 100 from rfl, pk_rem (by omega) (by decide) (by decide), show (0 : Int32) = nI 0 from rfl, nI_eq (by omega) (by decide)]
def avCX (W : List (Nat × Nat)) : Bool := W.all (fun p => p.1 != 14) && [(12, 4), (12, 5), (12, 6), (26, 0), (26, 1), (20, 7)].all (fun q => !(wr W q.1 q.2))
theorem CX.mem {pn : Nat → Nat} {np : Nat} {ls pen pend : Nat → Int32} (hC : CX f ad pn np ls pen pend) (hA : Ad f q0 q1 ad) (hO : Ok L f) (m0 : q0 ∈ L ∧ tk f q0 = 0) : (ad 70 ∈ L ∧ tk f (ad 70) = 14) ∧ ∀ i, i < np → pn i ∈ L ∧ tk f (pn i) = 26 := by
  obtain ⟨⟨c1, c2, c3, c4⟩, c5, -⟩ := hC
  have i70 := hO.rm (j := 5) (k' := 14) (n := false) (hA.box hO m0) rfl c4
  exact ⟨i70, fun i hi => hO.rm (k' := 26) (n := true) i70 (slot_arr (n := 30) rfl (show i < 30 by omega)) (c5 i hi)⟩
theorem CX.ext {W : List (Nat × Nat)} {L1 : List Nat} {f1 : TF} {pn : Nat → Nat} {np : Nat} {ls pen pend : Nat → Int32} (hC : CX f ad pn np ls pen pend) (hA : Ad f q0 q1 ad) (hO : Ok L f) (m0 : q0 ∈ L ∧ tk f q0 = 0) (hE : Ext W L f L1 f1) (ha : avCX W = true) : CX f1 ad pn np ls pen pend := by
  unfold avCX at ha
  rw [Bool.and_eq_true] at ha
  have s : ∀ k j, (k, j) ∈ [(12, 4), (12, 5), (12, 6), (26, 0), (26, 1), (20, 7)] → wr W k j = false := fun k j hj => by simpa using List.all_eq_true.mp ha.2 (k, j) hj
  obtain ⟨i70, ip⟩ := hC.mem hA hO m0
  have ib := hA.box hO m0
  obtain ⟨⟨c1, c2, c3, c4⟩, c5, c6, c7, c8⟩ := hC
  exact ⟨⟨c1, (hE.ei ib (s 12 6 (by decide))).trans c2, (hE.er ib (s 12 4 (by decide))).trans c3, (hE.er ib (s 12 5 (by decide))).trans c4⟩, fun i hi => (hE.er i70 (wr_k ha.1 i)).trans (c5 i hi), c6, fun i hi => ⟨(hE.ei (ip i hi) (s 26 0 (by decide))).trans (c7 i hi).1, (hE.ei (ip i hi) (s 26 1 (by decide))).trans (c7 i hi).2⟩, fun m hm => (hE.ei (hA.man hO m0 hm) (s 20 7 (by decide))).trans (c8 m hm)⟩
theorem pensioner_x {pn : Nat → Nat} {np : Nat} {ls pen pend : Nat → Int32} {p : Int32} {Q : Option Nat → Prop} (hC : CX f ad pn np ls pen pend) (hn : (p < 0 ∨ nI np ≤ p) → Q none) (hs : ∀ i, i < np → p = nI i → Q (some (pn i))) : wp_Bx_pensionerAt_w L f (ad 68) p Q := by
  obtain ⟨⟨c1, c2, c3, c4⟩, c5, -⟩ := hC
  refine ⟨fun g => hn (Or.inl g), fun g x2 e2 => ?_⟩
  rw [c2] at e2
  subst e2
  refine ⟨fun g2 => hn (Or.inr g2), fun g2 q4 e4 => ?_⟩
  rw [c4] at e4; cases e4
  obtain ⟨b, hb, rfl⟩ := nI_of2 (M := nI np) (n := np) (nI_toInt (by omega)) g (by rw [Int32.le_iff_toInt_le] at g2 ⊢; omega)
  rw [nI_leI (by omega) (by omega)] at g2
  have hlt : b < np := by omega
  rw [nI_clamp (by omega), c5 b hlt]
  exact ⟨fun z => (by cases z), fun q5 e5 => (by cases e5; exact hs b hlt rfl)⟩
theorem pay_x {pn : Nat → Nat} {np d : Nat} {ls pen pend : Nat → Int32} {M : MS} {B : Int} {Q : List Nat → TF → Prop} (hA : Ad f q0 q1 ad) (hO : Ok L f) (m0 : q0 ∈ L ∧ tk f q0 = 0) (m1 : q1 ∈ L ∧ tk f q1 = 27) (hd : d < 500) (hX : RX f ad pn np M) (hC : CX f ad pn np ls pen pend) (hI : IV B M) (hp : PB np pen) (hq : ∀ f' : TF, RX f' ad pn np (payF np pen pend d M) → Q L f') : wp_Bx_payPensions_w L f (ad 68) (nI d) Q := by
  refine ⟨fun g => ?_, fun g => ?_⟩
  rotate_left
  · rw [d100 hd] at g
    have e : payF np pen pend d M = M := by unfold payF; rw [if_neg g]
    exact hq f (by rw [e]; exact hX)
  rw [d100 hd] at g
  have ef : payF np pen pend d M = payN pen pend d np M := by unfold payF; rw [if_pos g]
  rw [ef] at hq
  have c1 := hC.1.1
  have hstep : ∀ (rc : Int32 → List Nat → TF → Prop) (i : Nat) (w : TF), i ≤ np → RX w ad pn np (payN pen pend d i M) → (∀ w' : TF, i < np → RX w' ad pn np (payN pen pend d (i + 1) M) → rc (nI (i + 1)) L w') → wpB_Bx_payPensions_w_10_2 L f (ad 68) (nI d) Q rc (nI i) L w := by
    intro rc i w hi hX hrec hOw hE x3 e3
    have hA' := hA.ext hO m0 m1 hE (by decide +kernel)
    have hC' := hC.ext hA hO m0 hE (by decide +kernel)
    have n0 := hE.m m0
    rw [hC'.1.2.1] at e3
    subst e3
    refine ⟨fun e => ?_, fun e => ?_⟩
    · rw [nI_leI (by omega) (by omega)] at e
      have : i = np := by omega
      subst this
      exact hq w hX
    · rw [nI_leI (by omega) (by omega)] at e
      have hlt : i < np := by omega
      have hr := fun w' h => hrec w' hlt h
      have hps : payN pen pend d (i + 1) M = pay1 pen pend d i (payN pen pend d i M) := rfl
      rw [hps] at hr
      have hI' := hI.payN (pend := pend) (d := d) hp i hi
      generalize payN pen pend d i M = M' at *
      refine pensioner_x hC' (fun z => ?_) (fun i' hi' ei => ?_)
      · exfalso
        rcases z with z | z
        · exact nI_pos (by omega) z
        · rw [nI_leI (by omega) (by omega)] at z; omega
      rw [nI_eq (by omega) (by omega)] at ei
      subst ei
      refine ⟨fun z => (by cases z), fun q5 e5 x6 e6 => ?_⟩
      cases e5
      have ib := hA'.box hOw n0
      have ip := (hC'.mem hA' hOw n0).2
      have iM := fun m (hm : m < 40) => hA'.man hOw n0 hm
      have ii := hA'.inc hOw n0 hC'.1.2.2.1
      obtain ⟨x1, x2, x3, x4, x5, x6'⟩ := id hX
      obtain ⟨v1, v2, v3, v4, v5⟩ := id hI'
      have hpi := hp i hlt
      rw [(hC'.2.2.2.1 i hlt).2] at e6
      subst e6
      rw [nI_1]
      refine ⟨fun k => ?_, fun k x8 e8 x9 e9 => ?_⟩
      · refine hr w ?_
        unfold pay1
        rw [if_neg (fun z => lt32.mpr z.1 k)]
        exact hX
      rw [(hC'.2.2.2.1 i hlt).1] at e8
      subst e8 e9
      refine ⟨fun k2 => ?_, fun k2 w2 hw2 _ x12 e12 w3 hw3 _ x14 e14 w4 hw4 _ => ?_⟩
      · refine hr w ?_
        unfold pay1
        rw [if_neg (fun z => ?_)]
        · exact hX
        · rw [Int32.lt_iff_toInt_lt, x1] at k2; omega
      have hc : nI d < pend i ∧ (pen i).toInt ≤ M'.1 := ⟨lt32.mp k, by rw [Int32.lt_iff_toInt_lt, x1] at k2; omega⟩
      have hsub : (ti w (ad 68) 0 - pen i).toInt = M'.1 - (pen i).toInt := by rw [fb_subI (by rw [x1]; omega) (by rw [x1]; omega), x1]
      have nb : ∀ i', i' < np → pn i' ≠ ad 68 := fun i' h => ne_tk (ip i' h).2 ib.2 (by decide)
      refine hr w4 ?_
      unfold pay1
      rw [if_pos hc]
      refine ⟨?_, ?_, ?_, fun x hx => ?_, fun m hm => ?_, fun i' hi2 => ?_⟩
      · rw [hw4, ti_sI_nj (by decide), hw3, ti_sI_ne (nb i hlt).symm, hw2, ti_sI_eq]; exact hsub
      · rw [hw4, ti_sI_nj (by decide), hw3, ti_sI_ne (nb i hlt).symm, hw2, ti_sI_nj (by decide)]; exact x2
      · rw [hw4, ti_sI_eq, ← e14, hw3, ti_sI_ne (nb i hlt).symm, hw2, ti_sI_nj (by decide), x3]
      · have e1 := ne_tk ii.2 ib.2 (by decide)
        have e2 := ne_tk ii.2 (ip i hlt).2 (by decide)
        rw [hw4, ti_sI_ne e1, hw3, ti_sI_ne e2, hw2, ti_sI_ne e1]; exact x4 x hx
      · have e1 := ne_tk (iM m hm).2 ib.2 (by decide)
        have e2 := ne_tk (iM m hm).2 (ip i hlt).2 (by decide)
        rw [hw4, ti_sI_ne e1, hw3, ti_sI_ne e2, hw2, ti_sI_ne e1]; exact x5 m hm
      · rw [hw4, ti_sI_ne (nb i' hi2), hw3, ti_sI]
        show _ = if i' = i then _ else _
        by_cases ee : i' = i
        · subst ee
          rw [if_pos ⟨rfl, rfl⟩, if_pos rfl, ← e12, hw2, ti_sI_ne (nb i' hi2), x6' i' hi2]
        · rw [if_neg (fun z => ee (hC'.2.2.1 i' i hi2 hlt z.1)), if_neg ee, hw2, ti_sI_ne (nb i' hi2)]
          exact x6' i' hi2
  have hloop : ∀ (n i : Nat) (w : TF), i ≤ np → RX w ad pn np (payN pen pend d i M) → wpL_Bx_payPensions_w_10_2 L f (ad 68) (nI d) Q n (nI i) L w := by
    intro n
    induction n with
    | zero => intro i w a1 a2; exact hstep (fun _ _ _ => True) i w a1 a2 (fun _ _ _ => trivial)
    | succ n ih => intro i w a1 a2; exact hstep _ i w a1 a2 (fun w' b1 b2 => ih _ w' (by omega) b2)
  exact hloop _ 0 f (by omega) hX
def avCM (W : List (Nat × Nat)) : Bool := [72, 73].all (fun k => W.all (fun p => p.1 != k)) && [15, 18, 59, 61, 62, 63, 60].all (fun k => !(wr W 27 k))
theorem CMm.ext {W : List (Nat × Nat)} {L1 : List Nat} {f1 : TF} {np : Nat} {pen pend : Nat → Int32} (hC : CMm f q1 ad np pen pend) (hO : Ok L f) (m1 : q1 ∈ L ∧ tk f q1 = 27) (hE : Ext W L f L1 f1) (ha : avCM W = true) : CMm f1 q1 ad np pen pend := by
  unfold avCM at ha
  rw [Bool.and_eq_true] at ha
  have kk : ∀ k, k ∈ [72, 73] → ∀ j, wr W k j = false := fun k hk j => wr_k (List.all_eq_true.mp ha.1 k hk) j
  have s : ∀ k, k ∈ [15, 18, 59, 61, 62, 63, 60] → wr W 27 k = false := fun k hk => by simpa using List.all_eq_true.mp ha.2 k hk
  have im := hC.m hO m1
  obtain ⟨⟨c1, c2⟩, c3, c4⟩ := hC
  refine ⟨⟨c1, (hE.ei m1 (s 60 (by decide))).trans c2⟩, fun k hk => (hE.er m1 (s k ?_)).trans (c3 k hk), fun i hi => ⟨(hE.ei (im 61 (by decide)) (kk 72 (by decide) i)).trans (c4 i hi).1, (hE.ei (im 62 (by decide)) (kk 73 (by decide) i)).trans (c4 i hi).2⟩⟩
  simp only [List.mem_cons, List.not_mem_nil, or_false] at hk ⊢
  omega
theorem cmp_ge {x y : Int64} : 0 ≤ lg_cmp x y ↔ y.toInt ≤ x.toInt := by
  unfold lg_cmp
  by_cases h1 : x > y
  · rw [if_pos h1]
    have := Int64.lt_iff_toInt_lt.mp h1
    exact ⟨fun _ => by omega, fun _ => by decide⟩
  · rw [if_neg h1]
    have h1' : ¬ y.toInt < x.toInt := fun z => h1 (Int64.lt_iff_toInt_lt.mpr z)
    by_cases h2 : x = y
    · rw [if_pos h2, h2]
      exact ⟨fun _ => Int.le_refl _, fun _ => by decide⟩
    · rw [if_neg h2]
      have h2' : x.toInt ≠ y.toInt := fun z => h2 (Int64.toInt_inj.mp z)
      exact ⟨fun z => absurd z (by decide), fun z => by omega⟩
theorem pay_m {np ng d : Nat} {pen pend : Nat → Int32} {M : MS} {B : Int} {Q : List Nat → TF → Prop} (hO : Ok L f) (m1 : q1 ∈ L ∧ tk f q1 = 27) (hX : RMm f q1 ad ng M) (hC : CMm f q1 ad np pen pend) (hI : IV B M) (hp : PB np pen) (hg : np ≤ ng) (hq : ∀ f' : TF, RMm f' q1 ad ng (payN pen pend d np M) → Q L f') : wp_Md_pay_w L f q1 (nI d) Q := by
  have c1 := hC.1.1
  have hstep : ∀ (rc : Int32 → List Nat → TF → Prop) (i : Nat) (w : TF), i ≤ np → RMm w q1 ad ng (payN pen pend d i M) → (∀ w' : TF, i < np → RMm w' q1 ad ng (payN pen pend d (i + 1) M) → rc (nI (i + 1)) L w') → wpB_Md_pay_w_2_1 L f q1 (nI d) Q rc (nI i) L w := by
    intro rc i w hi hX hrec hOw hE x2 e2
    have hC' := hC.ext hO m1 hE (by decide +kernel)
    have n1 := hE.m m1
    have im := hC'.m hOw n1
    have r := hC'.2.1
    rw [hC'.1.2] at e2
    subst e2
    refine ⟨fun e => ?_, fun e q4 e4 x5 e5 => ?_⟩
    · rw [nI_leI (by omega) (by omega)] at e
      have : i = np := by omega
      subst this
      exact hq w hX
    · rw [nI_leI (by omega) (by omega)] at e
      have hlt : i < np := by omega
      have hr := fun w' h => hrec w' hlt h
      have hps : payN pen pend d (i + 1) M = pay1 pen pend d i (payN pen pend d i M) := rfl
      rw [hps] at hr
      have hI' := hI.payN (pend := pend) (d := d) hp i hi
      generalize payN pen pend d i M = M' at *
      obtain ⟨x1, x2, x3, x4, x5', x6⟩ := id hX
      obtain ⟨v1, v2, v3, v4, v5⟩ := id hI'
      have hpi := hp i hlt
      rw [r 62 (by decide)] at e4; cases e4
      rw [nI_clamp (by omega), (hC'.2.2 i hlt).2] at e5
      subst e5
      rw [nI_1]
      refine ⟨fun k => ?_, fun k x7 e7 q8 e8 x9 e9 y10 e10 => ?_⟩
      · refine hr w ?_
        unfold pay1
        rw [if_neg (fun z => lt32.mpr z.1 k)]
        exact hX
      rw [r 61 (by decide)] at e8; cases e8
      rw [nI_clamp (by omega), (hC'.2.2 i hlt).1] at e9
      subst e9
      rw [e10, cmp_ge, Int32.toInt_toInt64, ← e7, x1]
      refine ⟨fun k2 x12 e12 y14 e14 w2 hw2 _ q16 e16 x17 e17 w3 hw3 _ x20 e20 y22 e22 w4 hw4 _ => ?_, fun k2 => ?_⟩
      rotate_left
      · refine hr w ?_
        unfold pay1
        rw [if_neg (fun z => k2 z.2)]
        exact hX
      have hc : nI d < pend i ∧ (pen i).toInt ≤ M'.1 := ⟨lt32.mp k, k2⟩
      rw [hw2, tr_sL, r 63 (by decide)] at e16; cases e16
      have n63 : ad 63 ≠ q1 := ne_tk (im 63 (by decide)).2 n1.2 (by decide)
      have n59 : ad 59 ≠ q1 := ne_tk (im 59 (by decide)).2 n1.2 (by decide)
      have n15 : ad 15 ≠ ad 63 := ne_tk (im 15 (by decide)).2 (im 63 (by decide)).2 (by decide)
      rw [nI_clamp (by omega)] at e17 hw3
      have hsub : y14.toInt = M'.1 - (pen i).toInt := by
        have ex := Int32.toInt_toInt64 (pen i)
        rw [e14, l_sub (by rw [← e12, x1, ex]; omega) (by rw [← e12, x1, ex]; omega), ← e12, x1, ex]
      refine hr w4 ?_
      unfold pay1
      rw [if_pos hc]
      refine ⟨?_, ?_, ?_, fun x hx => ?_, fun m hm => ?_, fun i' hi2 => ?_⟩
      · rw [hw4, tl_sL_nj (by decide), hw3, tl_sI, hw2, tl_sL_eq]; exact hsub
      · rw [hw4, tl_sL_nj (by decide), hw3, tl_sI, hw2, tl_sL_nj (by decide)]; exact x2
      · rw [hw4, tl_sL_eq, e22, Int64.toInt32_add, Int32.toInt32_toInt64, ← e20, hw3, tl_sI, hw2, tl_sL_nj (by decide), x3]
      · rw [hw4, tl_sL_ne n59, hw3, tl_sI, hw2, tl_sL_ne n59]; exact x4 x hx
      · rw [hw4, ti_sL, hw3, ti_sI_ne n15, hw2, ti_sL]; exact x5' m hm
      · rw [hw4, ti_sL, hw3, ti_sI]
        show _ = if i' = i then _ else _
        by_cases ee : i' = i
        · subst ee
          rw [if_pos ⟨rfl, rfl⟩, if_pos rfl, ← e17, hw2, ti_sL, x6 i' hi2]
        · rw [if_neg (fun z => ee z.2), if_neg ee, hw2, ti_sL]
          exact x6 i' hi2
  have hloop : ∀ (n i : Nat) (w : TF), i ≤ np → RMm w q1 ad ng (payN pen pend d i M) → wpL_Md_pay_w_2_1 L f q1 (nI d) Q n (nI i) L w := by
    intro n
    induction n with
    | zero => intro i w a1 a2; exact hstep (fun _ _ _ => True) i w a1 a2 (fun _ _ _ => trivial)
    | succ n ih => intro i w a1 a2; exact hstep _ i w a1 a2 (fun w' b1 b2 => ih _ w' (by omega) b2)
  exact hloop _ 0 f (by omega) hX
end PAY
