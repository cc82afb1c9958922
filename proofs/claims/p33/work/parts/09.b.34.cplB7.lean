section HIO
variable {L : List Nat} {f : TF} {q0 q1 : Nat} {ad ad' : Nat → Nat}
abbrev endT (L : List Nat) (f : TF) (q : Nat) (p0 : Int32) (Q : Int32 → Prop) (w : Int32) : Prop := ∀ q_52 : Nat, tr f q 22 = some q_52 → ∀ x_53 : Int32, ti f q_52 (p0 : Int32).toNatClampNeg = x_53 → ((x_53 = 2 → ((1 ≤ ((w * 2) / 3) → Q ((w * 2) / 3)) ∧ (¬ (1 ≤ ((w * 2) / 3)) → Q 1))) ∧ (¬ (x_53 = 2) → ((1 ≤ w → Q w) ∧ (¬ (1 ≤ w) → Q 1))))
theorem mn1_m {w : Int32} {Q : Int32 → Prop} (hq : Q (mn1 w)) : (1 ≤ w → Q w) ∧ (¬ (1 ≤ w) → Q 1) := by
  unfold mn1 at hq
  refine ⟨fun g => ?_, fun g => ?_⟩
  · rw [if_pos g] at hq; exact hq
  · rw [if_neg g] at hq; exact hq
theorem end_m {b : Nat} {w : Int32} {Q : Int32 → Prop} (r : ∀ k, k ∈ RK → tr f q1 k = some (ad k)) (hb : b < 20) (hq : Q (mn1 (if ti f (ad 22) b = 2 then w * 2 / 3 else w))) : endT L f q1 (nI b) Q w := by
  intro q e x ex
  rw [r 22 (by decide)] at e; cases e
  rw [nI_clamp (by omega)] at ex
  subst ex
  refine ⟨fun g => ?_, fun g => ?_⟩
  · rw [if_pos g] at hq; exact mn1_m hq
  · rw [if_neg g] at hq; exact mn1_m hq
theorem minutesOf_m {b : Nat} {to T : Int32} {Q : Int32 → Prop} (hA : Ad f q0 q1 ad) (hR : Refs f q0 q1 ad') (hT : ti f q1 1 = T) (hb : b < 20) (hq : Q (mnv (mup f ad' (ti f (ad 23) b) to) (flv f ad' (T / 720) (hrs T)) (ti f (ad 22) b))) : wp_Md_minutesOf_w L f q1 (nI b) to Q := by
  have r := hA.2.2.2
  intro q e x2 e2 q3 e3 x4 e4 x5 e5
  rw [hR.2.2.2.2.2.1] at e; cases e
  rw [r 23 (by decide)] at e3; cases e3
  rw [nI_clamp (by omega)] at e4
  subst e4
  refine today_m (hour_m hT ?_)
  rw [hT]
  refine flow_m hR _ _ ?_
  generalize flv f ad' (T / 720) (hrs T) = fl at *
  have em : x2 - x5 = mup f ad' (ti f (ad 23) b) to := by rw [← e2, ← e5]; rfl
  rw [em]
  generalize mup f ad' (ti f (ad 23) b) to = m at *
  have go : ∀ w : Int32, mnA m * mnE m fl = w → endT L f q1 (nI b) Q w := by
    intro w hw
    unfold mnv at hq
    rw [hw] at hq
    exact end_m r hb hq
  have ap : 0 ≤ m → mnA m = m := fun h => if_pos h
  have an : ¬ 0 ≤ m → mnA m = -m := fun h => if_neg h
  have ap' : ¬ m ≤ 0 → mnA m = m := fun h => if_pos (by rw [Int32.le_iff_toInt_le] at h ⊢; omega)
  refine ⟨fun g => ?_, fun g => ⟨fun g1 => ⟨fun g2 => ?_, fun g2 => ?_⟩, fun g1 => ⟨fun g2 => ?_, fun g2 => ?_⟩⟩⟩
  · have eE : mnE m fl = 10 := if_pos g
    exact ⟨fun g3 => go _ (by rw [eE, ap g3]), fun g3 => go _ (by rw [eE, an g3])⟩
  · have eE : mnE m fl = 7 := by unfold mnE; rw [if_neg g, if_pos g1, if_pos g2]
    exact ⟨fun g3 => go _ (by rw [eE, ap g3]), fun g3 => go _ (by rw [eE, an g3])⟩
  · have eE : mnE m fl = 14 := by unfold mnE; rw [if_neg g, if_pos g1, if_neg g2]
    exact go _ (by rw [eE, ap' g2])
  · have eE : mnE m fl = 14 := by unfold mnE; rw [if_neg g, if_neg g1, if_pos g2]
    exact ⟨fun g3 => go _ (by rw [eE, ap g3]), fun g3 => go _ (by rw [eE, an g3])⟩
  · have eE : mnE m fl = 7 := by unfold mnE; rw [if_neg g, if_neg g1, if_neg g2]
    exact go _ (by rw [eE, ap' g2])
theorem minutesOf_x {c n : Nat} {to T a oars : Int32} {Q : Int32 → Prop} (hR : Refs f q0 q1 ad') (hV : Vals f q0 q1 ad') (ht : ti f q0 10 = T) (hn : n ≤ 359999) (hTn : T = nI n) (ha : ti f c 1 = a) (ho : ti f c 0 = oars) (s1 : mup f ad' a to ≤ 0 ↔ to ≤ a) (s2 : (if 0 ≤ mup f ad' a to then mup f ad' a to else 0 - mup f ad' a to) = mdi f ad' a to) (hq : Q (mnv (mup f ad' a to) (flv f ad' (T / 720) (hrs T)) oars)) : wp_WM_minutesOfWay_w L f q0 c to Q := by
  intro q e x2 e2
  rw [hR.1] at e; cases e
  rw [ha] at e2
  subst e2
  obtain ⟨⟨t1, t2⟩, t3, t4⟩ := hrs_b hn hTn
  refine today_x ht (hour_x ht hn hTn (drift_x hR hV s1 t1 t2 t3 t4 ?_))
  have hd : ∀ w : Int32, mnE (mup f ad' a to) (flv f ad' (T / 720) (hrs T)) = w → wp_Rv_distance_w L f (ad' 1) a to (fun (r_12 : Int32) => ∀ x_13 : Int32, ti f c 0 = x_13 → ((x_13 = 2 → ∀ y_16 : Int32, y_16 = (if 1 < (((r_12 * w) * 2) / 3) then (((r_12 * w) * 2) / 3) else 1) → Q y_16) ∧ (¬ (x_13 = 2) → ∀ y_15 : Int32, y_15 = (if 1 < (r_12 * w) then (r_12 * w) else 1) → Q y_15))) := by
    intro w hw
    refine dist_x hR hV s2 ?_
    intro x13 e13
    rw [ho] at e13
    subst e13
    unfold mnv at hq
    rw [hw, ← mnA_d] at hq
    refine ⟨fun g y ey => ?_, fun g y ey => ?_⟩
    · rw [if_pos g] at hq
      rw [mn1_x] at ey
      subst ey
      exact hq
    · rw [if_neg g] at hq
      rw [mn1_x] at ey
      subst ey
      exact hq
  generalize flv f ad' (T / 720) (hrs T) = fl at *
  generalize hm : mup f ad' a to = m at *
  have hE : drv fl (decide (¬ m ≤ 0)) = 0 ∧ mnE m fl = 10 ∨ drv fl (decide (¬ m ≤ 0)) = 1 ∧ mnE m fl = 7 ∨ drv fl (decide (¬ m ≤ 0)) = -1 ∧ mnE m fl = 14 := by
    unfold drv mnE
    by_cases h0 : fl = 0
    · exact Or.inl ⟨if_pos h0, if_pos h0⟩
    · rw [if_neg h0, if_neg h0]
      by_cases h1 : fl ≤ 0
      · rw [if_pos h1, if_pos h1]
        by_cases h2 : m ≤ 0
        · rw [if_pos h2, decide_eq_false (fun z => z h2)]; exact Or.inr (Or.inl ⟨rfl, rfl⟩)
        · rw [if_neg h2, decide_eq_true h2]; exact Or.inr (Or.inr ⟨rfl, rfl⟩)
      · rw [if_neg h1, if_neg h1]
        by_cases h2 : m ≤ 0
        · rw [if_pos h2, decide_eq_false (fun z => z h2)]; exact Or.inr (Or.inr ⟨rfl, rfl⟩)
        · rw [if_neg h2, decide_eq_true h2]; exact Or.inr (Or.inl ⟨rfl, rfl⟩)
  rcases hE with ⟨e1, e2⟩ | ⟨e1, e2⟩ | ⟨e1, e2⟩
  · rw [e1]
    exact ⟨fun _ => ⟨fun _ => hd 10 e2, fun z => absurd (by decide) z⟩, fun z => absurd (by decide) z⟩
  · rw [e1]
    exact ⟨fun z => absurd z (by decide), fun _ => hd 7 e2⟩
  · rw [e1]
    exact ⟨fun _ => ⟨fun z => absurd z (by decide), fun _ => hd 14 e2⟩, fun z => absurd (by decide) z⟩
/-- an order shuts the bridge -/
def ab32 (fl : Int32) : Int32 := if 0 ≤ fl then fl else 0 - fl
def shV (o : OS) (hour fl : Int32) : Prop := (¬ o.2.2.1 6 = -1 ∧ (hour < o.2.2.1 6 ∨ o.2.2.2 < hour)) ∨ (¬ o.2.2.1 7 = -1 ∧ o.2.2.1 7 < ab32 fl)
theorem shut_x {qO qF qH qS : Nat} {o : OS} {hour fl : Int32} {Q : Int32 → Prop} (hX : OrdX f qO qF qH qS o) (h1 : shV o hour fl → Q 1) (h0 : ¬ shV o hour fl → Q 0) : wp_Or_shutsBridge_w L f qO hour fl Q := by
  obtain ⟨⟨r1, r2, r3⟩, a1, a2, a3, a4, a5, a6⟩ := hX
  have z6 : (6 : Int32).toNatClampNeg = 6 := by decide
  have z7 : (7 : Int32).toNatClampNeg = 7 := by decide
  intro q e x2 e2
  rw [r3] at e; cases e
  rw [z6, a5 6 (by decide)] at e2
  subst e2
  have hh : ¬ (¬ o.2.2.1 6 = -1 ∧ (hour < o.2.2.1 6 ∨ o.2.2.2 < hour)) → ∀ x_4 : Int32, ti f qS (7 : Int32).toNatClampNeg = x_4 → ((x_4 = (-1) → Q 0) ∧ (¬ (x_4 = (-1)) → ∀ y_6 : Int32, y_6 = (if 0 ≤ fl then fl else 0 - fl) → ((y_6 ≤ x_4 → Q 0) ∧ (¬ (y_6 ≤ x_4) → Q 1)))) := by
    intro hn x4 e4
    rw [z7, a5 7 (by decide)] at e4
    subst e4
    refine ⟨fun g => h0 (fun z => z.elim hn (fun z => z.1 g)), fun g y6 e6 => ?_⟩
    subst e6
    exact ⟨fun g2 => h0 (fun z => z.elim hn (fun z => lt32.mpr z.2 g2)), fun g2 => h1 (Or.inr ⟨g, lt32.mp g2⟩)⟩
  refine ⟨fun g => hh (fun z => z.1 g), fun g x8 e8 => ?_⟩
  rw [(a6 g).1] at e8
  subst e8
  refine ⟨fun g2 => h1 (Or.inl ⟨g, Or.inl g2⟩), fun g2 x10 e10 => ?_⟩
  rw [(a6 g).2] at e10
  subst e10
  exact ⟨fun g3 => hh (fun z => z.2.elim g2 (fun y => lt32.mpr y g3)), fun g3 => h1 (Or.inl ⟨g, Or.inr (lt32.mp g3)⟩)⟩
abbrev headT (L : List Nat) (f : TF) (q : Nat) (p0 : Int32) (K S : Prop) (fl : Int32) : Prop := wp_Md_lineOf_w L f q p0 (17 : Int32) (fun (r_85 : Int32) => ((r_85 < 0 → K) ∧ (¬ (r_85 < 0) → ((0 ≤ fl → wp_Md_lineOf_w L f q p0 (17 : Int32) (fun (r_90 : Int32) => ((fl ≤ r_90 → K) ∧ (¬ (fl ≤ r_90) → S)))) ∧ (¬ (0 ≤ fl) → wp_Md_lineOf_w L f q p0 (17 : Int32) (fun (r_94 : Int32) => (((-fl) ≤ r_94 → K) ∧ (¬ ((-fl) ≤ r_94) → S))))))))
theorem head_m {am : Nat → Nat} {i : Nat} {o : OS} {fl : Int32} {K S : Prop} (hM : OrdM f q1 am i o) (hw : WfO o) (hi : i < 20) (hS : ¬ o.2.2.1 7 = -1 ∧ o.2.2.1 7 < ab32 fl → S) (hK : ¬ (¬ o.2.2.1 7 = -1 ∧ o.2.2.1 7 < ab32 fl) → K) : headT L f q1 (nI i) K S fl := by
  have hc : o.2.2.1 7 < 0 ↔ o.2.2.1 7 = -1 := by
    rcases hw.2.2.1 7 (by decide) with h | h
    · rw [h]; exact ⟨fun _ => rfl, fun _ => by decide⟩
    · exact ⟨fun k => absurd k h, fun k => absurd (by rw [k]; decide) h⟩
  refine lo_m hM hi (j := 7) (by decide) rfl ⟨fun g => hK (fun z => z.1 (hc.mp g)), fun g => ⟨fun g1 => lo_m hM hi (j := 7) (by decide) rfl ?_, fun g1 => lo_m hM hi (j := 7) (by decide) rfl ?_⟩⟩
  · have e : ab32 fl = fl := if_pos g1
    rw [e] at hS hK
    exact ⟨fun g2 => hK (fun z => lt32.mpr z.2 g2), fun g2 => hS ⟨fun z => g (hc.mpr z), lt32.mp g2⟩⟩
  · have e : ab32 fl = -fl := by unfold ab32; rw [if_neg g1, Int32.zero_sub]
    rw [e] at hS hK
    exact ⟨fun g2 => hK (fun z => lt32.mpr z.2 g2), fun g2 => hS ⟨fun z => g (hc.mpr z), lt32.mp g2⟩⟩
abbrev shutT (L : List Nat) (f : TF) (q : Nat) (p0 : Int32) (K S : Prop) : Prop := wp_Md_today_w L f q (fun (r_74 : Int32) => (wp_Md_hourNow_w L f q (fun (r_79 : Int32) => (wp_Md_flowOf_w L f q r_74 r_79 (fun (r_82 : Int32) => wp_Md_lineOf_w L f q p0 (16 : Int32) (fun (r_83 : Int32) => ((r_83 < 0 → headT L f q p0 K S r_82) ∧ (¬ (r_83 < 0) → wp_Md_hourNow_w L f q (fun (r_98 : Int32) => (wp_Md_lineOf_w L f q p0 (16 : Int32) (fun (r_101 : Int32) => ∀ q_102 : Nat, tr f q 41 = some q_102 → ∀ x_103 : Int32, ti f q_102 (p0 : Int32).toNatClampNeg = x_103 → ((r_98 < r_101 → S) ∧ (¬ (r_98 < r_101) → ((x_103 < r_98 → S) ∧ (¬ (x_103 < r_98) → headT L f q p0 K S r_82)))))))))))))))
theorem shut_m {am : Nat → Nat} {i : Nat} {o : OS} {T : Int32} {K S : Prop} (hR : Refs f q0 q1 ad') (hM : OrdM f q1 am i o) (hw : WfO o) (hi : i < 20) (hT : ti f q1 1 = T) (hS : shV o (hrs T) (flv f ad' (T / 720) (hrs T)) → S) (hK : ¬ shV o (hrs T) (flv f ad' (T / 720) (hrs T)) → K) : shutT L f q1 (nI i) K S := by
  have hc : o.2.2.1 6 < 0 ↔ o.2.2.1 6 = -1 := by
    rcases hw.2.2.1 6 (by decide) with h | h
    · rw [h]; exact ⟨fun _ => rfl, fun _ => by decide⟩
    · exact ⟨fun k => absurd k h, fun k => absurd (by rw [k]; decide) h⟩
  refine today_m (hour_m hT ?_)
  rw [hT]
  refine flow_m hR _ _ ?_
  generalize flv f ad' (T / 720) (hrs T) = fl at *
  refine lo_m hM hi (j := 6) (by decide) rfl ⟨fun g => head_m hM hw hi (fun z => hS (Or.inr z)) (fun z => hK (fun y => y.elim (fun w => w.1 (hc.mp g)) z)), fun g => hour_m hT (lo_m hM hi (j := 6) (by decide) rfl ?_)⟩
  intro q e x ex
  rw [hM.1 41 (by decide) (by decide)] at e; cases e
  have g6 : ¬ o.2.2.1 6 = -1 := fun z => g (hc.mpr z)
  rw [nI_clamp (by omega), hM.2.2.2.2 g6] at ex
  subst ex
  exact ⟨fun k => hS (Or.inl ⟨g6, Or.inl k⟩), fun k => ⟨fun k' => hS (Or.inl ⟨g6, Or.inr k'⟩), fun k' => head_m hM hw hi (fun z => hS (Or.inr z)) (fun z => hK (fun y => y.elim (fun w => w.2.elim k k') z))⟩⟩
/-- a way passes the bridge -/
def psV (B a b : Int32) : Prop := ¬ B < 0 ∧ ((B < a ∧ ¬ B < b) ∨ (¬ B < a ∧ B < b))
theorem pass_x {qr : Nat} {B a b : Int32} {Q : Int32 → Prop} (hB : ti f qr 5 = B) (hb : B = -1 ∨ ¬ B < 0) (h1 : psV B a b → Q 1) (h0 : ¬ psV B a b → Q 0) : wp_Rv_passesBridge_w L f qr a b Q := by
  intro x1 e1
  rw [hB] at e1
  subst e1
  unfold psV at h1 h0
  rw [Int32.lt_iff_toInt_lt, Int32.lt_iff_toInt_lt, Int32.lt_iff_toInt_lt] at h1 h0
  have z0 : (0 : Int32).toInt = 0 := by decide
  have zm : (-1 : Int32).toInt = -1 := by decide
  refine ⟨fun g => h0 (fun z => z.1 (by rw [g]; omega)), fun g y3 e3 => ?_⟩
  have hB0 : ¬ B < 0 := hb.elim (fun z => absurd z g) id
  have hB0' : ¬ B.toInt < (0 : Int32).toInt := by rw [Int32.lt_iff_toInt_lt] at hB0; exact hB0
  have k3 : y3.toInt = if b.toInt < a.toInt then b.toInt else a.toInt := by
    rw [e3]
    by_cases h : b < a
    · rw [if_pos h, if_pos (Int32.lt_iff_toInt_lt.mp h)]
    · rw [if_neg h, if_neg (fun z => h (Int32.lt_iff_toInt_lt.mpr z))]
  refine ⟨fun g2 => h0 (fun z => ?_), fun g2 y5 e5 => ?_⟩
  · rw [Int32.lt_iff_toInt_lt, k3] at g2
    split at g2 <;> omega
  have k5 : y5.toInt = if a.toInt < b.toInt then b.toInt else a.toInt := by
    rw [e5]
    by_cases h : a < b
    · rw [if_pos h, if_pos (Int32.lt_iff_toInt_lt.mp h)]
    · rw [if_neg h, if_neg (fun z => h (Int32.lt_iff_toInt_lt.mpr z))]
  rw [Int32.lt_iff_toInt_lt, k3] at g2
  refine ⟨fun g3 => h0 (fun z => ?_), fun g3 => h1 ⟨hB0', ?_⟩⟩
  · rw [Int32.le_iff_toInt_le, k5] at g3
    split at g3 <;> omega
  · rw [Int32.le_iff_toInt_le, k5] at g3
    split at g2 <;> split at g3 <;> omega
abbrev minT (L : List Nat) (f : TF) (q : Nat) (p0 p2 : Int32) (Q : Int32 → Prop) : Prop := wp_Md_minutesOf_w L f q p0 p2 (fun (r_59 : Int32) => ((((ti f q 1) + r_59) ≤ 359999 → Q 0) ∧ (¬ (((ti f q 1) + r_59) ≤ 359999) → Q 7)))
abbrev goT (L : List Nat) (f : TF) (q : Nat) (p0 p2 : Int32) (Q : Int32 → Prop) : Prop := wp_Md_today_w L f q (fun (r_50 : Int32) => (wp_Md_hourNow_w L f q (fun (r_55 : Int32) => (wp_Md_flowOf_w L f q r_50 r_55 (fun (_ : Int32) => minT L f q p0 p2 Q)))))
abbrev passT (L : List Nat) (f : TF) (q : Nat) (p0 p2 x19 r33 : Int32) (Q : Int32 → Prop) : Prop := ∀ x_48 : Int32, ti f q 4 = x_48 → ((x_48 < 0 → goT L f q p0 p2 Q) ∧ (¬ (x_48 < 0) → ((x_48 < x19 → ((x_48 < p2 → goT L f q p0 p2 Q) ∧ (¬ (x_48 < p2) → shutT L f q r33 (minT L f q p0 p2 Q) (Q 6)))) ∧ (¬ (x_48 < x19) → ((x_48 < p2 → shutT L f q r33 (minT L f q p0 p2 Q) (Q 6)) ∧ (¬ (x_48 < p2) → goT L f q p0 p2 Q))))))
abbrev ordT (L : List Nat) (f : TF) (q : Nat) (p0 p2 x19 : Int32) (Q : Int32 → Prop) : Prop := wp_Md_today_w L f q (fun (r_23 : Int32) => (wp_Md_today_w L f q (fun (r_28 : Int32) => (wp_Md_forceOn_w L f q r_23 r_28 (fun (r_33 : Int32) => ((r_33 = (-2) → Q 5) ∧ (¬ (r_33 = (-2)) → wp_Md_today_w L f q (fun (r_36 : Int32) => (wp_Md_hourNow_w L f q (fun (r_41 : Int32) => (∀ q_44 : Nat, tr f q 22 = some q_44 → ∀ x_45 : Int32, ti f q_44 (p0 : Int32).toNatClampNeg = x_45 → wp_Md_fareOf_w L f q r_33 x19 p2 r_36 r_41 x_45 (fun (r_46 : Int32) => ((0 ≤ r_46 → passT L f q p0 p2 x19 r_33 Q) ∧ (¬ (0 ≤ r_46) → Q 5))))))))))))))
theorem hinders_t {p_0 p_1 p_2 : Int32} {Q : Int32 → Prop} (h : ∀ q_1 : Nat, tr f q1 8 = some q_1 → wp_Md_today_w L f q1 (fun (r_2 : Int32) => (∀ x_7 : Int32, ti f q_1 (r_2 : Int32).toNatClampNeg = x_7 → ((x_7 = 0 → ∀ q_9 : Nat, tr f q1 25 = some q_9 → ∀ x_10 : Int32, ti f q_9 (p_0 : Int32).toNatClampNeg = x_10 → ((x_10 < 0 → ∀ q_12 : Nat, tr f q1 9 = some q_12 → ∀ x_13 : Int32, ti f q_12 (p_1 : Int32).toNatClampNeg = x_13 → ((x_13 = 2 → ∀ q_15 : Nat, tr f q1 16 = some q_15 → ∀ x_16 : Int32, ti f q_15 (p_1 : Int32).toNatClampNeg = x_16 → ((x_16 < 0 → ∀ q_18 : Nat, tr f q1 23 = some q_18 → ∀ x_19 : Int32, ti f q_18 (p_0 : Int32).toNatClampNeg = x_19 → ∀ q_20 : Nat, tr f q1 19 = some q_20 → ∀ x_21 : Int32, ti f q_20 (x_19 : Int32).toNatClampNeg = x_21 → ((x_21 ≤ 0 → ordT L f q1 p_0 p_2 x_19 Q) ∧ (¬ (x_21 ≤ 0) → ∀ q_178 : Nat, tr f q1 20 = some q_178 → ∀ x_179 : Int32, ti f q_178 ((40 * x_19) : Int32).toNatClampNeg = x_179 → ((x_179 = p_1 → ordT L f q1 p_0 p_2 x_19 Q) ∧ (¬ (x_179 = p_1) → Q 4))))) ∧ (¬ (x_16 < 0) → Q 3))) ∧ (¬ (x_13 = 2) → Q 3))) ∧ (¬ (x_10 < 0) → Q 2))) ∧ (¬ (x_7 = 0) → Q 1))))) : wp_Md_hinders_w L f q1 p_0 p_1 p_2 Q := h
end HIO
