section HIP
variable {L : List Nat} {f : TF} {q0 q1 : Nat} {ad ad' : Nat → Nat}
/-- what hinders: the first of seven -/
def HV (c1 c2 c3 c4 c5 c6 c7 : Prop) (v : Int32) : Prop := (c1 ∧ v = 1) ∨ (¬ c1 ∧ c2 ∧ v = 2) ∨ (¬ c1 ∧ ¬ c2 ∧ c3 ∧ v = 3) ∨ (¬ c1 ∧ ¬ c2 ∧ ¬ c3 ∧ c4 ∧ v = 4) ∨ (¬ c1 ∧ ¬ c2 ∧ ¬ c3 ∧ ¬ c4 ∧ c5 ∧ v = 5) ∨ (¬ c1 ∧ ¬ c2 ∧ ¬ c3 ∧ ¬ c4 ∧ ¬ c5 ∧ c6 ∧ v = 6) ∨ (¬ c1 ∧ ¬ c2 ∧ ¬ c3 ∧ ¬ c4 ∧ ¬ c5 ∧ ¬ c6 ∧ c7 ∧ v = 7) ∨ (¬ c1 ∧ ¬ c2 ∧ ¬ c3 ∧ ¬ c4 ∧ ¬ c5 ∧ ¬ c6 ∧ ¬ c7 ∧ v = 0)
theorem HV.uni {c1 c2 c3 c4 c5 c6 c7 : Prop} {v w : Int32} (h : HV c1 c2 c3 c4 c5 c6 c7 v) (h' : HV c1 c2 c3 c4 c5 c6 c7 w) : v = w := by
  unfold HV at h h'
  by_cases k1 : c1
  · simp [k1] at h h'; rw [h, h']
  by_cases k2 : c2
  · simp [k1, k2] at h h'; rw [h, h']
  by_cases k3 : c3
  · simp [k1, k2, k3] at h h'; rw [h, h']
  by_cases k4 : c4
  · simp [k1, k2, k3, k4] at h h'; rw [h, h']
  by_cases k5 : c5
  · simp [k1, k2, k3, k4, k5] at h h'; rw [h, h']
  by_cases k6 : c6
  · simp [k1, k2, k3, k4, k5, k6] at h h'; rw [h, h']
  by_cases k7 : c7
  · simp [k1, k2, k3, k4, k5, k6, k7] at h h'; rw [h, h']
  · simp [k1, k2, k3, k4, k5, k6, k7] at h h'; rw [h, h']
theorem mw_x {ql : Nat → List Nat} {m s : Nat} {Q : Int32 → Prop} (hA : Ad f q0 q1 ad) (h : TX f ad ql) (hs : s < 12) (hm : m < 40) (h1 : ql s ≠ [] ∧ (ql s).getD 0 0 ≠ m → Q 1) (h0 : ¬ (ql s ≠ [] ∧ (ql s).getD 0 0 ≠ m) → Q 0) : wp_WM_mustWait_w L f q0 (ad (100 + m)) (nI s) Q := by
  intro x1 e1
  subst e1
  refine ⟨fun g => ?_, fun g => ?_⟩
  · have hmem := h.at hs hm g
    obtain ⟨k, hk, ek⟩ := mem_getD.mp hmem
    have hl : (ql s).length ≤ 40 ∨ True := Or.inr trivial
    have hne : ql s ≠ [] := by intro e; rw [e] at hmem; cases hmem
    refine pit_x hA h hs hk ek ⟨fun z => h0 (fun y => y.2 ?_), fun z => h1 ⟨hne, fun y => z ?_⟩⟩
    · have hk0 : k = 0 := by
        have hk40 : k < 40 := by
          have hnd := h.nodup hs
          have := cn_mem (n := 40) (ql s) hnd (fun x hx => (h.1 s hs x hx).1)
          have hle : ∀ (P : Nat → Bool) n, cn P n ≤ n := by
            intro P n
            induction n with
            | zero => exact Nat.le_refl 0
            | succ n ih => show cn P n + _ ≤ n + 1; split <;> omega
          have := hle (fun i => decide (i ∈ ql s)) 40
          omega
        rw [show (0 : Int32) = nI 0 from rfl, nI_eq (by omega) (by decide)] at z
        exact z
      subst hk0
      exact ek
    · have := h.inj hs hk (show 0 < (ql s).length by omega) (by rw [ek, y])
      subst this
      rfl
  · have hnm : m ∉ ql s := fun z => g (h.1 s hs m z).2
    refine ht_x hA h hs (fun hne => ⟨fun z => absurd z (by decide), fun _ => h1 ⟨hne, fun y => ?_⟩⟩) (fun he => ⟨fun _ => h0 (fun y => y.1 he), fun z => absurd z (by decide)⟩)
    have hp : 0 < (ql s).length := List.length_pos_iff.mpr hne
    exact hnm (mem_getD.mpr ⟨0, hp, y⟩)
theorem St_s {N s : Nat} (hN : ti f q1 2 = nI N) (hN2 : N ≤ 12) (hs : s < N) : St f q1 (nI s) := by
  refine ⟨nI_pos (by omega), ?_⟩
  have z1 : (1 : Int32).toInt = 1 := by decide
  have k1 := nI_toInt (n := N) (by omega)
  have k2 := nI_toInt (n := s) (by omega)
  rw [hN, Int32.lt_iff_toInt_lt, fb_subI (by omega) (by omega)]
  omega
theorem mup_b (hR : Refs f q0 q1 ad') (hCM : CM f q1) (hO : Ok L f) (m1 : q1 ∈ L ∧ tk f q1 = 27) {a b : Int32} (ha : St f q1 a) (hb : St f q1 b) : -60 ≤ (mup f ad' a b).toInt ∧ (mup f ad' a b).toInt ≤ 60 := by
  obtain ⟨c, h1, h2, h3⟩ := hCM
  rw [hR.2.2.2.2.2.1] at h1; cases h1
  obtain ⟨u1, u2⟩ := h2 _ (ha.nat hO m1)
  obtain ⟨w1, w2⟩ := h2 _ (hb.nat hO m1)
  have z0 : (0 : Int32).toInt = 0 := by decide
  have z60 : (60 : Int32).toInt = 60 := by decide
  rw [Int32.lt_iff_toInt_lt] at u1 u2 w1 w2
  unfold mup
  rw [fb_subI (by omega) (by omega)]
  omega
theorem hind_x {D : Int} {n qx : Nat} {cO cF cH cS am : Nat → Nat} {oo : Nat → OS} {ql : Nat → List Nat} {bt tp : Nat → Nat} {nB nT N b m s tn : Nat} {T to : Int32} {Q : Int32 → Prop} (hO : Ok L f) (m0 : q0 ∈ L ∧ tk f q0 = 0) (m1 : q1 ∈ L ∧ tk f q1 = 27) (hR : Refs f q0 q1 ad') (hV : Vals f q0 q1 ad') (hCM : CM f q1) (hOo : COf f q0 q1 n qx cO cF cH cS am oo) (hA : Ad f q0 q1 ad) (hK1 : K1 f ad D) (hTX : TX f ad ql) (hTM : TM f ad ql) (hB : BT f q0 q1 ad bt tp nB nT) (hBR : BR f ad T N nT b (bt b)) (hMR : MR f ad T nB nT m) (hT : ti f q1 1 = T) (htn : tn ≤ 359999) (hTn : T = nI tn) (hN : ti f q1 2 = nI N) (hN2 : N ≤ 12) (hb : b < nB) (hm : m < 40) (hs : s < N) (has : ti f (ad 23) b = nI s) (hto : St f q1 to) (hne : ¬ to = nI s) (hsk : ti f (ad 26) b = 0) (hq : ∀ v, HV (¬ ti f (ad' 32) (T / 720).toNatClampNeg = 0) (0 ≤ ti f (ad 25) b) (¬ ti f (ad 9) m = 2 ∨ 0 ≤ ti f (ad 16) m) (ql s ≠ [] ∧ (ql s).getD 0 0 ≠ m) (fi f am (T / 720) (T / 720) n = -2 ∨ FR (oo (fi f am (T / 720) (T / 720) n).toNatClampNeg) (mdi f ad' (nI s) to) (flv f ad' (T / 720) (hrs T)) (decide (¬ mup f ad' (nI s) to ≤ 0)) (T / 720) (hrs T) (ti f (ad 22) b) = -1) (psV (ti f q1 4) (nI s) to ∧ shV (oo (fi f am (T / 720) (T / 720) n).toNatClampNeg) (hrs T) (flv f ad' (T / 720) (hrs T))) (¬ T + mnv (mup f ad' (nI s) to) (flv f ad' (T / 720) (hrs T)) (ti f (ad 22) b) ≤ 359999) v → Q v) (ht : ti f q0 10 = T) (hbr : ti f (ad' 1) 5 = ti f q1 4) (hbv : ti f q1 4 = -1 ∨ ¬ ti f q1 4 < 0) : wp_WM_hindrance_w L f q0 (bt b) (ad (100 + m)) to Q := by
  have h20 := hB.1.1
  have h600 := hB.1.2
  have hSs := St_s hN hN2 hs
  have hne' : ¬ nI s = to := fun e => hne e.symm
  obtain ⟨s1, s2⟩ := mup_sgn hO m1 hR hCM hSs hto hne'
  obtain ⟨mb1, mb2⟩ := mup_b hR hCM hO m1 hSs hto
  obtain ⟨⟨t1, t2⟩, t3, t4⟩ := hrs_b htn hTn
  have hd5 : (T / 720).toNatClampNeg < 500 := nat_lt (K := 499) t1 t2 (by decide)
  obtain ⟨a1, a2, a3, a4, a5, a6⟩ := id hBR
  have hst1 : ti f (bt b) 1 = nI s := a2.trans has
  refine today_x ht ?_
  intro q4 e4
  rw [hR.1] at e4; cases e4
  have hfz : ∀ {P : Int32 → Prop}, (¬ ti f (ad' 32) (T / 720).toNatClampNeg = 0 → P 1) → (ti f (ad' 32) (T / 720).toNatClampNeg = 0 → P 0) → wp_Rv_isFrozen_w L f (ad' 1) (T / 720) P := by
    intro P p1 p0
    refine ⟨fun g => absurd g t1, fun _ => ⟨fun g => absurd (d500.mp g) t2, fun _ q e x ex => ?_⟩⟩
    rw [hR.2.2.2.2.1] at e; cases e
    rw [hV.2.2.2.2.1] at ex
    subst ex
    exact ⟨fun g => p0 g, fun g => p1 g⟩
  refine hfz (fun k1 => ⟨fun z => absurd z (by decide), fun _ => hq 1 (Or.inl ⟨k1, rfl⟩)⟩) (fun k1 => ⟨fun _ x6 e6 => ?_, fun z => absurd z (by decide)⟩)
  have k1' : ¬ ¬ ti f (ad' 32) (T / 720).toNatClampNeg = 0 := fun z => z k1
  rw [ht] at e6
  subst e6
  refine state_x hBR h600 (fun z => absurd hsk z) (fun _ k2 => ⟨fun _ => hq 2 (Or.inr (Or.inl ⟨k1', k2, rfl⟩)), fun z => absurd rfl z⟩) (fun _ k2 => ⟨fun z => absurd z (by decide), fun _ x9 e9 => ?_⟩)
  rw [hK1.st hm] at e9
  subst e9
  refine ⟨fun k3 => ?_, fun k3 => hq 3 (Or.inr (Or.inr (Or.inl ⟨k1', k2, Or.inl k3, rfl⟩)))⟩
  have hway : ti f (ad (100 + m)) 5 ≤ T ↔ ¬ 0 ≤ ti f (ad 16) m := by
    rcases hMR.2 with ⟨a, b⟩ | ⟨t, ht, a, b, -⟩
    · rw [a]; exact ⟨fun _ => by decide, fun _ => b⟩
    · rw [a]
      refine ⟨fun k => absurd b (fun z => lt32.mpr z k), fun k => absurd (le0.mpr (nI_pos (by omega))) k⟩
  intro x1 e1
  subst e1
  refine ⟨fun g => ⟨fun _ x12 e12 => ?_, fun z => absurd z (by decide)⟩, fun g => ⟨fun z => absurd z (by decide), fun _ => hq 3 (Or.inr (Or.inr (Or.inl ⟨k1', k2, Or.inr (Classical.byContradiction fun z => g (hway.mpr z)), rfl⟩)))⟩⟩
  have k3' : ¬ (¬ ti f (ad 9) m = 2 ∨ 0 ≤ ti f (ad 16) m) := fun z => z.elim (fun y => y k3) (fun y => (hway.mp g) y)
  rw [hst1] at e12
  subst e12
  refine mw_x hA hTX (by omega) hm (fun k4 => ⟨fun z => absurd z (by decide), fun _ => hq 4 (Or.inr (Or.inr (Or.inr (Or.inl ⟨k1', k2, k3', k4, rfl⟩))))⟩) (fun k4 => ⟨fun _ => ?_, fun z => absurd z (by decide)⟩)
  refine nif_x hOo.1 ?_
  have hn20 := hOo.1.1
  refine orderAt_g hOo.1 (fun h => ⟨fun _ => hq 5 (Or.inr (Or.inr (Or.inr (Or.inr (Or.inl ⟨k1', k2, k3', k4, Or.inl ?_, rfl⟩))))), fun q z => (by cases z)⟩) (fun i hi hfi => ⟨fun z => (by cases z), fun q eq y16 e16 x17 e17 => ?_⟩)
  · rcases fi_cases (f := f) (am := am) (p0 := T / 720) (p1 := T / 720) n with h' | ⟨i, hi, h'⟩
    · exact h'
    · rw [h'] at h
      exact absurd h (nb_no hi (by omega))
  cases eq
  have hi0 : (fi f am (T / 720) (T / 720) n).toNatClampNeg = i := by rw [hfi, nI_clamp (by omega)]
  have hfn : ¬ fi f am (T / 720) (T / 720) n = -2 := by rw [hfi]; exact m2_nI (by omega)
  rw [hi0] at hq
  obtain ⟨hw, oX, oM⟩ := hOo.2 i hi
  rw [a1] at e17
  subst e16 e17
  obtain ⟨hr1, hr2⟩ := hrs_x htn hTn
  have hp0 : ¬ T / 60 < 0 ∧ ¬ 5999 < T / 60 := by
    rw [hTn, show (60 : Int32) = nI 60 from rfl, pk_div (by omega) (by decide) (by decide), show (5999 : Int32) = nI 5999 from rfl, nI_ltI (by decide) (by omega)]
    exact ⟨nI_pos (by omega), by omega⟩
  refine priceOf_x hO m1 hR hV hCM hSs hto hne' hp0.1 hp0.2 oX hw ?_
  rw [hr1, hr2]
  refine ⟨fun k5 => hq 5 (Or.inr (Or.inr (Or.inr (Or.inr (Or.inl ⟨k1', k2, k3', k4, Or.inr k5, rfl⟩))))), fun k5 => ?_⟩
  have k5' : ¬ (fi f am (T / 720) (T / 720) n = -2 ∨ FR (oo i) (mdi f ad' (nI s) to) (flv f ad' (T / 720) (hrs T)) (decide (¬ mup f ad' (nI s) to ≤ 0)) (T / 720) (hrs T) (ti f (ad 22) b) = -1) := fun z => z.elim hfn k5
  have hmin : ¬ (psV (ti f q1 4) (nI s) to ∧ shV (oo i) (hrs T) (flv f ad' (T / 720) (hrs T))) → wp_WM_minutesOfWay_w L f q0 (bt b) to (fun (r_21 : Int32) => ((r_21 ≤ (359999 - T) → Q 0) ∧ (¬ (r_21 ≤ (359999 - T)) → Q 7))) := by
    intro k6
    refine minutesOf_x hR hV ht htn hTn hst1 a1 s1 s2 ?_
    obtain ⟨mv1, mv2⟩ := mnv_b (fl := flv f ad' (T / 720) (hrs T)) (oars := ti f (ad 22) b) mb1 mb2
    generalize hmm : mnv (mup f ad' (nI s) to) (flv f ad' (T / 720) (hrs T)) (ti f (ad 22) b) = w at *
    have hcmp : w ≤ 359999 - T ↔ T + w ≤ 359999 := by
      have z3 : (359999 : Int32).toInt = 359999 := by decide
      have kT := nI_toInt (n := tn) (by omega)
      rw [← hTn] at kT
      rw [Int32.le_iff_toInt_le, Int32.le_iff_toInt_le, fb_subI (by omega) (by omega), fb_addI (by omega) (by omega)]
      omega
    exact ⟨fun g => hq 0 (Or.inr (Or.inr (Or.inr (Or.inr (Or.inr (Or.inr (Or.inr ⟨k1', k2, k3', k4, k5', k6, fun z => z (hcmp.mp g), rfl⟩))))))), fun g => hq 7 (Or.inr (Or.inr (Or.inr (Or.inr (Or.inr (Or.inr (Or.inl ⟨k1', k2, k3', k4, k5', k6, fun z => g (hcmp.mpr z), rfl⟩)))))))⟩
  refine pass_x hbr hbv (fun hp => ⟨fun z => absurd z (by decide), fun _ => hour_x ht htn hTn (hour_x ht htn hTn (flow_x hR hV _ _ t1 t2 t3 t4 (shut_x oX (fun hs' => ⟨fun z => absurd z (by decide), fun _ => hq 6 (Or.inr (Or.inr (Or.inr (Or.inr (Or.inr (Or.inl ⟨k1', k2, k3', k4, k5', ⟨hp, hs'⟩, rfl⟩))))))⟩) (fun hs' => ⟨fun _ => hmin (fun z => hs' z.2), fun z => absurd z (by decide)⟩))))⟩) (fun hp => ⟨fun _ => hmin (fun z => hp z.1), fun z => absurd z (by decide)⟩)
theorem nif_r {n : Nat} {am : Nat → Nat} {p0 p1 : Int32} {Q : Int32 → Prop} (h1 : n ≤ 20) (h3 : ti f q1 29 = nI n) (h6 : ∀ k, 30 ≤ k → k ≤ 41 → tr f q1 k = some (am k)) (hq : Q (fi f am p0 p1 n)) : wp_Md_forceOn_w L f q1 p0 p1 Q := by
  intro x1 e1
  rw [h3] at e1
  subst e1
  have hstep : ∀ (rc : Int32 → Prop) (i : Nat), i ≤ n → Q (fi f am p0 p1 i) → (∀ j, j < i → Q (fi f am p0 p1 j) → rc (nI j - 1)) → wpB_Md_forceOn_w_7_2 L f q1 p0 p1 (nI n) Q rc (nI i - 1) := by
    intro rc i hi hqi hrec
    cases i with
    | zero => exact ⟨fun _ => hqi, fun k => absurd nI_0m k⟩
    | succ i =>
      rw [nI_pred]
      refine ⟨fun k => absurd k (nI_pos (by omega)), fun _ q4 e4 x5 e5 => ?_⟩
      rw [h6 31 (by decide) (by decide)] at e4; cases e4
      rw [nI_clamp (by omega)] at e5
      subst e5
      rw [nI_m1]
      unfold fi at hqi
      refine ⟨fun g => ?_, fun g q7 e7 x8 e8 => ?_⟩
      · rw [if_pos g] at hqi
        exact hrec i (by omega) hqi
      · rw [if_neg g] at hqi
        rw [h6 30 (by decide) (by decide)] at e7; cases e7
        rw [nI_clamp (by omega)] at e8
        subst e8
        refine ⟨fun g2 => ?_, fun g2 => ?_⟩
        · rw [if_pos g2] at hqi
          exact hrec i (by omega) hqi
        · rw [if_neg g2] at hqi
          exact hqi
  have hloop : ∀ (m i : Nat), i ≤ n → Q (fi f am p0 p1 i) → wpL_Md_forceOn_w_7_2 L f q1 p0 p1 (nI n) Q m (nI i - 1) := by
    intro m
    induction m with
    | zero => intro i a1 a2; exact hstep (fun _ => True) i a1 a2 (fun _ _ _ => trivial)
    | succ m ih => intro i a1 a2; exact hstep _ i a1 a2 (fun j b1 b2 => ih j (by omega) b2)
  exact hloop _ n (Nat.le_refl _) hq
theorem hinders_r {n : Nat} {am : Nat → Nat} {oo : Nat → OS} {ql : Nat → List Nat} {b m s : Nat} {T to : Int32} {Q : Int32 → Prop} (hR : Refs f q0 q1 ad') (hn20 : n ≤ 20) (h29 : ti f q1 29 = nI n) (ham : ∀ k, 30 ≤ k → k ≤ 41 → tr f q1 k = some (am k)) (hOo : ∀ i, i < n → WfO (oo i) ∧ OrdM f q1 am i (oo i)) (hA : Ad f q0 q1 ad) (hTM : TM f ad ql) (hx40' : ∀ s, s < 12 → ∀ x, x ∈ ql s → x < 40) (hT : ti f q1 1 = T) (hb20 : b < 20) (hm : m < 40) (hs : s < 12) (has : ti f (ad 23) b = nI s) (hq : ∀ v, HV (¬ ti f (ad' 32) (T / 720).toNatClampNeg = 0) (0 ≤ ti f (ad 25) b) (¬ ti f (ad 9) m = 2 ∨ 0 ≤ ti f (ad 16) m) (ql s ≠ [] ∧ (ql s).getD 0 0 ≠ m) (fi f am (T / 720) (T / 720) n = -2 ∨ FR (oo (fi f am (T / 720) (T / 720) n).toNatClampNeg) (mdi f ad' (nI s) to) (flv f ad' (T / 720) (hrs T)) (decide (¬ mup f ad' (nI s) to ≤ 0)) (T / 720) (hrs T) (ti f (ad 22) b) = -1) (psV (ti f q1 4) (nI s) to ∧ shV (oo (fi f am (T / 720) (T / 720) n).toNatClampNeg) (hrs T) (flv f ad' (T / 720) (hrs T))) (¬ T + mnv (mup f ad' (nI s) to) (flv f ad' (T / 720) (hrs T)) (ti f (ad 22) b) ≤ 359999) v → Q v) : wp_Md_hinders_w L f q1 (nI b) (nI m) to Q := by
  have r := hA.2.2.2
  refine hinders_t ?_
  intro q1' e1
  rw [hR.2.2.2.2.2.2.2.2.2] at e1; cases e1
  refine today_m ?_
  rw [hT]
  intro x7 e7
  subst e7
  refine ⟨fun k1 q9 e9 x10 e10 => ?_, fun k1 => hq 1 (Or.inl ⟨k1, rfl⟩)⟩
  have k1' : ¬ ¬ ti f (ad' 32) (T / 720).toNatClampNeg = 0 := fun z => z k1
  rw [r 25 (by decide)] at e9; cases e9
  rw [nI_clamp (by omega)] at e10
  subst e10
  refine ⟨fun k2 q12 e12 x13 e13 => ?_, fun k2 => hq 2 (Or.inr (Or.inl ⟨k1', le0.mpr k2, rfl⟩))⟩
  have k2' : ¬ 0 ≤ ti f (ad 25) b := fun z => le0.mp z k2
  rw [r 9 (by decide)] at e12; cases e12
  rw [nI_clamp (by omega)] at e13
  subst e13
  refine ⟨fun k3 q15 e15 x16 e16 => ?_, fun k3 => hq 3 (Or.inr (Or.inr (Or.inl ⟨k1', k2', Or.inl k3, rfl⟩)))⟩
  rw [r 16 (by decide)] at e15; cases e15
  rw [nI_clamp (by omega)] at e16
  subst e16
  refine ⟨fun k4 q18 e18 x19 e19 q20 e20 x21 e21 => ?_, fun k4 => hq 3 (Or.inr (Or.inr (Or.inl ⟨k1', k2', Or.inr (le0.mpr k4), rfl⟩)))⟩
  have k3' : ¬ (¬ ti f (ad 9) m = 2 ∨ 0 ≤ ti f (ad 16) m) := fun z => z.elim (fun y => y k3) (fun y => le0.mp y k4)
  rw [r 23 (by decide)] at e18; cases e18
  rw [nI_clamp (by omega), has] at e19
  subst e19
  rw [r 19 (by decide)] at e20; cases e20
  obtain ⟨l1, l2, l3⟩ := hTM s (by omega)
  rw [nI_clamp (by omega), l2] at e21
  subst e21
  have hord : ¬ (ql s ≠ [] ∧ (ql s).getD 0 0 ≠ m) → ordT L f q1 (nI b) to (nI s) Q := by
    intro k4'
    refine today_m (today_m ?_)
    rw [hT]
    refine nif_r hn20 h29 ham ⟨fun k => hq 5 (Or.inr (Or.inr (Or.inr (Or.inr (Or.inl ⟨k1', k2', k3', k4', Or.inl k, rfl⟩))))), fun k => today_m (hour_m hT ?_)⟩
    rw [hT]
    intro q44 e44 x45 e45
    rw [r 22 (by decide)] at e44; cases e44
    rw [nI_clamp (by omega)] at e45
    subst e45
    obtain ⟨i, hi, hfi⟩ : ∃ i, i < n ∧ fi f am (T / 720) (T / 720) n = nI i := (fi_cases n).elim (fun z => absurd z k) id
    have hi0 : (fi f am (T / 720) (T / 720) n).toNatClampNeg = i := by rw [hfi, nI_clamp (by omega)]
    rw [hi0] at hq
    obtain ⟨hw, oM⟩ := hOo i hi
    have hfn : ¬ fi f am (T / 720) (T / 720) n = -2 := k
    rw [hfi]
    refine fareOf_m hR oM hw (by omega) ?_
    have hfr : (0 ≤ frN (FR (oo i) (mdi f ad' (nI s) to) (flv f ad' (T / 720) (hrs T)) (decide (¬ mup f ad' (nI s) to ≤ 0)) (T / 720) (hrs T) (ti f (ad 22) b))) ↔ ¬ FR (oo i) (mdi f ad' (nI s) to) (flv f ad' (T / 720) (hrs T)) (decide (¬ mup f ad' (nI s) to ≤ 0)) (T / 720) (hrs T) (ti f (ad 22) b) = -1 := by
      unfold frN
      by_cases hz : FR (oo i) (mdi f ad' (nI s) to) (flv f ad' (T / 720) (hrs T)) (decide (¬ mup f ad' (nI s) to ≤ 0)) (T / 720) (hrs T) (ti f (ad 22) b) = -1
      · rw [if_pos hz]
        exact ⟨fun z => absurd z (by decide), fun z => absurd hz z⟩
      · rw [if_neg hz]
        refine ⟨fun _ => hz, fun _ => le0.mpr (FR_nn hw (fun z => hz ?_))⟩
        unfold FR
        exact if_pos z
    refine ⟨fun g x48 e48 => ?_, fun g => hq 5 (Or.inr (Or.inr (Or.inr (Or.inr (Or.inl ⟨k1', k2', k3', k4', Or.inr (Classical.byContradiction fun z => g (hfr.mpr z)), rfl⟩)))))⟩
    have k5 := hfr.mp g
    have k5' : ¬ (fi f am (T / 720) (T / 720) n = -2 ∨ FR (oo i) (mdi f ad' (nI s) to) (flv f ad' (T / 720) (hrs T)) (decide (¬ mup f ad' (nI s) to ≤ 0)) (T / 720) (hrs T) (ti f (ad 22) b) = -1) := fun z => z.elim hfn k5
    subst e48
    have hmin : ¬ (psV (ti f q1 4) (nI s) to ∧ shV (oo i) (hrs T) (flv f ad' (T / 720) (hrs T))) → minT L f q1 (nI b) to Q := by
      intro k6
      refine minutesOf_m hA hR hT (by omega) ?_
      rw [has, hT]
      exact ⟨fun g => hq 0 (Or.inr (Or.inr (Or.inr (Or.inr (Or.inr (Or.inr (Or.inr ⟨k1', k2', k3', k4', k5', k6, fun z => z g, rfl⟩))))))), fun g => hq 7 (Or.inr (Or.inr (Or.inr (Or.inr (Or.inr (Or.inr (Or.inl ⟨k1', k2', k3', k4', k5', k6, g, rfl⟩)))))))⟩
    have hgo : ¬ psV (ti f q1 4) (nI s) to → goT L f q1 (nI b) to Q := fun k6 => today_m (hour_m hT (flow_m hR _ _ (hmin (fun z => k6 z.1))))
    have hsh : psV (ti f q1 4) (nI s) to → shutT L f q1 (nI i) (minT L f q1 (nI b) to Q) (Q 6) := fun k6 => shut_m hR oM hw (by omega) hT (fun z => hq 6 (Or.inr (Or.inr (Or.inr (Or.inr (Or.inr (Or.inl ⟨k1', k2', k3', k4', k5', ⟨k6, z⟩, rfl⟩))))))) (fun z => hmin (fun y => z y.2))
    exact ⟨fun g0 => hgo (fun z => z.1 g0), fun g0 => ⟨fun g1 => ⟨fun g2 => hgo (fun z => z.2.elim (fun y => y.2 g2) (fun y => y.1 g1)), fun g2 => hsh ⟨g0, Or.inl ⟨g1, g2⟩⟩⟩, fun g1 => ⟨fun g2 => hsh ⟨g0, Or.inr ⟨g1, g2⟩⟩, fun g2 => hgo (fun z => z.2.elim (fun y => g1 y.1) (fun y => g2 y.2))⟩⟩⟩
  refine ⟨fun g => hord (fun z => ?_), fun g q178 e178 x179 e179 => ?_⟩
  · rw [show (0 : Int32) = nI 0 from rfl, nI_leI (by omega) (by decide)] at g
    exact z.1 (List.eq_nil_of_length_eq_zero (by omega))
  · rw [show (0 : Int32) = nI 0 from rfl, nI_leI (by omega) (by decide)] at g
    rw [r 20 (by decide)] at e178; cases e178
    have e40 : (40 : Int32) * nI s = nI (40 * s + 0) := by rw [show (40 : Int32) = nI 40 from rfl, pk_mul]; rfl
    rw [e40, nI_clamp (by omega), l3 0 (by omega)] at e179
    subst e179
    have hx40 : (ql s).getD 0 0 < 40 := hx40' s hs _ (mem_getD.mpr ⟨0, by omega, rfl⟩)
    refine ⟨fun g2 => hord (fun z => z.2 ?_), fun g2 => hq 4 (Or.inr (Or.inr (Or.inr (Or.inl ⟨k1', k2', k3', ⟨fun z => ?_, fun z => g2 ?_⟩, rfl⟩))))⟩
    · rw [nI_eq (by omega) (by omega)] at g2; exact g2
    · rw [z] at g; exact g (Nat.le_refl 0)
    · rw [z]
end HIP
