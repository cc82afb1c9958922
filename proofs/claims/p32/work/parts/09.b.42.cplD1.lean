section MON
variable {L : List Nat} {f : TF} {q0 q1 : Nat} {ad : Nat → Nat}
theorem l_add {x y : Int64} (h1 : -4611686018427387904 ≤ x.toInt + y.toInt) (h2 : x.toInt + y.toInt < 4611686018427387904) : (x + y).toInt = x.toInt + y.toInt := by
  rw [Int64.toInt_add]
  exact Int.bmod_eq_of_le (by omega) (by omega)
theorem l_sub {x y : Int64} (h1 : -4611686018427387904 ≤ x.toInt - y.toInt) (h2 : x.toInt - y.toInt < 4611686018427387904) : (x - y).toInt = x.toInt - y.toInt := by
  rw [Int64.toInt_sub]
  exact Int.bmod_eq_of_le (by omega) (by omega)
theorem l_mul {x y : Int64} (h1 : -4611686018427387904 ≤ x.toInt * y.toInt) (h2 : x.toInt * y.toInt < 4611686018427387904) : (x * y).toInt = x.toInt * y.toInt := by
  rw [Int64.toInt_mul]
  exact Int.bmod_eq_of_le (by omega) (by omega)
theorem l_div {x y : Int64} (h1 : 0 ≤ x.toInt) (h2 : x.toInt < 4611686018427387904) (h3 : 0 < y.toInt) : (x / y).toInt = x.toInt / y.toInt := by
  have h4 : x.toInt / y.toInt ≤ x.toInt := Int.ediv_le_self _ h1
  have h5 : 0 ≤ x.toInt / y.toInt := Int.ediv_nonneg h1 (by omega)
  rw [Int64.toInt_div, Int.tdiv_eq_ediv_of_nonneg h1]
  exact Int.bmod_eq_of_le (by omega) (by omega)
/-- money: box, pot, pensions paid, income by day, coins by man, got by pensioner -/
abbrev MS : Type := Int × Int × Int32 × (Nat → Int) × (Nat → Int32) × (Nat → Int32)
/-- sharers of a day -/
def shN (ls : Nat → Int32) (d : Nat) : Nat := cn (fun m => decide (ls m = nI d)) 40
/-- the pot's rest -/
def rst (M : MS) (k : Nat) : Int := M.2.1 - M.2.1 / (k : Int) * (k : Int)
def partF (ls : Nat → Int32) (d : Nat) (M : MS) : MS := if d % 7 = 0 ∧ shN ls d ≠ 0 then (M.1 + rst M (shN ls d), 0, M.2.2.1, fun x => if x = d then M.2.2.2.1 x + rst M (shN ls d) else M.2.2.2.1 x, fun m => if ls m = nI d then M.2.2.2.2.1 m + Int32.ofInt (M.2.1 / (shN ls d : Int)) else M.2.2.2.2.1 m, M.2.2.2.2.2) else M
def IV (B : Int) (M : MS) : Prop := 0 ≤ M.1 ∧ 0 ≤ M.2.1 ∧ M.1 + M.2.1 ≤ B ∧ B ≤ 600000000 ∧ ∀ d, d < 500 → 0 ≤ M.2.2.2.1 d ∧ M.2.2.2.1 d + M.2.1 ≤ B
/-- the program's cells say M -/
def RX (f : TF) (ad pn : Nat → Nat) (np : Nat) (M : MS) : Prop := (ti f (ad 68) 0).toInt = M.1 ∧ (ti f (ad 68) 1).toInt = M.2.1 ∧ ti f (ad 68) 3 = M.2.2.1 ∧ (∀ d, d < 500 → (ti f (ad 69) d).toInt = M.2.2.2.1 d) ∧ (∀ m, m < 40 → ti f (ad (100 + m)) 4 = M.2.2.2.2.1 m) ∧ ∀ i, i < np → ti f (pn i) 2 = M.2.2.2.2.2 i
/-- the reference's say M -/
def RMm (f : TF) (q1 : Nat) (ad : Nat → Nat) (np : Nat) (M : MS) : Prop := (tl f q1 56).toInt = M.1 ∧ (tl f q1 57).toInt = M.2.1 ∧ (tl f q1 58).toInt32 = M.2.2.1 ∧ (∀ d, d < 500 → (tl f (ad 59) d).toInt = M.2.2.2.1 d) ∧ (∀ m, m < 40 → ti f (ad 15) m = M.2.2.2.2.1 m) ∧ ∀ i, i < np → ti f (ad 63) i = M.2.2.2.2.2 i
/-- what a pot's parting leaves unchanged of the program's money cells -/
def CX (f : TF) (ad pn : Nat → Nat) (np : Nat) (ls pen pend : Nat → Int32) : Prop := (np ≤ 30 ∧ ti f (ad 68) 6 = nI np ∧ tr f (ad 68) 4 = some (ad 69) ∧ tr f (ad 68) 5 = some (ad 70)) ∧ (∀ i, i < np → tr f (ad 70) i = some (pn i)) ∧ (∀ i i', i < np → i' < np → pn i = pn i' → i = i') ∧ (∀ i, i < np → ti f (pn i) 0 = pen i ∧ ti f (pn i) 1 = pend i) ∧ ∀ m, m < 40 → ti f (ad (100 + m)) 7 = ls m
theorem cn_le (P : Nat → Bool) : ∀ n, cn P n ≤ n := by
  intro n
  induction n with
  | zero => exact Nat.le_refl 0
  | succ n ih => show cn P n + _ ≤ n + 1; split <;> omega
theorem rst_b {M : MS} {k : Nat} (h : 0 ≤ M.2.1) (hk : 0 < k) : 0 ≤ rst M k ∧ rst M k ≤ M.2.1 ∧ 0 ≤ M.2.1 / (k : Int) ∧ M.2.1 / (k : Int) ≤ M.2.1 ∧ 0 ≤ M.2.1 / (k : Int) * (k : Int) ∧ M.2.1 / (k : Int) * (k : Int) ≤ M.2.1 := by
  unfold rst
  have h1 : M.2.1 / (k : Int) * (k : Int) ≤ M.2.1 := Int.ediv_mul_le _ (by omega)
  have h2 : 0 ≤ M.2.1 / (k : Int) := Int.ediv_nonneg h (by omega)
  have h3 : M.2.1 / (k : Int) ≤ M.2.1 := Int.ediv_le_self _ h
  have h4 : 0 ≤ M.2.1 / (k : Int) * (k : Int) := Int.mul_nonneg h2 (by omega)
  omega
theorem IV.part {B : Int} {M : MS} {ls : Nat → Int32} {d : Nat} (h : IV B M) : IV B (partF ls d M) := by
  unfold partF
  by_cases hc : d % 7 = 0 ∧ shN ls d ≠ 0
  · rw [if_pos hc]
    obtain ⟨h1, h2, h3, h4, h5⟩ := h
    obtain ⟨r1, r2, -⟩ := rst_b (M := M) (k := shN ls d) h2 (by omega)
    refine ⟨?_, Int.le_refl _, ?_, h4, fun x hx => ?_⟩
    · show 0 ≤ M.1 + rst M (shN ls d); omega
    · show M.1 + rst M (shN ls d) + 0 ≤ B; omega
    · have := h5 x hx
      show 0 ≤ (if x = d then M.2.2.2.1 x + rst M (shN ls d) else M.2.2.2.1 x) ∧ (if x = d then M.2.2.2.1 x + rst M (shN ls d) else M.2.2.2.1 x) + 0 ≤ B
      split <;> omega
  · rw [if_neg hc]; exact h
theorem d7 {d : Nat} (hd : d < 500) : (nI d - nI d / 7 * 7 = 0) ↔ d % 7 = 0 := by
  rw [show (7 : Int32) = nI 7 from rfl, pk_rem (by omega) (by decide) (by decide), show (0 : Int32) = nI 0 from rfl, nI_eq (by omega) (by decide)]
theorem Ad.inc (hA : Ad f q0 q1 ad) (hO : Ok L f) (m0 : q0 ∈ L ∧ tk f q0 = 0) (h : tr f (ad 68) 4 = some (ad 69)) : ad 69 ∈ L ∧ tk f (ad 69) = 13 := hO.rm (j := 4) (k' := 13) (n := false) (hA.box hO m0) rfl h
theorem part_x {pn : Nat → Nat} {np d : Nat} {ls pen pend : Nat → Int32} {M : MS} {B : Int} {Q : List Nat → TF → Prop} (hA : Ad f q0 q1 ad) (hO : Ok L f) (m0 : q0 ∈ L ∧ tk f q0 = 0) (hd : d < 500) (hX : RX f ad pn np M) (hC : CX f ad pn np ls pen pend) (hI : IV B M) (hq : ∀ f' : TF, RX f' ad pn np (partF ls d M) → Q L f') : wp_WM_partPot_w L f q0 (nI d) Q := by
  have ib := hA.box hO m0
  obtain ⟨⟨c1, c2, c3, c4⟩, c5, c6, c7, c8⟩ := hC
  have ii := hA.inc hO m0 c3
  have n68 : ad 68 ≠ ad 69 := ne_tk ib.2 ii.2 (by decide)
  have iM := fun m (hm : m < 40) => hA.man hO m0 hm
  have ip : ∀ i, i < np → pn i ∈ L ∧ tk f (pn i) = 26 := fun i hi => by
    have i70 := hO.rm (j := 5) (k' := 14) (n := false) ib rfl c4
    exact hO.rm (k' := 26) (n := true) i70 (slot_arr (n := 30) rfl (show i < 30 by omega)) (c5 i hi)
  refine ⟨fun g => ?_, fun g => ?_⟩
  rotate_left
  · rw [d7 hd] at g
    have e : partF ls d M = M := by unfold partF; rw [if_neg (fun z => g z.1)]
    exact hq f (by rw [e]; exact hX)
  rw [d7 hd] at g
  generalize hP : (fun m => decide (ls m = nI d)) = P at *
  have hPi : ∀ m, P m = decide (ls m = nI d) := fun m => by rw [← hP]
  have hsh : shN ls d = cn P 40 := by unfold shN; rw [hP]
  -- the sharers are counted
  have hstep : ∀ (rc : Int32 → Int32 → Prop) (i : Nat), i ≤ 40 → (i < 40 → rc (nI (cn P (i + 1))) (nI (i + 1))) → wpB_WM_partPot_w_12_3 L f q0 (nI d) Q rc (nI (cn P i)) (nI i) := by
    intro rc i hi hrec
    have hcl := cn_le P i
    refine ⟨fun e => ⟨fun z => ?_, fun z q6 e6 x7 e7 y8 e8 => ?_⟩, fun e q19 e19 => ?_⟩
    · rw [show (40 : Int32) = nI 40 from rfl, nI_leI (by decide) (by omega)] at e
      have : i = 40 := by omega
      subst this
      rw [show (0 : Int32) = nI 0 from rfl, nI_eq (by omega) (by decide)] at z
      have e' : partF ls d M = M := by unfold partF; rw [if_neg (fun y => y.2 (hsh.trans z))]
      exact hq f (by rw [e']; exact hX)
    · rw [show (40 : Int32) = nI 40 from rfl, nI_leI (by decide) (by omega)] at e
      have : i = 40 := by omega
      subst this
      rw [show (0 : Int32) = nI 0 from rfl, nI_eq (by omega) (by decide)] at z
      rw [hA.1.2.2.2.2] at e6; cases e6
      obtain ⟨x1, x2, x3, x4, x5, x6⟩ := id hX
      obtain ⟨v1, v2, v3, v4, v5⟩ := id hI
      have hk : 0 < cn P 40 := by omega
      obtain ⟨r1, r2, r3, r4, r5, r6⟩ := rst_b (M := M) (k := cn P 40) v2 hk
      have kI := nI_toInt (n := cn P 40) (by omega)
      rw [← e7] at e8
      have ey : y8.toInt = M.2.1 / (cn P 40 : Int) := by rw [e8, hb_divI (by omega) (by omega), x2, kI]
      have em : (y8 * nI (cn P 40)).toInt = M.2.1 / (cn P 40 : Int) * (cn P 40 : Int) := by rw [fb_mulI (by rw [ey, kI]; omega) (by rw [ey, kI]; omega), ey, kI]
      have er : (x7 - y8 * nI (cn P 40)).toInt = rst M (cn P 40) := by
        rw [fb_subI (by rw [em, ← e7, x2]; omega) (by rw [em, ← e7, x2]; omega), em, ← e7, x2]; rfl
      have eo : Int32.ofInt (M.2.1 / (cn P 40 : Int)) = y8 := by rw [← ey, Int32.ofInt_toInt]
      have hpf : partF ls d M = (M.1 + rst M (cn P 40), 0, M.2.2.1, fun x => if x = d then M.2.2.2.1 x + rst M (cn P 40) else M.2.2.2.1 x, fun m => if ls m = nI d then M.2.2.2.2.1 m + y8 else M.2.2.2.2.1 m, M.2.2.2.2.2) := by
        unfold partF
        rw [if_pos ⟨g, by rw [hsh]; omega⟩, hsh, eo]
      have hs2 : ∀ (rc9 : Int32 → List Nat → TF → Prop) (j : Nat) (w : TF), j ≤ 40 → (∀ c z, (∀ m, m < 40 → c ≠ ad (100 + m) ∨ z ≠ 4) → ti w c z = ti f c z) → (∀ c z, tr w c z = tr f c z) → (∀ m, m < 40 → ti w (ad (100 + m)) 4 = if m < j ∧ ls m = nI d then M.2.2.2.2.1 m + y8 else M.2.2.2.2.1 m) → (∀ w' : TF, j < 40 → (∀ c z, (∀ m, m < 40 → c ≠ ad (100 + m) ∨ z ≠ 4) → ti w' c z = ti f c z) → (∀ c z, tr w' c z = tr f c z) → (∀ m, m < 40 → ti w' (ad (100 + m)) 4 = if m < j + 1 ∧ ls m = nI d then M.2.2.2.2.1 m + y8 else M.2.2.2.2.1 m) → rc9 (nI (j + 1)) L w') → wpB_WM_partPot_w_67_9 L f q0 (nI d) (nI (cn P 40)) (nI 40) rc (ad 68) x7 y8 Q rc9 (nI j) L w := by
        intro rc9 j w hj w1 w2 w3 hrec9 _ _
        refine ⟨fun e4 => ?_, fun e4 q13 e13 => ?_⟩
        · rw [show (40 : Int32) = nI 40 from rfl, nI_leI (by decide) (by omega)] at e4
          have : j = 40 := by omega
          subst this
          have wo : ∀ c z, (tk f c = 12 ∨ tk f c = 13 ∨ tk f c = 26) → ti w c z = ti f c z := fun c z hk => w1 c z (fun m hm => Or.inl (ne_tk rfl (iM m hm).2 (by omega)))
          intro xa ea g1 hg1 _
          rw [wo _ _ (Or.inl ib.2)] at ea
          have hadd : (ti f (ad 68) 0 + (x7 - y8 * nI (cn P 40))).toInt = M.1 + rst M (cn P 40) := by rw [fb_addI (by rw [x1, er]; omega) (by rw [x1, er]; omega), x1, er]
          subst ea
          refine ⟨fun z => absurd z (nI_pos (by omega)), fun _ => ⟨fun z => ?_, fun _ q6 e6 xb eb g2 hg2 _ => ?_⟩⟩
          · rw [show (500 : Int32) = nI 500 from rfl, nI_leI (by decide) (by omega)] at z; omega
          rw [hg1, tr_sI, w2, c3] at e6; cases e6
          rw [nI_clamp (by omega)] at eb hg2
          rw [hg1, ti_sI_ne n68.symm, wo _ _ (Or.inr (Or.inl ii.2))] at eb
          subst eb
          have hv5 := v5 d hd
          have hx4 := x4 d hd
          have hadd2 : (ti f (ad 69) d + (x7 - y8 * nI (cn P 40))).toInt = M.2.2.2.1 d + rst M (cn P 40) := by rw [fb_addI (by rw [hx4, er]; omega) (by rw [hx4, er]; omega), hx4, er]
          intro _ _ g3 hg3 _
          refine hq g3 ?_
          rw [hpf]
          refine ⟨?_, ?_, ?_, fun x hx => ?_, fun m hm => ?_, fun i hi => ?_⟩
          · rw [hg3, ti_sI_nj (by decide), hg2, ti_sI_ne n68, hg1, ti_sI_eq]; exact hadd
          · rw [hg3, ti_sI_eq]; rfl
          · rw [hg3, ti_sI_nj (by decide), hg2, ti_sI_ne n68, hg1, ti_sI_nj (by decide), wo _ _ (Or.inl ib.2)]; exact x3
          · rw [hg3, ti_sI_ne n68.symm, hg2, ti_sI]
            by_cases ex : x = d
            · subst ex
              rw [if_pos ⟨rfl, rfl⟩, hadd2]
              show _ = if x = x then _ else _
              rw [if_pos rfl]
            · rw [if_neg (fun k => ex k.2), hg1, ti_sI_ne n68.symm, wo _ _ (Or.inr (Or.inl ii.2))]
              show _ = if x = d then _ else _
              rw [if_neg ex]; exact x4 x hx
          · have nM := iM m hm
            rw [hg3, ti_sI_ne (ne_tk nM.2 ib.2 (by decide)), hg2, ti_sI_ne (ne_tk nM.2 ii.2 (by decide)), hg1, ti_sI_ne (ne_tk nM.2 ib.2 (by decide)), w3 m hm]
            show _ = if ls m = nI d then _ else _
            by_cases em' : ls m = nI d
            · rw [if_pos ⟨hm, em'⟩, if_pos em']
            · rw [if_neg (fun k => em' k.2), if_neg em']
          · have np' := ip i hi
            rw [hg3, ti_sI_ne (ne_tk np'.2 ib.2 (by decide)), hg2, ti_sI_ne (ne_tk np'.2 ii.2 (by decide)), hg1, ti_sI_ne (ne_tk np'.2 ib.2 (by decide)), wo _ _ (Or.inr (Or.inr np'.2))]
            exact x6 i hi
        · rw [show (40 : Int32) = nI 40 from rfl, nI_leI (by decide) (by omega)] at e4
          have hlt : j < 40 := by omega
          rw [w2, hA.1.2.1] at e13; cases e13
          rw [nI_clamp (by omega), w2, hA.2.1 j hlt, nI_1]
          refine ⟨fun z => (by cases z), fun q14 e14 x15 e15 => ?_⟩
          cases e14
          have e7' : ti w (ad (100 + j)) 7 = ls j := (w1 _ 7 (fun m hm => Or.inr (by decide))).trans (c8 j hlt)
          rw [e7'] at e15
          subst e15
          have h3j := w3 j hlt
          rw [if_neg (fun k => Nat.lt_irrefl j k.1)] at h3j
          refine ⟨fun z x17 e17 w' hw' _ => ?_, fun z => ?_⟩
          · rw [h3j] at e17
            subst e17
            refine hrec9 w' hlt (fun c z' hc => ?_) (fun c z' => ?_) (fun m hm => ?_)
            · rw [hw', ti_sI, if_neg (fun k => (hc j hlt).elim (fun y => y k.1) (fun y => y k.2))]; exact w1 c z' hc
            · rw [hw', tr_sI]; exact w2 c z'
            · rw [hw', ti_sI]
              by_cases ej : m = j
              · subst ej
                rw [if_pos ⟨rfl, rfl⟩, if_pos ⟨by omega, z⟩]
              · rw [if_neg (fun k => ej (hA.2.2.1 m j hm hlt k.1)), w3 m hm]
                by_cases hmj : m < j ∧ ls m = nI d
                · rw [if_pos hmj, if_pos ⟨by omega, hmj.2⟩]
                · rw [if_neg hmj, if_neg (fun k => hmj ⟨by omega, k.2⟩)]
          · refine hrec9 w hlt w1 w2 (fun m hm => ?_)
            rw [w3 m hm]
            by_cases hmj : m < j ∧ ls m = nI d
            · rw [if_pos hmj, if_pos ⟨by omega, hmj.2⟩]
            · rw [if_neg hmj, if_neg]
              rintro ⟨k1, k2⟩
              by_cases ej : m = j
              · subst ej; exact z k2
              · exact hmj ⟨by omega, k2⟩
      have hl2 : ∀ (n j : Nat) (w : TF), j ≤ 40 → (∀ c z, (∀ m, m < 40 → c ≠ ad (100 + m) ∨ z ≠ 4) → ti w c z = ti f c z) → (∀ c z, tr w c z = tr f c z) → (∀ m, m < 40 → ti w (ad (100 + m)) 4 = if m < j ∧ ls m = nI d then M.2.2.2.2.1 m + y8 else M.2.2.2.2.1 m) → wpL_WM_partPot_w_67_9 L f q0 (nI d) (nI (cn P 40)) (nI 40) rc (ad 68) x7 y8 Q n (nI j) L w := by
        intro n
        induction n with
        | zero => intro j w a1 a2 a3 a4; exact hs2 (fun _ _ _ => True) j w a1 a2 a3 a4 (fun _ _ _ _ _ => trivial)
        | succ n ih => intro j w a1 a2 a3 a4; exact hs2 _ j w a1 a2 a3 a4 (fun w' b1 b2 b3 b4 => ih _ w' (by omega) b2 b3 b4)
      exact hl2 _ 0 f (by omega) (fun _ _ _ => rfl) (fun _ _ => rfl) (fun m hm => by rw [if_neg (fun k => absurd k.1 (by omega))]; exact x5 m hm)
    · rw [show (40 : Int32) = nI 40 from rfl, nI_leI (by decide) (by omega)] at e
      have hlt : i < 40 := by omega
      have hr := hrec hlt
      have hcs : cn P (i + 1) = cn P i + (if P i = true then 1 else 0) := rfl
      rw [hA.1.2.1] at e19; cases e19
      rw [nI_clamp (by omega), hA.2.1 i hlt, nI_1, nI_1]
      refine ⟨fun z => (by cases z), fun q20 e20 x21 e21 => ?_⟩
      cases e20
      rw [c8 i hlt] at e21
      subst e21
      refine ⟨fun k => ?_, fun k => ?_⟩
      · rw [hcs, hPi, decide_eq_true k, if_pos rfl] at hr; exact hr
      · rw [hcs, hPi, decide_eq_false k, if_neg (by simp), Nat.add_zero] at hr; exact hr
  have hloop : ∀ (n i : Nat), i ≤ 40 → wpL_WM_partPot_w_12_3 L f q0 (nI d) Q n (nI (cn P i)) (nI i) := by
    intro n
    induction n with
    | zero => intro i a1; exact hstep (fun _ _ => True) i a1 (fun _ => trivial)
    | succ n ih => intro i a1; exact hstep _ i a1 (fun b1 => ih _ (by omega))
  exact hloop _ 0 (by omega)
end MON
