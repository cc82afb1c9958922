section TAK
variable {L : List Nat} {f : TF} {q0 q1 : Nat} {ad : Nat → Nat}
/-- a fare is taken, on day d, by the man m -/
def takeF (d m : Nat) (pd : Int32) (M : MS) : MS := (M.1 + (pd / 20).toInt, if d % 7 = 0 then M.2.1 + (pd - pd / 20).toInt else M.2.1, M.2.2.1, fun x => if x = d then M.2.2.2.1 x + (pd / 20).toInt else M.2.2.2.1 x, fun x => if x = m ∧ ¬ d % 7 = 0 then M.2.2.2.2.1 x + (pd - pd / 20) else M.2.2.2.2.1 x, M.2.2.2.2.2)
def lsF (d m : Nat) (ls : Nat → Int32) : Nat → Int32 := fun x => if x = m ∧ d % 7 = 0 then nI d else ls x
theorem pd_b {pd : Int32} (h0 : 0 ≤ pd.toInt) (h1 : pd.toInt ≤ 1000000) : (pd / 20).toInt = pd.toInt / 20 ∧ (pd - pd / 20).toInt = pd.toInt - pd.toInt / 20 := by
  have z : (20 : Int32).toInt = 20 := by decide
  have e : (pd / 20).toInt = pd.toInt / 20 := by rw [hb_divI h0 (by omega), z]
  exact ⟨e, by rw [fb_subI (by omega) (by omega), e]⟩
theorem IV.take {B : Int} {M : MS} {d m : Nat} {pd : Int32} (h : IV B M) (h0 : 0 ≤ pd.toInt) (h1 : pd.toInt ≤ 1000000) (hB : B + 1000000 ≤ 600000000) : IV (B + 1000000) (takeF d m pd M) := by
  obtain ⟨a1, a2, a3, a4, a5⟩ := h
  obtain ⟨e1, e2⟩ := pd_b h0 h1
  unfold takeF
  refine ⟨?_, ?_, ?_, hB, fun x hx => ?_⟩
  · show 0 ≤ M.1 + (pd / 20).toInt; omega
  · show 0 ≤ (if d % 7 = 0 then _ else _); split <;> omega
  · show M.1 + (pd / 20).toInt + (if d % 7 = 0 then _ else _) ≤ _; split <;> omega
  · have := a5 x hx
    show 0 ≤ (if x = d then _ else _) ∧ (if x = d then _ else _) + (if d % 7 = 0 then _ else _) ≤ _
    split <;> split <;> omega
theorem cn_pos {P : Nat → Bool} {m : Nat} (h : P m = true) : ∀ n, m < n → 0 < cn P n := by
  intro n
  induction n with
  | zero => intro h; omega
  | succ n ih =>
    intro hn
    show 0 < cn P n + (if P n = true then 1 else 0)
    by_cases en : m = n
    · subst en; rw [h, if_pos rfl]; omega
    · have := ih (by omega); omega
theorem PT.take {M : MS} {d m : Nat} {pd : Int32} {ls : Nat → Int32} (h : PT ls d M) (hm : m < 40) : PT (lsF d m ls) d (takeF d m pd M) := by
  intro z
  by_cases c : d % 7 = 0
  · refine ⟨c, ?_⟩
    have := cn_pos (P := fun x => decide (lsF d m ls x = nI d)) (m := m) (by unfold lsF; simp [c]) 40 hm
    unfold shN; omega
  · exact absurd (h (by unfold takeF at z; simpa [c] using z)).1 c
theorem LSu.take {d m : Nat} {ls : Nat → Int32} (h : LSu ls d) (hd : d < 500) : LSu (lsF d m ls) d := by
  intro x hx
  unfold lsF
  split
  · rw [nI_toInt (by omega)]; exact Int.le_refl _
  · exact h x hx
theorem GZ.take {np d m : Nat} {M : MS} {pd : Int32} (h : GZ np M) : GZ np (takeF d m pd M) := h
theorem takeM_x {pn : Nat → Nat} {np τ m : Nat} {ls pen pend : Nat → Int32} {M : MS} {B : Int} {pd : Int32} {Q : List Nat → TF → Prop} (hA : Ad f q0 q1 ad) (hO : Ok L f) (m0 : q0 ∈ L ∧ tk f q0 = 0) (hm : m < 40) (ht : ti f q0 10 = nI τ) (hτ : τ < 360000) (hX : XF f ad pn np ls pen pend M) (hI : IV B M) (hB : B + 1000000 ≤ 600000000) (h0 : 0 ≤ pd.toInt) (h1 : pd.toInt ≤ 1000000) (hq : ∀ f' : TF, XF f' ad pn np (lsF (τ / 720) m ls) pen pend (takeF (τ / 720) m pd M) → ti f' (ad 68) 2 = ti f (ad 68) 2 + pd → Q L f') : wp_WM_takeMoney_w L f q0 (ad (100 + m)) pd Q := by
  have ib := hA.box hO m0
  obtain ⟨hX, hC⟩ := hX
  obtain ⟨i70, ip⟩ := hC.mem hA hO m0
  have ii := hA.inc hO m0 hC.1.2.2.1
  have iM := fun m' (h : m' < 40) => hA.man hO m0 h
  obtain ⟨⟨c1, c2, c3, c4⟩, c5, c6, c7, c8⟩ := hC
  obtain ⟨x1, x2, x3, x4, x5, x6⟩ := hX
  obtain ⟨v1, v2, v3, v4, v5⟩ := hI
  obtain ⟨p1, p2⟩ := pd_b h0 h1
  have hdv : nI τ / 720 = nI (τ / 720) := by rw [show (720 : Int32) = nI 720 from rfl, pk_div (by omega) (by decide) (by decide)]
  have hd : τ / 720 < 500 := by omega
  generalize τ / 720 = d at *
  have n69 : ad 69 ≠ ad 68 := ne_tk ii.2 ib.2 (by decide)
  have n0b : q0 ≠ ad 68 := ne_tk m0.2 ib.2 (by decide)
  have n0i : q0 ≠ ad 69 := ne_tk m0.2 ii.2 (by decide)
  have nMb := fun m' (h : m' < 40) => ne_tk (iM m' h).2 ib.2 (by decide)
  have nMi := fun m' (h : m' < 40) => ne_tk (iM m' h).2 ii.2 (by decide)
  have npb := fun i (h : i < np) => ne_tk (ip i h).2 ib.2 (by decide)
  have npi := fun i (h : i < np) => ne_tk (ip i h).2 ii.2 (by decide)
  have npM := fun i (h : i < np) => ne_tk (ip i h).2 (iM m hm).2 (by decide)
  intro q1' e1 x2' e2 g1 hg1 _
  rw [hA.1.2.2.2.2] at e1; cases e1
  refine today_x (T := nI τ) (by rw [hg1, ti_sI_ne n0b]; exact ht) ?_
  rw [hdv]
  intro xa ea g2 hg2 _
  rw [hg1, ti_sI_nj (by decide)] at ea
  refine ⟨fun z => absurd z (nI_pos (by omega)), fun _ => ⟨fun z => ?_, fun _ q6 e6 x7 e7 g3 hg3 _ => ?_⟩⟩
  · rw [show (500 : Int32) = nI 500 from rfl, nI_leI (by decide) (by omega)] at z; omega
  rw [hg2, tr_sI, hg1, tr_sI, c3] at e6; cases e6
  rw [nI_clamp (by omega)] at e7 hg3
  rw [hg2, ti_sI_ne n69, hg1, ti_sI_ne n69] at e7
  intro _ _
  have t3 : ti g3 q0 10 = nI τ := by rw [hg3, ti_sI_ne n0i, hg2, ti_sI_ne n0b, hg1, ti_sI_ne n0b]; exact ht
  have s0 : ti g3 (ad 68) 0 = ti f (ad 68) 0 + pd / 20 := by rw [hg3, ti_sI_ne n69.symm, hg2, ti_sI_eq, ← ea]
  have s1 : ti g3 (ad 68) 1 = ti f (ad 68) 1 := by rw [hg3, ti_sI_ne n69.symm, hg2, ti_sI_nj (by decide), hg1, ti_sI_nj (by decide)]
  have s2 : ti g3 (ad 68) 2 = ti f (ad 68) 2 + pd := by rw [hg3, ti_sI_ne n69.symm, hg2, ti_sI_nj (by decide), hg1, ti_sI_eq, ← e2]
  have s3 : ti g3 (ad 68) 3 = ti f (ad 68) 3 := by rw [hg3, ti_sI_ne n69.symm, hg2, ti_sI_nj (by decide), hg1, ti_sI_nj (by decide)]
  have s6 : ti g3 (ad 68) 6 = ti f (ad 68) 6 := by rw [hg3, ti_sI_ne n69.symm, hg2, ti_sI_nj (by decide), hg1, ti_sI_nj (by decide)]
  have si : ∀ x, x < 500 → (ti g3 (ad 69) x).toInt = (if x = d then M.2.2.2.1 x + (pd / 20).toInt else M.2.2.2.1 x) := by
    intro x hx
    have hv := v5 x hx
    have h4 := x4 x hx
    rw [hg3, ti_sI]
    by_cases ex : x = d
    · subst ex
      rw [if_pos ⟨rfl, rfl⟩, if_pos rfl, ← e7, fb_addI (by rw [h4]; omega) (by rw [h4]; omega), h4]
    · rw [if_neg (fun k => ex k.2), if_neg ex, hg2, ti_sI_ne n69, hg1, ti_sI_ne n69]; exact h4
  have sM : ∀ m', m' < 40 → ∀ z, ti g3 (ad (100 + m')) z = ti f (ad (100 + m')) z := fun m' h z => by rw [hg3, ti_sI_ne (nMi m' h), hg2, ti_sI_ne (nMb m' h), hg1, ti_sI_ne (nMb m' h)]
  have sp : ∀ i, i < np → ∀ z, ti g3 (pn i) z = ti f (pn i) z := fun i h z => by rw [hg3, ti_sI_ne (npi i h), hg2, ti_sI_ne (npb i h), hg1, ti_sI_ne (npb i h)]
  have sr : ∀ c z, tr g3 c z = tr f c z := fun c z => by rw [hg3, tr_sI, hg2, tr_sI, hg1, tr_sI]
  have hbx : (ti f (ad 68) 0 + pd / 20).toInt = M.1 + (pd / 20).toInt := by rw [fb_addI (by rw [x1]; omega) (by rw [x1]; omega), x1]
  refine today_x t3 ?_
  rw [hdv, d7 hd]
  refine ⟨fun cS x13 e13 g4 hg4 _ => ?_, fun cS x19 e19 g4 hg4 _ => ?_⟩
  · refine today_x (T := nI τ) (by rw [hg4, ti_sI_ne n0b]; exact t3) ?_
    rw [hdv]
    intro g5 hg5 _
    rw [s1] at e13
    subst e13
    have hpt : (ti f (ad 68) 1 + (pd - pd / 20)).toInt = M.2.1 + (pd - pd / 20).toInt := by rw [fb_addI (by rw [x2]; omega) (by rw [x2]; omega), x2]
    have w0 : ∀ z, z ≠ 1 → ti g5 (ad 68) z = ti g3 (ad 68) z := fun z hz => by rw [hg5, ti_sI_ne (nMb m hm).symm, hg4, ti_sI_nj hz]
    have wM : ∀ m', m' < 40 → ∀ z, z ≠ 7 → ti g5 (ad (100 + m')) z = ti f (ad (100 + m')) z := fun m' h z hz => by rw [hg5, ti_sI_nj hz, hg4, ti_sI_ne (nMb m' h)]; exact sM m' h z
    have wp : ∀ i, i < np → ∀ z, ti g5 (pn i) z = ti f (pn i) z := fun i h z => by rw [hg5, ti_sI_ne (npM i h), hg4, ti_sI_ne (npb i h)]; exact sp i h z
    have wr' : ∀ c z, tr g5 c z = tr f c z := fun c z => by rw [hg5, tr_sI, hg4, tr_sI]; exact sr c z
    refine hq g5 ⟨⟨?_, ?_, ?_, fun x hx => ?_, fun m' h => ?_, fun i h => ?_⟩, ⟨⟨c1, ?_, (wr' _ _).trans c3, (wr' _ _).trans c4⟩, fun i h => (wr' _ _).trans (c5 i h), c6, fun i h => ⟨(wp i h 0).trans (c7 i h).1, (wp i h 1).trans (c7 i h).2⟩, fun m' h => ?_⟩⟩ ((w0 2 (by decide)).trans s2)
    · rw [w0 0 (by decide), s0]; exact hbx
    · rw [hg5, ti_sI_ne (nMb m hm).symm, hg4, ti_sI_eq]
      show _ = if d % 7 = 0 then _ else _
      rw [if_pos cS]; exact hpt
    · rw [w0 3 (by decide), s3]; exact x3
    · rw [hg5, ti_sI_ne (nMi m hm).symm, hg4, ti_sI_ne n69]; exact si x hx
    · rw [wM m' h 4 (by decide)]
      show _ = if m' = m ∧ ¬ d % 7 = 0 then _ else _
      rw [if_neg (fun k => k.2 cS)]; exact x5 m' h
    · rw [wp i h 2]; exact x6 i h
    · rw [w0 6 (by decide), s6]; exact c2
    · unfold lsF
      by_cases e : m' = m
      · subst e
        rw [if_pos ⟨rfl, cS⟩, hg5, ti_sI_eq]
      · rw [if_neg (fun k => e k.1), hg5, ti_sI_ne (fun k => e (hA.2.2.1 m' m h hm k)), hg4, ti_sI_ne (nMb m' h), sM m' h]; exact c8 m' h
  · rw [sM m hm] at e19
    subst e19
    have w0 : ∀ z, ti g4 (ad 68) z = ti g3 (ad 68) z := fun z => by rw [hg4, ti_sI_ne (nMb m hm).symm]
    have wp : ∀ i, i < np → ∀ z, ti g4 (pn i) z = ti f (pn i) z := fun i h z => by rw [hg4, ti_sI_ne (npM i h)]; exact sp i h z
    have wr' : ∀ c z, tr g4 c z = tr f c z := fun c z => by rw [hg4, tr_sI]; exact sr c z
    refine hq g4 ⟨⟨?_, ?_, ?_, fun x hx => ?_, fun m' h => ?_, fun i h => ?_⟩, ⟨⟨c1, ?_, (wr' _ _).trans c3, (wr' _ _).trans c4⟩, fun i h => (wr' _ _).trans (c5 i h), c6, fun i h => ⟨(wp i h 0).trans (c7 i h).1, (wp i h 1).trans (c7 i h).2⟩, fun m' h => ?_⟩⟩ ((w0 2).trans s2)
    · rw [w0 0, s0]; exact hbx
    · rw [w0 1, s1]
      show _ = if d % 7 = 0 then _ else _
      rw [if_neg cS]; exact x2
    · rw [w0 3, s3]; exact x3
    · rw [hg4, ti_sI_ne (nMi m hm).symm]; exact si x hx
    · show _ = if m' = m ∧ ¬ d % 7 = 0 then _ else _
      by_cases e : m' = m
      · subst e
        rw [if_pos ⟨rfl, cS⟩, hg4, ti_sI_eq, x5 m' h]
      · rw [if_neg (fun k => e k.1), hg4, ti_sI_ne (fun k => e (hA.2.2.1 m' m h hm k)), sM m' h]; exact x5 m' h
    · rw [wp i h 2]; exact x6 i h
    · rw [w0 6, s6]; exact c2
    · unfold lsF
      rw [if_neg (fun k => cS k.2), hg4, ti_sI_nj (by decide), sM m' h]; exact c8 m' h
end TAK
