section PEN
variable {L : List Nat} {f : TF} {q0 q1 : Nat} {ad : Nat → Nat}
/-- as many pensioners on both sides -/
def K4 (f : TF) (q1 : Nat) (ad : Nat → Nat) : Prop := ti f (ad 68) 6 = ti f q1 60
def avK4 (W : List (Nat × Nat)) : Bool := [(12, 6), (27, 60)].all (fun q => !(wr W q.1 q.2))
theorem K4.ext {W : List (Nat × Nat)} {L1 : List Nat} {f1 : TF} (h : K4 f q1 ad) (hA : Ad f q0 q1 ad) (hO : Ok L f) (m0 : q0 ∈ L ∧ tk f q0 = 0) (m1 : q1 ∈ L ∧ tk f q1 = 27) (hE : Ext W L f L1 f1) (ha : avK4 W = true) : K4 f1 q1 ad := by
  unfold avK4 at ha
  have s : ∀ k j, (k, j) ∈ [(12, 6), (27, 60)] → wr W k j = false := fun k j hj => by simpa using List.all_eq_true.mp ha (k, j) hj
  unfold K4
  rw [hE.ei (hA.box hO m0) (s 12 6 (by decide)), hE.ei m1 (s 27 60 (by decide))]
  exact h
theorem take_x {p1 p2 : Int32} {Q : Int32 → List Nat → TF → Prop} (hA : Ad f q0 q1 ad) (hO : Ok L f) (m0 : q0 ∈ L ∧ tk f q0 = 0) (hq : ∀ (L2 : List Nat) (f2 : TF), (∀ c z, c ∈ L → c ≠ ad 68 ∨ z ≠ 6 → ti f2 c z = ti f c z) → (∀ c z, c ∈ L → tk f c ≠ 14 → tr f2 c z = tr f c z) → ti f2 (ad 68) 6 = ti f (ad 68) 6 + 1 → (∀ c, c ∈ L → tk f2 c = tk f c) → Q (ti f (ad 68) 6 + 1 - 1) L2 f2) : wp_Bx_take_w L f (ad 68) p1 p2 Q := by
  intro qp ep qn L1 f1 hqn hL1 hf1 _ g1 hg1 _ g2 hg2 _ _ _ f3 hf3 _ f4 hf4 _
  have ib := hA.box hO m0
  have ip := hO.rm (j := 5) (k' := 14) (n := false) ib rfl ep
  have nqn : ∀ c, c ∈ L → c ≠ qn := fun c hc e => hqn (e ▸ hc)
  refine hq L1 f4 (fun c z hc h => ?_) (fun c z hc hk => ?_) ?_ (fun c hc => by rw [hf4, tk_sI, hf3, tk_sR, hg2, tk_sI, hg1, tk_sI, hf1, tk_nC (nqn c hc)])
  · rw [hf4, ti_sI, if_neg (fun k => h.elim (fun z => z k.1) (fun z => z k.2)), hf3, ti_sR, hg2, ti_sI_ne (nqn c hc), hg1, ti_sI_ne (nqn c hc), hf1, ti_nC (nqn c hc)]
  · rw [hf4, tr_sI, hf3, tr_sR_ne (show c ≠ qp from fun e => hk (by rw [e]; exact ip.2)), hg2, tr_sI, hg1, tr_sI, hf1, tr_nC (nqn c hc)]
  · rw [hf4, ti_sI_eq]
theorem newP_m {p1 p2 : Int32} {Q : Int32 → List Nat → TF → Prop} (hO : Ok L f) (m1 : q1 ∈ L ∧ tk f q1 = 27) (hq : ∀ f' : TF, (∀ c z, tk f c ≠ 72 → tk f c ≠ 73 → c ≠ q1 ∨ z ≠ 60 → ti f' c z = ti f c z) → (∀ c z, tr f' c z = tr f c z) → ti f' q1 60 = ti f q1 60 + 1 → Q (ti f q1 60 + 1 - 1) L f') : wp_Md_newPensioner_w L f q1 p1 p2 Q := by
  intro qa ea f1 hf1 _ qb eb f2 hf2 _ f3 hf3 _
  have ia := hO.rm (j := 61) (k' := 72) (n := false) m1 rfl ea
  rw [hf1, tr_sI] at eb
  have ib := hO.rm (j := 62) (k' := 73) (n := false) m1 rfl eb
  refine hq f3 (fun c z h1 h2 h => ?_) (fun c z => ?_) ?_
  · rw [hf3, ti_sI, if_neg (fun k => h.elim (fun z => z k.1) (fun z => z k.2)), hf2, ti_sI_ne (show c ≠ qb from fun e => h2 (by rw [e]; exact ib.2)), hf1, ti_sI_ne (show c ≠ qa from fun e => h1 (by rw [e]; exact ia.2))]
  · rw [hf3, tr_sI, hf2, tr_sI, hf1, tr_sI]
  · rw [hf3, ti_sI_eq]
theorem p30 (hO : Ok L f) (m1 : q1 ∈ L ∧ tk f q1 = 27) : ti f q1 60 < 30 ↔ ¬ ti f q1 60 = 30 := by
  obtain ⟨h1, h2⟩ := hO.i m1 (show slotD 27 60 = some (.inl (0, 30)) from rfl)
  have z30 : (30 : Int32).toInt = 30 := by decide
  rw [Int32.lt_iff_toInt_lt] at h2
  rw [Int32.lt_iff_toInt_lt, ← Int32.toInt_inj]
  omega
theorem pr_pension (hO : Ok L f) (m0 : q0 ∈ L ∧ tk f q0 = 0) (m1 : q1 ∈ L ∧ tk f q1 = 27) (hA : Ad f q0 q1 ad) (hK : K4 f q1 ad) (p_0 p_1 : Int32) : wp_WM_pension_w L f q0 p_0 p_1 (PairG (fun _ g => K4 g q1 ad) q0 q1 (fun L f Q => wp_Md_pension_w L f q1 p_0 p_1 Q)) := by
  have hbad : (p_0 < 1 ∨ 10000 < p_0 ∨ p_1 < 0 ∨ 9999 < p_1) → PairG (fun _ g => K4 g q1 ad) q0 q1 (fun L f Q => wp_Md_pension_w L f q1 p_0 p_1 Q) (-1) L f := by
    intro h _ _ _
    refine ⟨fun _ _ => ⟨rfl, hK⟩, fun g1 => ⟨fun _ _ => ⟨rfl, hK⟩, fun g2 => ⟨fun _ _ => ⟨rfl, hK⟩, fun g3 => ⟨fun _ _ => ⟨rfl, hK⟩, fun g4 => ?_⟩⟩⟩⟩
    rcases h with h | h | h | h
    · exact absurd h g1
    · exact absurd h g2
    · exact absurd h g3
    · exact absurd h g4
  refine ⟨fun k => hbad (Or.inl k), fun c1 => ⟨fun k => hbad (Or.inr (Or.inl k)), fun c2 => ⟨fun k => hbad (Or.inr (Or.inr (Or.inl k))), fun c3 => ⟨fun k => hbad (Or.inr (Or.inr (Or.inr k))), fun c4 q6 e6 x7 e7 => ?_⟩⟩⟩⟩
  rw [hA.1.2.2.2.2] at e6; cases e6
  have hK' : ti f (ad 68) 6 = ti f q1 60 := hK
  rw [hK'] at e7
  subst e7
  refine ⟨fun g => take_x hA hO m0 (fun L2 f2 h1 h2 h3 _ => ?_), fun g _ _ _ => ⟨fun k => absurd k c1, fun _ => ⟨fun k => absurd k c2, fun _ => ⟨fun k => absurd k c3, fun _ => ⟨fun k => absurd k c4, fun _ x6 e6 => ?_⟩⟩⟩⟩⟩
  · intro _ _ _ m0' m1'
    have n1 : q1 ≠ ad 68 := ne_tk m1.2 (hA.box hO m0).2 (by decide)
    refine ⟨fun k => absurd k c1, fun _ => ⟨fun k => absurd k c2, fun _ => ⟨fun k => absurd k c3, fun _ => ⟨fun k => absurd k c4, fun _ x6 e6 => ?_⟩⟩⟩⟩
    rw [h1 q1 60 m1.1 (Or.inl n1)] at e6
    subst e6
    refine ⟨fun k => absurd k ((p30 hO m1).mp g), fun _ => ?_⟩
    intro qa ea g1 hg1 _ qb eb g2 hg2 _ g3 hg3 _ _ _ _
    have ia := (show Ok L2 f2 from by assumption).rm (j := 61) (k' := 72) (n := false) m1' rfl ea
    rw [hg1, tr_sI] at eb
    have ib := (show Ok L2 f2 from by assumption).rm (j := 62) (k' := 73) (n := false) m1' rfl eb
    have k68 : tk f2 (ad 68) = 12 := by
      have := (show Ok L2 f2 from by assumption).rm (j := 6) (k' := 12) (n := false) m0' rfl ((h2 q0 6 m0.1 (by rw [m0.2]; decide)).trans hA.1.2.2.2.2)
      exact this.2
    refine ⟨?_, ?_⟩
    · rw [hK', h1 q1 60 m1.1 (Or.inl n1)]
    · show ti g3 (ad 68) 6 = ti g3 q1 60
      rw [hg3, ti_sI_eq, ti_sI_ne n1.symm, hg2, ti_sI_ne (ne_tk k68 ib.2 (by decide)), hg1, ti_sI_ne (ne_tk k68 ia.2 (by decide)), h3, h1 q1 60 m1.1 (Or.inl n1), hK']
  · subst e6
    exact ⟨fun _ _ => ⟨rfl, hK⟩, fun k => absurd ((p30 hO m1).mpr k) g⟩
end PEN
section CNTS
variable {L : List Nat} {f : TF} {q0 q1 : Nat} {ad : Nat → Nat} {T : Int32} {N : Nat} {D : Int}
theorem men_x {v : Int32} {Q : Int32 → Prop} (hA : Ad f q0 q1 ad) (hK : K1 f ad D) (hq : Q (nI (cn (fun i => decide (ti f (ad 9) i = v)) 40))) : wp_WM_menThatAre_w L f q0 v Q := by
  generalize hP : (fun i => decide (ti f (ad 9) i = v)) = P at hq
  have hPi : ∀ i, P i = decide (ti f (ad 9) i = v) := fun i => by rw [← hP]
  have hstep : ∀ (rc : Int32 → Int32 → Prop) (i : Nat), i ≤ 40 → (i < 40 → rc (nI (cn P (i + 1))) (nI (i + 1))) → wpB_WM_menThatAre_w_4_1 L f q0 v Q rc (nI (cn P i)) (nI i) := by
    intro rc i hi hrec
    refine ⟨fun g => ?_, fun g q3 e3 => ?_⟩
    · rw [show (40 : Int32) = nI 40 from rfl, nI_leI (by decide) (by omega)] at g
      have : i = 40 := by omega
      subst this
      exact hq
    · rw [show (40 : Int32) = nI 40 from rfl, nI_leI (by decide) (by omega)] at g
      have hlt : i < 40 := by omega
      have hr := hrec hlt
      have hcs : cn P (i + 1) = cn P i + (if P i = true then 1 else 0) := rfl
      rw [hA.1.2.1] at e3; cases e3
      rw [nI_clamp (by omega), hA.2.1 i hlt, nI_1, nI_1]
      refine ⟨fun z => (by cases z), fun q4 e4 x5 e5 => ?_⟩
      cases e4
      rw [hK.st hlt] at e5
      subst e5
      refine ⟨fun k => ?_, fun k => ?_⟩
      · rw [hcs, hPi, decide_eq_true k, if_pos rfl] at hr; exact hr
      · rw [hcs, hPi, decide_eq_false k, if_neg (by simp), Nat.add_zero] at hr; exact hr
  have hloop : ∀ (n i : Nat), i ≤ 40 → wpL_WM_menThatAre_w_4_1 L f q0 v Q n (nI (cn P i)) (nI i) := by
    intro n
    induction n with
    | zero => intro i c1; exact hstep (fun _ _ => True) i c1 (fun _ => trivial)
    | succ n ih => intro i c1; exact hstep _ i c1 (fun d1 => ih _ (by omega))
  exact hloop _ 0 (by omega)
theorem men_m {v : Int32} {Q : Int32 → Prop} (hA : Ad f q0 q1 ad) (hq : Q (nI (cn (fun i => decide (ti f (ad 9) i = v)) 40))) : wp_Md_menAs_w L f q1 v Q := by
  generalize hP : (fun i => decide (ti f (ad 9) i = v)) = P at hq
  have hPi : ∀ i, P i = decide (ti f (ad 9) i = v) := fun i => by rw [← hP]
  have hstep : ∀ (rc : Int32 → Int32 → Prop) (i : Nat), i ≤ 40 → (i < 40 → rc (nI (cn P (i + 1))) (nI (i + 1))) → wpB_Md_menAs_w_4_1 L f q1 v Q rc (nI (cn P i)) (nI i) := by
    intro rc i hi hrec
    refine ⟨fun g => ?_, fun g q3 e3 x4 e4 => ?_⟩
    · rw [show (40 : Int32) = nI 40 from rfl, nI_leI (by decide) (by omega)] at g
      have : i = 40 := by omega
      subst this
      exact hq
    · rw [show (40 : Int32) = nI 40 from rfl, nI_leI (by decide) (by omega)] at g
      have hlt : i < 40 := by omega
      have hr := hrec hlt
      have hcs : cn P (i + 1) = cn P i + (if P i = true then 1 else 0) := rfl
      rw [hA.2.2.2 9 (by decide)] at e3; cases e3
      rw [nI_clamp (by omega)] at e4
      subst e4
      rw [nI_1, nI_1, show (0 : Int32) = nI 0 from rfl, nI_add]
      refine ⟨fun k => ?_, fun k => ?_⟩
      · rw [hcs, hPi, decide_eq_true k, if_pos rfl] at hr; exact hr
      · rw [hcs, hPi, decide_eq_false k, if_neg (by simp)] at hr; exact hr
  have hloop : ∀ (n i : Nat), i ≤ 40 → wpL_Md_menAs_w_4_1 L f q1 v Q n (nI (cn P i)) (nI i) := by
    intro n
    induction n with
    | zero => intro i c1; exact hstep (fun _ _ => True) i c1 (fun _ => trivial)
    | succ n ih => intro i c1; exact hstep _ i c1 (fun d1 => ih _ (by omega))
  exact hloop _ 0 (by omega)
theorem pr_count (hC : Cpl L f q0 q1) (hT : CT f q0 q1) (hD : CO f q0 q1) (hA : Ad f q0 q1 ad) (hK1 : K1 f ad D) (hK3 : K3 f q0 q1 ad T N) (hK4 : K4 f q1 ad) (p_0 : Int32) : wp_WM_count_w L f q0 p_0 (fun r => wp_Md_count_w L f q1 p_0 (fun r' => r = r')) := by
  obtain ⟨ad', hR, hV⟩ := id hC
  obtain ⟨qT, qB, mB, t1, t2, t3, t4, t5⟩ := id hT
  obtain ⟨n, qx, cO, cF, cH, cS, am, c1, c2, c3, -⟩ := id hD
  obtain ⟨bt, tp, nB, nT, hB, -, -, -⟩ := hK3
  obtain ⟨-, ⟨b1, b2, b3, b4⟩, -⟩ := hB
  have ne : ∀ {x y : Int32}, p_0 = x → ¬ x = y → ¬ p_0 = y := fun h1 h2 h3 => h2 (h1.symm.trans h3)
  refine ⟨fun e q2 e2 x3 e3 => ?_, fun c0 => ⟨fun e x e' => ?_, fun c1' => ⟨fun e x e' => ?_, fun c2' => ⟨fun e x e' => ?_, fun c3' => ⟨fun e x e' => ?_, fun c4 => ⟨fun e => ?_, fun c5 => ⟨fun e => ?_, fun c6 => ⟨fun e => ?_, fun c7 => ⟨fun e q2 e2 x e' => ?_, fun c8 => ⟨fun e q2 e2 x e' => ?_, fun c9 => ?_⟩⟩⟩⟩⟩⟩⟩⟩⟩⟩
  · rw [hR.1] at e2; cases e2
    rw [hV.2.1] at e3
    exact ⟨fun _ x h => e3.symm.trans h, fun k => absurd e k⟩
  · exact ⟨fun k => absurd k c0, fun _ => ⟨fun _ y h => by rw [← e', ← h, b1, b2], fun k => absurd e k⟩⟩
  · exact ⟨fun k => absurd k c0, fun _ => ⟨fun k => absurd k c1', fun _ => ⟨fun _ y h => by rw [← e', ← h, b3, b4], fun k => absurd e k⟩⟩⟩
  · exact ⟨fun k => absurd k c0, fun _ => ⟨fun k => absurd k c1', fun _ => ⟨fun k => absurd k c2', fun _ => ⟨fun _ y h => by rw [← e', ← h, c2, c3], fun k => absurd e k⟩⟩⟩⟩
  · exact ⟨fun k => absurd k c0, fun _ => ⟨fun k => absurd k c1', fun _ => ⟨fun k => absurd k c2', fun _ => ⟨fun k => absurd k c3', fun _ => ⟨fun _ y h => by rw [← e', ← h]; exact hV.1, fun k => absurd e k⟩⟩⟩⟩⟩
  · exact men_x hA hK1 ⟨fun k => absurd k c0, fun _ => ⟨fun k => absurd k c1', fun _ => ⟨fun k => absurd k c2', fun _ => ⟨fun k => absurd k c3', fun _ => ⟨fun k => absurd k c4, fun _ => ⟨fun _ => men_m hA rfl, fun k => absurd e k⟩⟩⟩⟩⟩⟩
  · exact men_x hA hK1 ⟨fun k => absurd k c0, fun _ => ⟨fun k => absurd k c1', fun _ => ⟨fun k => absurd k c2', fun _ => ⟨fun k => absurd k c3', fun _ => ⟨fun k => absurd k c4, fun _ => ⟨fun k => absurd k c5, fun _ => ⟨fun _ => men_m hA rfl, fun k => absurd e k⟩⟩⟩⟩⟩⟩⟩
  · exact men_x hA hK1 ⟨fun k => absurd k c0, fun _ => ⟨fun k => absurd k c1', fun _ => ⟨fun k => absurd k c2', fun _ => ⟨fun k => absurd k c3', fun _ => ⟨fun k => absurd k c4, fun _ => ⟨fun k => absurd k c5, fun _ => ⟨fun k => absurd k c6, fun _ => ⟨fun _ => men_m hA rfl, fun k => absurd e k⟩⟩⟩⟩⟩⟩⟩⟩
  · rw [hA.1.2.2.2.2] at e2; cases e2
    exact ⟨fun k => absurd k c0, fun _ => ⟨fun k => absurd k c1', fun _ => ⟨fun k => absurd k c2', fun _ => ⟨fun k => absurd k c3', fun _ => ⟨fun k => absurd k c4, fun _ => ⟨fun k => absurd k c5, fun _ => ⟨fun k => absurd k c6, fun _ => ⟨fun k => absurd k c7, fun _ => ⟨fun _ y h => by rw [← e', ← h]; exact hK4, fun k => absurd e k⟩⟩⟩⟩⟩⟩⟩⟩⟩
  · rw [t1] at e2; cases e2
    exact ⟨fun k => absurd k c0, fun _ => ⟨fun k => absurd k c1', fun _ => ⟨fun k => absurd k c2', fun _ => ⟨fun k => absurd k c3', fun _ => ⟨fun k => absurd k c4, fun _ => ⟨fun k => absurd k c5, fun _ => ⟨fun k => absurd k c6, fun _ => ⟨fun k => absurd k c7, fun _ => ⟨fun k => absurd k c8, fun _ => ⟨fun _ y h => by rw [← e', ← h]; exact t4, fun k => absurd e k⟩⟩⟩⟩⟩⟩⟩⟩⟩⟩
  · exact ⟨fun k => absurd k c0, fun _ => ⟨fun k => absurd k c1', fun _ => ⟨fun k => absurd k c2', fun _ => ⟨fun k => absurd k c3', fun _ => ⟨fun k => absurd k c4, fun _ => ⟨fun k => absurd k c5, fun _ => ⟨fun k => absurd k c6, fun _ => ⟨fun k => absurd k c7, fun _ => ⟨fun k => absurd k c8, fun _ => ⟨fun k => absurd k c9, fun _ => rfl⟩⟩⟩⟩⟩⟩⟩⟩⟩⟩
end CNTS
