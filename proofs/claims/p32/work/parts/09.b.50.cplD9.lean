section PEM
variable {L : List Nat} {f : TF} {q0 q1 : Nat} {ad : Nat → Nat}
def updN {α : Type} (g : Nat → α) (n : Nat) (v : α) : Nat → α := fun x => if x = n then v else g x
theorem updN_y {α : Type} {g : Nat → α} {n : Nat} {v : α} : updN g n v n = v := by unfold updN; rw [if_pos rfl]
theorem updN_n {α : Type} {g : Nat → α} {n x : Nat} {v : α} (h : x ≠ n) : updN g n v x = g x := by unfold updN; rw [if_neg h]
theorem takeP_x {p1 p2 : Int32} {pn : Nat → Nat} {np : Nat} {ls pen pend : Nat → Int32} {M : MS} {Q : Int32 → List Nat → TF → Prop} (hA : Ad f q0 q1 ad) (hO : Ok L f) (m0 : q0 ∈ L ∧ tk f q0 = 0) (hX : XF f ad pn np ls pen pend M) (hn : np < 30) (hG : GZ np M) (hq : ∀ (L2 : List Nat) (f2 : TF) (pn2 : Nat → Nat), (∀ c z, c ∈ L → c ≠ ad 68 ∨ z ≠ 6 → ti f2 c z = ti f c z) → (∀ c z, c ∈ L → tk f c ≠ 14 → tr f2 c z = tr f c z) → ti f2 (ad 68) 6 = ti f (ad 68) 6 + 1 → (∀ c, c ∈ L → tk f2 c = tk f c) → XF f2 ad pn2 (np + 1) ls (updN pen np p1) (updN pend np p2) M → (∀ i, i < np → pn2 i = pn i) → tk f2 (pn2 np) = 26 → (∀ c z, c ∈ L → tl f2 c z = tl f c z) → Q (ti f (ad 68) 6 + 1 - 1) L2 f2) : wp_Bx_take_w L f (ad 68) p1 p2 Q := by
  intro qp ep qn L1 f1 hqn hL1 hf1 _ g1 hg1 _ g2 hg2 _ _ _ f3 hf3 _ f4 hf4 _
  have ib := hA.box hO m0
  obtain ⟨hX, hC⟩ := hX
  obtain ⟨i70, ip⟩ := hC.mem hA hO m0
  have ii := hA.inc hO m0 hC.1.2.2.1
  have nqn : ∀ c, c ∈ L → c ≠ qn := fun c hc e => hqn (e ▸ hc)
  obtain ⟨⟨c1, c2, c3, c4⟩, c5, c6, c7, c8⟩ := hC
  obtain ⟨x1, x2, x3, x4, x5, x6⟩ := hX
  rw [c4] at ep; cases ep
  rw [c2, nI_clamp (by omega)] at hf3
  have a1 : ∀ c z, c ∈ L → c ≠ ad 68 ∨ z ≠ 6 → ti f4 c z = ti f c z := fun c z hc h => by
    rw [hf4, ti_sI, if_neg (fun k => h.elim (fun z => z k.1) (fun z => z k.2)), hf3, ti_sR, hg2, ti_sI_ne (nqn c hc), hg1, ti_sI_ne (nqn c hc), hf1, ti_nC (nqn c hc)]
  have a2 : ∀ c z, c ∈ L → tk f c ≠ 14 → tr f4 c z = tr f c z := fun c z hc hk => by
    rw [hf4, tr_sI, hf3, tr_sR_ne (show c ≠ ad 70 from fun e => hk (by rw [e]; exact i70.2)), hg2, tr_sI, hg1, tr_sI, hf1, tr_nC (nqn c hc)]
  have a3 : ti f4 (ad 68) 6 = ti f (ad 68) 6 + 1 := by rw [hf4, ti_sI_eq]
  have a4 : ∀ c, c ∈ L → tk f4 c = tk f c := fun c hc => by rw [hf4, tk_sI, hf3, tk_sR, hg2, tk_sI, hg1, tk_sI, hf1, tk_nC (nqn c hc)]
  have a5 : ∀ z, tr f4 (ad 70) z = if z = np then some qn else tr f (ad 70) z := fun z => by
    rw [hf4, tr_sI, hf3, tr_sR, hg2, tr_sI, hg1, tr_sI, hf1, tr_nC (nqn _ i70.1)]
    by_cases e : z = np
    · rw [if_pos ⟨rfl, e⟩, if_pos e]
    · rw [if_neg (fun k => e k.2), if_neg e]
  have nqb : qn ≠ ad 68 := (nqn _ ib.1).symm
  have qv : ti f4 qn 0 = p1 ∧ ti f4 qn 1 = p2 ∧ ti f4 qn 2 = 0 := by
    refine ⟨?_, ?_, ?_⟩
    · rw [hf4, ti_sI_ne nqb, hf3, ti_sR, hg2, ti_sI_nj (by decide), hg1, ti_sI_eq]
    · rw [hf4, ti_sI_ne nqb, hf3, ti_sR, hg2, ti_sI_eq]
    · rw [hf4, ti_sI_ne nqb, hf3, ti_sR, hg2, ti_sI_nj (by decide), hg1, ti_sI_nj (by decide), hf1, ti_nC_eq]
  have aq : tk f4 qn = 26 := by rw [hf4, tk_sI, hf3, tk_sR, hg2, tk_sI, hg1, tk_sI, hf1]; unfold tk nC; rw [va_up_self]
  have ap : ∀ i, i < np → ∀ z, ti f4 (pn i) z = ti f (pn i) z := fun i hi z => a1 _ z (ip i hi).1 (Or.inl (ne_tk (ip i hi).2 ib.2 (by decide)))
  have al : ∀ c z, c ∈ L → tl f4 c z = tl f c z := fun c z hc => by rw [hf4, tl_sI, hf3, tl_sR, hg2, tl_sI, hg1, tl_sI, hf1, tl_nC (nqn c hc)]
  refine hq L1 f4 (updN pn np qn) a1 a2 a3 a4 ⟨⟨?_, ?_, ?_, fun d hd => ?_, fun m hm => ?_, fun i hi => ?_⟩, ⟨by omega, ?_, ?_, ?_⟩, fun i hi => ?_, fun i i' hi hi' e => ?_, fun i hi => ?_, fun m hm => ?_⟩ (fun i hi => updN_n (by omega)) (by rw [updN_y]; exact aq) al
  · rw [a1 _ _ ib.1 (Or.inr (by decide))]; exact x1
  · rw [a1 _ _ ib.1 (Or.inr (by decide))]; exact x2
  · rw [a1 _ _ ib.1 (Or.inr (by decide))]; exact x3
  · rw [a1 _ _ ii.1 (Or.inl (ne_tk ii.2 ib.2 (by decide)))]; exact x4 d hd
  · rw [a1 _ _ (hA.man hO m0 hm).1 (Or.inr (by decide))]; exact x5 m hm
  · by_cases e : i = np
    · subst e; rw [updN_y, qv.2.2]; exact (hG i (Nat.le_refl _)).symm
    · rw [updN_n e, ap i (by omega)]; exact x6 i (by omega)
  · rw [a3, c2, nI_1]
  · rw [a2 _ _ ib.1 (by rw [ib.2]; decide)]; exact c3
  · rw [a2 _ _ ib.1 (by rw [ib.2]; decide)]; exact c4
  · rw [a5]
    by_cases e : i = np
    · subst e; rw [if_pos rfl, updN_y]
    · rw [if_neg e, updN_n e]; exact c5 i (by omega)
  · by_cases e1 : i = np
    · by_cases e2 : i' = np
      · omega
      · subst e1; rw [updN_y, updN_n e2] at e
        exact absurd e.symm (nqn _ (ip i' (by omega)).1)
    · by_cases e2 : i' = np
      · subst e2; rw [updN_y, updN_n e1] at e
        exact absurd e (nqn _ (ip i (by omega)).1)
      · rw [updN_n e1, updN_n e2] at e
        exact c6 i i' (by omega) (by omega) e
  · by_cases e : i = np
    · subst e; rw [updN_y, updN_y, updN_y]; exact ⟨qv.1, qv.2.1⟩
    · rw [updN_n e, updN_n e, updN_n e, ap i (by omega), ap i (by omega)]; exact c7 i (by omega)
  · rw [a1 _ _ (hA.man hO m0 hm).1 (Or.inr (by decide))]; exact c8 m hm
theorem newP_M {p1 p2 : Int32} {np D : Nat} {ls pen pend : Nat → Int32} {M : MS} {Q : Int32 → List Nat → TF → Prop} (hO : Ok L f) (m1 : q1 ∈ L ∧ tk f q1 = 27) (hR : RF f q1 ad np ls pen pend D M) (hn : np < 30) (hq : ∀ f' : TF, (∀ c z, tk f c ≠ 72 → tk f c ≠ 73 → c ≠ q1 ∨ z ≠ 60 → ti f' c z = ti f c z) → (∀ c z, tr f' c z = tr f c z) → ti f' q1 60 = ti f q1 60 + 1 → RF f' q1 ad (np + 1) ls (updN pen np p1) (updN pend np p2) D M → Q (ti f q1 60 + 1 - 1) L f') : wp_Md_newPensioner_w L f q1 p1 p2 Q := by
  intro qa ea f1 hf1 _ qb eb f2 hf2 _ f3 hf3 _
  have im := hR.2.1.m hO m1
  obtain ⟨⟨x1, x2, x3, x4, x5, x6⟩, ⟨⟨c1, c2⟩, c3, c4⟩, hS⟩ := id hR
  rw [c3 61 (by decide)] at ea; cases ea
  rw [hf1, tr_sI, c3 62 (by decide)] at eb; cases eb
  rw [c2, nI_clamp (by omega)] at hf1 hf2
  have n6261 : ad 61 ≠ ad 62 := ne_tk (im 61 (by decide)).2 (im 62 (by decide)).2 (by decide)
  have n61 : ad 61 ≠ q1 := ne_tk (im 61 (by decide)).2 m1.2 (by decide)
  have n62 : ad 62 ≠ q1 := ne_tk (im 62 (by decide)).2 m1.2 (by decide)
  have a1 : ∀ c z, tk f c ≠ 72 → tk f c ≠ 73 → c ≠ q1 ∨ z ≠ 60 → ti f3 c z = ti f c z := fun c z h1 h2 h => by
    rw [hf3, ti_sI, if_neg (fun k => h.elim (fun z => z k.1) (fun z => z k.2)), hf2, ti_sI_ne (show c ≠ ad 62 from fun e => h2 (by rw [e]; exact (im 62 (by decide)).2)), hf1, ti_sI_ne (show c ≠ ad 61 from fun e => h1 (by rw [e]; exact (im 61 (by decide)).2))]
  have a2 : ∀ c z, tr f3 c z = tr f c z := fun c z => by rw [hf3, tr_sI, hf2, tr_sI, hf1, tr_sI]
  have a3 : ti f3 q1 60 = ti f q1 60 + 1 := by rw [hf3, ti_sI_eq]
  have al : ∀ c z, tl f3 c z = tl f c z := fun c z => by rw [hf3, tl_sI, hf2, tl_sI, hf1, tl_sI]
  have ak : ∀ k, k ∈ [15, 18, 63] → ∀ z, ti f3 (ad k) z = ti f (ad k) z := fun k hk z => by
    have hk' : k ∈ [15, 18, 59, 61, 62, 63] := by
      simp only [List.mem_cons, List.not_mem_nil, or_false] at hk ⊢
      omega
    have hkk : kd6 k = 39 ∨ kd6 k = 42 ∨ kd6 k = 74 := by
      simp only [List.mem_cons, List.not_mem_nil, or_false] at hk
      rcases hk with rfl | rfl | rfl <;> decide
    have ik := (im k hk').2
    exact a1 _ z (by omega) (by omega) (Or.inl (ne_tk ik m1.2 (by omega)))
  refine hq f3 a1 a2 a3 ⟨⟨?_, ?_, ?_, fun d hd => ?_, fun m hm => ?_, fun i hi => ?_⟩, ⟨⟨by omega, ?_⟩, fun k hk => (a2 _ _).trans (c3 k hk), fun i hi => ⟨?_, ?_⟩⟩, fun m hm => ?_⟩
  · rw [al]; exact x1
  · rw [al]; exact x2
  · rw [al]; exact x3
  · rw [al]; exact x4 d hd
  · rw [ak 15 (by decide)]; exact x5 m hm
  · rw [ak 63 (by decide)]; exact x6 i hi
  · rw [a3, c2, nI_1]
  · rw [hf3, ti_sI_ne n61, hf2, ti_sI_ne n6261, hf1, ti_sI]
    by_cases e : i = np
    · subst e; rw [if_pos ⟨rfl, rfl⟩, updN_y]
    · rw [if_neg (fun k => e k.2), updN_n e]; exact (c4 i (by omega)).1
  · rw [hf3, ti_sI_ne n62, hf2, ti_sI]
    by_cases e : i = np
    · subst e; rw [if_pos ⟨rfl, rfl⟩, updN_y]
    · rw [if_neg (fun k => e k.2), updN_n e, hf1, ti_sI_ne n6261.symm]; exact (c4 i (by omega)).2
  · rw [ak 18 (by decide)]; exact hS m hm
theorem PB.new {np : Nat} {pen : Nat → Int32} {p : Int32} (h : PB np pen) (h1 : ¬ p < 1) (h2 : ¬ 10000 < p) : PB (np + 1) (updN pen np p) := by
  intro i hi
  have z1 : (1 : Int32).toInt = 1 := by decide
  have z2 : (10000 : Int32).toInt = 10000 := by decide
  rw [Int32.lt_iff_toInt_lt] at h1 h2
  by_cases e : i = np
  · subst e; rw [updN_y]; omega
  · rw [updN_n e]; exact h i (by omega)
theorem GZ.new {np : Nat} {M : MS} (h : GZ np M) : GZ (np + 1) M := fun i hi => h i (by omega)
theorem pr_pensionM {T nT : Nat} (hO : Ok L f) (m0 : q0 ∈ L ∧ tk f q0 = 0) (m1 : q1 ∈ L ∧ tk f q1 = 27) (hA : Ad f q0 q1 ad) (hK : K4 f q1 ad) (hMo : KMo f q1 ad T nT) (p_0 p_1 : Int32) : wp_WM_pension_w L f q0 p_0 p_1 (PairG (fun _ g => K4 g q1 ad ∧ KMo g q1 ad T nT) q0 q1 (fun L f Q => wp_Md_pension_w L f q1 p_0 p_1 Q)) := by
  have hbad : (p_0 < 1 ∨ 10000 < p_0 ∨ p_1 < 0 ∨ 9999 < p_1) → PairG (fun _ g => K4 g q1 ad ∧ KMo g q1 ad T nT) q0 q1 (fun L f Q => wp_Md_pension_w L f q1 p_0 p_1 Q) (-1) L f := by
    intro h _ _ _
    refine ⟨fun _ _ => ⟨rfl, hK, hMo⟩, fun g1 => ⟨fun _ _ => ⟨rfl, hK, hMo⟩, fun g2 => ⟨fun _ _ => ⟨rfl, hK, hMo⟩, fun g3 => ⟨fun _ _ => ⟨rfl, hK, hMo⟩, fun g4 => ?_⟩⟩⟩⟩
    rcases h with h | h | h | h
    · exact absurd h g1
    · exact absurd h g2
    · exact absurd h g3
    · exact absurd h g4
  refine ⟨fun k => hbad (Or.inl k), fun c1 => ⟨fun k => hbad (Or.inr (Or.inl k)), fun c2 => ⟨fun k => hbad (Or.inr (Or.inr (Or.inl k))), fun c3 => ⟨fun k => hbad (Or.inr (Or.inr (Or.inr k))), fun c4 q6 e6 x7 e7 => ?_⟩⟩⟩⟩
  rw [hA.1.2.2.2.2] at e6; cases e6
  have hK' : ti f (ad 68) 6 = ti f q1 60 := hK
  rw [hK'] at e7
  subst e7
  obtain ⟨pn, np, ls, pen, pend, M, ⟨hXF, hRF⟩, ⟨hI, hPB, hPT, hLS, hGZ⟩, hSM⟩ := id hMo
  have hnp : ti f q1 60 = nI np := hRF.2.1.1.2
  have h30 := hRF.2.1.1.1
  have i54 := hA.m hO m1 54 (by decide)
  have i68 := hA.box hO m0
  have imm := hRF.2.1.m hO m1
  refine ⟨fun g => takeP_x hA hO m0 hXF (by rw [hnp, show (30 : Int32) = nI 30 from rfl, nI_ltI (by omega) (by decide)] at g; exact g) hGZ (fun L2 f2 pn2 h1 h2 h3 h4 h5 h6 h7 h8 => ?_), fun g _ _ _ => ⟨fun k => absurd k c1, fun _ => ⟨fun k => absurd k c2, fun _ => ⟨fun k => absurd k c3, fun _ => ⟨fun k => absurd k c4, fun _ x6 e6 => ?_⟩⟩⟩⟩⟩
  · intro hO2 hE2 _ m0' m1'
    have hlt : np < 30 := by rw [hnp, show (30 : Int32) = nI 30 from rfl, nI_ltI (by omega) (by decide)] at g; exact g
    have n1 : q1 ≠ ad 68 := ne_tk m1.2 i68.2 (by decide)
    refine ⟨fun k => absurd k c1, fun _ => ⟨fun k => absurd k c2, fun _ => ⟨fun k => absurd k c3, fun _ => ⟨fun k => absurd k c4, fun _ x6 e6 => ?_⟩⟩⟩⟩
    rw [h1 q1 60 m1.1 (Or.inl n1)] at e6
    subst e6
    refine ⟨fun k => absurd k ((p30 hO m1).mp g), fun _ => ?_⟩
    have hRF2 := hRF.ext hO m1 hE2 (by decide +kernel)
    have hA2 : Ad f2 q0 q1 ad := hA.ext hO m0 m1 hE2 (by decide +kernel)
    refine newP_M hO2 m1' hRF2 hlt (fun f3 k1 k2 k3 k4 => ?_)
    intro hO3 hE3 _
    have e60 : ti f2 q1 60 = ti f q1 60 := h1 q1 60 m1.1 (Or.inl n1)
    have i68' := hA2.box hO2 m0'
    refine ⟨by rw [hK', e60], ?_, pn2, np + 1, ls, _, _, M, ⟨RX.ext h5 hA2 hO2 m0' hE3 (by decide +kernel), k4⟩, ⟨hI, hPB.new c1 c2, hPT, hLS, hGZ.new⟩, ?_⟩
    · show ti f3 (ad 68) 6 = ti f3 q1 60
      rw [k1 _ _ (by rw [i68'.2]; decide) (by rw [i68'.2]; decide) (Or.inl n1.symm), k3, h3, e60, hK']
    · rw [hE3.ei i68' (by decide +kernel), h1 _ 2 i68.1 (Or.inr (by decide)), hSM]
      exact sm32_eq _ (fun i _ => by rw [hE3.ei (hA2.m hO2 m1' 54 (by decide)) (wr_k (by decide +kernel) i), h1 _ i i54.1 (Or.inl (ne_tk i54.2 i68.2 (by decide)))])
  · subst e6
    exact ⟨fun _ _ => ⟨rfl, hK, hMo⟩, fun k => absurd ((p30 hO m1).mpr k) g⟩
end PEM
