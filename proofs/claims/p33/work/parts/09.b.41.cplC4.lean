section SNK
variable {L : List Nat} {f : TF} {q0 q1 : Nat} {ad : Nat → Nat} {T : Int32} {N nB nT : Nat}
theorem BT.keep {f' : TF} {bt tp : Nat → Nat} (hB : BT f q0 q1 ad bt tp nB nT) (h0 : ti f' q0 7 = ti f q0 7 ∧ ti f' q0 9 = ti f q0 9) (h1 : ti f' q1 21 = ti f q1 21 ∧ ti f' q1 47 = ti f q1 47) (hr : (∀ z, tr f' (ad 66) z = tr f (ad 66) z) ∧ ∀ z, tr f' (ad 67) z = tr f (ad 67) z) (h26 : ∀ b, nB ≤ b → ti f' (ad 26) b = ti f (ad 26) b) : BT f' q0 q1 ad bt tp nB nT := by
  obtain ⟨⟨a1, a2⟩, ⟨a3, a4, a5, a6⟩, a7, a8, a9, a10, a11⟩ := hB
  exact ⟨⟨a1, a2⟩, ⟨h0.1.trans a3, h1.1.trans a4, h0.2.trans a5, h1.2.trans a6⟩, fun b hb => (hr.1 _).trans (a7 b hb), a8, fun t ht => (hr.2 _).trans (a9 t ht), a10, fun b h h' => (h26 b h).trans (a11 b h h')⟩
/-- boat b sinks on trip t with man m -/
theorem K3.sink {f' : TF} {bt tp : Nat → Nat} {b m t : Nat} (hB : BT f q0 q1 ad bt tp nB nT) (h1 : ∀ b, b < nB → BR f ad T N nT b (bt b)) (h2 : ∀ m, m < 40 → MR f ad T nB nT m) (h3 : ∀ t, t < nT → TR f ad N nB t (tp t)) (hb : b < nB) (hm : m < 40) (ht : t < nT) (e25 : ti f (ad 25) b = nI t) (e48 : ti f (ad 48) t = nI b) (e49 : ti f (ad 49) t = nI m) (e16 : ti f (ad 16) m = nI t)
    (hB' : BT f' q0 q1 ad bt tp nB nT) (ek : ∀ k, k ∈ [17, 22, 23, 24, 48, 49, 50, 51, 52, 53, 54] → ∀ z, ti f' (ad k) z = ti f (ad k) z) (o25 : ∀ z, z ≠ b → ti f' (ad 25) z = ti f (ad 25) z) (v25 : ti f' (ad 25) b = -1) (o26 : ∀ z, z ≠ b → ti f' (ad 26) z = ti f (ad 26) z) (v26 : ti f' (ad 26) b = 1) (o16 : ∀ z, z ≠ m → ti f' (ad 16) z = ti f (ad 16) z) (v16 : ti f' (ad 16) m = -1) (o55 : ∀ z, z ≠ t → ti f' (ad 55) z = ti f (ad 55) z) (v55 : ti f' (ad 55) t = 1)
    (cb : ∀ b' z, b' < nB → b' ≠ b ∨ z ≠ 5 → ti f' (bt b') z = ti f (bt b') z) (cbv : ti f' (bt b) 5 = 1) (cm : ∀ m' z, m' < 40 → m' ≠ m ∨ z ≠ 5 → (z = 5 ∨ z = 6) → ti f' (ad (100 + m')) z = ti f (ad (100 + m')) z) (cmv : ti f' (ad (100 + m)) 5 = T) (ct : ∀ t' z, t' < nT → t' ≠ t ∨ z ≠ 7 → ti f' (tp t') z = ti f (tp t') z) (ctv : ti f' (tp t) 7 = 1) : K3 f' q0 q1 ad T N := by
  have h600 := hB.1.2
  have h20 := hB.1.1
  have tlt : ∀ k, k ∈ [48, 49, 53] → ∀ t, t < nT → ti f' (ad k) t = ti f (ad k) t := fun k hk t _ => ek k (by
    simp only [List.mem_cons, List.not_mem_nil, or_false] at hk ⊢
    omega) t
  refine ⟨bt, tp, nB, nT, hB', fun b' hb' => ?_, fun m' hm' => ?_, fun t' ht' => ?_⟩
  · by_cases e : b' = b
    · subst e
      obtain ⟨c1, c2, c3, c4, ⟨s, hs, c5⟩, -⟩ := h1 b' hb'
      refine ⟨?_, ?_, ?_, ?_, ⟨s, hs, ?_⟩, Or.inl ⟨v25, Or.inl ?_⟩⟩
      · rw [cb b' 0 hb' (Or.inr (by decide)), ek 22 (by decide)]; exact c1
      · rw [cb b' 1 hb' (Or.inr (by decide)), ek 23 (by decide)]; exact c2
      · rw [cb b' 2 hb' (Or.inr (by decide)), ek 24 (by decide)]; exact c3
      · rw [cbv, v26]
      · rw [ek 23 (by decide)]; exact c5
      · rw [cbv]; decide
    · refine (h1 b' hb').up (Nat.le_refl _) (fun k hk => ?_) (fun z => cb b' z hb' (Or.inl e)) tlt (fun m' t' hm' ht' k1 k2 k3 => ?_)
      · simp only [List.mem_cons, List.not_mem_nil, or_false] at hk
        rcases hk with rfl | rfl | rfl | rfl | rfl
        · exact ek 22 (by decide) b'
        · exact ek 23 (by decide) b'
        · exact ek 24 (by decide) b'
        · exact o25 b' e
        · exact o26 b' e
      · rw [o16 m' ?_]
        · exact k3
        · rintro rfl
          rw [e16, nI_eq (by omega) (by omega)] at k3
          subst k3
          obtain ⟨-, -, -, -, -, z⟩ := h1 b' hb'
          rcases z with ⟨z1, -⟩ | ⟨t2, y1, y2, -, -, -, -, y7, -⟩
          · rw [z1] at k1; exact absurd k1.symm (m1_nI (by omega))
          · rw [k1, nI_eq (by omega) (by omega)] at y2
            subst y2
            rw [e48, nI_eq (by omega) (by omega)] at y7
            exact e y7.symm
  · by_cases e : m' = m
    · subst e
      refine ⟨?_, Or.inl ⟨v16, ?_⟩⟩
      · rw [cm m' 6 hm' (Or.inr (by decide)) (Or.inr rfl), ek 17 (by decide)]; exact (h2 m' hm').1
      · rw [cmv, Int32.le_iff_toInt_le]; omega
    · refine (h2 m' hm').up (Nat.le_refl _) (Nat.le_refl _) (fun k hk => ?_) ⟨cm m' 5 hm' (Or.inl e) (Or.inl rfl), cm m' 6 hm' (Or.inl e) (Or.inr rfl)⟩ tlt (fun b' t' hb' ht' k1 k2 k3 => ?_)
      · simp only [List.mem_cons, List.not_mem_nil, or_false] at hk
        rcases hk with rfl | rfl
        · exact o16 m' e
        · exact ek 17 (by decide) m'
      · rw [o25 b' ?_]
        · exact k3
        · rintro rfl
          rw [e25, nI_eq (by omega) (by omega)] at k3
          subst k3
          rcases (h2 m' hm').2 with ⟨z1, -⟩ | ⟨t2, y1, y2, -, -, y5, -⟩
          · rw [z1] at k1; exact absurd k1.symm (m1_nI (by omega))
          · rw [k1, nI_eq (by omega) (by omega)] at y2
            subst y2
            rw [e49, nI_eq (by omega) (by omega)] at y5
            exact e y5.symm
  · by_cases e : t' = t
    · subst e
      obtain ⟨a1, a2, a3, a4, a5, a6, a7, a8, ⟨b0, hb0, a9⟩, a54, s, s', s1, s2, s3, s4, s5⟩ := h3 t' ht'
      refine ⟨?_, ?_, ?_, ?_, ?_, ?_, ?_, ?_, ⟨b0, hb0, ?_⟩, by rw [ek 54 (by decide)]; exact a54, s, s', s1, s2, s3, ?_, ?_⟩
      · rw [ct t' 0 ht' (Or.inr (by decide)), ek 48 (by decide)]; exact a1
      · rw [ct t' 1 ht' (Or.inr (by decide)), ek 49 (by decide)]; exact a2
      · rw [ct t' 2 ht' (Or.inr (by decide)), ek 52 (by decide)]; exact a3
      · rw [ct t' 3 ht' (Or.inr (by decide)), ek 54 (by decide)]; exact a4
      · rw [ct t' 4 ht' (Or.inr (by decide)), ek 50 (by decide)]; exact a5
      · rw [ct t' 5 ht' (Or.inr (by decide)), ek 51 (by decide)]; exact a6
      · rw [ct t' 6 ht' (Or.inr (by decide)), ek 53 (by decide)]; exact a7
      · rw [ctv, v55]
      · rw [ek 48 (by decide)]; exact a9
      · rw [ek 50 (by decide)]; exact s4
      · rw [ek 51 (by decide)]; exact s5
    · refine (h3 t' ht').up (Nat.le_refl _) (fun z => ct t' z ht' (Or.inl e)) (fun k hk => ?_)
      simp only [List.mem_cons, List.not_mem_nil, or_false] at hk
      rcases hk with rfl | rfl | rfl | rfl | rfl | rfl | rfl | rfl
      · exact ek 48 (by decide) t'
      · exact ek 49 (by decide) t'
      · exact ek 50 (by decide) t'
      · exact ek 51 (by decide) t'
      · exact ek 52 (by decide) t'
      · exact ek 53 (by decide) t'
      · exact ek 54 (by decide) t'
      · exact o55 t' e
set_option maxHeartbeats 4000000 in
theorem pr_sink (hO : Ok L f) (m0 : q0 ∈ L ∧ tk f q0 = 0) (m1 : q1 ∈ L ∧ tk f q1 = 27) (hA : Ad f q0 q1 ad) {D : Int} (hK1 : K1 f ad D) (hK3 : K3 f q0 q1 ad (ti f q1 1) N) (hK4 : K4 f q1 ad) (hT : ti f q0 10 = ti f q1 1) (p_0 p_1 p_2 : Int32) : wp_WM_sink_w L f q0 p_0 p_1 p_2 (PairG (fun _ g => K1 g ad D ∧ K3 g q0 q1 ad (ti f q1 1) N ∧ K4 g q1 ad) q0 q1 (fun L f Q => wp_Md_sink_w L f q1 p_0 p_1 p_2 Q)) := by
  have im := hA.m hO m1
  have r := hA.2.2.2
  generalize hTT : ti f q1 1 = T at *
  obtain ⟨bt, tp, nB, nT, hB, h1, h2, h3⟩ := id hK3
  have h20 := hB.1.1
  have h600 := hB.1.2
  have hKK : K1 f ad D ∧ K3 f q0 q1 ad T N ∧ K4 f q1 ad := ⟨hK1, hK3, hK4⟩
  have hbad : ((p_0 < 0 ∨ nI nB - 1 < p_0) ∨ p_1 < 1 ∨ 10000 < p_1 ∨ p_2 < 0 ∨ 9999 < p_2) → PairG (fun _ g => K1 g ad D ∧ K3 g q0 q1 ad T N ∧ K4 g q1 ad) q0 q1 (fun L f Q => wp_Md_sink_w L f q1 p_0 p_1 p_2 Q) (-1) L f := by
    intro h _ _ _
    refine isB_m hB (fun _ => ⟨fun _ _ => ⟨rfl, hKK⟩, fun z => absurd z (by decide)⟩) (fun b hb hp => ⟨fun z => absurd z (by decide), fun _ => ⟨fun _ _ => ⟨rfl, hKK⟩, fun g1 => ⟨fun _ _ => ⟨rfl, hKK⟩, fun g2 => ⟨fun _ _ => ⟨rfl, hKK⟩, fun g3 => ⟨fun _ _ => ⟨rfl, hKK⟩, fun g4 => ?_⟩⟩⟩⟩⟩)
    rcases h with h | h | h | h | h
    · exact absurd (hp ▸ h) (nb_no hb (by omega))
    · exact absurd h g1
    · exact absurd h g2
    · exact absurd h g3
    · exact absurd h g4
  refine boatAt_x hA hB (fun h => ⟨fun _ => hbad (Or.inl h), fun q z => (by cases z)⟩) (fun b hb hp => ⟨fun z => (by cases z), fun q eq => ⟨fun z => hbad (Or.inr (Or.inl z)), fun c1 => ⟨fun z => hbad (Or.inr (Or.inr (Or.inl z))), fun c2 => ⟨fun z => hbad (Or.inr (Or.inr (Or.inr (Or.inl z)))), fun c3 => ⟨fun z => hbad (Or.inr (Or.inr (Or.inr (Or.inr z)))), fun c4 x7 e7 => ?_⟩⟩⟩⟩⟩)
  cases eq
  subst hp
  subst e7
  have hBR := h1 b hb
  have hM0 : ∀ (L1 : List Nat) (g : TF) (Q2 : Int32 → List Nat → TF → Prop), ti g q1 21 = nI nB → (∀ q_9 : Nat, tr g q1 25 = some q_9 → ∀ x_10 : Int32, ti g q_9 ((nI b) : Int32).toNatClampNeg = x_10 → ((0 ≤ x_10 → ∀ x_12 : Int32, ti g q1 60 = x_12 → ((x_12 = 30 → Q2 (-3) L1 g) ∧ (¬ (x_12 = 30) → ∀ q_15 : Nat, tr g q1 55 = some q_15 → ∀ f_1 : TF, f_1 = sI g q_15 (x_10 : Int32).toNatClampNeg (vp_nar .boolean 1) → Ok L1 f_1 → ∀ q_17 : Nat, tr f_1 q1 26 = some q_17 → ∀ f_2 : TF, f_2 = sI f_1 q_17 ((nI b) : Int32).toNatClampNeg (vp_nar .boolean 1) → Ok L1 f_2 → ∀ f_3 : TF, f_3 = sI f_2 q_9 ((nI b) : Int32).toNatClampNeg (-1) → Ok L1 f_3 → ∀ q_20 : Nat, tr f_3 q1 9 = some q_20 → ∀ q_21 : Nat, tr f_3 q1 49 = some q_21 → ∀ x_22 : Int32, ti f_3 q_21 (x_10 : Int32).toNatClampNeg = x_22 → ∀ f_4 : TF, f_4 = sI f_3 q_20 (x_22 : Int32).toNatClampNeg 3 → Ok L1 f_4 → ∀ q_24 : Nat, tr f_4 q1 16 = some q_24 → ∀ f_5 : TF, f_5 = sI f_4 q_24 (x_22 : Int32).toNatClampNeg (-1) → Ok L1 f_5 → wp_Md_newPensioner_w L1 f_5 q1 p_1 p_2 (fun (r_27 : Int32) (L_6 : List Nat) (f_6 : TF) => Ok L_6 f_6 → Ext W_Md_newPensioner_w L1 f_5 L_6 f_6 → Q2 r_27 L_6 f_6)))) ∧ (¬ (0 ≤ x_10) → Q2 (-2) L1 g))) → wp_Md_sink_w L1 g q1 (nI b) p_1 p_2 Q2 := by
    intro L1 g Q2 hg hgo x1 e1
    rw [hg] at e1
    subst e1
    have hno := nb_no hb (show nB ≤ 600 by omega)
    exact ⟨fun z => absurd (Or.inl z) hno, fun _ => ⟨fun z => absurd (Or.inr z) hno, fun _ => ⟨fun z => absurd z (by decide), fun _ => ⟨fun z => absurd z c1, fun _ => ⟨fun z => absurd z c2, fun _ => ⟨fun z => absurd z c3, fun _ => ⟨fun z => absurd z c4, fun _ => hgo⟩⟩⟩⟩⟩⟩⟩
  have hnot : ¬ 0 ≤ ti f (ad 25) b → PairG (fun _ g => K1 g ad D ∧ K3 g q0 q1 ad T N ∧ K4 g q1 ad) q0 q1 (fun L f Q => wp_Md_sink_w L f q1 (nI b) p_1 p_2 Q) (-2) L f := by
    intro h _ _ _
    refine hM0 L f _ hB.2.1.2.1 (fun q9 e9 x10 e10 => ?_)
    rw [r 25 (by decide)] at e9; cases e9
    rw [nI_clamp (by omega)] at e10
    subst e10
    exact ⟨fun z => absurd z h, fun _ _ => ⟨rfl, hKK⟩⟩
  have hsk : ¬ ti f (ad 26) b = 0 → ¬ 0 ≤ ti f (ad 25) b := by
    intro k z
    rcases hBR.2.2.2.2.2 with ⟨b1, -⟩ | ⟨t, ht, b1, b2, -⟩
    · rw [b1] at z; exact absurd z (by decide)
    · rw [hBR.2.2.2.1] at b2; exact k b2
  refine manAt_x hA (fun hn => ⟨fun _ x9 e9 => ?_, fun q z => (by cases z)⟩) (fun m hm hp => ⟨fun z => (by cases z), fun q eq x12 e12 => ?_⟩)
  · rw [hT] at e9
    subst e9
    have hno : ¬ 0 ≤ ti f (ad 25) b := by
      intro z
      rcases hBR.2.2.2.2.2 with ⟨b1, -⟩ | ⟨t, ht, b1, b2, b3, b4, b5, b6, m, hm, b7, -⟩
      · rw [b1] at z; exact absurd z (by decide)
      · exact hn (by rw [b7]; exact isM_nI hm)
    exact state_x hBR h600 (fun _ => ⟨fun _ => hnot hno, fun _ => hnot hno⟩) (fun _ _ => ⟨fun _ => hnot hno, fun _ => hnot hno⟩) (fun _ _ => ⟨fun _ => hnot hno, fun _ => hnot hno⟩)
  cases eq
  rw [hT] at e12
  subst e12
  refine state_x hBR h600 (fun k => ⟨fun z => absurd z (by decide), fun _ => hnot (hsk k)⟩) (fun ksk k25 => ⟨fun _ q15 e15 x16 e16 => ?_, fun z => absurd rfl z⟩) (fun _ k => ⟨fun z => absurd z (by decide), fun _ => hnot k⟩)
  rw [hA.1.2.2.2.2] at e15; cases e15
  have hK4' : ti f (ad 68) 6 = ti f q1 60 := hK4
  rw [hK4'] at e16
  subst e16
  -- boat, trip and man
  obtain ⟨t, ht, y25, y5, yT, y4, y53, y48, y49, y16⟩ : ∃ t, t < nT ∧ ti f (ad 25) b = nI t ∧ ti f (bt b) 5 = 0 ∧ T < ti f (bt b) 2 ∧ ti f (bt b) 4 = nI t ∧ ti f (ad 53) t = ti f (bt b) 2 ∧ ti f (ad 48) t = nI b ∧ ti f (ad 49) t = nI m ∧ ti f (ad 16) m = nI t := by
    rcases hBR.2.2.2.2.2 with ⟨b1, -⟩ | ⟨t, ht, b1, b2, b3, b4, b5, b6, m', hm', b7, b8, b9⟩
    · rw [b1] at k25; exact absurd k25 (by decide)
    · have : m' = m := by
        rw [b7, nI_eq (by omega) (by omega)] at hp
        exact hp
      subst this
      exact ⟨t, ht, b1, b2, b3, b4, b5, b6, b8, b9⟩
  refine ⟨fun g30 f1 hf1 _ f2 hf2 _ f3 hf3 hO3 x21 e21 => ?_, fun g30 _ _ _ => ?_⟩
  rotate_left
  · refine hM0 L f _ hB.2.1.2.1 (fun q9 e9 x10 e10 => ?_)
    rw [r 25 (by decide)] at e9; cases e9
    rw [nI_clamp (by omega)] at e10
    subst e10
    refine ⟨fun _ x12 e12 => ?_, fun z => absurd k25 z⟩
    subst e12
    exact ⟨fun _ _ => ⟨rfl, hKK⟩, fun z => absurd ((p30 hO m1).mpr z) g30⟩
  have ib := hB.bm hA hO m0 hb
  have iM := hA.man hO m0 hm
  have it := hB.tm hA hO m0 ht
  have nbM : bt b ≠ ad (100 + m) := ne_tk ib.2 iM.2 (by decide)
  have x21e : x21 = nI t := by rw [← e21, hf3, ti_sI_ne nbM, hf2, ti_sI_ne nbM, hf1, ti_sI_nj (by decide)]; exact y4
  subst x21e
  have r3 : ∀ c z, tr f3 c z = tr f c z := fun c z => by rw [hf3, tr_sI, hf2, tr_sI, hf1, tr_sI]
  have k3' : ∀ c, tk f3 c = tk f c := fun c => by rw [hf3, tk_sI, hf2, tk_sI, hf1, tk_sI]
  have o3 : ∀ c z, c ≠ bt b → c ≠ ad (100 + m) → ti f3 c z = ti f c z := fun c z d1 d2 => by rw [hf3, ti_sI_ne d2, hf2, ti_sI_ne d2, hf1, ti_sI_ne d1]
  have hA3 : Ad f3 q0 q1 ad := hA.same (fun z => r3 _ z) (fun z => r3 _ z) (fun z => r3 _ z)
  have kk0 : ∀ c k, tk f c = k → k ≠ 24 → k ≠ 20 → ∀ z, ti f3 c z = ti f c z := fun c k hk d1 d2 z => o3 c z (ne_tk hk ib.2 d1) (ne_tk hk iM.2 d2)
  have hB3 : BT f3 q0 q1 ad bt tp nB nT := hB.keep ⟨kk0 _ _ m0.2 (by decide) (by decide) _, kk0 _ _ m0.2 (by decide) (by decide) _⟩ ⟨kk0 _ _ m1.2 (by decide) (by decide) _, kk0 _ _ m1.2 (by decide) (by decide) _⟩ ⟨fun z => r3 _ z, fun z => r3 _ z⟩ (fun b' _ => kk0 _ _ (im 26 (by decide)).2 (by decide) (by decide) _)
  refine tripAt_x hA3 hB3 (fun h => absurd h (nb_no ht h600)) (fun t' ht' hp' => ⟨fun z => (by cases z), fun q eq f4 hf4 hO4 => ?_⟩)
  cases eq
  have : t' = t := by
    rw [nI_eq (by omega) (by omega)] at hp'
    exact hp'.symm
  subst this
  have r4 : ∀ c z, tr f4 c z = tr f c z := fun c z => by rw [hf4, tr_sI]; exact r3 c z
  have k4 : ∀ c, tk f4 c = tk f c := fun c => by rw [hf4, tk_sI]; exact k3' c
  have hA4 : Ad f4 q0 q1 ad := hA.same (fun z => r4 _ z) (fun z => r4 _ z) (fun z => r4 _ z)
  have m04 : q0 ∈ L ∧ tk f4 q0 = 0 := ⟨m0.1, (k4 q0).trans m0.2⟩
  have kk4 : ∀ c k, tk f c = k → k ≠ 24 → k ≠ 20 → k ≠ 25 → ∀ z, ti f4 c z = ti f c z := fun c k hk d1 d2 d3 z => by rw [hf4, ti_sI_ne (ne_tk hk it.2 d3)]; exact kk0 c k hk d1 d2 z
  have i68 := hA.box hO m0
  refine take_x hA4 hO4 m04 (fun L5 f5 h5 h5r h5n h5k => ?_)
  have e68 : ti f4 (ad 68) 6 = ti f q1 60 := (kk4 _ _ i68.2 (by decide) (by decide) (by decide) 6).trans hK4'
  rw [e68] at h5n ⊢
  intro hO5 _ _ m0' m1'
  -- over f5
  have q5 : ∀ c k, c ∈ L → tk f c = k → k ≠ 24 → k ≠ 20 → k ≠ 25 → k ≠ 12 → ∀ z, ti f5 c z = ti f c z := fun c k hc hk d1 d2 d3 d4 z => by
    rw [h5 c z hc (Or.inl (ne_tk hk i68.2 d4))]; exact kk4 c k hk d1 d2 d3 z
  have eR : ∀ k, k ∈ RK → ∀ z, ti f5 (ad k) z = ti f (ad k) z := fun k hk z => q5 _ _ (im k hk).1 (im k hk).2 (by have := RK_kd hk; omega) (by have := RK_kd hk; omega) (by have := RK_kd hk; omega) (by have := RK_kd hk; omega) z
  have e1 : ∀ z, ti f5 q1 z = ti f q1 z := q5 _ _ m1.1 m1.2 (by decide) (by decide) (by decide) (by decide)
  have r5 : ∀ c z, c ∈ L → tk f c ≠ 14 → tr f5 c z = tr f c z := fun c z hc hk => (h5r c z hc (by rw [k4]; exact hk)).trans (r4 c z)
  have r51 : ∀ z, tr f5 q1 z = tr f q1 z := fun z => r5 q1 z m1.1 (by rw [m1.2]; decide)
  have ne : ∀ k k', k ∈ RK → k' ∈ RK → kd k ≠ kd k' → ad k ≠ ad k' := fun k k' hk hk' h => ne_tk (im k hk).2 (im k' hk').2 h
  have neq : ∀ k, k ∈ RK → q1 ≠ ad k := fun k hk => ne_tk m1.2 (im k hk).2 (by have := RK_kd hk; omega)
  have hnar : vp_nar .boolean 1 = 1 := by decide
  refine hM0 L5 f5 _ ((e1 21).trans hB.2.1.2.1) (fun q9 e9 x10 e10 => ?_)
  rw [r51, r 25 (by decide)] at e9; cases e9
  rw [nI_clamp (by omega), eR 25 (by decide), y25] at e10
  subst e10
  rw [nI_clamp (by omega), nI_clamp (by omega)]
  refine ⟨fun _ x12 e12 => ?_, fun z => absurd (le0.mpr (nI_pos (by omega))) z⟩
  rw [e1] at e12
  subst e12
  refine ⟨fun z => absurd z ((p30 hO m1).mp g30), fun _ qa ea w1 hw1 _ qb eb w2 hw2 _ w3 hw3 _ qc ec qd ed x22 e22 => ?_⟩
  rw [r51, r 55 (by decide)] at ea; cases ea
  rw [hw1, tr_sI, r51, r 26 (by decide)] at eb; cases eb
  rw [hw3, tr_sI, hw2, tr_sI, hw1, tr_sI, r51, r 9 (by decide)] at ec; cases ec
  rw [hw3, tr_sI, hw2, tr_sI, hw1, tr_sI, r51, r 49 (by decide)] at ed; cases ed
  rw [hw3, ti_sI_ne (ne 49 25 (by decide) (by decide) (by decide)), hw2, ti_sI_ne (ne 49 26 (by decide) (by decide) (by decide)), hw1, ti_sI_ne (ne 49 55 (by decide) (by decide) (by decide)), eR 49 (by decide), y49] at e22
  subst e22
  rw [nI_clamp (by omega)]
  rw [hnar] at hw1 hw2
  intro w4 hw4 _ qe ee w5 hw5 hO5w
  rw [hw4, tr_sI, hw3, tr_sI, hw2, tr_sI, hw1, tr_sI, r51, r 16 (by decide)] at ee; cases ee
  have kw : ∀ c, tk w5 c = tk f5 c := fun c => by rw [hw5, tk_sI, hw4, tk_sI, hw3, tk_sI, hw2, tk_sI, hw1, tk_sI]
  have rw' : ∀ c z, tr w5 c z = tr f5 c z := fun c z => by rw [hw5, tr_sI, hw4, tr_sI, hw3, tr_sI, hw2, tr_sI, hw1, tr_sI]
  refine newP_m hO5w ⟨m1'.1, (kw q1).trans m1'.2⟩ (fun w6 g6 g6r g6n => ?_)
  have ow : ∀ c z, c ≠ ad 16 → c ≠ ad 9 → c ≠ ad 25 → c ≠ ad 26 → c ≠ ad 55 → ti w5 c z = ti f5 c z := fun c z d1 d2 d3 d4 d5 => by rw [hw5, ti_sI_ne d1, hw4, ti_sI_ne d2, hw3, ti_sI_ne d3, hw2, ti_sI_ne d4, hw1, ti_sI_ne d5]
  have k5 : ∀ c, c ∈ L → tk w5 c = tk f c := fun c hc => (kw c).trans ((h5k c hc).trans (k4 c))
  -- at the end: rows of the reference, cells of the program
  have fR : ∀ k, k ∈ RK → ∀ z, ti w6 (ad k) z = ti w5 (ad k) z := fun k hk z => g6 _ z (by rw [k5 _ (im k hk).1, (im k hk).2]; unfold RK at hk; simp only [List.mem_cons, List.not_mem_nil, or_false] at hk; unfold kd; split <;> (try split) <;> omega) (by rw [k5 _ (im k hk).1, (im k hk).2]; unfold RK at hk; simp only [List.mem_cons, List.not_mem_nil, or_false] at hk; unfold kd; split <;> (try split) <;> omega) (Or.inl (neq k hk).symm)
  have fP : ∀ c k, c ∈ L → tk f c = k → k ≤ 25 → ∀ z, ti w6 c z = ti f5 c z := fun c k hc hk hle z => by
    have dk : ∀ k', k' ∈ RK → c ≠ ad k' := fun k' hk' => ne_tk hk (im k' hk').2 (by have := RK_kd hk'; omega)
    rw [g6 c z (by rw [k5 c hc, hk]; omega) (by rw [k5 c hc, hk]; omega) (Or.inl (ne_tk hk m1.2 (by omega)))]
    exact ow c z (dk 16 (by decide)) (dk 9 (by decide)) (dk 25 (by decide)) (dk 26 (by decide)) (dk 55 (by decide))
  have fP4 : ∀ c k, c ∈ L → tk f c = k → k ≤ 25 → k ≠ 12 → ∀ z, ti w6 c z = ti f4 c z := fun c k hc hk hle h12 z => (fP c k hc hk hle z).trans (h5 c z hc (Or.inl (ne_tk hk i68.2 h12)))
  have fr : ∀ c z, c ∈ L → tk f c ≠ 14 → tr w6 c z = tr f c z := fun c z hc hk => (g6r c z).trans ((rw' c z).trans (r5 c z hc hk))
  have w60 : ti w5 q1 60 = ti f q1 60 := (ow q1 60 (neq 16 (by decide)) (neq 9 (by decide)) (neq 25 (by decide)) (neq 26 (by decide)) (neq 55 (by decide))).trans (e1 60)
  have w1z : ∀ z, z ≠ 60 → ti w6 q1 z = ti f q1 z := fun z hz => by
    rw [g6 q1 z (by rw [k5 q1 m1.1, m1.2]; decide) (by rw [k5 q1 m1.1, m1.2]; decide) (Or.inr hz), ow q1 z (neq 16 (by decide)) (neq 9 (by decide)) (neq 25 (by decide)) (neq 26 (by decide)) (neq 55 (by decide))]; exact e1 z
  have oR : ∀ k, k ∈ RK → k ∉ [16, 9, 25, 26, 55] → ∀ z, ti w6 (ad k) z = ti f (ad k) z := fun k hk hno z => by
    have dk : ∀ k', k' ∈ RK → k ≠ k' → ad k ≠ ad k' := fun k' hk' hne => ne k k' hk hk' (by
      intro e
      unfold RK at hk hk'
      unfold kd at e
      simp only [List.mem_cons, List.not_mem_nil, or_false] at hk hk'
      repeat' split at e
      all_goals omega)
    simp only [List.mem_cons, List.not_mem_nil, or_false, not_or] at hno
    rw [fR k hk, ow _ z (dk 16 (by decide) hno.1) (dk 9 (by decide) hno.2.1) (dk 25 (by decide) hno.2.2.1) (dk 26 (by decide) hno.2.2.2.1) (dk 55 (by decide) hno.2.2.2.2)]
    exact eR k hk z
  have v55 : ∀ z, ti w6 (ad 55) z = if z = t' then 1 else ti f (ad 55) z := fun z => by
    rw [fR 55 (by decide), hw5, ti_sI_ne (ne 55 16 (by decide) (by decide) (by decide)), hw4, ti_sI_ne (ne 55 9 (by decide) (by decide) (by decide)), hw3, ti_sI_ne (ne 55 25 (by decide) (by decide) (by decide)), hw2, ti_sI_ne (ne 55 26 (by decide) (by decide) (by decide)), hw1, ti_sI]
    by_cases e : z = t'
    · rw [if_pos ⟨rfl, e⟩, if_pos e]
    · rw [if_neg (fun h => e h.2), if_neg e]; exact eR 55 (by decide) z
  have v26 : ∀ z, ti w6 (ad 26) z = if z = b then 1 else ti f (ad 26) z := fun z => by
    rw [fR 26 (by decide), hw5, ti_sI_ne (ne 26 16 (by decide) (by decide) (by decide)), hw4, ti_sI_ne (ne 26 9 (by decide) (by decide) (by decide)), hw3, ti_sI_ne (ne 26 25 (by decide) (by decide) (by decide)), hw2, ti_sI]
    by_cases e : z = b
    · rw [if_pos ⟨rfl, e⟩, if_pos e]
    · rw [if_neg (fun h => e h.2), if_neg e, hw1, ti_sI_ne (ne 26 55 (by decide) (by decide) (by decide))]; exact eR 26 (by decide) z
  have v25 : ∀ z, ti w6 (ad 25) z = if z = b then -1 else ti f (ad 25) z := fun z => by
    rw [fR 25 (by decide), hw5, ti_sI_ne (ne 25 16 (by decide) (by decide) (by decide)), hw4, ti_sI_ne (ne 25 9 (by decide) (by decide) (by decide)), hw3, ti_sI]
    by_cases e : z = b
    · rw [if_pos ⟨rfl, e⟩, if_pos e]
    · rw [if_neg (fun h => e h.2), if_neg e, hw2, ti_sI_ne (ne 25 26 (by decide) (by decide) (by decide)), hw1, ti_sI_ne (ne 25 55 (by decide) (by decide) (by decide))]; exact eR 25 (by decide) z
  have v9 : ∀ z, ti w6 (ad 9) z = if z = m then 3 else ti f (ad 9) z := fun z => by
    rw [fR 9 (by decide), hw5, ti_sI_ne (ne 9 16 (by decide) (by decide) (by decide)), hw4, ti_sI]
    by_cases e : z = m
    · rw [if_pos ⟨rfl, e⟩, if_pos e]
    · rw [if_neg (fun h => e h.2), if_neg e, hw3, ti_sI_ne (ne 9 25 (by decide) (by decide) (by decide)), hw2, ti_sI_ne (ne 9 26 (by decide) (by decide) (by decide)), hw1, ti_sI_ne (ne 9 55 (by decide) (by decide) (by decide))]; exact eR 9 (by decide) z
  have v16 : ∀ z, ti w6 (ad 16) z = if z = m then -1 else ti f (ad 16) z := fun z => by
    rw [fR 16 (by decide), hw5, ti_sI]
    by_cases e : z = m
    · rw [if_pos ⟨rfl, e⟩, if_pos e]
    · rw [if_neg (fun h => e h.2), if_neg e, hw4, ti_sI_ne (ne 16 9 (by decide) (by decide) (by decide)), hw3, ti_sI_ne (ne 16 25 (by decide) (by decide) (by decide)), hw2, ti_sI_ne (ne 16 26 (by decide) (by decide) (by decide)), hw1, ti_sI_ne (ne 16 55 (by decide) (by decide) (by decide))]; exact eR 16 (by decide) z
  -- men, boats, trips of the program
  have pM : ∀ m' z, m' < 40 → m' ≠ m ∨ (z ≠ 0 ∧ z ≠ 5) → ti w6 (ad (100 + m')) z = ti f (ad (100 + m')) z := fun m' z hm' h => by
    have iM' := hA.man hO m0 hm'
    rw [fP4 _ 20 iM'.1 iM'.2 (by decide) (by decide) z, hf4, ti_sI_ne (ne_tk iM'.2 it.2 (by decide)), hf3, ti_sI, hf2, ti_sI, hf1, ti_sI_ne (ne_tk iM'.2 ib.2 (by decide))]
    rcases h with h | ⟨h, h'⟩
    · have hMM : ad (100 + m') ≠ ad (100 + m) := fun e => h (hA.2.2.1 m' m hm' hm e)
      rw [if_neg (fun k => hMM k.1), if_neg (fun k => hMM k.1)]
    · rw [if_neg (fun k => h' k.2), if_neg (fun k => h k.2)]
  have pM0 : ti w6 (ad (100 + m)) 0 = 3 := by rw [fP4 _ 20 iM.1 iM.2 (by decide) (by decide), hf4, ti_sI_ne (ne_tk iM.2 it.2 (by decide)), hf3, ti_sI_nj (by decide), hf2, ti_sI_eq]
  have pM5 : ti w6 (ad (100 + m)) 5 = T := by rw [fP4 _ 20 iM.1 iM.2 (by decide) (by decide), hf4, ti_sI_ne (ne_tk iM.2 it.2 (by decide)), hf3, ti_sI_eq]
  have pB : ∀ b' z, b' < nB → b' ≠ b ∨ z ≠ 5 → ti w6 (bt b') z = ti f (bt b') z := fun b' z hb' h => by
    have ib' := hB.bm hA hO m0 hb'
    rw [fP4 _ 24 ib'.1 ib'.2 (by decide) (by decide) z, hf4, ti_sI_ne (ne_tk ib'.2 it.2 (by decide)), hf3, ti_sI_ne (ne_tk ib'.2 iM.2 (by decide)), hf2, ti_sI_ne (ne_tk ib'.2 iM.2 (by decide)), hf1, ti_sI, if_neg (fun k => h.elim (fun y => y (hB.2.2.2.1 b' b hb' hb k.1)) (fun y => y k.2))]
  have pB5 : ti w6 (bt b) 5 = 1 := by rw [fP4 _ 24 ib.1 ib.2 (by decide) (by decide), hf4, ti_sI_ne (ne_tk ib.2 it.2 (by decide)), hf3, ti_sI_ne nbM, hf2, ti_sI_ne nbM, hf1, ti_sI_eq]
  have pT : ∀ t2 z, t2 < nT → t2 ≠ t' ∨ z ≠ 7 → ti w6 (tp t2) z = ti f (tp t2) z := fun t2 z ht2 h => by
    have it2 := hB.tm hA hO m0 ht2
    rw [fP4 _ 25 it2.1 it2.2 (by decide) (by decide) z, hf4, ti_sI, if_neg (fun k => h.elim (fun y => y (hB.2.2.2.2.2.1 t2 t' ht2 ht' k.1)) (fun y => y k.2))]
    exact kk0 _ _ it2.2 (by decide) (by decide) z
  have pT7 : ti w6 (tp t') 7 = 1 := by rw [fP4 _ 25 it.1 it.2 (by decide) (by decide), hf4, ti_sI_eq]
  have p0z : ∀ z, ti w6 q0 z = ti f q0 z := fun z => by rw [fP4 _ 0 m0.1 m0.2 (by decide) (by decide) z]; exact kk4 _ _ m0.2 (by decide) (by decide) (by decide) z
  have i66 := hA.boats hO m0
  have i67 := hA.trips hO m0
  intro _ _ _
  refine ⟨by rw [w60], ?_, ?_, ?_⟩
  · refine hK1.upd hA hO m0 hm (v := 3) (by decide) pM0 (by rw [v9, if_pos rfl]) (fun m' hm' hne => ⟨pM m' 0 hm' (Or.inl hne), by rw [v9, if_neg hne], oR 10 (by decide) (by decide) _, oR 11 (by decide) (by decide) _, oR 12 (by decide) (by decide) _, oR 13 (by decide) (by decide), oR 14 (by decide) (by decide)⟩) (fun c z hc hk => fr c z hc (by omega)) (fun c k hc hk hkk z => ?_)
    have hk3 : k = 21 ∨ k = 22 ∨ k = 23 := by simpa using hkk
    rw [fP4 c k hc hk (by omega) (by omega) z]
    exact kk4 c k hk (by omega) (by omega) (by omega) z
  · refine K3.sink (b := b) (m := m) (t := t') hB h1 h2 h3 hb hm ht' y25 y48 y49 y16 (hB.keep ⟨p0z 7, p0z 9⟩ ⟨w1z 21 (by decide), w1z 47 (by decide)⟩ ⟨fun z => fr _ z i66.1 (by rw [i66.2]; decide), fun z => fr _ z i67.1 (by rw [i67.2]; decide)⟩ (fun b' hb' => by rw [v26, if_neg (by omega)])) (fun k hk z => oR k ?_ ?_ z) (fun z hz => by rw [v25, if_neg hz]) (by rw [v25, if_pos rfl]) (fun z hz => by rw [v26, if_neg hz]) (by rw [v26, if_pos rfl]) (fun z hz => by rw [v16, if_neg hz]) (by rw [v16, if_pos rfl]) (fun z hz => by rw [v55, if_neg hz]) (by rw [v55, if_pos rfl]) pB pB5 (fun m' z hm' h hz => pM m' z hm' (h.elim Or.inl (fun h => Or.inr ⟨by omega, h⟩))) pM5 pT pT7
    · unfold RK
      simp only [List.mem_cons, List.not_mem_nil, or_false] at hk ⊢
      omega
    · simp only [List.mem_cons, List.not_mem_nil, or_false] at hk ⊢
      omega
  · show ti w6 (ad 68) 6 = ti w6 q1 60
    rw [fP _ 12 i68.1 i68.2 (by decide), h5n, g6n, w60]
end SNK
