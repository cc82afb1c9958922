section ARR
variable {L : List Nat} {f : TF} {q0 q1 : Nat} {ad : Nat → Nat} {T T' : Int32} {N nB nT : Nat}
theorem le_tr {a b c : Int32} (h1 : a ≤ b) (h2 : b ≤ c) : a ≤ c := by
  rw [Int32.le_iff_toInt_le] at *
  omega
/-- man m's way while the boats ahead of i have been looked at -/
def MRi (f : TF) (ad : Nat → Nat) (T T' : Int32) (nB nT i m : Nat) : Prop := ti f (ad (100 + m)) 6 = ti f (ad 17) m ∧ ((ti f (ad 16) m = -1 ∧ ti f (ad (100 + m)) 5 ≤ T') ∨ ∃ t, t < nT ∧ ti f (ad 16) m = nI t ∧ T < ti f (ad (100 + m)) 5 ∧ ti f (ad 53) t = ti f (ad (100 + m)) 5 ∧ ti f (ad 49) t = nI m ∧ ∃ b, b < nB ∧ ti f (ad 48) t = nI b ∧ ti f (ad 25) b = nI t ∧ (b < i → T' < ti f (ad (100 + m)) 5))
theorem arrive_m {Q : List Nat → TF → Prop} (hA : Ad f q0 q1 ad) (hO : Ok L f) (m0 : q0 ∈ L ∧ tk f q0 = 0) (m1 : q1 ∈ L ∧ tk f q1 = 27) (hK : K3 f q0 q1 ad T N) (hT : ti f q1 1 = T') (hle : T ≤ T') (hq : ∀ f' : TF, K3 f' q0 q1 ad T' N → Q L f') : wp_Md_arrive_w L f q1 Q := by
  obtain ⟨bt, tp, nB, nT, hB, h1, h2, h3⟩ := hK
  have im := hA.m hO m1
  have r := hA.2.2.2
  have h20 := hB.1.1
  have h600 := hB.1.2
  have n2516 : ad 25 ≠ ad 16 := ne_tk (im 25 (by decide)).2 (im 16 (by decide)).2 (by decide)
  have ne : ∀ k k', k ∈ RK → k' ∈ RK → kd k ≠ kd k' → ad k ≠ ad k' := fun k k' hk hk' h => ne_tk (im k hk).2 (im k' hk').2 h
  -- what a step leaves
  have hstep : ∀ (rc : Int32 → List Nat → TF → Prop) (i : Nat) (g : TF), i ≤ nB → (∀ c z, c ≠ ad 25 → c ≠ ad 16 → ti g c z = ti f c z) → (∀ c z, tr g c z = tr f c z) → (∀ b, b < nB → b < i → BR g ad T' N nT b (bt b)) → (∀ b, b < nB → i ≤ b → BR g ad T N nT b (bt b)) → (∀ m, m < 40 → MRi g ad T T' nB nT i m) → (∀ g' : TF, i < nB → (∀ c z, c ≠ ad 25 → c ≠ ad 16 → ti g' c z = ti f c z) → (∀ c z, tr g' c z = tr f c z) → (∀ b, b < nB → b < i + 1 → BR g' ad T' N nT b (bt b)) → (∀ b, b < nB → i + 1 ≤ b → BR g' ad T N nT b (bt b)) → (∀ m, m < 40 → MRi g' ad T T' nB nT (i + 1) m) → rc (nI (i + 1)) L g') → wpB_Md_arrive_w_2_1 L f q1 Q rc (nI i) L g := by
    intro rc i g hi gi gr b1 b2 mi hrec _ _ x2 e2
    have nq : ∀ k, k ∈ RK → q1 ≠ ad k := fun k hk => ne_tk m1.2 (im k hk).2 (by
      have := kd_ge k
      unfold kd
      unfold RK at hk
      simp only [List.mem_cons, List.not_mem_nil, or_false] at hk
      repeat' split
      all_goals omega)
    rw [gi _ _ (nq 25 (by decide)) (nq 16 (by decide)), hB.2.1.2.1] at e2
    subst e2
    rw [nI_1]
    have nm : ∀ m, m < 40 → ∀ z, ti g (ad (100 + m)) z = ti f (ad (100 + m)) z := fun m hm z => gi _ _ (ne_tk (hA.man hO m0 hm).2 (im 25 (by decide)).2 (by decide)) (ne_tk (hA.man hO m0 hm).2 (im 16 (by decide)).2 (by decide))
    refine ⟨fun e => ?_, fun e q4 e4 x5 e5 => ?_⟩
    · rw [nI_leI (by omega) (by omega)] at e
      have hin : i = nB := by omega
      subst hin
      refine hq g ⟨bt, tp, i, nT, ?_, fun b hb => b1 b hb hb, fun m hm => ?_, fun t ht => ?_⟩
      · obtain ⟨⟨a1, a2⟩, ⟨a3, a4, a5, a6⟩, a7, a8, a9, a10, a11⟩ := hB
        have n0 : ∀ k, k ∈ RK → q0 ≠ ad k := fun k hk => ne_tk m0.2 (im k hk).2 (by have := kd_ge k; omega)
        refine ⟨⟨a1, a2⟩, ⟨?_, ?_, ?_, ?_⟩, fun b hb => (gr _ _).trans (a7 b hb), a8, fun t ht => (gr _ _).trans (a9 t ht), a10, fun b h h' => ?_⟩
        · rw [gi _ _ (n0 25 (by decide)) (n0 16 (by decide))]; exact a3
        · rw [gi _ _ (nq 25 (by decide)) (nq 16 (by decide))]; exact a4
        · rw [gi _ _ (n0 25 (by decide)) (n0 16 (by decide))]; exact a5
        · rw [gi _ _ (nq 25 (by decide)) (nq 16 (by decide))]; exact a6
        · rw [gi _ _ (ne 26 25 (by decide) (by decide) (by decide)) (ne 26 16 (by decide) (by decide) (by decide))]; exact a11 b h h'
      · obtain ⟨c1, c2⟩ := mi m hm
        refine ⟨c1, ?_⟩
        rcases c2 with c2 | ⟨t, d1, d2, d3, d4, d5, b, d6, d7, d8, d9⟩
        · exact Or.inl c2
        · exact Or.inr ⟨t, d1, d2, d9 d6, d4, d5, b, d6, d7, d8⟩
      · have it := hB.tm hA hO m0 ht
        refine (h3 t ht).up (Nat.le_refl _) (fun z => gi _ _ (ne_tk it.2 (im 25 (by decide)).2 (by decide)) (ne_tk it.2 (im 16 (by decide)).2 (by decide))) (fun k hk => gi _ _ (ne k 25 ?_ (by decide) ?_) (ne k 16 ?_ (by decide) ?_))
        all_goals (simp only [List.mem_cons, List.not_mem_nil, or_false] at hk)
        · rcases hk with rfl | rfl | rfl | rfl | rfl | rfl | rfl | rfl <;> decide
        · rcases hk with rfl | rfl | rfl | rfl | rfl | rfl | rfl | rfl <;> decide
        · rcases hk with rfl | rfl | rfl | rfl | rfl | rfl | rfl | rfl <;> decide
        · rcases hk with rfl | rfl | rfl | rfl | rfl | rfl | rfl | rfl <;> decide
    · rw [nI_leI (by omega) (by omega)] at e
      have hin : i < nB := by omega
      rw [gr, r 25 (by decide)] at e4; cases e4
      rw [nI_clamp (by omega)] at e5
      have hbi := b2 i hin (Nat.le_refl _)
      obtain ⟨a1, a2, a3, a4, a5, a6⟩ := id hbi
      -- the boat stays as it is, and is fit for T'
      have hkeep : BR g ad T' N nT i (bt i) → (∀ t, t < nT → ti g (ad 25) i = nI t → T' < ti g (ad 53) t) → rc (nI (i + 1)) L g := by
        intro hb' ht'
        refine hrec g hin gi gr (fun b hb hlt => ?_) (fun b hb hge => b2 b hb (by omega)) (fun m hm => ?_)
        · by_cases eb : b = i
          · subst eb; exact hb'
          · exact b1 b hb (by omega)
        · obtain ⟨c1, c2⟩ := mi m hm
          refine ⟨c1, ?_⟩
          rcases c2 with c2 | ⟨t, d1, d2, d3, d4, d5, b, d6, d7, d8, d9⟩
          · exact Or.inl c2
          · refine Or.inr ⟨t, d1, d2, d3, d4, d5, b, d6, d7, d8, fun hlt => ?_⟩
            by_cases eb : b = i
            · subst eb; rw [← d4]; exact ht' t d1 d8
            · exact d9 (by omega)
      refine ⟨fun hneg => ?_, fun hpos q7 e7 x8 e8 x9 e9 => ?_⟩
      · rcases a6 with ⟨c1, c2⟩ | ⟨t, c1, c2, -⟩
        · refine hkeep ⟨a1, a2, a3, a4, a5, Or.inl ⟨c1, c2.elim Or.inl (fun z => Or.inr (le_tr z hle))⟩⟩ (fun t ht et => ?_)
          rw [c1] at et
          exact absurd et.symm (m1_nI (by omega))
        · rw [e5] at c2
          subst c2
          exact absurd hneg (nI_pos (by omega))
      · rcases a6 with ⟨c1, c2⟩ | ⟨t, c1, c2, c3, c4, c5, c6, c7, m, hm, c8, c9, c10⟩
        · rw [e5] at c1
          subst c1
          exact absurd (by decide) hpos
        rw [e5] at c2
        subst c2
        rw [gr, r 53 (by decide)] at e7; cases e7
        rw [nI_clamp (by omega)] at e8
        rw [gi _ _ (nq 25 (by decide)) (nq 16 (by decide)), hT] at e9
        subst e8 e9
        have tinj : ∀ t', t' < nT → ti g (ad 25) i = nI t' → t' = t := fun t' ht' et => by
          rw [e5, nI_eq (by omega) (by omega)] at et
          exact et.symm
        refine ⟨fun hle8 g2 hg2 _ q12 e12 q13 e13 x14 e14 g3 hg3 _ => ?_, fun hgt => ?_⟩
        · rw [nI_clamp (by omega)] at hg2
          rw [hg2, tr_sI, gr, r 16 (by decide)] at e12; cases e12
          rw [hg2, tr_sI, gr, r 49 (by decide)] at e13; cases e13
          rw [nI_clamp (by omega), hg2, ti_sI_ne (ne 49 25 (by decide) (by decide) (by decide)), c9] at e14
          subst e14
          rw [nI_clamp (by omega)] at hg3
          have o3 : ∀ c z, c ≠ ad 25 → c ≠ ad 16 → ti g3 c z = ti g c z := fun c z k1 k2 => by rw [hg3, ti_sI_ne k2, hg2, ti_sI_ne k1]
          have o25 : ∀ z, z ≠ i → ti g3 (ad 25) z = ti g (ad 25) z := fun z hz => by rw [hg3, ti_sI_ne n2516, hg2, ti_sI_nj hz]
          have o16 : ∀ z, z ≠ m → ti g3 (ad 16) z = ti g (ad 16) z := fun z hz => by rw [hg3, ti_sI_nj hz, hg2, ti_sI_ne n2516.symm]
          have v25 : ti g3 (ad 25) i = -1 := by rw [hg3, ti_sI_ne n2516, hg2, ti_sI_eq]
          have v16 : ti g3 (ad 16) m = -1 := by rw [hg3, ti_sI_eq]
          have oR : ∀ k, k ∈ RK → kd k ≠ 48 → kd k ≠ 40 → ∀ z, ti g3 (ad k) z = ti g (ad k) z := fun k hk k1 k2 z => o3 _ _ (ne k 25 hk (by decide) k1) (ne k 16 hk (by decide) k2)
          have oc : ∀ b, b < nB → ∀ z, ti g3 (bt b) z = ti g (bt b) z := fun b hb z => o3 _ _ (ne_tk (hB.bm hA hO m0 hb).2 (im 25 (by decide)).2 (by decide)) (ne_tk (hB.bm hA hO m0 hb).2 (im 16 (by decide)).2 (by decide))
          have om : ∀ m', m' < 40 → ∀ z, ti g3 (ad (100 + m')) z = ti g (ad (100 + m')) z := fun m' hm' z => o3 _ _ (ne_tk (hA.man hO m0 hm').2 (im 25 (by decide)).2 (by decide)) (ne_tk (hA.man hO m0 hm').2 (im 16 (by decide)).2 (by decide))
          have hoth : ∀ (b : Nat) (S : Int32), b < nB → b ≠ i → BR g ad S N nT b (bt b) → BR g3 ad S N nT b (bt b) := by
            intro b S hb hbi' hbr
            refine hbr.up (Nat.le_refl _) (fun k hk => ?_) (oc b hb) (fun k hk t' _ => ?_) (fun m' t' hm' ht' k1 k2 k3 => ?_)
            · simp only [List.mem_cons, List.not_mem_nil, or_false] at hk
              rcases hk with rfl | rfl | rfl | rfl | rfl
              · exact oR 22 (by decide) (by decide) (by decide) b
              · exact oR 23 (by decide) (by decide) (by decide) b
              · exact oR 24 (by decide) (by decide) (by decide) b
              · exact o25 b hbi'
              · exact oR 26 (by decide) (by decide) (by decide) b
            · simp only [List.mem_cons, List.not_mem_nil, or_false] at hk
              rcases hk with rfl | rfl | rfl
              · exact oR 48 (by decide) (by decide) (by decide) t'
              · exact oR 49 (by decide) (by decide) (by decide) t'
              · exact oR 53 (by decide) (by decide) (by decide) t'
            · rw [o16 m' ?_]; exact k3
              rintro rfl
              rw [c10, nI_eq (by omega) (by omega)] at k3
              subst k3
              obtain ⟨-, -, -, -, -, z⟩ := hbr
              rcases z with ⟨z1, -⟩ | ⟨t2, y1, y2, -, -, -, -, y7, -⟩
              · rw [z1] at k1; exact absurd k1.symm (m1_nI (by omega))
              · rw [k1, nI_eq (by omega) (by omega)] at y2
                subst y2
                rw [c7, nI_eq (by omega) (by omega)] at y7
                exact hbi' y7.symm
          refine hrec g3 hin (fun c z k1 k2 => (o3 c z k1 k2).trans (gi c z k1 k2)) (fun c z => by rw [hg3, tr_sI, hg2, tr_sI]; exact gr c z) (fun b hb hlt => ?_) (fun b hb hge => hoth b T hb (by omega) (b2 b hb (by omega))) (fun m' hm' => ?_)
          · by_cases eb : b = i
            · subst eb
              obtain ⟨s, hs, es⟩ := a5
              refine ⟨?_, ?_, ?_, ?_, ⟨s, hs, ?_⟩, Or.inl ⟨v25, Or.inr ?_⟩⟩
              · rw [oc b hin, oR 22 (by decide) (by decide) (by decide)]; exact a1
              · rw [oc b hin, oR 23 (by decide) (by decide) (by decide)]; exact a2
              · rw [oc b hin, oR 24 (by decide) (by decide) (by decide)]; exact a3
              · rw [oc b hin, oR 26 (by decide) (by decide) (by decide)]; exact a4
              · rw [oR 23 (by decide) (by decide) (by decide)]; exact es
              · rw [oc b hin, ← c6]; exact hle8
            · exact hoth b T' hb eb (b1 b hb (by omega))
          · obtain ⟨d1, d2⟩ := mi m' hm'
            refine ⟨by rw [om m' hm', oR 17 (by decide) (by decide) (by decide)]; exact d1, ?_⟩
            by_cases em : m' = m
            · subst em
              refine Or.inl ⟨v16, ?_⟩
              rw [om m' hm']
              rcases d2 with ⟨d2, -⟩ | ⟨t2, y1, y2, y3, y4, -⟩
              · rw [c10] at d2; exact absurd d2 (m1_nI (by omega))
              · rw [c10, nI_eq (by omega) (by omega)] at y2
                subst y2
                rw [← y4]; exact hle8
            · rw [o16 m' em, om m' hm']
              rcases d2 with d2 | ⟨t2, y1, y2, y3, y4, y5, b, y6, y7, y8, y9⟩
              · exact Or.inl d2
              · have hbi' : b ≠ i := by
                  rintro rfl
                  have := tinj t2 y1 y8
                  subst this
                  rw [c9, nI_eq (by omega) (by omega)] at y5
                  exact em y5.symm
                refine Or.inr ⟨t2, y1, y2, y3, ?_, ?_, b, y6, ?_, ?_, fun hlt => y9 (by omega)⟩
                · rw [oR 53 (by decide) (by decide) (by decide)]; exact y4
                · rw [oR 49 (by decide) (by decide) (by decide)]; exact y5
                · rw [oR 48 (by decide) (by decide) (by decide)]; exact y7
                · rw [o25 b hbi']; exact y8
        · have hgt' : T' < ti g (ad 53) t := lt32.mp hgt
          refine hkeep ⟨a1, a2, a3, a4, a5, Or.inr ⟨t, c1, e5, c3, ?_, c5, c6, c7, m, hm, c8, c9, c10⟩⟩ (fun t' ht' et => ?_)
          · rw [← c6]; exact hgt'
          · rw [tinj t' ht' et]; exact hgt'
  have hloop : ∀ (n i : Nat) (g : TF), i ≤ nB → (∀ c z, c ≠ ad 25 → c ≠ ad 16 → ti g c z = ti f c z) → (∀ c z, tr g c z = tr f c z) → (∀ b, b < nB → b < i → BR g ad T' N nT b (bt b)) → (∀ b, b < nB → i ≤ b → BR g ad T N nT b (bt b)) → (∀ m, m < 40 → MRi g ad T T' nB nT i m) → wpL_Md_arrive_w_2_1 L f q1 Q n (nI i) L g := by
    intro n
    induction n with
    | zero => intro i g c1 c2 c3 c4 c5 c6; exact hstep (fun _ _ _ => True) i g c1 c2 c3 c4 c5 c6 (fun _ _ _ _ _ _ _ => trivial)
    | succ n ih => intro i g c1 c2 c3 c4 c5 c6; exact hstep _ i g c1 c2 c3 c4 c5 c6 (fun g' d1 d2 d3 d4 d5 d6 => ih _ g' (by omega) d2 d3 d4 d5 d6)
  refine hloop _ 0 f (Nat.zero_le _) (fun _ _ _ _ => rfl) (fun _ _ => rfl) (fun b _ h => absurd h (by omega)) (fun b hb _ => h1 b hb) (fun m hm => ?_)
  obtain ⟨d1, d2⟩ := h2 m hm
  refine ⟨d1, ?_⟩
  rcases d2 with ⟨d2, d3⟩ | ⟨t, y1, y2, y3, y4, y5, b, y6, y7, y8⟩
  · exact Or.inl ⟨d2, le_tr d3 hle⟩
  · exact Or.inr ⟨t, y1, y2, y3, y4, y5, b, y6, y7, y8, fun h => absurd h (by omega)⟩
end ARR
