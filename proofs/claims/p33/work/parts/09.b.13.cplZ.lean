section ORD
variable {L : List Nat} {f : TF} {q0 q1 : Nat}
theorem ti_kC {g : TF} {q k b j : Nat} : ti (kC g q k) b j = ti g b j := by
  unfold ti kC va_up
  by_cases h : b = q
  · subst h; simp
  · simp [h]
theorem tr_kC {g : TF} {q k b j : Nat} : tr (kC g q k) b j = tr g b j := by
  unfold tr kC va_up
  by_cases h : b = q
  · subst h; simp
  · simp [h]
theorem tr_sR_eq {g : TF} {a k c : Nat} : tr (sR g a k c) a k = some c := by rw [tr_sR, if_pos ⟨rfl, rfl⟩]
theorem tr_sR_ne {g : TF} {a k c b j : Nat} (h : b ≠ a) : tr (sR g a k c) b j = tr g b j := by rw [tr_sR, if_neg (fun z => h z.1)]
theorem tr_sR_nj {g : TF} {a k c b j : Nat} (h : j ≠ k) : tr (sR g a k c) b j = tr g b j := by rw [tr_sR, if_neg (fun z => h z.2)]
/-- an order's two faces stand as they were -/
theorem one_keep {f' : TF} {a b c d i n : Nat} {am : Nat → Nat} {o : OS} (hi : i < n) (hw : WfO o) (hx : ∀ e z, e ∈ [a, b, c, d] → ti f' e z = ti f e z) (hrx : ∀ z, tr f' a z = tr f a z) (hm : ∀ k, 32 ≤ k → k ≤ 41 → ∀ z, z < wd k * n → ti f' (am k) z = ti f (am k) z) (hrm : ∀ k, 32 ≤ k → k ≤ 41 → tr f' q1 k = tr f q1 k) (h1 : OrdX f a b c d o) (h2 : OrdM f q1 am i o) : OrdX f' a b c d o ∧ OrdM f' q1 am i o := by
  obtain ⟨⟨r1, r2, r3⟩, a1, a2, a3, a4, a5, a6⟩ := h1
  obtain ⟨b1, b2, b3, b4, b5⟩ := h2
  have w1 := hw.1
  have w2 := hw.2.1
  refine ⟨⟨⟨(hrx _).trans r1, (hrx _).trans r2, (hrx _).trans r3⟩, (hx _ _ (by simp)).trans a1, (hx _ _ (by simp)).trans a2, fun j hj => (hx _ _ (by simp)).trans (a3 j hj), fun j hj => (hx _ _ (by simp)).trans (a4 j hj), fun j hj => (hx _ _ (by simp)).trans (a5 j hj), fun k => ⟨(hx _ _ (by simp)).trans (a6 k).1, (hx _ _ (by simp)).trans (a6 k).2⟩⟩, fun k h1 h2 => (hrm k h1 h2).trans (b1 k h1 h2), ⟨(hm 32 (by decide) (by decide) i (by show i < 1 * n; omega)).trans b2.1, fun k hk => ⟨(hm 33 (by decide) (by decide) _ (by show 12 * i + k < 12 * n; omega)).trans (b2.2 k hk).1, (hm 34 (by decide) (by decide) _ (by show 12 * i + k < 12 * n; omega)).trans (b2.2 k hk).2.1, (hm 35 (by decide) (by decide) _ (by show 12 * i + k < 12 * n; omega)).trans (b2.2 k hk).2.2⟩⟩, ⟨(hm 36 (by decide) (by decide) i (by show i < 1 * n; omega)).trans b3.1, fun k hk => ⟨(hm 37 (by decide) (by decide) _ (by show 12 * i + k < 12 * n; omega)).trans (b3.2 k hk).1, (hm 38 (by decide) (by decide) _ (by show 12 * i + k < 12 * n; omega)).trans (b3.2 k hk).2.1, (hm 39 (by decide) (by decide) _ (by show 12 * i + k < 12 * n; omega)).trans (b3.2 k hk).2.2⟩⟩, fun j hj => (hm 40 (by decide) (by decide) _ (by show 9 * i + j < 9 * n; omega)).trans (b4 j hj), fun h => (hm 41 (by decide) (by decide) i (by show i < 1 * n; omega)).trans (b5 h)⟩
/-- one cell more -/
def upN (n q : Nat) (c : Nat → Nat) (i : Nat) : Nat := if i = n + 1 then q else c i
theorem upN_n {n q : Nat} {c : Nat → Nat} : upN n q c (n + 1) = q := if_pos rfl
theorem upN_o {n q i : Nat} {c : Nat → Nat} (h : i ≤ n) : upN n q c i = c i := if_neg (by omega)
theorem nI_nm1 {s : Nat} (hs : s ≤ 400) : ¬ nI s = -1 := by
  intro h
  have := nI_pos (n := s) (by omega)
  rw [h] at this
  exact this (by decide)
theorem pr_order (hO : Ok L f) (m0 : q0 ∈ L ∧ tk f q0 = 0) (m1 : q1 ∈ L ∧ tk f q1 = 27) (hC : CT f q0 q1) (hD : CO f q0 q1) (ht : ti f q0 10 = ti f q1 1) (p_0 : Int32) : wp_WM_order_w L f q0 p_0 (PairG (fun _ f => CT f q0 q1 ∧ CO f q0 q1) q0 q1 (fun L f Q => wp_Md_order_w L f q1 p_0 Q)) := by
  obtain ⟨qT, qB, mB, t1, t2, t3, t4, t5⟩ := id hC
  obtain ⟨n, qx, cO, cF, cH, cS, am, h1, h2, h3, h4, h5, h6, h7, h8, h9⟩ := id hD
  refine ⟨fun c1 _ _ _ => ⟨fun _ _ => ⟨rfl, hC, hD⟩, fun k => absurd c1 k⟩, fun c1 => ⟨fun c2 _ _ _ => ⟨fun k => absurd k c1, fun _ => ⟨fun _ _ => ⟨rfl, hC, hD⟩, fun k => absurd (d500.mp c2) k⟩⟩, fun c2 x4 e4 => ?_⟩⟩
  rw [h2] at e4
  subst e4
  refine ⟨fun c3 => ?_, fun c3 _ _ _ => ⟨fun k => absurd k c1, fun _ => ⟨fun k => absurd (d500.mpr k) c2, fun _ y4 g4 => ?_⟩⟩⟩
  rotate_left
  · rw [show (20 : Int32) = nI 20 from rfl, nI_ltI (by omega) (by omega)] at c3
    rw [h3] at g4
    subst g4
    have : n = 20 := by omega
    subst this
    exact ⟨fun _ _ => ⟨rfl, hC, hD⟩, fun k => absurd rfl k⟩
  rw [show (20 : Int32) = nI 20 from rfl, nI_ltI (by omega) (by omega)] at c3
  intro q6 e6 q7 e7
  rw [t1] at e6; cases e6
  rw [h5] at e7; cases e7
  -- the cells and their sorts
  have iT := hO.rm (j := 5) (k' := 10) (n := false) m0 rfl t1
  have iB := hO.rm (j := 0) (k' := 11) (n := false) iT rfl t2
  have iM := hO.rm (j := 27) (k' := 50) (n := false) m1 rfl t3
  have ix := hO.rm (j := 3) (k' := 8) (n := false) m0 rfl h4
  have iD := hO.rm (j := 12) (k' := 15) (n := false) m0 rfl h5
  have iA := am_m hO m1 h6
  have iO : ∀ i, i ≤ n → cO i ∈ L ∧ tk f (cO i) = 15 := by
    intro i hi
    by_cases e : i = n
    · subst e; exact iD
    · exact hO.rm (j := i) (k' := 15) (n := true) ix (slot_arr (n := 20) rfl (by omega)) (h9 i (by omega)).1
  have iC : ∀ i, i ≤ n → (cF i ∈ L ∧ tk f (cF i) = 16) ∧ (cH i ∈ L ∧ tk f (cH i) = 17) ∧ (cS i ∈ L ∧ tk f (cS i) = 18) := fun i hi => or_m hO (iO i hi) (h7 i hi)
  obtain ⟨iF, iH, iS⟩ := iC n (Nat.le_refl _)
  obtain ⟨rF, rH, rS⟩ := h7 n (Nat.le_refl _)
  have mem4 : ∀ {c a b d e : Nat}, c ∈ [a, b, d, e] → c = a ∨ c = b ∨ c = d ∨ c = e := fun h => by simpa using h
  have hd : Dis qT qB (cO n) (cF n) (cH n) (cS n) := by
    refine ⟨ne_tk iB.2 iT.2 (by decide), fun c hc => ?_, ne_tk iF.2 iD.2 (by decide), ne_tk iH.2 iD.2 (by decide), ne_tk iS.2 iD.2 (by decide), ne_tk iH.2 iF.2 (by decide), ne_tk iS.2 iF.2 (by decide), ne_tk iS.2 iH.2 (by decide)⟩
    rcases mem4 hc with rfl | rfl | rfl | rfl
    · exact ⟨ne_tk iD.2 iT.2 (by decide), ne_tk iD.2 iB.2 (by decide)⟩
    · exact ⟨ne_tk iF.2 iT.2 (by decide), ne_tk iF.2 iB.2 (by decide)⟩
    · exact ⟨ne_tk iH.2 iT.2 (by decide), ne_tk iH.2 iB.2 (by decide)⟩
    · exact ⟨ne_tk iS.2 iT.2 (by decide), ne_tk iS.2 iB.2 (by decide)⟩
  have hdM : DisM q1 mB am := ⟨ne_tk iM.2 m1.2 (by decide), fun k a b => ⟨ne_tk (iA k (by omega) b).2 m1.2 (by omega), ne_tk (iA k (by omega) b).2 iM.2 (by omega)⟩, fun k k' a b a' b' e => by
    have e1 := (iA k (by omega) b).2
    have e2 := (iA k' (by omega) b').2
    rw [e, e2] at e1
    omega⟩
  have n31 : am 30 ≠ q1 := ne_tk (iA 30 (by decide) (by decide)).2 m1.2 (by decide)
  have n31' : am 31 ≠ q1 := ne_tk (iA 31 (by decide) (by decide)).2 m1.2 (by decide)
  -- a cell of a sort that is no tape, no draft
  have nS : ∀ {c kd : Nat}, tk f c = kd → kd ≠ 10 → kd ≠ 15 → kd ≠ 16 → kd ≠ 17 → kd ≠ 18 → c ∉ [qT, cO n, cF n, cH n, cS n] := by
    intro c kd hc g1 g2 g3 g4 g5 hm
    simp only [List.mem_cons, List.not_mem_nil, or_false] at hm
    rcases hm with rfl | rfl | rfl | rfl | rfl
    · exact g1 (hc.symm.trans iT.2)
    · exact g2 (hc.symm.trans iD.2)
    · exact g3 (hc.symm.trans iF.2)
    · exact g4 (hc.symm.trans iH.2)
    · exact g5 (hc.symm.trans iS.2)
  have nO : ∀ i, i < n → ∀ c, c ∈ [cO i, cF i, cH i, cS i] → c ∉ [qT, cO n, cF n, cH n, cS n] := by
    intro i hi c hc hm
    obtain ⟨jF, jH, jS⟩ := iC i (by omega)
    have jO := iO i (by omega)
    obtain ⟨u1, u2, u3, u4⟩ := h8 i n (by omega) (Nat.le_refl _) (by omega)
    simp only [List.mem_cons, List.not_mem_nil, or_false] at hm
    rcases mem4 hc with rfl | rfl | rfl | rfl
    · rcases hm with e | e | e | e | e
      · exact ne_tk jO.2 iT.2 (by decide) e
      · exact u1 e
      · exact ne_tk jO.2 iF.2 (by decide) e
      · exact ne_tk jO.2 iH.2 (by decide) e
      · exact ne_tk jO.2 iS.2 (by decide) e
    · rcases hm with e | e | e | e | e
      · exact ne_tk jF.2 iT.2 (by decide) e
      · exact ne_tk jF.2 iD.2 (by decide) e
      · exact u2 e
      · exact ne_tk jF.2 iH.2 (by decide) e
      · exact ne_tk jF.2 iS.2 (by decide) e
    · rcases hm with e | e | e | e | e
      · exact ne_tk jH.2 iT.2 (by decide) e
      · exact ne_tk jH.2 iD.2 (by decide) e
      · exact ne_tk jH.2 iF.2 (by decide) e
      · exact u3 e
      · exact ne_tk jH.2 iS.2 (by decide) e
    · rcases hm with e | e | e | e | e
      · exact ne_tk jS.2 iT.2 (by decide) e
      · exact ne_tk jS.2 iD.2 (by decide) e
      · exact ne_tk jS.2 iF.2 (by decide) e
      · exact ne_tk jS.2 iH.2 (by decide) e
      · exact u4 e
  have n1 : q1 ∉ [qT, cO n, cF n, cH n, cS n] := nS m1.2 (by decide) (by decide) (by decide) (by decide) (by decide)
  have nM : mB ∉ [qT, cO n, cF n, cH n, cS n] := nS iM.2 (by decide) (by decide) (by decide) (by decide) (by decide)
  have nB : qB ∉ [qT, cO n, cF n, cH n, cS n] := nS iB.2 (by decide) (by decide) (by decide) (by decide) (by decide)
  have n0 : q0 ∉ [qT, cO n, cF n, cH n, cS n] := nS m0.2 (by decide) (by decide) (by decide) (by decide) (by decide)
  have nA : ∀ k, 30 ≤ k → k ≤ 41 → am k ∉ [qT, cO n, cF n, cH n, cS n] := fun k a b => nS (iA k a b).2 (by omega) (by omega) (by omega) (by omega) (by omega)
  -- a cell that is none of the reference's
  have nR : ∀ {c kd : Nat}, tk f c = kd → kd ≠ 27 → (kd < 51 ∨ 62 < kd) → c ≠ q1 ∧ ∀ k, 30 ≤ k → k ≤ 41 → c ≠ am k := fun hc g1 g2 => ⟨ne_tk hc m1.2 g1, fun k a b => ne_tk hc (iA k a b).2 (by omega)⟩
  have hl := hO.i iT (show slotD 10 1 = some (.inl (0, 400)) from rfl)
  obtain ⟨N, hN, eN⟩ := nI_of2 (M := 400) (n := 400) (by decide) hl.1 (Int32.not_lt.mp hl.2)
  refine readInto_x (B := fun j => ti f qB j) (N := N) hd hN ⟨t2, eN, fun j => rfl⟩ rF rH rS (fun r o' f1 hR hw O1 T1 X1 hO1 _ _ f2 hf2 hO2 => ?_)
  have X2 : FX [qT, cO n, cF n, cH n, cS n] f f2 := X1.trans (by rw [hf2]; exact FX.set (by simp))
  have l2 : ti f2 qT 1 = 0 := by rw [hf2, ti_sI_eq]
  have O2 : OrdX f2 (cO n) (cF n) (cH n) (cS n) o' := O1.keep (fun c z hc => by rw [hf2]; exact ti_sI_ne (hd.2.1 c hc).1) (fun c z => by rw [hf2]; exact tr_sI)
  refine ⟨fun g => ?_, fun g => ?_⟩
  rotate_left
  · -- a fault
    intro _ m0' m1'
    refine order_m (i := n) (am := am) (B := fun j => ti f qB j) (N := N) hdM hN c3 ⟨(X2.2 _ _).trans t3, (X2.1 _ _ n1).trans (t4.symm.trans eN), fun j => (X2.1 _ _ nM).trans (t5 j).symm⟩ (fun k a b => (X2.2 _ _).trans (h6 k a b)) ((X2.1 _ _ n1).trans h3) n31 c1 (fun k => c2 (d500.mpr k)) (fun s o'' f6 f7 hs hR' O6 F6 hf7 hO7 _ => ?_) (fun o'' f6 f7 hR' _ _ _ _ _ => absurd (hR.uni hR').1 g)
    have rr := (hR.uni hR').1
    have e7 : ∀ c z, c ≠ q1 → ti f7 c z = ti f6 c z := fun c z h => by rw [hf7]; exact ti_sI_ne h
    have x7 : ∀ c z, tr f7 c z = tr f c z := fun c z => by rw [hf7, tr_sI, F6.2.2.2]; exact X2.2 _ _
    have k7 : ∀ {c kd : Nat} (z : Nat), tk f c = kd → kd ≠ 27 → (kd < 51 ∨ 62 < kd) → ti f7 c z = ti f2 c z := fun z hc g1 g2 => (e7 _ z (nR hc g1 g2).1).trans (F6.1 _ z (nR hc g1 g2).1 (fun k a b => (nR hc g1 g2).2 k (by omega) b))
    have v28 : ti f7 q1 28 = 0 := by rw [hf7, ti_sI_eq]
    have o7 : ∀ i, i < n → ∀ e z, e ∈ [cO i, cF i, cH i, cS i] → ti f7 e z = ti f e z := by
      intro i hi e z he
      have hk : ∃ kd, tk f e = kd ∧ kd ≠ 27 ∧ (kd < 51 ∨ 62 < kd) := by
        obtain ⟨jF, jH, jS⟩ := iC i (by omega)
        rcases mem4 he with rfl | rfl | rfl | rfl
        · exact ⟨15, (iO i (by omega)).2, by decide, by decide⟩
        · exact ⟨16, jF.2, by decide, by decide⟩
        · exact ⟨17, jH.2, by decide, by decide⟩
        · exact ⟨18, jS.2, by decide, by decide⟩
      obtain ⟨kd, g1, g2, g3⟩ := hk
      exact (k7 z g1 g2 g3).trans (X2.1 _ _ (nO i hi e he))
    have a7 : ∀ k, 30 ≤ k → k ≤ 41 → ∀ z, (k < 32 ∨ z < wd k * n) → ti f7 (am k) z = ti f (am k) z := by
      intro k a b z hz
      rw [e7 _ _ (ne_tk (iA k a b).2 m1.2 (by omega))]
      by_cases hk : k < 32
      · rw [F6.1 _ _ (ne_tk (iA k a b).2 m1.2 (by omega)) (fun k' a' b' => ne_tk (iA k a b).2 (iA k' (by omega) b').2 (by omega))]
        exact X2.1 _ _ (nA k a b)
      · rw [F6.2.2.1 k (by omega) b z (by omega)]
        exact X2.1 _ _ (nA k a b)
    refine ⟨by rw [rr], ⟨qT, qB, mB, (x7 _ _).trans t1, (x7 _ _).trans t2, (x7 _ _).trans t3, ?_, fun j => ?_⟩, n, qx, cO, cF, cH, cS, am, h1, ?_, ?_, (x7 _ _).trans h4, (x7 _ _).trans h5, fun k a b => (x7 _ _).trans (h6 k a b), fun i hi => ⟨(x7 _ _).trans (h7 i hi).1, (x7 _ _).trans (h7 i hi).2.1, (x7 _ _).trans (h7 i hi).2.2⟩, h8, fun i hi => ?_⟩
    · rw [v28, k7 1 iT.2 (by decide) (by decide)]; exact l2
    · rw [k7 j iB.2 (by decide) (by decide), k7 j iM.2 (by decide) (by decide), X2.1 _ _ nB, X2.1 _ _ nM]; exact t5 j
    · rw [k7 8 m0.2 (by decide) (by decide), X2.1 _ _ n0]; exact h2
    · rw [hf7, ti_sI_nj (by decide), F6.2.1 29 (by decide), X2.1 _ _ n1]; exact h3
    · obtain ⟨b1, b2, b3, o, b4, b5, b6⟩ := h9 i hi
      obtain ⟨y1, y2⟩ := one_keep (f' := f7) hi b4 (o7 i hi) (fun z => x7 _ z) (fun k a b z hz => a7 k (by omega) b z (Or.inr hz)) (fun k a b => x7 _ _) b5 b6
      exact ⟨(x7 _ _).trans b1, by rw [o7 i hi _ _ (by simp), a7 31 (by decide) (by decide) i (Or.inl (by decide))]; exact b2, by rw [o7 i hi _ _ (by simp), a7 30 (by decide) (by decide) i (Or.inl (by decide))]; exact b3, o, b4, y1, y2⟩
  · -- all lines hold
    intro f3 hf3 _ x8 e8 y9 e9 f4 hf4 _ q16 e16 f5 hf5 _ f6 hf6 _ qn L7 f7 hqn hL7 hf7 _ qa L8 g1 hqa hL8 hg1 _ g2 hg2 _ qb L9 g3 hqb hL9 hg3 _ g4 hg4 _ qc L10 g5 hqc hL10 hg5 _ g6 hg6 _ _ _ f9 hf9 _ f10 hf10 hO10 hO10' m0' m1'
    rw [hf4, tr_sI, hf3, tr_sI, X2.2, h4] at e16; cases e16
    rw [nI_clamp (by omega)] at hf5
    have N0D : q0 ≠ cO n := ne_tk m0.2 iD.2 (by decide)
    rw [hf3, ti_sI_ne N0D, X2.1 _ _ n0] at e8
    subst e8
    have old : ∀ c, c ∈ L → c ≠ qn ∧ c ≠ qa ∧ c ≠ qb ∧ c ≠ qc := by
      intro c hc
      have c7 : c ∈ L7 := by rw [hL7]; exact List.mem_append_left _ hc
      have c8 : c ∈ L8 := by rw [hL8]; exact List.mem_append_left _ c7
      have c9 : c ∈ L9 := by rw [hL9]; exact List.mem_append_left _ c8
      exact ⟨fun e => hqn (e ▸ hc), fun e => hqa (e ▸ c7), fun e => hqb (e ▸ c8), fun e => hqc (e ▸ c9)⟩
    have n7 : qn ∈ L7 := by rw [hL7]; simp
    have n8 : qn ∈ L8 := by rw [hL8]; exact List.mem_append_left _ n7
    have n9 : qn ∈ L9 := by rw [hL9]; exact List.mem_append_left _ n8
    have nqa : qn ≠ qa := fun e => hqa (e ▸ n7)
    have nqb : qn ≠ qb := fun e => hqb (e ▸ n8)
    have nqc : qn ≠ qc := fun e => hqc (e ▸ n9)
    have tiY : ∀ c z, c ∈ L → ti f10 c z = ti f6 c z := fun c z hc => by
      obtain ⟨d1, d2, d3, d4⟩ := old c hc
      rw [hf10, ti_sR, hf9, ti_kC, hg6, ti_sR, hg5, ti_nC d4, hg4, ti_sR, hg3, ti_nC d3, hg2, ti_sR, hg1, ti_nC d2, hf7, ti_nC d1]
    have tiX : ∀ c z, c ∈ L → (c = cO n → z ≠ 0 ∧ z ≠ 1) → (c = q0 → z ≠ 8) → ti f10 c z = ti f2 c z := fun c z hc hz1 hz2 => by
      rw [tiY c z hc, hf6, ti_sI, if_neg (fun h => hz2 h.1 h.2), hf5, ti_sR, hf4, ti_sI, if_neg (fun h => (hz1 h.1).1 h.2), hf3, ti_sI, if_neg (fun h => (hz1 h.1).2 h.2)]
    have trX : ∀ c z, c ∈ L → (c = qx → z ≠ n) → (c = q0 → z ≠ 12) → tr f10 c z = tr f c z := fun c z hc hz1 hz2 => by
      obtain ⟨d1, d2, d3, d4⟩ := old c hc
      rw [hf10, tr_sR, if_neg (fun h => hz2 h.1 h.2), hf9, tr_kC, hg6, tr_sR_ne d1, hg5, tr_nC d4, hg4, tr_sR_ne d1, hg3, tr_nC d3, hg2, tr_sR_ne d1, hg1, tr_nC d2, hf7, tr_nC d1, hf6, tr_sI, hf5, tr_sR, if_neg (fun h => hz1 h.1 h.2), hf4, tr_sI, hf3, tr_sI]
      exact X2.2 _ _
    have kX : ∀ {c kd : Nat} (z : Nat), c ∈ L → tk f c = kd → kd ≠ 15 → kd ≠ 0 → ti f10 c z = ti f2 c z := fun z hc hk a b => tiX _ z hc (fun e => absurd (hk.symm.trans (e ▸ iD.2)) a) (fun e => absurd (hk.symm.trans (e ▸ m0.2)) b)
    have kR : ∀ {c kd : Nat} (z : Nat), c ∈ L → tk f c = kd → kd ≠ 8 → kd ≠ 0 → tr f10 c z = tr f c z := fun z hc hk a b => trX _ z hc (fun e => absurd (hk.symm.trans (e ▸ ix.2)) a) (fun e => absurd (hk.symm.trans (e ▸ m0.2)) b)
    have N0x : q0 ≠ qx := ne_tk m0.2 ix.2 (by decide)
    have v8 : ti f10 q0 8 = nI n + 1 := by rw [tiY _ _ m0.1, hf6, ti_sI_eq]
    have vD1 : ti f10 (cO n) 1 = p_0 := by rw [tiY _ _ iD.1, hf6, ti_sI_ne N0D.symm, hf5, ti_sR, hf4, ti_sI_nj (by decide), hf3, ti_sI_eq]
    have vD0 : ti f10 (cO n) 0 = y9 := by rw [tiY _ _ iD.1, hf6, ti_sI_ne N0D.symm, hf5, ti_sR, hf4, ti_sI_eq]
    have rqx : tr f10 qx n = some (cO n) := by
      obtain ⟨d1, d2, d3, d4⟩ := old qx ix.1
      rw [hf10, tr_sR_ne N0x.symm, hf9, tr_kC, hg6, tr_sR_ne d1, hg5, tr_nC d4, hg4, tr_sR_ne d1, hg3, tr_nC d3, hg2, tr_sR_ne d1, hg1, tr_nC d2, hf7, tr_nC d1, hf6, tr_sI, hf5, tr_sR_eq]
    have Nqn0 : qn ≠ q0 := (old q0 m0.1).1.symm
    have rn2 : tr f10 qn 2 = some qa := by rw [hf10, tr_sR_ne Nqn0, hf9, tr_kC, hg6, tr_sR_nj (by decide), hg5, tr_nC nqc, hg4, tr_sR_nj (by decide), hg3, tr_nC nqb, hg2, tr_sR_eq]
    have rn3 : tr f10 qn 3 = some qb := by rw [hf10, tr_sR_ne Nqn0, hf9, tr_kC, hg6, tr_sR_nj (by decide), hg5, tr_nC nqc, hg4, tr_sR_eq]
    have rn4 : tr f10 qn 4 = some qc := by rw [hf10, tr_sR_ne Nqn0, hf9, tr_kC, hg6, tr_sR_eq]
    have r12 : tr f10 q0 12 = some qn := by rw [hf10, tr_sR_eq]
    refine order_m (i := n) (am := am) (B := fun j => ti f qB j) (N := N) hdM hN c3 ⟨(kR 27 m1.1 m1.2 (by decide) (by decide)).trans t3, ((kX 28 m1.1 m1.2 (by decide) (by decide)).trans (X2.1 _ _ n1)).trans (t4.symm.trans eN), fun j => ((kX j iM.1 iM.2 (by decide) (by decide)).trans (X2.1 _ _ nM)).trans (t5 j).symm⟩ (fun k a b => (kR k m1.1 m1.2 (by decide) (by decide)).trans (h6 k a b)) (((kX 29 m1.1 m1.2 (by decide) (by decide)).trans (X2.1 _ _ n1)).trans h3) n31 c1 (fun k => c2 (d500.mpr k)) (fun s o'' fM fg hs hR' O6 F6 hfg hOg _ => absurd ((hR.uni hR').1.symm.trans g) (nI_nm1 (by omega))) (fun o'' fM fg hR' hw' O6 F6 hfg hOg _ => ?_)
    have hoo := (hR.uni hR').2
    subst hoo
    have e_g : ∀ c z, c ≠ q1 → c ≠ am 30 → c ≠ am 31 → ti fg c z = ti fM c z := fun c z a b d => by rw [hfg, ti_sI_ne a, ti_sI_ne d, ti_sI_ne b, ti_sI_ne a]
    have x_g : ∀ c z, tr fg c z = tr f10 c z := fun c z => by rw [hfg, tr_sI, tr_sI, tr_sI, tr_sI, F6.2.2.2]
    have k_g : ∀ {c kd : Nat} (z : Nat), tk f c = kd → kd ≠ 27 → (kd < 51 ∨ 62 < kd) → ti fg c z = ti f10 c z := fun z hc g1 g2 => (e_g _ z (nR hc g1 g2).1 ((nR hc g1 g2).2 30 (by decide) (by decide)) ((nR hc g1 g2).2 31 (by decide) (by decide))).trans (F6.1 _ z (nR hc g1 g2).1 (fun k a b => (nR hc g1 g2).2 k (by omega) b))
    have nAA : ∀ k k', 30 ≤ k → k ≤ 41 → 30 ≤ k' → k' ≤ 41 → k ≠ k' → am k ≠ am k' := fun k k' a b a' b' h => ne_tk (iA k a b).2 (iA k' a' b').2 (by omega)
    have nA1 : ∀ k, 30 ≤ k → k ≤ 41 → am k ≠ q1 := fun k a b => ne_tk (iA k a b).2 m1.2 (by omega)
    have a_g : ∀ k, 32 ≤ k → k ≤ 41 → ∀ z, ti fg (am k) z = ti fM (am k) z := fun k a b z => e_g _ z (nA1 k (by omega) b) (nAA k 30 (by omega) b (by decide) (by decide) (by omega)) (nAA k 31 (by omega) b (by decide) (by decide) (by omega))
    have a_f : ∀ k, 30 ≤ k → k ≤ 41 → ∀ z, ti f10 (am k) z = ti f (am k) z := fun k a b z => (kX z (iA k a b).1 (iA k a b).2 (by omega) (by omega)).trans (X2.1 _ _ (nA k a b))
    have a_l : ∀ k, 30 ≤ k → k < 32 → ∀ z, z ≠ n → ti fg (am k) z = ti f (am k) z := fun k a b z hz => by
      rw [hfg, ti_sI_ne (nA1 k a (by omega)), ti_sI_nj hz, ti_sI_nj hz, ti_sI_ne (nA1 k a (by omega)), F6.1 _ _ (nA1 k a (by omega)) (fun k' a' b' => nAA k k' a (by omega) (by omega) b' (by omega))]
      exact a_f k a (by omega) z
    have tM : ti fM q1 1 = ti f q1 1 := ((F6.2.1 1 (by decide)).trans (kX 1 m1.1 m1.2 (by decide) (by decide))).trans (X2.1 _ _ n1)
    have v28 : ti fg q1 28 = 0 := by rw [hfg, ti_sI_nj (by decide), ti_sI_ne n31'.symm, ti_sI_ne n31.symm, ti_sI_eq]
    have w30 : ti fg (am 30) n = p_0 := by rw [hfg, ti_sI_ne n31, ti_sI_ne (nAA 30 31 (by decide) (by decide) (by decide) (by decide) (by decide)), ti_sI_eq]
    have w31 : ti fg (am 31) n = ti f q1 1 / 720 := by rw [hfg, ti_sI_ne n31', ti_sI_eq, tM]
    have oK : ∀ i, i < n → ∀ e z, e ∈ [cO i, cF i, cH i, cS i] → ti fg e z = ti f e z := by
      intro i hi e z he
      obtain ⟨jF, jH, jS⟩ := iC i (by omega)
      have jO := iO i (by omega)
      have hno := nO i hi e he
      have hk : e ∈ L ∧ ∃ kd, tk f e = kd ∧ kd ≠ 27 ∧ (kd < 51 ∨ 62 < kd) ∧ kd ≠ 0 := by
        rcases mem4 he with rfl | rfl | rfl | rfl
        · exact ⟨jO.1, 15, jO.2, by decide, by decide, by decide⟩
        · exact ⟨jF.1, 16, jF.2, by decide, by decide, by decide⟩
        · exact ⟨jH.1, 17, jH.2, by decide, by decide, by decide⟩
        · exact ⟨jS.1, 18, jS.2, by decide, by decide, by decide⟩
      obtain ⟨hL, kd, b1, b2, b3, b4⟩ := hk
      rw [k_g z b1 b2 b3, tiX e z hL (fun h => absurd (show e ∈ [qT, cO n, cF n, cH n, cS n] by rw [h]; simp) hno) (fun h => absurd (b1.symm.trans (h ▸ m0.2)) b4)]
      exact X2.1 _ _ hno
    have dK : ∀ {c kd : Nat} (z : Nat), c ∈ L → tk f c = kd → kd ≠ 27 → (kd < 51 ∨ 62 < kd) → (c = cO n → z ≠ 0 ∧ z ≠ 1) → kd ≠ 0 → ti fg c z = ti f2 c z := fun z hc hk a b d e => (k_g z hk a b).trans (tiX _ z hc d (fun h => absurd (hk.symm.trans (h ▸ m0.2)) e))
    have rO : ∀ i, i ≤ n → ∀ z, tr fg (cO i) z = tr f (cO i) z := fun i hi z => (x_g _ _).trans (kR z (iO i hi).1 (iO i hi).2 (by decide) (by decide))
    refine ⟨by rw [nI_1, nI_pred], ⟨qT, qB, mB, ?_, ?_, ?_, ?_, fun j => ?_⟩, n + 1, qx, upN n qn cO, upN n qa cF, upN n qb cH, upN n qc cS, am, by omega, ?_, by rw [hfg, ti_sI_eq, nI_1], ?_, by rw [upN_n, x_g]; exact r12, fun k a b => (x_g _ _).trans ((kR k m1.1 m1.2 (by decide) (by decide)).trans (h6 k a b)), fun i hi => ?_, fun i j hi hj hij => ?_, fun i hi => ?_⟩
    · exact (x_g _ _).trans ((trX _ _ m0.1 (fun e => absurd e N0x) (fun _ => by decide)).trans t1)
    · exact (x_g _ _).trans ((kR 0 iT.1 iT.2 (by decide) (by decide)).trans t2)
    · exact (x_g _ _).trans ((kR 27 m1.1 m1.2 (by decide) (by decide)).trans t3)
    · rw [v28, k_g 1 iT.2 (by decide) (by decide), kX 1 iT.1 iT.2 (by decide) (by decide)]; exact l2
    · rw [k_g j iB.2 (by decide) (by decide), k_g j iM.2 (by decide) (by decide), kX j iB.1 iB.2 (by decide) (by decide), kX j iM.1 iM.2 (by decide) (by decide), X2.1 _ _ nB, X2.1 _ _ nM]; exact t5 j
    · rw [k_g 8 m0.2 (by decide) (by decide), v8, nI_1]
    · exact (x_g _ _).trans ((trX _ _ m0.1 (fun e => absurd e N0x) (fun _ => by decide)).trans h4)
    · by_cases e : i = n + 1
      · subst e
        rw [upN_n, upN_n, upN_n, upN_n]
        exact ⟨(x_g _ _).trans rn2, (x_g _ _).trans rn3, (x_g _ _).trans rn4⟩
      · have hi' : i ≤ n := by omega
        rw [upN_o hi', upN_o hi', upN_o hi', upN_o hi']
        exact ⟨(rO i hi' _).trans (h7 i hi').1, (rO i hi' _).trans (h7 i hi').2.1, (rO i hi' _).trans (h7 i hi').2.2⟩
    · have nw : ∀ j, j ≤ n → cO j ≠ qn ∧ cF j ≠ qa ∧ cH j ≠ qb ∧ cS j ≠ qc := fun j hj => ⟨(old _ (iO j hj).1).1, (old _ (iC j hj).1.1).2.1, (old _ (iC j hj).2.1.1).2.2.1, (old _ (iC j hj).2.2.1).2.2.2⟩
      by_cases e : i = n + 1
      · subst e
        have hj' : j ≤ n := by omega
        rw [upN_n, upN_n, upN_n, upN_n, upN_o hj', upN_o hj', upN_o hj', upN_o hj']
        obtain ⟨u1, u2, u3, u4⟩ := nw j hj'
        exact ⟨u1.symm, u2.symm, u3.symm, u4.symm⟩
      · have hi' : i ≤ n := by omega
        rw [upN_o hi', upN_o hi', upN_o hi', upN_o hi']
        by_cases e' : j = n + 1
        · subst e'
          rw [upN_n, upN_n, upN_n, upN_n]
          exact nw i hi'
        · have hj' : j ≤ n := by omega
          rw [upN_o hj', upN_o hj', upN_o hj', upN_o hj']
          exact h8 i j hi' hj' hij
    · have hi' : i ≤ n := by omega
      rw [upN_o hi', upN_o hi', upN_o hi', upN_o hi']
      by_cases e : i = n
      · subst e
        obtain ⟨-, a1, a2, a3, a4, a5, a6⟩ := O2
        have oz : ∀ z, z ≠ 0 → z ≠ 1 → ti fg (cO i) z = ti f2 (cO i) z := fun z b1 b2 => dK z iD.1 iD.2 (by decide) (by decide) (fun _ => ⟨b1, b2⟩) (by decide)
        have cz : ∀ {c kd : Nat} (z : Nat), c ∈ L → tk f c = kd → kd ≠ 27 → (kd < 51 ∨ 62 < kd) → kd ≠ 15 → kd ≠ 0 → ti fg c z = ti f2 c z := fun z hc hk b1 b2 b3 b4 => dK z hc hk b1 b2 (fun h => absurd (hk.symm.trans (h ▸ iD.2)) b3) b4
        refine ⟨(x_g _ _).trans rqx, ?_, ?_, o', hw, ⟨⟨(rO i hi' _).trans rF, (rO i hi' _).trans rH, (rO i hi' _).trans rS⟩, (oz 5 (by decide) (by decide)).trans a1, (oz 6 (by decide) (by decide)).trans a2, fun j hj => (cz j iF.1 iF.2 (by decide) (by decide) (by decide) (by decide)).trans (a3 j hj), fun j hj => (cz j iH.1 iH.2 (by decide) (by decide) (by decide) (by decide)).trans (a4 j hj), fun j hj => (cz j iS.1 iS.2 (by decide) (by decide) (by decide) (by decide)).trans (a5 j hj), fun k => ⟨(oz 7 (by decide) (by decide)).trans (a6 k).1, (oz 8 (by decide) (by decide)).trans (a6 k).2⟩⟩, O6.keep (fun k z b1 b2 => a_g k b1 b2 z) (fun c z => by rw [hfg, tr_sI, tr_sI, tr_sI, tr_sI])⟩
        · rw [k_g 0 iD.2 (by decide) (by decide), vD0, w31, e9, ht]
        · rw [k_g 1 iD.2 (by decide) (by decide), vD1, w30]
      · have hlt : i < n := by omega
        obtain ⟨b1, b2, b3, o, b4, b5, b6⟩ := h9 i hlt
        obtain ⟨y1, y2⟩ := one_keep (f' := fg) hlt b4 (oK i hlt) (fun z => rO i hi' z) (fun k a b z hz => by rw [a_g k a b, F6.2.2.1 k a b z hz]; exact a_f k (by omega) b z) (fun k a b => (x_g _ _).trans (kR k m1.1 m1.2 (by decide) (by decide))) b5 b6
        exact ⟨(x_g _ _).trans ((trX _ _ ix.1 (fun _ => e) (fun h => absurd h.symm N0x)).trans b1), by rw [oK i hlt _ _ (by simp), a_l 31 (by decide) (by decide) i e]; exact b2, by rw [oK i hlt _ _ (by simp), a_l 30 (by decide) (by decide) i e]; exact b3, o, b4, y1, y2⟩
end ORD
/-- river, clocks, tape, orders -/
def CplA (L : List Nat) (f : TF) (q0 q1 : Nat) : Prop := Cpl L f q0 q1 ∧ CT f q0 q1 ∧ CO f q0 q1
