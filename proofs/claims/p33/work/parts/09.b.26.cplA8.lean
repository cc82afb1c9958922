section LVS
variable {L : List Nat} {f : TF} {q0 q1 : Nat} {ad : Nat → Nat} {N : Nat} {ql : Nat → List Nat}
def upQ (ql : Nat → List Nat) (s : Nat) (l : List Nat) (i : Nat) : List Nat := if i = s then l else ql i
theorem upQ_y {s : Nat} {l : List Nat} : upQ ql s l s = l := if_pos rfl
theorem upQ_n {s i : Nat} {l : List Nat} (h : i ≠ s) : upQ ql s l i = ql i := if_neg h
/-- no cell but these two rows changes -/
def FQ (a b : Nat) (f f' : TF) : Prop := (∀ c z, c ≠ a → c ≠ b → ti f' c z = ti f c z) ∧ (∀ c z, tr f' c z = tr f c z) ∧ ∀ c, tk f' c = tk f c
theorem leaves_m {m : Nat} {Q : List Nat → TF → Prop} (hA : Ad f q0 q1 ad) (hO : Ok L f) (m1 : q1 ∈ L ∧ tk f q1 = 27) (hT : TM f ad ql) (hb : ∀ s, s < 12 → ∀ x, x ∈ ql s → x < 40) (hu : ∀ s s', s < 12 → s' < 12 → m ∈ ql s → m ∈ ql s' → s = s') (hi : ∀ s k k', s < 12 → k < (ql s).length → k' < (ql s).length → (ql s).getD k 0 = (ql s).getD k' 0 → k = k') (hN : ti f q1 2 = nI N) (hN2 : N ≤ 12) (hm : m < 40) (h0 : (∀ s, s < N → m ∉ ql s) → Q L f)
    (h1 : ∀ s k f', s < N → k < (ql s).length → (ql s).getD k 0 = m → TM f' ad (upQ ql s ((ql s).eraseIdx k)) → FQ (ad 19) (ad 20) f f' → Q L f') : wp_Md_leaves_w L f q1 (nI m) Q := by
  intro qT eT qS eS
  rw [hA.2.2.2 20 (by decide)] at eT; cases eT
  rw [hA.2.2.2 19 (by decide)] at eS; cases eS
  refine rowOf_m hA hT hb hN hN2 hm (fun h => ⟨fun _ => h0 h, fun k => absurd rfl k⟩) (fun s hs hx => ⟨fun e => absurd e (m1_nI (by omega)), fun _ => ?_⟩)
  refine placeOf_m hA hT hb hN hN2 hm (fun h => absurd hx (h s hs)) (fun s' k hs' hk hk2 => ?_)
  have e := hu s' s (by omega) (by omega) (mem_getD.mpr ⟨k, hk, hk2⟩) hx
  subst e
  obtain ⟨t1, t2, t3⟩ := hT s' (by omega)
  refine ⟨fun e => absurd e (m1_nI (by omega)), fun _ x12 e12 f1 hf1 hO1 => ?_⟩
  rw [nI_clamp (by omega), t2] at e12
  subst e12
  have im := hA.m hO m1
  have k19 : tk f (ad 19) = 43 := (im 19 (by decide)).2
  have k20 : tk f (ad 20) = 44 := (im 20 (by decide)).2
  have n12 : ad 19 ≠ ad 20 := ne_tk k19 k20 (by decide)
  have hpos : 0 < (ql s').length := by omega
  have hl1 : nI (ql s').length - 1 = nI ((ql s').length - 1) := by
    have : (ql s').length = ((ql s').length - 1) + 1 := by omega
    rw [this, nI_pred]; rfl
  rw [nI_clamp (by omega), hl1] at hf1
  -- the moving up
  have hstep : ∀ (rc : Int32 → List Nat → TF → Prop) (v : Nat) (g : TF), k ≤ v → v < (ql s').length → (∀ c z, c ≠ ad 20 → ti g c z = ti f1 c z) → (∀ c z, tr g c z = tr f1 c z) → (∀ c, tk g c = tk f1 c) → (∀ z, ti g (ad 20) z = if 40 * s' + k ≤ z ∧ z < 40 * s' + v then ti f (ad 20) (z + 1) else ti f (ad 20) z) → (∀ g' : TF, v + 1 < (ql s').length → (∀ c z, c ≠ ad 20 → ti g' c z = ti f1 c z) → (∀ c z, tr g' c z = tr f1 c z) → (∀ c, tk g' c = tk f1 c) → (∀ z, ti g' (ad 20) z = if 40 * s' + k ≤ z ∧ z < 40 * s' + (v + 1) then ti f (ad 20) (z + 1) else ti f (ad 20) z) → rc (nI (v + 1)) L g') → wpB_Md_leaves_w_30_14 L f q1 (nI m) (ad 20) (ad 19) (nI s') (nI k) (nI (ql s').length) f1 Q rc (nI v) L g := by
    intro rc v g hkv hv g1 g2 gk g3 hrec _ _
    rw [hl1, nI_1]
    refine ⟨fun e => ?_, fun e x17 e17 f3 hf3 _ => ?_⟩
    · rw [nI_leI (by omega) (by omega)] at e
      have hv' : v = (ql s').length - 1 := by omega
      subst hv'
      refine h1 s' k g hs' hk hk2 (fun s hs => ?_) ⟨fun c z c1 c2 => ?_, fun c z => ?_, fun c => ?_⟩
      · by_cases es : s = s'
        · subst es
          rw [upQ_y]
          have hle : ((ql s).eraseIdx k).length = (ql s).length - 1 := by rw [List.length_eraseIdx, if_pos hk]
          refine ⟨by omega, ?_, fun i hi => ?_⟩
          · rw [g1 _ _ n12, hf1, ti_sI_eq, hle]
          · rw [hle] at hi
            rw [g3, getD_erase]
            by_cases hik : i < k
            · rw [if_neg (by omega), if_pos hik]; exact t3 i (by omega)
            · rw [if_pos ⟨by omega, by omega⟩, if_neg hik, show 40 * s + i + 1 = 40 * s + (i + 1) by omega]; exact t3 (i + 1) (by omega)
        · rw [upQ_n es]
          obtain ⟨u1, u2, u3⟩ := hT s hs
          refine ⟨u1, ?_, fun i hi => ?_⟩
          · rw [g1 _ _ n12, hf1, ti_sI_nj es]; exact u2
          · rw [g3, if_neg ?_]
            · exact u3 i hi
            · rintro ⟨w1, w2⟩
              rcases Nat.lt_or_gt_of_ne es with h | h <;> omega
      · rw [g1 _ _ c2, hf1, ti_sI_ne c1]
      · rw [g2, hf1, tr_sI]
      · rw [gk, hf1, tk_sI]
    · rw [nI_leI (by omega) (by omega)] at e
      rw [ix40n, nI_1, nI_clamp (by omega)] at e17
      rw [ix40n, nI_clamp (by omega)] at hf3
      subst e17
      refine hrec f3 (by omega) (fun c z hc => ?_) (fun c z => ?_) (fun c => ?_) (fun z => ?_)
      · rw [hf3, ti_sI_ne hc]; exact g1 c z hc
      · rw [hf3, tr_sI]; exact g2 c z
      · rw [hf3, tk_sI]; exact gk c
      · rw [hf3, ti_sI]
        by_cases ez : z = 40 * s' + v
        · rw [if_pos ⟨rfl, ez⟩, if_pos ⟨by omega, by omega⟩, g3, if_neg (by omega), ez]
        · rw [if_neg (fun h => ez h.2), g3]
          by_cases hz : 40 * s' + k ≤ z ∧ z < 40 * s' + v
          · rw [if_pos hz, if_pos ⟨hz.1, by omega⟩]
          · rw [if_neg hz, if_neg (fun h => hz ⟨h.1, by omega⟩)]
  have hloop : ∀ (n v : Nat) (g : TF), k ≤ v → v < (ql s').length → (∀ c z, c ≠ ad 20 → ti g c z = ti f1 c z) → (∀ c z, tr g c z = tr f1 c z) → (∀ c, tk g c = tk f1 c) → (∀ z, ti g (ad 20) z = if 40 * s' + k ≤ z ∧ z < 40 * s' + v then ti f (ad 20) (z + 1) else ti f (ad 20) z) → wpL_Md_leaves_w_30_14 L f q1 (nI m) (ad 20) (ad 19) (nI s') (nI k) (nI (ql s').length) f1 Q n (nI v) L g := by
    intro n
    induction n with
    | zero => intro v g c1 c2 c3 c4 c5 c6; exact hstep (fun _ _ _ => True) v g c1 c2 c3 c4 c5 c6 (fun _ _ _ _ _ _ => trivial)
    | succ n ih => intro v g c1 c2 c3 c4 c5 c6; exact hstep _ v g c1 c2 c3 c4 c5 c6 (fun g' d1 d2 d3 d4 d5 => ih _ g' (by omega) d1 d2 d3 d4 d5)
  exact hloop _ k f1 (Nat.le_refl _) hk (fun _ _ _ => rfl) (fun _ _ => rfl) (fun _ => rfl) (fun z => by rw [if_neg (by omega), hf1, ti_sI_ne n12.symm])
/-- the turns of both sides; N stairs, at most j joins -/
def K2 (f : TF) (q0 : Nat) (ad : Nat → Nat) (N j : Nat) : Prop := ∃ (ql : Nat → List Nat) (J : Nat), J ≤ j ∧ ti f q0 11 = nI J ∧ TX f ad ql ∧ TM f ad ql ∧ (∀ s, s < 12 → N ≤ s → ql s = []) ∧ ∀ s, s < 12 → ∀ m, m ∈ ql s → ti f (ad (100 + m)) 3 < nI J
theorem K2.mono {j j' N' : Nat} (h : K2 f q0 ad N j) (hj : j ≤ j') (hN : N ≤ N') : K2 f q0 ad N' j' := by
  obtain ⟨ql, J, h1, h2, h3, h4, h5, h6⟩ := h
  exact ⟨ql, J, by omega, h2, h3, h4, fun s hs hn => h5 s hs (by omega), h6⟩
theorem TX.keep {f' : TF} (h : TX f ad ql) (h2 : ∀ m, m < 40 → ti f' (ad (100 + m)) 2 = ti f (ad (100 + m)) 2) (h3 : ∀ m, m < 40 → ti f' (ad (100 + m)) 3 = ti f (ad (100 + m)) 3) : TX f' ad ql := by
  refine ⟨fun s hs m hm => ?_, fun m hm => ?_, fun s hs k k' hk hk' => ?_⟩
  · have := h.1 s hs m hm
    rw [h2 m this.1]; exact this
  · rw [h2 m hm]; exact h.2.1 m hm
  · rw [h3 _ (h.1 s hs _ (mem_getD.mpr ⟨k, by omega, rfl⟩)).1, h3 _ (h.1 s hs _ (mem_getD.mpr ⟨k', hk', rfl⟩)).1]
    exact h.2.2 s hs k k' hk hk'
theorem TM.keep {f' : TF} (h : TM f ad ql) (h1 : ∀ z, ti f' (ad 19) z = ti f (ad 19) z) (h2 : ∀ z, ti f' (ad 20) z = ti f (ad 20) z) : TM f' ad ql := fun s hs => ⟨(h s hs).1, (h1 _).trans (h s hs).2.1, fun k hk => (h2 _).trans ((h s hs).2.2 k hk)⟩
theorem K2.keep {f' : TF} {j : Nat} (h : K2 f q0 ad N j) (h0 : ti f' q0 11 = ti f q0 11) (h2 : ∀ m, m < 40 → ti f' (ad (100 + m)) 2 = ti f (ad (100 + m)) 2) (h3 : ∀ m, m < 40 → ti f' (ad (100 + m)) 3 = ti f (ad (100 + m)) 3) (h4 : ∀ z, ti f' (ad 19) z = ti f (ad 19) z) (h5 : ∀ z, ti f' (ad 20) z = ti f (ad 20) z) : K2 f' q0 ad N j := by
  obtain ⟨ql, J, a1, a2, a3, a4, a5, a6⟩ := h
  exact ⟨ql, J, a1, h0.trans a2, a3.keep h2 h3, a4.keep h4 h5, a5, fun s hs m hm => by rw [h3 m (a3.1 s hs m hm).1]; exact a6 s hs m hm⟩
def avK2 (W : List (Nat × Nat)) : Bool := [43, 44].all (fun k => W.all (fun p => p.1 != k)) && [(20, 2), (20, 3), (0, 11)].all (fun q => !(wr W q.1 q.2))
theorem K2.ext {W : List (Nat × Nat)} {L1 : List Nat} {f1 : TF} {j : Nat} (h : K2 f q0 ad N j) (hA : Ad f q0 q1 ad) (hO : Ok L f) (m0 : q0 ∈ L ∧ tk f q0 = 0) (m1 : q1 ∈ L ∧ tk f q1 = 27) (hE : Ext W L f L1 f1) (ha : avK2 W = true) : K2 f1 q0 ad N j := by
  unfold avK2 at ha
  rw [Bool.and_eq_true] at ha
  have kk : ∀ k, k ∈ [43, 44] → ∀ j, wr W k j = false := fun k hk j => wr_k (List.all_eq_true.mp ha.1 k hk) j
  have s : ∀ k j, (k, j) ∈ [(20, 2), (20, 3), (0, 11)] → wr W k j = false := fun k j hj => by simpa using List.all_eq_true.mp ha.2 (k, j) hj
  have im := hA.m hO m1
  exact h.keep (hE.ei m0 (s 0 11 (by decide))) (fun m hm => hE.ei (hA.man hO m0 hm) (s 20 2 (by decide))) (fun m hm => hE.ei (hA.man hO m0 hm) (s 20 3 (by decide))) (fun z => hE.ei (im 19 (by decide)) (kk 43 (by decide) z)) (fun z => hE.ei (im 20 (by decide)) (kk 44 (by decide) z))
/-- a man without a turn: his cell says -1; and the queues lose him -/
theorem TX.out {f' : TF} {m s k : Nat} (h : TX f ad ql) (hs : s < 12) (hk : k < (ql s).length) (hm : (ql s).getD k 0 = m) (e2 : ti f' (ad (100 + m)) 2 = -1) (h2 : ∀ m', m' < 40 → m' ≠ m → ti f' (ad (100 + m')) 2 = ti f (ad (100 + m')) 2) (h3 : ∀ m', m' < 40 → ti f' (ad (100 + m')) 3 = ti f (ad (100 + m')) 3) : TX f' ad (upQ ql s ((ql s).eraseIdx k)) := by
  have hmm : m ∈ ql s := mem_getD.mpr ⟨k, hk, hm⟩
  have hle : ((ql s).eraseIdx k).length = (ql s).length - 1 := by rw [List.length_eraseIdx, if_pos hk]
  -- who stays
  have hsub : ∀ x, x ∈ (ql s).eraseIdx k → x ∈ ql s ∧ x ≠ m := by
    intro x hx
    obtain ⟨i, hi, ei⟩ := mem_getD.mp hx
    rw [getD_erase] at ei
    rw [hle] at hi
    by_cases hik : i < k
    · rw [if_pos hik] at ei
      refine ⟨mem_getD.mpr ⟨i, by omega, ei⟩, fun e => ?_⟩
      have := h.inj hs (show i < (ql s).length by omega) hk (by rw [ei, hm, e])
      omega
    · rw [if_neg hik] at ei
      refine ⟨mem_getD.mpr ⟨i + 1, by omega, ei⟩, fun e => ?_⟩
      have := h.inj hs (show i + 1 < (ql s).length by omega) hk (by rw [ei, hm, e])
      omega
  have hsup : ∀ x, x ∈ ql s → x ≠ m → x ∈ (ql s).eraseIdx k := by
    intro x hx hne
    obtain ⟨i, hi, ei⟩ := mem_getD.mp hx
    have hik : i ≠ k := by rintro rfl; exact hne (ei.symm.trans hm)
    by_cases hlt : i < k
    · exact mem_getD.mpr ⟨i, by omega, by rw [getD_erase, if_pos hlt]; exact ei⟩
    · exact mem_getD.mpr ⟨i - 1, by omega, by rw [getD_erase, if_neg (by omega), show i - 1 + 1 = i by omega]; exact ei⟩
  refine ⟨fun s' hs' x hx => ?_, fun x hx => ?_, fun s' hs' i i' hi hi' => ?_⟩
  · by_cases e : s' = s
    · subst e
      rw [upQ_y] at hx
      obtain ⟨y1, y2⟩ := hsub x hx
      have := h.1 s' hs' x y1
      rw [h2 x this.1 y2]; exact this
    · rw [upQ_n e] at hx
      have := h.1 s' hs' x hx
      have hne : x ≠ m := by rintro rfl; exact e (h.one hs' hs hx hmm)
      rw [h2 x this.1 hne]; exact this
  · by_cases e : x = m
    · subst e; exact Or.inl e2
    · rw [h2 x hx e]
      rcases h.2.1 x hx with g | ⟨s', hs', g⟩
      · exact Or.inl g
      · refine Or.inr ⟨s', hs', ?_⟩
        by_cases es : s' = s
        · subst es; rw [upQ_y]; exact hsup x g e
        · rw [upQ_n es]; exact g
  · by_cases e : s' = s
    · subst e
      rw [upQ_y] at hi' ⊢
      rw [hle] at hi'
      have hb : ∀ j, j < (ql s').length → ti f' (ad (100 + (ql s').getD j 0)) 3 = ti f (ad (100 + (ql s').getD j 0)) 3 := fun j hj => h3 _ (h.1 s' hs' _ (mem_getD.mpr ⟨j, hj, rfl⟩)).1
      rw [getD_erase, getD_erase]
      by_cases g1 : i < k
      · rw [if_pos g1]
        by_cases g2 : i' < k
        · rw [if_pos g2, hb i (by omega), hb i' (by omega)]; exact h.2.2 s' hs' i i' hi (by omega)
        · rw [if_neg g2, hb i (by omega), hb (i' + 1) (by omega)]; exact h.2.2 s' hs' i (i' + 1) (by omega) (by omega)
      · rw [if_neg g1, if_neg (by omega), hb (i + 1) (by omega), hb (i' + 1) (by omega)]; exact h.2.2 s' hs' (i + 1) (i' + 1) (by omega) (by omega)
    · rw [upQ_n e] at hi' ⊢
      rw [h3 _ (h.1 s' hs' _ (mem_getD.mpr ⟨i, by omega, rfl⟩)).1, h3 _ (h.1 s' hs' _ (mem_getD.mpr ⟨i', hi', rfl⟩)).1]
      exact h.2.2 s' hs' i i' hi hi'
theorem TX.out0 {f' : TF} {m : Nat} (h : TX f ad ql) (hn : ∀ s, s < 12 → m ∉ ql s) (e2 : ti f' (ad (100 + m)) 2 = -1) (h2 : ∀ m', m' < 40 → m' ≠ m → ti f' (ad (100 + m')) 2 = ti f (ad (100 + m')) 2) (h3 : ∀ m', m' < 40 → ti f' (ad (100 + m')) 3 = ti f (ad (100 + m')) 3) : TX f' ad ql := by
  refine ⟨fun s hs x hx => ?_, fun x hx => ?_, fun s hs i i' hi hi' => ?_⟩
  · have := h.1 s hs x hx
    rw [h2 x this.1 (by rintro rfl; exact hn s hs hx)]; exact this
  · by_cases e : x = m
    · subst e; exact Or.inl e2
    · rw [h2 x hx e]; exact h.2.1 x hx
  · rw [h3 _ (h.1 s hs _ (mem_getD.mpr ⟨i, by omega, rfl⟩)).1, h3 _ (h.1 s hs _ (mem_getD.mpr ⟨i', hi', rfl⟩)).1]
    exact h.2.2 s hs i i' hi hi'
end LVS
