section MEN
variable {L : List Nat} {f : TF} {q0 q1 : Nat} {ad : Nat → Nat} {D : Int}
theorem ti_nC_eq {g : TF} {q k j : Nat} : ti (nC g q k) q j = 0 := by unfold ti nC; rw [va_up_self]
/-- a write into a cell of another sort -/
theorem ti_k {a c j z ka kc : Nat} {v : Int32} (ha : tk f a = ka) (hc : tk f c = kc) (h : kc ≠ ka) : ti (sI f a j v) c z = ti f c z := ti_sI_ne (ne_tk hc ha h)
def gF (f : TF) (ad : Nat → Nat) (m k : Nat) : Int32 := ti f (ad 13) (6 * m + k)
def gT (f : TF) (ad : Nat → Nat) (m k : Nat) : Int32 := ti f (ad 14) (6 * m + k)
theorem GapOk.congr {S : Int} {G : Nat} {a b a' b' : Nat → Int32} (h : GapOk S D G a b) (ha : ∀ k, k < G → a' k = a k) (hb : ∀ k, k < G → b' k = b k) : GapOk S D G a' b' := by
  obtain ⟨h1, h2, h3, h4, h5⟩ := h
  exact ⟨h1, h2, h3, fun k hk => by rw [ha k hk, hb k hk]; exact h4 k hk, fun k k' hk hk' hn => by rw [ha k hk, hb k hk, ha k' hk', hb k' hk']; exact h5 k k' hk hk' hn⟩
/-- a bound man's service on day D: the program's cells b, c, d -/
def Bnd (f : TF) (ad : Nat → Nat) (D : Int) (m b c d : Nat) : Prop := tr f (ad (100 + m)) 1 = some b ∧ tr f b 2 = some c ∧ tr f b 3 = some d ∧ ti f b 0 = ti f (ad 10) m ∧ ti f b 1 = ti f (ad 11) m ∧ ∃ G, G ≤ 6 ∧ ti f b 4 = nI G ∧ ti f (ad 12) m = nI G ∧ (∀ k, k < G → ti f c k = gF f ad m k ∧ ti f d k = gT f ad m k) ∧ GapOk (ti f (ad 11) m).toInt D G (gF f ad m) (gT f ad m)
theorem Bnd.keep {f' : TF} {m b c d : Nat} (h : Bnd f ad D m b c d) (h1 : tr f' (ad (100 + m)) 1 = tr f (ad (100 + m)) 1) (h2 : ∀ z, tr f' b z = tr f b z) (h3 : ∀ z, ti f' b z = ti f b z) (h4 : ∀ z, ti f' c z = ti f c z) (h5 : ∀ z, ti f' d z = ti f d z) (h6 : ti f' (ad 10) m = ti f (ad 10) m) (h7 : ti f' (ad 11) m = ti f (ad 11) m) (h8 : ti f' (ad 12) m = ti f (ad 12) m) (h9 : ∀ k, k < 6 → ti f' (ad 13) (6 * m + k) = ti f (ad 13) (6 * m + k)) (h10 : ∀ k, k < 6 → ti f' (ad 14) (6 * m + k) = ti f (ad 14) (6 * m + k)) : Bnd f' ad D m b c d := by
  obtain ⟨a1, a2, a3, a4, a5, G, a6, a7, a8, a9, a10⟩ := h
  refine ⟨h1.trans a1, (h2 _).trans a2, (h2 _).trans a3, by rw [h3, h6]; exact a4, by rw [h3, h7]; exact a5, G, a6, (h3 _).trans a7, h8.trans a8, fun k hk => ?_, ?_⟩
  · rw [h4, h5]
    unfold gF gT
    rw [h9 k (by omega), h10 k (by omega)]
    exact a9 k hk
  · rw [h7]
    exact a10.congr (fun k hk => h9 k (by omega)) (fun k hk => h10 k (by omega))
/-- men's states and services -/
def K1 (f : TF) (ad : Nat → Nat) (D : Int) : Prop := ∃ bd bF bT : Nat → Nat, (∀ m, m < 40 → ti f (ad (100 + m)) 0 = ti f (ad 9) m) ∧ (∀ m, m < 40 → ti f (ad 9) m = 1 → Bnd f ad D m (bd m) (bF m) (bT m)) ∧ ∀ m m', m < 40 → m' < 40 → m ≠ m' → ti f (ad 9) m = 1 → ti f (ad 9) m' = 1 → bd m ≠ bd m' ∧ bF m ≠ bF m' ∧ bT m ≠ bT m'
theorem K1.st (h : K1 f ad D) {m : Nat} (hm : m < 40) : ti f (ad (100 + m)) 0 = ti f (ad 9) m := by
  obtain ⟨bd, bF, bT, h1, -, -⟩ := h
  exact h1 m hm
theorem K1.mono {D' : Int} (h : K1 f ad D) (h1 : D ≤ D') (h2 : D' ≤ 499) : K1 f ad D' := by
  obtain ⟨bd, bF, bT, a1, a2, a3⟩ := h
  refine ⟨bd, bF, bT, a1, fun m hm hs => ?_, a3⟩
  obtain ⟨b1, b2, b3, b4, b5, G, b6, b7, b8, b9, b10⟩ := a2 m hm hs
  exact ⟨b1, b2, b3, b4, b5, G, b6, b7, b8, b9, b10.mono h1 h2⟩
/-- the sorts of a service's cells -/
theorem bnd_m {m b c d : Nat} (hA : Ad f q0 q1 ad) (hO : Ok L f) (m0 : q0 ∈ L ∧ tk f q0 = 0) (hm : m < 40) (h : Bnd f ad D m b c d) : (b ∈ L ∧ tk f b = 21) ∧ (c ∈ L ∧ tk f c = 22) ∧ (d ∈ L ∧ tk f d = 23) := by
  have ib := hO.rm (j := 1) (k' := 21) (n := true) (hA.man hO m0 hm) rfl h.1
  exact ⟨ib, hO.rm (j := 2) (k' := 22) (n := false) ib rfl h.2.1, hO.rm (j := 3) (k' := 23) (n := false) ib rfl h.2.2.1⟩
def avK1 (W : List (Nat × Nat)) : Bool := [21, 22, 23, 33, 34, 35, 36, 37, 38].all (fun k => W.all (fun p => p.1 != k)) && [(20, 0), (20, 1)].all (fun q => !(wr W q.1 q.2))
theorem K1.ext {W : List (Nat × Nat)} {L1 : List Nat} {f1 : TF} (h : K1 f ad D) (hA : Ad f q0 q1 ad) (hO : Ok L f) (m0 : q0 ∈ L ∧ tk f q0 = 0) (m1 : q1 ∈ L ∧ tk f q1 = 27) (hE : Ext W L f L1 f1) (ha : avK1 W = true) : K1 f1 ad D := by
  unfold avK1 at ha
  rw [Bool.and_eq_true] at ha
  have kk : ∀ k, k ∈ [21, 22, 23, 33, 34, 35, 36, 37, 38] → ∀ j, wr W k j = false := fun k hk j => wr_k (List.all_eq_true.mp ha.1 k hk) j
  have s : ∀ j, (20, j) ∈ [(20, 0), (20, 1)] → wr W 20 j = false := fun j hj => by simpa using List.all_eq_true.mp ha.2 (20, j) hj
  have im := hA.m hO m1
  obtain ⟨bd, bF, bT, a1, a2, a3⟩ := h
  have e9 : ∀ j, ti f1 (ad 9) j = ti f (ad 9) j := fun j => hE.ei (im 9 (by decide)) (kk 33 (by decide) j)
  refine ⟨bd, bF, bT, fun m hm => ?_, fun m hm hs => ?_, fun m m' hm hm' hn hs hs' => ?_⟩
  · rw [e9, hE.ei (hA.man hO m0 hm) (s 0 (by decide))]; exact a1 m hm
  · rw [e9] at hs
    have hb := a2 m hm hs
    obtain ⟨ib, ic, id'⟩ := bnd_m hA hO m0 hm hb
    exact hb.keep (hE.er (hA.man hO m0 hm) (s 1 (by decide))) (fun z => hE.er ib (kk 21 (by decide) z)) (fun z => hE.ei ib (kk 21 (by decide) z)) (fun z => hE.ei ic (kk 22 (by decide) z)) (fun z => hE.ei id' (kk 23 (by decide) z)) (hE.ei (im 10 (by decide)) (kk 34 (by decide) _)) (hE.ei (im 11 (by decide)) (kk 35 (by decide) _)) (hE.ei (im 12 (by decide)) (kk 36 (by decide) _)) (fun k _ => hE.ei (im 13 (by decide)) (kk 37 (by decide) _)) (fun k _ => hE.ei (im 14 (by decide)) (kk 38 (by decide) _))
  · rw [e9] at hs hs'
    exact a3 m m' hm hm' hn hs hs'
/-- a man's state becomes one that is not bound -/
theorem K1.upd {f' : TF} {m : Nat} {v : Int32} (h : K1 f ad D) (hA : Ad f q0 q1 ad) (hO : Ok L f) (m0 : q0 ∈ L ∧ tk f q0 = 0) (hm : m < 40) (hv : v ≠ 1) (a1 : ti f' (ad (100 + m)) 0 = v) (a2 : ti f' (ad 9) m = v) (a3 : ∀ m', m' < 40 → m' ≠ m → ti f' (ad (100 + m')) 0 = ti f (ad (100 + m')) 0 ∧ ti f' (ad 9) m' = ti f (ad 9) m' ∧ ti f' (ad 10) m' = ti f (ad 10) m' ∧ ti f' (ad 11) m' = ti f (ad 11) m' ∧ ti f' (ad 12) m' = ti f (ad 12) m' ∧ (∀ z, ti f' (ad 13) z = ti f (ad 13) z) ∧ ∀ z, ti f' (ad 14) z = ti f (ad 14) z) (a4 : ∀ c z, c ∈ L → tk f c = 20 ∨ tk f c = 21 → tr f' c z = tr f c z) (a5 : ∀ c k, c ∈ L → tk f c = k → k ∈ [21, 22, 23] → ∀ z, ti f' c z = ti f c z) : K1 f' ad D := by
  obtain ⟨bd, bF, bT, b1, b2, b3⟩ := h
  have ne : ∀ m', ti f' (ad 9) m' = 1 → m' ≠ m := by rintro m' hs rfl; exact hv (a2.symm.trans hs)
  refine ⟨bd, bF, bT, fun m' hm' => ?_, fun m' hm' hs => ?_, fun m' m'' hm' hm'' hn hs hs' => ?_⟩
  · by_cases e : m' = m
    · subst e; rw [a1, a2]
    · rw [(a3 m' hm' e).1, (a3 m' hm' e).2.1]; exact b1 m' hm'
  · have e := ne m' hs
    obtain ⟨c1, c2, c3, c4, c5, c6, c7⟩ := a3 m' hm' e
    rw [c2] at hs
    have hb := b2 m' hm' hs
    obtain ⟨ib, ic, id'⟩ := bnd_m hA hO m0 hm' hb
    exact hb.keep (a4 _ _ (hA.man hO m0 hm').1 (Or.inl (hA.man hO m0 hm').2)) (fun z => a4 _ _ ib.1 (Or.inr ib.2)) (a5 _ 21 ib.1 ib.2 (by decide)) (a5 _ 22 ic.1 ic.2 (by decide)) (a5 _ 23 id'.1 id'.2 (by decide)) c3 c4 c5 (fun k _ => c6 _) (fun k _ => c7 _)
  · have e := ne m' hs
    have e' := ne m'' hs'
    rw [(a3 m' hm' e).2.1] at hs
    rw [(a3 m'' hm'' e').2.1] at hs'
    exact b3 m' m'' hm' hm'' hn hs hs'
/-- the reference's test of a man's number -/
theorem mck {p : Int32} {A B : Prop} (hb : ¬ isM p → A) (hg : isM p → B) : ((p < 0 → A) ∧ (¬ (p < 0) → ((39 < p → A) ∧ (¬ (39 < p) → B)))) := ⟨fun g => hb (fun z => z.1 g), fun g => ⟨fun g2 => hb (fun z => z.2 g2), fun g2 => hg ⟨g, g2⟩⟩⟩
theorem pr_free (hO : Ok L f) (m0 : q0 ∈ L ∧ tk f q0 = 0) (m1 : q1 ∈ L ∧ tk f q1 = 27) (hA : Ad f q0 q1 ad) (hK : K1 f ad D) (p_0 : Int32) : wp_WM_free_w L f q0 p_0 (PairG (fun _ f => K1 f ad D) q0 q1 (fun L f Q => wp_Md_free_w L f q1 p_0 Q)) := by
  have im := hA.m hO m1
  refine manAt_x hA (fun hn => ⟨fun _ _ _ _ => mck (fun _ _ => ⟨rfl, hK⟩) (fun h => absurd h hn), fun q z => (by cases z)⟩) (fun m hm hp => ⟨fun z => (by cases z), fun q eq x2 e2 => ?_⟩)
  cases eq
  subst hp
  rw [hK.st hm] at e2
  subst e2
  have e9 : tr f q1 9 = some (ad 9) := hA.2.2.2 9 (by decide)
  have n9 : (ad (100 + m)) ≠ ad 9 := ne_tk (hA.man hO m0 hm).2 (im 9 (by decide)).2 (by decide)
  have hgo : ∀ g : TF, (∀ z, tr g q1 z = tr f q1 z) → (∀ z, ti g (ad 9) z = ti f (ad 9) z) → (ti f (ad 9) m = 0 → ∀ f2 : TF, f2 = sI g (ad 9) m 2 → K1 f2 ad D) → ∀ r : Int32, (ti f (ad 9) m = 0 → r = 1) → (¬ ti f (ad 9) m = 0 → r = -2 ∧ K1 g ad D) → wp_Md_free_w L g q1 (nI m) (fun r' L2 f2 => Ok L2 f2 → r = r' ∧ K1 f2 ad D) := by
    intro g h1 h2 h3 r h4 h5
    refine mck (fun h => absurd (isM_nI hm) h) (fun _ q4 e4 x5 e5 => ?_)
    rw [h1, e9] at e4; cases e4
    rw [nI_clamp (by omega), h2] at e5
    subst e5
    rw [nI_clamp (by omega)]
    exact ⟨fun k f2 hf2 _ _ => ⟨h4 k, h3 k f2 hf2⟩, fun k _ => ⟨(h5 k).1, (h5 k).2⟩⟩
  refine ⟨fun k f1 hf1 hO1 _ _ _ => ?_, fun k _ _ _ => ?_⟩
  · subst hf1
    refine hgo _ (fun z => tr_sI) (fun z => ti_sI_ne n9.symm) (fun _ f2 hf2 => ?_) 1 (fun _ => rfl) (fun k' => absurd k k')
    subst hf2
    refine hK.upd hA hO m0 hm (v := 2) (by decide) (by rw [ti_sI_ne n9, ti_sI_eq]) ti_sI_eq (fun m' hm' hn => ?_) (fun c z _ _ => by rw [tr_sI, tr_sI]) (fun c k' _ hc hk' z => ?_)
    · have hne : ad (100 + m') ≠ ad (100 + m) := fun e => hn (hA.2.2.1 m' m hm' hm e)
      have nn : ∀ k, k ∈ RK → kd k ≠ 33 → kd k ≠ 20 → ∀ z, ti (sI (sI f (ad (100 + m)) 0 2) (ad 9) m 2) (ad k) z = ti f (ad k) z := fun k hk g1 g2 z => by
        rw [ti_k (tk_sI.trans (im 9 (by decide)).2) (tk_sI.trans (im k hk).2) g1, ti_k (hA.man hO m0 hm).2 (im k hk).2 g2]
      refine ⟨?_, ?_, nn 10 (by decide) (by decide) (by decide) _, nn 11 (by decide) (by decide) (by decide) _, nn 12 (by decide) (by decide) (by decide) _, nn 13 (by decide) (by decide) (by decide), nn 14 (by decide) (by decide) (by decide)⟩
      · rw [ti_sI_ne (ne_tk (hA.man hO m0 hm').2 (im 9 (by decide)).2 (by decide)), ti_sI_ne hne]
      · rw [ti_sI_nj hn, ti_sI_ne n9.symm]
    · have h33 : k' ≠ 33 := by rintro rfl; exact absurd hk' (by decide)
      have h20 : k' ≠ 20 := by rintro rfl; exact absurd hk' (by decide)
      rw [ti_k (tk_sI.trans (im 9 (by decide)).2) (tk_sI.trans hc) h33, ti_k (hA.man hO m0 hm).2 hc h20]
  · exact hgo f (fun _ => rfl) (fun _ => rfl) (fun k' => absurd k' k) (-2) (fun k' => absurd k' k) (fun _ => ⟨rfl, hK⟩)
end MEN
