section LINE
variable {L : List Nat} {f : TF} {B : Nat → Int32} {N : Nat}
/-- the reference has read the thing that stands from b on -/
def AtM (f : TF) (q1 mB : Nat) (B : Nat → Int32) (N b : Nat) : Prop := TapeM f q1 mB B N ∧ ti f q1 44 = nI (tkS B N b) ∧ ti f q1 42 = nI (tE B N b) ∧ SM f q1 B N (tkS B N b) (tE B N b) ∧ b ≤ N
section RDM
variable {q1 mB b i : Nat} {am : Nat → Nat} {o : OS} {f0 : TF} {Q : Int32 → List Nat → TF → Prop}
theorem next_m {Q : List Nat → TF → Prop} (hne : mB ≠ q1) (hN : N ≤ 400) (h : AtM f q1 mB B N b) (hq : ∀ f' : TF, AtM f' q1 mB B N (tE B N b) → Fr [42, 43, 44, 45] q1 f f' → Ok L f' → Q L f') : wp_Md_advance_w L f q1 Q := by
  have hb := (tE_le (B := B) h.2.2.2.2).2.2.1
  refine adv_m hne hN h.1 h.2.2.1 hb (fun f' s e ht k3 k4 hx hfr hO => ?_)
  obtain ⟨e1, e2⟩ := ht.uni (tok_at hb)
  subst e1 e2
  exact hq f' ⟨h.1.fr hne hfr, k3, k4, hx, hb⟩ hfr hO
theorem first_m {Q : List Nat → TF → Prop} (hne : mB ≠ q1) (hN : N ≤ 400) (hT : TapeM f q1 mB B N) (h4 : ti f q1 42 = 0) (hq : ∀ f' : TF, AtM f' q1 mB B N 0 → Fr [42, 43, 44, 45] q1 f f' → Ok L f' → Q L f') : wp_Md_advance_w L f q1 Q := by
  refine adv_m hne hN hT (h4.trans nI_0.symm) (Nat.zero_le _) (fun f' s e ht k3 k4 hx hfr hO => ?_)
  obtain ⟨e1, e2⟩ := ht.uni (tok_at (Nat.zero_le _))
  subst e1 e2
  exact hq f' ⟨hT.fr hne hfr, k3, k4, hx, Nat.zero_le _⟩ hfr hO
theorem AtM.code (h : AtM f q1 mB B N b) : ti f q1 43 = tC B N b ∧ (tC B N b = 1 → ti f q1 45 = tV B N b) := by
  have hs := tE_le (B := B) h.2.2.2.2
  have hc := h.2.2.2.1.code (by omega)
  exact ⟨hc.1, fun k => hc.2 (hc.1.trans k)⟩
theorem AtM.keep {f' : TF} (h : AtM f q1 mB B N b) (hi : ∀ c z, c = q1 ∧ z ≠ 46 ∨ c = mB → ti f' c z = ti f c z) (hr : ∀ c z, tr f' c z = tr f c z) : AtM f' q1 mB B N b := by
  obtain ⟨⟨t1, t2, t3⟩, a1, a2, a3, a4⟩ := h
  have e2 : ti f' q1 43 = ti f q1 43 := hi _ _ (Or.inl ⟨rfl, by decide⟩)
  have e5 : ti f' q1 45 = ti f q1 45 := hi _ _ (Or.inl ⟨rfl, by decide⟩)
  refine ⟨⟨(hr _ _).trans t1, (hi _ _ (Or.inl ⟨rfl, by decide⟩)).trans t2, fun j => (hi _ _ (Or.inr rfl)).trans (t3 j)⟩, (hi _ _ (Or.inl ⟨rfl, by decide⟩)).trans a1, (hi _ _ (Or.inl ⟨rfl, by decide⟩)).trans a2, ?_, a4⟩
  unfold SM at a3 ⊢
  rw [e2, e5]
  exact a3
theorem takes_m {p : Int32} (hne : mB ≠ q1) (hN : N ≤ 400) (h : AtM f q1 mB B N b) (h1 : tC B N b = p → ∀ f' : TF, AtM f' q1 mB B N (tE B N b) → ti f' q1 46 = ti f q1 45 → Fr [42, 43, 44, 45, 46] q1 f f' → Ok L f' → Q 1 L f') (h0 : ¬ tC B N b = p → Q 0 L f) : wp_Md_takes_w L f q1 p Q := by
  unfold wp_Md_takes_w
  rw [h.code.1]
  refine ⟨fun g x3 e3 f1 hf1 hO1 => ?_, h0⟩
  have A1 : AtM f1 q1 mB B N b := by
    refine h.keep (fun c z hc => ?_) (fun c z => by rw [hf1]; exact tr_sI)
    rw [hf1, ti_sI, if_neg]
    rintro ⟨rfl, rfl⟩
    rcases hc with hc | hc
    · exact hc.2 rfl
    · exact hne hc.symm
  refine next_m hne hN A1 (fun f2 A2 fr2 hO2 _ _ => ?_)
  have y := h1 g f2 A2 (by rw [fr2.1 _ _ (Or.inr (by decide)), hf1, ti_sI_eq]; exact e3.symm) ((by rw [hf1]; exact Fr.set (by decide) : Fr [42, 43, 44, 45, 46] q1 f f1).trans (fr2.mono (by decide))) hO2
  exact ⟨y, y⟩
/-- how many places an order has in a row of the reference's -/
def wd (k : Nat) : Nat := if k = 40 then 9 else if k = 32 ∨ k = 36 ∨ k = 41 then 1 else 12
/-- only what belongs to order i is written -/
def FM (q1 : Nat) (am : Nat → Nat) (i : Nat) (f f' : TF) : Prop := (∀ c z, c ≠ q1 → (∀ k, 32 ≤ k → k ≤ 41 → c ≠ am k) → ti f' c z = ti f c z) ∧ (∀ z, z ∉ [42, 43, 44, 45, 46] → ti f' q1 z = ti f q1 z) ∧ (∀ k, 32 ≤ k → k ≤ 41 → ∀ z, z < wd k * i → ti f' (am k) z = ti f (am k) z) ∧ ∀ c z, tr f' c z = tr f c z
def DisM (q1 mB : Nat) (am : Nat → Nat) : Prop := mB ≠ q1 ∧ (∀ k, 32 ≤ k → k ≤ 41 → am k ≠ q1 ∧ am k ≠ mB) ∧ ∀ k k', 32 ≤ k → k ≤ 41 → 32 ≤ k' → k' ≤ 41 → am k = am k' → k = k'
theorem FM.rf : FM q1 am i f f := ⟨fun _ _ _ _ => rfl, fun _ _ => rfl, fun _ _ _ _ _ => rfl, fun _ _ => rfl⟩
theorem FM.trans {f1 f2 f3 : TF} (h : FM q1 am i f1 f2) (h' : FM q1 am i f2 f3) : FM q1 am i f1 f3 := ⟨fun c z a b => (h'.1 c z a b).trans (h.1 c z a b), fun z a => (h'.2.1 z a).trans (h.2.1 z a), fun k a b z c => (h'.2.2.1 k a b z c).trans (h.2.2.1 k a b z c), fun c z => (h'.2.2.2 c z).trans (h.2.2.2 c z)⟩
theorem FM.fr {f1 f2 : TF} (hd : DisM q1 mB am) (h : Fr [42, 43, 44, 45, 46] q1 f1 f2) : FM q1 am i f1 f2 := ⟨fun c z a _ => h.1 c z (Or.inl a), fun z a => h.1 _ z (Or.inr a), fun k a b z _ => h.1 _ z (Or.inl (hd.2.1 k a b).1), h.2⟩
theorem FM.set {k z : Nat} {v : Int32} (hd : DisM q1 mB am) (h1 : 32 ≤ k) (h2 : k ≤ 41) (hz : wd k * i ≤ z) : FM q1 am i f (sI f (am k) z v) := by
  refine ⟨fun c y a b => ti_sI_ne (b k h1 h2), fun y a => ti_sI_ne (hd.2.1 k h1 h2).1.symm, fun k' a b y c => ?_, fun c y => tr_sI⟩
  rw [ti_sI, if_neg]
  rintro ⟨e1, rfl⟩
  have := hd.2.2 _ _ a b h1 h2 e1
  subst this
  omega
/-- lines of one sort in the reference's rows -/
def LnM (f : TF) (i c a1 a2 a3 : Nat) (p : OL) : Prop := ti f c i = nI p.1 ∧ ∀ k, k < p.1 → ti f a1 (12 * i + k) = p.2 (3 * k) ∧ ti f a2 (12 * i + k) = p.2 (3 * k + 1) ∧ ti f a3 (12 * i + k) = p.2 (3 * k + 2)
theorem LnM.keep {f' : TF} {c a1 a2 a3 : Nat} {p : OL} (h : LnM f i c a1 a2 a3 p) (hi : ∀ d z, d ∈ [c, a1, a2, a3] → ti f' d z = ti f d z) : LnM f' i c a1 a2 a3 p := ⟨(hi _ _ (by simp)).trans h.1, fun k hk => ⟨(hi _ _ (by simp)).trans (h.2 k hk).1, (hi _ _ (by simp)).trans (h.2 k hk).2.1, (hi _ _ (by simp)).trans (h.2 k hk).2.2⟩⟩
theorem LnM.add {c a1 a2 a3 : Nat} {p : OL} {a b' n : Int32} {f1 f2 f3 f4 : TF} (h : LnM f i c a1 a2 a3 p) (d1 : a1 ≠ c) (d2 : a2 ≠ c) (d3 : a3 ≠ c) (d4 : a2 ≠ a1) (d5 : a3 ≠ a1) (d6 : a3 ≠ a2) (h1 : f1 = sI f a1 (12 * i + p.1) a) (h2 : f2 = sI f1 a2 (12 * i + p.1) b') (h3 : f3 = sI f2 a3 (12 * i + p.1) n) (h4 : f4 = sI f3 c i (nI p.1 + 1)) : LnM f4 i c a1 a2 a3 (addL p a b' n) := by
  refine ⟨by rw [h4, ti_sI_eq, nI_1]; rfl, fun k hk => ?_⟩
  have hk' : k < p.1 + 1 := hk
  have g : ∀ j, (addL p a b' n).2 j = if j = 3 * p.1 then a else if j = 3 * p.1 + 1 then b' else if j = 3 * p.1 + 2 then n else p.2 j := fun j => rfl
  rw [g, g, g, h4, h3, h2, h1]
  rw [ti_sI_ne d1, ti_sI_ne d5.symm, ti_sI_ne d4.symm, ti_sI_ne d2, ti_sI_ne d6.symm, ti_sI_ne d3]
  by_cases e : k = p.1
  · subst e
    rw [ti_sI_eq, ti_sI_eq, ti_sI_eq, if_pos rfl, if_neg (by omega), if_pos rfl, if_neg (by omega), if_neg (by omega), if_pos rfl]
    exact ⟨rfl, rfl, rfl⟩
  · rw [ti_sI_nj (by omega), ti_sI_nj (by omega), ti_sI_ne d4, ti_sI_nj (by omega), ti_sI_ne d6, ti_sI_ne d5, if_neg (by omega), if_neg (by omega), if_neg (by omega), if_neg (by omega), if_neg (by omega), if_neg (by omega), if_neg (by omega), if_neg (by omega), if_neg (by omega)]
    exact h.2 k (by omega)
/-- the reference's order i as it is being read -/
def OrdM (f : TF) (q1 : Nat) (am : Nat → Nat) (i : Nat) (o : OS) : Prop := (∀ k, 32 ≤ k → k ≤ 41 → tr f q1 k = some (am k)) ∧ LnM f i (am 32) (am 33) (am 34) (am 35) o.1 ∧ LnM f i (am 36) (am 37) (am 38) (am 39) o.2.1 ∧ (∀ j, j < 9 → ti f (am 40) (9 * i + j) = o.2.2.1 j) ∧ (o.2.2.1 6 ≠ -1 → ti f (am 41) i = o.2.2.2)
theorem OrdM.keep {f' : TF} (h : OrdM f q1 am i o) (hi : ∀ k z, 32 ≤ k → k ≤ 41 → ti f' (am k) z = ti f (am k) z) (hr : ∀ c z, tr f' c z = tr f c z) : OrdM f' q1 am i o := by
  obtain ⟨r, a1, a2, a3, a4⟩ := h
  refine ⟨fun k h1 h2 => (hr _ _).trans (r k h1 h2), a1.keep (fun d z hd => ?_), a2.keep (fun d z hd => ?_), fun j hj => (hi 40 _ (by decide) (by decide)).trans (a3 j hj), fun k => (hi 41 _ (by decide) (by decide)).trans (a4 k)⟩
  · simp only [List.mem_cons, List.not_mem_nil, or_false] at hd
    rcases hd with rfl | rfl | rfl | rfl
    · exact hi 32 _ (by decide) (by decide)
    · exact hi 33 _ (by decide) (by decide)
    · exact hi 34 _ (by decide) (by decide)
    · exact hi 35 _ (by decide) (by decide)
  · simp only [List.mem_cons, List.not_mem_nil, or_false] at hd
    rcases hd with rfl | rfl | rfl | rfl
    · exact hi 36 _ (by decide) (by decide)
    · exact hi 37 _ (by decide) (by decide)
    · exact hi 38 _ (by decide) (by decide)
    · exact hi 39 _ (by decide) (by decide)
theorem OrdM.fr {f' : TF} (h : OrdM f q1 am i o) (hd : DisM q1 mB am) (hf : Fr [42, 43, 44, 45, 46] q1 f f') : OrdM f' q1 am i o := h.keep (fun k z h1 h2 => hf.1 _ z (Or.inl (hd.2.1 k h1 h2).1)) hf.2
/-- what is owed where the reference stops in a line -/
def KM (L : List Nat) (q1 mB : Nat) (am : Nat → Nat) (i : Nat) (f0 : TF) (B : Nat → Int32) (N : Nat) (Q : Int32 → List Nat → TF → Prop) (r : LR) : Prop := ∀ f' : TF, AtM f' q1 mB B N r.2.1 → OrdM f' q1 am i r.2.2 → FM q1 am i f0 f' → Ok L f' → Q (cond r.1 1 0) L f'
theorem KM.yes {b' : Nat} {o' : OS} (h : KM L q1 mB am i f0 B N Q (true, b', o')) : ∀ f' : TF, AtM f' q1 mB B N b' → OrdM f' q1 am i o' → FM q1 am i f0 f' → Ok L f' → Q 1 L f' := h
theorem tk_K {c : Int32} {r : Nat → LR} {Q' : Int32 → List Nat → TF → Prop} (hd : DisM q1 mB am) (hN : N ≤ 400) (hA : AtM f q1 mB B N b) (hOr : OrdM f q1 am i o) (hF : FM q1 am i f0 f) (hO : Ok L f) (hK : KM L q1 mB am i f0 B N Q (ex B N o c r b)) (h1 : tC B N b = c → ∀ f' : TF, AtM f' q1 mB B N (tE B N b) → ti f' q1 46 = ti f q1 45 → OrdM f' q1 am i o → FM q1 am i f0 f' → Ok L f' → KM L q1 mB am i f0 B N Q (r (tE B N b)) → Q' 1 L f') (h0 : Q 0 L f → Q' 0 L f) : wp_Md_takes_w L f q1 c Q' :=
  takes_m hd.1 hN hA (fun c f' a g fr hO' => h1 c f' a g (hOr.fr hd fr) (hF.trans (FM.fr hd fr)) hO' (by rw [ex_y c] at hK; exact hK)) (fun c => h0 (by rw [ex_n c] at hK; exact hK f hA hOr hF hO))
theorem nI_ix {w n k : Nat} {wI : Int32} (hw : wI = nI w) : wI * nI n + nI k = nI (w * n + k) := by rw [hw, pk_mul, nI_add]
theorem wc_eq : ∀ k : Nat, k < 9 → (wc k = 10 ↔ k = 0) ∧ (wc k = 11 ↔ k = 1) ∧ (wc k = 16 ↔ k = 6) ∧ wc k = nI (10 + k) := by decide +kernel
theorem fin0_m {b7 : Nat} {a b' n : Int32} {f7 f8 f9 f10 f11 : TF} (hd : DisM q1 mB am) (hl : o.1.1 < 12) (A7 : AtM f7 q1 mB B N b7) (O7 : OrdM f7 q1 am i o) (F7 : FM q1 am i f f7) (hf8 : f8 = sI f7 (am 33) (12 * i + o.1.1) a) (hf9 : f9 = sI f8 (am 34) (12 * i + o.1.1) b') (hf10 : f10 = sI f9 (am 35) (12 * i + o.1.1) n) (hf11 : f11 = sI f10 (am 32) i (nI o.1.1 + 1)) : AtM f11 q1 mB B N b7 ∧ OrdM f11 q1 am i (addL o.1 a b' n, o.2) ∧ FM q1 am i f f11 := by
  have ne : ∀ x y, 32 ≤ x → x ≤ 41 → 32 ≤ y → y ≤ 41 → x ≠ y → am x ≠ am y := fun x y a1 a2 b1 b2 h e => h (hd.2.2 x y a1 a2 b1 b2 e)
  have hF : FM q1 am i f7 f11 := by
    rw [hf11, hf10, hf9, hf8]
    exact (((FM.set hd (by decide) (by decide) (by show 12 * i ≤ _; omega)).trans (FM.set hd (by decide) (by decide) (by show 12 * i ≤ _; omega))).trans (FM.set hd (by decide) (by decide) (by show 12 * i ≤ _; omega))).trans (FM.set hd (by decide) (by decide) (by show 1 * i ≤ _; omega))
  have hc : ∀ d z, d ≠ am 32 → d ≠ am 33 → d ≠ am 34 → d ≠ am 35 → ti f11 d z = ti f7 d z := fun d z h1 h2 h3 h4 => by rw [hf11, hf10, hf9, hf8, ti_sI_ne h1, ti_sI_ne h4, ti_sI_ne h3, ti_sI_ne h2]
  have hoth : ∀ y z, 32 ≤ y → y ≤ 41 → y ≠ 32 → y ≠ 33 → y ≠ 34 → y ≠ 35 → ti f11 (am y) z = ti f7 (am y) z := fun y z b1 b2 h1 h2 h3 h4 => hc _ z (ne y 32 b1 b2 (by decide) (by decide) h1) (ne y 33 b1 b2 (by decide) (by decide) h2) (ne y 34 b1 b2 (by decide) (by decide) h3) (ne y 35 b1 b2 (by decide) (by decide) h4)
  have A11 : AtM f11 q1 mB B N _ := A7.keep (fun c z h => by
    have hcq : ∀ y, 32 ≤ y → y ≤ 41 → c ≠ am y := fun y b1 b2 e => by
      rcases h with h | h
      · exact (hd.2.1 y b1 b2).1 (e.symm.trans h.1)
      · exact (hd.2.1 y b1 b2).2 (e.symm.trans h)
    exact hc c z (hcq 32 (by decide) (by decide)) (hcq 33 (by decide) (by decide)) (hcq 34 (by decide) (by decide)) (hcq 35 (by decide) (by decide))) hF.2.2.2
  have P1 := (O7.2.1.add (ne _ _ (by decide) (by decide) (by decide) (by decide) (by decide)) (ne _ _ (by decide) (by decide) (by decide) (by decide) (by decide)) (ne _ _ (by decide) (by decide) (by decide) (by decide) (by decide)) (ne _ _ (by decide) (by decide) (by decide) (by decide) (by decide)) (ne _ _ (by decide) (by decide) (by decide) (by decide) (by decide)) (ne _ _ (by decide) (by decide) (by decide) (by decide) (by decide)) hf8 hf9 hf10 hf11)
  have P2 := (O7.2.2.1.keep (fun d z h => by
    simp only [List.mem_cons, List.not_mem_nil, or_false] at h
    rcases h with rfl | rfl | rfl | rfl
    · exact hoth 36 z (by decide) (by decide) (by decide) (by decide) (by decide) (by decide)
    · exact hoth 37 z (by decide) (by decide) (by decide) (by decide) (by decide) (by decide)
    · exact hoth 38 z (by decide) (by decide) (by decide) (by decide) (by decide) (by decide)
    · exact hoth 39 z (by decide) (by decide) (by decide) (by decide) (by decide) (by decide)
    ))
  exact ⟨A11, ⟨fun y b1 b2 => (hF.2.2.2 _ _).trans (O7.1 y b1 b2), P1, P2, fun j hj => (hoth 40 _ (by decide) (by decide) (by decide) (by decide) (by decide) (by decide)).trans (O7.2.2.2.1 j hj), fun h => (hoth 41 _ (by decide) (by decide) (by decide) (by decide) (by decide) (by decide)).trans (O7.2.2.2.2 h)⟩, F7.trans hF⟩
theorem fin1_m {b7 : Nat} {a b' n : Int32} {f7 f8 f9 f10 f11 : TF} (hd : DisM q1 mB am) (hl : o.2.1.1 < 12) (A7 : AtM f7 q1 mB B N b7) (O7 : OrdM f7 q1 am i o) (F7 : FM q1 am i f f7) (hf8 : f8 = sI f7 (am 37) (12 * i + o.2.1.1) a) (hf9 : f9 = sI f8 (am 38) (12 * i + o.2.1.1) b') (hf10 : f10 = sI f9 (am 39) (12 * i + o.2.1.1) n) (hf11 : f11 = sI f10 (am 36) i (nI o.2.1.1 + 1)) : AtM f11 q1 mB B N b7 ∧ OrdM f11 q1 am i (o.1, addL o.2.1 a b' n, o.2.2) ∧ FM q1 am i f f11 := by
  have ne : ∀ x y, 32 ≤ x → x ≤ 41 → 32 ≤ y → y ≤ 41 → x ≠ y → am x ≠ am y := fun x y a1 a2 b1 b2 h e => h (hd.2.2 x y a1 a2 b1 b2 e)
  have hF : FM q1 am i f7 f11 := by
    rw [hf11, hf10, hf9, hf8]
    exact (((FM.set hd (by decide) (by decide) (by show 12 * i ≤ _; omega)).trans (FM.set hd (by decide) (by decide) (by show 12 * i ≤ _; omega))).trans (FM.set hd (by decide) (by decide) (by show 12 * i ≤ _; omega))).trans (FM.set hd (by decide) (by decide) (by show 1 * i ≤ _; omega))
  have hc : ∀ d z, d ≠ am 36 → d ≠ am 37 → d ≠ am 38 → d ≠ am 39 → ti f11 d z = ti f7 d z := fun d z h1 h2 h3 h4 => by rw [hf11, hf10, hf9, hf8, ti_sI_ne h1, ti_sI_ne h4, ti_sI_ne h3, ti_sI_ne h2]
  have hoth : ∀ y z, 32 ≤ y → y ≤ 41 → y ≠ 36 → y ≠ 37 → y ≠ 38 → y ≠ 39 → ti f11 (am y) z = ti f7 (am y) z := fun y z b1 b2 h1 h2 h3 h4 => hc _ z (ne y 36 b1 b2 (by decide) (by decide) h1) (ne y 37 b1 b2 (by decide) (by decide) h2) (ne y 38 b1 b2 (by decide) (by decide) h3) (ne y 39 b1 b2 (by decide) (by decide) h4)
  have A11 : AtM f11 q1 mB B N _ := A7.keep (fun c z h => by
    have hcq : ∀ y, 32 ≤ y → y ≤ 41 → c ≠ am y := fun y b1 b2 e => by
      rcases h with h | h
      · exact (hd.2.1 y b1 b2).1 (e.symm.trans h.1)
      · exact (hd.2.1 y b1 b2).2 (e.symm.trans h)
    exact hc c z (hcq 36 (by decide) (by decide)) (hcq 37 (by decide) (by decide)) (hcq 38 (by decide) (by decide)) (hcq 39 (by decide) (by decide))) hF.2.2.2
  have P1 := (O7.2.1.keep (fun d z h => by
    simp only [List.mem_cons, List.not_mem_nil, or_false] at h
    rcases h with rfl | rfl | rfl | rfl
    · exact hoth 32 z (by decide) (by decide) (by decide) (by decide) (by decide) (by decide)
    · exact hoth 33 z (by decide) (by decide) (by decide) (by decide) (by decide) (by decide)
    · exact hoth 34 z (by decide) (by decide) (by decide) (by decide) (by decide) (by decide)
    · exact hoth 35 z (by decide) (by decide) (by decide) (by decide) (by decide) (by decide)
    ))
  have P2 := (O7.2.2.1.add (ne _ _ (by decide) (by decide) (by decide) (by decide) (by decide)) (ne _ _ (by decide) (by decide) (by decide) (by decide) (by decide)) (ne _ _ (by decide) (by decide) (by decide) (by decide) (by decide)) (ne _ _ (by decide) (by decide) (by decide) (by decide) (by decide)) (ne _ _ (by decide) (by decide) (by decide) (by decide) (by decide)) (ne _ _ (by decide) (by decide) (by decide) (by decide) (by decide)) hf8 hf9 hf10 hf11)
  exact ⟨A11, ⟨fun y b1 b2 => (hF.2.2.2 _ _).trans (O7.1 y b1 b2), P1, P2, fun j hj => (hoth 40 _ (by decide) (by decide) (by decide) (by decide) (by decide) (by decide)).trans (O7.2.2.2.1 j hj), fun h => (hoth 41 _ (by decide) (by decide) (by decide) (by decide) (by decide) (by decide)).trans (O7.2.2.2.2 h)⟩, F7.trans hF⟩
set_option maxHeartbeats 1000000 in
theorem line_m (hd : DisM q1 mB am) (hN : N ≤ 400) (hi : i < 20) (hA : AtM f q1 mB B N b) (hOr : OrdM f q1 am i o) (hw : WfO o) (hO : Ok L f) (hK : KM L q1 mB am i f B N Q (ln B N o b)) : wp_Md_line_w L f q1 (nI i) Q := by
  have Z : ln B N o b = (false, b, o) → Q 0 L f := fun e => by rw [e] at hK; exact hK f hA hOr FM.rf hO
  have hIi : (nI i).toNatClampNeg = i := nI_clamp (by omega)
  unfold wp_Md_line_w
  rw [hA.code.1]
  refine ⟨fun g => ?_, fun g => Z (ln_low (Int32.not_le.mp g))⟩
  obtain ⟨k, hk, ck⟩ := (tC_vals B N b).resolve_left (fun h => absurd g (Int32.not_le.mpr h))
  obtain ⟨w0, w1, w6, wk⟩ := wc_eq k hk
  rw [ck]
  refine ⟨fun g10 => ?_, fun g10 => ⟨fun g11 => ?_, fun g11 => ?_⟩⟩
  · have k0 : k = 0 := w0.mp g10
    subst k0
    intro q2 e2 x3 e3
    rw [hOr.1 32 (by decide) (by decide)] at e2; cases e2
    rw [hIi, hOr.2.1.1] at e3
    subst e3
    have hn := hw.1
    refine ⟨fun g12 => Z (ln_full (by decide) ck (decide_eq_false (fun h => ?_))), fun g12 => ?_⟩
    · rw [show (12 : Int32) = nI 12 from rfl, nI_eq (by omega) (by omega)] at g12; omega
    · rw [show (12 : Int32) = nI 12 from rfl, nI_eq (by omega) (by omega)] at g12
      have hl : o.1.1 < 12 := by omega
      have hr : roomO o 0 = true := decide_eq_true hl
      rw [ln_go (by decide) ck (by rw [hr]; decide)] at hK
      unfold lr at hK
      rw [if_pos (by decide)] at hK
      refine next_m hd.1 hN hA (fun f1 A1 fr1 hO1 _ _ => ?_)
      have O1 := hOr.fr hd (fr1.mono (by decide))
      have F1 : FM q1 am i f f1 := FM.fr hd (fr1.mono (by decide))
      have K1 := hK
      refine ⟨tk_K (c := 1) hd hN A1 O1 F1 hO1 K1 (fun _ _ _ _ _ _ _ _ _ _ => ⟨fun k => absurd k (by decide), fun _ => trivial⟩) (fun q _ _ => ⟨fun _ => q, fun _ => trivial⟩), ?_⟩
      refine tk_K (c := 1) hd hN A1 O1 F1 hO1 K1 (fun c1 f2 A2 g2 O2 F2 hO2 K2 _ _ => ⟨fun k => absurd k (by decide), fun _ x1 e1 => ?_⟩) (fun q _ _ => ⟨fun _ => q, fun k => absurd k (by decide)⟩)
      rw [g2, A1.code.2 c1] at e1
      subst e1
      refine tk_K (c := 4) hd hN A2 O2 F2 hO2 K2 (fun c2 f3 A3 g3 O3 F3 hO3 K3 _ _ => ⟨fun k => absurd k (by decide), fun _ => ?_⟩) (fun q _ _ => ⟨fun _ => q, fun k => absurd k (by decide)⟩)
      refine tk_K (c := 1) hd hN A3 O3 F3 hO3 K3 (fun c3 f4 A4 g4 O4 F4 hO4 K4 _ _ => ⟨fun k => absurd k (by decide), fun _ x3 e3 => ?_⟩) (fun q _ _ => ⟨fun _ => q, fun k => absurd k (by decide)⟩)
      rw [g4, A3.code.2 c3] at e3
      subst e3
      refine tk_K (c := 5) hd hN A4 O4 F4 hO4 K4 (fun c4 f5 A5 g5 O5 F5 hO5 K5 _ _ => ⟨fun k => absurd k (by decide), fun _ => ?_⟩) (fun q _ _ => ⟨fun _ => q, fun k => absurd k (by decide)⟩)
      refine tk_K (c := 1) hd hN A5 O5 F5 hO5 K5 (fun c5 f6 A6 g6 O6 F6 hO6 K6 _ _ => ⟨fun k => absurd k (by decide), fun _ x5 e5 => ?_⟩) (fun q _ _ => ⟨fun _ => q, fun k => absurd k (by decide)⟩)
      rw [g6, A5.code.2 c5] at e5
      subst e5
      refine tk_K (c := 2) hd hN A6 O6 F6 hO6 K6 (fun c6 f7 A7 g7 O7 F7 hO7 K7 _ _ => ⟨fun k => absurd k (by decide), fun _ => ?_⟩) (fun q _ _ => ⟨fun _ => q, fun k => absurd k (by decide)⟩)
      have hz : (12 * nI i + nI o.1.1 : Int32).toNatClampNeg = 12 * i + o.1.1 := by rw [nI_ix (wI := 12) (w := 12) rfl, nI_clamp (by omega)]
      intro q8 e8 f8 hf8 hO8 q9 e9 f9 hf9 hO9 q10 e10 f10 hf10 hO10 f11 hf11 hO11
      have t8 : ∀ c z, tr f8 c z = tr f7 c z := fun c z => by rw [hf8]; exact tr_sI
      have t9 : ∀ c z, tr f9 c z = tr f7 c z := fun c z => by rw [hf9, tr_sI]; exact t8 c z
      rw [O7.1 33 (by decide) (by decide)] at e8; cases e8
      rw [t8, O7.1 34 (by decide) (by decide)] at e9; cases e9
      rw [t9, O7.1 35 (by decide) (by decide)] at e10; cases e10
      rw [hz] at hf8 hf9 hf10
      rw [hIi] at hf11
      obtain ⟨y1, y2, y3⟩ := fin0_m hd hl A7 O7 F7 hf8 hf9 hf10 hf11
      have ha : ∀ a b' n : Int32, addO o 0 a b' n = (addL o.1 a b' n, o.2) := fun _ _ _ => rfl
      rw [ha] at K7
      exact KM.yes K7 f11 y1 y2 y3 hO11
  · have k0 : k = 1 := w1.mp g11
    subst k0
    intro q2 e2 x3 e3
    rw [hOr.1 36 (by decide) (by decide)] at e2; cases e2
    rw [hIi, hOr.2.2.1.1] at e3
    subst e3
    have hn := hw.2.1
    refine ⟨fun g12 => Z (ln_full (by decide) ck (decide_eq_false (fun h => ?_))), fun g12 => ?_⟩
    · rw [show (12 : Int32) = nI 12 from rfl, nI_eq (by omega) (by omega)] at g12; omega
    · rw [show (12 : Int32) = nI 12 from rfl, nI_eq (by omega) (by omega)] at g12
      have hl : o.2.1.1 < 12 := by omega
      have hr : roomO o 1 = true := decide_eq_true hl
      rw [ln_go (by decide) ck (by rw [hr]; decide)] at hK
      unfold lr at hK
      rw [if_pos (by decide)] at hK
      refine next_m hd.1 hN hA (fun f1 A1 fr1 hO1 _ _ => ?_)
      have O1 := hOr.fr hd (fr1.mono (by decide))
      have F1 : FM q1 am i f f1 := FM.fr hd (fr1.mono (by decide))
      have K1 := hK
      refine ⟨tk_K (c := 1) hd hN A1 O1 F1 hO1 K1 (fun _ _ _ _ _ _ _ _ _ _ => ⟨fun k => absurd k (by decide), fun _ => trivial⟩) (fun q _ _ => ⟨fun _ => q, fun _ => trivial⟩), ?_⟩
      refine tk_K (c := 1) hd hN A1 O1 F1 hO1 K1 (fun c1 f2 A2 g2 O2 F2 hO2 K2 _ _ => ⟨fun k => absurd k (by decide), fun _ x1 e1 => ?_⟩) (fun q _ _ => ⟨fun _ => q, fun k => absurd k (by decide)⟩)
      rw [g2, A1.code.2 c1] at e1
      subst e1
      refine tk_K (c := 4) hd hN A2 O2 F2 hO2 K2 (fun c2 f3 A3 g3 O3 F3 hO3 K3 _ _ => ⟨fun k => absurd k (by decide), fun _ => ?_⟩) (fun q _ _ => ⟨fun _ => q, fun k => absurd k (by decide)⟩)
      refine tk_K (c := 1) hd hN A3 O3 F3 hO3 K3 (fun c3 f4 A4 g4 O4 F4 hO4 K4 _ _ => ⟨fun k => absurd k (by decide), fun _ x3 e3 => ?_⟩) (fun q _ _ => ⟨fun _ => q, fun k => absurd k (by decide)⟩)
      rw [g4, A3.code.2 c3] at e3
      subst e3
      refine tk_K (c := 5) hd hN A4 O4 F4 hO4 K4 (fun c4 f5 A5 g5 O5 F5 hO5 K5 _ _ => ⟨fun k => absurd k (by decide), fun _ => ?_⟩) (fun q _ _ => ⟨fun _ => q, fun k => absurd k (by decide)⟩)
      refine tk_K (c := 1) hd hN A5 O5 F5 hO5 K5 (fun c5 f6 A6 g6 O6 F6 hO6 K6 _ _ => ⟨fun k => absurd k (by decide), fun _ x5 e5 => ?_⟩) (fun q _ _ => ⟨fun _ => q, fun k => absurd k (by decide)⟩)
      rw [g6, A5.code.2 c5] at e5
      subst e5
      refine tk_K (c := 2) hd hN A6 O6 F6 hO6 K6 (fun c6 f7 A7 g7 O7 F7 hO7 K7 _ _ => ⟨fun k => absurd k (by decide), fun _ => ?_⟩) (fun q _ _ => ⟨fun _ => q, fun k => absurd k (by decide)⟩)
      have hz : (12 * nI i + nI o.2.1.1 : Int32).toNatClampNeg = 12 * i + o.2.1.1 := by rw [nI_ix (wI := 12) (w := 12) rfl, nI_clamp (by omega)]
      intro q8 e8 f8 hf8 hO8 q9 e9 f9 hf9 hO9 q10 e10 f10 hf10 hO10 f11 hf11 hO11
      have t8 : ∀ c z, tr f8 c z = tr f7 c z := fun c z => by rw [hf8]; exact tr_sI
      have t9 : ∀ c z, tr f9 c z = tr f7 c z := fun c z => by rw [hf9, tr_sI]; exact t8 c z
      rw [O7.1 37 (by decide) (by decide)] at e8; cases e8
      rw [t8, O7.1 38 (by decide) (by decide)] at e9; cases e9
      rw [t9, O7.1 39 (by decide) (by decide)] at e10; cases e10
      rw [hz] at hf8 hf9 hf10
      rw [hIi] at hf11
      obtain ⟨y1, y2, y3⟩ := fin1_m hd hl A7 O7 F7 hf8 hf9 hf10 hf11
      have ha : ∀ a b' n : Int32, addO o 1 a b' n = (o.1, addL o.2.1 a b' n, o.2.2) := fun _ _ _ => rfl
      rw [ha] at K7
      exact KM.yes K7 f11 y1 y2 y3 hO11
  · have k0 : k ≠ 0 := fun e => g10 (w0.mpr e)
    have k1 : k ≠ 1 := fun e => g11 (w1.mpr e)
    have hz : ((9 * nI i + wc k) - 10 : Int32).toNatClampNeg = 9 * i + k := by rw [wk, nI_ix (wI := 9) (w := 9) rfl, show (10 : Int32) = nI 10 from rfl, pk_sub (by omega), nI_clamp (by omega)]; omega
    rw [hz, hIi]
    intro q2 e2 x3 e3
    rw [hOr.1 40 (by decide) (by decide)] at e2; cases e2
    rw [hOr.2.2.2.1 k hk] at e3
    subst e3
    have hrk : roomO o k = decide (o.2.2.1 k = -1) := by unfold roomO; rw [if_neg k0, if_neg k1]
    refine ⟨fun g6 => ?_, fun g6 => Z (ln_full hk ck (by rw [hrk]; exact decide_eq_false (fun h => g6 (by rw [h]; decide))))⟩
    have hr : roomO o k = true := by
      rw [hrk]
      rcases hw.2.2.1 k hk with h | h
      · exact decide_eq_true h
      · exact absurd g6 h
    rw [ln_go hk ck (by rw [hr]; decide)] at hK
    unfold lr at hK
    rw [if_neg (by omega)] at hK
    have ne : ∀ x y, 32 ≤ x → x ≤ 41 → 32 ≤ y → y ≤ 41 → x ≠ y → am x ≠ am y := fun x y a1 a2 b1 b2 h e => h (hd.2.2 x y a1 a2 b1 b2 e)
    have fin : ∀ (f' f'' : TF) (b' : Nat) (a s : Int32), AtM f' q1 mB B N b' → OrdM f' q1 am i o → FM q1 am i f f' → (∀ c z, c ≠ am 40 → c ≠ am 41 → ti f'' c z = ti f' c z) → (∀ z, ti f'' (am 40) z = if z = 9 * i + k then a else ti f' (am 40) z) → (addS o.2.2.1 k a 6 ≠ -1 → ti f'' (am 41) i = s) → FM q1 am i f' f'' → AtM f'' q1 mB B N b' ∧ OrdM f'' q1 am i (o.1, o.2.1, addS o.2.2.1 k a, s) ∧ FM q1 am i f f'' := by
      intro f' f'' b' a s hA' hOr' hF' hc h40 h41 hF''
      have hoth : ∀ y z, 32 ≤ y → y ≤ 41 → y ≠ 40 → y ≠ 41 → ti f'' (am y) z = ti f' (am y) z := fun y z b1 b2 h1 h2 => hc _ z (ne y 40 b1 b2 (by decide) (by decide) h1) (ne y 41 b1 b2 (by decide) (by decide) h2)
      refine ⟨hA'.keep (fun c z h => ?_) hF''.2.2.2, ⟨fun y b1 b2 => (hF''.2.2.2 _ _).trans (hOr'.1 y b1 b2), hOr'.2.1.keep (fun d z h => ?_), hOr'.2.2.1.keep (fun d z h => ?_), fun j hj => ?_, h41⟩, hF'.trans hF''⟩
      · have hcq : ∀ y, 32 ≤ y → y ≤ 41 → c ≠ am y := fun y b1 b2 e => by
          rcases h with h | h
          · exact (hd.2.1 y b1 b2).1 (e.symm.trans h.1)
          · exact (hd.2.1 y b1 b2).2 (e.symm.trans h)
        exact hc c z (hcq 40 (by decide) (by decide)) (hcq 41 (by decide) (by decide))
      · simp only [List.mem_cons, List.not_mem_nil, or_false] at h
        rcases h with rfl | rfl | rfl | rfl
        · exact hoth 32 z (by decide) (by decide) (by decide) (by decide)
        · exact hoth 33 z (by decide) (by decide) (by decide) (by decide)
        · exact hoth 34 z (by decide) (by decide) (by decide) (by decide)
        · exact hoth 35 z (by decide) (by decide) (by decide) (by decide)
      · simp only [List.mem_cons, List.not_mem_nil, or_false] at h
        rcases h with rfl | rfl | rfl | rfl
        · exact hoth 36 z (by decide) (by decide) (by decide) (by decide)
        · exact hoth 37 z (by decide) (by decide) (by decide) (by decide)
        · exact hoth 38 z (by decide) (by decide) (by decide) (by decide)
        · exact hoth 39 z (by decide) (by decide) (by decide) (by decide)
      · show _ = if j = k then a else o.2.2.1 j
        rw [h40]
        by_cases e : j = k
        · rw [if_pos (by omega), if_pos e]
        · rw [if_neg (by omega), if_neg e]; exact hOr'.2.2.2.1 j hj
    have s40 : ∀ (f' : TF) (z : Nat) (a : Int32), ti (sI f' (am 40) (9 * i + k) a) (am 40) z = if z = 9 * i + k then a else ti f' (am 40) z := fun f' z a => by
      rw [ti_sI]
      by_cases e : z = 9 * i + k
      · rw [if_pos ⟨rfl, e⟩, if_pos e]
      · rw [if_neg (fun h => e h.2), if_neg e]
    have n41 : am 40 ≠ am 41 := ne 40 41 (by decide) (by decide) (by decide) (by decide) (by decide)
    have m40 : ∀ (f' : TF) (a : Int32), FM q1 am i f' (sI f' (am 40) (9 * i + k) a) := fun f' a => FM.set hd (by decide) (by decide) (by show 9 * i ≤ _; omega)
    have m41 : ∀ (f' : TF) (a : Int32), FM q1 am i f' (sI f' (am 41) i a) := fun f' a => FM.set hd (by decide) (by decide) (by show 1 * i ≤ _; omega)
    refine next_m hd.1 hN hA (fun f1 A1 fr1 hO1 _ _ => ?_)
    have O1 := hOr.fr hd (fr1.mono (by decide))
    have F1 : FM q1 am i f f1 := FM.fr hd (fr1.mono (by decide))
    by_cases k6 : k = 6
    · rw [if_pos k6] at hK
      have K1 := hK
      refine ⟨tk_K (c := 1) hd hN A1 O1 F1 hO1 K1 (fun _ _ _ _ _ _ _ _ _ _ => ⟨fun k => absurd k (by decide), fun _ => trivial⟩) (fun q _ _ => ⟨fun _ => q, fun _ => trivial⟩), ?_⟩
      refine tk_K (c := 1) hd hN A1 O1 F1 hO1 K1 (fun c1 f2 A2 g2 O2 F2 hO2 K2 _ _ => ⟨fun k => absurd k (by decide), fun _ x1 e1 => ?_⟩) (fun q _ _ => ⟨fun _ => q, fun k => absurd k (by decide)⟩)
      rw [g2, A1.code.2 c1] at e1
      subst e1
      refine ⟨fun _ => ?_, fun h => absurd (w6.mpr k6) h⟩
      refine tk_K (c := 4) hd hN A2 O2 F2 hO2 K2 (fun c2 f3 A3 g3 O3 F3 hO3 K3 _ _ => ⟨fun k => absurd k (by decide), fun _ => ?_⟩) (fun q _ _ => ⟨fun _ => q, fun k => absurd k (by decide)⟩)
      refine tk_K (c := 1) hd hN A3 O3 F3 hO3 K3 (fun c3 f4 A4 g4 O4 F4 hO4 K4 _ _ => ⟨fun k => absurd k (by decide), fun _ x3 e3 => ?_⟩) (fun q _ _ => ⟨fun _ => q, fun k => absurd k (by decide)⟩)
      rw [g4, A3.code.2 c3] at e3
      subst e3
      refine tk_K (c := 2) hd hN A4 O4 F4 hO4 K4 (fun c4 f5 A5 g5 O5 F5 hO5 K5 _ _ => ⟨fun k => absurd k (by decide), fun _ => ?_⟩) (fun q _ _ => ⟨fun _ => q, fun k => absurd k (by decide)⟩)
      intro f6 hf6 _ q7 e7 f7 hf7 hO7
      rw [hf6, tr_sI, O5.1 41 (by decide) (by decide)] at e7; cases e7
      obtain ⟨y1, y2, y3⟩ := fin f5 f7 _ _ _ A5 O5 F5 (fun c z h1 h2 => by rw [hf7, hf6, ti_sI_ne h2, ti_sI_ne h1]) (fun z => by rw [hf7, hf6, ti_sI_ne n41]; exact s40 _ _ _) (fun _ => by rw [hf7, ti_sI_eq]) (by rw [hf7, hf6]; exact (m40 _ _).trans (m41 _ _))
      have ha : ∀ a s n : Int32, addO o k a s n = (o.1, o.2.1, addS o.2.2.1 k a, s) := fun a s n => by unfold addO; rw [if_neg k0, if_neg k1, if_pos k6]
      rw [ha] at K5
      exact KM.yes K5 f7 y1 y2 y3 hO7
    · rw [if_neg k6] at hK
      have K1 := hK
      refine ⟨tk_K (c := 1) hd hN A1 O1 F1 hO1 K1 (fun _ _ _ _ _ _ _ _ _ _ => ⟨fun k => absurd k (by decide), fun _ => trivial⟩) (fun q _ _ => ⟨fun _ => q, fun _ => trivial⟩), ?_⟩
      refine tk_K (c := 1) hd hN A1 O1 F1 hO1 K1 (fun c1 f2 A2 g2 O2 F2 hO2 K2 _ _ => ⟨fun k => absurd k (by decide), fun _ x1 e1 => ?_⟩) (fun q _ _ => ⟨fun _ => q, fun k => absurd k (by decide)⟩)
      rw [g2, A1.code.2 c1] at e1
      subst e1
      refine ⟨fun h => absurd (w6.mp h) k6, fun _ => ?_⟩
      refine tk_K (c := 2) hd hN A2 O2 F2 hO2 K2 (fun c2 f3 A3 g3 O3 F3 hO3 K3 _ _ => ⟨fun k => absurd k (by decide), fun _ => ?_⟩) (fun q _ _ => ⟨fun _ => q, fun k => absurd k (by decide)⟩)
      intro f4 hf4 _ q5 e5 x6 e6 f5 hf5 hO5
      rw [hf4, tr_sI, O3.1 41 (by decide) (by decide)] at e5; cases e5
      rw [hf4, ti_sI_ne n41.symm] at e6
      obtain ⟨y1, y2, y3⟩ := fin f3 f5 _ _ o.2.2.2 A3 O3 F3 (fun c z h1 h2 => by rw [hf5, hf4, ti_sI_ne h2, ti_sI_ne h1]) (fun z => by rw [hf5, hf4, ti_sI_ne n41]; exact s40 _ _ _) (fun h => by rw [hf5, ti_sI_eq, ← e6]; exact O3.2.2.2.2 (fun z => h (by unfold addS; rw [if_neg (fun e => k6 e.symm)]; exact z))) (by rw [hf5, hf4]; exact (m40 _ _).trans (m41 _ _))
      have ha : ∀ a : Int32, addO o k a 0 0 = (o.1, o.2.1, addS o.2.2.1 k a, o.2.2.2) := fun a => by unfold addO; rw [if_neg k0, if_neg k1, if_neg k6]
      rw [ha] at K3
      exact KM.yes K3 f5 y1 y2 y3 hO5
end RDM
end LINE
