section ROX
variable {L : List Nat} {f : TF} {q0 q1 : Nat} {ad : Nat → Nat}
theorem tl_nC {q k b j : Nat} (h : b ≠ q) : tl (nC f q k) b j = tl f b j := by unfold tl nC; rw [va_up_ne _ _ h]
theorem RK_kd {k : Nat} (h : k ∈ RK) : 33 ≤ kd k := by
  unfold RK at h
  unfold kd
  simp only [List.mem_cons, List.not_mem_nil, or_false] at h
  repeat' split
  all_goals omega
theorem HV.pos {c1 c2 c3 c4 c5 c6 c7 : Prop} {v : Int32} (h : HV c1 c2 c3 c4 c5 c6 c7 v) (h0 : ¬ v = 0) : ¬ v ≤ 0 := by
  rcases h with ⟨-, e⟩ | ⟨-, -, e⟩ | ⟨-, -, -, e⟩ | ⟨-, -, -, -, e⟩ | ⟨-, -, -, -, -, e⟩ | ⟨-, -, -, -, -, -, e⟩ | ⟨-, -, -, -, -, -, -, e⟩ | ⟨-, -, -, -, -, -, -, e⟩
  all_goals first
    | exact absurd e h0
    | (rw [e]; decide)
theorem HV.zero {c1 c2 c3 c4 c5 c6 c7 : Prop} (h : HV c1 c2 c3 c4 c5 c6 c7 0) : ¬ c2 ∧ ¬ c3 ∧ ¬ c7 := by
  rcases h with ⟨-, e⟩ | ⟨-, -, e⟩ | ⟨-, -, -, e⟩ | ⟨-, -, -, -, e⟩ | ⟨-, -, -, -, -, e⟩ | ⟨-, -, -, -, -, -, e⟩ | ⟨-, -, -, -, -, -, -, e⟩ | ⟨-, k2, k3, -, -, -, k7, -⟩
  all_goals first
    | exact ⟨k2, k3, k7⟩
    | exact absurd e (by decide)
theorem asked_r {nB : Nat} {p0 p1 p2 : Int32} {Q : Int32 → Prop} (r : ∀ k, k ∈ RK → tr f q1 k = some (ad k)) (h20 : nB ≤ 20) (h21 : ti f q1 21 = nI nB) (h0 : ((p0 < 0 ∨ nI nB - 1 < p0) ∨ ¬ isM p1 ∨ ∃ b, b < nB ∧ p0 = nI b ∧ (¬ ti f (ad 26) b = 0 ∨ ¬ St f q1 p2 ∨ p2 = ti f (ad 23) b)) → Q 0) (h1 : ∀ b, b < nB → p0 = nI b → isM p1 → ti f (ad 26) b = 0 → St f q1 p2 → ¬ p2 = ti f (ad 23) b → Q 1) : wp_Md_isAsked_w L f q1 p0 p1 p2 Q := by
  have hisB : ∀ {Q : Int32 → Prop}, ((p0 < 0 ∨ nI nB - 1 < p0) → Q 0) → (∀ b, b < nB → p0 = nI b → Q 1) → wp_Md_isBoat_w L f q1 p0 Q := by
    intro Q hn hs x1 e1
    rw [h21] at e1
    subst e1
    refine ⟨fun g => hn (Or.inl g), fun g => ⟨fun g2 => hn (Or.inr g2), fun g2 => ?_⟩⟩
    have z1 : (1 : Int32).toInt = 1 := by decide
    have k1 := nI_toInt (n := nB) (by omega)
    rw [Int32.lt_iff_toInt_lt, fb_subI (by omega) (by omega)] at g2
    obtain ⟨b, hb, e⟩ := nI_of2 (M := nI nB) (n := nB) k1 g (by rw [Int32.le_iff_toInt_le]; omega)
    have k2 := nI_toInt (n := b) (by omega)
    rw [e] at g2
    exact hs b (by omega) e
  refine hisB (fun h => ⟨fun _ => h0 (Or.inl h), fun z => absurd z (by decide)⟩) (fun b hb hp => ⟨fun z => absurd z (by decide), fun _ q4 e4 x5 e5 => ?_⟩)
  subst hp
  rw [r 26 (by decide)] at e4; cases e4
  rw [nI_clamp (by omega)] at e5
  subst e5
  refine ⟨fun g => mck (fun k => h0 (Or.inr (Or.inl k))) (fun k => isSt_m (fun k2 => ⟨fun _ => h0 (Or.inr (Or.inr ⟨b, hb, rfl, Or.inr (Or.inl k2)⟩)), fun z => absurd z (by decide)⟩) (fun k2 => ⟨fun z => absurd z (by decide), fun _ q14 e14 x15 e15 => ?_⟩)), fun g => h0 (Or.inr (Or.inr ⟨b, hb, rfl, Or.inl g⟩))⟩
  rw [r 23 (by decide)] at e14; cases e14
  rw [nI_clamp (by omega)] at e15
  subst e15
  exact ⟨fun z => h0 (Or.inr (Or.inr ⟨b, hb, rfl, Or.inr (Or.inr z)⟩)), fun z => h1 b hb rfl k g k2 z⟩
end ROX
