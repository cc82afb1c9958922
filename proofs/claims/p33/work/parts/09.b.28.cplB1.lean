section BOA
variable {L : List Nat} {f : TF} {q0 q1 : Nat} {ad : Nat → Nat} {T : Int32} {N nB nT : Nat}
/-- boat b at the time T: the program's cell c, the reference's rows -/
def BR (f : TF) (ad : Nat → Nat) (T : Int32) (N nT b c : Nat) : Prop := ti f c 0 = ti f (ad 22) b ∧ ti f c 1 = ti f (ad 23) b ∧ ti f c 2 = ti f (ad 24) b ∧ ti f c 5 = ti f (ad 26) b ∧ (∃ s, s < N ∧ ti f (ad 23) b = nI s) ∧ ((ti f (ad 25) b = -1 ∧ (¬ ti f c 5 = 0 ∨ ti f c 2 ≤ T)) ∨ ∃ t, t < nT ∧ ti f (ad 25) b = nI t ∧ ti f c 5 = 0 ∧ T < ti f c 2 ∧ ti f c 4 = nI t ∧ ti f (ad 53) t = ti f c 2 ∧ ti f (ad 48) t = nI b ∧ ∃ m, m < 40 ∧ ti f c 3 = nI m ∧ ti f (ad 49) t = nI m ∧ ti f (ad 16) m = nI t)
/-- man m's way at the time T -/
def MR (f : TF) (ad : Nat → Nat) (T : Int32) (nB nT m : Nat) : Prop := ti f (ad (100 + m)) 6 = ti f (ad 17) m ∧ ((ti f (ad 16) m = -1 ∧ ti f (ad (100 + m)) 5 ≤ T) ∨ ∃ t, t < nT ∧ ti f (ad 16) m = nI t ∧ T < ti f (ad (100 + m)) 5 ∧ ti f (ad 53) t = ti f (ad (100 + m)) 5 ∧ ti f (ad 49) t = nI m ∧ ∃ b, b < nB ∧ ti f (ad 48) t = nI b ∧ ti f (ad 25) b = nI t)
/-- trip t -/
def TR (f : TF) (ad : Nat → Nat) (N nB t c : Nat) : Prop := ti f c 0 = ti f (ad 48) t ∧ ti f c 1 = ti f (ad 49) t ∧ ti f c 2 = ti f (ad 52) t ∧ ti f c 3 = ti f (ad 54) t ∧ ti f c 4 = ti f (ad 50) t ∧ ti f c 5 = ti f (ad 51) t ∧ ti f c 6 = ti f (ad 53) t ∧ ti f c 7 = ti f (ad 55) t ∧ (∃ b, b < nB ∧ ti f (ad 48) t = nI b) ∧ ¬ ti f (ad 54) t < 0 ∧ ∃ s s', s < N ∧ s' < N ∧ s ≠ s' ∧ ti f (ad 50) t = nI s ∧ ti f (ad 51) t = nI s'
/-- where boats and trips lie -/
def BT (f : TF) (q0 q1 : Nat) (ad bt tp : Nat → Nat) (nB nT : Nat) : Prop := (nB ≤ 20 ∧ nT ≤ 600) ∧ (ti f q0 7 = nI nB ∧ ti f q1 21 = nI nB ∧ ti f q0 9 = nI nT ∧ ti f q1 47 = nI nT) ∧ (∀ b, b < nB → tr f (ad 66) b = some (bt b)) ∧ (∀ b b', b < nB → b' < nB → bt b = bt b' → b = b') ∧ (∀ t, t < nT → tr f (ad 67) t = some (tp t)) ∧ (∀ t t', t < nT → t' < nT → tp t = tp t' → t = t') ∧ ∀ b, nB ≤ b → b < 20 → ti f (ad 26) b = 0
/-- boats, trips and ways of both sides -/
def K3 (f : TF) (q0 q1 : Nat) (ad : Nat → Nat) (T : Int32) (N : Nat) : Prop := ∃ (bt tp : Nat → Nat) (nB nT : Nat), BT f q0 q1 ad bt tp nB nT ∧ (∀ b, b < nB → BR f ad T N nT b (bt b)) ∧ (∀ m, m < 40 → MR f ad T nB nT m) ∧ ∀ t, t < nT → TR f ad N nB t (tp t)
def R3 : List Nat := [16, 17, 22, 23, 24, 25, 26, 48, 49, 50, 51, 52, 53, 54, 55]
theorem R3_RK {k : Nat} (h : k ∈ R3) : k ∈ RK := by
  unfold R3 at h
  unfold RK
  simp only [List.mem_cons, List.not_mem_nil, or_false] at h ⊢
  omega
theorem BR.keep {f' : TF} {b c : Nat} (h : BR f ad T N nT b c) (h1 : ∀ k, k ∈ R3 → ∀ z, ti f' (ad k) z = ti f (ad k) z) (h2 : ∀ z, ti f' c z = ti f c z) : BR f' ad T N nT b c := by
  unfold BR at h ⊢
  have e16 := h1 16 (by decide)
  have e22 := h1 22 (by decide)
  have e23 := h1 23 (by decide)
  have e24 := h1 24 (by decide)
  have e25 := h1 25 (by decide)
  have e26 := h1 26 (by decide)
  have e48 := h1 48 (by decide)
  have e49 := h1 49 (by decide)
  have e53 := h1 53 (by decide)
  simp only [e16, e22, e23, e24, e25, e26, e48, e49, e53, h2]
  exact h
theorem MR.keep {f' : TF} {m : Nat} (h : MR f ad T nB nT m) (h1 : ∀ k, k ∈ R3 → ∀ z, ti f' (ad k) z = ti f (ad k) z) (h2 : ti f' (ad (100 + m)) 5 = ti f (ad (100 + m)) 5) (h3 : ti f' (ad (100 + m)) 6 = ti f (ad (100 + m)) 6) : MR f' ad T nB nT m := by
  unfold MR at h ⊢
  have e16 := h1 16 (by decide)
  have e17 := h1 17 (by decide)
  have e25 := h1 25 (by decide)
  have e48 := h1 48 (by decide)
  have e49 := h1 49 (by decide)
  have e53 := h1 53 (by decide)
  simp only [e16, e17, e25, e48, e49, e53, h2, h3]
  exact h
theorem TR.keep {f' : TF} {t c : Nat} (h : TR f ad N nB t c) (h1 : ∀ k, k ∈ R3 → ∀ z, ti f' (ad k) z = ti f (ad k) z) (h2 : ∀ z, ti f' c z = ti f c z) : TR f' ad N nB t c := by
  unfold TR at h ⊢
  have e48 := h1 48 (by decide)
  have e49 := h1 49 (by decide)
  have e50 := h1 50 (by decide)
  have e51 := h1 51 (by decide)
  have e52 := h1 52 (by decide)
  have e53 := h1 53 (by decide)
  have e54 := h1 54 (by decide)
  have e55 := h1 55 (by decide)
  simp only [e48, e49, e50, e51, e52, e53, e54, e55, h2]
  exact h
theorem BT.bm {bt tp : Nat → Nat} (h : BT f q0 q1 ad bt tp nB nT) (hA : Ad f q0 q1 ad) (hO : Ok L f) (m0 : q0 ∈ L ∧ tk f q0 = 0) {b : Nat} (hb : b < nB) : bt b ∈ L ∧ tk f (bt b) = 24 := hO.rm (k' := 24) (n := true) (hA.boats hO m0) (slot_arr (n := 20) rfl (by have := h.1.1; omega)) (h.2.2.1 b hb)
theorem BT.tm {bt tp : Nat → Nat} (h : BT f q0 q1 ad bt tp nB nT) (hA : Ad f q0 q1 ad) (hO : Ok L f) (m0 : q0 ∈ L ∧ tk f q0 = 0) {t : Nat} (ht : t < nT) : tp t ∈ L ∧ tk f (tp t) = 25 := hO.rm (k' := 25) (n := true) (hA.trips hO m0) (slot_arr (n := 600) rfl (by have := h.1.2; omega)) (h.2.2.2.2.1 t ht)
theorem K3.keep {f' : TF} {bt tp : Nat → Nat} (hB : BT f q0 q1 ad bt tp nB nT) (h1 : ∀ b, b < nB → BR f ad T N nT b (bt b)) (h2 : ∀ m, m < 40 → MR f ad T nB nT m) (h3 : ∀ t, t < nT → TR f ad N nB t (tp t)) (k1 : ∀ k, k ∈ R3 → ∀ z, ti f' (ad k) z = ti f (ad k) z) (k2 : ∀ b, b < nB → ∀ z, ti f' (bt b) z = ti f (bt b) z) (k3 : ∀ t, t < nT → ∀ z, ti f' (tp t) z = ti f (tp t) z) (k4 : ∀ m, m < 40 → ti f' (ad (100 + m)) 5 = ti f (ad (100 + m)) 5 ∧ ti f' (ad (100 + m)) 6 = ti f (ad (100 + m)) 6) (k5 : ti f' q0 7 = ti f q0 7 ∧ ti f' q0 9 = ti f q0 9 ∧ ti f' q1 21 = ti f q1 21 ∧ ti f' q1 47 = ti f q1 47) (k6 : (∀ z, tr f' (ad 66) z = tr f (ad 66) z) ∧ ∀ z, tr f' (ad 67) z = tr f (ad 67) z) : K3 f' q0 q1 ad T N := by
  obtain ⟨⟨a1, a2⟩, ⟨a3, a4, a5, a6⟩, a7, a8, a9, a10, a11⟩ := hB
  exact ⟨bt, tp, nB, nT, ⟨⟨a1, a2⟩, ⟨k5.1.trans a3, k5.2.2.1.trans a4, k5.2.1.trans a5, k5.2.2.2.trans a6⟩, fun b hb => (k6.1 _).trans (a7 b hb), a8, fun t ht => (k6.2 _).trans (a9 t ht), a10, fun b h h' => (k1 26 (by decide) _).trans (a11 b h h')⟩, fun b hb => (h1 b hb).keep k1 (k2 b hb), fun m hm => (h2 m hm).keep k1 (k4 m hm).1 (k4 m hm).2, fun t ht => (h3 t ht).keep k1 (k3 t ht)⟩
theorem K3.mono {N' : Nat} (h : K3 f q0 q1 ad T N) (hN : N ≤ N') : K3 f q0 q1 ad T N' := by
  obtain ⟨bt, tp, nB, nT, hB, h1, h2, h3⟩ := h
  refine ⟨bt, tp, nB, nT, hB, fun b hb => ?_, h2, fun t ht => ?_⟩
  · obtain ⟨a1, a2, a3, a4, ⟨s, hs, e⟩, a6⟩ := h1 b hb
    exact ⟨a1, a2, a3, a4, ⟨s, by omega, e⟩, a6⟩
  · obtain ⟨a1, a2, a3, a4, a5, a6, a7, a8, a9, a54, s, s', b1, b2, b3⟩ := h3 t ht
    exact ⟨a1, a2, a3, a4, a5, a6, a7, a8, a9, a54, s, s', by omega, by omega, b3⟩
def avK3 (W : List (Nat × Nat)) : Bool := [7, 9, 24, 25, 40, 41, 45, 46, 47, 48, 49, 63, 64, 65, 66, 67, 68, 69, 70].all (fun k => W.all (fun p => p.1 != k)) && [(20, 5), (20, 6), (0, 7), (0, 9), (27, 21), (27, 47)].all (fun q => !(wr W q.1 q.2))
theorem R3_kd {k : Nat} (h : k ∈ R3) : kd k ∈ [7, 9, 24, 25, 40, 41, 45, 46, 47, 48, 49, 63, 64, 65, 66, 67, 68, 69, 70] := by
  unfold R3 at h
  simp only [List.mem_cons, List.not_mem_nil, or_false] at h
  rcases h with rfl | rfl | rfl | rfl | rfl | rfl | rfl | rfl | rfl | rfl | rfl | rfl | rfl | rfl | rfl <;> decide
theorem K3.ext {W : List (Nat × Nat)} {L1 : List Nat} {f1 : TF} (h : K3 f q0 q1 ad T N) (hA : Ad f q0 q1 ad) (hO : Ok L f) (m0 : q0 ∈ L ∧ tk f q0 = 0) (m1 : q1 ∈ L ∧ tk f q1 = 27) (hE : Ext W L f L1 f1) (ha : avK3 W = true) : K3 f1 q0 q1 ad T N := by
  unfold avK3 at ha
  rw [Bool.and_eq_true] at ha
  have kk : ∀ k, k ∈ [7, 9, 24, 25, 40, 41, 45, 46, 47, 48, 49, 63, 64, 65, 66, 67, 68, 69, 70] → ∀ j, wr W k j = false := fun k hk j => wr_k (List.all_eq_true.mp ha.1 k hk) j
  have s : ∀ k j, (k, j) ∈ [(20, 5), (20, 6), (0, 7), (0, 9), (27, 21), (27, 47)] → wr W k j = false := fun k j hj => by simpa using List.all_eq_true.mp ha.2 (k, j) hj
  have im := hA.m hO m1
  obtain ⟨bt, tp, nB, nT, hB, h1, h2, h3⟩ := h
  exact K3.keep hB h1 h2 h3 (fun k hk z => hE.ei (im k (R3_RK hk)) (kk _ (R3_kd hk) z)) (fun b hb z => hE.ei (hB.bm hA hO m0 hb) (kk 24 (by decide) z)) (fun t ht z => hE.ei (hB.tm hA hO m0 ht) (kk 25 (by decide) z)) (fun m hm => ⟨hE.ei (hA.man hO m0 hm) (s 20 5 (by decide)), hE.ei (hA.man hO m0 hm) (s 20 6 (by decide))⟩) ⟨hE.ei m0 (s 0 7 (by decide)), hE.ei m0 (s 0 9 (by decide)), hE.ei m1 (s 27 21 (by decide)), hE.ei m1 (s 27 47 (by decide))⟩ ⟨fun z => hE.er (hA.boats hO m0) (kk 7 (by decide) z), fun z => hE.er (hA.trips hO m0) (kk 9 (by decide) z)⟩
theorem lt32 {x y : Int32} : ¬ x ≤ y ↔ y < x := by
  rw [Int32.le_iff_toInt_le, Int32.lt_iff_toInt_lt]
  omega
/-- the way of a man, for both sides -/
theorem K3.way (h : K3 f q0 q1 ad T N) {m : Nat} (hm : m < 40) : ti f (ad (100 + m)) 5 ≤ T ↔ ¬ 0 ≤ ti f (ad 16) m := by
  obtain ⟨bt, tp, nB, nT, hB, h1, h2, h3⟩ := h
  rcases (h2 m hm).2 with ⟨a, b⟩ | ⟨t, ht, a, b, -⟩
  · rw [a]; exact ⟨fun _ => by decide, fun _ => b⟩
  · rw [a]
    have := hB.1.2
    refine ⟨fun k => absurd b (fun z => lt32.mpr z k), fun k => absurd (le0.mpr (nI_pos (by omega))) k⟩
/-- a boat's number -/
theorem boatAt_x {bt tp : Nat → Nat} {p : Int32} {Q : Option Nat → Prop} (hA : Ad f q0 q1 ad) (hB : BT f q0 q1 ad bt tp nB nT) (hn : (p < 0 ∨ nI nB - 1 < p) → Q none) (hs : ∀ b, b < nB → p = nI b → Q (some (bt b))) : wp_WM_boatAt_w L f q0 p Q := by
  have h20 := hB.1.1
  have hcmp : nI nB ≤ p ↔ nI nB - 1 < p := by
    have z1 : (1 : Int32).toInt = 1 := by decide
    have := nI_toInt (n := nB) (by omega)
    rw [Int32.le_iff_toInt_le, Int32.lt_iff_toInt_lt, fb_subI (by omega) (by omega)]
    omega
  refine ⟨fun g => hn (Or.inl g), fun g x2 e2 => ?_⟩
  rw [hB.2.1.1] at e2
  subst e2
  refine ⟨fun g2 => hn (Or.inr (hcmp.mp g2)), fun g2 q4 e4 => ?_⟩
  rw [hA.1.2.2.1] at e4; cases e4
  obtain ⟨b, hb, rfl⟩ := nI_of2 (M := nI nB) (n := nB) (nI_toInt (by omega)) g (by rw [Int32.le_iff_toInt_le] at g2 ⊢; omega)
  rw [nI_leI (by omega) (by omega)] at g2
  have hlt : b < nB := by omega
  rw [nI_clamp (by omega), hB.2.2.1 b hlt]
  exact ⟨fun z => (by cases z), fun q5 e5 => (by cases e5; exact hs b hlt rfl)⟩
theorem isB_m {bt tp : Nat → Nat} {p : Int32} {Q : Int32 → Prop} (hB : BT f q0 q1 ad bt tp nB nT) (hn : (p < 0 ∨ nI nB - 1 < p) → Q 0) (hs : ∀ b, b < nB → p = nI b → Q 1) : wp_Md_isBoat_w L f q1 p Q := by
  have h20 := hB.1.1
  intro x1 e1
  rw [hB.2.1.2.1] at e1
  subst e1
  refine ⟨fun g => hn (Or.inl g), fun g => ⟨fun g2 => hn (Or.inr g2), fun g2 => ?_⟩⟩
  have z1 : (1 : Int32).toInt = 1 := by decide
  have k1 := nI_toInt (n := nB) (by omega)
  rw [Int32.lt_iff_toInt_lt, fb_subI (by omega) (by omega)] at g2
  obtain ⟨b, hb, rfl⟩ := nI_of2 (M := nI nB) (n := nB) k1 g (by rw [Int32.le_iff_toInt_le]; omega)
  have k2 := nI_toInt (n := b) (by omega)
  exact hs b (by omega) rfl
theorem nb_no {b : Nat} (hb : b < nB) (h : nB ≤ 600) : ¬ (nI b < 0 ∨ nI nB - 1 < nI b) := by
  have z1 : (1 : Int32).toInt = 1 := by decide
  have k1 := nI_toInt (n := nB) (by omega)
  have k2 := nI_toInt (n := b) (by omega)
  have k3 := nI_pos (n := b) (by omega)
  rintro (h | h)
  · exact k3 h
  · rw [Int32.lt_iff_toInt_lt, fb_subI (by omega) (by omega)] at h
    omega
theorem tripAt_x {bt tp : Nat → Nat} {p : Int32} {Q : Option Nat → Prop} (hA : Ad f q0 q1 ad) (hB : BT f q0 q1 ad bt tp nB nT) (hn : (p < 0 ∨ nI nT - 1 < p) → Q none) (hs : ∀ t, t < nT → p = nI t → Q (some (tp t))) : wp_WM_tripAt_w L f q0 p Q := by
  have h20 := hB.1.2
  have hcmp : nI nT ≤ p ↔ nI nT - 1 < p := by
    have z1 : (1 : Int32).toInt = 1 := by decide
    have := nI_toInt (n := nT) (by omega)
    rw [Int32.le_iff_toInt_le, Int32.lt_iff_toInt_lt, fb_subI (by omega) (by omega)]
    omega
  refine ⟨fun g => hn (Or.inl g), fun g x2 e2 => ?_⟩
  rw [hB.2.1.2.2.1] at e2
  subst e2
  refine ⟨fun g2 => hn (Or.inr (hcmp.mp g2)), fun g2 q4 e4 => ?_⟩
  rw [hA.1.2.2.2.1] at e4; cases e4
  obtain ⟨b, hb, rfl⟩ := nI_of2 (M := nI nT) (n := nT) (nI_toInt (by omega)) g (by rw [Int32.le_iff_toInt_le] at g2 ⊢; omega)
  rw [nI_leI (by omega) (by omega)] at g2
  have hlt : b < nT := by omega
  rw [nI_clamp (by omega), hB.2.2.2.2.1 b hlt]
  exact ⟨fun z => (by cases z), fun q5 e5 => (by cases e5; exact hs b hlt rfl)⟩
/-- the state of a boat, for both sides: 2 sunk, 1 on a way, 0 there -/
theorem state_x {b c : Nat} {Q : Int32 → Prop} (h : BR f ad T N nT b c) (hT : nT ≤ 600) (h2 : ¬ ti f (ad 26) b = 0 → Q 2) (h1 : ti f (ad 26) b = 0 → 0 ≤ ti f (ad 25) b → Q 1) (h0 : ti f (ad 26) b = 0 → ¬ 0 ≤ ti f (ad 25) b → Q 0) : wp_Bt_stateAt_w L f c T Q := by
  obtain ⟨a1, a2, a3, a4, a5, a6⟩ := h
  intro x1 e1
  rw [a4] at e1
  subst e1
  refine ⟨fun g x3 e3 => ?_, fun g => h2 g⟩
  subst e3
  rcases a6 with ⟨b1, b2⟩ | ⟨t, ht, b1, b2, b3, -⟩
  · have hn : ¬ 0 ≤ ti f (ad 25) b := by rw [b1]; decide
    refine ⟨fun _ => h0 g hn, fun k => ?_⟩
    rcases b2 with b2 | b2
    · rw [a4] at b2; exact absurd g b2
    · exact absurd b2 k
  · have hp : 0 ≤ ti f (ad 25) b := by rw [b1]; exact le0.mpr (nI_pos (by omega))
    exact ⟨fun k => absurd b3 (fun z => lt32.mpr z k), fun _ => h1 g hp⟩
theorem pr_craft (hA : Ad f q0 q1 ad) (hK : K3 f q0 q1 ad (ti f q0 10) N) (p_0 p_1 : Int32) : wp_WM_craft_w L f q0 p_0 p_1 (fun r => wp_Md_craft_w L f q1 p_0 p_1 (fun r' => r = r')) := by
  obtain ⟨bt, tp, nB, nT, hB, h1, h2, h3⟩ := hK
  have r := hA.2.2.2
  have h600 := hB.1.2
  have h20 := hB.1.1
  refine boatAt_x hA hB (fun h => ⟨fun _ => isB_m hB (fun _ => ⟨fun _ => rfl, fun k => absurd k (by decide)⟩) (fun b hb hp => absurd h (hp ▸ nb_no hb (by omega))), fun q z => (by cases z)⟩) (fun b hb hp => ⟨fun z => (by cases z), fun q eq => ?_⟩)
  cases eq
  subst hp
  have hbr := h1 b hb
  have hM : ∀ {Q : Int32 → Prop}, Q 1 → wp_Md_isBoat_w L f q1 (nI b) Q := fun hq => isB_m hB (fun h => absurd h (nb_no hb (by omega))) (fun _ _ _ => hq)
  obtain ⟨a1, a2, a3, a4, a5, a6⟩ := id hbr
  -- the five things
  have g0 : p_1 = 0 → wp_Md_craft_w L f q1 (nI b) p_1 (fun r' => ti f (bt b) 1 = r') := fun e => hM ⟨fun k => absurd k (by decide), fun _ => ⟨fun _ q5 e5 x6 e6 => by rw [r 23 (by decide)] at e5; cases e5; rw [nI_clamp (by omega)] at e6; exact a2.trans e6, fun k => absurd e k⟩⟩
  have g1 : p_1 = 1 → wp_Md_craft_w L f q1 (nI b) p_1 (fun r' => ti f (bt b) 0 = r') := fun e => hM ⟨fun k => absurd k (by decide), fun _ => ⟨fun k => absurd (e.symm.trans k) (by decide), fun _ => ⟨fun _ q5 e5 x6 e6 => by rw [r 22 (by decide)] at e5; cases e5; rw [nI_clamp (by omega)] at e6; exact a1.trans e6, fun k => absurd e k⟩⟩⟩
  have g2 : p_1 = 2 → wp_Md_craft_w L f q1 (nI b) p_1 (fun r' => ti f (bt b) 2 = r') := fun e => hM ⟨fun k => absurd k (by decide), fun _ => ⟨fun k => absurd (e.symm.trans k) (by decide), fun _ => ⟨fun k => absurd (e.symm.trans k) (by decide), fun _ => ⟨fun _ q5 e5 x6 e6 => by rw [r 24 (by decide)] at e5; cases e5; rw [nI_clamp (by omega)] at e6; exact a3.trans e6, fun k => absurd e k⟩⟩⟩⟩
  have g3 : p_1 = 3 → ∀ v : Int32, (0 ≤ ti f (ad 25) b → v = ti f (ad 49) (ti f (ad 25) b).toNatClampNeg) → (¬ 0 ≤ ti f (ad 25) b → v = -1) → wp_Md_craft_w L f q1 (nI b) p_1 (fun r' => v = r') := fun e v v1 v2 => hM ⟨fun k => absurd k (by decide), fun _ => ⟨fun k => absurd (e.symm.trans k) (by decide), fun _ => ⟨fun k => absurd (e.symm.trans k) (by decide), fun _ => ⟨fun k => absurd (e.symm.trans k) (by decide), fun _ => ⟨fun _ q14 e14 x15 e15 => by
    rw [r 25 (by decide)] at e14; cases e14
    rw [nI_clamp (by omega)] at e15
    subst e15
    refine ⟨fun k q17 e17 x19 e19 => ?_, fun k => v2 k⟩
    rw [r 49 (by decide)] at e17; cases e17
    exact (v1 k).trans e19, fun k => absurd e k⟩⟩⟩⟩⟩
  have g4 : p_1 = 4 → ∀ v : Int32, (¬ ti f (ad 26) b = 0 → v = 2) → (ti f (ad 26) b = 0 → 0 ≤ ti f (ad 25) b → v = 1) → (ti f (ad 26) b = 0 → ¬ 0 ≤ ti f (ad 25) b → v = 0) → wp_Md_craft_w L f q1 (nI b) p_1 (fun r' => v = r') := fun e v v1 v2 v3 => hM ⟨fun k => absurd k (by decide), fun _ => ⟨fun k => absurd (e.symm.trans k) (by decide), fun _ => ⟨fun k => absurd (e.symm.trans k) (by decide), fun _ => ⟨fun k => absurd (e.symm.trans k) (by decide), fun _ => ⟨fun k => absurd (e.symm.trans k) (by decide), fun _ => ⟨fun _ q21 e21 x22 e22 => by
    rw [r 26 (by decide)] at e21; cases e21
    rw [nI_clamp (by omega)] at e22
    subst e22
    refine ⟨fun k q24 e24 x25 e25 => ?_, fun k => v1 k⟩
    rw [r 25 (by decide)] at e24; cases e24
    rw [nI_clamp (by omega)] at e25
    subst e25
    exact ⟨fun k' => v3 k (fun z => le0.mp z k'), fun k' => v2 k (le0.mpr k')⟩, fun k => absurd e k⟩⟩⟩⟩⟩⟩
  have g5 : ¬ p_1 = 0 → ¬ p_1 = 1 → ¬ p_1 = 2 → ¬ p_1 = 3 → ¬ p_1 = 4 → wp_Md_craft_w L f q1 (nI b) p_1 (fun r' => -1 = r') := fun c0 c1 c2 c3 c4 => hM ⟨fun k => absurd k (by decide), fun _ => ⟨fun k => absurd k c0, fun _ => ⟨fun k => absurd k c1, fun _ => ⟨fun k => absurd k c2, fun _ => ⟨fun k => absurd k c3, fun _ => ⟨fun k => absurd k c4, fun _ => rfl⟩⟩⟩⟩⟩⟩
  have hsk : ¬ ti f (ad 26) b = 0 → ¬ 0 ≤ ti f (ad 25) b := by
    intro k z
    rcases a6 with ⟨b1, -⟩ | ⟨t, ht, b1, b2, -⟩
    · rw [b1] at z; exact absurd z (by decide)
    · rw [a4] at b2; exact k b2
  refine ⟨fun e x3 e3 => by subst e3; exact g0 e, fun c0 => ⟨fun e x5 e5 => by subst e5; exact g1 e, fun c1 => ⟨fun e x7 e7 => by subst e7; exact g2 e, fun c2 => ⟨fun e x9 e9 => ?_, fun c3 => ⟨fun e x14 e14 => ?_, fun c4 => g5 c0 c1 c2 c3 c4⟩⟩⟩⟩⟩
  · subst e9
    refine state_x hbr h600 (fun k => ⟨fun z => absurd z (by decide), fun _ => g3 e _ (fun z => absurd z (hsk k)) (fun _ => rfl)⟩) (fun k k' => ⟨fun _ x12 e12 => ?_, fun z => absurd rfl z⟩) (fun k k' => ⟨fun z => absurd z (by decide), fun _ => g3 e _ (fun z => absurd z k') (fun _ => rfl)⟩)
    subst e12
    refine g3 e _ (fun _ => ?_) (fun z => absurd k' z)
    rcases a6 with ⟨b1, -⟩ | ⟨t, ht, b1, b2, b3, b4, b5, b6, m, hm, b7, b8, b9⟩
    · rw [b1] at k'; exact absurd k' (by decide)
    · rw [b1, nI_clamp (by omega), b8, b7]
  · subst e14
    exact state_x hbr h600 (fun k => g4 e _ (fun _ => rfl) (fun z => absurd z k) (fun z => absurd z k)) (fun k k' => g4 e _ (fun z => absurd k z) (fun _ _ => rfl) (fun _ z => absurd k' z)) (fun k k' => g4 e _ (fun z => absurd k z) (fun _ z => absurd z k') (fun _ _ => rfl))
end BOA
