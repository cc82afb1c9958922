section MIX
variable {L : List Nat} {f : TF} {q0 q1 : Nat} {ad : Nat → Nat} {N : Nat}
/-- the program's money -/
def XF (f : TF) (ad pn : Nat → Nat) (np : Nat) (ls pen pend : Nat → Int32) (M : MS) : Prop := RX f ad pn np M ∧ CX f ad pn np ls pen pend
/-- the reference's money, on day D -/
def RF (f : TF) (q1 : Nat) (ad : Nat → Nat) (np : Nat) (ls pen pend : Nat → Int32) (D : Nat) (M : MS) : Prop := RMm f q1 ad 30 M ∧ CMm f q1 ad np pen pend ∧ SH f ad ls D
def avXF (W : List (Nat × Nat)) : Bool := W.all (fun p => p.1 != 13) && (avCX W && [(12, 0), (12, 1), (12, 3), (20, 4), (26, 2)].all (fun q => !(wr W q.1 q.2)))
theorem RX.ext {W : List (Nat × Nat)} {L1 : List Nat} {f1 : TF} {pn : Nat → Nat} {np : Nat} {ls pen pend : Nat → Int32} {M : MS} (h : XF f ad pn np ls pen pend M) (hA : Ad f q0 q1 ad) (hO : Ok L f) (m0 : q0 ∈ L ∧ tk f q0 = 0) (hE : Ext W L f L1 f1) (ha : avXF W = true) : XF f1 ad pn np ls pen pend M := by
  unfold avXF at ha
  rw [Bool.and_eq_true, Bool.and_eq_true] at ha
  have s : ∀ k j, (k, j) ∈ [(12, 0), (12, 1), (12, 3), (20, 4), (26, 2)] → wr W k j = false := fun k j hj => by simpa using List.all_eq_true.mp ha.2.2 (k, j) hj
  obtain ⟨hX, hC⟩ := h
  have ip := (hC.mem hA hO m0).2
  have ii := hA.inc hO m0 hC.1.2.2.1
  have ib := hA.box hO m0
  obtain ⟨x1, x2, x3, x4, x5, x6⟩ := hX
  refine ⟨⟨?_, ?_, ?_, fun d hd => ?_, fun m hm => ?_, fun i hi => ?_⟩, hC.ext hA hO m0 hE ha.2.1⟩
  · rw [hE.ei ib (s 12 0 (by decide))]; exact x1
  · rw [hE.ei ib (s 12 1 (by decide))]; exact x2
  · rw [hE.ei ib (s 12 3 (by decide))]; exact x3
  · rw [hE.ei ii (wr_k ha.1 d)]; exact x4 d hd
  · rw [hE.ei (hA.man hO m0 hm) (s 20 4 (by decide))]; exact x5 m hm
  · rw [hE.ei (ip i hi) (s 26 2 (by decide))]; exact x6 i hi
theorem x_el {W : List (Nat × Nat)} {L1 : List Nat} {f1 : TF} (h : Ext W L f L1 f1) {a k : Nat} (hm : a ∈ L ∧ tk f a = k) {j : Nat} (hw : wr W k j = false) : tl f1 a j = tl f a j := ((h a hm.1).2.2 j (by rw [hm.2]; exact hw)).2.1
def avRF (W : List (Nat × Nat)) : Bool := [39, 71, 74, 42].all (fun k => W.all (fun p => p.1 != k)) && (avCM W && [56, 57, 58].all (fun k => !(wr W 27 k)))
theorem RF.ext {W : List (Nat × Nat)} {L1 : List Nat} {f1 : TF} {np D : Nat} {ls pen pend : Nat → Int32} {M : MS} (h : RF f q1 ad np ls pen pend D M) (hO : Ok L f) (m1 : q1 ∈ L ∧ tk f q1 = 27) (hE : Ext W L f L1 f1) (ha : avRF W = true) : RF f1 q1 ad np ls pen pend D M := by
  unfold avRF at ha
  rw [Bool.and_eq_true, Bool.and_eq_true] at ha
  have kk : ∀ k, k ∈ [39, 71, 74, 42] → ∀ j, wr W k j = false := fun k hk j => wr_k (List.all_eq_true.mp ha.1 k hk) j
  have s : ∀ k, k ∈ [56, 57, 58] → wr W 27 k = false := fun k hk => by simpa using List.all_eq_true.mp ha.2.2 k hk
  obtain ⟨hX, hC, hS⟩ := h
  have im := hC.m hO m1
  obtain ⟨x1, x2, x3, x4, x5, x6⟩ := hX
  refine ⟨⟨?_, ?_, ?_, fun d hd => ?_, fun m hm => ?_, fun i hi => ?_⟩, hC.ext hO m1 hE ha.2.1, fun m hm => ?_⟩
  · rw [x_el hE m1 (s 56 (by decide))]; exact x1
  · rw [x_el hE m1 (s 57 (by decide))]; exact x2
  · rw [x_el hE m1 (s 58 (by decide))]; exact x3
  · rw [x_el hE (im 59 (by decide)) (kk 71 (by decide) d)]; exact x4 d hd
  · rw [hE.ei (im 15 (by decide)) (kk 39 (by decide) m)]; exact x5 m hm
  · rw [hE.ei (im 63 (by decide)) (kk 74 (by decide) i)]; exact x6 i hi
  · rw [hE.ei (im 18 (by decide)) (kk 42 (by decide) m)]; exact hS m hm
/-- the pot is empty but on a Sunday that has a sharer -/
def PT (ls : Nat → Int32) (D : Nat) (M : MS) : Prop := M.2.1 ≠ 0 → D % 7 = 0 ∧ shN ls D ≠ 0
def LSu (ls : Nat → Int32) (D : Nat) : Prop := ∀ m, m < 40 → (ls m).toInt ≤ (D : Int)
/-- nobody got aught past the last pensioner -/
def GZ (np : Nat) (M : MS) : Prop := ∀ i, np ≤ i → M.2.2.2.2.2 i = 0
/-- a new day -/
def nwd (np : Nat) (ls pen pend : Nat → Int32) (d : Nat) (M : MS) : MS := payF np pen pend (d + 1) (partF ls d M)
def gN (np : Nat) (ls pen pend : Nat → Int32) (d0 : Nat) (M : MS) : Nat → MS
  | 0 => M
  | n + 1 => nwd np ls pen pend (d0 + n) (gN np ls pen pend d0 M n)
theorem payN_pot {pen pend : Nat → Int32} {d : Nat} {M : MS} : ∀ n, (payN pen pend d n M).2.1 = M.2.1 := by
  intro n
  induction n with
  | zero => rfl
  | succ n ih =>
    show (pay1 pen pend d n (payN pen pend d n M)).2.1 = M.2.1
    unfold pay1
    split
    · exact ih
    · exact ih
theorem payF_pot {np : Nat} {pen pend : Nat → Int32} {d : Nat} {M : MS} : (payF np pen pend d M).2.1 = M.2.1 := by
  unfold payF
  split
  · exact payN_pot np
  · rfl
theorem partF_pot {ls : Nat → Int32} {d : Nat} {M : MS} (h : PT ls d M) : (partF ls d M).2.1 = 0 := by
  unfold partF
  by_cases hc : d % 7 = 0 ∧ shN ls d ≠ 0
  · rw [if_pos hc]
  · rw [if_neg hc]; exact Classical.byContradiction fun z => hc (h z)
theorem nwd_pot {np : Nat} {ls pen pend : Nat → Int32} {d : Nat} {M : MS} (h : PT ls d M) : (nwd np ls pen pend d M).2.1 = 0 := payF_pot.trans (partF_pot h)
theorem payN_gz {pen pend : Nat → Int32} {d np : Nat} {M : MS} (h : GZ np M) : ∀ n, n ≤ np → GZ np (payN pen pend d n M) := by
  intro n
  induction n with
  | zero => intro _; exact h
  | succ n ih =>
    intro hn i hi
    have := ih (by omega) i hi
    show (pay1 pen pend d n (payN pen pend d n M)).2.2.2.2.2 i = 0
    unfold pay1
    split
    · show (if i = n then _ else _) = _
      rw [if_neg (by omega)]; exact this
    · exact this
theorem nwd_gz {np : Nat} {ls pen pend : Nat → Int32} {d : Nat} {M : MS} (h : GZ np M) : GZ np (nwd np ls pen pend d M) := by
  have h2 : GZ np (partF ls d M) := by
    unfold partF
    split
    · exact h
    · exact h
  unfold nwd payF
  split
  · exact payN_gz h2 np (Nat.le_refl _)
  · exact h2
theorem gN_all {np : Nat} {ls pen pend : Nat → Int32} {d0 : Nat} {M : MS} {B : Int} (hI : IV B M) (hp : PB np pen) (hP : PT ls d0 M) (hG : GZ np M) : ∀ n, IV B (gN np ls pen pend d0 M n) ∧ PT ls (d0 + n) (gN np ls pen pend d0 M n) ∧ GZ np (gN np ls pen pend d0 M n) := by
  intro n
  induction n with
  | zero => exact ⟨hI, hP, hG⟩
  | succ n ih =>
    refine ⟨ih.1.part.pay hp, fun z => absurd (nwd_pot ih.2.1) z, nwd_gz ih.2.2⟩
/-- the program's days -/
theorem xm4_loop {p x r : Int32} {pn : Nat → Nat} {np d0 e : Nat} {ls pen pend : Nat → Int32} {M : MS} {B : Int} {Q : Int32 → List Nat → TF → Prop} (hA : Ad f q0 q1 ad) (hO : Ok L f) (m0 : q0 ∈ L ∧ tk f q0 = 0) (m1 : q1 ∈ L ∧ tk f q1 = 27) (hC : CX f ad pn np ls pen pend) (hI : IV B M) (hp : PB np pen) (hP : PT ls d0 M) (hG : GZ np M) (he : e < 500) (hx : ∀ f1 : TF, Ok L f1 → Ext WL_WM_minutes_w_44_9 L f L f1 → XF f1 ad pn np ls pen pend (gN np ls pen pend d0 M (e - d0)) → ∀ f2 : TF, f2 = sI f1 q0 10 (x + p) → Ok L f2 → Q (x + p) L f2) : ∀ (n k : Nat) (f1 : TF), d0 + k ≤ e → RX f1 ad pn np (gN np ls pen pend d0 M k) → wpL_WM_minutes_w_44_9 L f q0 p x (nI e) r Q n (nI (d0 + k + 1)) L f1 := by
  have hstep : ∀ (rc : Int32 → List Nat → TF → Prop) (k : Nat) (f1 : TF), d0 + k ≤ e → RX f1 ad pn np (gN np ls pen pend d0 M k) → (∀ f3 : TF, d0 + k + 1 ≤ e → RX f3 ad pn np (gN np ls pen pend d0 M (k + 1)) → rc (nI (d0 + (k + 1) + 1)) L f3) → wpB_WM_minutes_w_44_9 L f q0 p x (nI e) r Q rc (nI (d0 + k + 1)) L f1 := by
    intro rc k f1 hk hX hrec hO1 hE1
    have hC1 := hC.ext hA hO m0 hE1 (by decide +kernel)
    have hA1 := hA.ext hO m0 m1 hE1 (by decide +kernel)
    have n0 := hE1.m m0
    have n1 := hE1.m m1
    refine ⟨fun g => ?_, fun g => ?_⟩
    · rw [nI_ltI (by omega) (by omega)] at g
      have ek : k = e - d0 := by omega
      rw [ek] at hX
      exact hx f1 hO1 hE1 ⟨hX, hC1⟩
    · rw [nI_ltI (by omega) (by omega)] at g
      have hr := fun f3 h => hrec f3 (by omega) h
      have hg := gN_all (pend := pend) hI hp hP hG k
      have hgs : gN np ls pen pend d0 M (k + 1) = payF np pen pend (d0 + k + 1) (partF ls (d0 + k) (gN np ls pen pend d0 M k)) := rfl
      rw [hgs] at hr
      have e1 : nI (d0 + k + 1) - 1 = nI (d0 + k) := by rw [← nI_1, Int32.add_sub_cancel]
      rw [e1, nI_1]
      refine part_x hA1 hO1 n0 (by omega) hX hC1 hg.1 (fun f2 hX2 => ?_)
      intro hO2 hE2 q13 e13
      have hA2 := hA1.ext hO1 n0 n1 hE2 (by decide +kernel)
      have hC2 := hC1.ext hA1 hO1 n0 hE2 (by decide +kernel)
      rw [hA2.1.2.2.2.2] at e13; cases e13
      refine pay_x hA2 hO2 (hE2.m n0) (hE2.m n1) (by omega) hX2 hC2 hg.1.part hp (fun f3 hX3 => ?_)
      intro hO3 hE3
      exact hr f3 hX3
  intro n
  induction n with
  | zero => intro k f1 a1 a2; exact hstep (fun _ _ _ => True) k f1 a1 a2 (fun _ _ _ => trivial)
  | succ n ih => intro k f1 a1 a2; exact hstep _ k f1 a1 a2 (fun f3 b1 b2 => ih (k + 1) f3 (by omega) b2)
/-- amid the reference's minutes -/
def Mid4 (ad : Nat → Nat) (N np : Nat) (ls pen pend : Nat → Int32) (d0 : Nat) (M : MS) (cN : Int32) (τ q0 q1 : Nat) (L : List Nat) (f : TF) : Prop := Mid cN (nI τ) q0 q1 L f ∧ Ad f q0 q1 ad ∧ K3 f q0 q1 ad (nI τ) N ∧ RF f q1 ad np ls pen pend (τ / 720) (gN np ls pen pend d0 M (τ / 720 - d0))
theorem SH.next {ls : Nat → Int32} {D D' : Nat} (h : ∀ m, m < 40 → ti f (ad 18) m = 0) (hl : D' % 7 = 0 → LSu ls D) (hlt : D < D') (hD : D' < 500) : SH f ad ls D' := by
  intro m hm
  refine ⟨fun z => absurd (h m hm) z, fun z => ?_⟩
  exfalso
  have := hl z.1 m hm
  rw [z.2, nI_toInt (by omega)] at this
  omega
theorem mm4_loop {π τ0 np d0 : Nat} {ls pen pend : Nat → Int32} {M : MS} {B : Int} {c : Int32} {Q : Int32 → List Nat → TF → Prop} (hI : IV B M) (hp : PB np pen) (hP : PT ls d0 M) (hG : GZ np M) (hL : LSu ls d0) (hd0 : d0 = τ0 / 720) (ht : τ0 + π < 360000) (hx : ∀ (L1 : List Nat) (f1 : TF), Ok L1 f1 → Ext WL_Md_minutes_w_27_6 L f L1 f1 → Mid4 ad N np ls pen pend d0 M c (τ0 + π) q0 q1 L1 f1 → Q (nI (τ0 + π)) L1 f1) : ∀ (n k : Nat) (L1 : List Nat) (f1 : TF), k ≤ π → Mid4 ad N np ls pen pend d0 M c (τ0 + k) q0 q1 L1 f1 → wpL_Md_minutes_w_27_6 L f q1 (nI π) Q n (nI k) L1 f1 := by
  have hstep : ∀ (rc : Int32 → List Nat → TF → Prop) (k : Nat) (L1 : List Nat) (f1 : TF), k ≤ π → Mid4 ad N np ls pen pend d0 M c (τ0 + k) q0 q1 L1 f1 → (∀ (L5 : List Nat) (f5 : TF), k + 1 ≤ π → Mid4 ad N np ls pen pend d0 M c (τ0 + (k + 1)) q0 q1 L5 f5 → rc (nI (k + 1)) L5 f5) → wpB_Md_minutes_w_27_6 L f q1 (nI π) Q rc (nI k) L1 f1 := by
    intro rc k L1 f1 hk hm hrec hO1 hE1
    refine ⟨fun g => ?_, fun g f2 hf2 hO2 => ?_⟩
    · rw [nI_leI (by omega) (by omega)] at g
      have e : k = π := by omega
      subst e
      rw [hm.1.2.2.2.2]
      exact hx L1 f1 hO1 hE1 hm
    · rw [nI_leI (by omega) (by omega)] at g
      have hgo := fun L5 f5 h => hrec L5 f5 (by omega) h
      obtain ⟨hmid, hA, hK, hR⟩ := id hm
      have i1 := hmid.2.1
      rw [hmid.2.2.2.2, nI_1] at hf2
      rw [hmid.2.2.2.2, nI_1, nI_1]
      have hE2 : Ext [(27, 1)] L1 f1 L1 f2 := by rw [hf2]; exact ext_sI i1.2
      have hm2 : Mid c (nI (τ0 + k + 1)) q0 q1 L1 f2 := by
        rw [hf2]
        exact hmid.tick hO1
      have hA2 : Ad f2 q0 q1 ad := hA.ext hO1 hmid.1 i1 hE2 (by decide +kernel)
      have hK2 : K3 f2 q0 q1 ad (nI (τ0 + k)) N := hK.ext hA hO1 hmid.1 i1 hE2 (by decide +kernel)
      have hR2 := hR.ext hO1 i1 hE2 (by decide +kernel)
      refine arrive_m hA2 hO2 hm2.1 hm2.2.1 hK2 hm2.2.2.2.2 ((nI_leI (by omega) (by omega)).mpr (by omega)) (fun f3 hK3 => ?_)
      intro hO3 hE3
      have hm3 : Mid c (nI (τ0 + k + 1)) q0 q1 L1 f3 := hm2.ext hO2 hE3 (by decide +kernel)
      have hA3 := hA2.ext hO2 hm2.1 hm2.2.1 hE3 (by decide +kernel)
      have hR3 := hR2.ext hO2 hm2.2.1 hE3 (by decide +kernel)
      have et := hm3.2.2.2.2
      intro y11 e11
      rw [show (720 : Int32) = nI 720 from rfl, pk_rem (by omega) (by decide) (by decide)] at e11
      have h11 : y11 = 0 ↔ (τ0 + k + 1) % 720 = 0 := by rw [e11, show (0 : Int32) = nI 0 from rfl, nI_eq (by omega) (by decide)]
      rw [h11]
      have hdiv : ∀ {w : TF}, ti w q1 1 = nI (τ0 + k + 1) → ti w q1 1 / 720 = nI ((τ0 + k + 1) / 720) := fun {w} h => by rw [h, show (720 : Int32) = nI 720 from rfl, pk_div (by omega) (by decide) (by decide)]
      refine ⟨fun c0 => ?_, fun c0 => ?_⟩
      rotate_left
      · have ed : (τ0 + (k + 1)) / 720 = (τ0 + k) / 720 := by omega
        refine hgo _ _ ⟨hm3, hA3, hK3, ?_⟩
        rw [ed]; exact hR3
      have eD : (τ0 + k + 1) / 720 = (τ0 + k) / 720 + 1 := by omega
      have hD : (τ0 + k) / 720 + 1 < 500 := by omega
      have hd0D : d0 ≤ (τ0 + k) / 720 := by omega
      have hng : gN np ls pen pend d0 M ((τ0 + k) / 720 + 1 - d0) = payF np pen pend ((τ0 + k) / 720 + 1) (partF ls ((τ0 + k) / 720) (gN np ls pen pend d0 M ((τ0 + k) / 720 - d0))) := by
        have e1 : (τ0 + k) / 720 + 1 - d0 = ((τ0 + k) / 720 - d0) + 1 := by omega
        rw [e1]
        show nwd np ls pen pend (d0 + ((τ0 + k) / 720 - d0)) _ = _
        rw [show d0 + ((τ0 + k) / 720 - d0) = (τ0 + k) / 720 by omega]
        rfl
      have hg := gN_all (pend := pend) hI hp hP hG ((τ0 + k) / 720 - d0)
      rw [show d0 + ((τ0 + k) / 720 - d0) = (τ0 + k) / 720 by omega] at hg
      have hL' : LSu ls ((τ0 + k) / 720) := fun m hm' => by have := hL m hm'; omega
      have hgo' : ∀ (L5 : List Nat) (f5 : TF), Mid c (nI (τ0 + k + 1)) q0 q1 L5 f5 → Ad f5 q0 q1 ad → K3 f5 q0 q1 ad (nI (τ0 + k + 1)) N → RF f5 q1 ad np ls pen pend ((τ0 + k) / 720 + 1) (payF np pen pend ((τ0 + k) / 720 + 1) (partF ls ((τ0 + k) / 720) (gN np ls pen pend d0 M ((τ0 + k) / 720 - d0)))) → rc (nI (k + 1)) L5 f5 := by
        intro L5 f5 a1 a2 a3 a4
        refine hgo _ _ ⟨a1, a2, a3, ?_⟩
        rw [show τ0 + (k + 1) = τ0 + k + 1 from rfl, eD, hng]
        exact a4
      generalize (τ0 + k) / 720 = D at *
      generalize gN np ls pen pend d0 M (D - d0) = G at *
      have hpay : ∀ (L4 : List Nat) (f4 : TF), Ok L4 f4 → Mid c (nI (τ0 + k + 1)) q0 q1 L4 f4 → Ad f4 q0 q1 ad → K3 f4 q0 q1 ad (nI (τ0 + k + 1)) N → RF f4 q1 ad np ls pen pend (D + 1) (partF ls D G) → ∀ y39 : Int32, y39 = ti f4 q1 1 / 720 → ∀ y44 : Int32, y44 = y39 - y39 / 100 * 100 → ((y44 = 0 → wp_Md_today_w L4 f4 q1 (fun (r_46 : Int32) => (wp_Md_pay_w L4 f4 q1 r_46 (fun (L_5 : List Nat) (f_5 : TF) => Ok L_5 f_5 → Ext W_Md_pay_w L4 f4 L_5 f_5 → rc (nI (k + 1)) L_5 f_5)))) ∧ (¬ (y44 = 0) → rc (nI (k + 1)) L4 f4)) := by
        intro L4 f4 hO4 hm4 hA4 hK4 hR4 y39 e39 y44 e44
        rw [hdiv hm4.2.2.2.2, eD] at e39
        rw [e39] at e44
        rw [e44, d100 hD]
        refine ⟨fun k1 => ?_, fun k1 => ?_⟩
        · intro y46 e46
          rw [hdiv hm4.2.2.2.2, eD] at e46
          rw [e46]
          refine pay_m hO4 hm4.2.1 hR4.1 hR4.2.1 hg.1.part hp (by have := hR4.2.1.1.1; omega) (fun f5 hX5 => ?_)
          intro hO5 hE5
          refine hgo' _ _ (hm4.ext hO4 hE5 (by decide +kernel)) (hA4.ext hO4 hm4.1 hm4.2.1 hE5 (by decide +kernel)) (hK4.ext hA4 hO4 hm4.1 hm4.2.1 hE5 (by decide +kernel)) ⟨?_, hR4.2.1.ext hO4 hm4.2.1 hE5 (by decide +kernel), fun m hm' => ?_⟩
          · have : payF np pen pend (D + 1) (partF ls D G) = payN pen pend (D + 1) np (partF ls D G) := by unfold payF; rw [if_pos k1]
            rw [this]; exact hX5
          · rw [hE5.ei (hR4.2.1.m hO4 hm4.2.1 18 (by decide)) (wr_k (k := 42) (by decide +kernel) m)]; exact hR4.2.2 m hm'
        · have : payF np pen pend (D + 1) (partF ls D G) = partF ls D G := by unfold payF; rw [if_neg k1]
          refine hgo' _ _ hm4 hA4 hK4 ?_
          rw [this]; exact hR4
      have eSub : nI (D + 1) - 1 = nI D := by rw [← nI_1, Int32.add_sub_cancel]
      intro y13 e13 y18 e18
      rw [hdiv et, eD] at e13
      rw [e13, eSub] at e18
      rw [e18, d7 (by omega)]
      refine ⟨fun c7 => ?_, fun c7 => ?_⟩
      · intro y33 e33
        rw [hdiv et, eD] at e33
        rw [e33, eSub]
        refine part_m hO3 hm3.2.1 (by omega) c7 hR3.1 hR3.2.1 hg.1 hR3.2.2 (fun z => (hg.2.1 z).2) (fun f4 hX4 hz4 => ?_)
        intro hO4 hE4
        exact hpay L1 f4 hO4 (hm3.ext hO3 hE4 (by decide +kernel)) (hA3.ext hO3 hm3.1 hm3.2.1 hE4 (by decide +kernel)) (hK3.ext hA3 hO3 hm3.1 hm3.2.1 hE4 (by decide +kernel)) ⟨hX4, hR3.2.1.ext hO3 hm3.2.1 hE4 (by decide +kernel), SH.next hz4 (fun _ => hL') (by omega) hD⟩
      · have ep : partF ls D G = G := by unfold partF; rw [if_neg (fun z => c7 z.1)]
        refine hpay L1 f3 hO3 hm3 hA3 hK3 ?_
        rw [ep]
        refine ⟨hR3.1, hR3.2.1, SH.next (D := D) (fun m hm' => ?_) (fun _ => hL') (by omega) hD⟩
        exact Classical.byContradiction fun z => c7 ((hR3.2.2 m hm').mp z).1
  intro n
  induction n with
  | zero =>
    intro k L1 f1 h1 h2
    exact hstep (fun _ _ _ => True) k L1 f1 h1 h2 (fun _ _ _ _ => trivial)
  | succ n ih =>
    intro k L1 f1 h1 h2
    exact hstep _ k L1 f1 h1 h2 (fun L5 f5 a b => ih (k + 1) L5 f5 a b)
end MIX
