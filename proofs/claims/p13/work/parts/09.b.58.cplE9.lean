section MAN
variable {L : List Nat} {f : TF} {q0 q1 : Nat} {ad : Nat → Nat} {N : Nat}
theorem pr_man {D : Int} {j Tn nTn : Nat} (hO : Ok L f) (_m0 : q0 ∈ L ∧ tk f q0 = 0) (m1 : q1 ∈ L ∧ tk f q1 = 27) (hA : Ad f q0 q1 ad) (hK1 : K1 f ad D) (hK2 : K2 f q0 ad (ti f q1 2).toNatClampNeg j) (hK3 : K3 f q0 q1 ad (ti f q1 1) N) (hMo : KMo f q1 ad Tn nTn) (h6 : K6w f ad (ti f q1 1)) (ht : ti f q0 10 = ti f q1 1) (p_0 p_1 : Int32) : wp_WM_man_w L f q0 p_0 p_1 (fun r => wp_Md_man_w L f q1 p_0 p_1 (fun r' => r = r')) := by
  have r := hA.2.2.2
  obtain ⟨hN, hN2⟩ := nst hO m1
  generalize (ti f q1 2).toNatClampNeg = N2 at *
  obtain ⟨pn, np, ls, pen, pend, M, ⟨hX, hR⟩, -, -⟩ := hMo
  obtain ⟨ql, J, -, -, hTX, hTM, j5, -⟩ := hK2
  refine manAt_x hA (fun hn => ⟨fun _ => mck (fun _ => rfl) (fun h => absurd h hn), fun q z => (by cases z)⟩) (fun m hm hp => ⟨fun z => (by cases z), fun q eq => ?_⟩)
  cases eq
  subst hp
  have hgo : ∀ {P : Int32 → Prop}, ((p_1 = 0 → ∀ q_5 : Nat, tr f q1 9 = some q_5 → ∀ x_6 : Int32, ti f q_5 (nI m : Int32).toNatClampNeg = x_6 → P x_6) ∧ (¬ (p_1 = 0) → ((p_1 = 1 → ∀ q_8 : Nat, tr f q1 10 = some q_8 → ∀ x_9 : Int32, ti f q_8 (nI m : Int32).toNatClampNeg = x_9 → P x_9) ∧ (¬ (p_1 = 1) → ((p_1 = 2 → wp_Md_rowOf_w L f q1 (nI m) (fun (r_11 : Int32) => ((r_11 = (-1) → P (-1)) ∧ (¬ (r_11 = (-1)) → P r_11)))) ∧ (¬ (p_1 = 2) → ((p_1 = 3 → wp_Md_placeOf_w L f q1 (nI m) (fun (r_18 : Int32) => ((r_18 = (-1) → P (-1)) ∧ (¬ (r_18 = (-1)) → P r_18)))) ∧ (¬ (p_1 = 3) → ((p_1 = 4 → ∀ q_23 : Nat, tr f q1 15 = some q_23 → ∀ x_24 : Int32, ti f q_23 (nI m : Int32).toNatClampNeg = x_24 → P x_24) ∧ (¬ (p_1 = 4) → ((p_1 = 5 → ∀ q_26 : Nat, tr f q1 16 = some q_26 → ∀ x_27 : Int32, ti f q_26 (nI m : Int32).toNatClampNeg = x_27 → ((x_27 < 0 → P 0) ∧ (¬ (x_27 < 0) → P 1))) ∧ (¬ (p_1 = 5) → ((p_1 = 6 → ∀ q_30 : Nat, tr f q1 17 = some q_30 → ∀ x_31 : Int32, ti f q_30 (nI m : Int32).toNatClampNeg = x_31 → P x_31) ∧ (¬ (p_1 = 6) → P (-2))))))))))))))) → wp_Md_man_w L f q1 (nI m) p_1 P := fun h => mck (fun k => absurd (isM_nI hm) k) (fun _ => h)
  have hcl : (nI m : Int32).toNatClampNeg = m := nI_clamp (by omega)
  have hne : ∀ s, s ≤ 40 → ¬ nI s = -1 := fun s hs => nI_nm1 (by omega)
  have hlt : ∀ s, s < 12 → m ∈ ql s → s < N2 := fun s hs h => Classical.byContradiction fun k => by
    rw [j5 s hs (by omega)] at h
    cases h
  have hmem : ∀ {s k : Nat}, k < (ql s).length → (ql s).getD k 0 = m → m ∈ ql s := fun {s k} hk e => by
    rw [← e, List.getD_eq_getElem?_getD, List.getElem?_eq_getElem hk]
    exact List.getElem_mem hk
  refine ⟨fun d0 x3 e3 => ?_, fun d0 => ⟨fun d1 => ⟨fun _ => ?_, fun q5 e5 x6 e6 => ⟨fun k x8 e8 => ?_, fun k => ?_⟩⟩, fun d1 => ⟨fun d2 x10 e10 => ?_, fun d2 => ⟨fun d3 => ?_, fun d3 => ⟨fun d4 x14 e14 => ?_, fun d4 => ⟨fun d5 x16 e16 => ?_, fun d5 => ⟨fun d6 x19 e19 => ?_, fun d6 => ?_⟩⟩⟩⟩⟩⟩⟩
  · refine hgo ⟨fun _ q e x ex => ?_, fun z => absurd d0 z⟩
    rw [r 9 (by decide)] at e; cases e
    rw [hcl] at ex
    rw [← e3, ← ex]; exact hK1.st hm
  · rename_i hnb
    refine hgo ⟨fun z => absurd z d0, fun _ => ⟨fun _ q e x ex => ?_, fun z => absurd d1 z⟩⟩
    rw [r 10 (by decide)] at e; cases e
    rw [hcl] at ex
    rw [← ex]
    refine ((h6 m hm).1 (fun z => ?_)).symm
    obtain ⟨bd, bF, bT, -, a2, -⟩ := hK1
    have := (a2 m hm z).1
    rw [hnb] at this
    cases this
  · rw [hK1.st hm] at e6
    refine hgo ⟨fun z => absurd z d0, fun _ => ⟨fun _ q e x ex => ?_, fun z => absurd d1 z⟩⟩
    rw [r 10 (by decide)] at e; cases e
    rw [hcl] at ex
    obtain ⟨bd, bF, bT, -, a2, -⟩ := hK1
    have hb := a2 m hm (e6.trans k)
    rw [hb.1] at e5; cases e5
    rw [← e8, ← ex]; exact hb.2.2.2.1
  · rw [hK1.st hm] at e6
    refine hgo ⟨fun z => absurd z d0, fun _ => ⟨fun _ q e x ex => ?_, fun z => absurd d1 z⟩⟩
    rw [r 10 (by decide)] at e; cases e
    rw [hcl] at ex
    rw [← ex]
    exact ((h6 m hm).1 (fun z => k (e6.symm.trans z))).symm
  · refine hgo ⟨fun z => absurd z d0, fun _ => ⟨fun z => absurd z d1, fun _ => ⟨fun _ => rowOf_m hA hTM (fun s hs x hx => (hTX.1 s hs x hx).1) hN hN2 hm (fun hno => ⟨fun _ => ?_, fun z => absurd rfl z⟩) (fun s hs hin => ⟨fun z => absurd z (hne s (by omega)), fun _ => ?_⟩), fun z => absurd d2 z⟩⟩⟩
    · rcases hTX.2.1 m hm with e | ⟨s, hs, hin⟩
      · rw [← e10]; exact e
      · exact absurd hin (hno s (hlt s hs hin))
    · rw [← e10]; exact (hTX.1 s (by omega) m hin).2
  · have hx : ∀ {v : Int32}, ((∀ s, s < N2 → m ∉ ql s) → v = -1) → (∀ s k, s < N2 → k < (ql s).length → (ql s).getD k 0 = m → v = nI k) → wp_Md_man_w L f q1 (nI m) p_1 (fun r' => v = r') := fun {v} h1 h2 => hgo ⟨fun z => absurd z d0, fun _ => ⟨fun z => absurd z d1, fun _ => ⟨fun z => absurd z d2, fun _ => ⟨fun _ => placeOf_m hA hTM (fun s hs x hx => (hTX.1 s hs x hx).1) hN hN2 hm (fun hno => ⟨fun _ => h1 hno, fun z => absurd rfl z⟩) (fun s k hs hk e => ⟨fun z => absurd z (hne k (by have := (hTM s (by omega)).1; omega)), fun _ => h2 s k hs hk e⟩), fun z => absurd d3 z⟩⟩⟩⟩
    rcases hTX.2.1 m hm with e | ⟨s, hs, hin⟩
    · refine pit_n e (hx (fun _ => rfl) (fun s k hs hk ek => ?_))
      have := (hTX.1 s (by omega) m (hmem hk ek)).2
      rw [e] at this
      exact absurd this.symm (hne s (by omega))
    · obtain ⟨k, hk, ek⟩ := List.getElem_of_mem hin
      have ek' : (ql s).getD k 0 = m := by rw [List.getD_eq_getElem?_getD, List.getElem?_eq_getElem hk]; exact ek
      refine pit_x hA hTX hs hk ek' (hx (fun hno => absurd hin (hno s (hlt s hs hin))) (fun s' k' hs' hk' e' => ?_))
      have es : s = s' := hTX.one hs (by omega) hin (hmem hk' e')
      subst es
      rw [hTX.inj hs hk hk' (ek'.trans e'.symm)]
  · refine hgo ⟨fun z => absurd z d0, fun _ => ⟨fun z => absurd z d1, fun _ => ⟨fun z => absurd z d2, fun _ => ⟨fun z => absurd z d3, fun _ => ⟨fun _ q e x ex => ?_, fun z => absurd d4 z⟩⟩⟩⟩⟩
    rw [hR.2.1.2.1 15 (by decide)] at e; cases e
    rw [hcl] at ex
    rw [← e14, ← ex, hX.1.2.2.2.2.1 m hm, hR.1.2.2.2.2.1 m hm]
  · rw [ht] at e16
    subst e16
    have hw := hK3.way hm
    have hb : ∀ {v : Int32}, (¬ 0 ≤ ti f (ad 16) m → v = 0) → (0 ≤ ti f (ad 16) m → v = 1) → wp_Md_man_w L f q1 (nI m) p_1 (fun r' => v = r') := fun {v} h1 h2 => hgo ⟨fun z => absurd z d0, fun _ => ⟨fun z => absurd z d1, fun _ => ⟨fun z => absurd z d2, fun _ => ⟨fun z => absurd z d3, fun _ => ⟨fun z => absurd z d4, fun _ => ⟨fun _ q e x ex => by
      rw [r 16 (by decide)] at e; cases e
      rw [hcl] at ex
      subst ex
      exact ⟨fun k => h1 (fun z => le0.mp z k), fun k => h2 (le0.mpr k)⟩, fun z => absurd d5 z⟩⟩⟩⟩⟩⟩
    intro x1 e1
    subst e1
    exact ⟨fun k => ⟨fun _ => hb (fun _ => rfl) (fun z => absurd z (hw.mp k)), fun z => absurd z (by decide)⟩, fun k => ⟨fun z => absurd z (by decide), fun _ => hb (fun z => absurd (hw.mpr z) k) (fun _ => rfl)⟩⟩
  · refine hgo ⟨fun z => absurd z d0, fun _ => ⟨fun z => absurd z d1, fun _ => ⟨fun z => absurd z d2, fun _ => ⟨fun z => absurd z d3, fun _ => ⟨fun z => absurd z d4, fun _ => ⟨fun z => absurd z d5, fun _ => ⟨fun _ q e x ex => ?_, fun z => absurd d6 z⟩⟩⟩⟩⟩⟩⟩
    rw [r 17 (by decide)] at e; cases e
    rw [hcl] at ex
    obtain ⟨bt, tp, nB, nT, -, -, h2, -⟩ := hK3
    rw [← e19, ← ex]; exact (h2 m hm).1
  · exact hgo ⟨fun z => absurd z d0, fun _ => ⟨fun z => absurd z d1, fun _ => ⟨fun z => absurd z d2, fun _ => ⟨fun z => absurd z d3, fun _ => ⟨fun z => absurd z d4, fun _ => ⟨fun z => absurd z d5, fun _ => ⟨fun z => absurd z d6, fun _ => rfl⟩⟩⟩⟩⟩⟩⟩
/-- all that is coupled, money and ways of the free too -/
def CplE (j : Nat) (L : List Nat) (f : TF) (q0 q1 : Nat) : Prop := Cpl L f q0 q1 ∧ CT f q0 q1 ∧ CO f q0 q1 ∧ CM f q1 ∧ ∃ ad, Ad f q0 q1 ad ∧ K1 f ad (ti f q1 1 / 720).toInt ∧ K2 f q0 ad (ti f q1 2).toNatClampNeg j ∧ K3 f q0 q1 ad (ti f q1 1) (ti f q1 2).toNatClampNeg ∧ K4 f q1 ad ∧ K5 f q1 ad ∧ KMo f q1 ad (ti f q1 1).toNatClampNeg (ti f q1 47).toNatClampNeg ∧ K6w f ad (ti f q1 1)
theorem CplE.mono {j j' : Nat} (h : CplE j L f q0 q1) (hj : j ≤ j') : CplE j' L f q0 q1 := by
  obtain ⟨a1, a2, a3, a4, ad, a5, a6, a7, a8⟩ := h
  exact ⟨a1, a2, a3, a4, ad, a5, a6, a7.mono hj (Nat.le_refl _), a8⟩
theorem K6w.extT {W : List (Nat × Nat)} {L1 : List Nat} {f1 : TF} (h : K6w f ad (ti f q1 1)) (hA : Ad f q0 q1 ad) (hO : Ok L f) (m0 : q0 ∈ L ∧ tk f q0 = 0) (m1 : q1 ∈ L ∧ tk f q1 = 27) (hE : Ext W L f L1 f1) (ha : (avK6 W && !(wr W 27 1)) = true) : K6w f1 ad (ti f1 q1 1) := by
  rw [Bool.and_eq_true] at ha
  rw [hE.ei m1 (by simpa using ha.2)]
  exact h.ext hA hO m0 m1 hE ha.1
theorem K6w.toT {f2 : TF} (h : K6w f2 ad (ti f q1 1)) (e : ti f2 q1 1 = ti f q1 1) : K6w f2 ad (ti f2 q1 1) := by rw [e]; exact h
end MAN
