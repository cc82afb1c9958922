section ROW
variable {L : List Nat} {f : TF} {q0 q1 : Nat} {ad ad' : Nat → Nat} {T : Int32} {N nB nT : Nat}
theorem tl_sI {a k b j : Nat} {v : Int32} : tl (sI f a k v) b j = tl f b j := by
  unfold tl sI va_up
  by_cases h : b = a
  · subst h; simp
  · simp [h]
theorem ti_sL {a k b j : Nat} {v : Int64} : ti (sL f a k v) b j = ti f b j := by
  unfold ti sL va_up
  by_cases h : b = a
  · subst h; simp
  · simp [h]
theorem tr_sL {a k b j : Nat} {v : Int64} : tr (sL f a k v) b j = tr f b j := by
  unfold tr sL va_up
  by_cases h : b = a
  · subst h; simp
  · simp [h]
theorem tk_sL {a k b : Nat} {v : Int64} : tk (sL f a k v) b = tk f b := by
  unfold tk sL va_up
  by_cases h : b = a
  · subst h; simp
  · simp [h]
theorem tk_nC_ne {q k b : Nat} (h : b ≠ q) : tk (nC f q k) b = tk f b := by unfold tk nC; rw [va_up_ne _ _ h]
/-- a trip begins: boat b, man m, from s to s', at T, there at A -/
theorem K3.row {f' : TF} {bt tp : Nat → Nat} {b m s s' qn : Nat} {A pd : Int32} (hB : BT f q0 q1 ad bt tp nB nT) (h1 : ∀ b, b < nB → BR f ad T N nT b (bt b)) (h2 : ∀ m, m < 40 → MR f ad T nB nT m) (h3 : ∀ t, t < nT → TR f ad N nB t (tp t)) (hb : b < nB) (hm : m < 40) (hs : s < N) (hs' : s' < N) (hss : s ≠ s') (hT6 : nT < 600) (has : ti f (ad 23) b = nI s) (hb25 : ti f (ad 25) b = -1) (hm16 : ti f (ad 16) m = -1) (hsk : ti f (ad 26) b = 0) (hTA : T < A) (hpd : ¬ pd < 0) (hqn : ∀ t, t < nT → tp t ≠ qn)
    (x7 : ti f' q0 7 = nI nB) (x21 : ti f' q1 21 = nI nB) (x9 : ti f' q0 9 = nI (nT + 1)) (x47 : ti f' q1 47 = nI (nT + 1)) (r66 : ∀ z, tr f' (ad 66) z = tr f (ad 66) z) (r67 : ∀ z, z ≠ nT → tr f' (ad 67) z = tr f (ad 67) z) (r67n : tr f' (ad 67) nT = some qn)
    (e22 : ∀ z, ti f' (ad 22) z = ti f (ad 22) z) (e26 : ∀ z, ti f' (ad 26) z = ti f (ad 26) z) (eb : ∀ k, k ∈ [23, 24, 25] → ∀ z, z ≠ b → ti f' (ad k) z = ti f (ad k) z) (v23 : ti f' (ad 23) b = nI s') (v24 : ti f' (ad 24) b = A) (v25 : ti f' (ad 25) b = nI nT) (em : ∀ k, k ∈ [16, 17] → ∀ z, z ≠ m → ti f' (ad k) z = ti f (ad k) z) (v16 : ti f' (ad 16) m = nI nT) (v17 : ti f' (ad 17) m = ti f (ad 17) m + 1)
    (et : ∀ k, k ∈ [48, 49, 50, 51, 52, 53, 54, 55] → ∀ z, z ≠ nT → ti f' (ad k) z = ti f (ad k) z) (v48 : ti f' (ad 48) nT = nI b) (v49 : ti f' (ad 49) nT = nI m) (v50 : ti f' (ad 50) nT = nI s) (v51 : ti f' (ad 51) nT = nI s') (v52 : ti f' (ad 52) nT = T) (v53 : ti f' (ad 53) nT = A) (v54 : ti f' (ad 54) nT = pd) (v55 : ti f' (ad 55) nT = 0)
    (cb : ∀ b', b' < nB → b' ≠ b → ∀ z, ti f' (bt b') z = ti f (bt b') z) (cb0 : ti f' (bt b) 0 = ti f (bt b) 0 ∧ ti f' (bt b) 5 = ti f (bt b) 5) (cbv : ti f' (bt b) 1 = nI s' ∧ ti f' (bt b) 2 = A ∧ ti f' (bt b) 3 = nI m ∧ ti f' (bt b) 4 = nI nT) (cm : ∀ m', m' < 40 → m' ≠ m → ti f' (ad (100 + m')) 5 = ti f (ad (100 + m')) 5 ∧ ti f' (ad (100 + m')) 6 = ti f (ad (100 + m')) 6) (cmv : ti f' (ad (100 + m)) 5 = A ∧ ti f' (ad (100 + m)) 6 = ti f (ad (100 + m)) 6 + 1) (ct : ∀ t, t < nT → ∀ z, ti f' (tp t) z = ti f (tp t) z)
    (cn' : ti f' qn 0 = nI b ∧ ti f' qn 1 = nI m ∧ ti f' qn 2 = T ∧ ti f' qn 3 = pd ∧ ti f' qn 4 = nI s ∧ ti f' qn 5 = nI s' ∧ ti f' qn 6 = A ∧ ti f' qn 7 = 0) : K3 f' q0 q1 ad T N := by
  obtain ⟨⟨a1, a2⟩, ⟨a3, a4, a5, a6⟩, a7, a8, a9, a10, a11⟩ := id hB
  have tlt : ∀ k, k ∈ [48, 49, 53] → ∀ t, t < nT → ti f' (ad k) t = ti f (ad k) t := fun k hk t ht => et k (by
    simp only [List.mem_cons, List.not_mem_nil, or_false] at hk ⊢
    omega) t (by omega)
  refine ⟨bt, upM nT qn tp, nB, nT + 1, ⟨⟨a1, by omega⟩, ⟨x7, x21, x9, x47⟩, fun b' hb' => (r66 _).trans (a7 b' hb'), a8, fun t ht => ?_, fun t t' ht ht' e => ?_, fun b' h h' => (e26 _).trans (a11 b' h h')⟩, fun b' hb' => ?_, fun m' hm' => ?_, fun t ht => ?_⟩
  · by_cases e : t = nT
    · subst e; rw [upM_y]; exact r67n
    · rw [upM_n e, r67 t e]; exact a9 t (by omega)
  · by_cases g : t = nT
    · by_cases g' : t' = nT
      · omega
      · subst g
        rw [upM_y, upM_n g'] at e
        exact absurd e.symm (hqn t' (by omega))
    · by_cases g' : t' = nT
      · subst g'
        rw [upM_y, upM_n g] at e
        exact absurd e (hqn t (by omega))
      · rw [upM_n g, upM_n g'] at e
        exact a10 t t' (by omega) (by omega) e
  · by_cases e : b' = b
    · subst e
      obtain ⟨c1, c2, c3, c4, -, -⟩ := h1 b' hb'
      refine ⟨?_, ?_, ?_, ?_, ⟨s', hs', v23⟩, Or.inr ⟨nT, by omega, v25, ?_, ?_, cbv.2.2.2, ?_, v48, m, hm, cbv.2.2.1, v49, v16⟩⟩
      · rw [cb0.1, e22]; exact c1
      · rw [cbv.1, v23]
      · rw [cbv.2.1, v24]
      · rw [cb0.2, e26]; exact c4
      · rw [cb0.2, c4]; exact hsk
      · rw [cbv.2.1]; exact hTA
      · rw [cbv.2.1, v53]
    · refine (h1 b' hb').up (by omega) (fun k hk => ?_) (cb b' hb' e) tlt (fun m' t hm' ht k1 k2 k3 => ?_)
      · simp only [List.mem_cons, List.not_mem_nil, or_false] at hk
        rcases hk with rfl | rfl | rfl | rfl | rfl
        · exact e22 _
        · exact eb 23 (by decide) _ e
        · exact eb 24 (by decide) _ e
        · exact eb 25 (by decide) _ e
        · exact e26 _
      · rw [em 16 (by decide) m' ?_]
        · exact k3
        · rintro rfl
          rw [hm16] at k3
          exact absurd k3.symm (m1_nI (by omega))
  · by_cases e : m' = m
    · subst e
      refine ⟨?_, Or.inr ⟨nT, by omega, v16, ?_, ?_, v49, b, hb, v48, v25⟩⟩
      · rw [cmv.2, v17, (h2 m' hm').1]
      · rw [cmv.1]; exact hTA
      · rw [cmv.1, v53]
    · refine (h2 m' hm').up (Nat.le_refl _) (by omega) (fun k hk => em k hk m' e) (cm m' hm' e) tlt (fun b' t hb' ht k1 k2 k3 => ?_)
      rw [eb 25 (by decide) b' ?_]
      · exact k3
      · rintro rfl
        rw [hb25] at k3
        exact absurd k3.symm (m1_nI (by omega))
  · by_cases e : t = nT
    · subst e
      rw [upM_y]
      obtain ⟨n0, n1, n2, n3, n4, n5, n6, n7⟩ := cn'
      refine ⟨?_, ?_, ?_, ?_, ?_, ?_, ?_, ?_, ⟨b, hb, v48⟩, by rw [v54]; exact hpd, s, s', hs, hs', hss, v50, v51⟩
      · rw [n0, v48]
      · rw [n1, v49]
      · rw [n2, v52]
      · rw [n3, v54]
      · rw [n4, v50]
      · rw [n5, v51]
      · rw [n6, v53]
      · rw [n7, v55]
    · rw [upM_n e]
      exact (h3 t (by omega)).up (Nat.le_refl _) (ct t (by omega)) (fun k hk => et k hk t e)
/-- river and clocks at the same cells -/
theorem RV.ext {W : List (Nat × Nat)} {L1 : List Nat} {f1 : TF} (hR : Refs f q0 q1 ad') (hV : Vals f q0 q1 ad') (hO : Ok L f) (m0 : q0 ∈ L ∧ tk f q0 = 0) (m1 : q1 ∈ L ∧ tk f q1 = 27) (hE : Ext W L f L1 f1) (ha : avL W = true) : Refs f1 q0 q1 ad' ∧ Vals f1 q0 q1 ad' := by
  have hM := refs_m hO m0 m1 hR
  have i1 := hM 1 (by decide)
  have i2 := hM 2 (by decide)
  have i3 := hM 3 (by decide)
  have i4 := hM 4 (by decide)
  have i5 := hM 5 (by decide)
  have i28 := hM 28 (by decide)
  have i29 := hM 29 (by decide)
  have i30 := hM 30 (by decide)
  have i31 := hM 31 (by decide)
  have i32 := hM 32 (by decide)
  obtain ⟨h1, h2, h3, h4, h5, h6, h7, h8, h9, h10⟩ := hR
  obtain ⟨v1, v2, v3, v4, v5, v6, v7⟩ := hV
  obtain ⟨ha1, ha2, ha3⟩ := avL_t ha
  have s := avR_s ha1
  have kk := avR_k ha1
  refine ⟨⟨(hE.er m0 (s 0 0 (by decide))).trans h1, (hE.er i1 (s 1 0 (by decide))).trans h2, (hE.er i1 (s 1 1 (by decide))).trans h3, (hE.er i1 (s 1 2 (by decide))).trans h4, (hE.er i1 (s 1 3 (by decide))).trans h5, (hE.er m1 (s 27 3 (by decide))).trans h6, (hE.er m1 (s 27 5 (by decide))).trans h7, (hE.er m1 (s 27 6 (by decide))).trans h8, (hE.er m1 (s 27 7 (by decide))).trans h9, (hE.er m1 (s 27 8 (by decide))).trans h10⟩, (hE.ei m0 ha2).trans (v1.trans (hE.ei m1 ha3).symm), ?_⟩
  refine ⟨(hE.ei i1 (s 1 4 (by decide))).trans (v2.trans (hE.ei m1 (s 27 2 (by decide))).symm), fun j => (hE.ei i2 (kk 2 (by decide) j)).trans ((v3 j).trans (hE.ei i28 (kk 28 (by decide) j)).symm), fun j => (hE.ei i3 (kk 3 (by decide) j)).trans ((v4 j).trans (hE.ei i29 (kk 29 (by decide) j)).symm), fun j => (hE.ei i5 (kk 5 (by decide) j)).trans ((v5 j).trans (hE.ei i32 (kk 32 (by decide) j)).symm), fun d hd => ?_, fun d d' b hd hd' e e' => ?_⟩
  · have e4 := hE.er i4 (kk 4 (by decide) d)
    have e30 := hE.ei i30 (kk 30 (by decide) d)
    rcases v6 d hd with ⟨g1, g2⟩ | ⟨b, g1, g2, g3⟩
    · exact Or.inl ⟨e4.trans g1, e30.trans g2⟩
    · have ib := hO.rm (k' := 19) (n := true) i4 (slot_arr (n := 500) rfl hd) g1
      exact Or.inr ⟨b, e4.trans g1, e30.trans g2, fun h hh => (hE.ei ib (kk 19 (by decide) h)).trans ((g3 h hh).trans (hE.ei i31 (kk 31 (by decide) _)).symm)⟩
  · rw [hE.er i4 (kk 4 (by decide) d)] at e
    rw [hE.er i4 (kk 4 (by decide) d')] at e'
    exact v7 d d' b hd hd' e e'
/-- cells that are the same -/
def Sm (L : List Nat) (f f1 : TF) : Prop := ∀ c, c ∈ L → tk f1 c = tk f c ∧ (∀ z, ti f1 c z = ti f c z) ∧ (∀ z, tl f1 c z = tl f c z) ∧ ∀ z, tr f1 c z = tr f c z
theorem Sm.ext {L1 : List Nat} {f1 : TF} (h : Sm L f f1) (hL : ∀ c, c ∈ L → c ∈ L1) : Ext [] L f L1 f1 := fun c hc => ⟨hL c hc, (h c hc).1, fun j _ => ⟨(h c hc).2.1 j, (h c hc).2.2.1 j, (h c hc).2.2.2 j⟩⟩
end ROW
