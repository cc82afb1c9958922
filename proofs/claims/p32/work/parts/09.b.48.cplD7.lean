section ROM
variable {L : List Nat} {q0 q1 : Nat} {ad : Nat → Nat}
theorem row_finM {g : TF} {b m nT np τ : Nat} {ls pen pend : Nat → Int32} {M : MS} {B : Int} {A to pd : Int32} {Q : Int32 → List Nat → TF → Prop} (hA : Ad g q0 q1 ad) (hO : Ok L g) (m1 : q1 ∈ L ∧ tk g q1 = 27) (hm : m < 40) (ht : ti g q1 1 = nI τ) (hτ : τ < 360000) (hRF : RF g q1 ad np ls pen pend (τ / 720) M) (hI : IV B M) (hB : B + 1000000 ≤ 600000000) (h0 : 0 ≤ pd.toInt) (h1 : pd.toInt ≤ 1000000) (hq : ∀ wF : TF, RF wF q1 ad np (lsF (τ / 720) m ls) pen pend (τ / 720) (takeF (τ / 720) m pd M) → (∀ c z, tk g c ≠ 42 → tk g c ≠ 39 → c ≠ ad 25 → c ≠ ad 23 → c ≠ ad 24 → c ≠ ad 16 → c ≠ ad 17 → ti wF c z = ti g c z) → (∀ k, k ∈ [23, 24, 25] → ∀ z, z ≠ b → ti wF (ad k) z = ti g (ad k) z) → (∀ k, k ∈ [16, 17] → ∀ z, z ≠ m → ti wF (ad k) z = ti g (ad k) z) → ti wF (ad 25) b = nI nT → ti wF (ad 23) b = to → ti wF (ad 24) b = A → ti wF (ad 16) m = nI nT → ti wF (ad 17) m = ti g (ad 17) m + 1 → (∀ c z, tr wF c z = tr g c z) → Q (nI nT) L wF) : ∀ q_37 : Nat, tr g q1 25 = some q_37 → ∀ f_11 : TF, f_11 = sI g q_37 b (nI nT) → Ok L f_11 → ∀ f_12 : TF, f_12 = sI f_11 (ad 23) b to → Ok L f_12 → ∀ q_40 : Nat, tr f_12 q1 24 = some q_40 → ∀ f_13 : TF, f_13 = sI f_12 q_40 b A → Ok L f_13 → ∀ q_43 : Nat, tr f_13 q1 16 = some q_43 → ∀ f_14 : TF, f_14 = sI f_13 q_43 m (nI nT) → Ok L f_14 → ∀ q_45 : Nat, tr f_14 q1 17 = some q_45 → ∀ x_46 : Int32, ti f_14 q_45 m = x_46 → ∀ f_15 : TF, f_15 = sI f_14 q_45 m (x_46 + 1) → Ok L f_15 → ∀ x_48 : Int64, tl f_15 q1 56 = x_48 → ∀ y_49 : Int32, y_49 = pd / 20 → ∀ y_50 : Int64, y_50 = (x_48 : Int64) + ((y_49 : Int32).toInt64 : Int64) → ∀ f_16 : TF, f_16 = sL f_15 q1 56 y_50 → Ok L f_16 → ∀ q_52 : Nat, tr f_16 q1 59 = some q_52 → wp_Md_today_w L f_16 q1 (fun (r_53 : Int32) => (∀ x_58 : Int64, tl f_16 q_52 (r_53 : Int32).toNatClampNeg = x_58 → ∀ y_59 : Int32, y_59 = pd / 20 → ∀ y_60 : Int64, y_60 = (x_58 : Int64) + ((y_59 : Int32).toInt64 : Int64) → ∀ f_17 : TF, f_17 = sL f_16 q_52 (r_53 : Int32).toNatClampNeg y_60 → Ok L f_17 → wp_Md_today_w L f_17 q1 (fun (r_62 : Int32) => (∀ y_67 : Int32, y_67 = r_62 - r_62 / 7 * 7 → ((y_67 = 0 → ∀ x_73 : Int64, tl f_17 q1 57 = x_73 → ∀ y_74 : Int32, y_74 = pd / 20 → ∀ y_75 : Int64, y_75 = (x_73 : Int64) + (((pd - y_74) : Int32).toInt64 : Int64) → ∀ f_18 : TF, f_18 = sL f_17 q1 57 y_75 → Ok L f_18 → ∀ q_77 : Nat, tr f_18 q1 18 = some q_77 → ∀ f_19 : TF, f_19 = sI f_18 q_77 m (vp_nar .boolean 1) → Ok L f_19 → Q (nI nT) L f_19) ∧ (¬ (y_67 = 0) → ∀ q_69 : Nat, tr f_17 q1 15 = some q_69 → ∀ x_70 : Int32, ti f_17 q_69 m = x_70 → ∀ y_71 : Int32, y_71 = pd / 20 → ∀ f_18 : TF, f_18 = sI f_17 q_69 m (x_70 + (pd - y_71)) → Ok L f_18 → Q (nI nT) L f_18)))))) := by
  have im := hA.m hO m1
  have r := hA.2.2.2
  have ne : ∀ k k', k ∈ RK → k' ∈ RK → kd k ≠ kd k' → ad k ≠ ad k' := fun k k' hk hk' h => ne_tk (im k hk).2 (im k' hk').2 h
  intro q37 e37 g11 hg11 _ g12 hg12 _ q40 e40 g13 hg13 _ q43 e43 g14 hg14 _ q45 e45 x46 e46 g15 hg15 _ x48 e48 y49 e49 y50 e50 g16 hg16 _ q52 e52
  rw [r 25 (by decide)] at e37; cases e37
  rw [hg12, tr_sI, hg11, tr_sI, r 24 (by decide)] at e40; cases e40
  rw [hg13, tr_sI, hg12, tr_sI, hg11, tr_sI, r 16 (by decide)] at e43; cases e43
  rw [hg14, tr_sI, hg13, tr_sI, hg12, tr_sI, hg11, tr_sI, r 17 (by decide)] at e45; cases e45
  rw [hg14, ti_sI_ne (ne 17 16 (by decide) (by decide) (by decide)), hg13, ti_sI_ne (ne 17 24 (by decide) (by decide) (by decide)), hg12, ti_sI_ne (ne 17 23 (by decide) (by decide) (by decide)), hg11, ti_sI_ne (ne 17 25 (by decide) (by decide) (by decide))] at e46
  have k15 : ∀ c, tk g15 c = tk g c := fun c => by rw [hg15, tk_sI, hg14, tk_sI, hg13, tk_sI, hg12, tk_sI, hg11, tk_sI]
  have r15 : ∀ c z, tr g15 c z = tr g c z := fun c z => by rw [hg15, tr_sI, hg14, tr_sI, hg13, tr_sI, hg12, tr_sI, hg11, tr_sI]
  have imm := hRF.2.1.m hO m1
  have rm := hRF.2.1.2.1
  have nk : ∀ k k', k ∈ [15, 18, 59, 61, 62, 63] → k' ∈ RK → ad k ≠ ad k' := fun k k' hk hk' => ne_tk (imm k hk).2 (im k' hk').2 (by
    unfold RK at hk'
    simp only [List.mem_cons, List.not_mem_nil, or_false] at hk hk'
    unfold kd6 kd
    repeat' split
    all_goals omega)
  have nqk : ∀ k, k ∈ RK → q1 ≠ ad k := fun k hk => ne_tk m1.2 (im k hk).2 (by have := RK_kd hk; omega)
  have l15 : ∀ c z, tl g15 c z = tl g c z := fun c z => by rw [hg15, tl_sI, hg14, tl_sI, hg13, tl_sI, hg12, tl_sI, hg11, tl_sI]
  have i15 : ∀ k, k ∈ [15, 18, 59, 61, 62, 63] → ∀ z, ti g15 (ad k) z = ti g (ad k) z := fun k hk z => by rw [hg15, ti_sI_ne (nk k 17 hk (by decide)), hg14, ti_sI_ne (nk k 16 hk (by decide)), hg13, ti_sI_ne (nk k 24 hk (by decide)), hg12, ti_sI_ne (nk k 23 hk (by decide)), hg11, ti_sI_ne (nk k 25 hk (by decide))]
  have q15 : ∀ z, ti g15 q1 z = ti g q1 z := fun z => by rw [hg15, ti_sI_ne (nqk 17 (by decide)), hg14, ti_sI_ne (nqk 16 (by decide)), hg13, ti_sI_ne (nqk 24 (by decide)), hg12, ti_sI_ne (nqk 23 (by decide)), hg11, ti_sI_ne (nqk 25 (by decide))]
  obtain ⟨⟨x1, x2, x3, x4, x5, x6⟩, ⟨⟨c1, c2⟩, c3, c4⟩, hSH⟩ := id hRF
  obtain ⟨v1, v2, v3, v4, v5⟩ := id hI
  obtain ⟨p1, p2⟩ := pd_b h0 h1
  have hdv : nI τ / 720 = nI (τ / 720) := by rw [show (720 : Int32) = nI 720 from rfl, pk_div (by omega) (by decide) (by decide)]
  have hd : τ / 720 < 500 := by omega
  generalize τ / 720 = d at *
  have nq59 : q1 ≠ ad 59 := ne_tk m1.2 (imm 59 (by decide)).2 (by decide)
  have n1518 : ad 15 ≠ ad 18 := ne_tk (imm 15 (by decide)).2 (imm 18 (by decide)).2 (by decide)
  have n6118 : ad 61 ≠ ad 18 := ne_tk (imm 61 (by decide)).2 (imm 18 (by decide)).2 (by decide)
  have n6218 : ad 62 ≠ ad 18 := ne_tk (imm 62 (by decide)).2 (imm 18 (by decide)).2 (by decide)
  have n6318 : ad 63 ≠ ad 18 := ne_tk (imm 63 (by decide)).2 (imm 18 (by decide)).2 (by decide)
  have n6115 : ad 61 ≠ ad 15 := ne_tk (imm 61 (by decide)).2 (imm 15 (by decide)).2 (by decide)
  have n6215 : ad 62 ≠ ad 15 := ne_tk (imm 62 (by decide)).2 (imm 15 (by decide)).2 (by decide)
  have n6315 : ad 63 ≠ ad 15 := ne_tk (imm 63 (by decide)).2 (imm 15 (by decide)).2 (by decide)
  have nq18 : q1 ≠ ad 18 := ne_tk m1.2 (imm 18 (by decide)).2 (by decide)
  have nq15 : q1 ≠ ad 15 := ne_tk m1.2 (imm 15 (by decide)).2 (by decide)
  rw [hg16, tr_sL, r15, rm 59 (by decide)] at e52; cases e52
  have t50 : y50.toInt = M.1 + (pd / 20).toInt := by
    rw [e50, e49, l_add (by rw [← e48, l15, x1, Int32.toInt_toInt64]; omega) (by rw [← e48, l15, x1, Int32.toInt_toInt64]; omega), ← e48, l15, x1, Int32.toInt_toInt64]
  -- whatever money does, it ends here
  have hend : ∀ wF : TF, RF wF q1 ad np (lsF d m ls) pen pend d (takeF d m pd M) → (∀ c z, tk g c ≠ 42 → tk g c ≠ 39 → ti wF c z = ti g15 c z) → (∀ c z, tr wF c z = tr g15 c z) → Q (nI nT) L wF := by
    intro wF eRF e1 e2
    have eR : ∀ k, k ∈ RK → ∀ z, ti wF (ad k) z = ti g15 (ad k) z := fun k hk z => e1 _ z (by rw [(im k hk).2]; unfold RK at hk; simp only [List.mem_cons, List.not_mem_nil, or_false] at hk; unfold kd; split <;> (try split) <;> omega) (by rw [(im k hk).2]; unfold RK at hk; simp only [List.mem_cons, List.not_mem_nil, or_false] at hk; unfold kd; split <;> (try split) <;> omega)
    refine hq wF eRF (fun c z c1 c2 c3 c4 c5 c6 c7 => ?_) (fun k hk z hz => ?_) (fun k hk z hz => ?_) ?_ ?_ ?_ ?_ ?_ (fun c z => (e2 c z).trans (r15 c z))
    · rw [e1 c z c1 c2, hg15, ti_sI_ne c7, hg14, ti_sI_ne c6, hg13, ti_sI_ne c5, hg12, ti_sI_ne c4, hg11, ti_sI_ne c3]
    · simp only [List.mem_cons, List.not_mem_nil, or_false] at hk
      rcases hk with rfl | rfl | rfl
      · rw [eR 23 (by decide), hg15, ti_sI_ne (ne 23 17 (by decide) (by decide) (by decide)), hg14, ti_sI_ne (ne 23 16 (by decide) (by decide) (by decide)), hg13, ti_sI_ne (ne 23 24 (by decide) (by decide) (by decide)), hg12, ti_sI_nj hz, hg11, ti_sI_ne (ne 23 25 (by decide) (by decide) (by decide))]
      · rw [eR 24 (by decide), hg15, ti_sI_ne (ne 24 17 (by decide) (by decide) (by decide)), hg14, ti_sI_ne (ne 24 16 (by decide) (by decide) (by decide)), hg13, ti_sI_nj hz, hg12, ti_sI_ne (ne 24 23 (by decide) (by decide) (by decide)), hg11, ti_sI_ne (ne 24 25 (by decide) (by decide) (by decide))]
      · rw [eR 25 (by decide), hg15, ti_sI_ne (ne 25 17 (by decide) (by decide) (by decide)), hg14, ti_sI_ne (ne 25 16 (by decide) (by decide) (by decide)), hg13, ti_sI_ne (ne 25 24 (by decide) (by decide) (by decide)), hg12, ti_sI_ne (ne 25 23 (by decide) (by decide) (by decide)), hg11, ti_sI_nj hz]
    · simp only [List.mem_cons, List.not_mem_nil, or_false] at hk
      rcases hk with rfl | rfl
      · rw [eR 16 (by decide), hg15, ti_sI_ne (ne 16 17 (by decide) (by decide) (by decide)), hg14, ti_sI_nj hz, hg13, ti_sI_ne (ne 16 24 (by decide) (by decide) (by decide)), hg12, ti_sI_ne (ne 16 23 (by decide) (by decide) (by decide)), hg11, ti_sI_ne (ne 16 25 (by decide) (by decide) (by decide))]
      · rw [eR 17 (by decide), hg15, ti_sI_nj hz, hg14, ti_sI_ne (ne 17 16 (by decide) (by decide) (by decide)), hg13, ti_sI_ne (ne 17 24 (by decide) (by decide) (by decide)), hg12, ti_sI_ne (ne 17 23 (by decide) (by decide) (by decide)), hg11, ti_sI_ne (ne 17 25 (by decide) (by decide) (by decide))]
    · rw [eR 25 (by decide), hg15, ti_sI_ne (ne 25 17 (by decide) (by decide) (by decide)), hg14, ti_sI_ne (ne 25 16 (by decide) (by decide) (by decide)), hg13, ti_sI_ne (ne 25 24 (by decide) (by decide) (by decide)), hg12, ti_sI_ne (ne 25 23 (by decide) (by decide) (by decide)), hg11, ti_sI_eq]
    · rw [eR 23 (by decide), hg15, ti_sI_ne (ne 23 17 (by decide) (by decide) (by decide)), hg14, ti_sI_ne (ne 23 16 (by decide) (by decide) (by decide)), hg13, ti_sI_ne (ne 23 24 (by decide) (by decide) (by decide)), hg12, ti_sI_eq]
    · rw [eR 24 (by decide), hg15, ti_sI_ne (ne 24 17 (by decide) (by decide) (by decide)), hg14, ti_sI_ne (ne 24 16 (by decide) (by decide) (by decide)), hg13, ti_sI_eq]
    · rw [eR 16 (by decide), hg15, ti_sI_ne (ne 16 17 (by decide) (by decide) (by decide)), hg14, ti_sI_eq]
    · rw [eR 17 (by decide), hg15, ti_sI_eq, ← e46]
  refine today_m ?_
  have t16 : ti g16 q1 1 / 720 = nI d := by rw [hg16, ti_sL, q15, ht, hdv]
  rw [t16]
  intro x58 e58 y59 e59 y60 e60 g17 hg17 _
  rw [nI_clamp (by omega)] at e58 hg17
  have hv5 := v5 d hd
  have h4d := x4 d hd
  rw [hg16, tl_sL_ne nq59.symm, l15] at e58
  have t60 : y60.toInt = M.2.2.2.1 d + (pd / 20).toInt := by
    rw [e60, e59, l_add (by rw [← e58, h4d, Int32.toInt_toInt64]; omega) (by rw [← e58, h4d, Int32.toInt_toInt64]; omega), ← e58, h4d, Int32.toInt_toInt64]
  refine today_m ?_
  have t17 : ti g17 q1 1 / 720 = nI d := by rw [hg17, ti_sL]; exact t16
  rw [t17]
  intro y67 e67
  rw [e67, d7 hd]
  have r16 : ∀ z, tr g17 q1 z = tr g q1 z := fun z => by rw [hg17, tr_sL, hg16, tr_sL]; exact r15 q1 z
  have i17 : ∀ c z, ti g17 c z = ti g15 c z := fun c z => by rw [hg17, ti_sL, hg16, ti_sL]
  have sI' : ∀ x, x < 500 → (tl g17 (ad 59) x).toInt = (if x = d then M.2.2.2.1 x + (pd / 20).toInt else M.2.2.2.1 x) := by
    intro x hx
    rw [hg17, tl_sL]
    by_cases ex : x = d
    · subst ex
      rw [if_pos ⟨rfl, rfl⟩, if_pos rfl]; exact t60
    · rw [if_neg (fun k => ex k.2), if_neg ex, hg16, tl_sL_ne nq59.symm, l15]; exact x4 x hx
  have s56 : (tl g17 q1 56).toInt = M.1 + (pd / 20).toInt := by rw [hg17, tl_sL_ne nq59, hg16, tl_sL_eq]; exact t50
  have s57 : tl g17 q1 57 = tl g q1 57 := by rw [hg17, tl_sL_ne nq59, hg16, tl_sL_nj (by decide), l15]
  have s58 : tl g17 q1 58 = tl g q1 58 := by rw [hg17, tl_sL_ne nq59, hg16, tl_sL_nj (by decide), l15]
  refine ⟨fun cS x73 e73 y74 e74 y75 e75 g18 hg18 _ q77 e77 g19 hg19 _ => ?_, fun cS q69 e69 x70 e70 y71 e71 g18 hg18 _ => ?_⟩
  · rw [hg18, tr_sL, r16, rm 18 (by decide)] at e77; cases e77
    have i77 := imm 18 (by decide)
    have t75 : y75.toInt = M.2.1 + (pd - pd / 20).toInt := by
      rw [e75, e74, l_add (by rw [← e73, s57, x2, Int32.toInt_toInt64]; omega) (by rw [← e73, s57, x2, Int32.toInt_toInt64]; omega), ← e73, s57, x2, Int32.toInt_toInt64]
    have hnar : vp_nar .boolean 1 = 1 := by decide
    rw [hnar] at hg19
    have w18 : ∀ c z, c ≠ ad 18 → ti g19 c z = ti g15 c z := fun c z hc => by rw [hg19, ti_sI_ne hc, hg18, ti_sL]; exact i17 c z
    have wr' : ∀ c z, tr g19 c z = tr g c z := fun c z => by rw [hg19, tr_sI, hg18, tr_sL, hg17, tr_sL, hg16, tr_sL]; exact r15 c z
    refine hend g19 ⟨⟨?_, ?_, ?_, fun x hx => ?_, fun m' h => ?_, fun i h => ?_⟩, ⟨⟨c1, ?_⟩, fun k hk => (wr' _ _).trans (c3 k hk), fun i h => ⟨?_, ?_⟩⟩, fun m' h => ?_⟩ (fun c z k1 _ => w18 c z (fun e => k1 (by rw [e]; exact i77.2))) (fun c z => by rw [wr', r15])
    · rw [hg19, tl_sI, hg18, tl_sL_nj (by decide)]; exact s56
    · rw [hg19, tl_sI, hg18, tl_sL_eq]
      show _ = if d % 7 = 0 then _ else _
      rw [if_pos cS]; exact t75
    · rw [hg19, tl_sI, hg18, tl_sL_nj (by decide), s58]; exact x3
    · rw [hg19, tl_sI, hg18, tl_sL_ne nq59.symm]; exact sI' x hx
    · rw [w18 _ _ n1518, i15 15 (by decide)]
      show _ = if m' = m ∧ ¬ d % 7 = 0 then _ else _
      rw [if_neg (fun k => k.2 cS)]; exact x5 m' h
    · rw [w18 _ _ n6318, i15 63 (by decide)]; exact x6 i h
    · rw [w18 _ _ nq18, q15]; exact c2
    · rw [w18 _ _ n6118, i15 61 (by decide)]; exact (c4 i h).1
    · rw [w18 _ _ n6218, i15 62 (by decide)]; exact (c4 i h).2
    · unfold lsF
      by_cases e : m' = m
      · subst e
        rw [if_pos ⟨rfl, cS⟩, hg19, ti_sI_eq]
        exact ⟨fun _ => ⟨cS, rfl⟩, fun _ => by decide⟩
      · rw [if_neg (fun k => e k.1), hg19, ti_sI_nj e, hg18, ti_sL, i17, i15 18 (by decide)]; exact hSH m' h
  · rw [r16, rm 15 (by decide)] at e69; cases e69
    have i69 := imm 15 (by decide)
    have w15 : ∀ c z, c ≠ ad 15 → ti g18 c z = ti g15 c z := fun c z hc => by rw [hg18, ti_sI_ne hc]; exact i17 c z
    have wr' : ∀ c z, tr g18 c z = tr g c z := fun c z => by rw [hg18, tr_sI, hg17, tr_sL, hg16, tr_sL]; exact r15 c z
    rw [i17, i15 15 (by decide)] at e70
    refine hend g18 ⟨⟨?_, ?_, ?_, fun x hx => ?_, fun m' h => ?_, fun i h => ?_⟩, ⟨⟨c1, ?_⟩, fun k hk => (wr' _ _).trans (c3 k hk), fun i h => ⟨?_, ?_⟩⟩, fun m' h => ?_⟩ (fun c z _ k2 => w15 c z (fun e => k2 (by rw [e]; exact i69.2))) (fun c z => by rw [wr', r15])
    · rw [hg18, tl_sI]; exact s56
    · rw [hg18, tl_sI, s57]
      show _ = if d % 7 = 0 then _ else _
      rw [if_neg cS]; exact x2
    · rw [hg18, tl_sI, s58]; exact x3
    · rw [hg18, tl_sI]; exact sI' x hx
    · show _ = if m' = m ∧ ¬ d % 7 = 0 then _ else _
      by_cases e : m' = m
      · subst e
        rw [if_pos ⟨rfl, cS⟩, hg18, ti_sI_eq, ← e70, e71, x5 m' h]
      · rw [if_neg (fun k => e k.1), hg18, ti_sI_nj e, i17, i15 15 (by decide)]; exact x5 m' h
    · rw [w15 _ _ n6315, i15 63 (by decide)]; exact x6 i h
    · rw [w15 _ _ nq15, q15]; exact c2
    · rw [w15 _ _ n6115, i15 61 (by decide)]; exact (c4 i h).1
    · rw [w15 _ _ n6215, i15 62 (by decide)]; exact (c4 i h).2
    · unfold lsF
      rw [if_neg (fun k => cS k.2), w15 _ _ n1518.symm, i15 18 (by decide)]; exact hSH m' h
theorem XF.keep {f f' : TF} {pn : Nat → Nat} {np : Nat} {ls pen pend : Nat → Int32} {M : MS} (h : XF f ad pn np ls pen pend M) (k1 : ∀ z, ti f' (ad 68) z = ti f (ad 68) z) (k2 : ∀ z, ti f' (ad 69) z = ti f (ad 69) z) (k3 : ∀ m, m < 40 → ti f' (ad (100 + m)) 4 = ti f (ad (100 + m)) 4 ∧ ti f' (ad (100 + m)) 7 = ti f (ad (100 + m)) 7) (k4 : ∀ i, i < np → ∀ z, ti f' (pn i) z = ti f (pn i) z) (k5 : ∀ z, tr f' (ad 68) z = tr f (ad 68) z) (k6 : ∀ z, tr f' (ad 70) z = tr f (ad 70) z) : XF f' ad pn np ls pen pend M := by
  obtain ⟨⟨x1, x2, x3, x4, x5, x6⟩, ⟨c1, c2, c3, c4⟩, c5, c6, c7, c8⟩ := h
  exact ⟨⟨by rw [k1]; exact x1, by rw [k1]; exact x2, by rw [k1]; exact x3, fun d hd => by rw [k2]; exact x4 d hd, fun m hm => by rw [(k3 m hm).1]; exact x5 m hm, fun i hi => by rw [k4 i hi]; exact x6 i hi⟩, ⟨c1, by rw [k1]; exact c2, by rw [k5]; exact c3, by rw [k5]; exact c4⟩, fun i hi => by rw [k6]; exact c5 i hi, c6, fun i hi => ⟨by rw [k4 i hi]; exact (c7 i hi).1, by rw [k4 i hi]; exact (c7 i hi).2⟩, fun m hm => by rw [(k3 m hm).2]; exact c8 m hm⟩
theorem RF.keep {f f' : TF} {np D : Nat} {ls pen pend : Nat → Int32} {M : MS} (h : RF f q1 ad np ls pen pend D M) (k1 : ∀ z, tl f' q1 z = tl f q1 z) (k2 : ∀ z, tl f' (ad 59) z = tl f (ad 59) z) (k3 : ∀ k, k ∈ [15, 18, 61, 62, 63] → ∀ z, ti f' (ad k) z = ti f (ad k) z) (k4 : ti f' q1 60 = ti f q1 60) (k5 : ∀ z, tr f' q1 z = tr f q1 z) : RF f' q1 ad np ls pen pend D M := by
  obtain ⟨⟨x1, x2, x3, x4, x5, x6⟩, ⟨⟨c1, c2⟩, c3, c4⟩, hS⟩ := h
  exact ⟨⟨by rw [k1]; exact x1, by rw [k1]; exact x2, by rw [k1]; exact x3, fun d hd => by rw [k2]; exact x4 d hd, fun m hm => by rw [k3 15 (by decide)]; exact x5 m hm, fun i hi => by rw [k3 63 (by decide)]; exact x6 i hi⟩, ⟨⟨c1, by rw [k4]; exact c2⟩, fun k hk => by rw [k5]; exact c3 k hk, fun i hi => ⟨by rw [k3 61 (by decide)]; exact (c4 i hi).1, by rw [k3 62 (by decide)]; exact (c4 i hi).2⟩⟩, fun m hm => by rw [k3 18 (by decide)]; exact hS m hm⟩
end ROM
