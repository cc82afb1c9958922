section ROF
variable {L : List Nat} {q0 q1 : Nat} {ad : Nat → Nat}
theorem row_fin {g : TF} {b m nT : Nat} {A to pd : Int32} {Q : Int32 → List Nat → TF → Prop} (hA : Ad g q0 q1 ad) (hO : Ok L g) (m1 : q1 ∈ L ∧ tk g q1 = 27) (hq : ∀ wF : TF, (∀ c z, tk g c ≠ 42 → tk g c ≠ 39 → c ≠ ad 25 → c ≠ ad 23 → c ≠ ad 24 → c ≠ ad 16 → c ≠ ad 17 → ti wF c z = ti g c z) → (∀ k, k ∈ [23, 24, 25] → ∀ z, z ≠ b → ti wF (ad k) z = ti g (ad k) z) → (∀ k, k ∈ [16, 17] → ∀ z, z ≠ m → ti wF (ad k) z = ti g (ad k) z) → ti wF (ad 25) b = nI nT → ti wF (ad 23) b = to → ti wF (ad 24) b = A → ti wF (ad 16) m = nI nT → ti wF (ad 17) m = ti g (ad 17) m + 1 → (∀ c z, tr wF c z = tr g c z) → Q (nI nT) L wF) : ∀ q_37 : Nat, tr g q1 25 = some q_37 → ∀ f_11 : TF, f_11 = sI g q_37 b (nI nT) → Ok L f_11 → ∀ f_12 : TF, f_12 = sI f_11 (ad 23) b to → Ok L f_12 → ∀ q_40 : Nat, tr f_12 q1 24 = some q_40 → ∀ f_13 : TF, f_13 = sI f_12 q_40 b A → Ok L f_13 → ∀ q_43 : Nat, tr f_13 q1 16 = some q_43 → ∀ f_14 : TF, f_14 = sI f_13 q_43 m (nI nT) → Ok L f_14 → ∀ q_45 : Nat, tr f_14 q1 17 = some q_45 → ∀ x_46 : Int32, ti f_14 q_45 m = x_46 → ∀ f_15 : TF, f_15 = sI f_14 q_45 m (x_46 + 1) → Ok L f_15 → ∀ x_48 : Int64, tl f_15 q1 56 = x_48 → ∀ y_49 : Int32, y_49 = pd / 20 → ∀ y_50 : Int64, y_50 = (x_48 : Int64) + ((y_49 : Int32).toInt64 : Int64) → ∀ f_16 : TF, f_16 = sL f_15 q1 56 y_50 → Ok L f_16 → ∀ q_52 : Nat, tr f_16 q1 59 = some q_52 → wp_Md_today_w L f_16 q1 (fun (r_53 : Int32) => (∀ x_58 : Int64, tl f_16 q_52 (r_53 : Int32).toNatClampNeg = x_58 → ∀ y_59 : Int32, y_59 = pd / 20 → ∀ y_60 : Int64, y_60 = (x_58 : Int64) + ((y_59 : Int32).toInt64 : Int64) → ∀ f_17 : TF, f_17 = sL f_16 q_52 (r_53 : Int32).toNatClampNeg y_60 → Ok L f_17 → wp_Md_today_w L f_17 q1 (fun (r_62 : Int32) => (∀ y_67 : Int32, y_67 = r_62 - r_62 / 7 * 7 → ((y_67 = 0 → ∀ x_73 : Int64, tl f_17 q1 57 = x_73 → ∀ y_74 : Int32, y_74 = pd / 20 → ∀ y_75 : Int64, y_75 = (x_73 : Int64) + (((pd - y_74) : Int32).toInt64 : Int64) → ∀ f_18 : TF, f_18 = sL f_17 q1 57 y_75 → Ok L f_18 → ∀ q_77 : Nat, tr f_18 q1 18 = some q_77 → ∀ f_19 : TF, f_19 = sI f_18 q_77 m (vp_nar .boolean 1) → Ok L f_19 → Q (nI nT) L f_19) ∧ (¬ (y_67 = 0) → ∀ q_69 : Nat, tr f_17 q1 15 = some q_69 → ∀ x_70 : Int32, ti f_17 q_69 m = x_70 → ∀ y_71 : Int32, y_71 = pd / 20 → ∀ f_18 : TF, f_18 = sI f_17 q_69 m (x_70 + (pd - y_71)) → Ok L f_18 → Q (nI nT) L f_18)))))) := by
  have im := hA.m hO m1
  have r := hA.2.2.2
  have ne : ∀ k k', k ∈ RK → k' ∈ RK → kd k ≠ kd k' → ad k ≠ ad k' := fun k k' hk hk' h => ne_tk (im k hk).2 (im k' hk').2 h
  intro q37 e37 g11 hg11 _ g12 hg12 _ q40 e40 g13 hg13 _ q43 e43 g14 hg14 _ q45 e45 x46 e46 g15 hg15 _ x48 _ y49 _ y50 _ g16 hg16 _ q52 e52
  rw [r 25 (by decide)] at e37; cases e37
  rw [hg12, tr_sI, hg11, tr_sI, r 24 (by decide)] at e40; cases e40
  rw [hg13, tr_sI, hg12, tr_sI, hg11, tr_sI, r 16 (by decide)] at e43; cases e43
  rw [hg14, tr_sI, hg13, tr_sI, hg12, tr_sI, hg11, tr_sI, r 17 (by decide)] at e45; cases e45
  rw [hg14, ti_sI_ne (ne 17 16 (by decide) (by decide) (by decide)), hg13, ti_sI_ne (ne 17 24 (by decide) (by decide) (by decide)), hg12, ti_sI_ne (ne 17 23 (by decide) (by decide) (by decide)), hg11, ti_sI_ne (ne 17 25 (by decide) (by decide) (by decide))] at e46
  have k15 : ∀ c, tk g15 c = tk g c := fun c => by rw [hg15, tk_sI, hg14, tk_sI, hg13, tk_sI, hg12, tk_sI, hg11, tk_sI]
  have r15 : ∀ c z, tr g15 c z = tr g c z := fun c z => by rw [hg15, tr_sI, hg14, tr_sI, hg13, tr_sI, hg12, tr_sI, hg11, tr_sI]
  -- whatever money does, it ends here
  have hend : ∀ wF : TF, (∀ c z, tk g c ≠ 42 → tk g c ≠ 39 → ti wF c z = ti g15 c z) → (∀ c z, tr wF c z = tr g15 c z) → Q (nI nT) L wF := by
    intro wF e1 e2
    have eR : ∀ k, k ∈ RK → ∀ z, ti wF (ad k) z = ti g15 (ad k) z := fun k hk z => e1 _ z (by rw [(im k hk).2]; unfold RK at hk; simp only [List.mem_cons, List.not_mem_nil, or_false] at hk; unfold kd; split <;> (try split) <;> omega) (by rw [(im k hk).2]; unfold RK at hk; simp only [List.mem_cons, List.not_mem_nil, or_false] at hk; unfold kd; split <;> (try split) <;> omega)
    refine hq wF (fun c z c1 c2 c3 c4 c5 c6 c7 => ?_) (fun k hk z hz => ?_) (fun k hk z hz => ?_) ?_ ?_ ?_ ?_ ?_ (fun c z => (e2 c z).trans (r15 c z))
    · rw [e1 c z c1 c2, hg15, ti_sI_ne c7, hg14, ti_sI_ne c6, hg13, ti_sI_ne c5, hg12, ti_sI_ne c4, hg11, ti_sI_ne c3]
    · simp only [List.mem_cons, List.not_mem_nil, or_false] at hk
      rcases hk with rfl | rfl | rfl
      · rw [eR 23 (by decide), hg15, ti_sI_ne (ne 23 17 (by decide) (by decide) (by decide)), hg14, ti_sI_ne (ne 23 16 (by decide) (by decide) (by decide)), hg13, ti_sI_ne (ne 23 24 (by decide) (by decide) (by decide)), hg12, ti_sI_nj hz, hg11, ti_sI_ne (ne 23 25 (by decide) (by decide) (by decide))]
      · rw [eR 24 (by decide), hg15, ti_sI_ne (ne 24 17 (by decide) (by decide) (by decide)), hg14, ti_sI_ne (ne 24 16 (by decide) (by decide) (by decide)), hg13, ti_sI_nj hz, hg12, ti_sI_ne (ne 24 23 (by decide) (by decide) (by decide)), hg11, ti_sI_ne (ne 24 25 (by decide) (by decide) (by decide))]
      · rw [eR 25 (by decide), hg15, ti_sI_ne (ne 25 17 (by decide) (by decide) (by decide)), hg14, ti_sI_ne (ne 25 16 (by decide) (by decide) (by decide)), hg13, ti_sI_ne (ne 25 24 (by decide) (by decide) (by decide)), hg12, ti_sI_ne (ne 25 23 (by decide) (by decide) (by decide)), hg11, ti_sI_nj hz]
    · simp only [List.mem_cons, List.not_mem_nil, or_false] at hk
      rcases hk with rfl | rfl
      · rw [eR 16 (by decide), hg15, ti_sI_ne (ne 16 17 (by decide) (by decide) (by decide)), hg14, ti_sI_nj hz, hg13, ti_sI_ne (ne 16 24 (by decide) (by decide) (by decide)), hg12, ti_sI_ne (ne 16 23 (by decide) (by decide) (by decide)), hg11, ti_sI_ne (ne 16 25 (by decide) (by decide) (by decide))]
      · rw [eR 17 (by decide), hg15, ti_sI_nj hz, hg14, ti_sI_ne (ne 17 16 (by decide) (by decide) (by decide)), hg13, ti_sI_ne (ne 17 24 (by decide) (by decide) (by decide)), hg12, ti_sI_ne (ne 17 23 (by decide) (by decide) (by decide)), hg11, ti_sI_ne (ne 17 25 (by decide) (by decide) (by decide))]
    · rw [eR 25 (by decide), hg15, ti_sI_ne (ne 25 17 (by decide) (by decide) (by decide)), hg14, ti_sI_ne (ne 25 16 (by decide) (by decide) (by decide)), hg13, ti_sI_ne (ne 25 24 (by decide) (by decide) (by decide)), hg12, ti_sI_ne (ne 25 23 (by decide) (by decide) (by decide)), hg11, ti_sI_eq]
    · rw [eR 23 (by decide), hg15, ti_sI_ne (ne 23 17 (by decide) (by decide) (by decide)), hg14, ti_sI_ne (ne 23 16 (by decide) (by decide) (by decide)), hg13, ti_sI_ne (ne 23 24 (by decide) (by decide) (by decide)), hg12, ti_sI_eq]
    · rw [eR 24 (by decide), hg15, ti_sI_ne (ne 24 17 (by decide) (by decide) (by decide)), hg14, ti_sI_ne (ne 24 16 (by decide) (by decide) (by decide)), hg13, ti_sI_eq]
    · rw [eR 16 (by decide), hg15, ti_sI_ne (ne 16 17 (by decide) (by decide) (by decide)), hg14, ti_sI_eq]
    · rw [eR 17 (by decide), hg15, ti_sI_eq, ← e46]
  refine today_m ?_
  intro x58 _ y59 _ y60 _ g17 hg17 _
  refine today_m ?_
  intro y67 _
  have r16 : ∀ z, tr g17 q1 z = tr g q1 z := fun z => by rw [hg17, tr_sL, hg16, tr_sL]; exact r15 q1 z
  refine ⟨fun _ x73 _ y74 _ y75 _ g18 hg18 _ q77 e77 g19 hg19 _ => ?_, fun _ q69 e69 x70 _ y71 _ g18 hg18 _ => ?_⟩
  · rw [hg18, tr_sL, r16] at e77
    have i77 := hO.rm (j := 18) (k' := 42) (n := false) m1 rfl e77
    refine hend g19 (fun c z c1 _ => ?_) (fun c z => by rw [hg19, tr_sI, hg18, tr_sL, hg17, tr_sL, hg16, tr_sL])
    rw [hg19, ti_sI_ne (show c ≠ q77 from fun e => c1 (by rw [e]; exact i77.2)), hg18, ti_sL, hg17, ti_sL, hg16, ti_sL]
  · rw [r16] at e69
    have i69 := hO.rm (j := 15) (k' := 39) (n := false) m1 rfl e69
    refine hend g18 (fun c z _ c2 => ?_) (fun c z => by rw [hg18, tr_sI, hg17, tr_sL, hg16, tr_sL])
    rw [hg18, ti_sI_ne (show c ≠ q69 from fun e => c2 (by rw [e]; exact i69.2)), hg17, ti_sL, hg16, ti_sL]
end ROF
