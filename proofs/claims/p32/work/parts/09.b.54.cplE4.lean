section FOM
variable {L : List Nat} {f : TF} {q0 q1 : Nat} {ad : Nat → Nat} {N : Nat}
theorem fore_m {np t a : Nat} {ls pen pend : Nat → Int32} {M : MS} {B : Int} {D : Nat} {Q : Int32 → Prop} (hR : RF f q1 ad np ls pen pend D M) (hI : IV B M) (hp : PB np pen) (ht : t < 500) (hT : ti f q1 1 / 720 = nI t) (ha : a = t - 100) (hq1 : ∀ k, 1 ≤ k → k ≤ 40 → (∀ j, j < k → 0 ≤ fld np pen pend (icS M.2.2.2.1 a (t + 1 - a)) M.1 t j) → fld np pen pend (icS M.2.2.2.1 a (t + 1 - a)) M.1 t k < 0 → Q (nI ((t / 100 + k) * 100))) (hq2 : (∀ k, k ≤ 40 → 0 ≤ fld np pen pend (icS M.2.2.2.1 a (t + 1 - a)) M.1 t k) → Q (-2)) (r1 : Int32) (r7 : Int32) : ∀ (n i : Nat) (v : Int64), a + i ≤ t + 1 → v.toInt = icS M.2.2.2.1 a i → wpL_Md_foretold_w_23_12 L f q1 r1 r7 Q n (nI (a + i)) v := by
  obtain ⟨v1, v2, v3, v4, v5⟩ := id hI
  have hinc : ∀ d, d < 500 → 0 ≤ M.2.2.2.1 d ∧ M.2.2.2.1 d ≤ 600000000 := fun d hd => by have := v5 d hd; omega
  have c1 := hR.2.1.1.1
  have rr := hR.2.1.2.1
  have hstep : ∀ (rc : Int32 → Int64 → Prop) (i : Nat) (v : Int64), a + i ≤ t + 1 → v.toInt = icS M.2.2.2.1 a i → (∀ v' : Int64, a + i < t + 1 → v'.toInt = icS M.2.2.2.1 a (i + 1) → rc (nI (a + (i + 1))) v') → wpB_Md_foretold_w_23_12 L f q1 r1 r7 Q rc (nI (a + i)) v := by
    intro rc i v hi hv hrec
    have hib := icS_b (a := a) hinc i (by omega)
    refine today_m ?_
    rw [hT]
    refine ⟨fun g x19 e19 => ?_, fun g q13 e13 x14 e14 y15 e15 => ?_⟩
    · rw [nI_ltI (by omega) (by omega)] at g
      have ei : i = t + 1 - a := by omega
      rw [ei] at hv hib
      have hCb : 0 ≤ icS M.2.2.2.1 a (t + 1 - a) ∧ icS M.2.2.2.1 a (t + 1 - a) ≤ 300000000000 := by omega
      have hfb := fld_b (pend := pend) (t := t) hp c1 hCb (b := M.1) (by omega)
      generalize icS M.2.2.2.1 a (t + 1 - a) = C at *
      have hs2 : ∀ (rc9 : Int32 → Int64 → Prop) (k : Nat) (w : Int64), k ≤ 40 → w.toInt = fld np pen pend C M.1 t k → (∀ j, j ≤ k → 0 ≤ fld np pen pend C M.1 t j) → (∀ w' : Int64, k < 40 → w'.toInt = fld np pen pend C M.1 t (k + 1) → 0 ≤ fld np pen pend C M.1 t (k + 1) → rc9 (nI (k + 1 + 1)) w') → wpB_Md_foretold_w_54_20 L f q1 r1 r7 (nI (a + i)) v rc (nI t) x19 Q rc9 (nI (k + 1)) w := by
        intro rc9 k w hk hw hall hrec9
        refine ⟨fun g9 => ?_, fun g9 => ?_⟩
        · rw [show (40 : Int32) = nI 40 from rfl, nI_ltI (by decide) (by omega)] at g9
          have : k = 40 := by omega
          subst this
          exact hq2 hall
        · rw [show (40 : Int32) = nI 40 from rfl, nI_ltI (by decide) (by omega)] at g9
          refine today_m ?_
          rw [hT]
          intro y27 e27 y28 e28
          rw [show (100 : Int32) = nI 100 from rfl, pk_div (by omega) (by decide) (by decide)] at e27
          have eD : (y27 + nI (k + 1)) * 100 = nI ((t / 100 + (k + 1)) * 100) := by rw [e27, nI_add, show (100 : Int32) = nI 100 from rfl, pk_mul]
          have hfk := hfb k (by omega)
          have t28 : y28.toInt = fld np pen pend C M.1 t k + C := by rw [e28, l_add (by rw [hw, hv]; omega) (by rw [hw, hv]; omega), hw, hv]
          have hfk0 := hall k (Nat.le_refl _)
          have hsucc : fld np pen pend C M.1 t (k + 1) = fld np pen pend C M.1 t k + C - owd pen pend ((t / 100 + (k + 1)) * 100) np := rfl
          have hob := owd_b (pend := pend) hp ((t / 100 + (k + 1)) * 100)
          have hmo := owd_mono (pend := pend) hp ((t / 100 + (k + 1)) * 100)
          have hbad : fld np pen pend C M.1 t (k + 1) < 0 → Q (nI ((t / 100 + (k + 1)) * 100)) := fun h => hq1 (k + 1) (by omega) (by omega) (fun j hj => hall j (by omega)) h
          have hgood : ∀ w' : Int64, w'.toInt = fld np pen pend C M.1 t (k + 1) → 0 ≤ fld np pen pend C M.1 t (k + 1) → rc9 (nI (k + 1 + 1)) w' := fun w' h1 h2 => hrec9 w' (by omega) h1 h2
          rw [hsucc] at hbad hgood
          generalize hSS : fld np pen pend C M.1 t k + C = S at *
          generalize hDD : (t / 100 + (k + 1)) * 100 = DD at *
          have hs3 : ∀ (rc3 : Int32 → Int64 → Prop) (l : Nat) (z : Int64), l ≤ np → z.toInt = S - owd pen pend DD l → 0 ≤ z.toInt → (∀ z' : Int64, l < np → z'.toInt = S - owd pen pend DD (l + 1) → 0 ≤ z'.toInt → rc3 (nI (l + 1)) z') → wpB_Md_foretold_w_83_29 L f q1 r1 r7 (nI (a + i)) v rc (nI t) x19 (nI (k + 1)) w rc9 (nI t) y27 y28 Q rc3 (nI l) z := by
            intro rc3 l z hl hz hz0 hrec3 x30 e30
            rw [hR.2.1.1.2] at e30
            subst e30
            refine ⟨fun g3 => ?_, fun g3 q32 e32 x33 e33 => ?_⟩
            · rw [nI_leI (by omega) (by omega)] at g3
              have : l = np := by omega
              subst this
              rw [nI_1]
              exact hgood z hz (by rw [← hz]; exact hz0)
            · rw [nI_leI (by omega) (by omega)] at g3
              have hlt : l < np := by omega
              have hs : owd pen pend DD (l + 1) = owd pen pend DD l + (if nI DD < pend l then (pen l).toInt else 0) := rfl
              rw [rr 62 (by decide)] at e32; cases e32
              rw [nI_clamp (by omega), (hR.2.1.2.2 l hlt).2] at e33
              subst e33
              rw [eD, nI_1]
              refine ⟨fun k1 q35 e35 x36 e36 y37 e37 => ?_, fun k1 => hrec3 z hlt ?_ hz0⟩
              · rw [rr 61 (by decide)] at e35; cases e35
                rw [nI_clamp (by omega), (hR.2.1.2.2 l hlt).1] at e36
                subst e36
                have ex := Int32.toInt_toInt64 (pen l)
                have hpl := hp l hlt
                have hol := hob l (by omega)
                rw [if_pos k1] at hs
                rw [e37, cmp_ge, ex]
                refine ⟨fun k2 y40 e40 => ?_, fun k2 => ?_⟩
                · have t40 : y40.toInt = S - owd pen pend DD (l + 1) := by rw [e40, l_sub (by rw [ex]; omega) (by rw [ex]; omega), ex, hz, hs]; omega
                  exact hrec3 y40 hlt t40 (by rw [t40, hs]; omega)
                · refine hbad ?_
                  have := hmo (l + 1) (np - (l + 1)) (by omega)
                  rw [show l + 1 + (np - (l + 1)) = np by omega] at this
                  omega
              · rw [hs, if_neg k1, Int.add_zero]; exact hz
          have hl3 : ∀ (n l : Nat) (z : Int64), l ≤ np → z.toInt = S - owd pen pend DD l → 0 ≤ z.toInt → wpL_Md_foretold_w_83_29 L f q1 r1 r7 (nI (a + i)) v rc (nI t) x19 (nI (k + 1)) w rc9 (nI t) y27 y28 Q n (nI l) z := by
            intro n
            induction n with
            | zero => intro l z a1 a2 a3; exact hs3 (fun _ _ => True) l z a1 a2 a3 (fun _ _ _ _ => trivial)
            | succ n ih => intro l z a1 a2 a3; exact hs3 _ l z a1 a2 a3 (fun z' b1 b2 b3 => ih _ z' (by omega) b2 b3)
          exact hl3 _ 0 y28 (by omega) (by rw [t28]; show S = S - 0; omega) (by rw [t28]; omega)
      have hl2 : ∀ (n k : Nat) (w : Int64), k ≤ 40 → w.toInt = fld np pen pend C M.1 t k → (∀ j, j ≤ k → 0 ≤ fld np pen pend C M.1 t j) → wpL_Md_foretold_w_54_20 L f q1 r1 r7 (nI (a + i)) v rc (nI t) x19 Q n (nI (k + 1)) w := by
        intro n
        induction n with
        | zero => intro k w a1 a2 a3; exact hs2 (fun _ _ => True) k w a1 a2 a3 (fun _ _ _ _ => trivial)
        | succ n ih => intro k w a1 a2 a3; exact hs2 _ k w a1 a2 a3 (fun w' b1 b2 b3 => ih _ w' (by omega) b2 (fun j hj => by
            by_cases e : j = k + 1
            · rw [e]; exact b3
            · exact a3 j (by omega)))
      exact hl2 _ 0 x19 (by omega) (by rw [← e19]; exact hR.1.1) (fun j hj => by
        have : j = 0 := by omega
        subst this
        exact v1)
    · rw [nI_ltI (by omega) (by omega)] at g
      rw [rr 59 (by decide)] at e13; cases e13
      rw [nI_clamp (by omega)] at e14
      have h4 := hR.1.2.2.2.1 (a + i) (by omega)
      have hv5 := hinc (a + i) (by omega)
      rw [nI_1]
      refine hrec y15 (by omega) ?_
      show y15.toInt = icS M.2.2.2.1 a i + M.2.2.2.1 (a + i)
      rw [e15, l_add (by rw [hv, ← e14, h4]; omega) (by rw [hv, ← e14, h4]; omega), hv, ← e14, h4]
  intro n
  induction n with
  | zero => intro i v a1 a2; exact hstep (fun _ _ => True) i v a1 a2 (fun _ _ _ => trivial)
  | succ n ih => intro i v a1 a2; exact hstep _ i v a1 a2 (fun v' b1 b2 => ih _ v' (by omega) b2)
theorem fore_m2 {np t a : Nat} {ls pen pend : Nat → Int32} {M : MS} {B : Int} {D : Nat} {Q : Int32 → Prop} (hR : RF f q1 ad np ls pen pend D M) (hI : IV B M) (hp : PB np pen) (ht : t < 500) (hT : ti f q1 1 / 720 = nI t) (ha : a = t - 100) (hq1 : ∀ k, 1 ≤ k → k ≤ 40 → (∀ j, j < k → 0 ≤ fld np pen pend (icS M.2.2.2.1 a (t + 1 - a)) M.1 t j) → fld np pen pend (icS M.2.2.2.1 a (t + 1 - a)) M.1 t k < 0 → Q (nI ((t / 100 + k) * 100))) (hq2 : (∀ k, k ≤ 40 → 0 ≤ fld np pen pend (icS M.2.2.2.1 a (t + 1 - a)) M.1 t k) → Q (-2)) (r1 : Int32) : ∀ (n i : Nat) (v : Int64), a + i ≤ t + 1 → v.toInt = icS M.2.2.2.1 a i → wpL_Md_foretold_w_23_44 L f q1 r1 Q n (nI (a + i)) v := by
  obtain ⟨v1, v2, v3, v4, v5⟩ := id hI
  have hinc : ∀ d, d < 500 → 0 ≤ M.2.2.2.1 d ∧ M.2.2.2.1 d ≤ 600000000 := fun d hd => by have := v5 d hd; omega
  have c1 := hR.2.1.1.1
  have rr := hR.2.1.2.1
  have hstep : ∀ (rc : Int32 → Int64 → Prop) (i : Nat) (v : Int64), a + i ≤ t + 1 → v.toInt = icS M.2.2.2.1 a i → (∀ v' : Int64, a + i < t + 1 → v'.toInt = icS M.2.2.2.1 a (i + 1) → rc (nI (a + (i + 1))) v') → wpB_Md_foretold_w_23_44 L f q1 r1 Q rc (nI (a + i)) v := by
    intro rc i v hi hv hrec
    have hib := icS_b (a := a) hinc i (by omega)
    refine today_m ?_
    rw [hT]
    refine ⟨fun g x19 e19 => ?_, fun g q13 e13 x14 e14 y15 e15 => ?_⟩
    · rw [nI_ltI (by omega) (by omega)] at g
      have ei : i = t + 1 - a := by omega
      rw [ei] at hv hib
      have hCb : 0 ≤ icS M.2.2.2.1 a (t + 1 - a) ∧ icS M.2.2.2.1 a (t + 1 - a) ≤ 300000000000 := by omega
      have hfb := fld_b (pend := pend) (t := t) hp c1 hCb (b := M.1) (by omega)
      generalize icS M.2.2.2.1 a (t + 1 - a) = C at *
      have hs2 : ∀ (rc9 : Int32 → Int64 → Prop) (k : Nat) (w : Int64), k ≤ 40 → w.toInt = fld np pen pend C M.1 t k → (∀ j, j ≤ k → 0 ≤ fld np pen pend C M.1 t j) → (∀ w' : Int64, k < 40 → w'.toInt = fld np pen pend C M.1 t (k + 1) → 0 ≤ fld np pen pend C M.1 t (k + 1) → rc9 (nI (k + 1 + 1)) w') → wpB_Md_foretold_w_54_52 L f q1 r1 (nI (a + i)) v rc (nI t) x19 Q rc9 (nI (k + 1)) w := by
        intro rc9 k w hk hw hall hrec9
        refine ⟨fun g9 => ?_, fun g9 => ?_⟩
        · rw [show (40 : Int32) = nI 40 from rfl, nI_ltI (by decide) (by omega)] at g9
          have : k = 40 := by omega
          subst this
          exact hq2 hall
        · rw [show (40 : Int32) = nI 40 from rfl, nI_ltI (by decide) (by omega)] at g9
          refine today_m ?_
          rw [hT]
          intro y27 e27 y28 e28
          rw [show (100 : Int32) = nI 100 from rfl, pk_div (by omega) (by decide) (by decide)] at e27
          have eD : (y27 + nI (k + 1)) * 100 = nI ((t / 100 + (k + 1)) * 100) := by rw [e27, nI_add, show (100 : Int32) = nI 100 from rfl, pk_mul]
          have hfk := hfb k (by omega)
          have t28 : y28.toInt = fld np pen pend C M.1 t k + C := by rw [e28, l_add (by rw [hw, hv]; omega) (by rw [hw, hv]; omega), hw, hv]
          have hfk0 := hall k (Nat.le_refl _)
          have hsucc : fld np pen pend C M.1 t (k + 1) = fld np pen pend C M.1 t k + C - owd pen pend ((t / 100 + (k + 1)) * 100) np := rfl
          have hob := owd_b (pend := pend) hp ((t / 100 + (k + 1)) * 100)
          have hmo := owd_mono (pend := pend) hp ((t / 100 + (k + 1)) * 100)
          have hbad : fld np pen pend C M.1 t (k + 1) < 0 → Q (nI ((t / 100 + (k + 1)) * 100)) := fun h => hq1 (k + 1) (by omega) (by omega) (fun j hj => hall j (by omega)) h
          have hgood : ∀ w' : Int64, w'.toInt = fld np pen pend C M.1 t (k + 1) → 0 ≤ fld np pen pend C M.1 t (k + 1) → rc9 (nI (k + 1 + 1)) w' := fun w' h1 h2 => hrec9 w' (by omega) h1 h2
          rw [hsucc] at hbad hgood
          generalize hSS : fld np pen pend C M.1 t k + C = S at *
          generalize hDD : (t / 100 + (k + 1)) * 100 = DD at *
          have hs3 : ∀ (rc3 : Int32 → Int64 → Prop) (l : Nat) (z : Int64), l ≤ np → z.toInt = S - owd pen pend DD l → 0 ≤ z.toInt → (∀ z' : Int64, l < np → z'.toInt = S - owd pen pend DD (l + 1) → 0 ≤ z'.toInt → rc3 (nI (l + 1)) z') → wpB_Md_foretold_w_83_61 L f q1 r1 (nI (a + i)) v rc (nI t) x19 (nI (k + 1)) w rc9 (nI t) y27 y28 Q rc3 (nI l) z := by
            intro rc3 l z hl hz hz0 hrec3 x30 e30
            rw [hR.2.1.1.2] at e30
            subst e30
            refine ⟨fun g3 => ?_, fun g3 q32 e32 x33 e33 => ?_⟩
            · rw [nI_leI (by omega) (by omega)] at g3
              have : l = np := by omega
              subst this
              rw [nI_1]
              exact hgood z hz (by rw [← hz]; exact hz0)
            · rw [nI_leI (by omega) (by omega)] at g3
              have hlt : l < np := by omega
              have hs : owd pen pend DD (l + 1) = owd pen pend DD l + (if nI DD < pend l then (pen l).toInt else 0) := rfl
              rw [rr 62 (by decide)] at e32; cases e32
              rw [nI_clamp (by omega), (hR.2.1.2.2 l hlt).2] at e33
              subst e33
              rw [eD, nI_1]
              refine ⟨fun k1 q35 e35 x36 e36 y37 e37 => ?_, fun k1 => hrec3 z hlt ?_ hz0⟩
              · rw [rr 61 (by decide)] at e35; cases e35
                rw [nI_clamp (by omega), (hR.2.1.2.2 l hlt).1] at e36
                subst e36
                have ex := Int32.toInt_toInt64 (pen l)
                have hpl := hp l hlt
                have hol := hob l (by omega)
                rw [if_pos k1] at hs
                rw [e37, cmp_ge, ex]
                refine ⟨fun k2 y40 e40 => ?_, fun k2 => ?_⟩
                · have t40 : y40.toInt = S - owd pen pend DD (l + 1) := by rw [e40, l_sub (by rw [ex]; omega) (by rw [ex]; omega), ex, hz, hs]; omega
                  exact hrec3 y40 hlt t40 (by rw [t40, hs]; omega)
                · refine hbad ?_
                  have := hmo (l + 1) (np - (l + 1)) (by omega)
                  rw [show l + 1 + (np - (l + 1)) = np by omega] at this
                  omega
              · rw [hs, if_neg k1, Int.add_zero]; exact hz
          have hl3 : ∀ (n l : Nat) (z : Int64), l ≤ np → z.toInt = S - owd pen pend DD l → 0 ≤ z.toInt → wpL_Md_foretold_w_83_61 L f q1 r1 (nI (a + i)) v rc (nI t) x19 (nI (k + 1)) w rc9 (nI t) y27 y28 Q n (nI l) z := by
            intro n
            induction n with
            | zero => intro l z a1 a2 a3; exact hs3 (fun _ _ => True) l z a1 a2 a3 (fun _ _ _ _ => trivial)
            | succ n ih => intro l z a1 a2 a3; exact hs3 _ l z a1 a2 a3 (fun z' b1 b2 b3 => ih _ z' (by omega) b2 b3)
          exact hl3 _ 0 y28 (by omega) (by rw [t28]; show S = S - 0; omega) (by rw [t28]; omega)
      have hl2 : ∀ (n k : Nat) (w : Int64), k ≤ 40 → w.toInt = fld np pen pend C M.1 t k → (∀ j, j ≤ k → 0 ≤ fld np pen pend C M.1 t j) → wpL_Md_foretold_w_54_52 L f q1 r1 (nI (a + i)) v rc (nI t) x19 Q n (nI (k + 1)) w := by
        intro n
        induction n with
        | zero => intro k w a1 a2 a3; exact hs2 (fun _ _ => True) k w a1 a2 a3 (fun _ _ _ _ => trivial)
        | succ n ih => intro k w a1 a2 a3; exact hs2 _ k w a1 a2 a3 (fun w' b1 b2 b3 => ih _ w' (by omega) b2 (fun j hj => by
            by_cases e : j = k + 1
            · rw [e]; exact b3
            · exact a3 j (by omega)))
      exact hl2 _ 0 x19 (by omega) (by rw [← e19]; exact hR.1.1) (fun j hj => by
        have : j = 0 := by omega
        subst this
        exact v1)
    · rw [nI_ltI (by omega) (by omega)] at g
      rw [rr 59 (by decide)] at e13; cases e13
      rw [nI_clamp (by omega)] at e14
      have h4 := hR.1.2.2.2.1 (a + i) (by omega)
      have hv5 := hinc (a + i) (by omega)
      rw [nI_1]
      refine hrec y15 (by omega) ?_
      show y15.toInt = icS M.2.2.2.1 a i + M.2.2.2.1 (a + i)
      rw [e15, l_add (by rw [hv, ← e14, h4]; omega) (by rw [hv, ← e14, h4]; omega), hv, ← e14, h4]
  intro n
  induction n with
  | zero => intro i v a1 a2; exact hstep (fun _ _ => True) i v a1 a2 (fun _ _ _ => trivial)
  | succ n ih => intro i v a1 a2; exact hstep _ i v a1 a2 (fun v' b1 b2 => ih _ v' (by omega) b2)
theorem pr_foretold (hO : Ok L f) (m0 : q0 ∈ L ∧ tk f q0 = 0) (m1 : q1 ∈ L ∧ tk f q1 = 27) (hA : Ad f q0 q1 ad) {nT : Nat} (hMo : KMo f q1 ad (ti f q1 1).toNatClampNeg nT) (ht : ti f q0 10 = ti f q1 1) : wp_WM_foretold_w L f q0 (fun r => wp_Md_foretold_w L f q1 (fun r' => r = r')) := by
  obtain ⟨tn, htn, hTn⟩ := tb_n hO m1
  have hcT : (ti f q1 1).toNatClampNeg = tn := by rw [hTn]; exact nI_clamp (by omega)
  rw [hcT] at hMo
  obtain ⟨pn, np, ls, pen, pend, M, ⟨hX, hR⟩, ⟨hI, hp, -⟩, -⟩ := hMo
  have hT : ti f q1 1 / 720 = nI (tn / 720) := by rw [hTn, show (720 : Int32) = nI 720 from rfl, pk_div (by omega) (by decide) (by decide)]
  have ht5 : tn / 720 < 500 := by omega
  generalize tn / 720 = t at *
  intro q1' e1
  rw [hA.1.2.2.2.2] at e1; cases e1
  refine today_x ht ?_
  rw [hT]
  -- the reference's run, whatever its answer must be
  have href : ∀ P : Int32 → Prop, (∀ k, 1 ≤ k → k ≤ 40 → (∀ j, j < k → 0 ≤ fld np pen pend (icS M.2.2.2.1 (t - 100) (t + 1 - (t - 100))) M.1 t j) → fld np pen pend (icS M.2.2.2.1 (t - 100) (t + 1 - (t - 100))) M.1 t k < 0 → P (nI ((t / 100 + k) * 100))) → ((∀ k, k ≤ 40 → 0 ≤ fld np pen pend (icS M.2.2.2.1 (t - 100) (t + 1 - (t - 100))) M.1 t k) → P (-2)) → wp_Md_foretold_w L f q1 P := by
    intro P h1 h2
    refine today_m ?_
    rw [hT]
    refine ⟨fun g => ?_, fun g => ?_⟩
    · rw [show (100 : Int32) = nI 100 from rfl, nI_leI (by decide) (by omega)] at g
      refine today_m ?_
      rw [hT, show (100 : Int32) = nI 100 from rfl, pk_sub g]
      exact fore_m hR hI hp ht5 hT rfl h1 h2 _ _ _ 0 0 (by omega) rfl
    · rw [show (100 : Int32) = nI 100 from rfl, nI_leI (by decide) (by omega)] at g
      have e0 : t - 100 = 0 := by omega
      have := fore_m2 (L := L) (a := t - 100) hR hI hp ht5 hT rfl h1 h2 (nI t) ((500 : Int32).toInt - (0 : Int32).toInt).toNat 0 0 (by omega) rfl
      rw [e0] at this
      exact this
  have hm1 : ∀ k, ¬ nI ((t / 100 + k) * 100) = -1 ∨ 41 ≤ k := fun k => by
    by_cases hk : 41 ≤ k
    · exact Or.inr hk
    · refine Or.inl (fun e => ?_)
      have := congrArg Int32.toInt e
      rw [nI_toInt (by omega)] at this
      have z : (-1 : Int32).toInt = -1 := by decide
      omega
  have h1 : ∀ k, 1 ≤ k → k ≤ 40 → (∀ j, j < k → 0 ≤ fld np pen pend (icS M.2.2.2.1 (t - 100) (t + 1 - (t - 100))) M.1 t j) → fld np pen pend (icS M.2.2.2.1 (t - 100) (t + 1 - (t - 100))) M.1 t k < 0 → ((nI ((t / 100 + k) * 100) = -1 → wp_Md_foretold_w L f q1 (fun r' => -2 = r')) ∧ (¬ (nI ((t / 100 + k) * 100) = -1) → wp_Md_foretold_w L f q1 (fun r' => nI ((t / 100 + k) * 100) = r'))) := by
    intro k k1 k2 k3 k4
    refine ⟨fun z => ((hm1 k).elim (fun y => absurd z y) (fun y => by omega)), fun _ => href _ (fun k' a1 a2 a3 a4 => ?_) (fun a1 => ?_)⟩
    · have : k' = k := by
        rcases Nat.lt_trichotomy k' k with h | h | h
        · have := k3 k' h; omega
        · exact h
        · have := a3 k h; omega
      rw [this]
    · have := a1 k k2; omega
  have h2 : (∀ k, k ≤ 40 → 0 ≤ fld np pen pend (icS M.2.2.2.1 (t - 100) (t + 1 - (t - 100))) M.1 t k) → (((-1 : Int32) = -1 → wp_Md_foretold_w L f q1 (fun r' => -2 = r')) ∧ (¬ ((-1 : Int32) = -1) → wp_Md_foretold_w L f q1 (fun r' => -1 = r'))) := by
    intro hh
    refine ⟨fun _ => href _ (fun k' a1 a2 a3 a4 => ?_) (fun _ => rfl), fun z => absurd rfl z⟩
    have := hh k' a2; omega
  refine ⟨fun g => ?_, fun g => ?_⟩
  · have z : (100 : Int32).toInt = 100 := by decide
    have z0 : (0 : Int32).toInt = 0 := by decide
    have kt := nI_toInt (n := t) (by omega)
    have g' : 100 ≤ t := by
      rw [Int32.lt_iff_toInt_lt, fb_subI (by omega) (by omega)] at g
      omega
    rw [show (100 : Int32) = nI 100 from rfl, pk_sub g']
    exact short_x hA hX hI hp ht5 rfl h1 h2 _ 0 0 (by omega) rfl
  · have e0 : t - 100 = 0 := by
      refine Classical.byContradiction fun k => g ?_
      rw [show (100 : Int32) = nI 100 from rfl, pk_sub (by omega), show (0 : Int32) = nI 0 from rfl, nI_ltI (by decide) (by omega)]
      omega
    have := short_x2 (L := L) (a := t - 100) (Q := fun r => ((r = -1 → wp_Md_foretold_w L f q1 (fun r' => -2 = r')) ∧ (¬ (r = -1) → wp_Md_foretold_w L f q1 (fun r' => r = r')))) hA hX hI hp ht5 rfl h1 h2 ((500 : Int32).toInt - (0 : Int32).toInt).toNat 0 0 (by omega) rfl
    rw [e0] at this
    exact this
end FOM
