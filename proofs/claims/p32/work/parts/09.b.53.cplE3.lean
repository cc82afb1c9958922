section FOR
variable {L : List Nat} {f : TF} {q0 q1 : Nat} {ad : Nat → Nat} {N : Nat}
/-- owed on a day to the first n -/
def owd (pen pend : Nat → Int32) (D : Nat) : Nat → Int
  | 0 => 0
  | n + 1 => owd pen pend D n + (if nI D < pend n then (pen n).toInt else 0)
/-- what comes in n days from a on -/
def icS (inc : Nat → Int) (a : Nat) : Nat → Int
  | 0 => 0
  | n + 1 => icS inc a n + inc (a + n)
/-- what is left behind k pays -/
def fld (np : Nat) (pen pend : Nat → Int32) (C b : Int) (t : Nat) : Nat → Int
  | 0 => b
  | k + 1 => fld np pen pend C b t k + C - owd pen pend ((t / 100 + (k + 1)) * 100) np
theorem owd_b {np : Nat} {pen pend : Nat → Int32} (hp : PB np pen) (D : Nat) : ∀ n, n ≤ np → 0 ≤ owd pen pend D n ∧ owd pen pend D n ≤ 10000 * (n : Int) := by
  intro n
  induction n with
  | zero => intro _; exact ⟨Int.le_refl _, Int.le_refl _⟩
  | succ n ih =>
    intro hn
    have h := ih (by omega)
    have := hp n (by omega)
    show 0 ≤ owd pen pend D n + (if nI D < pend n then (pen n).toInt else 0) ∧ owd pen pend D n + (if nI D < pend n then (pen n).toInt else 0) ≤ 10000 * ((n + 1 : Nat) : Int)
    split <;> omega
theorem owd_mono {np : Nat} {pen pend : Nat → Int32} (hp : PB np pen) (D : Nat) : ∀ n k, n + k ≤ np → owd pen pend D n ≤ owd pen pend D (n + k) := by
  intro n k
  induction k with
  | zero => intro _; exact Int.le_refl _
  | succ k ih =>
    intro h
    have h1 := ih (by omega)
    have := hp (n + k) (by omega)
    show owd pen pend D n ≤ owd pen pend D (n + k) + (if nI D < pend (n + k) then (pen (n + k)).toInt else 0)
    split <;> omega
theorem icS_b {inc : Nat → Int} {a : Nat} (h : ∀ d, d < 500 → 0 ≤ inc d ∧ inc d ≤ 600000000) : ∀ n, a + n ≤ 500 → 0 ≤ icS inc a n ∧ icS inc a n ≤ 600000000 * (n : Int) := by
  intro n
  induction n with
  | zero => intro _; exact ⟨Int.le_refl _, Int.le_refl _⟩
  | succ n ih =>
    intro hn
    have h1 := ih (by omega)
    have := h (a + n) (by omega)
    show 0 ≤ icS inc a n + inc (a + n) ∧ icS inc a n + inc (a + n) ≤ 600000000 * ((n + 1 : Nat) : Int)
    omega
theorem fld_b {np : Nat} {pen pend : Nat → Int32} {C b : Int} {t : Nat} (hp : PB np pen) (hn : np ≤ 30) (hC : 0 ≤ C ∧ C ≤ 300000000000) (hb : 0 ≤ b ∧ b ≤ 600000000) : ∀ k : Nat, k ≤ 40 → -300000 * (k : Int) ≤ fld np pen pend C b t k ∧ fld np pen pend C b t k ≤ 600000000 + 300000000000 * (k : Int) := by
  intro k
  induction k with
  | zero => intro _; show -300000 * ((0 : Nat) : Int) ≤ b ∧ b ≤ 600000000 + 300000000000 * ((0 : Nat) : Int); omega
  | succ k ih =>
    intro hk
    have h1 := ih (by omega)
    have h2 := owd_b (pend := pend) hp ((t / 100 + (k + 1)) * 100) np (Nat.le_refl _)
    show -300000 * ((k + 1 : Nat) : Int) ≤ fld np pen pend C b t k + C - owd pen pend ((t / 100 + (k + 1)) * 100) np ∧ fld np pen pend C b t k + C - owd pen pend ((t / 100 + (k + 1)) * 100) np ≤ 600000000 + 300000000000 * ((k + 1 : Nat) : Int)
    omega
theorem owed_x {pn : Nat → Nat} {np D : Nat} {ls pen pend : Nat → Int32} {Q : Int32 → Prop} (hC : CX f ad pn np ls pen pend) (hp : PB np pen) (hq : ∀ r : Int32, r.toInt = owd pen pend D np → Q r) : wp_Bx_owedOn_w L f (ad 68) (nI D) Q := by
  have c1 := hC.1.1
  have hstep : ∀ (rc : Int32 → Int32 → Prop) (i : Nat) (v : Int32), i ≤ np → v.toInt = owd pen pend D i → (∀ v' : Int32, i < np → v'.toInt = owd pen pend D (i + 1) → rc v' (nI (i + 1))) → wpB_Bx_owedOn_w_4_1 L f (ad 68) (nI D) Q rc v (nI i) := by
    intro rc i v hi hv hrec x2 e2
    rw [hC.1.2.1] at e2
    subst e2
    refine ⟨fun g => ?_, fun g => ?_⟩
    · rw [nI_leI (by omega) (by omega)] at g
      have : i = np := by omega
      subst this
      exact hq v hv
    · rw [nI_leI (by omega) (by omega)] at g
      have hlt : i < np := by omega
      refine pensioner_x hC (fun z => ?_) (fun i' hi' ei => ?_)
      · exfalso
        rcases z with z | z
        · exact nI_pos (by omega) z
        · rw [nI_leI (by omega) (by omega)] at z; omega
      rw [nI_eq (by omega) (by omega)] at ei
      subst ei
      refine ⟨fun z => (by cases z), fun q5 e5 x5 e6 => ?_⟩
      cases e5
      rw [(hC.2.2.2.1 i hlt).2] at e6
      subst e6
      rw [nI_1]
      have hs : owd pen pend D (i + 1) = owd pen pend D i + (if nI D < pend i then (pen i).toInt else 0) := rfl
      refine ⟨fun k => hrec v hlt ?_, fun k x7 e7 => ?_⟩
      · rw [hs, if_neg (fun z => lt32.mpr z k), Int.add_zero]; exact hv
      · rw [(hC.2.2.2.1 i hlt).1] at e7
        subst e7
        refine hrec _ hlt ?_
        have hb := owd_b (pend := pend) hp D i hi
        have hpi := hp i hlt
        rw [fb_addI (by rw [hv]; omega) (by rw [hv]; omega), hv, hs, if_pos (lt32.mp k)]
  have hloop : ∀ (n i : Nat) (v : Int32), i ≤ np → v.toInt = owd pen pend D i → wpL_Bx_owedOn_w_4_1 L f (ad 68) (nI D) Q n v (nI i) := by
    intro n
    induction n with
    | zero => intro i v a1 a2; exact hstep (fun _ _ => True) i v a1 a2 (fun _ _ _ => trivial)
    | succ n ih => intro i v a1 a2; exact hstep _ i v a1 a2 (fun v' b1 b2 => ih _ v' (by omega) b2)
  exact hloop _ 0 0 (by omega) rfl
theorem short_x {pn : Nat → Nat} {np t a : Nat} {ls pen pend : Nat → Int32} {M : MS} {B : Int} {Q : Int32 → Prop} (hA : Ad f q0 q1 ad) (hX : XF f ad pn np ls pen pend M) (hI : IV B M) (hp : PB np pen) (ht : t < 500) (ha : a = t - 100) (hq1 : ∀ k, 1 ≤ k → k ≤ 40 → (∀ j, j < k → 0 ≤ fld np pen pend (icS M.2.2.2.1 a (t + 1 - a)) M.1 t j) → fld np pen pend (icS M.2.2.2.1 a (t + 1 - a)) M.1 t k < 0 → Q (nI ((t / 100 + k) * 100))) (hq2 : (∀ k, k ≤ 40 → 0 ≤ fld np pen pend (icS M.2.2.2.1 a (t + 1 - a)) M.1 t k) → Q (-1)) : ∀ (n i : Nat) (v : Int64), a + i ≤ t + 1 → v.toInt = icS M.2.2.2.1 a i → wpL_Bx_firstShortDay_w_12_2 L f (ad 68) (nI t) Q n (nI (a + i)) v := by
  obtain ⟨v1, v2, v3, v4, v5⟩ := id hI
  have hinc : ∀ d, d < 500 → 0 ≤ M.2.2.2.1 d ∧ M.2.2.2.1 d ≤ 600000000 := fun d hd => by have := v5 d hd; omega
  have c1 := hX.2.1.1
  have hstep : ∀ (rc : Int32 → Int64 → Prop) (i : Nat) (v : Int64), a + i ≤ t + 1 → v.toInt = icS M.2.2.2.1 a i → (∀ v' : Int64, a + i < t + 1 → v'.toInt = icS M.2.2.2.1 a (i + 1) → rc (nI (a + (i + 1))) v') → wpB_Bx_firstShortDay_w_12_2 L f (ad 68) (nI t) Q rc (nI (a + i)) v := by
    intro rc i v hi hv hrec
    have hib := icS_b (a := a) hinc i (by omega)
    refine ⟨fun g x4 e4 y5 e5 => ?_, fun g q13 e13 x14 e14 y15 e15 => ?_⟩
    · rw [nI_ltI (by omega) (by omega)] at g
      have ei : i = t + 1 - a := by omega
      rw [ei] at hv hib
      have hCb : 0 ≤ icS M.2.2.2.1 a (t + 1 - a) ∧ icS M.2.2.2.1 a (t + 1 - a) ≤ 300000000000 := by omega
      have hfb := fld_b (pend := pend) (t := t) hp c1 hCb (b := M.1) (by omega)
      generalize icS M.2.2.2.1 a (t + 1 - a) = C at *
      rw [show (100 : Int32) = nI 100 from rfl, pk_rem (by omega) (by decide) (by decide)] at e5
      have ev : nI t - y5 = nI (t / 100 * 100) := by rw [e5, pk_sub (by omega)]; congr 1; omega
      have hs2 : ∀ (rc9 : Int32 → Int32 → Int64 → Prop) (k : Nat) (w : Int64), k ≤ 40 → w.toInt = fld np pen pend C M.1 t k → (∀ j, j ≤ k → 0 ≤ fld np pen pend C M.1 t j) → (∀ w' : Int64, k < 40 → w'.toInt = fld np pen pend C M.1 t (k + 1) → 0 ≤ fld np pen pend C M.1 t (k + 1) → rc9 (nI ((t / 100 + (k + 1)) * 100)) (nI (k + 1)) w') → wpB_Bx_firstShortDay_w_53_6 L f (ad 68) (nI t) (nI (a + i)) v rc x4 y5 Q rc9 (nI ((t / 100 + k) * 100)) (nI k) w := by
        intro rc9 k w hk hw hall hrec9
        refine ⟨fun g9 => ?_, fun g9 => ?_⟩
        · rw [show (40 : Int32) = nI 40 from rfl, nI_leI (by decide) (by omega)] at g9
          have : k = 40 := by omega
          subst this
          exact hq2 hall
        · rw [show (40 : Int32) = nI 40 from rfl, nI_leI (by decide) (by omega)] at g9
          have eD : nI ((t / 100 + k) * 100) + 100 = nI ((t / 100 + (k + 1)) * 100) := by rw [show (100 : Int32) = nI 100 from rfl, nI_add]; congr 1; omega
          rw [eD, nI_1]
          refine owed_x hX.2 hp (fun r hr y9 e9 y10 e10 y11 e11 => ?_)
          have hob := owd_b (pend := pend) hp ((t / 100 + (k + 1)) * 100) np (Nat.le_refl _)
          have hfk := hfb k (by omega)
          have er := Int32.toInt_toInt64 r
          have t9 : y9.toInt = C - owd pen pend ((t / 100 + (k + 1)) * 100) np := by rw [e9, l_sub (by rw [hv, er, hr]; omega) (by rw [hv, er, hr]; omega), hv, er, hr]
          have t10 : y10.toInt = fld np pen pend C M.1 t (k + 1) := by
            show y10.toInt = fld np pen pend C M.1 t k + C - owd pen pend ((t / 100 + (k + 1)) * 100) np
            rw [e10, l_add (by rw [hw, t9]; omega) (by rw [hw, t9]; omega), hw, t9]; omega
          have z0 : (0 : Int64).toInt = 0 := by decide
          rw [e11, cmp_ge, z0, t10]
          refine ⟨fun g10 => hrec9 y10 (by omega) t10 g10, fun g10 => ?_⟩
          exact hq1 (k + 1) (by omega) (by omega) (fun j hj => hall j (by omega)) (by omega)
      have hl2 : ∀ (n k : Nat) (w : Int64), k ≤ 40 → w.toInt = fld np pen pend C M.1 t k → (∀ j, j ≤ k → 0 ≤ fld np pen pend C M.1 t j) → wpL_Bx_firstShortDay_w_53_6 L f (ad 68) (nI t) (nI (a + i)) v rc x4 y5 Q n (nI ((t / 100 + k) * 100)) (nI k) w := by
        intro n
        induction n with
        | zero => intro k w a1 a2 a3; exact hs2 (fun _ _ _ => True) k w a1 a2 a3 (fun _ _ _ _ => trivial)
        | succ n ih => intro k w a1 a2 a3; exact hs2 _ k w a1 a2 a3 (fun w' b1 b2 b3 => ih _ w' (by omega) b2 (fun j hj => by
            by_cases e : j = k + 1
            · rw [e]; exact b3
            · exact a3 j (by omega)))
      rw [ev]
      have h0 : x4.toInt64.toInt = fld np pen pend C M.1 t 0 := by rw [Int32.toInt_toInt64, ← e4]; exact hX.1.1
      have := hl2 ((40 : Int32).toInt - (0 : Int32).toInt).toNat 0 x4.toInt64 (by omega) h0 (fun j hj => by
        have : j = 0 := by omega
        subst this
        exact v1)
      exact this
    · rw [nI_ltI (by omega) (by omega)] at g
      rw [hX.2.1.2.2.1] at e13; cases e13
      rw [nI_clamp (by omega)] at e14
      have h4 := hX.1.2.2.2.1 (a + i) (by omega)
      have hv5 := hinc (a + i) (by omega)
      have ex := Int32.toInt_toInt64 x14
      rw [nI_1]
      refine hrec y15 (by omega) ?_
      show y15.toInt = icS M.2.2.2.1 a i + M.2.2.2.1 (a + i)
      rw [e15, l_add (by rw [hv, ex, ← e14, h4]; omega) (by rw [hv, ex, ← e14, h4]; omega), hv, ex, ← e14, h4]
  intro n
  induction n with
  | zero => intro i v a1 a2; exact hstep (fun _ _ => True) i v a1 a2 (fun _ _ _ => trivial)
  | succ n ih => intro i v a1 a2; exact hstep _ i v a1 a2 (fun v' b1 b2 => ih _ v' (by omega) b2)
theorem short_x2 {pn : Nat → Nat} {np t a : Nat} {ls pen pend : Nat → Int32} {M : MS} {B : Int} {Q : Int32 → Prop} (hA : Ad f q0 q1 ad) (hX : XF f ad pn np ls pen pend M) (hI : IV B M) (hp : PB np pen) (ht : t < 500) (ha : a = t - 100) (hq1 : ∀ k, 1 ≤ k → k ≤ 40 → (∀ j, j < k → 0 ≤ fld np pen pend (icS M.2.2.2.1 a (t + 1 - a)) M.1 t j) → fld np pen pend (icS M.2.2.2.1 a (t + 1 - a)) M.1 t k < 0 → Q (nI ((t / 100 + k) * 100))) (hq2 : (∀ k, k ≤ 40 → 0 ≤ fld np pen pend (icS M.2.2.2.1 a (t + 1 - a)) M.1 t k) → Q (-1)) : ∀ (n i : Nat) (v : Int64), a + i ≤ t + 1 → v.toInt = icS M.2.2.2.1 a i → wpL_Bx_firstShortDay_w_12_16 L f (ad 68) (nI t) Q n (nI (a + i)) v := by
  obtain ⟨v1, v2, v3, v4, v5⟩ := id hI
  have hinc : ∀ d, d < 500 → 0 ≤ M.2.2.2.1 d ∧ M.2.2.2.1 d ≤ 600000000 := fun d hd => by have := v5 d hd; omega
  have c1 := hX.2.1.1
  have hstep : ∀ (rc : Int32 → Int64 → Prop) (i : Nat) (v : Int64), a + i ≤ t + 1 → v.toInt = icS M.2.2.2.1 a i → (∀ v' : Int64, a + i < t + 1 → v'.toInt = icS M.2.2.2.1 a (i + 1) → rc (nI (a + (i + 1))) v') → wpB_Bx_firstShortDay_w_12_16 L f (ad 68) (nI t) Q rc (nI (a + i)) v := by
    intro rc i v hi hv hrec
    have hib := icS_b (a := a) hinc i (by omega)
    refine ⟨fun g x4 e4 y5 e5 => ?_, fun g q13 e13 x14 e14 y15 e15 => ?_⟩
    · rw [nI_ltI (by omega) (by omega)] at g
      have ei : i = t + 1 - a := by omega
      rw [ei] at hv hib
      have hCb : 0 ≤ icS M.2.2.2.1 a (t + 1 - a) ∧ icS M.2.2.2.1 a (t + 1 - a) ≤ 300000000000 := by omega
      have hfb := fld_b (pend := pend) (t := t) hp c1 hCb (b := M.1) (by omega)
      generalize icS M.2.2.2.1 a (t + 1 - a) = C at *
      rw [show (100 : Int32) = nI 100 from rfl, pk_rem (by omega) (by decide) (by decide)] at e5
      have ev : nI t - y5 = nI (t / 100 * 100) := by rw [e5, pk_sub (by omega)]; congr 1; omega
      have hs2 : ∀ (rc9 : Int32 → Int32 → Int64 → Prop) (k : Nat) (w : Int64), k ≤ 40 → w.toInt = fld np pen pend C M.1 t k → (∀ j, j ≤ k → 0 ≤ fld np pen pend C M.1 t j) → (∀ w' : Int64, k < 40 → w'.toInt = fld np pen pend C M.1 t (k + 1) → 0 ≤ fld np pen pend C M.1 t (k + 1) → rc9 (nI ((t / 100 + (k + 1)) * 100)) (nI (k + 1)) w') → wpB_Bx_firstShortDay_w_53_20 L f (ad 68) (nI t) (nI (a + i)) v rc x4 y5 Q rc9 (nI ((t / 100 + k) * 100)) (nI k) w := by
        intro rc9 k w hk hw hall hrec9
        refine ⟨fun g9 => ?_, fun g9 => ?_⟩
        · rw [show (40 : Int32) = nI 40 from rfl, nI_leI (by decide) (by omega)] at g9
          have : k = 40 := by omega
          subst this
          exact hq2 hall
        · rw [show (40 : Int32) = nI 40 from rfl, nI_leI (by decide) (by omega)] at g9
          have eD : nI ((t / 100 + k) * 100) + 100 = nI ((t / 100 + (k + 1)) * 100) := by rw [show (100 : Int32) = nI 100 from rfl, nI_add]; congr 1; omega
          rw [eD, nI_1]
          refine owed_x hX.2 hp (fun r hr y9 e9 y10 e10 y11 e11 => ?_)
          have hob := owd_b (pend := pend) hp ((t / 100 + (k + 1)) * 100) np (Nat.le_refl _)
          have hfk := hfb k (by omega)
          have er := Int32.toInt_toInt64 r
          have t9 : y9.toInt = C - owd pen pend ((t / 100 + (k + 1)) * 100) np := by rw [e9, l_sub (by rw [hv, er, hr]; omega) (by rw [hv, er, hr]; omega), hv, er, hr]
          have t10 : y10.toInt = fld np pen pend C M.1 t (k + 1) := by
            show y10.toInt = fld np pen pend C M.1 t k + C - owd pen pend ((t / 100 + (k + 1)) * 100) np
            rw [e10, l_add (by rw [hw, t9]; omega) (by rw [hw, t9]; omega), hw, t9]; omega
          have z0 : (0 : Int64).toInt = 0 := by decide
          rw [e11, cmp_ge, z0, t10]
          refine ⟨fun g10 => hrec9 y10 (by omega) t10 g10, fun g10 => ?_⟩
          exact hq1 (k + 1) (by omega) (by omega) (fun j hj => hall j (by omega)) (by omega)
      have hl2 : ∀ (n k : Nat) (w : Int64), k ≤ 40 → w.toInt = fld np pen pend C M.1 t k → (∀ j, j ≤ k → 0 ≤ fld np pen pend C M.1 t j) → wpL_Bx_firstShortDay_w_53_20 L f (ad 68) (nI t) (nI (a + i)) v rc x4 y5 Q n (nI ((t / 100 + k) * 100)) (nI k) w := by
        intro n
        induction n with
        | zero => intro k w a1 a2 a3; exact hs2 (fun _ _ _ => True) k w a1 a2 a3 (fun _ _ _ _ => trivial)
        | succ n ih => intro k w a1 a2 a3; exact hs2 _ k w a1 a2 a3 (fun w' b1 b2 b3 => ih _ w' (by omega) b2 (fun j hj => by
            by_cases e : j = k + 1
            · rw [e]; exact b3
            · exact a3 j (by omega)))
      rw [ev]
      have h0 : x4.toInt64.toInt = fld np pen pend C M.1 t 0 := by rw [Int32.toInt_toInt64, ← e4]; exact hX.1.1
      have := hl2 ((40 : Int32).toInt - (0 : Int32).toInt).toNat 0 x4.toInt64 (by omega) h0 (fun j hj => by
        have : j = 0 := by omega
        subst this
        exact v1)
      exact this
    · rw [nI_ltI (by omega) (by omega)] at g
      rw [hX.2.1.2.2.1] at e13; cases e13
      rw [nI_clamp (by omega)] at e14
      have h4 := hX.1.2.2.2.1 (a + i) (by omega)
      have hv5 := hinc (a + i) (by omega)
      have ex := Int32.toInt_toInt64 x14
      rw [nI_1]
      refine hrec y15 (by omega) ?_
      show y15.toInt = icS M.2.2.2.1 a i + M.2.2.2.1 (a + i)
      rw [e15, l_add (by rw [hv, ex, ← e14, h4]; omega) (by rw [hv, ex, ← e14, h4]; omega), hv, ex, ← e14, h4]
  intro n
  induction n with
  | zero => intro i v a1 a2; exact hstep (fun _ _ => True) i v a1 a2 (fun _ _ _ => trivial)
  | succ n ih => intro i v a1 a2; exact hstep _ i v a1 a2 (fun v' b1 b2 => ih _ v' (by omega) b2)
end FOR
