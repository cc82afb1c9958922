section MOM
variable {L : List Nat} {f : TF} {q0 q1 : Nat} {ad : Nat → Nat}
/-- the reference's money rows -/
def CMm (f : TF) (q1 : Nat) (ad : Nat → Nat) (np : Nat) (pen pend : Nat → Int32) : Prop := (np ≤ 30 ∧ ti f q1 60 = nI np) ∧ (∀ k, k ∈ [15, 18, 59, 61, 62, 63] → tr f q1 k = some (ad k)) ∧ ∀ i, i < np → ti f (ad 61) i = pen i ∧ ti f (ad 62) i = pend i
def kd6 (k : Nat) : Nat := if k = 15 then 39 else if k = 18 then 42 else if k = 59 then 71 else k + 11
theorem CMm.m {np : Nat} {pen pend : Nat → Int32} (h : CMm f q1 ad np pen pend) (hO : Ok L f) (m1 : q1 ∈ L ∧ tk f q1 = 27) : ∀ k, k ∈ [15, 18, 59, 61, 62, 63] → ad k ∈ L ∧ tk f (ad k) = kd6 k := by
  intro k hk
  have e := h.2.1 k hk
  simp only [List.mem_cons, List.not_mem_nil, or_false] at hk
  rcases hk with rfl | rfl | rfl | rfl | rfl | rfl
  · exact hO.rm (j := 15) (k' := 39) (n := false) m1 rfl e
  · exact hO.rm (j := 18) (k' := 42) (n := false) m1 rfl e
  · exact hO.rm (j := 59) (k' := 71) (n := false) m1 rfl e
  · exact hO.rm (j := 61) (k' := 72) (n := false) m1 rfl e
  · exact hO.rm (j := 62) (k' := 73) (n := false) m1 rfl e
  · exact hO.rm (j := 63) (k' := 74) (n := false) m1 rfl e
/-- who shares, on day D -/
def SH (f : TF) (ad : Nat → Nat) (ls : Nat → Int32) (D : Nat) : Prop := ∀ m, m < 40 → (¬ ti f (ad 18) m = 0 ↔ D % 7 = 0 ∧ ls m = nI D)
theorem tl_sL {g : TF} {a k b j : Nat} {v : Int64} : tl (sL g a k v) b j = if b = a ∧ j = k then v else tl g b j := by
  unfold tl sL va_up
  by_cases h : b = a
  · subst h
    by_cases hj : j = k
    · subst hj; simp [vp_updL]
    · simp [vp_updL, hj]
  · simp [h]
theorem tl_sL_eq {g : TF} {a k : Nat} {v : Int64} : tl (sL g a k v) a k = v := by rw [tl_sL]; simp
theorem tl_sL_ne {g : TF} {a k b j : Nat} {v : Int64} (h : b ≠ a) : tl (sL g a k v) b j = tl g b j := by rw [tl_sL]; simp [h]
theorem tl_sL_nj {g : TF} {a k b j : Nat} {v : Int64} (h : j ≠ k) : tl (sL g a k v) b j = tl g b j := by rw [tl_sL]; simp [h]
theorem toI32 {x : Int64} {v : Int} (h : x.toInt = v) : x.toInt32 = Int32.ofInt v := by
  rw [← Int32.toInt_inj, Int64.toInt_toInt32, h, Int32.toInt_ofInt]
theorem i64_nI {n : Nat} (h : n < 2 ^ 31) : ((nI n).toInt64).toInt = (n : Int) := by rw [Int32.toInt_toInt64, nI_toInt h]
theorem part_m {np ng d : Nat} {ls pen pend : Nat → Int32} {M : MS} {B : Int} {Q : List Nat → TF → Prop} (hO : Ok L f) (m1 : q1 ∈ L ∧ tk f q1 = 27) (hd : d < 500) (hd7 : d % 7 = 0) (hX : RMm f q1 ad ng M) (hC : CMm f q1 ad np pen pend) (hI : IV B M) (hS : SH f ad ls d) (hp : M.2.1 ≠ 0 → shN ls d ≠ 0) (hq : ∀ f' : TF, RMm f' q1 ad ng (partF ls d M) → (∀ m, m < 40 → ti f' (ad 18) m = 0) → Q L f') : wp_Md_part_w L f q1 (nI d) Q := by
  have im := hC.m hO m1
  have r := hC.2.1
  have n1518 : ad 15 ≠ ad 18 := ne_tk (im 15 (by decide)).2 (im 18 (by decide)).2 (by decide)
  have n6315 : ad 63 ≠ ad 15 := ne_tk (im 63 (by decide)).2 (im 15 (by decide)).2 (by decide)
  have n6318 : ad 63 ≠ ad 18 := ne_tk (im 63 (by decide)).2 (im 18 (by decide)).2 (by decide)
  have nq59 : q1 ≠ ad 59 := ne_tk m1.2 (im 59 (by decide)).2 (by decide)
  generalize hP : (fun m => decide (ls m = nI d)) = P
  have hPi : ∀ m, P m = decide (ls m = nI d) := fun m => by rw [← hP]
  have hsh : shN ls d = cn P 40 := by unfold shN; rw [hP]
  have hS' : ∀ m, m < 40 → (ti f (ad 18) m = 0 ↔ ¬ ls m = nI d) := fun m hm => ⟨fun h k => (hS m hm).mpr ⟨hd7, k⟩ h, fun h => Classical.byContradiction fun k => h ((hS m hm).mp k).2⟩
  have hnar : vp_nar .boolean 0 = 0 := by decide
  obtain ⟨x1, x2, x3, x4, x5, x6⟩ := id hX
  obtain ⟨v1, v2, v3, v4, v5⟩ := id hI
  -- the end: the rest goes to the box
  have hend : ∀ (w : TF) (y5 : Int64) (k : Nat), k ≤ 40 → (k ≠ 0 → 0 < k) → (k = cn P 40) → y5.toInt = (if k = 0 then 0 else M.2.1 / (k : Int)) → (∀ c z, tl w c z = tl f c z) → (∀ c z, tr w c z = tr f c z) → (∀ c z, c ≠ ad 15 → c ≠ ad 18 → ti w c z = ti f c z) → (∀ m, m < 40 → ti w (ad 15) m = if ls m = nI d then M.2.2.2.2.1 m + y5.toInt32 else M.2.2.2.2.1 m) → (∀ m, m < 40 → ti w (ad 18) m = 0) → ∀ x_8 : Int64, tl w q1 56 = x_8 → ∀ x_9 : Int64, tl w q1 57 = x_9 → ∀ y_10 : Int64, y_10 = (y5 : Int64) * ((nI k : Int32).toInt64 : Int64) → ∀ y_11 : Int64, y_11 = (x_9 : Int64) - (y_10 : Int64) → ∀ y_12 : Int64, y_12 = (x_8 : Int64) + (y_11 : Int64) → ∀ f_2 : TF, f_2 = sL w q1 56 y_12 → Ok L f_2 → ∀ q_14 : Nat, tr f_2 q1 59 = some q_14 → ∀ x_15 : Int64, tl f_2 q_14 (nI d : Int32).toNatClampNeg = x_15 → ∀ x_16 : Int64, tl f_2 q1 57 = x_16 → ∀ y_17 : Int64, y_17 = (y5 : Int64) * ((nI k : Int32).toInt64 : Int64) → ∀ y_18 : Int64, y_18 = (x_16 : Int64) - (y_17 : Int64) → ∀ y_19 : Int64, y_19 = (x_15 : Int64) + (y_18 : Int64) → ∀ f_3 : TF, f_3 = sL f_2 q_14 (nI d : Int32).toNatClampNeg y_19 → Ok L f_3 → ∀ f_4 : TF, f_4 = sL f_3 q1 57 0 → Ok L f_4 → Q L f_4 := by
    intro w y5 k hk40 hkp hk ey wl wr' wt w15 w18 x8 e8 x9 e9 y10 e10 y11 e11 y12 e12 f2 hf2 _ q14 e14 x15 e15 x16 e16 y17 e17 y18 e18 y19 e19 f3 hf3 _ f4 hf4 _
    rw [hf2, tr_sL, wr', r 59 (by decide)] at e14; cases e14
    rw [nI_clamp (by omega)] at e15 hf3
    rw [wl] at e8 e9
    rw [hf2, tl_sL_ne nq59.symm, wl] at e15
    rw [hf2, tl_sL_nj (by decide), wl] at e16
    have hrst : 0 ≤ y5.toInt * (k : Int) ∧ y5.toInt * (k : Int) ≤ M.2.1 ∧ M.2.1 - y5.toInt * (k : Int) = (if k = 0 then M.2.1 else rst M k) := by
      by_cases k0 : k = 0
      · subst k0
        rw [if_pos rfl] at ey
        rw [ey, if_pos rfl]
        omega
      · rw [if_neg k0] at ey
        obtain ⟨-, -, -, -, r5, r6⟩ := rst_b (M := M) (k := k) v2 (hkp k0)
        rw [ey, if_neg k0]
        exact ⟨r5, r6, rfl⟩
    have kI := i64_nI (n := k) (by omega)
    have t10 : y10.toInt = y5.toInt * (k : Int) := by rw [e10, l_mul (by rw [kI]; omega) (by rw [kI]; omega), kI]
    have t17 : y17.toInt = y5.toInt * (k : Int) := by rw [e17, l_mul (by rw [kI]; omega) (by rw [kI]; omega), kI]
    have t11 : y11.toInt = (if k = 0 then M.2.1 else rst M k) := by rw [e11, l_sub (by rw [← e9, x2, t10]; omega) (by rw [← e9, x2, t10]; omega), ← e9, x2, t10]; exact hrst.2.2
    have t18 : y18.toInt = (if k = 0 then M.2.1 else rst M k) := by rw [e18, l_sub (by rw [← e16, x2, t17]; omega) (by rw [← e16, x2, t17]; omega), ← e16, x2, t17]; exact hrst.2.2
    have hRb : 0 ≤ (if k = 0 then M.2.1 else rst M k) ∧ (if k = 0 then M.2.1 else rst M k) ≤ M.2.1 := by rw [← hrst.2.2]; omega
    have t12 : y12.toInt = M.1 + (if k = 0 then M.2.1 else rst M k) := by rw [e12, l_add (by rw [← e8, x1, t11]; omega) (by rw [← e8, x1, t11]; omega), ← e8, x1, t11]
    have hv5 := v5 d hd
    have hx4 := x4 d hd
    have t19 : y19.toInt = M.2.2.2.1 d + (if k = 0 then M.2.1 else rst M k) := by rw [e19, l_add (by rw [← e15, hx4, t18]; omega) (by rw [← e15, hx4, t18]; omega), ← e15, hx4, t18]
    have hpf : partF ls d M = (M.1 + (if k = 0 then M.2.1 else rst M k), 0, M.2.2.1, fun x => if x = d then M.2.2.2.1 x + (if k = 0 then M.2.1 else rst M k) else M.2.2.2.1 x, fun m => if m < 40 then (if ls m = nI d then M.2.2.2.2.1 m + y5.toInt32 else M.2.2.2.2.1 m) else (partF ls d M).2.2.2.2.1 m, M.2.2.2.2.2) := by
      unfold partF
      by_cases k0 : k = 0
      · have hz : shN ls d = 0 := by rw [hsh, ← hk, k0]
        have hp0 : M.2.1 = 0 := Classical.byContradiction fun z => hp z hz
        have hnone : ∀ m, m < 40 → ¬ ls m = nI d := by
          intro m hm e
          have hpos : ∀ n, m < n → 0 < cn P n := by
            intro n
            induction n with
            | zero => intro h; omega
            | succ n ih =>
              intro h
              show 0 < cn P n + (if P n = true then 1 else 0)
              by_cases en : m = n
              · subst en; rw [hPi, decide_eq_true e, if_pos rfl]; omega
              · have := ih (by omega); omega
          have := hpos 40 hm
          omega
        rw [if_neg (fun z => z.2 hz), if_pos k0, hp0]
        have e1 : (fun x => if x = d then M.2.2.2.1 x + 0 else M.2.2.2.1 x) = M.2.2.2.1 := by funext x; split <;> omega
        have e2 : (fun m => if m < 40 then (if ls m = nI d then M.2.2.2.2.1 m + y5.toInt32 else M.2.2.2.2.1 m) else M.2.2.2.2.1 m) = M.2.2.2.2.1 := by
          funext m
          by_cases hm : m < 40
          · rw [if_pos hm, if_neg (hnone m hm)]
          · rw [if_neg hm]
        rw [e1, e2, Int.add_zero]
        conv => lhs; rw [show M = (M.1, M.2.1, M.2.2.1, M.2.2.2.1, M.2.2.2.2.1, M.2.2.2.2.2) from rfl, hp0]
      · have hz : shN ls d ≠ 0 := by rw [hsh, ← hk]; exact k0
        rw [if_pos ⟨hd7, hz⟩, if_neg k0, hsh, ← hk]
        rw [if_neg k0] at ey
        rw [toI32 ey]
        have e2 : (fun m => if ls m = nI d then M.2.2.2.2.1 m + Int32.ofInt (M.2.1 / (k : Int)) else M.2.2.2.2.1 m) = (fun m => if m < 40 then (if ls m = nI d then M.2.2.2.2.1 m + Int32.ofInt (M.2.1 / (k : Int)) else M.2.2.2.2.1 m) else (if ls m = nI d then M.2.2.2.2.1 m + Int32.ofInt (M.2.1 / (k : Int)) else M.2.2.2.2.1 m)) := by
          funext m
          by_cases hm : m < 40
          · rw [if_pos hm]
          · rw [if_neg hm]
        conv => lhs; rw [e2]
    refine hq f4 ?_ (fun m hm => by rw [hf4, ti_sL, hf3, ti_sL, hf2, ti_sL]; exact w18 m hm)
    rw [hpf]
    refine ⟨?_, ?_, ?_, fun x hx => ?_, fun m hm => ?_, fun i hi => ?_⟩
    · rw [hf4, tl_sL_nj (by decide), hf3, tl_sL_ne nq59, hf2, tl_sL_eq]; exact t12
    · rw [hf4, tl_sL_eq]; rfl
    · rw [hf4, tl_sL_nj (by decide), hf3, tl_sL_ne nq59, hf2, tl_sL_nj (by decide), wl]; exact x3
    · rw [hf4, tl_sL_ne nq59.symm, hf3, tl_sL]
      by_cases ex : x = d
      · subst ex
        rw [if_pos ⟨rfl, rfl⟩, t19]
        show _ = if x = x then _ else _
        rw [if_pos rfl]
      · rw [if_neg (fun k => ex k.2), hf2, tl_sL_ne nq59.symm, wl]
        show _ = if x = d then _ else _
        rw [if_neg ex]; exact x4 x hx
    · rw [hf4, ti_sL, hf3, ti_sL, hf2, ti_sL, w15 m hm]
      show _ = if m < 40 then _ else _
      rw [if_pos hm]
    · rw [hf4, ti_sL, hf3, ti_sL, hf2, ti_sL, wt _ _ n6315 n6318]
      exact x6 i hi
  have hI18 : ∀ m, m < 40 → (¬ ti f (ad 18) m = 0 ↔ ls m = nI d) := fun m hm => ⟨fun h => ((hS m hm).mp h).2, fun h => (hS m hm).mpr ⟨hd7, h⟩⟩
  have hstep : ∀ (rc : Int32 → Int32 → Prop) (i : Nat), i ≤ 40 → (i < 40 → rc (nI (cn P (i + 1))) (nI (i + 1))) → wpB_Md_part_w_4_1 L f q1 (nI d) Q rc (nI (cn P i)) (nI i) := by
    intro rc i hi hrec
    have hcl := cn_le P i
    refine ⟨fun e => ⟨fun z => ?_, fun z x4' e4 y5 e5 => ?_⟩, fun e q56 e56 x57 e57 => ?_⟩
    · -- nobody
      rw [show (40 : Int32) = nI 40 from rfl, nI_leI (by decide) (by omega)] at e
      have : i = 40 := by omega
      subst this
      rw [show (0 : Int32) = nI 0 from rfl, nI_eq (by omega) (by decide)] at z
      have hs2 : ∀ (rc9 : Int32 → List Nat → TF → Prop) (j : Nat) (w : TF), j ≤ 40 → (∀ c z, tl w c z = tl f c z) → (∀ c z, tr w c z = tr f c z) → (∀ c z, c ≠ ad 15 → c ≠ ad 18 → ti w c z = ti f c z) → (∀ m, m < 40 → ti w (ad 15) m = if m < j ∧ ls m = nI d then M.2.2.2.2.1 m + (0 : Int64).toInt32 else M.2.2.2.2.1 m) → (∀ m, m < 40 → ti w (ad 18) m = if m < j then 0 else ti f (ad 18) m) → (∀ w' : TF, j < 40 → (∀ c z, tl w' c z = tl f c z) → (∀ c z, tr w' c z = tr f c z) → (∀ c z, c ≠ ad 15 → c ≠ ad 18 → ti w' c z = ti f c z) → (∀ m, m < 40 → ti w' (ad 15) m = if m < j + 1 ∧ ls m = nI d then M.2.2.2.2.1 m + (0 : Int64).toInt32 else M.2.2.2.2.1 m) → (∀ m, m < 40 → ti w' (ad 18) m = if m < j + 1 then 0 else ti f (ad 18) m) → rc9 (nI (j + 1)) L w') → wpB_Md_part_w_52_31 L f q1 (nI d) (nI (cn P 40)) (nI 40) rc Q rc9 (nI j) L w := by
        intro rc9 j w hj wl wr' wt w15 w18 hrec9 _ _
        refine ⟨fun e4 => ?_, fun e4 q47 e47 x48 e48 => ?_⟩
        · rw [show (40 : Int32) = nI 40 from rfl, nI_leI (by decide) (by omega)] at e4
          have : j = 40 := by omega
          subst this
          refine hend w 0 (cn P 40) hcl (fun h => by omega) rfl (by rw [if_pos z]; rfl) wl wr' wt (fun m hm => ?_) (fun m hm => by rw [w18 m hm, if_pos hm])
          rw [w15 m hm]
          by_cases em : ls m = nI d
          · rw [if_pos ⟨hm, em⟩, if_pos em]
          · rw [if_neg (fun k => em k.2), if_neg em]
        · rw [show (40 : Int32) = nI 40 from rfl, nI_leI (by decide) (by omega)] at e4
          have hlt : j < 40 := by omega
          rw [wr', r 18 (by decide)] at e47; cases e47
          rw [nI_clamp (by omega), w18 j hlt, if_neg (Nat.lt_irrefl j)] at e48
          subst e48
          rw [nI_1, nI_clamp (by omega), hnar]
          refine ⟨fun k w' hw' _ => ?_, fun k q51 e51 x52 e52 y53 e53 wa hwa _ w' hw' _ => ?_⟩
          · refine hrec9 w' hlt (fun c z' => by rw [hw', tl_sI]; exact wl c z') (fun c z' => by rw [hw', tr_sI]; exact wr' c z') (fun c z' d1 d2 => by rw [hw', ti_sI_ne d2]; exact wt c z' d1 d2) (fun m hm => ?_) (fun m hm => ?_)
            · rw [hw', ti_sI_ne n1518, w15 m hm]
              by_cases ej : m = j
              · subst ej
                have : ¬ ls m = nI d := (hS' m hm).mp k
                rw [if_neg (fun y => this y.2), if_neg (fun y => this y.2)]
              · by_cases hmj : m < j ∧ ls m = nI d
                · rw [if_pos hmj, if_pos ⟨by omega, hmj.2⟩]
                · rw [if_neg hmj, if_neg (fun y => hmj ⟨by omega, y.2⟩)]
            · rw [hw', ti_sI]
              by_cases ej : m = j
              · subst ej; rw [if_pos ⟨rfl, rfl⟩, if_pos (by omega)]
              · rw [if_neg (fun y => ej y.2), w18 m hm]
                by_cases hmj : m < j
                · rw [if_pos hmj, if_pos (by omega)]
                · rw [if_neg hmj, if_neg (by omega)]
          · rw [wr', r 15 (by decide)] at e51; cases e51
            have h15 := w15 j hlt
            rw [if_neg (fun y => Nat.lt_irrefl j y.1)] at h15
            rw [h15] at e52
            subst e52 e53
            have hls := (hI18 j hlt).mp k
            refine hrec9 w' hlt (fun c z' => by rw [hw', tl_sI, hwa, tl_sI]; exact wl c z') (fun c z' => by rw [hw', tr_sI, hwa, tr_sI]; exact wr' c z') (fun c z' d1 d2 => by rw [hw', ti_sI_ne d2, hwa, ti_sI_ne d1]; exact wt c z' d1 d2) (fun m hm => ?_) (fun m hm => ?_)
            · rw [hw', ti_sI_ne n1518, hwa, ti_sI]
              by_cases ej : m = j
              · subst ej
                rw [if_pos ⟨rfl, rfl⟩, if_pos ⟨by omega, hls⟩]
              · rw [if_neg (fun y => ej y.2), w15 m hm]
                by_cases hmj : m < j ∧ ls m = nI d
                · rw [if_pos hmj, if_pos ⟨by omega, hmj.2⟩]
                · rw [if_neg hmj, if_neg (fun y => hmj ⟨by omega, y.2⟩)]
            · rw [hw', ti_sI]
              by_cases ej : m = j
              · subst ej; rw [if_pos ⟨rfl, rfl⟩, if_pos (by omega)]
              · rw [if_neg (fun y => ej y.2), hwa, ti_sI_ne n1518.symm, w18 m hm]
                by_cases hmj : m < j
                · rw [if_pos hmj, if_pos (by omega)]
                · rw [if_neg hmj, if_neg (by omega)]
      have hl2 : ∀ (n j : Nat) (w : TF), j ≤ 40 → (∀ c z, tl w c z = tl f c z) → (∀ c z, tr w c z = tr f c z) → (∀ c z, c ≠ ad 15 → c ≠ ad 18 → ti w c z = ti f c z) → (∀ m, m < 40 → ti w (ad 15) m = if m < j ∧ ls m = nI d then M.2.2.2.2.1 m + (0 : Int64).toInt32 else M.2.2.2.2.1 m) → (∀ m, m < 40 → ti w (ad 18) m = if m < j then 0 else ti f (ad 18) m) → wpL_Md_part_w_52_31 L f q1 (nI d) (nI (cn P 40)) (nI 40) rc Q n (nI j) L w := by
        intro n
        induction n with
        | zero => intro j w a1 a2 a3 a4 a5 a6; exact hs2 (fun _ _ _ => True) j w a1 a2 a3 a4 a5 a6 (fun _ _ _ _ _ _ _ => trivial)
        | succ n ih => intro j w a1 a2 a3 a4 a5 a6; exact hs2 _ j w a1 a2 a3 a4 a5 a6 (fun w' b1 b2 b3 b4 b5 b6 => ih _ w' (by omega) b2 b3 b4 b5 b6)
      exact hl2 _ 0 f (by omega) (fun _ _ => rfl) (fun _ _ => rfl) (fun _ _ _ _ => rfl) (fun m hm => by rw [if_neg (fun y => absurd y.1 (by omega))]; exact x5 m hm) (fun m hm => by rw [if_neg (by omega)])
    · rw [show (40 : Int32) = nI 40 from rfl, nI_leI (by decide) (by omega)] at e
      have : i = 40 := by omega
      subst this
      rw [show (0 : Int32) = nI 0 from rfl, nI_eq (by omega) (by decide)] at z
      have kI := i64_nI (n := cn P 40) (by omega)
      have ey : y5.toInt = (if cn P 40 = 0 then 0 else M.2.1 / (cn P 40 : Int)) := by rw [if_neg z, e5, l_div (by rw [← e4, x2]; exact v2) (by rw [← e4, x2]; omega) (by rw [kI]; omega), ← e4, x2, kI]
      have hs2 : ∀ (rc9 : Int32 → List Nat → TF → Prop) (j : Nat) (w : TF), j ≤ 40 → (∀ c z, tl w c z = tl f c z) → (∀ c z, tr w c z = tr f c z) → (∀ c z, c ≠ ad 15 → c ≠ ad 18 → ti w c z = ti f c z) → (∀ m, m < 40 → ti w (ad 15) m = if m < j ∧ ls m = nI d then M.2.2.2.2.1 m + y5.toInt32 else M.2.2.2.2.1 m) → (∀ m, m < 40 → ti w (ad 18) m = if m < j then 0 else ti f (ad 18) m) → (∀ w' : TF, j < 40 → (∀ c z, tl w' c z = tl f c z) → (∀ c z, tr w' c z = tr f c z) → (∀ c z, c ≠ ad 15 → c ≠ ad 18 → ti w' c z = ti f c z) → (∀ m, m < 40 → ti w' (ad 15) m = if m < j + 1 ∧ ls m = nI d then M.2.2.2.2.1 m + y5.toInt32 else M.2.2.2.2.1 m) → (∀ m, m < 40 → ti w' (ad 18) m = if m < j + 1 then 0 else ti f (ad 18) m) → rc9 (nI (j + 1)) L w') → wpB_Md_part_w_52_6 L f q1 (nI d) (nI (cn P 40)) (nI 40) rc x4' y5 Q rc9 (nI j) L w := by
        intro rc9 j w hj wl wr' wt w15 w18 hrec9 _ _
        refine ⟨fun e4 => ?_, fun e4 q47 e47 x48 e48 => ?_⟩
        · rw [show (40 : Int32) = nI 40 from rfl, nI_leI (by decide) (by omega)] at e4
          have : j = 40 := by omega
          subst this
          refine hend w y5 (cn P 40) hcl (fun h => by omega) rfl ey wl wr' wt (fun m hm => ?_) (fun m hm => by rw [w18 m hm, if_pos hm])
          rw [w15 m hm]
          by_cases em : ls m = nI d
          · rw [if_pos ⟨hm, em⟩, if_pos em]
          · rw [if_neg (fun k => em k.2), if_neg em]
        · rw [show (40 : Int32) = nI 40 from rfl, nI_leI (by decide) (by omega)] at e4
          have hlt : j < 40 := by omega
          rw [wr', r 18 (by decide)] at e47; cases e47
          rw [nI_clamp (by omega), w18 j hlt, if_neg (Nat.lt_irrefl j)] at e48
          subst e48
          rw [nI_1, nI_clamp (by omega), hnar]
          refine ⟨fun k w' hw' _ => ?_, fun k q51 e51 x52 e52 y53 e53 wa hwa _ w' hw' _ => ?_⟩
          · refine hrec9 w' hlt (fun c z' => by rw [hw', tl_sI]; exact wl c z') (fun c z' => by rw [hw', tr_sI]; exact wr' c z') (fun c z' d1 d2 => by rw [hw', ti_sI_ne d2]; exact wt c z' d1 d2) (fun m hm => ?_) (fun m hm => ?_)
            · rw [hw', ti_sI_ne n1518, w15 m hm]
              by_cases ej : m = j
              · subst ej
                have : ¬ ls m = nI d := (hS' m hm).mp k
                rw [if_neg (fun y => this y.2), if_neg (fun y => this y.2)]
              · by_cases hmj : m < j ∧ ls m = nI d
                · rw [if_pos hmj, if_pos ⟨by omega, hmj.2⟩]
                · rw [if_neg hmj, if_neg (fun y => hmj ⟨by omega, y.2⟩)]
            · rw [hw', ti_sI]
              by_cases ej : m = j
              · subst ej; rw [if_pos ⟨rfl, rfl⟩, if_pos (by omega)]
              · rw [if_neg (fun y => ej y.2), w18 m hm]
                by_cases hmj : m < j
                · rw [if_pos hmj, if_pos (by omega)]
                · rw [if_neg hmj, if_neg (by omega)]
          · rw [wr', r 15 (by decide)] at e51; cases e51
            have h15 := w15 j hlt
            rw [if_neg (fun y => Nat.lt_irrefl j y.1)] at h15
            rw [h15] at e52
            subst e52 e53
            have hls := (hI18 j hlt).mp k
            refine hrec9 w' hlt (fun c z' => by rw [hw', tl_sI, hwa, tl_sI]; exact wl c z') (fun c z' => by rw [hw', tr_sI, hwa, tr_sI]; exact wr' c z') (fun c z' d1 d2 => by rw [hw', ti_sI_ne d2, hwa, ti_sI_ne d1]; exact wt c z' d1 d2) (fun m hm => ?_) (fun m hm => ?_)
            · rw [hw', ti_sI_ne n1518, hwa, ti_sI]
              by_cases ej : m = j
              · subst ej
                rw [if_pos ⟨rfl, rfl⟩, if_pos ⟨by omega, hls⟩]
              · rw [if_neg (fun y => ej y.2), w15 m hm]
                by_cases hmj : m < j ∧ ls m = nI d
                · rw [if_pos hmj, if_pos ⟨by omega, hmj.2⟩]
                · rw [if_neg hmj, if_neg (fun y => hmj ⟨by omega, y.2⟩)]
            · rw [hw', ti_sI]
              by_cases ej : m = j
              · subst ej; rw [if_pos ⟨rfl, rfl⟩, if_pos (by omega)]
              · rw [if_neg (fun y => ej y.2), hwa, ti_sI_ne n1518.symm, w18 m hm]
                by_cases hmj : m < j
                · rw [if_pos hmj, if_pos (by omega)]
                · rw [if_neg hmj, if_neg (by omega)]
      have hl2 : ∀ (n j : Nat) (w : TF), j ≤ 40 → (∀ c z, tl w c z = tl f c z) → (∀ c z, tr w c z = tr f c z) → (∀ c z, c ≠ ad 15 → c ≠ ad 18 → ti w c z = ti f c z) → (∀ m, m < 40 → ti w (ad 15) m = if m < j ∧ ls m = nI d then M.2.2.2.2.1 m + y5.toInt32 else M.2.2.2.2.1 m) → (∀ m, m < 40 → ti w (ad 18) m = if m < j then 0 else ti f (ad 18) m) → wpL_Md_part_w_52_6 L f q1 (nI d) (nI (cn P 40)) (nI 40) rc x4' y5 Q n (nI j) L w := by
        intro n
        induction n with
        | zero => intro j w a1 a2 a3 a4 a5 a6; exact hs2 (fun _ _ _ => True) j w a1 a2 a3 a4 a5 a6 (fun _ _ _ _ _ _ _ => trivial)
        | succ n ih => intro j w a1 a2 a3 a4 a5 a6; exact hs2 _ j w a1 a2 a3 a4 a5 a6 (fun w' b1 b2 b3 b4 b5 b6 => ih _ w' (by omega) b2 b3 b4 b5 b6)
      exact hl2 _ 0 f (by omega) (fun _ _ => rfl) (fun _ _ => rfl) (fun _ _ _ _ => rfl) (fun m hm => by rw [if_neg (fun y => absurd y.1 (by omega))]; exact x5 m hm) (fun m hm => by rw [if_neg (by omega)])
    · rw [show (40 : Int32) = nI 40 from rfl, nI_leI (by decide) (by omega)] at e
      have hlt : i < 40 := by omega
      have hr := hrec hlt
      have hcs : cn P (i + 1) = cn P i + (if P i = true then 1 else 0) := rfl
      rw [r 18 (by decide)] at e56; cases e56
      rw [nI_clamp (by omega)] at e57
      subst e57
      rw [nI_1, nI_1, show (0 : Int32) = nI 0 from rfl, nI_add]
      refine ⟨fun k => ?_, fun k => ?_⟩
      · rw [hcs, hPi, decide_eq_false ((hS' i hlt).mp k), if_neg (by simp)] at hr; exact hr
      · rw [hcs, hPi, decide_eq_true ((hI18 i hlt).mp k), if_pos rfl] at hr; exact hr
  have hloop : ∀ (n i : Nat), i ≤ 40 → wpL_Md_part_w_4_1 L f q1 (nI d) Q n (nI (cn P i)) (nI i) := by
    intro n
    induction n with
    | zero => intro i a1; exact hstep (fun _ _ => True) i a1 (fun _ => trivial)
    | succ n ih => intro i a1; exact hstep _ i a1 (fun b1 => ih _ (by omega))
  exact hloop _ 0 (by omega)
end MOM
