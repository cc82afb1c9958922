def cX_0 (a : Nat → Nat) (L : List Nat) : TC := (0, fun _ => 0, fun _ => 0, fun j => match j with | 0 => some (a 1) | 1 => some (a 6) | 2 => some (a 7) | 3 => some (a 8) | 4 => some (a 9) | 5 => some (a 10) | 6 => some (a 12) | 12 => some (a 15) | _ => none)
def cX_1 (a : Nat → Nat) (L : List Nat) : TC := (1, fun j => match j with | 5 => (-1) | _ => 0, fun _ => 0, fun j => match j with | 0 => some (a 2) | 1 => some (a 3) | 2 => some (a 4) | 3 => some (a 5) | _ => none)
def cX_2 (a : Nat → Nat) (L : List Nat) : TC := (2, fun _ => 0, fun _ => 0, fun _ => none)
def cX_3 (a : Nat → Nat) (L : List Nat) : TC := (3, fun _ => 0, fun _ => 0, fun _ => none)
def cX_4 (a : Nat → Nat) (L : List Nat) : TC := (4, fun _ => 0, fun _ => 0, fun _ => none)
def cX_5 (a : Nat → Nat) (L : List Nat) : TC := (5, fun _ => 0, fun _ => 0, fun _ => none)
def cX_6 (a : Nat → Nat) (L : List Nat) : TC := (6, fun _ => 0, fun _ => 0, fun j => L[j]?)
def cX_7 (a : Nat → Nat) (L : List Nat) : TC := (7, fun _ => 0, fun _ => 0, fun _ => none)
def cX_8 (a : Nat → Nat) (L : List Nat) : TC := (8, fun _ => 0, fun _ => 0, fun _ => none)
def cX_9 (a : Nat → Nat) (L : List Nat) : TC := (9, fun _ => 0, fun _ => 0, fun _ => none)
def cX_10 (a : Nat → Nat) (L : List Nat) : TC := (10, fun _ => 0, fun _ => 0, fun j => match j with | 0 => some (a 11) | _ => none)
def cX_11 (a : Nat → Nat) (L : List Nat) : TC := (11, fun _ => 0, fun _ => 0, fun _ => none)
def cX_12 (a : Nat → Nat) (L : List Nat) : TC := (12, fun _ => 0, fun _ => 0, fun j => match j with | 4 => some (a 13) | 5 => some (a 14) | _ => none)
def cX_13 (a : Nat → Nat) (L : List Nat) : TC := (13, fun _ => 0, fun _ => 0, fun _ => none)
def cX_14 (a : Nat → Nat) (L : List Nat) : TC := (14, fun _ => 0, fun _ => 0, fun _ => none)
def cX_15 (a : Nat → Nat) (L : List Nat) : TC := (15, fun _ => 0, fun _ => 0, fun j => match j with | 2 => some (a 16) | 3 => some (a 17) | 4 => some (a 18) | _ => none)
def cX_16 (a : Nat → Nat) (L : List Nat) : TC := (16, fun _ => 0, fun _ => 0, fun _ => none)
def cX_17 (a : Nat → Nat) (L : List Nat) : TC := (17, fun _ => 0, fun _ => 0, fun _ => none)
def cX_18 (a : Nat → Nat) (L : List Nat) : TC := (18, fun _ => 0, fun _ => 0, fun _ => none)
def cM_0 (a : Nat → Nat) : TC := (27, fun j => match j with | 4 => (-1) | _ => 0, fun _ => 0, fun j => match j with | 3 => some (a 1) | 5 => some (a 2) | 6 => some (a 3) | 7 => some (a 4) | 8 => some (a 5) | 9 => some (a 6) | 10 => some (a 7) | 11 => some (a 8) | 12 => some (a 9) | 13 => some (a 10) | 14 => some (a 11) | 15 => some (a 12) | 16 => some (a 13) | 17 => some (a 14) | 18 => some (a 15) | 19 => some (a 16) | 20 => some (a 17) | 22 => some (a 18) | 23 => some (a 19) | 24 => some (a 20) | 25 => some (a 21) | 26 => some (a 22) | 27 => some (a 23) | 30 => some (a 24) | 31 => some (a 25) | 32 => some (a 26) | 33 => some (a 27) | 34 => some (a 28) | 35 => some (a 29) | 36 => some (a 30) | 37 => some (a 31) | 38 => some (a 32) | 39 => some (a 33) | 40 => some (a 34) | 41 => some (a 35) | 48 => some (a 36) | 49 => some (a 37) | 50 => some (a 38) | 51 => some (a 39) | 52 => some (a 40) | 53 => some (a 41) | 54 => some (a 42) | 55 => some (a 43) | 59 => some (a 44) | 61 => some (a 45) | 62 => some (a 46) | 63 => some (a 47) | _ => none)
def cM_1 (a : Nat → Nat) : TC := (28, fun _ => 0, fun _ => 0, fun _ => none)
def cM_2 (a : Nat → Nat) : TC := (29, fun _ => 0, fun _ => 0, fun _ => none)
def cM_3 (a : Nat → Nat) : TC := (30, fun _ => 0, fun _ => 0, fun _ => none)
def cM_4 (a : Nat → Nat) : TC := (31, fun _ => 0, fun _ => 0, fun _ => none)
def cM_5 (a : Nat → Nat) : TC := (32, fun _ => 0, fun _ => 0, fun _ => none)
def cM_6 (a : Nat → Nat) : TC := (33, fun _ => 0, fun _ => 0, fun _ => none)
def cM_7 (a : Nat → Nat) : TC := (34, fun _ => (-1), fun _ => 0, fun _ => none)
def cM_8 (a : Nat → Nat) : TC := (35, fun _ => 0, fun _ => 0, fun _ => none)
def cM_9 (a : Nat → Nat) : TC := (36, fun _ => 0, fun _ => 0, fun _ => none)
def cM_10 (a : Nat → Nat) : TC := (37, fun _ => 0, fun _ => 0, fun _ => none)
def cM_11 (a : Nat → Nat) : TC := (38, fun _ => 0, fun _ => 0, fun _ => none)
def cM_12 (a : Nat → Nat) : TC := (39, fun _ => 0, fun _ => 0, fun _ => none)
def cM_13 (a : Nat → Nat) : TC := (40, fun _ => (-1), fun _ => 0, fun _ => none)
def cM_14 (a : Nat → Nat) : TC := (41, fun _ => 0, fun _ => 0, fun _ => none)
def cM_15 (a : Nat → Nat) : TC := (42, fun _ => 0, fun _ => 0, fun _ => none)
def cM_16 (a : Nat → Nat) : TC := (43, fun _ => 0, fun _ => 0, fun _ => none)
def cM_17 (a : Nat → Nat) : TC := (44, fun _ => 0, fun _ => 0, fun _ => none)
def cM_18 (a : Nat → Nat) : TC := (45, fun _ => 0, fun _ => 0, fun _ => none)
def cM_19 (a : Nat → Nat) : TC := (46, fun _ => 0, fun _ => 0, fun _ => none)
def cM_20 (a : Nat → Nat) : TC := (47, fun _ => 0, fun _ => 0, fun _ => none)
def cM_21 (a : Nat → Nat) : TC := (48, fun _ => 0, fun _ => 0, fun _ => none)
def cM_22 (a : Nat → Nat) : TC := (49, fun _ => 0, fun _ => 0, fun _ => none)
def cM_23 (a : Nat → Nat) : TC := (50, fun _ => 0, fun _ => 0, fun _ => none)
def cM_24 (a : Nat → Nat) : TC := (51, fun _ => 0, fun _ => 0, fun _ => none)
def cM_25 (a : Nat → Nat) : TC := (52, fun _ => 0, fun _ => 0, fun _ => none)
def cM_26 (a : Nat → Nat) : TC := (53, fun _ => 0, fun _ => 0, fun _ => none)
def cM_27 (a : Nat → Nat) : TC := (54, fun _ => 0, fun _ => 0, fun _ => none)
def cM_28 (a : Nat → Nat) : TC := (55, fun _ => 0, fun _ => 0, fun _ => none)
def cM_29 (a : Nat → Nat) : TC := (56, fun _ => 0, fun _ => 0, fun _ => none)
def cM_30 (a : Nat → Nat) : TC := (57, fun _ => 0, fun _ => 0, fun _ => none)
def cM_31 (a : Nat → Nat) : TC := (58, fun _ => 0, fun _ => 0, fun _ => none)
def cM_32 (a : Nat → Nat) : TC := (59, fun _ => 0, fun _ => 0, fun _ => none)
def cM_33 (a : Nat → Nat) : TC := (60, fun _ => 0, fun _ => 0, fun _ => none)
def cM_34 (a : Nat → Nat) : TC := (61, fun _ => 0, fun _ => 0, fun _ => none)
def cM_35 (a : Nat → Nat) : TC := (62, fun _ => 0, fun _ => 0, fun _ => none)
def cM_36 (a : Nat → Nat) : TC := (63, fun _ => 0, fun _ => 0, fun _ => none)
def cM_37 (a : Nat → Nat) : TC := (64, fun _ => 0, fun _ => 0, fun _ => none)
def cM_38 (a : Nat → Nat) : TC := (65, fun _ => 0, fun _ => 0, fun _ => none)
def cM_39 (a : Nat → Nat) : TC := (66, fun _ => 0, fun _ => 0, fun _ => none)
def cM_40 (a : Nat → Nat) : TC := (67, fun _ => 0, fun _ => 0, fun _ => none)
def cM_41 (a : Nat → Nat) : TC := (68, fun _ => 0, fun _ => 0, fun _ => none)
def cM_42 (a : Nat → Nat) : TC := (69, fun _ => 0, fun _ => 0, fun _ => none)
def cM_43 (a : Nat → Nat) : TC := (70, fun _ => 0, fun _ => 0, fun _ => none)
def cM_44 (a : Nat → Nat) : TC := (71, fun _ => 0, fun _ => 0, fun _ => none)
def cM_45 (a : Nat → Nat) : TC := (72, fun _ => 0, fun _ => 0, fun _ => none)
def cM_46 (a : Nat → Nat) : TC := (73, fun _ => 0, fun _ => 0, fun _ => none)
def cM_47 (a : Nat → Nat) : TC := (74, fun _ => 0, fun _ => 0, fun _ => none)
def cMan : TC := (20, fun j => match j with | 2 => (-1) | 7 => (-1) | _ => 0, fun _ => 0, fun _ => none)
def PX (a : Nat → Nat) (L : List Nat) : List (Nat × TC) := [(a 0, cX_0 a L), (a 1, cX_1 a L), (a 2, cX_2 a L), (a 3, cX_3 a L), (a 4, cX_4 a L), (a 5, cX_5 a L), (a 6, cX_6 a L), (a 7, cX_7 a L), (a 8, cX_8 a L), (a 9, cX_9 a L), (a 10, cX_10 a L), (a 11, cX_11 a L), (a 12, cX_12 a L), (a 13, cX_13 a L), (a 14, cX_14 a L), (a 15, cX_15 a L), (a 16, cX_16 a L), (a 17, cX_17 a L), (a 18, cX_18 a L)]
def PM (a : Nat → Nat) : List (Nat × TC) := [(a 0, cM_0 a), (a 1, cM_1 a), (a 2, cM_2 a), (a 3, cM_3 a), (a 4, cM_4 a), (a 5, cM_5 a), (a 6, cM_6 a), (a 7, cM_7 a), (a 8, cM_8 a), (a 9, cM_9 a), (a 10, cM_10 a), (a 11, cM_11 a), (a 12, cM_12 a), (a 13, cM_13 a), (a 14, cM_14 a), (a 15, cM_15 a), (a 16, cM_16 a), (a 17, cM_17 a), (a 18, cM_18 a), (a 19, cM_19 a), (a 20, cM_20 a), (a 21, cM_21 a), (a 22, cM_22 a), (a 23, cM_23 a), (a 24, cM_24 a), (a 25, cM_25 a), (a 26, cM_26 a), (a 27, cM_27 a), (a 28, cM_28 a), (a 29, cM_29 a), (a 30, cM_30 a), (a 31, cM_31 a), (a 32, cM_32 a), (a 33, cM_33 a), (a 34, cM_34 a), (a 35, cM_35 a), (a 36, cM_36 a), (a 37, cM_37 a), (a 38, cM_38 a), (a 39, cM_39 a), (a 40, cM_40 a), (a 41, cM_41 a), (a 42, cM_42 a), (a 43, cM_43 a), (a 44, cM_44 a), (a 45, cM_45 a), (a 46, cM_46 a), (a 47, cM_47 a)]
def P0 (a2 a : Nat → Nat) (L : List Nat) : List (Nat × TC) := PM a2 ++ (PX a L ++ L.map (fun q => (q, cMan)))
def pfn (P : List (Nat × TC)) : TF := fun x => match P.find? (fun p => p.1 == x) with | some p => p.2 | none => cMan
def pAp (P : List (Nat × TC)) : Prop := ∀ (i j : Nat) (p q : Nat × TC), P[i]? = some p → P[j]? = some q → p.1 = q.1 → i = j
theorem pfn_at {P : List (Nat × TC)} (h : pAp P) {x : Nat} {c : TC} (hm : (x, c) ∈ P) : pfn P x = c := by
  unfold pfn
  cases hf : P.find? (fun p => p.1 == x) with
  | none =>
    have := List.find?_eq_none.mp hf (x, c) hm
    simp at this
  | some p =>
    have h1 := List.mem_of_find?_eq_some hf
    have h2 := List.find?_some hf
    simp only [beq_iff_eq] at h2
    obtain ⟨i, hi⟩ := List.getElem?_of_mem h1
    obtain ⟨j, hj⟩ := List.getElem?_of_mem hm
    have h3 := h i j p (x, c) hi hj h2
    subst h3
    rw [hi] at hj
    cases hj
    rfl
theorem pfn_m {P : List (Nat × TC)} (h : pAp P) {x : Nat} {c : TC} (i : Nat) (hi : P[i]? = some (x, c)) : x ∈ P.map Prod.fst ∧ tk (pfn P) x = c.1 := by
  have hm := List.mem_of_getElem? hi
  refine ⟨List.mem_map.mpr ⟨_, hm, rfl⟩, ?_⟩
  unfold tk
  rw [pfn_at h hm]
theorem pfn_ok {P : List (Nat × TC)} (h : pAp P) (ho : ∀ p ∈ P, ∀ (j : Nat) (d : FD), slotD p.2.1 j = some d → okF (P.map Prod.fst) (pfn P) d p.2 j) : Ok (P.map Prod.fst) (pfn P) := by
  intro x hx j d hd
  obtain ⟨p, hp, rfl⟩ := List.mem_map.mp hx
  rw [pfn_at h hp] at hd ⊢
  exact ho p hp j d hd
theorem pfn_tw {P : List (Nat × TC)} (h : pAp P) (ct : Nat → ClassId) : TW ct (P.map Prod.fst) (pfn P) = P.map (fun p => (p.1, tc_e ct p.2)) := by
  unfold TW va_pl
  rw [List.map_map]
  apply List.map_congr_left
  intro p hp
  show (p.1, tc_e ct (pfn P p.1)) = _
  rw [pfn_at h hp]
theorem ok_arr {L : List Nat} {f : TF} {kd t n : Nat} {d : FD} {c : TC} (hkd : KDs[kd]? = some (.inr (t, n, d))) (hc : c.1 = kd) (h : ∀ j, j < n → okF L f d c j) : ∀ (j : Nat) (d' : FD), slotD c.1 j = some d' → okF L f d' c j := by
  intro j d' hd
  rw [hc] at hd
  unfold slotD at hd
  rw [hkd] at hd
  simp only at hd
  split at hd
  · next hj => cases hd; exact h j hj
  · cases hd
theorem ok_obj {L : List Nat} {f : TF} {kd ci : Nat} {fl : List FD} {c : TC} (hkd : KDs[kd]? = some (.inl (ci, fl))) (hc : c.1 = kd) (h : ∀ (j : Nat) (d : FD), fl[j]? = some d → okF L f d c j) : ∀ (j : Nat) (d' : FD), slotD c.1 j = some d' → okF L f d' c j := by
  intro j d' hd
  rw [hc] at hd
  unfold slotD at hd
  rw [hkd] at hd
  exact h j d' hd
theorem ra_eq {U : State} {c1 c2 : ClassId} {ty : FieldType} (h1 : va_RA U c1 ty) (h2 : va_RA U c2 ty) : c1 = c2 := by
  cases ty with
  | object C =>
    obtain ⟨_, _, _, _, _, h4⟩ := h1
    obtain ⟨_, _, _, _, _, g4⟩ := h2
    rw [h4] at g4; cases g4; rfl
  | _ =>
    have h1' : U.vm.findClass _ = some c1 := h1
    have h2' : U.vm.findClass _ = some c2 := h2
    rw [h1'] at h2'; cases h2'; rfl
set_option maxRecDepth 100000 in
theorem okX_0 {a : Nat → Nat} {L : List Nat} {Ls : List Nat} {f : TF} (h_1 : a 1 ∈ Ls ∧ tk f (a 1) = 1) (h_6 : a 6 ∈ Ls ∧ tk f (a 6) = 6) (h_7 : a 7 ∈ Ls ∧ tk f (a 7) = 7) (h_8 : a 8 ∈ Ls ∧ tk f (a 8) = 8) (h_9 : a 9 ∈ Ls ∧ tk f (a 9) = 9) (h_10 : a 10 ∈ Ls ∧ tk f (a 10) = 10) (h_12 : a 12 ∈ Ls ∧ tk f (a 12) = 12) (h_15 : a 15 ∈ Ls ∧ tk f (a 15) = 15) : ∀ (j : Nat) (d : FD), slotD (cX_0 a L).1 j = some d → okF Ls f d (cX_0 a L) j := by
  refine ok_obj (kd := 0) (fl := FL_0) rfl rfl (fun j d hd => ?_)
  match j, hd with
  | 0, hd => cases hd; exact h_1
  | 1, hd => cases hd; exact h_6
  | 2, hd => cases hd; exact h_7
  | 3, hd => cases hd; exact h_8
  | 4, hd => cases hd; exact h_9
  | 5, hd => cases hd; exact h_10
  | 6, hd => cases hd; exact h_12
  | 7, hd => cases hd; exact (show ¬ (0 : Int32) < 0 ∧ ¬ 20 < (0 : Int32) from ⟨by decide +kernel, by decide +kernel⟩)
  | 8, hd => cases hd; exact (show ¬ (0 : Int32) < 0 ∧ ¬ 20 < (0 : Int32) from ⟨by decide +kernel, by decide +kernel⟩)
  | 9, hd => cases hd; exact (show ¬ (0 : Int32) < 0 ∧ ¬ 600 < (0 : Int32) from ⟨by decide +kernel, by decide +kernel⟩)
  | 10, hd => cases hd; exact (show ¬ (0 : Int32) < 0 ∧ ¬ 359999 < (0 : Int32) from ⟨by decide +kernel, by decide +kernel⟩)
  | 11, hd => cases hd; exact (show ¬ (0 : Int32) < (-2147483648) ∧ ¬ 2147483647 < (0 : Int32) from ⟨by decide +kernel, by decide +kernel⟩)
  | 12, hd => cases hd; exact h_15
  | j + 13, hd => exact absurd hd (by simp [FL_0])
set_option maxRecDepth 100000 in
theorem okX_1 {a : Nat → Nat} {L : List Nat} {Ls : List Nat} {f : TF} (h_2 : a 2 ∈ Ls ∧ tk f (a 2) = 2) (h_3 : a 3 ∈ Ls ∧ tk f (a 3) = 3) (h_4 : a 4 ∈ Ls ∧ tk f (a 4) = 4) (h_5 : a 5 ∈ Ls ∧ tk f (a 5) = 5) : ∀ (j : Nat) (d : FD), slotD (cX_1 a L).1 j = some d → okF Ls f d (cX_1 a L) j := by
  refine ok_obj (kd := 1) (fl := FL_1) rfl rfl (fun j d hd => ?_)
  match j, hd with
  | 0, hd => cases hd; exact h_2
  | 1, hd => cases hd; exact h_3
  | 2, hd => cases hd; exact h_4
  | 3, hd => cases hd; exact h_5
  | 4, hd => cases hd; exact (show ¬ (0 : Int32) < 0 ∧ ¬ 12 < (0 : Int32) from ⟨by decide +kernel, by decide +kernel⟩)
  | 5, hd => cases hd; exact (show ¬ ((-1) : Int32) < (-2147483648) ∧ ¬ 2147483647 < ((-1) : Int32) from ⟨by decide +kernel, by decide +kernel⟩)
  | j + 6, hd => exact absurd hd (by simp [FL_1])
set_option maxRecDepth 100000 in
theorem okX_10 {a : Nat → Nat} {L : List Nat} {Ls : List Nat} {f : TF} (h_11 : a 11 ∈ Ls ∧ tk f (a 11) = 11) : ∀ (j : Nat) (d : FD), slotD (cX_10 a L).1 j = some d → okF Ls f d (cX_10 a L) j := by
  refine ok_obj (kd := 10) (fl := FL_10) rfl rfl (fun j d hd => ?_)
  match j, hd with
  | 0, hd => cases hd; exact h_11
  | 1, hd => cases hd; exact (show ¬ (0 : Int32) < 0 ∧ ¬ 400 < (0 : Int32) from ⟨by decide +kernel, by decide +kernel⟩)
  | 2, hd => cases hd; exact (show ¬ (0 : Int32) < (-2147483648) ∧ ¬ 2147483647 < (0 : Int32) from ⟨by decide +kernel, by decide +kernel⟩)
  | 3, hd => cases hd; exact (show ¬ (0 : Int32) < 0 ∧ ¬ 400 < (0 : Int32) from ⟨by decide +kernel, by decide +kernel⟩)
  | 4, hd => cases hd; exact (show ¬ (0 : Int32) < 0 ∧ ¬ 400 < (0 : Int32) from ⟨by decide +kernel, by decide +kernel⟩)
  | 5, hd => cases hd; exact (show ¬ (0 : Int32) < (-2147483648) ∧ ¬ 2147483647 < (0 : Int32) from ⟨by decide +kernel, by decide +kernel⟩)
  | j + 6, hd => exact absurd hd (by simp [FL_10])
set_option maxRecDepth 100000 in
theorem okX_12 {a : Nat → Nat} {L : List Nat} {Ls : List Nat} {f : TF} (h_13 : a 13 ∈ Ls ∧ tk f (a 13) = 13) (h_14 : a 14 ∈ Ls ∧ tk f (a 14) = 14) : ∀ (j : Nat) (d : FD), slotD (cX_12 a L).1 j = some d → okF Ls f d (cX_12 a L) j := by
  refine ok_obj (kd := 12) (fl := FL_12) rfl rfl (fun j d hd => ?_)
  match j, hd with
  | 0, hd => cases hd; exact (show ¬ (0 : Int32) < (-2147483648) ∧ ¬ 2147483647 < (0 : Int32) from ⟨by decide +kernel, by decide +kernel⟩)
  | 1, hd => cases hd; exact (show ¬ (0 : Int32) < (-2147483648) ∧ ¬ 2147483647 < (0 : Int32) from ⟨by decide +kernel, by decide +kernel⟩)
  | 2, hd => cases hd; exact (show ¬ (0 : Int32) < (-2147483648) ∧ ¬ 2147483647 < (0 : Int32) from ⟨by decide +kernel, by decide +kernel⟩)
  | 3, hd => cases hd; exact (show ¬ (0 : Int32) < (-2147483648) ∧ ¬ 2147483647 < (0 : Int32) from ⟨by decide +kernel, by decide +kernel⟩)
  | 4, hd => cases hd; exact h_13
  | 5, hd => cases hd; exact h_14
  | 6, hd => cases hd; exact (show ¬ (0 : Int32) < 0 ∧ ¬ 30 < (0 : Int32) from ⟨by decide +kernel, by decide +kernel⟩)
  | j + 7, hd => exact absurd hd (by simp [FL_12])
set_option maxRecDepth 100000 in
theorem okX_15 {a : Nat → Nat} {L : List Nat} {Ls : List Nat} {f : TF} (h_16 : a 16 ∈ Ls ∧ tk f (a 16) = 16) (h_17 : a 17 ∈ Ls ∧ tk f (a 17) = 17) (h_18 : a 18 ∈ Ls ∧ tk f (a 18) = 18) : ∀ (j : Nat) (d : FD), slotD (cX_15 a L).1 j = some d → okF Ls f d (cX_15 a L) j := by
  refine ok_obj (kd := 15) (fl := FL_15) rfl rfl (fun j d hd => ?_)
  match j, hd with
  | 0, hd => cases hd; exact (show ¬ (0 : Int32) < (-2147483648) ∧ ¬ 2147483647 < (0 : Int32) from ⟨by decide +kernel, by decide +kernel⟩)
  | 1, hd => cases hd; exact (show ¬ (0 : Int32) < (-2147483648) ∧ ¬ 2147483647 < (0 : Int32) from ⟨by decide +kernel, by decide +kernel⟩)
  | 2, hd => cases hd; exact h_16
  | 3, hd => cases hd; exact h_17
  | 4, hd => cases hd; exact h_18
  | 5, hd => cases hd; exact (show ¬ (0 : Int32) < 0 ∧ ¬ 12 < (0 : Int32) from ⟨by decide +kernel, by decide +kernel⟩)
  | 6, hd => cases hd; exact (show ¬ (0 : Int32) < 0 ∧ ¬ 12 < (0 : Int32) from ⟨by decide +kernel, by decide +kernel⟩)
  | 7, hd => cases hd; exact (show ¬ (0 : Int32) < (-2147483648) ∧ ¬ 2147483647 < (0 : Int32) from ⟨by decide +kernel, by decide +kernel⟩)
  | 8, hd => cases hd; exact (show ¬ (0 : Int32) < (-2147483648) ∧ ¬ 2147483647 < (0 : Int32) from ⟨by decide +kernel, by decide +kernel⟩)
  | j + 9, hd => exact absurd hd (by simp [FL_15])
set_option maxRecDepth 100000 in
theorem okM_0 {a : Nat → Nat} {Ls : List Nat} {f : TF} (h_1 : a 1 ∈ Ls ∧ tk f (a 1) = 28) (h_2 : a 2 ∈ Ls ∧ tk f (a 2) = 29) (h_3 : a 3 ∈ Ls ∧ tk f (a 3) = 30) (h_4 : a 4 ∈ Ls ∧ tk f (a 4) = 31) (h_5 : a 5 ∈ Ls ∧ tk f (a 5) = 32) (h_6 : a 6 ∈ Ls ∧ tk f (a 6) = 33) (h_7 : a 7 ∈ Ls ∧ tk f (a 7) = 34) (h_8 : a 8 ∈ Ls ∧ tk f (a 8) = 35) (h_9 : a 9 ∈ Ls ∧ tk f (a 9) = 36) (h_10 : a 10 ∈ Ls ∧ tk f (a 10) = 37) (h_11 : a 11 ∈ Ls ∧ tk f (a 11) = 38) (h_12 : a 12 ∈ Ls ∧ tk f (a 12) = 39) (h_13 : a 13 ∈ Ls ∧ tk f (a 13) = 40) (h_14 : a 14 ∈ Ls ∧ tk f (a 14) = 41) (h_15 : a 15 ∈ Ls ∧ tk f (a 15) = 42) (h_16 : a 16 ∈ Ls ∧ tk f (a 16) = 43) (h_17 : a 17 ∈ Ls ∧ tk f (a 17) = 44) (h_18 : a 18 ∈ Ls ∧ tk f (a 18) = 45) (h_19 : a 19 ∈ Ls ∧ tk f (a 19) = 46) (h_20 : a 20 ∈ Ls ∧ tk f (a 20) = 47) (h_21 : a 21 ∈ Ls ∧ tk f (a 21) = 48) (h_22 : a 22 ∈ Ls ∧ tk f (a 22) = 49) (h_23 : a 23 ∈ Ls ∧ tk f (a 23) = 50) (h_24 : a 24 ∈ Ls ∧ tk f (a 24) = 51) (h_25 : a 25 ∈ Ls ∧ tk f (a 25) = 52) (h_26 : a 26 ∈ Ls ∧ tk f (a 26) = 53) (h_27 : a 27 ∈ Ls ∧ tk f (a 27) = 54) (h_28 : a 28 ∈ Ls ∧ tk f (a 28) = 55) (h_29 : a 29 ∈ Ls ∧ tk f (a 29) = 56) (h_30 : a 30 ∈ Ls ∧ tk f (a 30) = 57) (h_31 : a 31 ∈ Ls ∧ tk f (a 31) = 58) (h_32 : a 32 ∈ Ls ∧ tk f (a 32) = 59) (h_33 : a 33 ∈ Ls ∧ tk f (a 33) = 60) (h_34 : a 34 ∈ Ls ∧ tk f (a 34) = 61) (h_35 : a 35 ∈ Ls ∧ tk f (a 35) = 62) (h_36 : a 36 ∈ Ls ∧ tk f (a 36) = 63) (h_37 : a 37 ∈ Ls ∧ tk f (a 37) = 64) (h_38 : a 38 ∈ Ls ∧ tk f (a 38) = 65) (h_39 : a 39 ∈ Ls ∧ tk f (a 39) = 66) (h_40 : a 40 ∈ Ls ∧ tk f (a 40) = 67) (h_41 : a 41 ∈ Ls ∧ tk f (a 41) = 68) (h_42 : a 42 ∈ Ls ∧ tk f (a 42) = 69) (h_43 : a 43 ∈ Ls ∧ tk f (a 43) = 70) (h_44 : a 44 ∈ Ls ∧ tk f (a 44) = 71) (h_45 : a 45 ∈ Ls ∧ tk f (a 45) = 72) (h_46 : a 46 ∈ Ls ∧ tk f (a 46) = 73) (h_47 : a 47 ∈ Ls ∧ tk f (a 47) = 74) : ∀ (j : Nat) (d : FD), slotD (cM_0 a).1 j = some d → okF Ls f d (cM_0 a) j := by
  refine ok_obj (kd := 27) (fl := FL_27) rfl rfl (fun j d hd => ?_)
  match j, hd with
  | 0, hd => cases hd; exact (show ¬ (0 : Int32) < (-2147483648) ∧ ¬ 2147483647 < (0 : Int32) from ⟨by decide +kernel, by decide +kernel⟩)
  | 1, hd => cases hd; exact (show ¬ (0 : Int32) < 0 ∧ ¬ 359999 < (0 : Int32) from ⟨by decide +kernel, by decide +kernel⟩)
  | 2, hd => cases hd; exact (show ¬ (0 : Int32) < 0 ∧ ¬ 12 < (0 : Int32) from ⟨by decide +kernel, by decide +kernel⟩)
  | 3, hd => cases hd; exact h_1
  | 4, hd => cases hd; exact (show ¬ ((-1) : Int32) < (-2147483648) ∧ ¬ 2147483647 < ((-1) : Int32) from ⟨by decide +kernel, by decide +kernel⟩)
  | 5, hd => cases hd; exact h_2
  | 6, hd => cases hd; exact h_3
  | 7, hd => cases hd; exact h_4
  | 8, hd => cases hd; exact h_5
  | 9, hd => cases hd; exact h_6
  | 10, hd => cases hd; exact h_7
  | 11, hd => cases hd; exact h_8
  | 12, hd => cases hd; exact h_9
  | 13, hd => cases hd; exact h_10
  | 14, hd => cases hd; exact h_11
  | 15, hd => cases hd; exact h_12
  | 16, hd => cases hd; exact h_13
  | 17, hd => cases hd; exact h_14
  | 18, hd => cases hd; exact h_15
  | 19, hd => cases hd; exact h_16
  | 20, hd => cases hd; exact h_17
  | 21, hd => cases hd; exact (show ¬ (0 : Int32) < 0 ∧ ¬ 20 < (0 : Int32) from ⟨by decide +kernel, by decide +kernel⟩)
  | 22, hd => cases hd; exact h_18
  | 23, hd => cases hd; exact h_19
  | 24, hd => cases hd; exact h_20
  | 25, hd => cases hd; exact h_21
  | 26, hd => cases hd; exact h_22
  | 27, hd => cases hd; exact h_23
  | 28, hd => cases hd; exact (show ¬ (0 : Int32) < 0 ∧ ¬ 400 < (0 : Int32) from ⟨by decide +kernel, by decide +kernel⟩)
  | 29, hd => cases hd; exact (show ¬ (0 : Int32) < 0 ∧ ¬ 20 < (0 : Int32) from ⟨by decide +kernel, by decide +kernel⟩)
  | 30, hd => cases hd; exact h_24
  | 31, hd => cases hd; exact h_25
  | 32, hd => cases hd; exact h_26
  | 33, hd => cases hd; exact h_27
  | 34, hd => cases hd; exact h_28
  | 35, hd => cases hd; exact h_29
  | 36, hd => cases hd; exact h_30
  | 37, hd => cases hd; exact h_31
  | 38, hd => cases hd; exact h_32
  | 39, hd => cases hd; exact h_33
  | 40, hd => cases hd; exact h_34
  | 41, hd => cases hd; exact h_35
  | 42, hd => cases hd; exact (show ¬ (0 : Int32) < 0 ∧ ¬ 400 < (0 : Int32) from ⟨by decide +kernel, by decide +kernel⟩)
  | 43, hd => cases hd; exact (show ¬ (0 : Int32) < 0 ∧ ¬ 18 < (0 : Int32) from ⟨by decide +kernel, by decide +kernel⟩)
  | 44, hd => cases hd; exact (show ¬ (0 : Int32) < 0 ∧ ¬ 400 < (0 : Int32) from ⟨by decide +kernel, by decide +kernel⟩)
  | 45, hd => cases hd; exact (show ¬ (0 : Int32) < (-2147483648) ∧ ¬ 2147483647 < (0 : Int32) from ⟨by decide +kernel, by decide +kernel⟩)
  | 46, hd => cases hd; exact (show ¬ (0 : Int32) < (-2147483648) ∧ ¬ 2147483647 < (0 : Int32) from ⟨by decide +kernel, by decide +kernel⟩)
  | 47, hd => cases hd; exact (show ¬ (0 : Int32) < 0 ∧ ¬ 600 < (0 : Int32) from ⟨by decide +kernel, by decide +kernel⟩)
  | 48, hd => cases hd; exact h_36
  | 49, hd => cases hd; exact h_37
  | 50, hd => cases hd; exact h_38
  | 51, hd => cases hd; exact h_39
  | 52, hd => cases hd; exact h_40
  | 53, hd => cases hd; exact h_41
  | 54, hd => cases hd; exact h_42
  | 55, hd => cases hd; exact h_43
  | 56, hd => cases hd; exact trivial
  | 57, hd => cases hd; exact trivial
  | 58, hd => cases hd; exact trivial
  | 59, hd => cases hd; exact h_44
  | 60, hd => cases hd; exact (show ¬ (0 : Int32) < 0 ∧ ¬ 30 < (0 : Int32) from ⟨by decide +kernel, by decide +kernel⟩)
  | 61, hd => cases hd; exact h_45
  | 62, hd => cases hd; exact h_46
  | 63, hd => cases hd; exact h_47
  | j + 64, hd => exact absurd hd (by simp [FL_27])
set_option maxRecDepth 100000 in
theorem okMan  {Ls : List Nat} {f : TF}  : ∀ (j : Nat) (d : FD), slotD (cMan).1 j = some d → okF Ls f d (cMan) j := by
  refine ok_obj (kd := 20) (fl := FL_20) rfl rfl (fun j d hd => ?_)
  match j, hd with
  | 0, hd => cases hd; exact (show ¬ (0 : Int32) < (-2147483648) ∧ ¬ 2147483647 < (0 : Int32) from ⟨by decide +kernel, by decide +kernel⟩)
  | 1, hd => cases hd; exact (rfl : true = true)
  | 2, hd => cases hd; exact (show ¬ ((-1) : Int32) < (-2147483648) ∧ ¬ 2147483647 < ((-1) : Int32) from ⟨by decide +kernel, by decide +kernel⟩)
  | 3, hd => cases hd; exact (show ¬ (0 : Int32) < (-2147483648) ∧ ¬ 2147483647 < (0 : Int32) from ⟨by decide +kernel, by decide +kernel⟩)
  | 4, hd => cases hd; exact (show ¬ (0 : Int32) < (-2147483648) ∧ ¬ 2147483647 < (0 : Int32) from ⟨by decide +kernel, by decide +kernel⟩)
  | 5, hd => cases hd; exact (show ¬ (0 : Int32) < (-2147483648) ∧ ¬ 2147483647 < (0 : Int32) from ⟨by decide +kernel, by decide +kernel⟩)
  | 6, hd => cases hd; exact (show ¬ (0 : Int32) < (-2147483648) ∧ ¬ 2147483647 < (0 : Int32) from ⟨by decide +kernel, by decide +kernel⟩)
  | 7, hd => cases hd; exact (show ¬ ((-1) : Int32) < (-2147483648) ∧ ¬ 2147483647 < ((-1) : Int32) from ⟨by decide +kernel, by decide +kernel⟩)
  | j + 8, hd => exact absurd hd (by simp [FL_20])
set_option maxHeartbeats 4000000 in
set_option maxRecDepth 100000 in
theorem start_mx {a2 a : Nat → Nat} {L : List Nat} (h : pAp (P0 a2 a L)) : (a 0 ∈ (P0 a2 a L).map Prod.fst ∧ tk (pfn (P0 a2 a L)) (a 0) = 0) ∧ (a 1 ∈ (P0 a2 a L).map Prod.fst ∧ tk (pfn (P0 a2 a L)) (a 1) = 1) ∧ (a 2 ∈ (P0 a2 a L).map Prod.fst ∧ tk (pfn (P0 a2 a L)) (a 2) = 2) ∧ (a 3 ∈ (P0 a2 a L).map Prod.fst ∧ tk (pfn (P0 a2 a L)) (a 3) = 3) ∧ (a 4 ∈ (P0 a2 a L).map Prod.fst ∧ tk (pfn (P0 a2 a L)) (a 4) = 4) ∧ (a 5 ∈ (P0 a2 a L).map Prod.fst ∧ tk (pfn (P0 a2 a L)) (a 5) = 5) ∧ (a 6 ∈ (P0 a2 a L).map Prod.fst ∧ tk (pfn (P0 a2 a L)) (a 6) = 6) ∧ (a 7 ∈ (P0 a2 a L).map Prod.fst ∧ tk (pfn (P0 a2 a L)) (a 7) = 7) ∧ (a 8 ∈ (P0 a2 a L).map Prod.fst ∧ tk (pfn (P0 a2 a L)) (a 8) = 8) ∧ (a 9 ∈ (P0 a2 a L).map Prod.fst ∧ tk (pfn (P0 a2 a L)) (a 9) = 9) ∧ (a 10 ∈ (P0 a2 a L).map Prod.fst ∧ tk (pfn (P0 a2 a L)) (a 10) = 10) ∧ (a 11 ∈ (P0 a2 a L).map Prod.fst ∧ tk (pfn (P0 a2 a L)) (a 11) = 11) ∧ (a 12 ∈ (P0 a2 a L).map Prod.fst ∧ tk (pfn (P0 a2 a L)) (a 12) = 12) ∧ (a 13 ∈ (P0 a2 a L).map Prod.fst ∧ tk (pfn (P0 a2 a L)) (a 13) = 13) ∧ (a 14 ∈ (P0 a2 a L).map Prod.fst ∧ tk (pfn (P0 a2 a L)) (a 14) = 14) ∧ (a 15 ∈ (P0 a2 a L).map Prod.fst ∧ tk (pfn (P0 a2 a L)) (a 15) = 15) ∧ (a 16 ∈ (P0 a2 a L).map Prod.fst ∧ tk (pfn (P0 a2 a L)) (a 16) = 16) ∧ (a 17 ∈ (P0 a2 a L).map Prod.fst ∧ tk (pfn (P0 a2 a L)) (a 17) = 17) ∧ (a 18 ∈ (P0 a2 a L).map Prod.fst ∧ tk (pfn (P0 a2 a L)) (a 18) = 18) := by
  refine ⟨pfn_m (c := cX_0 a L) h 48 rfl, pfn_m (c := cX_1 a L) h 49 rfl, pfn_m (c := cX_2 a L) h 50 rfl, pfn_m (c := cX_3 a L) h 51 rfl, pfn_m (c := cX_4 a L) h 52 rfl, pfn_m (c := cX_5 a L) h 53 rfl, pfn_m (c := cX_6 a L) h 54 rfl, pfn_m (c := cX_7 a L) h 55 rfl, pfn_m (c := cX_8 a L) h 56 rfl, pfn_m (c := cX_9 a L) h 57 rfl, pfn_m (c := cX_10 a L) h 58 rfl, pfn_m (c := cX_11 a L) h 59 rfl, pfn_m (c := cX_12 a L) h 60 rfl, pfn_m (c := cX_13 a L) h 61 rfl, pfn_m (c := cX_14 a L) h 62 rfl, pfn_m (c := cX_15 a L) h 63 rfl, pfn_m (c := cX_16 a L) h 64 rfl, pfn_m (c := cX_17 a L) h 65 rfl, pfn_m (c := cX_18 a L) h 66 rfl⟩
set_option maxHeartbeats 4000000 in
set_option maxRecDepth 100000 in
theorem start_mm {a2 a : Nat → Nat} {L : List Nat} (h : pAp (P0 a2 a L)) : (a2 0 ∈ (P0 a2 a L).map Prod.fst ∧ tk (pfn (P0 a2 a L)) (a2 0) = 27) ∧ (a2 1 ∈ (P0 a2 a L).map Prod.fst ∧ tk (pfn (P0 a2 a L)) (a2 1) = 28) ∧ (a2 2 ∈ (P0 a2 a L).map Prod.fst ∧ tk (pfn (P0 a2 a L)) (a2 2) = 29) ∧ (a2 3 ∈ (P0 a2 a L).map Prod.fst ∧ tk (pfn (P0 a2 a L)) (a2 3) = 30) ∧ (a2 4 ∈ (P0 a2 a L).map Prod.fst ∧ tk (pfn (P0 a2 a L)) (a2 4) = 31) ∧ (a2 5 ∈ (P0 a2 a L).map Prod.fst ∧ tk (pfn (P0 a2 a L)) (a2 5) = 32) ∧ (a2 6 ∈ (P0 a2 a L).map Prod.fst ∧ tk (pfn (P0 a2 a L)) (a2 6) = 33) ∧ (a2 7 ∈ (P0 a2 a L).map Prod.fst ∧ tk (pfn (P0 a2 a L)) (a2 7) = 34) ∧ (a2 8 ∈ (P0 a2 a L).map Prod.fst ∧ tk (pfn (P0 a2 a L)) (a2 8) = 35) ∧ (a2 9 ∈ (P0 a2 a L).map Prod.fst ∧ tk (pfn (P0 a2 a L)) (a2 9) = 36) ∧ (a2 10 ∈ (P0 a2 a L).map Prod.fst ∧ tk (pfn (P0 a2 a L)) (a2 10) = 37) ∧ (a2 11 ∈ (P0 a2 a L).map Prod.fst ∧ tk (pfn (P0 a2 a L)) (a2 11) = 38) ∧ (a2 12 ∈ (P0 a2 a L).map Prod.fst ∧ tk (pfn (P0 a2 a L)) (a2 12) = 39) ∧ (a2 13 ∈ (P0 a2 a L).map Prod.fst ∧ tk (pfn (P0 a2 a L)) (a2 13) = 40) ∧ (a2 14 ∈ (P0 a2 a L).map Prod.fst ∧ tk (pfn (P0 a2 a L)) (a2 14) = 41) ∧ (a2 15 ∈ (P0 a2 a L).map Prod.fst ∧ tk (pfn (P0 a2 a L)) (a2 15) = 42) ∧ (a2 16 ∈ (P0 a2 a L).map Prod.fst ∧ tk (pfn (P0 a2 a L)) (a2 16) = 43) ∧ (a2 17 ∈ (P0 a2 a L).map Prod.fst ∧ tk (pfn (P0 a2 a L)) (a2 17) = 44) ∧ (a2 18 ∈ (P0 a2 a L).map Prod.fst ∧ tk (pfn (P0 a2 a L)) (a2 18) = 45) ∧ (a2 19 ∈ (P0 a2 a L).map Prod.fst ∧ tk (pfn (P0 a2 a L)) (a2 19) = 46) ∧ (a2 20 ∈ (P0 a2 a L).map Prod.fst ∧ tk (pfn (P0 a2 a L)) (a2 20) = 47) ∧ (a2 21 ∈ (P0 a2 a L).map Prod.fst ∧ tk (pfn (P0 a2 a L)) (a2 21) = 48) ∧ (a2 22 ∈ (P0 a2 a L).map Prod.fst ∧ tk (pfn (P0 a2 a L)) (a2 22) = 49) ∧ (a2 23 ∈ (P0 a2 a L).map Prod.fst ∧ tk (pfn (P0 a2 a L)) (a2 23) = 50) ∧ (a2 24 ∈ (P0 a2 a L).map Prod.fst ∧ tk (pfn (P0 a2 a L)) (a2 24) = 51) ∧ (a2 25 ∈ (P0 a2 a L).map Prod.fst ∧ tk (pfn (P0 a2 a L)) (a2 25) = 52) ∧ (a2 26 ∈ (P0 a2 a L).map Prod.fst ∧ tk (pfn (P0 a2 a L)) (a2 26) = 53) ∧ (a2 27 ∈ (P0 a2 a L).map Prod.fst ∧ tk (pfn (P0 a2 a L)) (a2 27) = 54) ∧ (a2 28 ∈ (P0 a2 a L).map Prod.fst ∧ tk (pfn (P0 a2 a L)) (a2 28) = 55) ∧ (a2 29 ∈ (P0 a2 a L).map Prod.fst ∧ tk (pfn (P0 a2 a L)) (a2 29) = 56) ∧ (a2 30 ∈ (P0 a2 a L).map Prod.fst ∧ tk (pfn (P0 a2 a L)) (a2 30) = 57) ∧ (a2 31 ∈ (P0 a2 a L).map Prod.fst ∧ tk (pfn (P0 a2 a L)) (a2 31) = 58) ∧ (a2 32 ∈ (P0 a2 a L).map Prod.fst ∧ tk (pfn (P0 a2 a L)) (a2 32) = 59) ∧ (a2 33 ∈ (P0 a2 a L).map Prod.fst ∧ tk (pfn (P0 a2 a L)) (a2 33) = 60) ∧ (a2 34 ∈ (P0 a2 a L).map Prod.fst ∧ tk (pfn (P0 a2 a L)) (a2 34) = 61) ∧ (a2 35 ∈ (P0 a2 a L).map Prod.fst ∧ tk (pfn (P0 a2 a L)) (a2 35) = 62) ∧ (a2 36 ∈ (P0 a2 a L).map Prod.fst ∧ tk (pfn (P0 a2 a L)) (a2 36) = 63) ∧ (a2 37 ∈ (P0 a2 a L).map Prod.fst ∧ tk (pfn (P0 a2 a L)) (a2 37) = 64) ∧ (a2 38 ∈ (P0 a2 a L).map Prod.fst ∧ tk (pfn (P0 a2 a L)) (a2 38) = 65) ∧ (a2 39 ∈ (P0 a2 a L).map Prod.fst ∧ tk (pfn (P0 a2 a L)) (a2 39) = 66) ∧ (a2 40 ∈ (P0 a2 a L).map Prod.fst ∧ tk (pfn (P0 a2 a L)) (a2 40) = 67) ∧ (a2 41 ∈ (P0 a2 a L).map Prod.fst ∧ tk (pfn (P0 a2 a L)) (a2 41) = 68) ∧ (a2 42 ∈ (P0 a2 a L).map Prod.fst ∧ tk (pfn (P0 a2 a L)) (a2 42) = 69) ∧ (a2 43 ∈ (P0 a2 a L).map Prod.fst ∧ tk (pfn (P0 a2 a L)) (a2 43) = 70) ∧ (a2 44 ∈ (P0 a2 a L).map Prod.fst ∧ tk (pfn (P0 a2 a L)) (a2 44) = 71) ∧ (a2 45 ∈ (P0 a2 a L).map Prod.fst ∧ tk (pfn (P0 a2 a L)) (a2 45) = 72) ∧ (a2 46 ∈ (P0 a2 a L).map Prod.fst ∧ tk (pfn (P0 a2 a L)) (a2 46) = 73) ∧ (a2 47 ∈ (P0 a2 a L).map Prod.fst ∧ tk (pfn (P0 a2 a L)) (a2 47) = 74) := by
  refine ⟨pfn_m (c := cM_0 a2) h 0 rfl, pfn_m (c := cM_1 a2) h 1 rfl, pfn_m (c := cM_2 a2) h 2 rfl, pfn_m (c := cM_3 a2) h 3 rfl, pfn_m (c := cM_4 a2) h 4 rfl, pfn_m (c := cM_5 a2) h 5 rfl, pfn_m (c := cM_6 a2) h 6 rfl, pfn_m (c := cM_7 a2) h 7 rfl, pfn_m (c := cM_8 a2) h 8 rfl, pfn_m (c := cM_9 a2) h 9 rfl, pfn_m (c := cM_10 a2) h 10 rfl, pfn_m (c := cM_11 a2) h 11 rfl, pfn_m (c := cM_12 a2) h 12 rfl, pfn_m (c := cM_13 a2) h 13 rfl, pfn_m (c := cM_14 a2) h 14 rfl, pfn_m (c := cM_15 a2) h 15 rfl, pfn_m (c := cM_16 a2) h 16 rfl, pfn_m (c := cM_17 a2) h 17 rfl, pfn_m (c := cM_18 a2) h 18 rfl, pfn_m (c := cM_19 a2) h 19 rfl, pfn_m (c := cM_20 a2) h 20 rfl, pfn_m (c := cM_21 a2) h 21 rfl, pfn_m (c := cM_22 a2) h 22 rfl, pfn_m (c := cM_23 a2) h 23 rfl, pfn_m (c := cM_24 a2) h 24 rfl, pfn_m (c := cM_25 a2) h 25 rfl, pfn_m (c := cM_26 a2) h 26 rfl, pfn_m (c := cM_27 a2) h 27 rfl, pfn_m (c := cM_28 a2) h 28 rfl, pfn_m (c := cM_29 a2) h 29 rfl, pfn_m (c := cM_30 a2) h 30 rfl, pfn_m (c := cM_31 a2) h 31 rfl, pfn_m (c := cM_32 a2) h 32 rfl, pfn_m (c := cM_33 a2) h 33 rfl, pfn_m (c := cM_34 a2) h 34 rfl, pfn_m (c := cM_35 a2) h 35 rfl, pfn_m (c := cM_36 a2) h 36 rfl, pfn_m (c := cM_37 a2) h 37 rfl, pfn_m (c := cM_38 a2) h 38 rfl, pfn_m (c := cM_39 a2) h 39 rfl, pfn_m (c := cM_40 a2) h 40 rfl, pfn_m (c := cM_41 a2) h 41 rfl, pfn_m (c := cM_42 a2) h 42 rfl, pfn_m (c := cM_43 a2) h 43 rfl, pfn_m (c := cM_44 a2) h 44 rfl, pfn_m (c := cM_45 a2) h 45 rfl, pfn_m (c := cM_46 a2) h 46 rfl, pfn_m (c := cM_47 a2) h 47 rfl⟩
theorem start_man {a2 a : Nat → Nat} {L : List Nat} (h : pAp (P0 a2 a L)) {q : Nat} (hq : q ∈ L) : q ∈ (P0 a2 a L).map Prod.fst ∧ tk (pfn (P0 a2 a L)) q = 20 := by
  have hm : (q, cMan) ∈ P0 a2 a L := List.mem_append_right _ (List.mem_append_right _ (List.mem_map.mpr ⟨q, hq, rfl⟩))
  refine ⟨List.mem_map.mpr ⟨_, hm, rfl⟩, ?_⟩
  unfold tk
  rw [pfn_at h hm]
  rfl
set_option maxHeartbeats 4000000 in
set_option maxRecDepth 100000 in
theorem start_ok {a2 a : Nat → Nat} {L : List Nat} (h : pAp (P0 a2 a L)) : Ok ((P0 a2 a L).map Prod.fst) (pfn (P0 a2 a L)) := by
  obtain ⟨x_0, x_1, x_2, x_3, x_4, x_5, x_6, x_7, x_8, x_9, x_10, x_11, x_12, x_13, x_14, x_15, x_16, x_17, x_18⟩ := start_mx h
  obtain ⟨m_0, m_1, m_2, m_3, m_4, m_5, m_6, m_7, m_8, m_9, m_10, m_11, m_12, m_13, m_14, m_15, m_16, m_17, m_18, m_19, m_20, m_21, m_22, m_23, m_24, m_25, m_26, m_27, m_28, m_29, m_30, m_31, m_32, m_33, m_34, m_35, m_36, m_37, m_38, m_39, m_40, m_41, m_42, m_43, m_44, m_45, m_46, m_47⟩ := start_mm h
  refine pfn_ok h (List.forall_mem_append.mpr ⟨?_, List.forall_mem_append.mpr ⟨?_, ?_⟩⟩)
  · exact List.forall_mem_cons.mpr ⟨okM_0 m_1 m_2 m_3 m_4 m_5 m_6 m_7 m_8 m_9 m_10 m_11 m_12 m_13 m_14 m_15 m_16 m_17 m_18 m_19 m_20 m_21 m_22 m_23 m_24 m_25 m_26 m_27 m_28 m_29 m_30 m_31 m_32 m_33 m_34 m_35 m_36 m_37 m_38 m_39 m_40 m_41 m_42 m_43 m_44 m_45 m_46 m_47, List.forall_mem_cons.mpr ⟨ok_arr (kd := 28) (c := cM_1 a2) rfl rfl (fun j _ => (show ¬ (0 : Int32) < (-2147483648) ∧ ¬ 2147483647 < (0 : Int32) from ⟨by decide +kernel, by decide +kernel⟩)), List.forall_mem_cons.mpr ⟨ok_arr (kd := 29) (c := cM_2 a2) rfl rfl (fun j _ => (show ¬ (0 : Int32) < (-2147483648) ∧ ¬ 2147483647 < (0 : Int32) from ⟨by decide +kernel, by decide +kernel⟩)), List.forall_mem_cons.mpr ⟨ok_arr (kd := 30) (c := cM_3 a2) rfl rfl (fun j _ => (show ¬ (0 : Int32) < 0 ∧ ¬ 1 < (0 : Int32) from ⟨by decide +kernel, by decide +kernel⟩)), List.forall_mem_cons.mpr ⟨ok_arr (kd := 31) (c := cM_4 a2) rfl rfl (fun j _ => (show ¬ (0 : Int32) < (-2147483648) ∧ ¬ 2147483647 < (0 : Int32) from ⟨by decide +kernel, by decide +kernel⟩)), List.forall_mem_cons.mpr ⟨ok_arr (kd := 32) (c := cM_5 a2) rfl rfl (fun j _ => (show ¬ (0 : Int32) < 0 ∧ ¬ 1 < (0 : Int32) from ⟨by decide +kernel, by decide +kernel⟩)), List.forall_mem_cons.mpr ⟨ok_arr (kd := 33) (c := cM_6 a2) rfl rfl (fun j _ => (show ¬ (0 : Int32) < (-2147483648) ∧ ¬ 2147483647 < (0 : Int32) from ⟨by decide +kernel, by decide +kernel⟩)), List.forall_mem_cons.mpr ⟨ok_arr (kd := 34) (c := cM_7 a2) rfl rfl (fun j _ => (show ¬ ((-1) : Int32) < (-2147483648) ∧ ¬ 2147483647 < ((-1) : Int32) from ⟨by decide +kernel, by decide +kernel⟩)), List.forall_mem_cons.mpr ⟨ok_arr (kd := 35) (c := cM_8 a2) rfl rfl (fun j _ => (show ¬ (0 : Int32) < (-2147483648) ∧ ¬ 2147483647 < (0 : Int32) from ⟨by decide +kernel, by decide +kernel⟩)), List.forall_mem_cons.mpr ⟨ok_arr (kd := 36) (c := cM_9 a2) rfl rfl (fun j _ => (show ¬ (0 : Int32) < 0 ∧ ¬ 6 < (0 : Int32) from ⟨by decide +kernel, by decide +kernel⟩)), List.forall_mem_cons.mpr ⟨ok_arr (kd := 37) (c := cM_10 a2) rfl rfl (fun j _ => (show ¬ (0 : Int32) < (-2147483648) ∧ ¬ 2147483647 < (0 : Int32) from ⟨by decide +kernel, by decide +kernel⟩)), List.forall_mem_cons.mpr ⟨ok_arr (kd := 38) (c := cM_11 a2) rfl rfl (fun j _ => (show ¬ (0 : Int32) < (-2147483648) ∧ ¬ 2147483647 < (0 : Int32) from ⟨by decide +kernel, by decide +kernel⟩)), List.forall_mem_cons.mpr ⟨ok_arr (kd := 39) (c := cM_12 a2) rfl rfl (fun j _ => (show ¬ (0 : Int32) < (-2147483648) ∧ ¬ 2147483647 < (0 : Int32) from ⟨by decide +kernel, by decide +kernel⟩)), List.forall_mem_cons.mpr ⟨ok_arr (kd := 40) (c := cM_13 a2) rfl rfl (fun j _ => (show ¬ ((-1) : Int32) < (-2147483648) ∧ ¬ 2147483647 < ((-1) : Int32) from ⟨by decide +kernel, by decide +kernel⟩)), List.forall_mem_cons.mpr ⟨ok_arr (kd := 41) (c := cM_14 a2) rfl rfl (fun j _ => (show ¬ (0 : Int32) < (-2147483648) ∧ ¬ 2147483647 < (0 : Int32) from ⟨by decide +kernel, by decide +kernel⟩)), List.forall_mem_cons.mpr ⟨ok_arr (kd := 42) (c := cM_15 a2) rfl rfl (fun j _ => (show ¬ (0 : Int32) < 0 ∧ ¬ 1 < (0 : Int32) from ⟨by decide +kernel, by decide +kernel⟩)), List.forall_mem_cons.mpr ⟨ok_arr (kd := 43) (c := cM_16 a2) rfl rfl (fun j _ => (show ¬ (0 : Int32) < 0 ∧ ¬ 40 < (0 : Int32) from ⟨by decide +kernel, by decide +kernel⟩)), List.forall_mem_cons.mpr ⟨ok_arr (kd := 44) (c := cM_17 a2) rfl rfl (fun j _ => (show ¬ (0 : Int32) < 0 ∧ ¬ 39 < (0 : Int32) from ⟨by decide +kernel, by decide +kernel⟩)), List.forall_mem_cons.mpr ⟨ok_arr (kd := 45) (c := cM_18 a2) rfl rfl (fun j _ => (show ¬ (0 : Int32) < (-2147483648) ∧ ¬ 2147483647 < (0 : Int32) from ⟨by decide +kernel, by decide +kernel⟩)), List.forall_mem_cons.mpr ⟨ok_arr (kd := 46) (c := cM_19 a2) rfl rfl (fun j _ => (show ¬ (0 : Int32) < 0 ∧ ¬ 11 < (0 : Int32) from ⟨by decide +kernel, by decide +kernel⟩)), List.forall_mem_cons.mpr ⟨ok_arr (kd := 47) (c := cM_20 a2) rfl rfl (fun j _ => (show ¬ (0 : Int32) < (-2147483648) ∧ ¬ 2147483647 < (0 : Int32) from ⟨by decide +kernel, by decide +kernel⟩)), List.forall_mem_cons.mpr ⟨ok_arr (kd := 48) (c := cM_21 a2) rfl rfl (fun j _ => (show ¬ (0 : Int32) < (-1) ∧ ¬ 599 < (0 : Int32) from ⟨by decide +kernel, by decide +kernel⟩)), List.forall_mem_cons.mpr ⟨ok_arr (kd := 49) (c := cM_22 a2) rfl rfl (fun j _ => (show ¬ (0 : Int32) < 0 ∧ ¬ 1 < (0 : Int32) from ⟨by decide +kernel, by decide +kernel⟩)), List.forall_mem_cons.mpr ⟨ok_arr (kd := 50) (c := cM_23 a2) rfl rfl (fun j _ => (show ¬ (0 : Int32) < (-2147483648) ∧ ¬ 2147483647 < (0 : Int32) from ⟨by decide +kernel, by decide +kernel⟩)), List.forall_mem_cons.mpr ⟨ok_arr (kd := 51) (c := cM_24 a2) rfl rfl (fun j _ => (show ¬ (0 : Int32) < (-2147483648) ∧ ¬ 2147483647 < (0 : Int32) from ⟨by decide +kernel, by decide +kernel⟩)), List.forall_mem_cons.mpr ⟨ok_arr (kd := 52) (c := cM_25 a2) rfl rfl (fun j _ => (show ¬ (0 : Int32) < (-2147483648) ∧ ¬ 2147483647 < (0 : Int32) from ⟨by decide +kernel, by decide +kernel⟩)), List.forall_mem_cons.mpr ⟨ok_arr (kd := 53) (c := cM_26 a2) rfl rfl (fun j _ => (show ¬ (0 : Int32) < 0 ∧ ¬ 12 < (0 : Int32) from ⟨by decide +kernel, by decide +kernel⟩)), List.forall_mem_cons.mpr ⟨ok_arr (kd := 54) (c := cM_27 a2) rfl rfl (fun j _ => (show ¬ (0 : Int32) < (-2147483648) ∧ ¬ 2147483647 < (0 : Int32) from ⟨by decide +kernel, by decide +kernel⟩)), List.forall_mem_cons.mpr ⟨ok_arr (kd := 55) (c := cM_28 a2) rfl rfl (fun j _ => (show ¬ (0 : Int32) < (-2147483648) ∧ ¬ 2147483647 < (0 : Int32) from ⟨by decide +kernel, by decide +kernel⟩)), List.forall_mem_cons.mpr ⟨ok_arr (kd := 56) (c := cM_29 a2) rfl rfl (fun j _ => (show ¬ (0 : Int32) < (-2147483648) ∧ ¬ 2147483647 < (0 : Int32) from ⟨by decide +kernel, by decide +kernel⟩)), List.forall_mem_cons.mpr ⟨ok_arr (kd := 57) (c := cM_30 a2) rfl rfl (fun j _ => (show ¬ (0 : Int32) < 0 ∧ ¬ 12 < (0 : Int32) from ⟨by decide +kernel, by decide +kernel⟩)), List.forall_mem_cons.mpr ⟨ok_arr (kd := 58) (c := cM_31 a2) rfl rfl (fun j _ => (show ¬ (0 : Int32) < (-2147483648) ∧ ¬ 2147483647 < (0 : Int32) from ⟨by decide +kernel, by decide +kernel⟩)), List.forall_mem_cons.mpr ⟨ok_arr (kd := 59) (c := cM_32 a2) rfl rfl (fun j _ => (show ¬ (0 : Int32) < (-2147483648) ∧ ¬ 2147483647 < (0 : Int32) from ⟨by decide +kernel, by decide +kernel⟩)), List.forall_mem_cons.mpr ⟨ok_arr (kd := 60) (c := cM_33 a2) rfl rfl (fun j _ => (show ¬ (0 : Int32) < (-2147483648) ∧ ¬ 2147483647 < (0 : Int32) from ⟨by decide +kernel, by decide +kernel⟩)), List.forall_mem_cons.mpr ⟨ok_arr (kd := 61) (c := cM_34 a2) rfl rfl (fun j _ => (show ¬ (0 : Int32) < (-2147483648) ∧ ¬ 2147483647 < (0 : Int32) from ⟨by decide +kernel, by decide +kernel⟩)), List.forall_mem_cons.mpr ⟨ok_arr (kd := 62) (c := cM_35 a2) rfl rfl (fun j _ => (show ¬ (0 : Int32) < (-2147483648) ∧ ¬ 2147483647 < (0 : Int32) from ⟨by decide +kernel, by decide +kernel⟩)), List.forall_mem_cons.mpr ⟨ok_arr (kd := 63) (c := cM_36 a2) rfl rfl (fun j _ => (show ¬ (0 : Int32) < 0 ∧ ¬ 19 < (0 : Int32) from ⟨by decide +kernel, by decide +kernel⟩)), List.forall_mem_cons.mpr ⟨ok_arr (kd := 64) (c := cM_37 a2) rfl rfl (fun j _ => (show ¬ (0 : Int32) < 0 ∧ ¬ 39 < (0 : Int32) from ⟨by decide +kernel, by decide +kernel⟩)), List.forall_mem_cons.mpr ⟨ok_arr (kd := 65) (c := cM_38 a2) rfl rfl (fun j _ => (show ¬ (0 : Int32) < 0 ∧ ¬ 11 < (0 : Int32) from ⟨by decide +kernel, by decide +kernel⟩)), List.forall_mem_cons.mpr ⟨ok_arr (kd := 66) (c := cM_39 a2) rfl rfl (fun j _ => (show ¬ (0 : Int32) < 0 ∧ ¬ 11 < (0 : Int32) from ⟨by decide +kernel, by decide +kernel⟩)), List.forall_mem_cons.mpr ⟨ok_arr (kd := 67) (c := cM_40 a2) rfl rfl (fun j _ => (show ¬ (0 : Int32) < 0 ∧ ¬ 359999 < (0 : Int32) from ⟨by decide +kernel, by decide +kernel⟩)), List.forall_mem_cons.mpr ⟨ok_arr (kd := 68) (c := cM_41 a2) rfl rfl (fun j _ => (show ¬ (0 : Int32) < (-2147483648) ∧ ¬ 2147483647 < (0 : Int32) from ⟨by decide +kernel, by decide +kernel⟩)), List.forall_mem_cons.mpr ⟨ok_arr (kd := 69) (c := cM_42 a2) rfl rfl (fun j _ => (show ¬ (0 : Int32) < (-2147483648) ∧ ¬ 2147483647 < (0 : Int32) from ⟨by decide +kernel, by decide +kernel⟩)), List.forall_mem_cons.mpr ⟨ok_arr (kd := 70) (c := cM_43 a2) rfl rfl (fun j _ => (show ¬ (0 : Int32) < 0 ∧ ¬ 1 < (0 : Int32) from ⟨by decide +kernel, by decide +kernel⟩)), List.forall_mem_cons.mpr ⟨ok_arr (kd := 71) (c := cM_44 a2) rfl rfl (fun j _ => trivial), List.forall_mem_cons.mpr ⟨ok_arr (kd := 72) (c := cM_45 a2) rfl rfl (fun j _ => (show ¬ (0 : Int32) < (-2147483648) ∧ ¬ 2147483647 < (0 : Int32) from ⟨by decide +kernel, by decide +kernel⟩)), List.forall_mem_cons.mpr ⟨ok_arr (kd := 73) (c := cM_46 a2) rfl rfl (fun j _ => (show ¬ (0 : Int32) < (-2147483648) ∧ ¬ 2147483647 < (0 : Int32) from ⟨by decide +kernel, by decide +kernel⟩)), List.forall_mem_cons.mpr ⟨ok_arr (kd := 74) (c := cM_47 a2) rfl rfl (fun j _ => (show ¬ (0 : Int32) < (-2147483648) ∧ ¬ 2147483647 < (0 : Int32) from ⟨by decide +kernel, by decide +kernel⟩)), fun _ h => absurd h List.not_mem_nil⟩⟩⟩⟩⟩⟩⟩⟩⟩⟩⟩⟩⟩⟩⟩⟩⟩⟩⟩⟩⟩⟩⟩⟩⟩⟩⟩⟩⟩⟩⟩⟩⟩⟩⟩⟩⟩⟩⟩⟩⟩⟩⟩⟩⟩⟩⟩⟩
  · exact List.forall_mem_cons.mpr ⟨okX_0 (L := L) x_1 x_6 x_7 x_8 x_9 x_10 x_12 x_15, List.forall_mem_cons.mpr ⟨okX_1 (L := L) x_2 x_3 x_4 x_5, List.forall_mem_cons.mpr ⟨ok_arr (kd := 2) (c := cX_2 a L) rfl rfl (fun j _ => (show ¬ (0 : Int32) < (-2147483648) ∧ ¬ 2147483647 < (0 : Int32) from ⟨by decide +kernel, by decide +kernel⟩)), List.forall_mem_cons.mpr ⟨ok_arr (kd := 3) (c := cX_3 a L) rfl rfl (fun j _ => (show ¬ (0 : Int32) < (-2147483648) ∧ ¬ 2147483647 < (0 : Int32) from ⟨by decide +kernel, by decide +kernel⟩)), List.forall_mem_cons.mpr ⟨ok_arr (kd := 4) (c := cX_4 a L) rfl rfl (fun j _ => (rfl : true = true)), List.forall_mem_cons.mpr ⟨ok_arr (kd := 5) (c := cX_5 a L) rfl rfl (fun j _ => (show ¬ (0 : Int32) < 0 ∧ ¬ 1 < (0 : Int32) from ⟨by decide +kernel, by decide +kernel⟩)), List.forall_mem_cons.mpr ⟨ok_arr (kd := 6) (c := cX_6 a L) rfl rfl (fun j _ => by show (match L[j]? with | none => true = true | some b => b ∈ (P0 a2 a L).map Prod.fst ∧ tk (pfn (P0 a2 a L)) b = 20); cases hj : L[j]? with | none => rfl | some b => exact start_man h (List.mem_of_getElem? hj)), List.forall_mem_cons.mpr ⟨ok_arr (kd := 7) (c := cX_7 a L) rfl rfl (fun j _ => (rfl : true = true)), List.forall_mem_cons.mpr ⟨ok_arr (kd := 8) (c := cX_8 a L) rfl rfl (fun j _ => (rfl : true = true)), List.forall_mem_cons.mpr ⟨ok_arr (kd := 9) (c := cX_9 a L) rfl rfl (fun j _ => (rfl : true = true)), List.forall_mem_cons.mpr ⟨okX_10 (L := L) x_11, List.forall_mem_cons.mpr ⟨ok_arr (kd := 11) (c := cX_11 a L) rfl rfl (fun j _ => (show ¬ (0 : Int32) < (-2147483648) ∧ ¬ 2147483647 < (0 : Int32) from ⟨by decide +kernel, by decide +kernel⟩)), List.forall_mem_cons.mpr ⟨okX_12 (L := L) x_13 x_14, List.forall_mem_cons.mpr ⟨ok_arr (kd := 13) (c := cX_13 a L) rfl rfl (fun j _ => (show ¬ (0 : Int32) < (-2147483648) ∧ ¬ 2147483647 < (0 : Int32) from ⟨by decide +kernel, by decide +kernel⟩)), List.forall_mem_cons.mpr ⟨ok_arr (kd := 14) (c := cX_14 a L) rfl rfl (fun j _ => (rfl : true = true)), List.forall_mem_cons.mpr ⟨okX_15 (L := L) x_16 x_17 x_18, List.forall_mem_cons.mpr ⟨ok_arr (kd := 16) (c := cX_16 a L) rfl rfl (fun j _ => (show ¬ (0 : Int32) < (-2147483648) ∧ ¬ 2147483647 < (0 : Int32) from ⟨by decide +kernel, by decide +kernel⟩)), List.forall_mem_cons.mpr ⟨ok_arr (kd := 17) (c := cX_17 a L) rfl rfl (fun j _ => (show ¬ (0 : Int32) < (-2147483648) ∧ ¬ 2147483647 < (0 : Int32) from ⟨by decide +kernel, by decide +kernel⟩)), List.forall_mem_cons.mpr ⟨ok_arr (kd := 18) (c := cX_18 a L) rfl rfl (fun j _ => (show ¬ (0 : Int32) < (-2147483648) ∧ ¬ 2147483647 < (0 : Int32) from ⟨by decide +kernel, by decide +kernel⟩)), fun _ h => absurd h List.not_mem_nil⟩⟩⟩⟩⟩⟩⟩⟩⟩⟩⟩⟩⟩⟩⟩⟩⟩⟩⟩
  · intro p hp
    obtain ⟨q, hq, rfl⟩ := List.mem_map.mp hp
    exact okMan
def kX (ct : Nat → ClassId) : Nat → ClassId := fun j => ct (match j with | 2 => 0 | 3 => 0 | 4 => 9 | 5 => 2 | 6 => 4 | 7 => 5 | 8 => 6 | 9 => 7 | 11 => 1 | 13 => 0 | 14 => 8 | 16 => 0 | 17 => 0 | 18 => 0 | _ => 0)
def kM (ct : Nat → ClassId) : Nat → ClassId := fun j => ct (match j with | 1 => 0 | 2 => 0 | 3 => 2 | 4 => 0 | 5 => 2 | 6 => 0 | 7 => 0 | 8 => 0 | 9 => 0 | 10 => 0 | 11 => 0 | 12 => 0 | 13 => 0 | 14 => 0 | 15 => 2 | 16 => 0 | 17 => 0 | 18 => 0 | 19 => 0 | 20 => 0 | 21 => 0 | 22 => 2 | 23 => 1 | 24 => 0 | 25 => 0 | 26 => 0 | 27 => 0 | 28 => 0 | 29 => 0 | 30 => 0 | 31 => 0 | 32 => 0 | 33 => 0 | 34 => 0 | 35 => 0 | 36 => 0 | 37 => 0 | 38 => 0 | 39 => 0 | 40 => 0 | 41 => 0 | 42 => 0 | 43 => 2 | 44 => 3 | 45 => 0 | 46 => 0 | 47 => 0 | _ => 0)
theorem wX_0 {ct : Nat → ClassId} {a : Nat → Nat} {L : List Nat} : tc_e ct (cX_0 a L) = .inr (0, [.ref (a 1), .ref (a 6), .ref (a 7), .ref (a 8), .ref (a 9), .ref (a 10), .ref (a 12), .int 0, .int 0, .int 0, .int 0, .int 0, .ref (a 15)]) := rfl
theorem wX_1 {ct : Nat → ClassId} {a : Nat → Nat} {L : List Nat} : tc_e ct (cX_1 a L) = .inr (1, [.ref (a 2), .ref (a 3), .ref (a 4), .ref (a 5), .int 0, .int (-1)]) := rfl
theorem wX_2 {ct : Nat → ClassId} {a : Nat → Nat} {L : List Nat} : tc_e ct (cX_2 a L) = .inl ((kX ct 2), 12, .inl (fun _ => 0)) := rfl
theorem wX_3 {ct : Nat → ClassId} {a : Nat → Nat} {L : List Nat} : tc_e ct (cX_3 a L) = .inl ((kX ct 3), 12, .inl (fun _ => 0)) := rfl
theorem wX_4 {ct : Nat → ClassId} {a : Nat → Nat} {L : List Nat} : tc_e ct (cX_4 a L) = .inl ((kX ct 4), 500, .inr (.inr (.inr (.inr (fun _ => none))))) := rfl
theorem wX_5 {ct : Nat → ClassId} {a : Nat → Nat} {L : List Nat} : tc_e ct (cX_5 a L) = .inl ((kX ct 5), 500, .inl (fun _ => 0)) := rfl
theorem wX_6 {ct : Nat → ClassId} {a : Nat → Nat} {L : List Nat} : tc_e ct (cX_6 a L) = .inl ((kX ct 6), 40, .inr (.inr (.inr (.inr (fun j => L[j]?))))) := rfl
theorem wX_7 {ct : Nat → ClassId} {a : Nat → Nat} {L : List Nat} : tc_e ct (cX_7 a L) = .inl ((kX ct 7), 20, .inr (.inr (.inr (.inr (fun _ => none))))) := rfl
theorem wX_8 {ct : Nat → ClassId} {a : Nat → Nat} {L : List Nat} : tc_e ct (cX_8 a L) = .inl ((kX ct 8), 20, .inr (.inr (.inr (.inr (fun _ => none))))) := rfl
theorem wX_9 {ct : Nat → ClassId} {a : Nat → Nat} {L : List Nat} : tc_e ct (cX_9 a L) = .inl ((kX ct 9), 600, .inr (.inr (.inr (.inr (fun _ => none))))) := rfl
theorem wX_10 {ct : Nat → ClassId} {a : Nat → Nat} {L : List Nat} : tc_e ct (cX_10 a L) = .inr (4, [.ref (a 11), .int 0, .int 0, .int 0, .int 0, .int 0]) := rfl
theorem wX_11 {ct : Nat → ClassId} {a : Nat → Nat} {L : List Nat} : tc_e ct (cX_11 a L) = .inl ((kX ct 11), 400, .inl (fun _ => 0)) := rfl
theorem wX_12 {ct : Nat → ClassId} {a : Nat → Nat} {L : List Nat} : tc_e ct (cX_12 a L) = .inr (5, [.int 0, .int 0, .int 0, .int 0, .ref (a 13), .ref (a 14), .int 0]) := rfl
theorem wX_13 {ct : Nat → ClassId} {a : Nat → Nat} {L : List Nat} : tc_e ct (cX_13 a L) = .inl ((kX ct 13), 500, .inl (fun _ => 0)) := rfl
theorem wX_14 {ct : Nat → ClassId} {a : Nat → Nat} {L : List Nat} : tc_e ct (cX_14 a L) = .inl ((kX ct 14), 30, .inr (.inr (.inr (.inr (fun _ => none))))) := rfl
theorem wX_15 {ct : Nat → ClassId} {a : Nat → Nat} {L : List Nat} : tc_e ct (cX_15 a L) = .inr (3, [.int 0, .int 0, .ref (a 16), .ref (a 17), .ref (a 18), .int 0, .int 0, .int 0, .int 0]) := rfl
theorem wX_16 {ct : Nat → ClassId} {a : Nat → Nat} {L : List Nat} : tc_e ct (cX_16 a L) = .inl ((kX ct 16), 36, .inl (fun _ => 0)) := rfl
theorem wX_17 {ct : Nat → ClassId} {a : Nat → Nat} {L : List Nat} : tc_e ct (cX_17 a L) = .inl ((kX ct 17), 36, .inl (fun _ => 0)) := rfl
theorem wX_18 {ct : Nat → ClassId} {a : Nat → Nat} {L : List Nat} : tc_e ct (cX_18 a L) = .inl ((kX ct 18), 9, .inl (fun _ => 0)) := rfl
set_option maxHeartbeats 8000000 in
set_option maxRecDepth 100000 in
theorem wM_0 {ct : Nat → ClassId} {a : Nat → Nat} : tc_e ct (cM_0 a) = .inr (7, [.int 0, .int 0, .int 0, .ref (a 1), .int (-1), .ref (a 2), .ref (a 3), .ref (a 4), .ref (a 5), .ref (a 6), .ref (a 7), .ref (a 8), .ref (a 9), .ref (a 10), .ref (a 11), .ref (a 12), .ref (a 13), .ref (a 14), .ref (a 15), .ref (a 16), .ref (a 17), .int 0, .ref (a 18), .ref (a 19), .ref (a 20), .ref (a 21), .ref (a 22), .ref (a 23), .int 0, .int 0, .ref (a 24), .ref (a 25), .ref (a 26), .ref (a 27), .ref (a 28), .ref (a 29), .ref (a 30), .ref (a 31), .ref (a 32), .ref (a 33), .ref (a 34), .ref (a 35), .int 0, .int 0, .int 0, .int 0, .int 0, .int 0, .ref (a 36), .ref (a 37), .ref (a 38), .ref (a 39), .ref (a 40), .ref (a 41), .ref (a 42), .ref (a 43), .long 0, .long 0, .long 0, .ref (a 44), .int 0, .ref (a 45), .ref (a 46), .ref (a 47)]) := by
  rw [tc_objc (ct := ct) (c := cM_0 a) (kd := 27) (fl := FL_27) (ci := 7) rfl rfl]
  refine congrArg (fun z => (Sum.inr (7, z) : va_E)) (List.ext_getElem? (fun j => ?_))
  rw [List.getElem?_mapIdx]
  match j with
  | 0 => rfl
  | 1 => rfl
  | 2 => rfl
  | 3 => rfl
  | 4 => rfl
  | 5 => rfl
  | 6 => rfl
  | 7 => rfl
  | 8 => rfl
  | 9 => rfl
  | 10 => rfl
  | 11 => rfl
  | 12 => rfl
  | 13 => rfl
  | 14 => rfl
  | 15 => rfl
  | 16 => rfl
  | 17 => rfl
  | 18 => rfl
  | 19 => rfl
  | 20 => rfl
  | 21 => rfl
  | 22 => rfl
  | 23 => rfl
  | 24 => rfl
  | 25 => rfl
  | 26 => rfl
  | 27 => rfl
  | 28 => rfl
  | 29 => rfl
  | 30 => rfl
  | 31 => rfl
  | 32 => rfl
  | 33 => rfl
  | 34 => rfl
  | 35 => rfl
  | 36 => rfl
  | 37 => rfl
  | 38 => rfl
  | 39 => rfl
  | 40 => rfl
  | 41 => rfl
  | 42 => rfl
  | 43 => rfl
  | 44 => rfl
  | 45 => rfl
  | 46 => rfl
  | 47 => rfl
  | 48 => rfl
  | 49 => rfl
  | 50 => rfl
  | 51 => rfl
  | 52 => rfl
  | 53 => rfl
  | 54 => rfl
  | 55 => rfl
  | 56 => rfl
  | 57 => rfl
  | 58 => rfl
  | 59 => rfl
  | 60 => rfl
  | 61 => rfl
  | 62 => rfl
  | 63 => rfl
  | j + 64 => simp [FL_27]
theorem wM_1 {ct : Nat → ClassId} {a : Nat → Nat} : tc_e ct (cM_1 a) = .inl ((kM ct 1), 12, .inl (fun _ => 0)) := rfl
theorem wM_2 {ct : Nat → ClassId} {a : Nat → Nat} : tc_e ct (cM_2 a) = .inl ((kM ct 2), 12, .inl (fun _ => 0)) := rfl
theorem wM_3 {ct : Nat → ClassId} {a : Nat → Nat} : tc_e ct (cM_3 a) = .inl ((kM ct 3), 500, .inl (fun _ => 0)) := rfl
theorem wM_4 {ct : Nat → ClassId} {a : Nat → Nat} : tc_e ct (cM_4 a) = .inl ((kM ct 4), 6000, .inl (fun _ => 0)) := rfl
theorem wM_5 {ct : Nat → ClassId} {a : Nat → Nat} : tc_e ct (cM_5 a) = .inl ((kM ct 5), 500, .inl (fun _ => 0)) := rfl
theorem wM_6 {ct : Nat → ClassId} {a : Nat → Nat} : tc_e ct (cM_6 a) = .inl ((kM ct 6), 40, .inl (fun _ => 0)) := rfl
theorem wM_7 {ct : Nat → ClassId} {a : Nat → Nat} : tc_e ct (cM_7 a) = .inl ((kM ct 7), 40, .inl (fun _ => (-1))) := rfl
theorem wM_8 {ct : Nat → ClassId} {a : Nat → Nat} : tc_e ct (cM_8 a) = .inl ((kM ct 8), 40, .inl (fun _ => 0)) := rfl
theorem wM_9 {ct : Nat → ClassId} {a : Nat → Nat} : tc_e ct (cM_9 a) = .inl ((kM ct 9), 40, .inl (fun _ => 0)) := rfl
theorem wM_10 {ct : Nat → ClassId} {a : Nat → Nat} : tc_e ct (cM_10 a) = .inl ((kM ct 10), 240, .inl (fun _ => 0)) := rfl
theorem wM_11 {ct : Nat → ClassId} {a : Nat → Nat} : tc_e ct (cM_11 a) = .inl ((kM ct 11), 240, .inl (fun _ => 0)) := rfl
theorem wM_12 {ct : Nat → ClassId} {a : Nat → Nat} : tc_e ct (cM_12 a) = .inl ((kM ct 12), 40, .inl (fun _ => 0)) := rfl
theorem wM_13 {ct : Nat → ClassId} {a : Nat → Nat} : tc_e ct (cM_13 a) = .inl ((kM ct 13), 40, .inl (fun _ => (-1))) := rfl
theorem wM_14 {ct : Nat → ClassId} {a : Nat → Nat} : tc_e ct (cM_14 a) = .inl ((kM ct 14), 40, .inl (fun _ => 0)) := rfl
theorem wM_15 {ct : Nat → ClassId} {a : Nat → Nat} : tc_e ct (cM_15 a) = .inl ((kM ct 15), 40, .inl (fun _ => 0)) := rfl
theorem wM_16 {ct : Nat → ClassId} {a : Nat → Nat} : tc_e ct (cM_16 a) = .inl ((kM ct 16), 12, .inl (fun _ => 0)) := rfl
theorem wM_17 {ct : Nat → ClassId} {a : Nat → Nat} : tc_e ct (cM_17 a) = .inl ((kM ct 17), 480, .inl (fun _ => 0)) := rfl
theorem wM_18 {ct : Nat → ClassId} {a : Nat → Nat} : tc_e ct (cM_18 a) = .inl ((kM ct 18), 20, .inl (fun _ => 0)) := rfl
theorem wM_19 {ct : Nat → ClassId} {a : Nat → Nat} : tc_e ct (cM_19 a) = .inl ((kM ct 19), 20, .inl (fun _ => 0)) := rfl
theorem wM_20 {ct : Nat → ClassId} {a : Nat → Nat} : tc_e ct (cM_20 a) = .inl ((kM ct 20), 20, .inl (fun _ => 0)) := rfl
theorem wM_21 {ct : Nat → ClassId} {a : Nat → Nat} : tc_e ct (cM_21 a) = .inl ((kM ct 21), 20, .inl (fun _ => 0)) := rfl
theorem wM_22 {ct : Nat → ClassId} {a : Nat → Nat} : tc_e ct (cM_22 a) = .inl ((kM ct 22), 20, .inl (fun _ => 0)) := rfl
theorem wM_23 {ct : Nat → ClassId} {a : Nat → Nat} : tc_e ct (cM_23 a) = .inl ((kM ct 23), 400, .inl (fun _ => 0)) := rfl
theorem wM_24 {ct : Nat → ClassId} {a : Nat → Nat} : tc_e ct (cM_24 a) = .inl ((kM ct 24), 20, .inl (fun _ => 0)) := rfl
theorem wM_25 {ct : Nat → ClassId} {a : Nat → Nat} : tc_e ct (cM_25 a) = .inl ((kM ct 25), 20, .inl (fun _ => 0)) := rfl
theorem wM_26 {ct : Nat → ClassId} {a : Nat → Nat} : tc_e ct (cM_26 a) = .inl ((kM ct 26), 20, .inl (fun _ => 0)) := rfl
theorem wM_27 {ct : Nat → ClassId} {a : Nat → Nat} : tc_e ct (cM_27 a) = .inl ((kM ct 27), 240, .inl (fun _ => 0)) := rfl
theorem wM_28 {ct : Nat → ClassId} {a : Nat → Nat} : tc_e ct (cM_28 a) = .inl ((kM ct 28), 240, .inl (fun _ => 0)) := rfl
theorem wM_29 {ct : Nat → ClassId} {a : Nat → Nat} : tc_e ct (cM_29 a) = .inl ((kM ct 29), 240, .inl (fun _ => 0)) := rfl
theorem wM_30 {ct : Nat → ClassId} {a : Nat → Nat} : tc_e ct (cM_30 a) = .inl ((kM ct 30), 20, .inl (fun _ => 0)) := rfl
theorem wM_31 {ct : Nat → ClassId} {a : Nat → Nat} : tc_e ct (cM_31 a) = .inl ((kM ct 31), 240, .inl (fun _ => 0)) := rfl
theorem wM_32 {ct : Nat → ClassId} {a : Nat → Nat} : tc_e ct (cM_32 a) = .inl ((kM ct 32), 240, .inl (fun _ => 0)) := rfl
theorem wM_33 {ct : Nat → ClassId} {a : Nat → Nat} : tc_e ct (cM_33 a) = .inl ((kM ct 33), 240, .inl (fun _ => 0)) := rfl
theorem wM_34 {ct : Nat → ClassId} {a : Nat → Nat} : tc_e ct (cM_34 a) = .inl ((kM ct 34), 180, .inl (fun _ => 0)) := rfl
theorem wM_35 {ct : Nat → ClassId} {a : Nat → Nat} : tc_e ct (cM_35 a) = .inl ((kM ct 35), 20, .inl (fun _ => 0)) := rfl
theorem wM_36 {ct : Nat → ClassId} {a : Nat → Nat} : tc_e ct (cM_36 a) = .inl ((kM ct 36), 600, .inl (fun _ => 0)) := rfl
theorem wM_37 {ct : Nat → ClassId} {a : Nat → Nat} : tc_e ct (cM_37 a) = .inl ((kM ct 37), 600, .inl (fun _ => 0)) := rfl
theorem wM_38 {ct : Nat → ClassId} {a : Nat → Nat} : tc_e ct (cM_38 a) = .inl ((kM ct 38), 600, .inl (fun _ => 0)) := rfl
theorem wM_39 {ct : Nat → ClassId} {a : Nat → Nat} : tc_e ct (cM_39 a) = .inl ((kM ct 39), 600, .inl (fun _ => 0)) := rfl
theorem wM_40 {ct : Nat → ClassId} {a : Nat → Nat} : tc_e ct (cM_40 a) = .inl ((kM ct 40), 600, .inl (fun _ => 0)) := rfl
theorem wM_41 {ct : Nat → ClassId} {a : Nat → Nat} : tc_e ct (cM_41 a) = .inl ((kM ct 41), 600, .inl (fun _ => 0)) := rfl
theorem wM_42 {ct : Nat → ClassId} {a : Nat → Nat} : tc_e ct (cM_42 a) = .inl ((kM ct 42), 600, .inl (fun _ => 0)) := rfl
theorem wM_43 {ct : Nat → ClassId} {a : Nat → Nat} : tc_e ct (cM_43 a) = .inl ((kM ct 43), 600, .inl (fun _ => 0)) := rfl
theorem wM_44 {ct : Nat → ClassId} {a : Nat → Nat} : tc_e ct (cM_44 a) = .inl ((kM ct 44), 500, .inr (.inl (fun _ => 0))) := rfl
theorem wM_45 {ct : Nat → ClassId} {a : Nat → Nat} : tc_e ct (cM_45 a) = .inl ((kM ct 45), 30, .inl (fun _ => 0)) := rfl
theorem wM_46 {ct : Nat → ClassId} {a : Nat → Nat} : tc_e ct (cM_46 a) = .inl ((kM ct 46), 30, .inl (fun _ => 0)) := rfl
theorem wM_47 {ct : Nat → ClassId} {a : Nat → Nat} : tc_e ct (cM_47 a) = .inl ((kM ct 47), 30, .inl (fun _ => 0)) := rfl
theorem wMan {ct : Nat → ClassId} : tc_e ct cMan = .inr (2, manF) := rfl
set_option maxHeartbeats 4000000 in
set_option maxRecDepth 100000 in
theorem start_w {a2 a : Nat → Nat} {L : List Nat} (ct : Nat → ClassId) : (P0 a2 a L).map (fun p => (p.1, tc_e ct p.2)) = MW a2 (kM ct) ++ XW a (kX ct) L := by
  unfold P0
  rw [List.map_append, List.map_append, List.map_map]
  have h1 : (PM a2).map (fun p => (p.1, tc_e ct p.2)) = MW a2 (kM ct) := by
    unfold PM MW
    simp only [List.map_cons, List.map_nil, wM_0, wM_1, wM_2, wM_3, wM_4, wM_5, wM_6, wM_7, wM_8, wM_9, wM_10, wM_11, wM_12, wM_13, wM_14, wM_15, wM_16, wM_17, wM_18, wM_19, wM_20, wM_21, wM_22, wM_23, wM_24, wM_25, wM_26, wM_27, wM_28, wM_29, wM_30, wM_31, wM_32, wM_33, wM_34, wM_35, wM_36, wM_37, wM_38, wM_39, wM_40, wM_41, wM_42, wM_43, wM_44, wM_45, wM_46, wM_47]
  have h2 : (PX a L).map (fun p => (p.1, tc_e ct p.2)) ++ L.map ((fun p => (p.1, tc_e ct p.2)) ∘ fun q => (q, cMan)) = XW a (kX ct) L := by
    unfold PX XW va_pl
    simp only [List.map_cons, List.map_nil, wX_0, wX_1, wX_2, wX_3, wX_4, wX_5, wX_6, wX_7, wX_8, wX_9, wX_10, wX_11, wX_12, wX_13, wX_14, wX_15, wX_16, wX_17, wX_18]
    rfl
  rw [h1, h2]
theorem start_ap {A : Nat → Prop} {a2 a : Nat → Nat} {L : List Nat} {ct : Nat → ClassId} (hD : va_D A (MW a2 (kM ct) ++ XW a (kX ct) L)) : pAp (P0 a2 a L) := by
  rw [← start_w] at hD
  intro i j p q hi hj e
  exact hD.1 i j (p.1, tc_e ct p.2) (q.1, tc_e ct q.2) (by rw [List.getElem?_map, hi]; rfl) (by rw [List.getElem?_map, hj]; rfl) e
set_option maxHeartbeats 4000000 in
set_option maxRecDepth 100000 in
theorem start_k {dC : Nat → ClassId} {dI : Nat → Nat → Nat} {s : State} {k k2 : Nat → ClassId} (hKx : va_K (dC, dI) vwCl (XT k) s) (hKm : va_K (dC, dI) vwCl (MT k2) s) : ∃ ct : Nat → ClassId, va_K (dC, dI) vwCl (TT ct) s ∧ (∀ (a : Nat → Nat) (L : List Nat), XW a k L = XW a (kX ct) L) ∧ ∀ a : Nat → Nat, MW a k2 = MW a (kM ct) := by
  refine ⟨fun t => match t with | 0 => k 2 | 1 => k 11 | 2 => k 5 | 3 => k2 44 | 4 => k 6 | 5 => k 7 | 6 => k 8 | 7 => k 9 | 8 => k 14 | _ => k 4, ⟨hKx.1, ?_⟩, ?_, ?_⟩
  · intro n q hq
    match n, hq with
    | 0, hq => cases hq; exact (hKx.2 0 _ rfl)
    | 1, hq => cases hq; exact (hKx.2 8 _ rfl)
    | 2, hq => cases hq; exact (hKx.2 3 _ rfl)
    | 3, hq => cases hq; exact (hKm.2 43 _ rfl)
    | 4, hq => cases hq; exact (hKx.2 4 _ rfl)
    | 5, hq => cases hq; exact (hKx.2 5 _ rfl)
    | 6, hq => cases hq; exact (hKx.2 6 _ rfl)
    | 7, hq => cases hq; exact (hKx.2 7 _ rfl)
    | 8, hq => cases hq; exact (hKx.2 10 _ rfl)
    | 9, hq => cases hq; exact (hKx.2 2 _ rfl)
    | n + 10, hq => simp [TT] at hq
  · intro a L
    have e_3 : k 3 = k 2 := ra_eq (hKx.2 1 _ rfl).2 (hKx.2 0 _ rfl).2
    have e_13 : k 13 = k 2 := ra_eq (hKx.2 9 _ rfl).2 (hKx.2 0 _ rfl).2
    have e_16 : k 16 = k 2 := ra_eq (hKx.2 11 _ rfl).2 (hKx.2 0 _ rfl).2
    have e_17 : k 17 = k 2 := ra_eq (hKx.2 12 _ rfl).2 (hKx.2 0 _ rfl).2
    have e_18 : k 18 = k 2 := ra_eq (hKx.2 13 _ rfl).2 (hKx.2 0 _ rfl).2
    unfold XW
    simp only [kX, e_3, e_13, e_16, e_17, e_18]
  · intro a
    have e_1 : k2 1 = k 2 := ra_eq (hKm.2 0 _ rfl).2 (hKx.2 0 _ rfl).2
    have e_2 : k2 2 = k 2 := ra_eq (hKm.2 1 _ rfl).2 (hKx.2 0 _ rfl).2
    have e_3 : k2 3 = k 5 := ra_eq (hKm.2 2 _ rfl).2 (hKx.2 3 _ rfl).2
    have e_4 : k2 4 = k 2 := ra_eq (hKm.2 3 _ rfl).2 (hKx.2 0 _ rfl).2
    have e_5 : k2 5 = k 5 := ra_eq (hKm.2 4 _ rfl).2 (hKx.2 3 _ rfl).2
    have e_6 : k2 6 = k 2 := ra_eq (hKm.2 5 _ rfl).2 (hKx.2 0 _ rfl).2
    have e_7 : k2 7 = k 2 := ra_eq (hKm.2 6 _ rfl).2 (hKx.2 0 _ rfl).2
    have e_8 : k2 8 = k 2 := ra_eq (hKm.2 7 _ rfl).2 (hKx.2 0 _ rfl).2
    have e_9 : k2 9 = k 2 := ra_eq (hKm.2 8 _ rfl).2 (hKx.2 0 _ rfl).2
    have e_10 : k2 10 = k 2 := ra_eq (hKm.2 9 _ rfl).2 (hKx.2 0 _ rfl).2
    have e_11 : k2 11 = k 2 := ra_eq (hKm.2 10 _ rfl).2 (hKx.2 0 _ rfl).2
    have e_12 : k2 12 = k 2 := ra_eq (hKm.2 11 _ rfl).2 (hKx.2 0 _ rfl).2
    have e_13 : k2 13 = k 2 := ra_eq (hKm.2 12 _ rfl).2 (hKx.2 0 _ rfl).2
    have e_14 : k2 14 = k 2 := ra_eq (hKm.2 13 _ rfl).2 (hKx.2 0 _ rfl).2
    have e_15 : k2 15 = k 5 := ra_eq (hKm.2 14 _ rfl).2 (hKx.2 3 _ rfl).2
    have e_16 : k2 16 = k 2 := ra_eq (hKm.2 15 _ rfl).2 (hKx.2 0 _ rfl).2
    have e_17 : k2 17 = k 2 := ra_eq (hKm.2 16 _ rfl).2 (hKx.2 0 _ rfl).2
    have e_18 : k2 18 = k 2 := ra_eq (hKm.2 17 _ rfl).2 (hKx.2 0 _ rfl).2
    have e_19 : k2 19 = k 2 := ra_eq (hKm.2 18 _ rfl).2 (hKx.2 0 _ rfl).2
    have e_20 : k2 20 = k 2 := ra_eq (hKm.2 19 _ rfl).2 (hKx.2 0 _ rfl).2
    have e_21 : k2 21 = k 2 := ra_eq (hKm.2 20 _ rfl).2 (hKx.2 0 _ rfl).2
    have e_22 : k2 22 = k 5 := ra_eq (hKm.2 21 _ rfl).2 (hKx.2 3 _ rfl).2
    have e_23 : k2 23 = k 11 := ra_eq (hKm.2 22 _ rfl).2 (hKx.2 8 _ rfl).2
    have e_24 : k2 24 = k 2 := ra_eq (hKm.2 23 _ rfl).2 (hKx.2 0 _ rfl).2
    have e_25 : k2 25 = k 2 := ra_eq (hKm.2 24 _ rfl).2 (hKx.2 0 _ rfl).2
    have e_26 : k2 26 = k 2 := ra_eq (hKm.2 25 _ rfl).2 (hKx.2 0 _ rfl).2
    have e_27 : k2 27 = k 2 := ra_eq (hKm.2 26 _ rfl).2 (hKx.2 0 _ rfl).2
    have e_28 : k2 28 = k 2 := ra_eq (hKm.2 27 _ rfl).2 (hKx.2 0 _ rfl).2
    have e_29 : k2 29 = k 2 := ra_eq (hKm.2 28 _ rfl).2 (hKx.2 0 _ rfl).2
    have e_30 : k2 30 = k 2 := ra_eq (hKm.2 29 _ rfl).2 (hKx.2 0 _ rfl).2
    have e_31 : k2 31 = k 2 := ra_eq (hKm.2 30 _ rfl).2 (hKx.2 0 _ rfl).2
    have e_32 : k2 32 = k 2 := ra_eq (hKm.2 31 _ rfl).2 (hKx.2 0 _ rfl).2
    have e_33 : k2 33 = k 2 := ra_eq (hKm.2 32 _ rfl).2 (hKx.2 0 _ rfl).2
    have e_34 : k2 34 = k 2 := ra_eq (hKm.2 33 _ rfl).2 (hKx.2 0 _ rfl).2
    have e_35 : k2 35 = k 2 := ra_eq (hKm.2 34 _ rfl).2 (hKx.2 0 _ rfl).2
    have e_36 : k2 36 = k 2 := ra_eq (hKm.2 35 _ rfl).2 (hKx.2 0 _ rfl).2
    have e_37 : k2 37 = k 2 := ra_eq (hKm.2 36 _ rfl).2 (hKx.2 0 _ rfl).2
    have e_38 : k2 38 = k 2 := ra_eq (hKm.2 37 _ rfl).2 (hKx.2 0 _ rfl).2
    have e_39 : k2 39 = k 2 := ra_eq (hKm.2 38 _ rfl).2 (hKx.2 0 _ rfl).2
    have e_40 : k2 40 = k 2 := ra_eq (hKm.2 39 _ rfl).2 (hKx.2 0 _ rfl).2
    have e_41 : k2 41 = k 2 := ra_eq (hKm.2 40 _ rfl).2 (hKx.2 0 _ rfl).2
    have e_42 : k2 42 = k 2 := ra_eq (hKm.2 41 _ rfl).2 (hKx.2 0 _ rfl).2
    have e_43 : k2 43 = k 5 := ra_eq (hKm.2 42 _ rfl).2 (hKx.2 3 _ rfl).2
    have e_45 : k2 45 = k 2 := ra_eq (hKm.2 44 _ rfl).2 (hKx.2 0 _ rfl).2
    have e_46 : k2 46 = k 2 := ra_eq (hKm.2 45 _ rfl).2 (hKx.2 0 _ rfl).2
    have e_47 : k2 47 = k 2 := ra_eq (hKm.2 46 _ rfl).2 (hKx.2 0 _ rfl).2
    unfold MW
    simp only [kM, e_1, e_2, e_3, e_4, e_5, e_6, e_7, e_8, e_9, e_10, e_11, e_12, e_13, e_14, e_15, e_16, e_17, e_18, e_19, e_20, e_21, e_22, e_23, e_24, e_25, e_26, e_27, e_28, e_29, e_30, e_31, e_32, e_33, e_34, e_35, e_36, e_37, e_38, e_39, e_40, e_41, e_42, e_43, e_45, e_46, e_47]
set_option maxRecDepth 100000 in
theorem start_at {a2 a : Nat → Nat} {L : List Nat} (h : pAp (P0 a2 a L)) : pfn (P0 a2 a L) (a2 0) = cM_0 a2 ∧ pfn (P0 a2 a L) (a2 16) = cM_16 a2 := ⟨pfn_at h (List.mem_of_getElem? (i := 0) rfl), pfn_at h (List.mem_of_getElem? (i := 16) rfl)⟩
theorem start_t {a2 a : Nat → Nat} {L : List Nat} (h : pAp (P0 a2 a L)) : TInv (pfn (P0 a2 a L)) (a2 0) := by
  obtain ⟨h0, h1⟩ := start_at h
  intro qT qS eT eS s j k hs hjk hk
  have e1 : tr (pfn (P0 a2 a L)) (a2 0) 19 = some (a2 16) := by unfold tr; rw [h0]; rfl
  rw [e1] at eS; cases eS
  have e2 : ti (pfn (P0 a2 a L)) (a2 16) s = 0 := by unfold ti; rw [h1]; rfl
  rw [e2] at hk
  exact absurd hk (by rw [show (0 : Int32).toNatClampNeg = 0 from by decide]; omega)
