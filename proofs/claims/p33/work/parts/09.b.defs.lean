-- the coupling stands above
def LGo (p : Program) (l : Launch) (e : Env) (s : State) (m : MethodId) (below : List Frame) (meth : Method) (c : Code) (b : Nat) (dC : Nat → ClassId) (dI : Nat → Nat → Nat) (ct : Nat → ClassId) (q0 q1 i j cells slots pc : Nat) : Prop := ∀ (L : List Nat) (f : TF) (H : Heap) (locs : List Loc) (ls : Array Slot), Ok L f → (q0 ∈ L ∧ tk f q0 = 0) → (q1 ∈ L ∧ tk f q1 = 27) → TInv f q1 → CplC j L f q0 q1 → va_P (dC, dI) vwCl (TW ct L f) H → va_D (fun q : Nat => s.heap.size ≤ q) (TW ct L f) → va_S (fun q : Nat => s.heap.size ≤ q) s.heap H locs → lv_has ls 4 [(3, .int (nI i)), (2, .ref q1), (1, .ref q0), (0, .ref b)] → W p l e room_1 s m #[Value.ref b] below meth c H locs cells slots (lw_Z below #[Value.ref b] s) (F0 m pc ls [])
set_option maxRecDepth 100000 in
theorem start_cplL {a2 a : Nat → Nat} {L : List Nat} (h : pAp (P0 a2 a L)) : Cpl ((P0 a2 a L).map Prod.fst) (pfn (P0 a2 a L)) (a 0) (a2 0) := by
  have x0 : pfn (P0 a2 a L) (a 0) = cX_0 a L := pfn_at h (List.mem_of_getElem? (i := 48) rfl)
  have x1 : pfn (P0 a2 a L) (a 1) = cX_1 a L := pfn_at h (List.mem_of_getElem? (i := 49) rfl)
  have x2 : pfn (P0 a2 a L) (a 2) = cX_2 a L := pfn_at h (List.mem_of_getElem? (i := 50) rfl)
  have x3 : pfn (P0 a2 a L) (a 3) = cX_3 a L := pfn_at h (List.mem_of_getElem? (i := 51) rfl)
  have x4 : pfn (P0 a2 a L) (a 4) = cX_4 a L := pfn_at h (List.mem_of_getElem? (i := 52) rfl)
  have x5 : pfn (P0 a2 a L) (a 5) = cX_5 a L := pfn_at h (List.mem_of_getElem? (i := 53) rfl)
  have y0 : pfn (P0 a2 a L) (a2 0) = cM_0 a2 := pfn_at h (List.mem_of_getElem? (i := 0) rfl)
  have y1 : pfn (P0 a2 a L) (a2 1) = cM_1 a2 := pfn_at h (List.mem_of_getElem? (i := 1) rfl)
  have y2 : pfn (P0 a2 a L) (a2 2) = cM_2 a2 := pfn_at h (List.mem_of_getElem? (i := 2) rfl)
  have y3 : pfn (P0 a2 a L) (a2 3) = cM_3 a2 := pfn_at h (List.mem_of_getElem? (i := 3) rfl)
  have y4 : pfn (P0 a2 a L) (a2 4) = cM_4 a2 := pfn_at h (List.mem_of_getElem? (i := 4) rfl)
  have y5 : pfn (P0 a2 a L) (a2 5) = cM_5 a2 := pfn_at h (List.mem_of_getElem? (i := 5) rfl)
  refine ⟨fun k => if k < 27 then a k else a2 (k - 27), ⟨?_, ?_, ?_, ?_, ?_, ?_, ?_, ?_, ?_, ?_⟩, ?_, ?_, fun j => ?_, fun j => ?_, fun j => ?_, fun d hd => Or.inl ⟨?_, ?_⟩, fun d d' b hd hd' e e' => ?_⟩
  · show tr _ (a 0) 0 = some (a 1); unfold tr; rw [x0]; rfl
  · show tr _ (a 1) 0 = some (a 2); unfold tr; rw [x1]; rfl
  · show tr _ (a 1) 1 = some (a 3); unfold tr; rw [x1]; rfl
  · show tr _ (a 1) 2 = some (a 4); unfold tr; rw [x1]; rfl
  · show tr _ (a 1) 3 = some (a 5); unfold tr; rw [x1]; rfl
  · show tr _ (a2 0) 3 = some (a2 1); unfold tr; rw [y0]; rfl
  · show tr _ (a2 0) 5 = some (a2 2); unfold tr; rw [y0]; rfl
  · show tr _ (a2 0) 6 = some (a2 3); unfold tr; rw [y0]; rfl
  · show tr _ (a2 0) 7 = some (a2 4); unfold tr; rw [y0]; rfl
  · show tr _ (a2 0) 8 = some (a2 5); unfold tr; rw [y0]; rfl
  · unfold ti; rw [x0, y0]; rfl
  · show ti _ (a 1) 4 = ti _ (a2 0) 2; unfold ti; rw [x1, y0]; rfl
  · show ti _ (a 2) j = ti _ (a2 1) j; unfold ti; rw [x2, y1]; rfl
  · show ti _ (a 3) j = ti _ (a2 2) j; unfold ti; rw [x3, y2]; rfl
  · show ti _ (a 5) j = ti _ (a2 5) j; unfold ti; rw [x5, y5]; rfl
  · show tr _ (a 4) d = none; unfold tr; rw [x4]; rfl
  · show ti _ (a2 3) d = 0; unfold ti; rw [y3]; rfl
  · have : tr (pfn (P0 a2 a L)) (a 4) d = none := by unfold tr; rw [x4]; rfl
    have e1 : tr (pfn (P0 a2 a L)) (a 4) d = some b := e
    rw [this] at e1; cases e1
set_option maxRecDepth 100000 in
theorem start_cplA {a2 a : Nat → Nat} {L : List Nat} (h : pAp (P0 a2 a L)) : CplA ((P0 a2 a L).map Prod.fst) (pfn (P0 a2 a L)) (a 0) (a2 0) := by
  have x0 : pfn (P0 a2 a L) (a 0) = cX_0 a L := pfn_at h (List.mem_of_getElem? (i := 48) rfl)
  have x10 : pfn (P0 a2 a L) (a 10) = cX_10 a L := pfn_at h (List.mem_of_getElem? (i := 58) rfl)
  have x11 : pfn (P0 a2 a L) (a 11) = cX_11 a L := pfn_at h (List.mem_of_getElem? (i := 59) rfl)
  have x15 : pfn (P0 a2 a L) (a 15) = cX_15 a L := pfn_at h (List.mem_of_getElem? (i := 63) rfl)
  have y0 : pfn (P0 a2 a L) (a2 0) = cM_0 a2 := pfn_at h (List.mem_of_getElem? (i := 0) rfl)
  have y23 : pfn (P0 a2 a L) (a2 23) = cM_23 a2 := pfn_at h (List.mem_of_getElem? (i := 23) rfl)
  refine ⟨start_cplL h, ⟨a 10, a 11, a2 23, ?_, ?_, ?_, ?_, fun j => ?_⟩, 0, a 8, fun _ => a 15, fun _ => a 16, fun _ => a 17, fun _ => a 18, fun k => a2 (k - 6), by decide, ?_, ?_, ?_, ?_, fun k h1 h2 => ?_, fun i hi => ⟨?_, ?_, ?_⟩, fun i j hi hj hij => absurd (show i = j by omega) hij, fun i hi => absurd hi (by omega)⟩
  · show tr _ (a 0) 5 = some (a 10); unfold tr; rw [x0]; rfl
  · show tr _ (a 10) 0 = some (a 11); unfold tr; rw [x10]; rfl
  · show tr _ (a2 0) 27 = some (a2 23); unfold tr; rw [y0]; rfl
  · show ti _ (a 10) 1 = ti _ (a2 0) 28; unfold ti; rw [x10, y0]; rfl
  · show ti _ (a 11) j = ti _ (a2 23) j; unfold ti; rw [x11, y23]; rfl
  · show ti _ (a 0) 8 = nI 0; unfold ti; rw [x0]; rfl
  · show ti _ (a2 0) 29 = nI 0; unfold ti; rw [y0]; rfl
  · show tr _ (a 0) 3 = some (a 8); unfold tr; rw [x0]; rfl
  · show tr _ (a 0) 12 = some (a 15); unfold tr; rw [x0]; rfl
  · have hk : k = 30 ∨ k = 31 ∨ k = 32 ∨ k = 33 ∨ k = 34 ∨ k = 35 ∨ k = 36 ∨ k = 37 ∨ k = 38 ∨ k = 39 ∨ k = 40 ∨ k = 41 := by omega
    rcases hk with rfl | rfl | rfl | rfl | rfl | rfl | rfl | rfl | rfl | rfl | rfl | rfl
    · show tr _ (a2 0) 30 = some (a2 24); unfold tr; rw [y0]; rfl
    · show tr _ (a2 0) 31 = some (a2 25); unfold tr; rw [y0]; rfl
    · show tr _ (a2 0) 32 = some (a2 26); unfold tr; rw [y0]; rfl
    · show tr _ (a2 0) 33 = some (a2 27); unfold tr; rw [y0]; rfl
    · show tr _ (a2 0) 34 = some (a2 28); unfold tr; rw [y0]; rfl
    · show tr _ (a2 0) 35 = some (a2 29); unfold tr; rw [y0]; rfl
    · show tr _ (a2 0) 36 = some (a2 30); unfold tr; rw [y0]; rfl
    · show tr _ (a2 0) 37 = some (a2 31); unfold tr; rw [y0]; rfl
    · show tr _ (a2 0) 38 = some (a2 32); unfold tr; rw [y0]; rfl
    · show tr _ (a2 0) 39 = some (a2 33); unfold tr; rw [y0]; rfl
    · show tr _ (a2 0) 40 = some (a2 34); unfold tr; rw [y0]; rfl
    · show tr _ (a2 0) 41 = some (a2 35); unfold tr; rw [y0]; rfl
  · show tr _ (a 15) 2 = some (a 16); unfold tr; rw [x15]; rfl
  · show tr _ (a 15) 3 = some (a 17); unfold tr; rw [x15]; rfl
  · show tr _ (a 15) 4 = some (a 18); unfold tr; rw [x15]; rfl
set_option maxRecDepth 100000 in
theorem start_cplB {a2 a : Nat → Nat} {L : List Nat} (h : pAp (P0 a2 a L)) : CplB ((P0 a2 a L).map Prod.fst) (pfn (P0 a2 a L)) (a 0) (a2 0) := by
  have y0 : pfn (P0 a2 a L) (a2 0) = cM_0 a2 := pfn_at h (List.mem_of_getElem? (i := 0) rfl)
  have hz : (ti (pfn (P0 a2 a L)) (a2 0) 2).toNatClampNeg = 0 := by
    unfold ti
    rw [y0]
    have e0 : (cM_0 a2).2.1 2 = 0 := rfl
    rw [e0]
    decide
  refine ⟨(start_cplA h).1, (start_cplA h).2.1, (start_cplA h).2.2, a2 1, ?_, fun i hi => ?_, fun i j _ hj => ?_⟩
  · show tr _ (a2 0) 3 = some (a2 1); unfold tr; rw [y0]; rfl
  · rw [hz] at hi; exact absurd hi (by omega)
  · rw [hz] at hj; exact absurd hj (by omega)
def adC (a2 a : Nat → Nat) (L : List Nat) (k : Nat) : Nat := if 100 ≤ k then L.getD (k - 100) 0 else if k = 64 then a 1 else if k = 65 then a 6 else if k = 66 then a 7 else if k = 67 then a 9 else if k = 68 then a 12 else if k ≤ 20 then a2 (k - 3) else if k ≤ 26 then a2 (k - 4) else a2 (k - 12)
theorem adC_m {a2 a : Nat → Nat} {L : List Nat} (m : Nat) : adC a2 a L (100 + m) = L.getD m 0 := by
  unfold adC
  rw [if_pos (by omega), show 100 + m - 100 = m by omega]
theorem p0_man {a2 a : Nat → Nat} {L : List Nat} {m : Nat} (hm : m < L.length) : (P0 a2 a L)[67 + m]? = some (L.getD m 0, cMan) := by
  have e : (P0 a2 a L) = (PM a2 ++ PX a L) ++ L.map (fun q => (q, cMan)) := by unfold P0; rw [List.append_assoc]
  have hl : (PM a2 ++ PX a L).length = 67 := rfl
  rw [e, List.getElem?_append_right (by rw [hl]; omega), hl, show 67 + m - 67 = m by omega, List.getElem?_map, List.getElem?_eq_getElem hm, List.getD_eq_getElem?_getD, List.getElem?_eq_getElem hm]
  rfl
set_option maxRecDepth 100000 in
theorem start_cplC {a2 a : Nat → Nat} {L : List Nat} (h : pAp (P0 a2 a L)) (hL : L.length = 40) : CplC 0 ((P0 a2 a L).map Prod.fst) (pfn (P0 a2 a L)) (a 0) (a2 0) := by
  have x0 : pfn (P0 a2 a L) (a 0) = cX_0 a L := pfn_at h (List.mem_of_getElem? (i := 48) rfl)
  have x1 : pfn (P0 a2 a L) (a 1) = cX_1 a L := pfn_at h (List.mem_of_getElem? (i := 49) rfl)
  have x6 : pfn (P0 a2 a L) (a 6) = cX_6 a L := pfn_at h (List.mem_of_getElem? (i := 54) rfl)
  have x12 : pfn (P0 a2 a L) (a 12) = cX_12 a L := pfn_at h (List.mem_of_getElem? (i := 60) rfl)
  have y0 : pfn (P0 a2 a L) (a2 0) = cM_0 a2 := pfn_at h (List.mem_of_getElem? (i := 0) rfl)
  have y6 : pfn (P0 a2 a L) (a2 6) = cM_6 a2 := pfn_at h (List.mem_of_getElem? (i := 6) rfl)
  have y13 : pfn (P0 a2 a L) (a2 13) = cM_13 a2 := pfn_at h (List.mem_of_getElem? (i := 13) rfl)
  have y14 : pfn (P0 a2 a L) (a2 14) = cM_14 a2 := pfn_at h (List.mem_of_getElem? (i := 14) rfl)
  have y16 : pfn (P0 a2 a L) (a2 16) = cM_16 a2 := pfn_at h (List.mem_of_getElem? (i := 16) rfl)
  have y22 : pfn (P0 a2 a L) (a2 22) = cM_22 a2 := pfn_at h (List.mem_of_getElem? (i := 22) rfl)
  have xm : ∀ m, m < 40 → pfn (P0 a2 a L) (adC a2 a L (100 + m)) = cMan := fun m hm => by
    rw [adC_m]
    exact pfn_at h (List.mem_of_getElem? (p0_man (by omega)))
  have vm : ∀ m j, m < 40 → ti (pfn (P0 a2 a L)) (adC a2 a L (100 + m)) j = cMan.2.1 j := fun m j hm => by unfold ti; rw [xm m hm]
  refine ⟨(start_cplB h).1, (start_cplB h).2.1, (start_cplB h).2.2.1, (start_cplB h).2.2.2, adC a2 a L, ⟨⟨?_, ?_, ?_, ?_, ?_⟩, fun m hm => ?_, fun m m' hm hm' e => ?_, fun k hk => ?_⟩, ⟨fun _ => 0, fun _ => 0, fun _ => 0, fun m hm => ?_, fun m hm hs => ?_, fun m m' hm hm' hne hs => ?_⟩, ⟨fun _ => [], 0, Nat.le_refl _, ?_, ⟨fun s hs m hm => absurd hm (by simp), fun m hm => Or.inl ?_, fun s hs k k' hk hk' => absurd hk' (by simp)⟩, fun s hs => ⟨Nat.zero_le _, ?_, fun k hk => absurd hk (by simp)⟩, fun s hs _ => rfl, fun s hs m hm => absurd hm (by simp)⟩, ⟨fun _ => 0, fun _ => 0, 0, 0, ⟨⟨by decide, by decide⟩, ⟨?_, ?_, ?_, ?_⟩, fun b hb => absurd hb (by omega), fun b b' hb => absurd hb (by omega), fun t ht => absurd ht (by omega), fun t t' ht => absurd ht (by omega), fun b _ _ => ?_⟩, fun b hb => absurd hb (by omega), fun m hm => ⟨?_, Or.inl ⟨?_, ?_⟩⟩, fun t ht => absurd ht (by omega)⟩, ?_, ?_, ?_⟩
  · show tr _ (a 0) 0 = some (a 1); unfold tr; rw [x0]; rfl
  · show tr _ (a 0) 1 = some (a 6); unfold tr; rw [x0]; rfl
  · show tr _ (a 0) 2 = some (a 7); unfold tr; rw [x0]; rfl
  · show tr _ (a 0) 4 = some (a 9); unfold tr; rw [x0]; rfl
  · show tr _ (a 0) 6 = some (a 12); unfold tr; rw [x0]; rfl
  · rw [adC_m]
    show tr _ (a 6) m = _
    unfold tr
    rw [x6]
    show L[m]? = _
    rw [List.getD_eq_getElem?_getD, List.getElem?_eq_getElem (by omega)]
    rfl
  · rw [adC_m, adC_m] at e
    have := h (67 + m) (67 + m') _ _ (p0_man (by omega)) (p0_man (by omega)) e
    omega
  · unfold RK at hk
    simp only [List.mem_cons, List.not_mem_nil, or_false] at hk
    rcases hk with rfl | rfl | rfl | rfl | rfl | rfl | rfl | rfl | rfl | rfl | rfl | rfl | rfl | rfl | rfl | rfl | rfl | rfl | rfl | rfl | rfl | rfl | rfl
    · show tr _ (a2 0) 9 = some (a2 6); unfold tr; rw [y0]; rfl
    · show tr _ (a2 0) 10 = some (a2 7); unfold tr; rw [y0]; rfl
    · show tr _ (a2 0) 11 = some (a2 8); unfold tr; rw [y0]; rfl
    · show tr _ (a2 0) 12 = some (a2 9); unfold tr; rw [y0]; rfl
    · show tr _ (a2 0) 13 = some (a2 10); unfold tr; rw [y0]; rfl
    · show tr _ (a2 0) 14 = some (a2 11); unfold tr; rw [y0]; rfl
    · show tr _ (a2 0) 16 = some (a2 13); unfold tr; rw [y0]; rfl
    · show tr _ (a2 0) 17 = some (a2 14); unfold tr; rw [y0]; rfl
    · show tr _ (a2 0) 19 = some (a2 16); unfold tr; rw [y0]; rfl
    · show tr _ (a2 0) 20 = some (a2 17); unfold tr; rw [y0]; rfl
    · show tr _ (a2 0) 22 = some (a2 18); unfold tr; rw [y0]; rfl
    · show tr _ (a2 0) 23 = some (a2 19); unfold tr; rw [y0]; rfl
    · show tr _ (a2 0) 24 = some (a2 20); unfold tr; rw [y0]; rfl
    · show tr _ (a2 0) 25 = some (a2 21); unfold tr; rw [y0]; rfl
    · show tr _ (a2 0) 26 = some (a2 22); unfold tr; rw [y0]; rfl
    · show tr _ (a2 0) 48 = some (a2 36); unfold tr; rw [y0]; rfl
    · show tr _ (a2 0) 49 = some (a2 37); unfold tr; rw [y0]; rfl
    · show tr _ (a2 0) 50 = some (a2 38); unfold tr; rw [y0]; rfl
    · show tr _ (a2 0) 51 = some (a2 39); unfold tr; rw [y0]; rfl
    · show tr _ (a2 0) 52 = some (a2 40); unfold tr; rw [y0]; rfl
    · show tr _ (a2 0) 53 = some (a2 41); unfold tr; rw [y0]; rfl
    · show tr _ (a2 0) 54 = some (a2 42); unfold tr; rw [y0]; rfl
    · show tr _ (a2 0) 55 = some (a2 43); unfold tr; rw [y0]; rfl
  · rw [vm m 0 hm]
    show _ = ti _ (a2 6) m
    unfold ti
    rw [y6]; rfl
  · have : ti (pfn (P0 a2 a L)) (a2 6) m = 1 := hs
    unfold ti at this
    rw [y6] at this
    exact absurd this (by show ¬ (0 : Int32) = 1; decide)
  · have : ti (pfn (P0 a2 a L)) (a2 6) m = 1 := hs
    unfold ti at this
    rw [y6] at this
    exact absurd this (by show ¬ (0 : Int32) = 1; decide)
  · show ti _ (a 0) 11 = nI 0; unfold ti; rw [x0]; rfl
  · rw [vm m 2 hm]; rfl
  · show ti _ (a2 16) s = nI 0; unfold ti; rw [y16]; rfl
  · show ti _ (a 0) 7 = nI 0; unfold ti; rw [x0]; rfl
  · show ti _ (a2 0) 21 = nI 0; unfold ti; rw [y0]; rfl
  · show ti _ (a 0) 9 = nI 0; unfold ti; rw [x0]; rfl
  · show ti _ (a2 0) 47 = nI 0; unfold ti; rw [y0]; rfl
  · show ti _ (a2 22) b = 0; unfold ti; rw [y22]; rfl
  · rw [vm m 6 hm]
    show _ = ti _ (a2 14) m
    unfold ti; rw [y14]; rfl
  · show ti _ (a2 13) m = -1; unfold ti; rw [y13]; rfl
  · rw [vm m 5 hm]
    show (0 : Int32) ≤ ti _ (a2 0) 1
    unfold ti; rw [y0]
    show (0 : Int32) ≤ 0
    decide
  · show ti _ (a 12) 6 = ti _ (a2 0) 60; unfold ti; rw [x12, y0]; rfl
  · show ti _ (a 1) 5 = ti _ (a2 0) 4; unfold ti; rw [x1, y0]; rfl
  · left; show ti _ (a2 0) 4 = -1; unfold ti; rw [y0]; rfl
