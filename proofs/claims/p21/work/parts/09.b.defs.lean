-- the coupling stands above
def LGo (p : Program) (l : Launch) (e : Env) (s : State) (m : MethodId) (below : List Frame) (meth : Method) (c : Code) (b : Nat) (dC : Nat → ClassId) (dI : Nat → Nat → Nat) (ct : Nat → ClassId) (q0 q1 i cells slots pc : Nat) : Prop := ∀ (L : List Nat) (f : TF) (H : Heap) (locs : List Loc) (ls : Array Slot), Ok L f → (q0 ∈ L ∧ tk f q0 = 0) → (q1 ∈ L ∧ tk f q1 = 27) → TInv f q1 → CplA L f q0 q1 → va_P (dC, dI) vwCl (TW ct L f) H → va_D (fun q : Nat => s.heap.size ≤ q) (TW ct L f) → va_S (fun q : Nat => s.heap.size ≤ q) s.heap H locs → lv_has ls 4 [(3, .int (nI i)), (2, .ref q1), (1, .ref q0), (0, .ref b)] → W p l e room_1 s m #[Value.ref b] below meth c H locs cells slots (lw_Z below #[Value.ref b] s) (F0 m pc ls [])
set_option maxRecDepth 100000 in
theorem start_cplL {a2 a : Nat → Nat} {L : List Nat} (h : pAp (P0 a2 a L)) : Cpl ((P0 a2 a L).map Prod.fst) (pfn (P0 a2 a L)) (a 0) (a2 0) := by
  have x0 : pfn (P0 a2 a L) (a 0) = cX_0 a L := pfn_at h (List.mem_of_getElem? (i := 48) rfl)
  have x1 : pfn (P0 a2 a L) (a 1) = cX_1 a L := pfn_at h (List.mem_of_getElem? (i := 49) rfl)
  have x2 : pfn (P0 a2 a L) (a 2) = cX_2 a L := pfn_at h (List.mem_of_getElem? (i := 50) rfl)
  have x3 : pfn (P0 a2 a L) (a 3) = cX_3 a L := pfn_at h (List.mem_of_getElem? (i := 51) rfl)
  have x4 : pfn (P0 a2 a L) (a 4) = cX_4 a L := pfn_at h (List.mem_of_getElem? (i := 52) rfl)
  have x5 : pfn (P0 a2 a L) (a 5) = cX_5 a L := pfn_at h (List.mem_of_getElem? (i := 53) rfl)
  have y0 : pfn (P0 a2 a L) (a2 0) = cM_0 a2 := pfn_at h (List.mem_of_getElem? (i := 0) rfl)
  have y1 : pfn (P0 a2 a L) (a2 1) = cM_1 a2 := pfn_at h (List.mem_of_getElem? (i := 1) rfl)
  have y2 : pfn (P0 a2 a L) (a2 2) = cM_2 a2 := pfn_at h (List.mem_of_getElem? (i := 2) rfl)
  have y3 : pfn (P0 a2 a L) (a2 3) = cM_3 a2 := pfn_at h (List.mem_of_getElem? (i := 3) rfl)
  have y4 : pfn (P0 a2 a L) (a2 4) = cM_4 a2 := pfn_at h (List.mem_of_getElem? (i := 4) rfl)
  have y5 : pfn (P0 a2 a L) (a2 5) = cM_5 a2 := pfn_at h (List.mem_of_getElem? (i := 5) rfl)
  refine ⟨fun k => if k < 27 then a k else a2 (k - 27), ⟨?_, ?_, ?_, ?_, ?_, ?_, ?_, ?_, ?_, ?_⟩, ?_, ?_, fun j => ?_, fun j => ?_, fun j => ?_, fun d hd => Or.inl ⟨?_, ?_⟩, fun d d' b hd hd' e e' => ?_⟩
  · show tr _ (a 0) 0 = some (a 1); unfold tr; rw [x0]; rfl
  · show tr _ (a 1) 0 = some (a 2); unfold tr; rw [x1]; rfl
  · show tr _ (a 1) 1 = some (a 3); unfold tr; rw [x1]; rfl
  · show tr _ (a 1) 2 = some (a 4); unfold tr; rw [x1]; rfl
  · show tr _ (a 1) 3 = some (a 5); unfold tr; rw [x1]; rfl
  · show tr _ (a2 0) 3 = some (a2 1); unfold tr; rw [y0]; rfl
  · show tr _ (a2 0) 5 = some (a2 2); unfold tr; rw [y0]; rfl
  · show tr _ (a2 0) 6 = some (a2 3); unfold tr; rw [y0]; rfl
  · show tr _ (a2 0) 7 = some (a2 4); unfold tr; rw [y0]; rfl
  · show tr _ (a2 0) 8 = some (a2 5); unfold tr; rw [y0]; rfl
  · unfold ti; rw [x0, y0]; rfl
  · show ti _ (a 1) 4 = ti _ (a2 0) 2; unfold ti; rw [x1, y0]; rfl
  · show ti _ (a 2) j = ti _ (a2 1) j; unfold ti; rw [x2, y1]; rfl
  · show ti _ (a 3) j = ti _ (a2 2) j; unfold ti; rw [x3, y2]; rfl
  · show ti _ (a 5) j = ti _ (a2 5) j; unfold ti; rw [x5, y5]; rfl
  · show tr _ (a 4) d = none; unfold tr; rw [x4]; rfl
  · show ti _ (a2 3) d = 0; unfold ti; rw [y3]; rfl
  · have : tr (pfn (P0 a2 a L)) (a 4) d = none := by unfold tr; rw [x4]; rfl
    have e1 : tr (pfn (P0 a2 a L)) (a 4) d = some b := e
    rw [this] at e1; cases e1
set_option maxRecDepth 100000 in
theorem start_cplA {a2 a : Nat → Nat} {L : List Nat} (h : pAp (P0 a2 a L)) : CplA ((P0 a2 a L).map Prod.fst) (pfn (P0 a2 a L)) (a 0) (a2 0) := by
  have x0 : pfn (P0 a2 a L) (a 0) = cX_0 a L := pfn_at h (List.mem_of_getElem? (i := 48) rfl)
  have x10 : pfn (P0 a2 a L) (a 10) = cX_10 a L := pfn_at h (List.mem_of_getElem? (i := 58) rfl)
  have x11 : pfn (P0 a2 a L) (a 11) = cX_11 a L := pfn_at h (List.mem_of_getElem? (i := 59) rfl)
  have x15 : pfn (P0 a2 a L) (a 15) = cX_15 a L := pfn_at h (List.mem_of_getElem? (i := 63) rfl)
  have y0 : pfn (P0 a2 a L) (a2 0) = cM_0 a2 := pfn_at h (List.mem_of_getElem? (i := 0) rfl)
  have y23 : pfn (P0 a2 a L) (a2 23) = cM_23 a2 := pfn_at h (List.mem_of_getElem? (i := 23) rfl)
  refine ⟨start_cplL h, ⟨a 10, a 11, a2 23, ?_, ?_, ?_, ?_, fun j => ?_⟩, 0, a 8, fun _ => a 15, fun _ => a 16, fun _ => a 17, fun _ => a 18, fun k => a2 (k - 6), by decide, ?_, ?_, ?_, ?_, fun k h1 h2 => ?_, fun i hi => ⟨?_, ?_, ?_⟩, fun i j hi hj hij => absurd (show i = j by omega) hij, fun i hi => absurd hi (by omega)⟩
  · show tr _ (a 0) 5 = some (a 10); unfold tr; rw [x0]; rfl
  · show tr _ (a 10) 0 = some (a 11); unfold tr; rw [x10]; rfl
  · show tr _ (a2 0) 27 = some (a2 23); unfold tr; rw [y0]; rfl
  · show ti _ (a 10) 1 = ti _ (a2 0) 28; unfold ti; rw [x10, y0]; rfl
  · show ti _ (a 11) j = ti _ (a2 23) j; unfold ti; rw [x11, y23]; rfl
  · show ti _ (a 0) 8 = nI 0; unfold ti; rw [x0]; rfl
  · show ti _ (a2 0) 29 = nI 0; unfold ti; rw [y0]; rfl
  · show tr _ (a 0) 3 = some (a 8); unfold tr; rw [x0]; rfl
  · show tr _ (a 0) 12 = some (a 15); unfold tr; rw [x0]; rfl
  · have hk : k = 30 ∨ k = 31 ∨ k = 32 ∨ k = 33 ∨ k = 34 ∨ k = 35 ∨ k = 36 ∨ k = 37 ∨ k = 38 ∨ k = 39 ∨ k = 40 ∨ k = 41 := by omega
    rcases hk with rfl | rfl | rfl | rfl | rfl | rfl | rfl | rfl | rfl | rfl | rfl | rfl
    · show tr _ (a2 0) 30 = some (a2 24); unfold tr; rw [y0]; rfl
    · show tr _ (a2 0) 31 = some (a2 25); unfold tr; rw [y0]; rfl
    · show tr _ (a2 0) 32 = some (a2 26); unfold tr; rw [y0]; rfl
    · show tr _ (a2 0) 33 = some (a2 27); unfold tr; rw [y0]; rfl
    · show tr _ (a2 0) 34 = some (a2 28); unfold tr; rw [y0]; rfl
    · show tr _ (a2 0) 35 = some (a2 29); unfold tr; rw [y0]; rfl
    · show tr _ (a2 0) 36 = some (a2 30); unfold tr; rw [y0]; rfl
    · show tr _ (a2 0) 37 = some (a2 31); unfold tr; rw [y0]; rfl
    · show tr _ (a2 0) 38 = some (a2 32); unfold tr; rw [y0]; rfl
    · show tr _ (a2 0) 39 = some (a2 33); unfold tr; rw [y0]; rfl
    · show tr _ (a2 0) 40 = some (a2 34); unfold tr; rw [y0]; rfl
    · show tr _ (a2 0) 41 = some (a2 35); unfold tr; rw [y0]; rfl
  · show tr _ (a 15) 2 = some (a 16); unfold tr; rw [x15]; rfl
  · show tr _ (a 15) 3 = some (a 17); unfold tr; rw [x15]; rfl
  · show tr _ (a 15) 4 = some (a 18); unfold tr; rw [x15]; rfl
