set_option maxRecDepth 100000 in
theorem sg_ex : ∀ i : Nat, i < 11 → Cond.exactly (Term.string R_Tp (SIx.getD i 0)) "java/lang/String" ∈ flatC (Jvm.Cond.and given_1 narrow_1) := by decide +kernel
set_option maxRecDepth 100000 in
theorem sg_co : ∀ i : Nat, i < 11 → Cond.eq (.field (Term.string R_Tp (SIx.getD i 0)) "java/lang/String" "coder" "B") (.int 0) ∈ flatC (Jvm.Cond.and given_1 narrow_1) := by decide +kernel
set_option maxRecDepth 100000 in
theorem sg_ar : ∀ i : Nat, i < 11 → Cond.arrayOf (.field (Term.string R_Tp (SIx.getD i 0)) "java/lang/String" "value" "[B") .byte ∈ flatC (Jvm.Cond.and given_1 narrow_1) := by decide +kernel
set_option maxRecDepth 100000 in
theorem sg_le : ∀ i : Nat, i < 11 → Cond.eq (.length (.field (Term.string R_Tp (SIx.getD i 0)) "java/lang/String" "value" "[B")) (.int (Int32.ofNat (SLen.getD i 0))) ∈ flatC (Jvm.Cond.and given_1 narrow_1) := by decide +kernel
set_option maxRecDepth 100000 in
theorem sg_el : ∀ i : Nat, i < 11 → ∀ j : Nat, j < SLen.getD i 0 → Cond.eq (.elem (.field (Term.string R_Tp (SIx.getD i 0)) "java/lang/String" "value" "[B") (.int (Int32.ofNat j))) (.int ((SByt.getD i []).getD j 0)) ∈ flatC (Jvm.Cond.and given_1 narrow_1) := by decide +kernel
set_option maxRecDepth 100000 in
theorem sg_ne : ∀ i : Nat, i < 11 → ∀ j : Nat, j < 11 → i ≠ j → (Cond.not (Cond.eq (Term.string R_Tp (SIx.getD i 0)) (Term.string R_Tp (SIx.getD j 0))) ∈ flatC (Jvm.Cond.and given_1 narrow_1) ∨ Cond.not (Cond.eq (Term.string R_Tp (SIx.getD j 0)) (Term.string R_Tp (SIx.getD i 0))) ∈ flatC (Jvm.Cond.and given_1 narrow_1)) := by decide +kernel
set_option maxRecDepth 100000 in
theorem sg_cs : Cond.eq (.static "java/lang/String" "COMPACT_STRINGS" "Z") (.int 1) ∈ flatC (Jvm.Cond.and given_1 narrow_1) := by decide +kernel
set_option maxRecDepth 100000 in
theorem sg_sf : Cond.isRef (.static "jdk/internal/util/Preconditions" "SIOOBE_FORMATTER" "Ljava/util/function/BiFunction;") ∈ flatC (Jvm.Cond.and given_1 narrow_1) := by decide +kernel
theorem sg_sr : ∀ i : Nat, i < 11 → Cond.stringRef R_Tp (SIx.getD i 0) (STx.getD i "") ∈ lw_tbl := by
  intro i hi
  match i, hi with
  | 0, _ => exact tw_t3 (List.mem_of_getElem? (i := 8) rfl)
  | 1, _ => exact tw_t3 (List.mem_of_getElem? (i := 61) rfl)
  | 2, _ => exact tw_t3 (List.mem_of_getElem? (i := 62) rfl)
  | 3, _ => exact tw_t3 (List.mem_of_getElem? (i := 63) rfl)
  | 4, _ => exact tw_t3 (List.mem_of_getElem? (i := 64) rfl)
  | 5, _ => exact tw_t3 (List.mem_of_getElem? (i := 65) rfl)
  | 6, _ => exact tw_t3 (List.mem_of_getElem? (i := 66) rfl)
  | 7, _ => exact tw_t3 (List.mem_of_getElem? (i := 67) rfl)
  | 8, _ => exact tw_t3 (List.mem_of_getElem? (i := 68) rfl)
  | 9, _ => exact tw_t3 (List.mem_of_getElem? (i := 77) rfl)
  | 10, _ => exact tw_t3 (List.mem_of_getElem? (i := 82) rfl)
theorem sg_l1 : Cond.laysStatic "java/lang/String" "COMPACT_STRINGS" "Z" ∈ lw_tbl := tw_t3 (List.mem_of_getElem? (i := 22) rfl)
theorem sg_l2 : Cond.laysStatic "jdk/internal/util/Preconditions" "SIOOBE_FORMATTER" "Ljava/util/function/BiFunction;" ∈ lw_tbl := tw_t3 (List.mem_of_getElem? (i := 38) rfl)
theorem sg_i1 : Cond.initialized "java/lang/String" ∈ lw_tbl := tw_t1 (List.mem_of_getElem? (i := 11) rfl)
theorem sg_i2 : Cond.initialized "jdk/internal/util/Preconditions" ∈ lw_tbl := tw_t1 (List.mem_of_getElem? (i := 13) rfl)
theorem sg_of {p : Program} {s : State} {m : MethodId} {meth : Method} {c : Code} {b N : Nat} {xs : Nat → Int32} (C0 : lw_At p s m meth c b N xs) : ∃ adK adV : Nat → Nat, SW adK adV (fun q : Nat => s.heap.size ≤ q) s s.heap := by
  obtain ⟨hx, hb, hr, hml, hown, hts, hX, hbl, hlocks, hgv⟩ := id C0
  have hs := flat_of_before _ hgv
  have hA : ∀ a : Nat, a < s.heap.size → ¬ (fun q : Nat => s.heap.size ≤ q) a := fun a h => Nat.not_le.mpr h
  obtain ⟨adK, adV, h1, h2⟩ := vk_Sof (args := #[Value.ref b]) (s := s) (N := 11) (tm := fun i => Term.string R_Tp (SIx.getD i 0)) (len := SLen) (byt := SByt) (A := (fun q : Nat => s.heap.size ≤ q)) (fun i hi => by have := sLn_in i hi; omega) (fun i hi => hs _ (sg_ex i hi)) (fun i hi => hs _ (sg_co i hi)) (fun i hi => hs _ (sg_ar i hi)) (fun i hi => hs _ (sg_le i hi)) (fun i hi j hj => hs _ (sg_el i hi j hj)) (fun i j hi hj hij => (sg_ne i hi j hj hij).imp (fun h => hs _ h) (fun h => hs _ h)) hA
  exact ⟨adK, adV, h1, fun i hi => vk_R.of (hts _ (sg_sr i hi)) (h2 i hi), va_Zof (hts _ sg_l1) (hts _ sg_i1) (va_eqi (hs _ sg_cs)) hA, va_Zqof (hts _ sg_l2) (hts _ sg_i2) (hs _ sg_sf) hA⟩
