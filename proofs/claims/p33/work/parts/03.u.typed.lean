section TWA
variable {p : Program} {l : Launch} {e : Env} {R : Room} {s : State} {m : MethodId} {args : Array Value} {below : List Frame} {meth : Method} {c : Code} {H : Heap} {locs : List Loc} {cells slots : Nat} {Q : State → Prop}
variable {cc : ByteArray} {pc : Nat} {ls : Array Slot} {rest : List Value} {D : va_G} {cl : List vw_C} {A : Nat → Prop} {a : Nat} {H0 : Heap} {ct : Nat → ClassId} {L : List Nat} {f : TF} {kd : Nat}
theorem vp_in_lt {i : Int32} {n : Nat} (hin : vp_in i n) : i.toNatClampNeg < n := Nat.not_le.mp fun q => hin (Or.inr q)
theorem upd_at (g : Nat → Int32) (k : Nat) (x : Int32) : upd g k x k = x := by simp [upd]
theorem upd_off (g : Nat → Int32) {k j : Nat} (x : Int32) (h : j ≠ k) : upd g k x j = g j := by simp [upd, h]
theorem updL_at (g : Nat → Int64) (k : Nat) (x : Int64) : vp_updL g k x k = x := by simp [vp_updL]
theorem updL_off (g : Nat → Int64) {k j : Nat} (x : Int64) (h : j ≠ k) : vp_updL g k x j = g j := by simp [vp_updL, h]
theorem ok_seti {t n : Nat} {lo hi : Int32} (hO : Ok L f) (hm : a ∈ L ∧ tk f a = kd) (hkd : KDs[kd]? = some (.inr (t, n, .inl (lo, hi)))) {i : Nat} {v : Int32} (hv : ¬ v < lo ∧ ¬ hi < v) : Ok L (va_up f a ((f a).1, upd (f a).2.1 i v, (f a).2.2.1, (f a).2.2.2)) := by
  have hkk : (f a).1 = kd := hm.2
  refine ok_up hO rfl (fun j d hd => ?_)
  have hd0 := hO a hm.1 j d hd
  rw [show slotD (f a).1 j = slotD kd j by rw [hkk]] at hd
  unfold slotD at hd
  rw [hkd] at hd
  simp only at hd
  split at hd
  · cases hd
    by_cases hj : j = i
    · subst hj
      show ¬ upd _ _ _ _ < lo ∧ ¬ hi < upd _ _ _ _
      rw [upd_at]; exact hv
    · show ¬ upd _ _ _ _ < lo ∧ ¬ hi < upd _ _ _ _
      rw [upd_off _ _ hj]; exact hd0
  · cases hd
theorem ext_seti {W : List (Nat × Nat)} (hkk : (f a).1 = kd) {i : Nat} {v : Int32} (hw : ∀ j, wr W kd j = false → j ≠ i) : Ext W L f L (va_up f a ((f a).1, upd (f a).2.1 i v, (f a).2.2.1, (f a).2.2.2)) :=
  ext_up rfl (fun j hj => ⟨upd_off _ _ (hw j (by rw [← hkk]; exact hj)), rfl, rfl⟩)
theorem wr_all {k i : Nat} (j : Nat) (h : wr [(k, 1000)] k j = false) : j ≠ i := by simp [wr] at h
theorem tw_aldI (hexec : p.tables.exec = Jvm.exec) (hb : c.code = cc) (hK : va_K D cl (TT ct) s) (hP : va_P D cl (TW ct L f) H) (hO : Ok L f) (hm : a ∈ L ∧ tk f a = kd) {n : Nat} {lo hi : Int32} (hkd : KDs[kd]? = some (.inr (0, n, .inl (lo, hi)))) {i : Int32} (hin : vp_in i n) (hdg : decode cc pc = .ok (.iaload, 1))
    (kk : ∀ x : Int32, ti f a i.toNatClampNeg = x → ¬ x < lo ∧ ¬ hi < x → W p l e R s m args below meth c H locs cells slots Q (F0 m (pc + 1) ls (.int x :: rest))) : W p l e R s m args below meth c H locs cells slots Q (F0 m pc ls (.int i :: .ref a :: rest)) := by
  obtain ⟨q0, he⟩ := tw_at (ct := ct) (f := f) hm.1
  rw [tc_arr hm.2 hkd] at he
  exact va_iald hexec hb hK hP q0 0 he rfl hin hdg (kk _ rfl (hO.i hm (slot_arr hkd (vp_in_lt hin))))
theorem tw_aldxI (hexec : p.tables.exec = Jvm.exec) (hb : c.code = cc) (hK : va_K D cl (TT ct) s) (hP : va_P D cl (TW ct L f) H) {x : Int32} (hm : a ∈ L ∧ tk f a = kd) {n : Nat} {b : Int32 × Int32} (hkd : KDs[kd]? = some (.inr (0, n, .inl b))) {i : Int32} (hin : vp_in i n) (hx : ti f a i.toNatClampNeg = x) (hdg : decode cc pc = .ok (.iaload, 1))
    (kk : W p l e R s m args below meth c H locs cells slots Q (F0 m (pc + 1) ls (.int x :: rest))) : W p l e R s m args below meth c H locs cells slots Q (F0 m pc ls (.int i :: .ref a :: rest)) := by
  obtain ⟨q0, he⟩ := tw_at (ct := ct) (f := f) hm.1
  rw [tc_arr hm.2 hkd] at he
  subst hx
  exact va_iald hexec hb hK hP q0 0 he rfl hin hdg kk
theorem tw_astI (hexec : p.tables.exec = Jvm.exec) (hb : c.code = cc) (hK : va_K D cl (TT ct) s) (hP : va_P D cl (TW ct L f) H) (hD : va_D A (TW ct L f)) (hS : va_S A H0 H locs) (hO : Ok L f) (hm : a ∈ L ∧ tk f a = kd) {n : Nat} {lo hi : Int32} (hkd : KDs[kd]? = some (.inr (0, n, .inl (lo, hi)))) {i x : Int32} (hin : vp_in i n) (hv : ¬ x < lo ∧ ¬ hi < x) (hdg : decode cc pc = .ok (.iastore, 1))
    (kk : ∀ (f1 : TF) (H1 : Heap) (locs1 : List Loc), va_P D cl (TW ct L f1) H1 → va_D A (TW ct L f1) → va_S A H0 H1 locs1 → Ok L f1 → Ext [(kd, 1000)] L f L f1 → ti f1 a i.toNatClampNeg = x → (∀ j, j ≠ i.toNatClampNeg → ti f1 a j = ti f a j) → f1 = sI f a i.toNatClampNeg x → W p l e R s m args below meth c H1 locs1 cells slots Q (F0 m (pc + 1) ls rest)) : W p l e R s m args below meth c H locs cells slots Q (F0 m pc ls (.int x :: .int i :: .ref a :: rest)) := by
  have hkk : (f a).1 = kd := hm.2
  obtain ⟨q0, he⟩ := tw_at (ct := ct) (f := f) hm.1
  have he0 := he
  rw [tc_arr hm.2 hkd] at he
  refine va_iast hexec hb hK hP hD hS q0 0 he rfl hin hdg (fun H1 locs1 gP gD gS => ?_)
  have hcE : (.inl (ct 0, n, .inl (upd (f a).2.1 i.toNatClampNeg x)) : va_E) = tc_e ct ((f a).1, upd (f a).2.1 i.toNatClampNeg x, (f a).2.2.1, (f a).2.2.2) := (tc_arr (ct := ct) (c := ((f a).1, upd (f a).2.1 i.toNatClampNeg x, (f a).2.2.1, (f a).2.2.2)) hkk hkd).symm
  rw [hcE, tw_fix hD hm.1 he0] at gP gD
  exact kk _ H1 locs1 gP gD gS (ok_seti hO hm hkd hv) (ext_seti hkk wr_all) (by simp [ti, va_up, upd]) (fun j hj => by simp [ti, va_up, upd, hj]) rfl
theorem tw_aldB (hexec : p.tables.exec = Jvm.exec) (hb : c.code = cc) (hK : va_K D cl (TT ct) s) (hP : va_P D cl (TW ct L f) H) (hO : Ok L f) (hm : a ∈ L ∧ tk f a = kd) {n : Nat} {lo hi : Int32} (hkd : KDs[kd]? = some (.inr (1, n, .inl (lo, hi)))) {i : Int32} (hin : vp_in i n) (hdg : decode cc pc = .ok (.baload, 1))
    (kk : ∀ x : Int32, ti f a i.toNatClampNeg = x → ¬ x < lo ∧ ¬ hi < x → W p l e R s m args below meth c H locs cells slots Q (F0 m (pc + 1) ls (.int x :: rest))) : W p l e R s m args below meth c H locs cells slots Q (F0 m pc ls (.int i :: .ref a :: rest)) := by
  obtain ⟨q0, he⟩ := tw_at (ct := ct) (f := f) hm.1
  rw [tc_arr hm.2 hkd] at he
  exact va_bald hexec hb hK hP q0 1 he rfl hin hdg (kk _ rfl (hO.i hm (slot_arr hkd (vp_in_lt hin))))
theorem tw_aldxB (hexec : p.tables.exec = Jvm.exec) (hb : c.code = cc) (hK : va_K D cl (TT ct) s) (hP : va_P D cl (TW ct L f) H) {x : Int32} (hm : a ∈ L ∧ tk f a = kd) {n : Nat} {b : Int32 × Int32} (hkd : KDs[kd]? = some (.inr (1, n, .inl b))) {i : Int32} (hin : vp_in i n) (hx : ti f a i.toNatClampNeg = x) (hdg : decode cc pc = .ok (.baload, 1))
    (kk : W p l e R s m args below meth c H locs cells slots Q (F0 m (pc + 1) ls (.int x :: rest))) : W p l e R s m args below meth c H locs cells slots Q (F0 m pc ls (.int i :: .ref a :: rest)) := by
  obtain ⟨q0, he⟩ := tw_at (ct := ct) (f := f) hm.1
  rw [tc_arr hm.2 hkd] at he
  subst hx
  exact va_bald hexec hb hK hP q0 1 he rfl hin hdg kk
theorem tw_astB (hexec : p.tables.exec = Jvm.exec) (hb : c.code = cc) (hK : va_K D cl (TT ct) s) (hP : va_P D cl (TW ct L f) H) (hD : va_D A (TW ct L f)) (hS : va_S A H0 H locs) (hO : Ok L f) (hm : a ∈ L ∧ tk f a = kd) {n : Nat} {lo hi : Int32} (hkd : KDs[kd]? = some (.inr (1, n, .inl (lo, hi)))) {i x : Int32} (hin : vp_in i n) (hv : ¬ (vp_nar .byte x) < lo ∧ ¬ hi < (vp_nar .byte x)) (hdg : decode cc pc = .ok (.bastore, 1))
    (kk : ∀ (f1 : TF) (H1 : Heap) (locs1 : List Loc), va_P D cl (TW ct L f1) H1 → va_D A (TW ct L f1) → va_S A H0 H1 locs1 → Ok L f1 → Ext [(kd, 1000)] L f L f1 → ti f1 a i.toNatClampNeg = (vp_nar .byte x) → (∀ j, j ≠ i.toNatClampNeg → ti f1 a j = ti f a j) → f1 = sI f a i.toNatClampNeg (vp_nar .byte x) → W p l e R s m args below meth c H1 locs1 cells slots Q (F0 m (pc + 1) ls rest)) : W p l e R s m args below meth c H locs cells slots Q (F0 m pc ls (.int x :: .int i :: .ref a :: rest)) := by
  have hkk : (f a).1 = kd := hm.2
  obtain ⟨q0, he⟩ := tw_at (ct := ct) (f := f) hm.1
  have he0 := he
  rw [tc_arr hm.2 hkd] at he
  refine va_bast hexec hb hK hP hD hS q0 1 he rfl hin hdg (fun H1 locs1 gP gD gS => ?_)
  have hcE : (.inl (ct 1, n, .inl (upd (f a).2.1 i.toNatClampNeg (vp_nar .byte x))) : va_E) = tc_e ct ((f a).1, upd (f a).2.1 i.toNatClampNeg (vp_nar .byte x), (f a).2.2.1, (f a).2.2.2) := (tc_arr (ct := ct) (c := ((f a).1, upd (f a).2.1 i.toNatClampNeg (vp_nar .byte x), (f a).2.2.1, (f a).2.2.2)) hkk hkd).symm
  rw [hcE, tw_fix hD hm.1 he0] at gP gD
  exact kk _ H1 locs1 gP gD gS (ok_seti hO hm hkd hv) (ext_seti hkk wr_all) (by simp [ti, va_up, upd]) (fun j hj => by simp [ti, va_up, upd, hj]) rfl
theorem tw_aldZ (hexec : p.tables.exec = Jvm.exec) (hb : c.code = cc) (hK : va_K D cl (TT ct) s) (hP : va_P D cl (TW ct L f) H) (hO : Ok L f) (hm : a ∈ L ∧ tk f a = kd) {n : Nat} {lo hi : Int32} (hkd : KDs[kd]? = some (.inr (2, n, .inl (lo, hi)))) {i : Int32} (hin : vp_in i n) (hdg : decode cc pc = .ok (.baload, 1))
    (kk : ∀ x : Int32, ti f a i.toNatClampNeg = x → ¬ x < lo ∧ ¬ hi < x → W p l e R s m args below meth c H locs cells slots Q (F0 m (pc + 1) ls (.int x :: rest))) : W p l e R s m args below meth c H locs cells slots Q (F0 m pc ls (.int i :: .ref a :: rest)) := by
  obtain ⟨q0, he⟩ := tw_at (ct := ct) (f := f) hm.1
  rw [tc_arr hm.2 hkd] at he
  exact va_zald hexec hb hK hP q0 2 he rfl hin hdg (kk _ rfl (hO.i hm (slot_arr hkd (vp_in_lt hin))))
theorem tw_aldxZ (hexec : p.tables.exec = Jvm.exec) (hb : c.code = cc) (hK : va_K D cl (TT ct) s) (hP : va_P D cl (TW ct L f) H) {x : Int32} (hm : a ∈ L ∧ tk f a = kd) {n : Nat} {b : Int32 × Int32} (hkd : KDs[kd]? = some (.inr (2, n, .inl b))) {i : Int32} (hin : vp_in i n) (hx : ti f a i.toNatClampNeg = x) (hdg : decode cc pc = .ok (.baload, 1))
    (kk : W p l e R s m args below meth c H locs cells slots Q (F0 m (pc + 1) ls (.int x :: rest))) : W p l e R s m args below meth c H locs cells slots Q (F0 m pc ls (.int i :: .ref a :: rest)) := by
  obtain ⟨q0, he⟩ := tw_at (ct := ct) (f := f) hm.1
  rw [tc_arr hm.2 hkd] at he
  subst hx
  exact va_zald hexec hb hK hP q0 2 he rfl hin hdg kk
theorem tw_astZ (hexec : p.tables.exec = Jvm.exec) (hb : c.code = cc) (hK : va_K D cl (TT ct) s) (hP : va_P D cl (TW ct L f) H) (hD : va_D A (TW ct L f)) (hS : va_S A H0 H locs) (hO : Ok L f) (hm : a ∈ L ∧ tk f a = kd) {n : Nat} {lo hi : Int32} (hkd : KDs[kd]? = some (.inr (2, n, .inl (lo, hi)))) {i x : Int32} (hin : vp_in i n) (hv : ¬ (vp_nar .boolean x) < lo ∧ ¬ hi < (vp_nar .boolean x)) (hdg : decode cc pc = .ok (.bastore, 1))
    (kk : ∀ (f1 : TF) (H1 : Heap) (locs1 : List Loc), va_P D cl (TW ct L f1) H1 → va_D A (TW ct L f1) → va_S A H0 H1 locs1 → Ok L f1 → Ext [(kd, 1000)] L f L f1 → ti f1 a i.toNatClampNeg = (vp_nar .boolean x) → (∀ j, j ≠ i.toNatClampNeg → ti f1 a j = ti f a j) → f1 = sI f a i.toNatClampNeg (vp_nar .boolean x) → W p l e R s m args below meth c H1 locs1 cells slots Q (F0 m (pc + 1) ls rest)) : W p l e R s m args below meth c H locs cells slots Q (F0 m pc ls (.int x :: .int i :: .ref a :: rest)) := by
  have hkk : (f a).1 = kd := hm.2
  obtain ⟨q0, he⟩ := tw_at (ct := ct) (f := f) hm.1
  have he0 := he
  rw [tc_arr hm.2 hkd] at he
  refine va_zast hexec hb hK hP hD hS q0 2 he rfl hin hdg (fun H1 locs1 gP gD gS => ?_)
  have hcE : (.inl (ct 2, n, .inl (upd (f a).2.1 i.toNatClampNeg (vp_nar .boolean x))) : va_E) = tc_e ct ((f a).1, upd (f a).2.1 i.toNatClampNeg (vp_nar .boolean x), (f a).2.2.1, (f a).2.2.2) := (tc_arr (ct := ct) (c := ((f a).1, upd (f a).2.1 i.toNatClampNeg (vp_nar .boolean x), (f a).2.2.1, (f a).2.2.2)) hkk hkd).symm
  rw [hcE, tw_fix hD hm.1 he0] at gP gD
  exact kk _ H1 locs1 gP gD gS (ok_seti hO hm hkd hv) (ext_seti hkk wr_all) (by simp [ti, va_up, upd]) (fun j hj => by simp [ti, va_up, upd, hj]) rfl
theorem tw_aldJ (hexec : p.tables.exec = Jvm.exec) (hb : c.code = cc) (hK : va_K D cl (TT ct) s) (hP : va_P D cl (TW ct L f) H) (hm : a ∈ L ∧ tk f a = kd) {n : Nat} (hkd : KDs[kd]? = some (.inr (3, n, .inr (.inl ())))) {i : Int32} (hin : vp_in i n) (hdg : decode cc pc = .ok (.laload, 1))
    (kk : ∀ x : Int64, tl f a i.toNatClampNeg = x → W p l e R s m args below meth c H locs cells slots Q (F0 m (pc + 1) ls (.long x :: rest))) : W p l e R s m args below meth c H locs cells slots Q (F0 m pc ls (.int i :: .ref a :: rest)) := by
  obtain ⟨q0, he⟩ := tw_at (ct := ct) (f := f) hm.1
  rw [tc_arr hm.2 hkd] at he
  exact va_lald hexec hb hK hP q0 3 he rfl hin hdg (kk _ rfl)
theorem tw_astJ (hexec : p.tables.exec = Jvm.exec) (hb : c.code = cc) (hK : va_K D cl (TT ct) s) (hP : va_P D cl (TW ct L f) H) (hD : va_D A (TW ct L f)) (hS : va_S A H0 H locs) (hO : Ok L f) (hm : a ∈ L ∧ tk f a = kd) {n : Nat} (hkd : KDs[kd]? = some (.inr (3, n, .inr (.inl ())))) {i : Int32} {x : Int64} (hin : vp_in i n) (hdg : decode cc pc = .ok (.lastore, 1))
    (kk : ∀ (f1 : TF) (H1 : Heap) (locs1 : List Loc), va_P D cl (TW ct L f1) H1 → va_D A (TW ct L f1) → va_S A H0 H1 locs1 → Ok L f1 → Ext [(kd, 1000)] L f L f1 → tl f1 a i.toNatClampNeg = x → (∀ j, j ≠ i.toNatClampNeg → tl f1 a j = tl f a j) → f1 = sL f a i.toNatClampNeg x → W p l e R s m args below meth c H1 locs1 cells slots Q (F0 m (pc + 1) ls rest)) : W p l e R s m args below meth c H locs cells slots Q (F0 m pc ls (.long x :: .int i :: .ref a :: rest)) := by
  have hkk : (f a).1 = kd := hm.2
  obtain ⟨q0, he⟩ := tw_at (ct := ct) (f := f) hm.1
  have he0 := he
  rw [tc_arr hm.2 hkd] at he
  refine va_last hexec hb hK hP hD hS q0 3 he rfl hin hdg (fun H1 locs1 gP gD gS => ?_)
  have hcE : (.inl (ct 3, n, .inr (.inl (vp_updL (f a).2.2.1 i.toNatClampNeg x))) : va_E) = tc_e ct ((f a).1, (f a).2.1, vp_updL (f a).2.2.1 i.toNatClampNeg x, (f a).2.2.2) := (tc_arr (ct := ct) (c := ((f a).1, (f a).2.1, vp_updL (f a).2.2.1 i.toNatClampNeg x, (f a).2.2.2)) hkk hkd).symm
  rw [hcE, tw_fix hD hm.1 he0] at gP gD
  refine kk _ H1 locs1 gP gD gS (ok_up hO rfl (fun j d hd => ?_)) (ext_up rfl (fun j hj => ⟨rfl, updL_off _ _ (by rw [hkk] at hj; exact wr_all j hj), rfl⟩)) (by simp [tl, va_up, vp_updL]) (fun j hj => by simp [tl, va_up, vp_updL, hj]) rfl
  have hd0 := hO a hm.1 j d hd
  match d with
  | .inl b => exact hd0
  | .inr (.inl _) => trivial
  | .inr (.inr q) => exact hd0
theorem tw_aldq (hexec : p.tables.exec = Jvm.exec) (hb : c.code = cc) (hK : va_K D cl (TT ct) s) (hP : va_P D cl (TW ct L f) H) (hO : Ok L f) (hm : a ∈ L ∧ tk f a = kd) {t n k' : Nat} {C : String} (hkd : KDs[kd]? = some (.inr (t, n, .inr (.inr (k', true))))) (hC : (TT ct)[t]? = some (ct t, .object C)) {i : Int32} (hin : vp_in i n) (hdg : decode cc pc = .ok (.aaload, 1))
    (kn : tr f a i.toNatClampNeg = none → W p l e R s m args below meth c H locs cells slots Q (F0 m (pc + 1) ls (.null :: rest)))
    (kk : ∀ b : Nat, tr f a i.toNatClampNeg = some b → b ∈ L ∧ tk f b = k' → W p l e R s m args below meth c H locs cells slots Q (F0 m (pc + 1) ls (.ref b :: rest))) : W p l e R s m args below meth c H locs cells slots Q (F0 m pc ls (.int i :: .ref a :: rest)) := by
  obtain ⟨q0, he⟩ := tw_at (ct := ct) (f := f) hm.1
  rw [tc_arr hm.2 hkd] at he
  refine va_aldq hexec hb hK hP q0 t he hC hin hdg ?_
  rcases hO.q hm (slot_arr hkd (vp_in_lt hin)) with ⟨h, -⟩ | ⟨b, h1, h2⟩
  · have := kn h
    rw [show va_rf ((f a).2.2.2 i.toNatClampNeg) = .null from congrArg va_rf h]
    exact this
  · have := kk b h1 h2
    rw [show va_rf ((f a).2.2.2 i.toNatClampNeg) = .ref b from congrArg va_rf h1]
    exact this
theorem tw_aldA (hexec : p.tables.exec = Jvm.exec) (hb : c.code = cc) (hK : va_K D cl (TT ct) s) (hP : va_P D cl (TW ct L f) H) (hO : Ok L f) (hm : a ∈ L ∧ tk f a = kd) {t n k' : Nat} {C : FieldType} (hkd : KDs[kd]? = some (.inr (t, n, .inr (.inr (k', true))))) (hC : (TT ct)[t]? = some (ct t, .array C)) {i : Int32} (hin : vp_in i n) (hdg : decode cc pc = .ok (.aaload, 1))
    (kn : tr f a i.toNatClampNeg = none → W p l e R s m args below meth c H locs cells slots Q (F0 m (pc + 1) ls (.null :: rest)))
    (kk : ∀ b : Nat, tr f a i.toNatClampNeg = some b → b ∈ L ∧ tk f b = k' → W p l e R s m args below meth c H locs cells slots Q (F0 m (pc + 1) ls (.ref b :: rest))) : W p l e R s m args below meth c H locs cells slots Q (F0 m pc ls (.int i :: .ref a :: rest)) := by
  obtain ⟨q0, he⟩ := tw_at (ct := ct) (f := f) hm.1
  rw [tc_arr hm.2 hkd] at he
  refine va_aldA hexec hb hK hP q0 t he hC hin hdg ?_
  rcases hO.q hm (slot_arr hkd (vp_in_lt hin)) with ⟨h, -⟩ | ⟨b, h1, h2⟩
  · have := kn h
    rw [show va_rf ((f a).2.2.2 i.toNatClampNeg) = .null from congrArg va_rf h]
    exact this
  · have := kk b h1 h2
    rw [show va_rf ((f a).2.2.2 i.toNatClampNeg) = .ref b from congrArg va_rf h1]
    exact this
theorem ok_setr {t n k' : Nat} {nu : Bool} (hO : Ok L f) (hm : a ∈ L ∧ tk f a = kd) (hkd : KDs[kd]? = some (.inr (t, n, .inr (.inr (k', nu))))) {i b : Nat} (hv : b ∈ L ∧ tk f b = k') : Ok L (va_up f a ((f a).1, (f a).2.1, (f a).2.2.1, va_up (f a).2.2.2 i (some b))) := by
  have hkk : (f a).1 = kd := hm.2
  refine ok_up hO rfl (fun j d hd => ?_)
  have hd0 := hO a hm.1 j d hd
  rw [show slotD (f a).1 j = slotD kd j by rw [hkk]] at hd
  unfold slotD at hd
  rw [hkd] at hd
  simp only at hd
  split at hd
  · cases hd
    by_cases hj : j = i
    · subst hj
      simp only [okF, va_up_self]; exact hv
    · simpa [okF, va_up, hj] using hd0
  · cases hd
theorem tw_astq (hexec : p.tables.exec = Jvm.exec) (hb : c.code = cc) (hK : va_K D cl (TT ct) s) (hP : va_P D cl (TW ct L f) H) (hD : va_D A (TW ct L f)) (hS : va_S A H0 H locs) (hO : Ok L f) (hm : a ∈ L ∧ tk f a = kd) {t n k' ci b : Nat} {r : vw_C} {fl : List FD} {nu : Bool} (hkd : KDs[kd]? = some (.inr (t, n, .inr (.inr (k', nu))))) (hC : (TT ct)[t]? = some (ct t, .object r.1)) (hv : b ∈ L ∧ tk f b = k') (hkv : KDs[k']? = some (.inl (ci, fl))) (hc : cl[ci]? = some r) {i : Int32} (hin : vp_in i n) (hdg : decode cc pc = .ok (.aastore, 1))
    (kk : ∀ (f1 : TF) (H1 : Heap) (locs1 : List Loc), va_P D cl (TW ct L f1) H1 → va_D A (TW ct L f1) → va_S A H0 H1 locs1 → Ok L f1 → Ext [(kd, 1000)] L f L f1 → tr f1 a i.toNatClampNeg = some b → f1 = sR f a i.toNatClampNeg b → W p l e R s m args below meth c H1 locs1 cells slots Q (F0 m (pc + 1) ls rest)) : W p l e R s m args below meth c H locs cells slots Q (F0 m pc ls (.ref b :: .int i :: .ref a :: rest)) := by
  have hkk : (f a).1 = kd := hm.2
  obtain ⟨q0, he⟩ := tw_at (ct := ct) (f := f) hm.1
  have he0 := he
  rw [tc_arr hm.2 hkd] at he
  obtain ⟨qk, hev⟩ := tw_at (ct := ct) (f := f) hv.1
  rw [tc_obj hv.2 hkv] at hev
  refine va_astq hexec hb hK hP hD hS q0 t qk ci he hC hev hc hin hdg (fun H1 locs1 gP gD gS => ?_)
  have hcE : (.inl (ct t, n, .inr (.inr (.inr (.inr (va_up (f a).2.2.2 i.toNatClampNeg (some b)))))) : va_E) = tc_e ct ((f a).1, (f a).2.1, (f a).2.2.1, va_up (f a).2.2.2 i.toNatClampNeg (some b)) := (tc_arr (ct := ct) (c := ((f a).1, (f a).2.1, (f a).2.2.1, va_up (f a).2.2.2 i.toNatClampNeg (some b))) hkk hkd).symm
  rw [hcE, tw_fix hD hm.1 he0] at gP gD
  exact kk _ H1 locs1 gP gD gS (ok_setr hO hm hkd hv) (ext_up rfl (fun j hj => ⟨rfl, rfl, va_up_ne _ _ (by rw [hkk] at hj; exact wr_all j hj)⟩)) (by simp [tr, va_up]) rfl
theorem tw_astA (hexec : p.tables.exec = Jvm.exec) (hb : c.code = cc) (hK : va_K D cl (TT ct) s) (hP : va_P D cl (TW ct L f) H) (hD : va_D A (TW ct L f)) (hS : va_S A H0 H locs) (hover : (Cond.arrayOver (.array .int)).before args s = true) (hO : Ok L f) (hm : a ∈ L ∧ tk f a = kd) {n n2 k' b : Nat} {e2 : FD} {nu : Bool} (hkd : KDs[kd]? = some (.inr (9, n, .inr (.inr (k', nu))))) (hv : b ∈ L ∧ tk f b = k') (hkv : KDs[k']? = some (.inr (0, n2, e2))) {i : Int32} (hin : vp_in i n) (hdg : decode cc pc = .ok (.aastore, 1))
    (kk : ∀ (f1 : TF) (H1 : Heap) (locs1 : List Loc), va_P D cl (TW ct L f1) H1 → va_D A (TW ct L f1) → va_S A H0 H1 locs1 → Ok L f1 → Ext [(kd, 1000)] L f L f1 → tr f1 a i.toNatClampNeg = some b → f1 = sR f a i.toNatClampNeg b → W p l e R s m args below meth c H1 locs1 cells slots Q (F0 m (pc + 1) ls rest)) : W p l e R s m args below meth c H locs cells slots Q (F0 m pc ls (.ref b :: .int i :: .ref a :: rest)) := by
  have hkk : (f a).1 = kd := hm.2
  obtain ⟨q0, he⟩ := tw_at (ct := ct) (f := f) hm.1
  have he0 := he
  rw [tc_arr hm.2 hkd] at he
  obtain ⟨qk, hev⟩ := tw_at (ct := ct) (f := f) hv.1
  rw [tc_arr hv.2 hkv] at hev
  refine va_astA hexec hb hover hK hP hD hS q0 9 qk 0 he rfl hev rfl hin hdg (fun H1 locs1 gP gD gS => ?_)
  have hcE : (.inl (ct 9, n, .inr (.inr (.inr (.inr (va_up (f a).2.2.2 i.toNatClampNeg (some b)))))) : va_E) = tc_e ct ((f a).1, (f a).2.1, (f a).2.2.1, va_up (f a).2.2.2 i.toNatClampNeg (some b)) := (tc_arr (ct := ct) (c := ((f a).1, (f a).2.1, (f a).2.2.1, va_up (f a).2.2.2 i.toNatClampNeg (some b))) hkk hkd).symm
  rw [hcE, tw_fix hD hm.1 he0] at gP gD
  exact kk _ H1 locs1 gP gD gS (ok_setr hO hm hkd hv) (ext_up rfl (fun j hj => ⟨rfl, rfl, va_up_ne _ _ (by rw [hkk] at hj; exact wr_all j hj)⟩)) (by simp [tr, va_up]) rfl
theorem tw_push {q : Nat} {cN : TC} (hq : q ∉ L) : TW ct L f ++ [(q, tc_e ct cN)] = TW ct (L ++ [q]) (va_up f q cN) := by
  unfold TW
  rw [va_pl_push hq]
  apply va_pl_congr
  intro b
  unfold va_up
  split <;> rfl
theorem ok_push {q : Nat} {cN : TC} (hO : Ok L f) (hq : q ∉ L) (h : ∀ (j : Nat) (d : FD), slotD cN.1 j = some d → okF (L ++ [q]) (va_up f q cN) d cN j) : Ok (L ++ [q]) (va_up f q cN) := by
  intro b hb j d hd
  rcases List.mem_append.mp hb with hbL | hbq
  · have hne : b ≠ q := fun e => hq (e ▸ hbL)
    rw [va_up_ne _ _ hne] at hd ⊢
    have h0 := hO b hbL j d hd
    unfold okF at h0 ⊢
    match d with
    | .inl _ => exact h0
    | .inr (.inl _) => trivial
    | .inr (.inr z) =>
      cases hr : (f b).2.2.2 j with
      | none => simp only [hr] at h0 ⊢; exact h0
      | some b2 =>
        simp only [hr] at h0 ⊢
        have hne2 : b2 ≠ q := fun e => hq (e ▸ h0.1)
        exact ⟨List.mem_append_left _ h0.1, by unfold tk; rw [va_up_ne _ _ hne2]; exact h0.2⟩
  · have e : b = q := by simpa using hbq
    subst e
    rw [va_up_self] at hd ⊢
    exact h j d hd
theorem ext_push {q : Nat} {cN : TC} (hq : q ∉ L) : Ext [] L f (L ++ [q]) (va_up f q cN) := by
  intro b hb
  have hne : b ≠ q := fun e => hq (e ▸ hb)
  refine ⟨List.mem_append_left _ hb, by unfold tk; rw [va_up_ne _ _ hne], fun j _ => ?_⟩
  unfold ti tl tr
  rw [va_up_ne _ _ hne]
  exact ⟨rfl, rfl, rfl⟩
theorem tw_newI (hexec : p.tables.exec = Jvm.exec) (hb : c.code = cc) (harr : (Cond.arrayClass .int).before args s = true) (hK : va_K D cl (TT ct) s) (hP : va_P D cl (TW ct L f) H) (hD : va_D A (TW ct L f)) (hS : va_S A H0 H locs) (hA : ∀ q, H0.size ≤ q → A q) (hO : Ok L f) (kN : Nat) {n : Int32} {N' : Nat} {lo hi : Int32} (hkd : KDs[kN]? = some (.inr (0, N', .inl (lo, hi)))) (h0 : ¬ (0 : Int32) < lo ∧ ¬ hi < (0 : Int32)) (hn : ¬ n < 0) (hN : n.toNatClampNeg = N') (hbytes : N' * componentBytes .int ≤ 536870912) (hcells : cells + 1 ≤ R.cells) (hslots : slots + N' ≤ R.slots) (hdg : decode cc pc = .ok (.newarray .int, 2))
    (kk : ∀ (q : Nat) (L1 : List Nat) (f1 : TF) (H1 : Heap), va_P D cl (TW ct L1 f1) H1 → va_D A (TW ct L1 f1) → va_S A H0 H1 locs → Ok L1 f1 → Ext [] L f L1 f1 → q ∈ L1 ∧ tk f1 q = kN → q ∉ L → L1 = L ++ [q] → f1 = nC f q kN → W p l e R s m args below meth c H1 locs (cells + 1) (slots + N') Q (F0 m (pc + 2) ls (.ref q :: rest))) : W p l e R s m args below meth c H locs cells slots Q (F0 m pc ls (.int n :: rest)) := by
  refine va_newa (atype := .int) (ty := .int) (N' := N') (a0 := (N', .inl (fun _ => 0))) hexec hb harr rfl hK hP hD hS hA (fun _ => rfl) hn hN hbytes hcells hslots hdg (fun q cA H1 gK gP gD gS => ?_)
  have hcA : cA = ct 0 := by
    have h1 := va_nm_int (gK.2 (TT ct).length (cA, .int) (by simp)).2
    have h2 := va_nm_int (hK.2 0 (ct 0, .int) rfl).2
    exact Option.some.inj (h1.symm.trans h2)
  subst hcA
  have hq : q ∉ L := by
    intro hm
    obtain ⟨q0, he⟩ := tw_at (ct := ct) (f := f) hm
    have h1 : (TW ct L f ++ [(q, .inl (ct 0, N', .inl (fun _ => 0)))])[q0]? = some (q, tc_e ct (f q)) := by
      rw [List.getElem?_append_left (List.getElem?_eq_some_iff.mp he).1]; exact he
    have h2 : (TW ct L f ++ [(q, .inl (ct 0, N', .inl (fun _ => 0)))] : va_W)[(TW ct L f).length]? = some (q, .inl (ct 0, N', .inl (fun _ => 0))) := hb_last
    have h3 := gD.1 _ _ _ _ h1 h2 rfl
    have := (List.getElem?_eq_some_iff.mp he).1
    omega
  have hcE : (.inl (ct 0, N', .inl (fun _ => 0)) : va_E) = tc_e ct (kN, fun _ => 0, fun _ => 0, fun _ => none) := (tc_arr (ct := ct) (c := (kN, fun _ => 0, fun _ => 0, fun _ => none)) rfl hkd).symm
  rw [hcE, tw_push hq] at gP gD
  refine kk q _ _ H1 gP gD gS (ok_push hO hq (fun j d hd => ?_)) (ext_push hq) ⟨by simp, by simp [tk, va_up]⟩ hq rfl rfl
  unfold slotD at hd
  simp only [hkd] at hd
  split at hd
  · cases hd; exact h0
  · cases hd
end TWA
