section TWR
variable {p : Program} {l : Launch} {e : Env} {R : Room} {s : State} {m : MethodId} {args : Array Value} {below : List Frame} {meth : Method} {c : Code} {H : Heap} {locs : List Loc} {cells slots : Nat} {Q : State → Prop}
variable {cc : ByteArray} {pc : Nat} {ls : Array Slot} {rest : List Value} {D : va_G} {cl : List vw_C} {A : Nat → Prop} {a : Nat} {tys : List (ClassId × FieldType)} {H0 : Heap} {ct : Nat → ClassId} {L : List Nat} {f : TF} {kd : Nat}
theorem tw_putF (hexec : p.tables.exec = Jvm.exec) (hb : c.code = cc) {own ref C : String} {T : u_T} {N ci index : Nat} {Ts : List Cond} (hts : ∀ w ∈ Ts, w.before args s = true) (hin : ∀ w ∈ u_ws C T N, w ∈ Ts) (ty0 : Nat → FieldType) (hty : ∀ k, k < N → parseFieldDescriptor (T k).2.2.1 = some (ty0 k)) (hnm : ∀ a, a < N → ∀ b, b < N → a ≠ b → (T a).2.1 ≠ (T b).2.1) (hown : s.vm.findClass own = some m.cls) (hK : va_K D cl tys s) (hP : va_P D cl (TW ct L f) H) (hD : va_D A (TW ct L f)) (hS : va_S A H0 H locs) (hm : a ∈ L ∧ tk f a = kd) {fl : List FD} (hkd : KDs[kd]? = some (.inl (ci, fl))) (hc : cl[ci]? = some (C, T, N)) (k : Nat) (hk : k < N) (hlink : (Cond.fieldLink own index ref (T k).2.1 (T k).2.2.1).before args s = true) (hsame : ∀ x, s.fieldFound? (T k).1 (T k).2.1 (T k).2.2.1 = some x → s.fieldFound? ref (T k).2.1 (T k).2.2.1 = some x) (hfin : (T k).2.2.2 = true) (hin2 : meth.name = "<init>") (hdecl : (T k).1 = own) {ty : FieldType} {v : Value} (hd : parseFieldDescriptor (T k).2.2.1 = some ty) (hn : narrow ty v = v) (hfit : fits ty v = true) {d : FD} (hfd : fl[k]? = some d) (c' : TC) (hck : c'.1 = (f a).1) (hcv : slotv d c' k = v) (hco : ∀ j d', j ≠ k → slotv d' c' j = slotv d' (f a) j) (hdg : decode cc pc = .ok (.putfield index, 3))
    (kk : ∀ (H1 : Heap) (locs1 : List Loc), va_P D cl (TW ct L (va_up f a c')) H1 → va_D A (TW ct L (va_up f a c')) → va_S A H0 H1 locs1 → W p l e R s m args below meth c H1 locs1 cells slots Q (F0 m (pc + 3) ls rest)) : W p l e R s m args below meth c H locs cells slots Q (F0 m pc ls (v :: .ref a :: rest)) := by
  obtain ⟨q0, he⟩ := tw_at (ct := ct) (f := f) hm.1
  have he0 := he
  have hcE : tc_e ct c' = .inr (ci, (fl.mapIdx (fun j d => slotv d (f a) j)).set k v) := by
    rw [tc_objc (hck.trans hm.2) hkd, mi_set hfd hcv hco]
  rw [tc_obj hm.2 hkd] at he
  refine va_putF hexec hb hts hin ty0 hty hnm hown hK hP hD hS q0 he hc k hk hlink hsame hfin hin2 hdecl hd hn hfit (by have := (List.getElem?_eq_some_iff.mp hfd).1; simpa using this) hdg (fun H1 locs1 gP gD gS => ?_)
  rw [← hcE, tw_fix hD hm.1 he0] at gP gD
  exact kk H1 locs1 gP gD gS
theorem tw_putFi (hexec : p.tables.exec = Jvm.exec) (hb : c.code = cc) {own ref C : String} {T : u_T} {N ci index : Nat} {Ts : List Cond} (hts : ∀ w ∈ Ts, w.before args s = true) (hin : ∀ w ∈ u_ws C T N, w ∈ Ts) (ty0 : Nat → FieldType) (hty : ∀ k, k < N → parseFieldDescriptor (T k).2.2.1 = some (ty0 k)) (hnm : ∀ a, a < N → ∀ b, b < N → a ≠ b → (T a).2.1 ≠ (T b).2.1) (hown : s.vm.findClass own = some m.cls) (hK : va_K D cl tys s) (hP : va_P D cl (TW ct L f) H) (hD : va_D A (TW ct L f)) (hS : va_S A H0 H locs) (hO : Ok L f) (hm : a ∈ L ∧ tk f a = kd) {fl : List FD} (hkd : KDs[kd]? = some (.inl (ci, fl))) (hc : cl[ci]? = some (C, T, N)) (k : Nat) (hk : k < N) (hlink : (Cond.fieldLink own index ref (T k).2.1 (T k).2.2.1).before args s = true) (hsame : ∀ x, s.fieldFound? (T k).1 (T k).2.1 (T k).2.2.1 = some x → s.fieldFound? ref (T k).2.1 (T k).2.2.1 = some x) (hfin : (T k).2.2.2 = true) (hin2 : meth.name = "<init>") (hdecl : (T k).1 = own) {ty : FieldType} {v : Int32} (hd : parseFieldDescriptor (T k).2.2.1 = some ty) (hn : narrow ty (.int v) = .int v) (hfit : fits ty (.int v) = true) {lo hi : Int32} (hfd : fl[k]? = some (.inl (lo, hi))) (hv : ¬ v < lo ∧ ¬ hi < v) (hdg : decode cc pc = .ok (.putfield index, 3))
    (kk : ∀ (f1 : TF) (H1 : Heap) (locs1 : List Loc), va_P D cl (TW ct L f1) H1 → va_D A (TW ct L f1) → va_S A H0 H1 locs1 → Ok L f1 → Ext [(kd, k)] L f L f1 → ti f1 a k = v → f1 = sI f a k v → W p l e R s m args below meth c H1 locs1 cells slots Q (F0 m (pc + 3) ls rest)) : W p l e R s m args below meth c H locs cells slots Q (F0 m pc ls (.int v :: .ref a :: rest)) := by
  have hkk : (f a).1 = kd := hm.2
  refine tw_putF hexec hb hts hin ty0 hty hnm hown hK hP hD hS hm hkd hc k hk hlink hsame hfin hin2 hdecl hd hn hfit hfd ((f a).1, upd (f a).2.1 k v, (f a).2.2.1, (f a).2.2.2) rfl (by simp [slotv, upd]) (fun j d' hj => ?_) hdg (fun H1 locs1 gP gD gS => kk _ H1 locs1 gP gD gS ?_ ?_ ?_ rfl)
  · match d' with
    | .inl _ => simp [slotv, upd, hj]
    | .inr (.inl _) => rfl
    | .inr (.inr _) => rfl
  · refine ok_up hO rfl (fun j d hd => ?_)
    have hd0 := hO a hm.1 j d hd
    by_cases hj : j = k
    · subst hj
      rw [show slotD (f a).1 j = slotD kd j by rw [hkk]] at hd
      rw [slot_obj hkd hfd] at hd
      cases hd
      show ¬ upd _ _ _ _ < lo ∧ ¬ hi < upd _ _ _ _
      simpa [upd] using hv
    · match d with
      | .inl b => simpa [okF, upd, hj] using hd0
      | .inr (.inl _) => trivial
      | .inr (.inr q) => exact hd0
  · refine ext_up rfl (fun j hj => ⟨?_, rfl, rfl⟩)
    have : j ≠ k := by
      intro e
      subst e
      simp [wr, hkk] at hj
    simp [upd, this]
  · simp [ti, upd, va_up]
theorem tw_putFr (hexec : p.tables.exec = Jvm.exec) (hb : c.code = cc) {own ref C : String} {T : u_T} {N ci index : Nat} {Ts : List Cond} (hts : ∀ w ∈ Ts, w.before args s = true) (hin : ∀ w ∈ u_ws C T N, w ∈ Ts) (ty0 : Nat → FieldType) (hty : ∀ k, k < N → parseFieldDescriptor (T k).2.2.1 = some (ty0 k)) (hnm : ∀ a, a < N → ∀ b, b < N → a ≠ b → (T a).2.1 ≠ (T b).2.1) (hown : s.vm.findClass own = some m.cls) (hK : va_K D cl tys s) (hP : va_P D cl (TW ct L f) H) (hD : va_D A (TW ct L f)) (hS : va_S A H0 H locs) (hO : Ok L f) (hm : a ∈ L ∧ tk f a = kd) {fl : List FD} (hkd : KDs[kd]? = some (.inl (ci, fl))) (hc : cl[ci]? = some (C, T, N)) (k : Nat) (hk : k < N) (hlink : (Cond.fieldLink own index ref (T k).2.1 (T k).2.2.1).before args s = true) (hsame : ∀ x, s.fieldFound? (T k).1 (T k).2.1 (T k).2.2.1 = some x → s.fieldFound? ref (T k).2.1 (T k).2.2.1 = some x) (hfin : (T k).2.2.2 = true) (hin2 : meth.name = "<init>") (hdecl : (T k).1 = own) {ty : FieldType} {b k' : Nat} {nu : Bool} (hd : parseFieldDescriptor (T k).2.2.1 = some ty) (hn : narrow ty (.ref b) = .ref b) (hfit : fits ty (.ref b) = true) (hfd : fl[k]? = some (.inr (.inr (k', nu)))) (hv : b ∈ L ∧ tk f b = k') (hdg : decode cc pc = .ok (.putfield index, 3))
    (kk : ∀ (f1 : TF) (H1 : Heap) (locs1 : List Loc), va_P D cl (TW ct L f1) H1 → va_D A (TW ct L f1) → va_S A H0 H1 locs1 → Ok L f1 → Ext [(kd, k)] L f L f1 → tr f1 a k = some b → f1 = sR f a k b → W p l e R s m args below meth c H1 locs1 cells slots Q (F0 m (pc + 3) ls rest)) : W p l e R s m args below meth c H locs cells slots Q (F0 m pc ls (.ref b :: .ref a :: rest)) := by
  have hkk : (f a).1 = kd := hm.2
  refine tw_putF hexec hb hts hin ty0 hty hnm hown hK hP hD hS hm hkd hc k hk hlink hsame hfin hin2 hdecl hd hn hfit hfd ((f a).1, (f a).2.1, (f a).2.2.1, va_up (f a).2.2.2 k (some b)) rfl (by simp [slotv, va_up, va_rf]) (fun j d' hj => ?_) hdg (fun H1 locs1 gP gD gS => kk _ H1 locs1 gP gD gS ?_ ?_ ?_ rfl)
  · match d' with
    | .inl _ => rfl
    | .inr (.inl _) => rfl
    | .inr (.inr _) => simp [slotv, va_up, hj]
  · refine ok_up hO rfl (fun j d hd => ?_)
    have hd0 := hO a hm.1 j d hd
    by_cases hj : j = k
    · subst hj
      rw [show slotD (f a).1 j = slotD kd j by rw [hkk]] at hd
      rw [slot_obj hkd hfd] at hd
      cases hd
      simp only [okF, va_up_self]
      exact hv
    · match d with
      | .inl b => exact hd0
      | .inr (.inl _) => trivial
      | .inr (.inr q) => simpa [okF, va_up, hj] using hd0
  · refine ext_up rfl (fun j hj => ⟨rfl, rfl, ?_⟩)
    have : j ≠ k := by
      intro e
      subst e
      simp [wr, hkk] at hj
    simp [va_up, this]
  · simp [tr, va_up]
def dok (d : FD) : Bool := match d with
  | .inl b => !(decide ((0 : Int32) < b.1)) && !(decide (b.2 < (0 : Int32)))
  | .inr (.inl _) => true
  | .inr (.inr q) => q.2
theorem dok_ok {L : List Nat} {f : TF} {k : Nat} {d : FD} (h : dok d = true) (j : Nat) : okF L f d (k, fun _ => 0, fun _ => 0, fun _ => none) j := by
  match d with
  | .inl b =>
    simp only [dok, Bool.and_eq_true, Bool.not_eq_true', decide_eq_false_iff_not] at h
    exact h
  | .inr (.inl _) => trivial
  | .inr (.inr q) => exact h
theorem tw_newO {c0 : Code} (hexec : p.tables.exec = Jvm.exec) (hb : c0.code = cc) {own C : String} {T : u_T} {N ci index : Nat} {Ts : List Cond} (hts : ∀ w ∈ Ts, w.before args s = true) (hin : ∀ w ∈ u_ws C T N, w ∈ Ts) (ty : Nat → FieldType) (hty : ∀ k, k < N → parseFieldDescriptor (T k).2.2.1 = some (ty k)) (hown : s.vm.findClass own = some m.cls) (hcl : (Cond.classLink own index C).before args s = true) (hinst : (Cond.instantiable C N).before args s = true) (hini : (Cond.initialized C).before args s = true)
    (hK : va_K D cl tys s) (hP : va_P D cl (TW ct L f) H) (hD : va_D A (TW ct L f)) (hS : va_S A H0 H locs) (hA : ∀ q, H0.size ≤ q → A q) (hO : Ok L f) (kN : Nat) {fl : List FD} (hkd : KDs[kN]? = some (.inl (ci, fl))) (hc : cl[ci]? = some (C, T, N)) {fs : List Value} (hfl : fs = fl.mapIdx (fun j d => slotv d (kN, fun _ => 0, fun _ => 0, fun _ => none) j)) (hdo : ∀ d ∈ fl, dok d = true) (hfs : ∀ j, j < N → defaultValue (ty j) = vp_V fs j) (hcells : cells + 1 ≤ R.cells) (hslots : slots + N ≤ R.slots) (hdg : decode cc pc = .ok (.new index, 3))
    (kk : ∀ (q : Nat) (L1 : List Nat) (f1 : TF) (H1 : Heap), va_P D cl (TW ct L1 f1) H1 → va_D A (TW ct L1 f1) → va_S A H0 H1 locs → Ok L1 f1 → Ext [] L f L1 f1 → q ∈ L1 ∧ tk f1 q = kN → q ∉ L → L1 = L ++ [q] → f1 = nC f q kN → W p l e R s m args below meth c0 H1 locs (cells + 1) (slots + N) Q (F0 m (pc + 3) ls (.ref q :: rest))) : W p l e R s m args below meth c0 H locs cells slots Q (F0 m pc ls rest) := by
  refine va_new hexec hb hts hin ty hty hown hcl hinst hini hK hP hD hS hA hc hfs hcells hslots hdg (fun q H1 gP gD gS => ?_)
  have hq : q ∉ L := by
    intro hm
    obtain ⟨q0, he⟩ := tw_at (ct := ct) (f := f) hm
    have h1 : (TW ct L f ++ [(q, .inr (ci, fs))])[q0]? = some (q, tc_e ct (f q)) := by
      rw [List.getElem?_append_left (List.getElem?_eq_some_iff.mp he).1]; exact he
    have h2 : (TW ct L f ++ [(q, .inr (ci, fs))] : va_W)[(TW ct L f).length]? = some (q, .inr (ci, fs)) := hb_last
    have h3 := gD.1 _ _ _ _ h1 h2 rfl
    have := (List.getElem?_eq_some_iff.mp he).1
    omega
  have hcE : (.inr (ci, fs) : va_E) = tc_e ct (kN, fun _ => 0, fun _ => 0, fun _ => none) := by
    rw [tc_objc (ct := ct) (c := (kN, fun _ => 0, fun _ => 0, fun _ => none)) rfl hkd, hfl]
  rw [hcE, tw_push hq] at gP gD
  refine kk q _ _ H1 gP gD gS (ok_push hO hq (fun j d hd => ?_)) (ext_push hq) ⟨by simp, by simp [tk, va_up]⟩ hq rfl rfl
  unfold slotD at hd
  simp only [hkd] at hd
  exact dok_ok (hdo d (List.mem_of_getElem? hd)) j
end TWR
def shp (d : FD) : Nat := match d with
  | .inl _ => 0
  | .inr (.inl _) => 1
  | .inr (.inr _) => 2
theorem shp_v {d d' : FD} (h : shp d = shp d') (c c' : TC) (hc : c.2 = c'.2) (j : Nat) : slotv d c j = slotv d' c' j := by
  match d, d' with
  | .inl _, .inl _ => simp [slotv, hc]
  | .inr (.inl _), .inr (.inl _) => simp [slotv, hc]
  | .inr (.inr _), .inr (.inr _) => simp [slotv, hc]
  | .inl _, .inr (.inl _) => simp [shp] at h
  | .inl _, .inr (.inr _) => simp [shp] at h
  | .inr (.inl _), .inl _ => simp [shp] at h
  | .inr (.inl _), .inr (.inr _) => simp [shp] at h
  | .inr (.inr _), .inl _ => simp [shp] at h
  | .inr (.inr _), .inr (.inl _) => simp [shp] at h
def noRefD (kr : Nat) (d : FD) : Bool := match d with
  | .inr (.inr q) => q.1 != kr
  | _ => true
def noRef (kr : Nat) : Bool := KDs.all (fun o => match o with
  | .inl o => o.2.all (noRefD kr)
  | .inr o => noRefD kr o.2.2)
theorem noRef_slot {kr k j : Nat} {d : FD} (h : noRef kr = true) (hs : slotD k j = some d) : noRefD kr d = true := by
  unfold noRef at h
  rw [List.all_eq_true] at h
  unfold slotD at hs
  cases hk : KDs[k]? with
  | none => rw [hk] at hs; cases hs
  | some o =>
    have ho := h o (List.mem_of_getElem? hk)
    rw [hk] at hs
    match o with
    | .inl o =>
      simp only at ho hs
      exact (List.all_eq_true.mp ho) d (List.mem_of_getElem? hs)
    | .inr o =>
      simp only at ho hs
      split at hs
      · cases hs; exact ho
      · cases hs
/-- a cell whose fields are all set gets its own kind -/
theorem tw_cast {ct : Nat → ClassId} {L : List Nat} {f : TF} {q kr kd ci : Nat} {fl fl' : List FD} (hO : Ok L f) (hm : q ∈ L ∧ tk f q = kr) (hkr : KDs[kr]? = some (.inl (ci, fl))) (hkd : KDs[kd]? = some (.inl (ci, fl'))) (hsh : fl.map shp = fl'.map shp) (hno : noRef kr = true) (hok : ∀ (j : Nat) (d : FD), fl'[j]? = some d → okF L f d (f q) j) : ∃ f', Ok L f' ∧ TW ct L f' = TW ct L f ∧ tk f' q = kd ∧ (∀ b, b ≠ q → f' b = f b) ∧ (f' q).2 = (f q).2 ∧ f' = kC f q kd := by
  refine ⟨va_up f q (kd, (f q).2), ?_, ?_, by simp [tk, va_up], fun b hb => va_up_ne _ _ hb, by simp [va_up], rfl⟩
  · have key : ∀ (d : FD) (c : TC) (j : Nat), noRefD kr d = true → okF L f d c j → okF L (va_up f q (kd, (f q).2)) d c j := by
      intro d c j hn h
      match d with
      | .inl _ => exact h
      | .inr (.inl _) => trivial
      | .inr (.inr z) =>
        unfold okF at h ⊢
        cases hr : c.2.2.2 j with
        | none => simp only [hr] at h ⊢; exact h
        | some b =>
          simp only [hr] at h ⊢
          have hb : b ≠ q := by
            intro e
            subst e
            have : z.1 = kr := h.2.symm.trans hm.2
            simp [noRefD, this] at hn
          exact ⟨h.1, by unfold tk; rw [va_up_ne _ _ hb]; exact h.2⟩
    intro b hb j d hd
    have hn := noRef_slot hno hd
    by_cases e : b = q
    · subst e
      rw [va_up_self] at hd ⊢
      refine key d _ j hn ?_
      have hd' : fl'[j]? = some d := by
        unfold slotD at hd
        simp only [hkd] at hd
        exact hd
      have := hok j d hd'
      match d with
      | .inl _ => exact this
      | .inr (.inl _) => trivial
      | .inr (.inr _) => exact this
    · rw [va_up_ne _ _ e] at hd ⊢
      exact key d _ j hn (hO b hb j d hd)
  · unfold TW
    apply va_pl_congr
    intro b
    by_cases e : b = q
    · subst e
      rw [va_up_self, tc_obj hm.2 hkr, tc_objc rfl hkd]
      congr 2
      apply List.ext_getElem?
      intro j
      rw [List.getElem?_mapIdx, List.getElem?_mapIdx]
      have h1 : (fl.map shp)[j]? = (fl'.map shp)[j]? := by rw [hsh]
      rw [List.getElem?_map, List.getElem?_map] at h1
      cases h2 : fl[j]? with
      | none => rw [h2] at h1; cases h3 : fl'[j]? with
        | none => rfl
        | some d' => rw [h3] at h1; simp at h1
      | some d => rw [h2] at h1; cases h3 : fl'[j]? with
        | none => rw [h3] at h1; simp at h1
        | some d' =>
          rw [h3] at h1
          simp only [Option.map_some, Option.some.injEq] at h1 ⊢
          exact (shp_v h1 _ _ rfl j).symm
    · rw [va_up_ne _ _ e]
theorem ok_nn {L : List Nat} {f : TF} {c : TC} {j k : Nat} (h : okF L f (.inr (.inr (k, true))) c j) (hn : c.2.2.2 j ≠ none) : okF L f (.inr (.inr (k, false))) c j := by
  unfold okF at h ⊢
  cases hr : c.2.2.2 j with
  | none => exact absurd hr hn
  | some b => simp only [hr] at h ⊢; exact h
theorem ext_cast {W : List (Nat × Nat)} {L L1 : List Nat} {f f1 f' : TF} {q : Nat} (h : Ext W L f L1 f1) (hq : q ∉ L) (ho : ∀ b, b ≠ q → f' b = f1 b) : Ext W L f L1 f' := by
  intro a ha
  have hne : a ≠ q := fun e => hq (e ▸ ha)
  obtain ⟨h1, h2, h3⟩ := h a ha
  refine ⟨h1, by unfold tk at h2 ⊢; rw [ho a hne]; exact h2, fun j hj => ?_⟩
  have := h3 j hj
  unfold ti tl tr at this ⊢
  rw [ho a hne]
  exact this
