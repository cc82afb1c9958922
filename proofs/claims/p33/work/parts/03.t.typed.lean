abbrev FD : Type := (Int32 × Int32) ⊕ Unit ⊕ (Nat × Bool)
abbrev KDn : Type := (Nat × List FD) ⊕ (Nat × Nat × FD)
abbrev TC : Type := Nat × (Nat → Int32) × (Nat → Int64) × (Nat → Option Nat)
abbrev TF : Type := Nat → TC
abbrev TSt : Type := List Nat × TF
def tk (f : TF) (a : Nat) : Nat := (f a).1
def ti (f : TF) (a j : Nat) : Int32 := (f a).2.1 j
def tl (f : TF) (a j : Nat) : Int64 := (f a).2.2.1 j
def tr (f : TF) (a j : Nat) : Option Nat := (f a).2.2.2 j
def fI (lo hi : Int32) : FD := .inl (lo, hi)
def fJ : FD := .inr (.inl ())
def fR (k : Nat) (n : Bool) : FD := .inr (.inr (k, n))
def slotv (d : FD) (c : TC) (j : Nat) : Value := match d with
  | .inl _ => .int (c.2.1 j)
  | .inr (.inl _) => .long (c.2.2.1 j)
  | .inr (.inr _) => va_rf (c.2.2.2 j)
def arrp (e : FD) (c : TC) : (Nat → Int32) ⊕ (Nat → Int64) ⊕ (Nat → UInt32) ⊕ (Nat → UInt64) ⊕ (Nat → Option Nat) := match e with
  | .inl _ => .inl c.2.1
  | .inr (.inl _) => .inr (.inl c.2.2.1)
  | .inr (.inr _) => .inr (.inr (.inr (.inr c.2.2.2)))
def FL_0 : List FD := [.inr (.inr (1, false)), .inr (.inr (6, false)), .inr (.inr (7, false)), .inr (.inr (8, false)), .inr (.inr (9, false)), .inr (.inr (10, false)), .inr (.inr (12, false)), .inl (0, 20), .inl (0, 20), .inl (0, 600), .inl (0, 359999), .inl ((-2147483648), 2147483647), .inr (.inr (15, false))]
def FL_1 : List FD := [.inr (.inr (2, false)), .inr (.inr (3, false)), .inr (.inr (4, false)), .inr (.inr (5, false)), .inl (0, 12), .inl ((-2147483648), 2147483647)]
def FL_10 : List FD := [.inr (.inr (11, false)), .inl (0, 400), .inl ((-2147483648), 2147483647), .inl (0, 400), .inl (0, 400), .inl ((-2147483648), 2147483647)]
def FL_12 : List FD := [.inl ((-2147483648), 2147483647), .inl ((-2147483648), 2147483647), .inl ((-2147483648), 2147483647), .inl ((-2147483648), 2147483647), .inr (.inr (13, false)), .inr (.inr (14, false)), .inl (0, 30)]
def FL_15 : List FD := [.inl ((-2147483648), 2147483647), .inl ((-2147483648), 2147483647), .inr (.inr (16, false)), .inr (.inr (17, false)), .inr (.inr (18, false)), .inl (0, 12), .inl (0, 12), .inl ((-2147483648), 2147483647), .inl ((-2147483648), 2147483647)]
def FL_20 : List FD := [.inl ((-2147483648), 2147483647), .inr (.inr (21, true)), .inl ((-2147483648), 2147483647), .inl ((-2147483648), 2147483647), .inl ((-2147483648), 2147483647), .inl ((-2147483648), 2147483647), .inl ((-2147483648), 2147483647), .inl ((-2147483648), 2147483647)]
def FL_21 : List FD := [.inl ((-2147483648), 2147483647), .inl ((-2147483648), 2147483647), .inr (.inr (22, false)), .inr (.inr (23, false)), .inl (0, 6)]
def FL_24 : List FD := [.inl ((-2147483648), 2147483647), .inl (0, 11), .inl ((-2147483648), 2147483647), .inl ((-2147483648), 2147483647), .inl ((-2147483648), 2147483647), .inl (0, 1)]
def FL_25 : List FD := [.inl ((-2147483648), 2147483647), .inl ((-2147483648), 2147483647), .inl (0, 359999), .inl ((-2147483648), 2147483647), .inl (0, 11), .inl (0, 11), .inl ((-2147483648), 2147483647), .inl (0, 1)]
def FL_26 : List FD := [.inl ((-2147483648), 2147483647), .inl ((-2147483648), 2147483647), .inl ((-2147483648), 2147483647)]
def FL_27 : List FD := [.inl ((-2147483648), 2147483647), .inl (0, 359999), .inl (0, 12), .inr (.inr (28, false)), .inl ((-2147483648), 2147483647), .inr (.inr (29, false)), .inr (.inr (30, false)), .inr (.inr (31, false)), .inr (.inr (32, false)), .inr (.inr (33, false)), .inr (.inr (34, false)), .inr (.inr (35, false)), .inr (.inr (36, false)), .inr (.inr (37, false)), .inr (.inr (38, false)), .inr (.inr (39, false)), .inr (.inr (40, false)), .inr (.inr (41, false)), .inr (.inr (42, false)), .inr (.inr (43, false)), .inr (.inr (44, false)), .inl (0, 20), .inr (.inr (45, false)), .inr (.inr (46, false)), .inr (.inr (47, false)), .inr (.inr (48, false)), .inr (.inr (49, false)), .inr (.inr (50, false)), .inl (0, 400), .inl (0, 20), .inr (.inr (51, false)), .inr (.inr (52, false)), .inr (.inr (53, false)), .inr (.inr (54, false)), .inr (.inr (55, false)), .inr (.inr (56, false)), .inr (.inr (57, false)), .inr (.inr (58, false)), .inr (.inr (59, false)), .inr (.inr (60, false)), .inr (.inr (61, false)), .inr (.inr (62, false)), .inl (0, 400), .inl (0, 18), .inl (0, 400), .inl ((-2147483648), 2147483647), .inl ((-2147483648), 2147483647), .inl (0, 600), .inr (.inr (63, false)), .inr (.inr (64, false)), .inr (.inr (65, false)), .inr (.inr (66, false)), .inr (.inr (67, false)), .inr (.inr (68, false)), .inr (.inr (69, false)), .inr (.inr (70, false)), .inr (.inl ()), .inr (.inl ()), .inr (.inl ()), .inr (.inr (71, false)), .inl (0, 30), .inr (.inr (72, false)), .inr (.inr (73, false)), .inr (.inr (74, false))]
def FL_75 : List FD := [.inl ((-2147483648), 2147483647), .inl ((-2147483648), 2147483647), .inr (.inr (22, true)), .inr (.inr (23, true)), .inl (0, 6)]
def FL_76 : List FD := [.inl ((-2147483648), 2147483647), .inl ((-2147483648), 2147483647), .inr (.inr (16, true)), .inr (.inr (17, true)), .inr (.inr (18, true)), .inl (0, 12), .inl (0, 12), .inl ((-2147483648), 2147483647), .inl ((-2147483648), 2147483647)]
def KDs : List KDn := [.inl (0, FL_0), .inl (1, FL_1), .inr (0, 12, .inl ((-2147483648), 2147483647)), .inr (0, 12, .inl ((-2147483648), 2147483647)), .inr (9, 500, .inr (.inr (19, true))), .inr (2, 500, .inl (0, 1)), .inr (4, 40, .inr (.inr (20, true))), .inr (5, 20, .inr (.inr (24, true))), .inr (6, 20, .inr (.inr (15, true))), .inr (7, 600, .inr (.inr (25, true))), .inl (4, FL_10), .inr (1, 400, .inl ((-2147483648), 2147483647)), .inl (5, FL_12), .inr (0, 500, .inl ((-2147483648), 2147483647)), .inr (8, 30, .inr (.inr (26, true))), .inl (3, FL_15), .inr (0, 36, .inl ((-2147483648), 2147483647)), .inr (0, 36, .inl ((-2147483648), 2147483647)), .inr (0, 9, .inl ((-2147483648), 2147483647)), .inr (0, 12, .inl ((-2147483648), 2147483647)), .inl (2, FL_20), .inl (8, FL_21), .inr (0, 6, .inl ((-2147483648), 2147483647)), .inr (0, 6, .inl ((-2147483648), 2147483647)), .inl (9, FL_24), .inl (10, FL_25), .inl (6, FL_26), .inl (7, FL_27), .inr (0, 12, .inl ((-2147483648), 2147483647)), .inr (0, 12, .inl ((-2147483648), 2147483647)), .inr (2, 500, .inl (0, 1)), .inr (0, 6000, .inl ((-2147483648), 2147483647)), .inr (2, 500, .inl (0, 1)), .inr (0, 40, .inl ((-2147483648), 2147483647)), .inr (0, 40, .inl ((-2147483648), 2147483647)), .inr (0, 40, .inl ((-2147483648), 2147483647)), .inr (0, 40, .inl (0, 6)), .inr (0, 240, .inl ((-2147483648), 2147483647)), .inr (0, 240, .inl ((-2147483648), 2147483647)), .inr (0, 40, .inl ((-2147483648), 2147483647)), .inr (0, 40, .inl ((-2147483648), 2147483647)), .inr (0, 40, .inl ((-2147483648), 2147483647)), .inr (2, 40, .inl (0, 1)), .inr (0, 12, .inl (0, 40)), .inr (0, 480, .inl (0, 39)), .inr (0, 20, .inl ((-2147483648), 2147483647)), .inr (0, 20, .inl (0, 11)), .inr (0, 20, .inl ((-2147483648), 2147483647)), .inr (0, 20, .inl ((-1), 599)), .inr (2, 20, .inl (0, 1)), .inr (1, 400, .inl ((-2147483648), 2147483647)), .inr (0, 20, .inl ((-2147483648), 2147483647)), .inr (0, 20, .inl ((-2147483648), 2147483647)), .inr (0, 20, .inl (0, 12)), .inr (0, 240, .inl ((-2147483648), 2147483647)), .inr (0, 240, .inl ((-2147483648), 2147483647)), .inr (0, 240, .inl ((-2147483648), 2147483647)), .inr (0, 20, .inl (0, 12)), .inr (0, 240, .inl ((-2147483648), 2147483647)), .inr (0, 240, .inl ((-2147483648), 2147483647)), .inr (0, 240, .inl ((-2147483648), 2147483647)), .inr (0, 180, .inl ((-2147483648), 2147483647)), .inr (0, 20, .inl ((-2147483648), 2147483647)), .inr (0, 600, .inl (0, 19)), .inr (0, 600, .inl (0, 39)), .inr (0, 600, .inl (0, 11)), .inr (0, 600, .inl (0, 11)), .inr (0, 600, .inl (0, 359999)), .inr (0, 600, .inl ((-2147483648), 2147483647)), .inr (0, 600, .inl ((-2147483648), 2147483647)), .inr (2, 600, .inl (0, 1)), .inr (3, 500, .inr (.inl ())), .inr (0, 30, .inl ((-2147483648), 2147483647)), .inr (0, 30, .inl ((-2147483648), 2147483647)), .inr (0, 30, .inl ((-2147483648), 2147483647)), .inl (8, FL_75), .inl (3, FL_76)]
def TT (ct : Nat → ClassId) : List (ClassId × FieldType) := [(ct 0, .int), (ct 1, .byte), (ct 2, .boolean), (ct 3, .long), (ct 4, .object R_Mn), (ct 5, .object R_Bt), (ct 6, .object R_Or), (ct 7, .object R_Tr), (ct 8, .object R_Pn), (ct 9, .array .int)]
def tc_e (ct : Nat → ClassId) (c : TC) : va_E := match KDs[c.1]? with
  | some (.inl o) => .inr (o.1, o.2.mapIdx (fun j d => slotv d c j))
  | some (.inr o) => .inl (ct o.1, o.2.1, arrp o.2.2 c)
  | none => .inr (0, [])
def TW (ct : Nat → ClassId) (L : List Nat) (f : TF) : va_W := va_pl L (fun a => tc_e ct (f a))
def slotD (k j : Nat) : Option FD := match KDs[k]? with
  | some (.inl o) => o.2[j]?
  | some (.inr o) => if j < o.2.1 then some o.2.2 else none
  | none => none
def okF (L : List Nat) (f : TF) (d : FD) (c : TC) (j : Nat) : Prop := match d with
  | .inl b => ¬ c.2.1 j < b.1 ∧ ¬ b.2 < c.2.1 j
  | .inr (.inl _) => True
  | .inr (.inr q) => match c.2.2.2 j with
    | none => q.2 = true
    | some a => a ∈ L ∧ tk f a = q.1
def Ok (L : List Nat) (f : TF) : Prop := ∀ a ∈ L, ∀ (j : Nat) (d : FD), slotD (f a).1 j = some d → okF L f d (f a) j
def wr (W : List (Nat × Nat)) (k j : Nat) : Bool := W.any (fun p => p.1 == k && (p.2 == j || p.2 == 1000))
def Ext (W : List (Nat × Nat)) (L : List Nat) (f : TF) (L1 : List Nat) (f1 : TF) : Prop := ∀ a ∈ L, a ∈ L1 ∧ tk f1 a = tk f a ∧ ∀ j, wr W (tk f a) j = false → ti f1 a j = ti f a j ∧ tl f1 a j = tl f a j ∧ tr f1 a j = tr f a j
theorem Ext.rf {W : List (Nat × Nat)} {L : List Nat} {f : TF} : Ext W L f L f := fun _ h => ⟨h, rfl, fun _ _ => ⟨rfl, rfl, rfl⟩⟩
theorem wr_app {W W' : List (Nat × Nat)} {k j : Nat} : wr (W ++ W') k j = (wr W k j || wr W' k j) := by simp [wr, List.any_append]
theorem Ext.trans {W W' : List (Nat × Nat)} {L L1 L2 : List Nat} {f f1 f2 : TF} (h : Ext W L f L1 f1) (h' : Ext W' L1 f1 L2 f2) : Ext (W ++ W') L f L2 f2 := by
  intro a ha
  obtain ⟨h1, h2, h3⟩ := h a ha
  obtain ⟨g1, g2, g3⟩ := h' a h1
  refine ⟨g1, g2.trans h2, fun j hj => ?_⟩
  rw [wr_app, Bool.or_eq_false_iff] at hj
  obtain ⟨a1, a2, a3⟩ := h3 j hj.1
  obtain ⟨b1, b2, b3⟩ := g3 j (by rw [h2]; exact hj.2)
  exact ⟨b1.trans a1, b2.trans a2, b3.trans a3⟩
theorem wr_mono {W W' : List (Nat × Nat)} (h : ∀ p ∈ W, p ∈ W') {k j : Nat} (hw : wr W' k j = false) : wr W k j = false := by
  unfold wr at hw ⊢
  rw [List.any_eq_false] at hw ⊢
  exact fun p hp => hw p (h p hp)
theorem Ext.mono {W W' : List (Nat × Nat)} {L L1 : List Nat} {f f1 : TF} (h : Ext W L f L1 f1) (hw : ∀ p ∈ W, p ∈ W') : Ext W' L f L1 f1 := fun a ha => ⟨(h a ha).1, (h a ha).2.1, fun j hj => (h a ha).2.2 j (wr_mono hw hj)⟩
theorem Ext.m {W : List (Nat × Nat)} {L L1 : List Nat} {f f1 : TF} (h : Ext W L f L1 f1) {a k : Nat} (hm : a ∈ L ∧ tk f a = k) : a ∈ L1 ∧ tk f1 a = k := ⟨(h a hm.1).1, (h a hm.1).2.1.trans hm.2⟩
theorem Ext.ei {W : List (Nat × Nat)} {L L1 : List Nat} {f f1 : TF} (h : Ext W L f L1 f1) {a k : Nat} (hm : a ∈ L ∧ tk f a = k) {j : Nat} (hw : wr W k j = false) : ti f1 a j = ti f a j := ((h a hm.1).2.2 j (by rw [hm.2]; exact hw)).1
theorem Ext.el {W : List (Nat × Nat)} {L L1 : List Nat} {f f1 : TF} (h : Ext W L f L1 f1) {a k : Nat} (hm : a ∈ L ∧ tk f a = k) {j : Nat} (hw : wr W k j = false) : tl f1 a j = tl f a j := ((h a hm.1).2.2 j (by rw [hm.2]; exact hw)).2.1
theorem Ext.er {W : List (Nat × Nat)} {L L1 : List Nat} {f f1 : TF} (h : Ext W L f L1 f1) {a k : Nat} (hm : a ∈ L ∧ tk f a = k) {j : Nat} (hw : wr W k j = false) : tr f1 a j = tr f a j := ((h a hm.1).2.2 j (by rw [hm.2]; exact hw)).2.2
theorem tk_up {f : TF} {a : Nat} {c' : TC} (hk : c'.1 = (f a).1) (b : Nat) : tk (va_up f a c') b = tk f b := by
  unfold tk va_up
  split
  · next h => subst h; exact hk
  · rfl
theorem okF_up {L : List Nat} {f : TF} {a : Nat} {c' : TC} (hk : c'.1 = (f a).1) {d : FD} {c : TC} {j : Nat} (h : okF L f d c j) : okF L (va_up f a c') d c j := by
  unfold okF at h ⊢
  match d with
  | .inl _ => exact h
  | .inr (.inl _) => exact h
  | .inr (.inr q) =>
    cases hr : c.2.2.2 j with
    | none => simp only [hr] at h ⊢; exact h
    | some b => simp only [hr] at h ⊢; exact ⟨h.1, by rw [tk_up hk]; exact h.2⟩
theorem ok_up {L : List Nat} {f : TF} (hO : Ok L f) {a : Nat} {c' : TC} (hk : c'.1 = (f a).1) (h : ∀ (j : Nat) (d : FD), slotD c'.1 j = some d → okF L f d c' j) : Ok L (va_up f a c') := by
  intro b hb j d hd
  by_cases e : b = a
  · subst e
    rw [va_up_self] at hd ⊢
    exact okF_up hk (h j d hd)
  · rw [va_up_ne _ _ e] at hd ⊢
    exact okF_up hk (hO b hb j d hd)
theorem ext_up {L : List Nat} {f : TF} {a : Nat} {c' : TC} {W : List (Nat × Nat)} (hk : c'.1 = (f a).1) (h : ∀ j, wr W (f a).1 j = false → c'.2.1 j = (f a).2.1 j ∧ c'.2.2.1 j = (f a).2.2.1 j ∧ c'.2.2.2 j = (f a).2.2.2 j) : Ext W L f L (va_up f a c') := by
  intro b hb
  refine ⟨hb, tk_up hk b, fun j hj => ?_⟩
  unfold ti tl tr
  by_cases e : b = a
  · subst e
    rw [va_up_self]
    exact h j hj
  · rw [va_up_ne _ _ e]
    exact ⟨rfl, rfl, rfl⟩
theorem tw_at {ct : Nat → ClassId} {L : List Nat} {f : TF} {a : Nat} (h : a ∈ L) : ∃ k : Nat, (TW ct L f)[k]? = some (a, tc_e ct (f a)) := va_pl_get (X := []) (f := fun a => tc_e ct (f a)) h
theorem tc_obj {ct : Nat → ClassId} {f : TF} {a kd ci : Nat} {fl : List FD} (hm : tk f a = kd) (hkd : KDs[kd]? = some (.inl (ci, fl))) : tc_e ct (f a) = .inr (ci, fl.mapIdx (fun j d => slotv d (f a) j)) := by
  unfold tc_e
  have : (f a).1 = kd := hm
  rw [this, hkd]
theorem tc_objc {ct : Nat → ClassId} {c : TC} {kd ci : Nat} {fl : List FD} (hm : c.1 = kd) (hkd : KDs[kd]? = some (.inl (ci, fl))) : tc_e ct c = .inr (ci, fl.mapIdx (fun j d => slotv d c j)) := by
  unfold tc_e
  rw [hm, hkd]
theorem tc_arr {ct : Nat → ClassId} {c : TC} {kd t n : Nat} {e : FD} (hm : c.1 = kd) (hkd : KDs[kd]? = some (.inr (t, n, e))) : tc_e ct c = .inl (ct t, n, arrp e c) := by
  unfold tc_e
  rw [hm, hkd]
theorem tw_fix {A : Nat → Prop} {ct : Nat → ClassId} {L : List Nat} {f : TF} {a : Nat} {c' : TC} (hD : va_D A (TW ct L f)) (hm : a ∈ L) {q0 : Nat} (he : (TW ct L f)[q0]? = some (a, tc_e ct (f a))) : (TW ct L f).set q0 (a, tc_e ct c') = TW ct L (va_up f a c') := by
  have h := va_pl_set (X := []) (f := fun a => tc_e ct (f a)) (e := tc_e ct c') hD hm he
  refine h.trans ?_
  show va_pl L _ = va_pl L _
  apply va_pl_congr
  intro b
  unfold va_up
  split <;> rfl
theorem slot_obj {kd ci k : Nat} {fl : List FD} {d : FD} (hkd : KDs[kd]? = some (.inl (ci, fl))) (hfd : fl[k]? = some d) : slotD kd k = some d := by
  unfold slotD; rw [hkd]; exact hfd
theorem slot_arr {kd t n k : Nat} {d : FD} (hkd : KDs[kd]? = some (.inr (t, n, d))) (hk : k < n) : slotD kd k = some d := by
  unfold slotD; rw [hkd]; simp [hk]
theorem Ok.i {L : List Nat} {f : TF} (hO : Ok L f) {a kd j : Nat} (hm : a ∈ L ∧ tk f a = kd) {lo hi : Int32} (hs : slotD kd j = some (.inl (lo, hi))) : ¬ ti f a j < lo ∧ ¬ hi < ti f a j := hO a hm.1 j (.inl (lo, hi)) (by rw [show (f a).1 = kd from hm.2]; exact hs)
theorem Ok.q {L : List Nat} {f : TF} (hO : Ok L f) {a kd j : Nat} (hm : a ∈ L ∧ tk f a = kd) {k' : Nat} {n : Bool} (hs : slotD kd j = some (.inr (.inr (k', n)))) : (tr f a j = none ∧ n = true) ∨ ∃ b, tr f a j = some b ∧ b ∈ L ∧ tk f b = k' := by
  have h := hO a hm.1 j _ (by rw [show (f a).1 = kd from hm.2]; exact hs)
  unfold okF at h
  unfold tr
  cases hr : (f a).2.2.2 j with
  | none => simp only [hr] at h; exact Or.inl ⟨rfl, h⟩
  | some b => simp only [hr] at h; exact Or.inr ⟨b, rfl, h⟩
theorem mi_set {fl : List FD} {c c' : TC} {k : Nat} {v : Value} {d : FD} (hfd : fl[k]? = some d) (hv : slotv d c' k = v) (h : ∀ j d', j ≠ k → slotv d' c' j = slotv d' c j) : (fl.mapIdx (fun j d => slotv d c j)).set k v = fl.mapIdx (fun j d => slotv d c' j) := by
  apply List.ext_getElem?
  intro j
  by_cases e : j = k
  · subst e
    have hl := (List.getElem?_eq_some_iff.mp hfd).1
    rw [List.getElem?_set_self (by simpa using hl), List.getElem?_mapIdx, hfd]
    simp [hv]
  · rw [List.getElem?_set_ne (Ne.symm e), List.getElem?_mapIdx, List.getElem?_mapIdx]
    cases fl[j]? with
    | none => rfl
    | some d' => simp [h j d' e]
def sI (f : TF) (a k : Nat) (v : Int32) : TF := va_up f a ((f a).1, upd (f a).2.1 k v, (f a).2.2.1, (f a).2.2.2)
def sL (f : TF) (a k : Nat) (v : Int64) : TF := va_up f a ((f a).1, (f a).2.1, vp_updL (f a).2.2.1 k v, (f a).2.2.2)
def sR (f : TF) (a k : Nat) (b : Nat) : TF := va_up f a ((f a).1, (f a).2.1, (f a).2.2.1, va_up (f a).2.2.2 k (some b))
def nC (f : TF) (q k : Nat) : TF := va_up f q (k, fun _ => 0, fun _ => 0, fun _ => none)
def kC (f : TF) (q k : Nat) : TF := va_up f q (k, (f q).2)
section TWR
variable {p : Program} {l : Launch} {e : Env} {R : Room} {s : State} {m : MethodId} {args : Array Value} {below : List Frame} {meth : Method} {c : Code} {H : Heap} {locs : List Loc} {cells slots : Nat} {Q : State → Prop}
variable {cc : ByteArray} {pc : Nat} {ls : Array Slot} {rest : List Value} {D : va_G} {cl : List vw_C} {A : Nat → Prop} {a : Nat} {tys : List (ClassId × FieldType)} {H0 : Heap} {ct : Nat → ClassId} {L : List Nat} {f : TF} {kd : Nat}
theorem tw_recv {q : vw_C} {ci : Nat} {fl : List FD} (hK : va_K D cl tys s) (hP : va_P D cl (TW ct L f) H) (hm : a ∈ L ∧ tk f a = kd) (hkd : KDs[kd]? = some (.inl (ci, fl))) (hc : cl[ci]? = some q) : ∃ cell : Cell, H[a]? = some cell ∧ cell.vm.isStatics = false ∧ s.vm.findClass q.1 = some cell.cls := by
  obtain ⟨q0, he⟩ := tw_at (ct := ct) (f := f) hm.1
  rw [tc_obj hm.2 hkd] at he
  exact va_recv hK hP hc he
theorem tw_get (hexec : p.tables.exec = Jvm.exec) (hb : c.code = cc) {own ref C : String} {T : u_T} {N ci index : Nat} {Ts : List Cond} (hts : ∀ w ∈ Ts, w.before args s = true) (hin : ∀ w ∈ u_ws C T N, w ∈ Ts) (hown : s.vm.findClass own = some m.cls) (hK : va_K D cl tys s) (hP : va_P D cl (TW ct L f) H) (hm : a ∈ L ∧ tk f a = kd) {fl : List FD} (hkd : KDs[kd]? = some (.inl (ci, fl))) (hc : cl[ci]? = some (C, T, N)) (k : Nat) (hk : k < N) (hlink : (Cond.fieldLink own index ref (T k).2.1 (T k).2.2.1).before args s = true) (hsame : ∀ x, s.fieldFound? (T k).1 (T k).2.1 (T k).2.2.1 = some x → s.fieldFound? ref (T k).2.1 (T k).2.2.1 = some x) {d : FD} (hfd : fl[k]? = some d) (hdg : decode cc pc = .ok (.getfield index, 3))
    (kk : W p l e R s m args below meth c H locs cells slots Q (F0 m (pc + 3) ls (slotv d (f a) k :: rest))) : W p l e R s m args below meth c H locs cells slots Q (F0 m pc ls (.ref a :: rest)) := by
  obtain ⟨q0, he⟩ := tw_at (ct := ct) (f := f) hm.1
  rw [tc_obj hm.2 hkd] at he
  exact va_get hexec hb hts hin hown hK hP q0 he hc k hk hlink hsame (v := slotv d (f a) k) (by rw [List.getElem?_mapIdx, hfd]; rfl) hdg kk
theorem tw_geti (hexec : p.tables.exec = Jvm.exec) (hb : c.code = cc) {own ref C : String} {T : u_T} {N ci index : Nat} {Ts : List Cond} (hts : ∀ w ∈ Ts, w.before args s = true) (hin : ∀ w ∈ u_ws C T N, w ∈ Ts) (hown : s.vm.findClass own = some m.cls) (hK : va_K D cl tys s) (hP : va_P D cl (TW ct L f) H) (hO : Ok L f) (hm : a ∈ L ∧ tk f a = kd) {fl : List FD} (hkd : KDs[kd]? = some (.inl (ci, fl))) (hc : cl[ci]? = some (C, T, N)) (k : Nat) (hk : k < N) (hlink : (Cond.fieldLink own index ref (T k).2.1 (T k).2.2.1).before args s = true) (hsame : ∀ x, s.fieldFound? (T k).1 (T k).2.1 (T k).2.2.1 = some x → s.fieldFound? ref (T k).2.1 (T k).2.2.1 = some x) {lo hi : Int32} (hfd : fl[k]? = some (.inl (lo, hi))) (hdg : decode cc pc = .ok (.getfield index, 3))
    (kk : ∀ x : Int32, ti f a k = x → ¬ x < lo ∧ ¬ hi < x → W p l e R s m args below meth c H locs cells slots Q (F0 m (pc + 3) ls (.int x :: rest))) : W p l e R s m args below meth c H locs cells slots Q (F0 m pc ls (.ref a :: rest)) :=
  tw_get hexec hb hts hin hown hK hP hm hkd hc k hk hlink hsame hfd hdg (kk _ rfl (hO.i hm (slot_obj hkd hfd)))
theorem tw_getI (hexec : p.tables.exec = Jvm.exec) (hb : c.code = cc) {own ref C : String} {T : u_T} {N ci index : Nat} {Ts : List Cond} (hts : ∀ w ∈ Ts, w.before args s = true) (hin : ∀ w ∈ u_ws C T N, w ∈ Ts) (hown : s.vm.findClass own = some m.cls) (hK : va_K D cl tys s) (hP : va_P D cl (TW ct L f) H) {x : Int32} (hm : a ∈ L ∧ tk f a = kd) {fl : List FD} (hkd : KDs[kd]? = some (.inl (ci, fl))) (hc : cl[ci]? = some (C, T, N)) (k : Nat) (hx : ti f a k = x) (hk : k < N) (hlink : (Cond.fieldLink own index ref (T k).2.1 (T k).2.2.1).before args s = true) (hsame : ∀ x, s.fieldFound? (T k).1 (T k).2.1 (T k).2.2.1 = some x → s.fieldFound? ref (T k).2.1 (T k).2.2.1 = some x) {b : Int32 × Int32} (hfd : fl[k]? = some (.inl b)) (hdg : decode cc pc = .ok (.getfield index, 3))
    (kk : W p l e R s m args below meth c H locs cells slots Q (F0 m (pc + 3) ls (.int x :: rest))) : W p l e R s m args below meth c H locs cells slots Q (F0 m pc ls (.ref a :: rest)) := by
  refine tw_get hexec hb hts hin hown hK hP hm hkd hc k hk hlink hsame hfd hdg ?_
  rw [show slotv (.inl b) (f a) k = .int x from congrArg Value.int hx]
  exact kk
theorem tw_getl (hexec : p.tables.exec = Jvm.exec) (hb : c.code = cc) {own ref C : String} {T : u_T} {N ci index : Nat} {Ts : List Cond} (hts : ∀ w ∈ Ts, w.before args s = true) (hin : ∀ w ∈ u_ws C T N, w ∈ Ts) (hown : s.vm.findClass own = some m.cls) (hK : va_K D cl tys s) (hP : va_P D cl (TW ct L f) H) (hm : a ∈ L ∧ tk f a = kd) {fl : List FD} (hkd : KDs[kd]? = some (.inl (ci, fl))) (hc : cl[ci]? = some (C, T, N)) (k : Nat) (hk : k < N) (hlink : (Cond.fieldLink own index ref (T k).2.1 (T k).2.2.1).before args s = true) (hsame : ∀ x, s.fieldFound? (T k).1 (T k).2.1 (T k).2.2.1 = some x → s.fieldFound? ref (T k).2.1 (T k).2.2.1 = some x) (hfd : fl[k]? = some (.inr (.inl ()))) (hdg : decode cc pc = .ok (.getfield index, 3))
    (kk : ∀ x : Int64, tl f a k = x → W p l e R s m args below meth c H locs cells slots Q (F0 m (pc + 3) ls (.long x :: rest))) : W p l e R s m args below meth c H locs cells slots Q (F0 m pc ls (.ref a :: rest)) :=
  tw_get hexec hb hts hin hown hK hP hm hkd hc k hk hlink hsame hfd hdg (kk _ rfl)
theorem tw_getR (hexec : p.tables.exec = Jvm.exec) (hb : c.code = cc) {own ref C : String} {T : u_T} {N ci index : Nat} {Ts : List Cond} (hts : ∀ w ∈ Ts, w.before args s = true) (hin : ∀ w ∈ u_ws C T N, w ∈ Ts) (hown : s.vm.findClass own = some m.cls) (hK : va_K D cl tys s) (hP : va_P D cl (TW ct L f) H) {x : Option Nat} (hm : a ∈ L ∧ tk f a = kd) {fl : List FD} (hkd : KDs[kd]? = some (.inl (ci, fl))) (hc : cl[ci]? = some (C, T, N)) (k : Nat) (hx : tr f a k = x) (hk : k < N) (hlink : (Cond.fieldLink own index ref (T k).2.1 (T k).2.2.1).before args s = true) (hsame : ∀ x, s.fieldFound? (T k).1 (T k).2.1 (T k).2.2.1 = some x → s.fieldFound? ref (T k).2.1 (T k).2.2.1 = some x) {b : Nat × Bool} (hfd : fl[k]? = some (.inr (.inr b))) (hdg : decode cc pc = .ok (.getfield index, 3))
    (kk : W p l e R s m args below meth c H locs cells slots Q (F0 m (pc + 3) ls (va_rf x :: rest))) : W p l e R s m args below meth c H locs cells slots Q (F0 m pc ls (.ref a :: rest)) := by
  refine tw_get hexec hb hts hin hown hK hP hm hkd hc k hk hlink hsame hfd hdg ?_
  rw [show slotv (.inr (.inr b)) (f a) k = va_rf x from congrArg va_rf hx]
  exact kk
theorem tw_getr (hexec : p.tables.exec = Jvm.exec) (hb : c.code = cc) {own ref C : String} {T : u_T} {N ci index : Nat} {Ts : List Cond} (hts : ∀ w ∈ Ts, w.before args s = true) (hin : ∀ w ∈ u_ws C T N, w ∈ Ts) (hown : s.vm.findClass own = some m.cls) (hK : va_K D cl tys s) (hP : va_P D cl (TW ct L f) H) (hO : Ok L f) (hm : a ∈ L ∧ tk f a = kd) {fl : List FD} (hkd : KDs[kd]? = some (.inl (ci, fl))) (hc : cl[ci]? = some (C, T, N)) (k : Nat) (hk : k < N) (hlink : (Cond.fieldLink own index ref (T k).2.1 (T k).2.2.1).before args s = true) (hsame : ∀ x, s.fieldFound? (T k).1 (T k).2.1 (T k).2.2.1 = some x → s.fieldFound? ref (T k).2.1 (T k).2.2.1 = some x) {k' : Nat} (hfd : fl[k]? = some (.inr (.inr (k', false)))) (hdg : decode cc pc = .ok (.getfield index, 3))
    (kk : ∀ b : Nat, tr f a k = some b → b ∈ L ∧ tk f b = k' → W p l e R s m args below meth c H locs cells slots Q (F0 m (pc + 3) ls (.ref b :: rest))) : W p l e R s m args below meth c H locs cells slots Q (F0 m pc ls (.ref a :: rest)) := by
  rcases hO.q hm (slot_obj hkd hfd) with ⟨-, h⟩ | ⟨b, h1, h2⟩
  · cases h
  · exact tw_getR hexec hb hts hin hown hK hP hm hkd hc k h1 hk hlink hsame hfd hdg (kk b h1 h2)
theorem tw_getq (hexec : p.tables.exec = Jvm.exec) (hb : c.code = cc) {own ref C : String} {T : u_T} {N ci index : Nat} {Ts : List Cond} (hts : ∀ w ∈ Ts, w.before args s = true) (hin : ∀ w ∈ u_ws C T N, w ∈ Ts) (hown : s.vm.findClass own = some m.cls) (hK : va_K D cl tys s) (hP : va_P D cl (TW ct L f) H) (hO : Ok L f) (hm : a ∈ L ∧ tk f a = kd) {fl : List FD} (hkd : KDs[kd]? = some (.inl (ci, fl))) (hc : cl[ci]? = some (C, T, N)) (k : Nat) (hk : k < N) (hlink : (Cond.fieldLink own index ref (T k).2.1 (T k).2.2.1).before args s = true) (hsame : ∀ x, s.fieldFound? (T k).1 (T k).2.1 (T k).2.2.1 = some x → s.fieldFound? ref (T k).2.1 (T k).2.2.1 = some x) {k' : Nat} (hfd : fl[k]? = some (.inr (.inr (k', true)))) (hdg : decode cc pc = .ok (.getfield index, 3))
    (kn : tr f a k = none → W p l e R s m args below meth c H locs cells slots Q (F0 m (pc + 3) ls (.null :: rest)))
    (kk : ∀ b : Nat, tr f a k = some b → b ∈ L ∧ tk f b = k' → W p l e R s m args below meth c H locs cells slots Q (F0 m (pc + 3) ls (.ref b :: rest))) : W p l e R s m args below meth c H locs cells slots Q (F0 m pc ls (.ref a :: rest)) := by
  rcases hO.q hm (slot_obj hkd hfd) with ⟨h, -⟩ | ⟨b, h1, h2⟩
  · exact tw_getR hexec hb hts hin hown hK hP hm hkd hc k h hk hlink hsame hfd hdg (kn h)
  · exact tw_getR hexec hb hts hin hown hK hP hm hkd hc k h1 hk hlink hsame hfd hdg (kk b h1 h2)
/-- a field's writing: the cell c' stands behind it -/
theorem tw_put (hexec : p.tables.exec = Jvm.exec) (hb : c.code = cc) {own ref C : String} {T : u_T} {N ci index : Nat} {Ts : List Cond} (hts : ∀ w ∈ Ts, w.before args s = true) (hin : ∀ w ∈ u_ws C T N, w ∈ Ts) (ty0 : Nat → FieldType) (hty : ∀ k, k < N → parseFieldDescriptor (T k).2.2.1 = some (ty0 k)) (hnm : ∀ a, a < N → ∀ b, b < N → a ≠ b → (T a).2.1 ≠ (T b).2.1) (hown : s.vm.findClass own = some m.cls) (hK : va_K D cl tys s) (hP : va_P D cl (TW ct L f) H) (hD : va_D A (TW ct L f)) (hS : va_S A H0 H locs) (hm : a ∈ L ∧ tk f a = kd) {fl : List FD} (hkd : KDs[kd]? = some (.inl (ci, fl))) (hc : cl[ci]? = some (C, T, N)) (k : Nat) (hk : k < N) (hlink : (Cond.fieldLink own index ref (T k).2.1 (T k).2.2.1).before args s = true) (hsame : ∀ x, s.fieldFound? (T k).1 (T k).2.1 (T k).2.2.1 = some x → s.fieldFound? ref (T k).2.1 (T k).2.2.1 = some x) (hfin : (T k).2.2.2 = false) {ty : FieldType} {v : Value} (hd : parseFieldDescriptor (T k).2.2.1 = some ty) (hn : narrow ty v = v) (hfit : fits ty v = true) {d : FD} (hfd : fl[k]? = some d) (c' : TC) (hck : c'.1 = (f a).1) (hcv : slotv d c' k = v) (hco : ∀ j d', j ≠ k → slotv d' c' j = slotv d' (f a) j) (hdg : decode cc pc = .ok (.putfield index, 3))
    (kk : ∀ (H1 : Heap) (locs1 : List Loc), va_P D cl (TW ct L (va_up f a c')) H1 → va_D A (TW ct L (va_up f a c')) → va_S A H0 H1 locs1 → W p l e R s m args below meth c H1 locs1 cells slots Q (F0 m (pc + 3) ls rest)) : W p l e R s m args below meth c H locs cells slots Q (F0 m pc ls (v :: .ref a :: rest)) := by
  obtain ⟨q0, he⟩ := tw_at (ct := ct) (f := f) hm.1
  have he0 := he
  have hcE : tc_e ct c' = .inr (ci, (fl.mapIdx (fun j d => slotv d (f a) j)).set k v) := by
    rw [tc_objc (hck.trans hm.2) hkd, mi_set hfd hcv hco]
  rw [tc_obj hm.2 hkd] at he
  refine va_put hexec hb hts hin ty0 hty hnm hown hK hP hD hS q0 he hc k hk hlink hsame hfin hd hn hfit (by have := (List.getElem?_eq_some_iff.mp hfd).1; simpa using this) hdg (fun H1 locs1 gP gD gS => ?_)
  rw [← hcE, tw_fix hD hm.1 he0] at gP gD
  exact kk H1 locs1 gP gD gS
theorem tw_puti (hexec : p.tables.exec = Jvm.exec) (hb : c.code = cc) {own ref C : String} {T : u_T} {N ci index : Nat} {Ts : List Cond} (hts : ∀ w ∈ Ts, w.before args s = true) (hin : ∀ w ∈ u_ws C T N, w ∈ Ts) (ty0 : Nat → FieldType) (hty : ∀ k, k < N → parseFieldDescriptor (T k).2.2.1 = some (ty0 k)) (hnm : ∀ a, a < N → ∀ b, b < N → a ≠ b → (T a).2.1 ≠ (T b).2.1) (hown : s.vm.findClass own = some m.cls) (hK : va_K D cl tys s) (hP : va_P D cl (TW ct L f) H) (hD : va_D A (TW ct L f)) (hS : va_S A H0 H locs) (hO : Ok L f) (hm : a ∈ L ∧ tk f a = kd) {fl : List FD} (hkd : KDs[kd]? = some (.inl (ci, fl))) (hc : cl[ci]? = some (C, T, N)) (k : Nat) (hk : k < N) (hlink : (Cond.fieldLink own index ref (T k).2.1 (T k).2.2.1).before args s = true) (hsame : ∀ x, s.fieldFound? (T k).1 (T k).2.1 (T k).2.2.1 = some x → s.fieldFound? ref (T k).2.1 (T k).2.2.1 = some x) (hfin : (T k).2.2.2 = false) {ty : FieldType} {v : Int32} (hd : parseFieldDescriptor (T k).2.2.1 = some ty) (hn : narrow ty (.int v) = .int v) (hfit : fits ty (.int v) = true) {lo hi : Int32} (hfd : fl[k]? = some (.inl (lo, hi))) (hv : ¬ v < lo ∧ ¬ hi < v) (hdg : decode cc pc = .ok (.putfield index, 3))
    (kk : ∀ (f1 : TF) (H1 : Heap) (locs1 : List Loc), va_P D cl (TW ct L f1) H1 → va_D A (TW ct L f1) → va_S A H0 H1 locs1 → Ok L f1 → Ext [(kd, k)] L f L f1 → ti f1 a k = v → f1 = sI f a k v → W p l e R s m args below meth c H1 locs1 cells slots Q (F0 m (pc + 3) ls rest)) : W p l e R s m args below meth c H locs cells slots Q (F0 m pc ls (.int v :: .ref a :: rest)) := by
  have hkk : (f a).1 = kd := hm.2
  refine tw_put hexec hb hts hin ty0 hty hnm hown hK hP hD hS hm hkd hc k hk hlink hsame hfin hd hn hfit hfd ((f a).1, upd (f a).2.1 k v, (f a).2.2.1, (f a).2.2.2) rfl (by simp [slotv, upd]) (fun j d' hj => ?_) hdg (fun H1 locs1 gP gD gS => kk _ H1 locs1 gP gD gS ?_ ?_ ?_ rfl)
  · match d' with
    | .inl _ => simp [slotv, upd, hj]
    | .inr (.inl _) => rfl
    | .inr (.inr _) => rfl
  · refine ok_up hO rfl (fun j d hd => ?_)
    have hd0 := hO a hm.1 j d hd
    by_cases hj : j = k
    · subst hj
      rw [show slotD (f a).1 j = slotD kd j by rw [hkk]] at hd
      rw [slot_obj hkd hfd] at hd
      cases hd
      show ¬ upd _ _ _ _ < lo ∧ ¬ hi < upd _ _ _ _
      simpa [upd] using hv
    · match d with
      | .inl b => simpa [okF, upd, hj] using hd0
      | .inr (.inl _) => trivial
      | .inr (.inr q) => exact hd0
  · refine ext_up rfl (fun j hj => ⟨?_, rfl, rfl⟩)
    have : j ≠ k := by
      intro e
      subst e
      simp [wr, hkk] at hj
    simp [upd, this]
  · simp [ti, upd, va_up]
theorem tw_putl (hexec : p.tables.exec = Jvm.exec) (hb : c.code = cc) {own ref C : String} {T : u_T} {N ci index : Nat} {Ts : List Cond} (hts : ∀ w ∈ Ts, w.before args s = true) (hin : ∀ w ∈ u_ws C T N, w ∈ Ts) (ty0 : Nat → FieldType) (hty : ∀ k, k < N → parseFieldDescriptor (T k).2.2.1 = some (ty0 k)) (hnm : ∀ a, a < N → ∀ b, b < N → a ≠ b → (T a).2.1 ≠ (T b).2.1) (hown : s.vm.findClass own = some m.cls) (hK : va_K D cl tys s) (hP : va_P D cl (TW ct L f) H) (hD : va_D A (TW ct L f)) (hS : va_S A H0 H locs) (hO : Ok L f) (hm : a ∈ L ∧ tk f a = kd) {fl : List FD} (hkd : KDs[kd]? = some (.inl (ci, fl))) (hc : cl[ci]? = some (C, T, N)) (k : Nat) (hk : k < N) (hlink : (Cond.fieldLink own index ref (T k).2.1 (T k).2.2.1).before args s = true) (hsame : ∀ x, s.fieldFound? (T k).1 (T k).2.1 (T k).2.2.1 = some x → s.fieldFound? ref (T k).2.1 (T k).2.2.1 = some x) (hfin : (T k).2.2.2 = false) {ty : FieldType} {v : Int64} (hd : parseFieldDescriptor (T k).2.2.1 = some ty) (hn : narrow ty (.long v) = .long v) (hfit : fits ty (.long v) = true) (hfd : fl[k]? = some (.inr (.inl ()))) (hdg : decode cc pc = .ok (.putfield index, 3))
    (kk : ∀ (f1 : TF) (H1 : Heap) (locs1 : List Loc), va_P D cl (TW ct L f1) H1 → va_D A (TW ct L f1) → va_S A H0 H1 locs1 → Ok L f1 → Ext [(kd, k)] L f L f1 → tl f1 a k = v → f1 = sL f a k v → W p l e R s m args below meth c H1 locs1 cells slots Q (F0 m (pc + 3) ls rest)) : W p l e R s m args below meth c H locs cells slots Q (F0 m pc ls (.long v :: .ref a :: rest)) := by
  have hkk : (f a).1 = kd := hm.2
  refine tw_put hexec hb hts hin ty0 hty hnm hown hK hP hD hS hm hkd hc k hk hlink hsame hfin hd hn hfit hfd ((f a).1, (f a).2.1, vp_updL (f a).2.2.1 k v, (f a).2.2.2) rfl (by simp [slotv, vp_updL]) (fun j d' hj => ?_) hdg (fun H1 locs1 gP gD gS => kk _ H1 locs1 gP gD gS ?_ ?_ ?_ rfl)
  · match d' with
    | .inl _ => rfl
    | .inr (.inl _) => simp [slotv, vp_updL, hj]
    | .inr (.inr _) => rfl
  · refine ok_up hO rfl (fun j d hd => ?_)
    have hd0 := hO a hm.1 j d hd
    match d with
    | .inl b => exact hd0
    | .inr (.inl _) => trivial
    | .inr (.inr q) => exact hd0
  · refine ext_up rfl (fun j hj => ⟨rfl, ?_, rfl⟩)
    have : j ≠ k := by
      intro e
      subst e
      simp [wr, hkk] at hj
    simp [vp_updL, this]
  · simp [tl, vp_updL, va_up]
theorem tw_putr (hexec : p.tables.exec = Jvm.exec) (hb : c.code = cc) {own ref C : String} {T : u_T} {N ci index : Nat} {Ts : List Cond} (hts : ∀ w ∈ Ts, w.before args s = true) (hin : ∀ w ∈ u_ws C T N, w ∈ Ts) (ty0 : Nat → FieldType) (hty : ∀ k, k < N → parseFieldDescriptor (T k).2.2.1 = some (ty0 k)) (hnm : ∀ a, a < N → ∀ b, b < N → a ≠ b → (T a).2.1 ≠ (T b).2.1) (hown : s.vm.findClass own = some m.cls) (hK : va_K D cl tys s) (hP : va_P D cl (TW ct L f) H) (hD : va_D A (TW ct L f)) (hS : va_S A H0 H locs) (hO : Ok L f) (hm : a ∈ L ∧ tk f a = kd) {fl : List FD} (hkd : KDs[kd]? = some (.inl (ci, fl))) (hc : cl[ci]? = some (C, T, N)) (k : Nat) (hk : k < N) (hlink : (Cond.fieldLink own index ref (T k).2.1 (T k).2.2.1).before args s = true) (hsame : ∀ x, s.fieldFound? (T k).1 (T k).2.1 (T k).2.2.1 = some x → s.fieldFound? ref (T k).2.1 (T k).2.2.1 = some x) (hfin : (T k).2.2.2 = false) {ty : FieldType} {b k' : Nat} {nu : Bool} (hd : parseFieldDescriptor (T k).2.2.1 = some ty) (hn : narrow ty (.ref b) = .ref b) (hfit : fits ty (.ref b) = true) (hfd : fl[k]? = some (.inr (.inr (k', nu)))) (hv : b ∈ L ∧ tk f b = k') (hdg : decode cc pc = .ok (.putfield index, 3))
    (kk : ∀ (f1 : TF) (H1 : Heap) (locs1 : List Loc), va_P D cl (TW ct L f1) H1 → va_D A (TW ct L f1) → va_S A H0 H1 locs1 → Ok L f1 → Ext [(kd, k)] L f L f1 → tr f1 a k = some b → f1 = sR f a k b → W p l e R s m args below meth c H1 locs1 cells slots Q (F0 m (pc + 3) ls rest)) : W p l e R s m args below meth c H locs cells slots Q (F0 m pc ls (.ref b :: .ref a :: rest)) := by
  have hkk : (f a).1 = kd := hm.2
  refine tw_put hexec hb hts hin ty0 hty hnm hown hK hP hD hS hm hkd hc k hk hlink hsame hfin hd hn hfit hfd ((f a).1, (f a).2.1, (f a).2.2.1, va_up (f a).2.2.2 k (some b)) rfl (by simp [slotv, va_up, va_rf]) (fun j d' hj => ?_) hdg (fun H1 locs1 gP gD gS => kk _ H1 locs1 gP gD gS ?_ ?_ ?_ rfl)
  · match d' with
    | .inl _ => rfl
    | .inr (.inl _) => rfl
    | .inr (.inr _) => simp [slotv, va_up, hj]
  · refine ok_up hO rfl (fun j d hd => ?_)
    have hd0 := hO a hm.1 j d hd
    by_cases hj : j = k
    · subst hj
      rw [show slotD (f a).1 j = slotD kd j by rw [hkk]] at hd
      rw [slot_obj hkd hfd] at hd
      cases hd
      simp only [okF, va_up_self]
      exact hv
    · match d with
      | .inl b => exact hd0
      | .inr (.inl _) => trivial
      | .inr (.inr q) => simpa [okF, va_up, hj] using hd0
  · refine ext_up rfl (fun j hj => ⟨rfl, rfl, ?_⟩)
    have : j ≠ k := by
      intro e
      subst e
      simp [wr, hkk] at hj
    simp [va_up, this]
  · simp [tr, va_up]
end TWR
theorem i32_full (v : Int32) : ¬ v < (-2147483648) ∧ ¬ 2147483647 < v := by
  have h := fb_rng v
  have z1 : (-2147483648 : Int32).toInt = -2147483648 := by decide +kernel
  have z2 : (2147483647 : Int32).toInt = 2147483647 := by decide +kernel
  constructor
  · rw [Int32.lt_iff_toInt_lt]; omega
  · rw [Int32.lt_iff_toInt_lt]; omega
section HBA
variable {p : Program} {l : Launch} {e : Env} {R : Room} {s : State} {m : MethodId} {args : Array Value} {below : List Frame} {meth : Method} {c : Code} {H : Heap} {locs : List Loc} {cells slots : Nat} {Q : State → Prop}
variable {pc : Nat} {ls : Array Slot} {rest : List Value}
theorem hb_anyi {x : Int32} (k : ∀ v : Int32, W p l e R s m args below meth c H locs cells slots Q (F0 m pc ls (.int v :: rest))) : W p l e R s m args below meth c H locs cells slots Q (F0 m pc ls (.int x :: rest)) := k x
theorem hb_anyl {x : Int64} (k : ∀ v : Int64, W p l e R s m args below meth c H locs cells slots Q (F0 m pc ls (.long v :: rest))) : W p l e R s m args below meth c H locs cells slots Q (F0 m pc ls (.long x :: rest)) := k x
theorem hb_eql {x : Int64} (k : ∀ v : Int64, v = x → W p l e R s m args below meth c H locs cells slots Q (F0 m pc ls (.long v :: rest))) : W p l e R s m args below meth c H locs cells slots Q (F0 m pc ls (.long x :: rest)) := k x rfl
theorem hb_eqi {x : Int32} (k : ∀ v : Int32, v = x → W p l e R s m args below meth c H locs cells slots Q (F0 m pc ls (.int v :: rest))) : W p l e R s m args below meth c H locs cells slots Q (F0 m pc ls (.int x :: rest)) := k x rfl
end HBA
theorem hb_l0 {x : Int32} (h : ¬ x = 0) : ¬ x.toInt64 = 0 := by
  intro e
  apply h
  have h1 : x.toInt64.toInt = 0 := by rw [e]; rfl
  rw [Int32.toInt_toInt64] at h1
  exact Int32.toInt_inj.mp (by rw [h1]; rfl)
section HBD
variable {p : Program} {l : Launch} {e : Env} {R : Room} {s : State} {m : MethodId} {args : Array Value} {below : List Frame} {meth : Method} {c0 : Code} {H : Heap} {locs : List Loc} {cells slots : Nat} {Q : State → Prop}
variable {pc : Nat} {ls : Array Slot} {rest : List Value}
theorem hb_divf {x c C1 K : Int32} (hc : 0 < c.toInt) (hC : C1.toInt = c.toInt - 1) (hK : K.toInt + c.toInt ≤ 2147483647) (h0 : ¬ x < 0) (h1 : ¬ K < x) : ¬ x / c < 0 ∧ ¬ x < x / c ∧ ¬ x < x / c * c ∧ ¬ (x / c * c + C1) < x ∧ (x / c * c).toInt = x.toInt / c.toInt * c.toInt := by
  rw [Int32.lt_iff_toInt_lt] at h0 h1
  have z0 : (0 : Int32).toInt = 0 := by decide
  rw [z0] at h0
  have d := hb_divI (x := x) (y := c) (by omega) hc
  have q0 : 0 ≤ x.toInt / c.toInt := Int.ediv_nonneg (by omega) (by omega)
  have q1 : x.toInt / c.toInt * c.toInt ≤ x.toInt := Int.ediv_mul_le _ (by omega)
  have q2 : x.toInt < (x.toInt / c.toInt + 1) * c.toInt := Int.lt_ediv_add_one_mul_self _ hc
  have q3 : (x.toInt / c.toInt + 1) * c.toInt = x.toInt / c.toInt * c.toInt + c.toInt := by rw [Int.add_mul, Int.one_mul]
  have q4 : 0 ≤ x.toInt / c.toInt * c.toInt := Int.mul_nonneg q0 (by omega)
  have q5 : x.toInt / c.toInt ≤ x.toInt := Int.ediv_le_self _ (by omega)
  have r := fb_rng x
  have m1 : (x / c * c).toInt = x.toInt / c.toInt * c.toInt := by
    rw [fb_mulI (by rw [d]; omega) (by rw [d]; omega), d]
  have m2 : (x / c * c + C1).toInt = x.toInt / c.toInt * c.toInt + C1.toInt := by
    rw [fb_addI (by rw [m1]; omega) (by rw [m1]; omega), m1]
  refine ⟨?_, ?_, ?_, ?_, m1⟩
  · rw [Int32.lt_iff_toInt_lt, d, z0]; omega
  · rw [Int32.lt_iff_toInt_lt, d]; omega
  · rw [Int32.lt_iff_toInt_lt, m1]; omega
  · rw [Int32.lt_iff_toInt_lt, m2]; omega
theorem hb_divu {x c U Qm : Int32} (hc : 0 < c.toInt) (h0 : ¬ x < 0) (hu : ¬ U < x) (hQ : U.toInt / c.toInt ≤ Qm.toInt) : ¬ Qm < x / c := by
  rw [Int32.lt_iff_toInt_lt] at h0 hu ⊢
  have z0 : (0 : Int32).toInt = 0 := by decide
  rw [z0] at h0
  rw [hb_divI (by omega) hc]
  have h1 := Int.ediv_le_ediv hc (show x.toInt ≤ U.toInt by omega)
  omega
theorem hb_divn {x c C1 K U Qm : Int32} (hc : 0 < c.toInt) (hC : C1.toInt = c.toInt - 1) (hK : K.toInt + c.toInt ≤ 2147483647) (h0 : ¬ x < 0) (h1 : ¬ K < x) (hu : ¬ U < x) (hQ : U.toInt / c.toInt ≤ Qm.toInt) (k : ∀ y : Int32, ¬ y < 0 → ¬ x < y → ¬ x < y * c → ¬ (y * c + C1) < x → ¬ Qm < y → y = x / c → W p l e R s m args below meth c0 H locs cells slots Q (F0 m pc ls (.int y :: rest))) : W p l e R s m args below meth c0 H locs cells slots Q (F0 m pc ls (.int (x / c) :: rest)) := by
  obtain ⟨a1, a2, a3, a4, -⟩ := hb_divf hc hC hK h0 h1
  exact k _ a1 a2 a3 a4 (hb_divu hc h0 hu hQ) rfl
theorem hb_remn {x c C1 K : Int32} (hc : 0 < c.toInt) (hC : C1.toInt = c.toInt - 1) (hK : K.toInt + c.toInt ≤ 2147483647) (h0 : ¬ x < 0) (h1 : ¬ K < x) (k : ∀ y q : Int32, ¬ y < 0 → ¬ C1 < y → ¬ q < 0 → ¬ x < q → x = q * c + y → y = x - x / c * c → W p l e R s m args below meth c0 H locs cells slots Q (F0 m pc ls (.int y :: rest))) : W p l e R s m args below meth c0 H locs cells slots Q (F0 m pc ls (.int (x - x / c * c) :: rest)) := by
  obtain ⟨a1, a2, a3, a4, a5⟩ := hb_divf hc hC hK h0 h1
  have r := fb_rng x
  have z0 : (0 : Int32).toInt = 0 := by decide
  rw [Int32.lt_iff_toInt_lt] at h0 h1
  rw [z0] at h0
  have q1 : x.toInt / c.toInt * c.toInt ≤ x.toInt := Int.ediv_mul_le _ (by omega)
  have q2 : x.toInt < (x.toInt / c.toInt + 1) * c.toInt := Int.lt_ediv_add_one_mul_self _ hc
  have q3 : (x.toInt / c.toInt + 1) * c.toInt = x.toInt / c.toInt * c.toInt + c.toInt := by rw [Int.add_mul, Int.one_mul]
  have q0 : 0 ≤ x.toInt / c.toInt := Int.ediv_nonneg (by omega) (by omega)
  have q4 : 0 ≤ x.toInt / c.toInt * c.toInt := Int.mul_nonneg q0 (by omega)
  have s1 : (x - x / c * c).toInt = x.toInt - x.toInt / c.toInt * c.toInt := by
    rw [fb_subI (by rw [a5]; omega) (by rw [a5]; omega), a5]
  refine k _ (x / c) ?_ ?_ a1 a2 ?_ rfl
  · rw [Int32.lt_iff_toInt_lt, s1, z0]; omega
  · rw [Int32.lt_iff_toInt_lt, s1]; omega
  · rw [← Int32.toInt_inj, fb_addI (by rw [s1, a5]; omega) (by rw [s1, a5]; omega), s1, a5]; omega
end HBD
theorem ms_0 (x y : Int32) : x.toInt - y.toInt ≤ ((4294967296 : Nat) : Int) := by
  have h1 := fb_rng x
  have h2 := fb_rng y
  omega
theorem ms_1 {a b c d : Int} {n : Nat} (h : 1 ≤ a - b ∧ c - d + 1 ≤ a - b) (hm : a - b ≤ (n : Int)) : n - 1 < n := by omega
theorem ms_2 {a b c d : Int} {n : Nat} (h : 1 ≤ a - b ∧ c - d + 1 ≤ a - b) (hm : a - b ≤ (n : Int)) : c - d ≤ ((n - 1 : Nat) : Int) := by omega
theorem nd_add {x y : Int32} (h1 : -2147483648 ≤ x.toInt + y.toInt) (h2 : x.toInt + y.toInt < 2147483648) : ∃ n : Int32, x + y = n ∧ n.toInt = x.toInt + y.toInt := ⟨_, rfl, fb_addI h1 h2⟩
theorem nd_sub {x y : Int32} (h1 : -2147483648 ≤ x.toInt - y.toInt) (h2 : x.toInt - y.toInt < 2147483648) : ∃ n : Int32, x - y = n ∧ n.toInt = x.toInt - y.toInt := ⟨_, rfl, fb_subI h1 h2⟩
theorem nd_mul {x y : Int32} (h1 : -2147483648 ≤ x.toInt * y.toInt) (h2 : x.toInt * y.toInt < 2147483648) : ∃ n : Int32, x * y = n ∧ n.toInt = x.toInt * y.toInt := ⟨_, rfl, fb_mulI h1 h2⟩
theorem nd_div {x y : Int32} (h0 : 0 ≤ x.toInt) (hd : 0 < y.toInt) : ∃ n : Int32, x / y = n ∧ n.toInt = x.toInt / y.toInt := ⟨_, rfl, hb_divI h0 hd⟩
theorem ms_e (a b : Int32) : a.toInt - b.toInt ≤ (((a.toInt - b.toInt).toNat : Nat) : Int) := by omega
theorem ms_3 {a b c d : Int} {n : Nat} (h : 1 ≤ a - b ∧ c - d + 1 ≤ a - b) (hm : a - b ≤ (n : Int)) : 0 < n := by omega
