section HB
variable {p : Program} {l : Launch} {e : Env} {R : Room} {s : State} {m : MethodId} {args : Array Value} {below : List Frame} {meth : Method} {c : Code} {H : Heap} {locs : List Loc} {cells slots : Nat} {Q : State → Prop}
variable {cc : ByteArray} {pc : Nat} {ls : Array Slot} {rest : List Value}
theorem hb_tv {a : Value} (v : Value) (h : a = v) (k : W p l e R s m args below meth c H locs cells slots Q (F0 m pc ls (v :: rest))) : W p l e R s m args below meth c H locs cells slots Q (F0 m pc ls (a :: rest)) := by
  subst h; exact k
theorem hb_ti {x : Int32} (v : Int32) (h : x = v) (k : W p l e R s m args below meth c H locs cells slots Q (F0 m pc ls (.int v :: rest))) : W p l e R s m args below meth c H locs cells slots Q (F0 m pc ls (.int x :: rest)) := by
  subst h; exact k
theorem hb_tl {x : Int64} (v : Int64) (h : x = v) (k : W p l e R s m args below meth c H locs cells slots Q (F0 m pc ls (.long v :: rest))) : W p l e R s m args below meth c H locs cells slots Q (F0 m pc ls (.long x :: rest)) := by
  subst h; exact k
theorem hb_in {i N : Int32} {n : Nat} (h1 : ¬ i < 0) (h2 : ¬ N ≤ i) (hN : N.toInt ≤ (n : Int)) : vp_in i n := by
  rw [vp_in_iff]
  rw [Int32.lt_iff_toInt_lt] at h1
  rw [Int32.le_iff_toInt_le] at h2
  have h0 : (0 : Int32).toInt = 0 := by decide
  omega
theorem hb_inl {i N : Int32} {n : Nat} (h1 : ¬ i < 0) (h2 : ¬ N < i) (hN : N.toInt < (n : Int)) : vp_in i n := by
  rw [vp_in_iff]
  rw [Int32.lt_iff_toInt_lt] at h1 h2
  have h0 : (0 : Int32).toInt = 0 := by decide
  omega
theorem hb_inp {i N : Int32} {n : Nat} (h1 : ¬ i < 0) (h2 : i < N) (hN : N.toInt ≤ (n : Int)) : vp_in i n := by
  rw [vp_in_iff]
  rw [Int32.lt_iff_toInt_lt] at h1 h2
  have h0 : (0 : Int32).toInt = 0 := by decide
  omega
theorem hb_free {A0 : Nat → Prop} {ws : va_W} {H0 H : Heap} {locs : List Loc} (hD : va_D A0 ws) (hS : va_S A0 H0 H locs) (hA : ∀ q, H0.size ≤ q → A0 q) : ∀ q, va_A ws H.size q → A0 q := by
  intro q h
  rcases h with ⟨k, e, h⟩ | h
  · exact hD.2 k _ h
  · exact hA q (Nat.le_trans hS.1 h)
end HB
/-- the words of nest mates, and of the arrays of references -/
def NW (U : State) : Prop := (∀ w ∈ NWL, va_Nw w U) ∧ (∀ C ∈ AOL, va_AO C U) ∧ (Cond.arrayOver (.array .int)).before #[] U = true
theorem NW.warm {s U : State} (hW : s.WarmedH U.vm) (h : NW s) : NW U := by
  refine ⟨?_, fun C hC => va_AO.moved hW.alike (h.2.1 C hC), over_moved hW.alike h.2.2⟩
  intro w hw
  have h1 := h.1 w hw
  have h2 : ∀ w ∈ NWL, nw_is w = true := by decide +kernel
  have h3 := h2 w hw
  cases w <;> first | exact va_Nw.warmM hW h1 | exact absurd h3 (by simp [nw_is])
theorem NW.blind {U : State} {g : JFrame} {mk : MethodId} {a : Array Value} (h : NW U) : NW (U.calling g mk a) := by
  refine ⟨?_, fun C hC => va_AO.moved (u := U) (U := U.calling g mk a) (Vm.Alike.refl U.vm) (h.2.1 C hC), over_moved (u := U) (E := U.calling g mk a) (Vm.Alike.refl U.vm) h.2.2⟩
  intro w hw
  have h1 := h.1 w hw
  have h2 : ∀ w ∈ NWL, w.onTables = true := by decide +kernel
  exact va_Nw.same (u := U) (U := U.calling g mk a) (h2 w hw) rfl h1
def PR (dC : Nat → ClassId) (dI : Nat → Nat → Nat) (ws : va_W) (tys : List (ClassId × FieldType)) (U : State) : Prop := va_P (dC, dI) vwCl ws U.heap ∧ va_K (dC, dI) vwCl tys U ∧ NW U
def PC (dC : Nat → ClassId) (dI : Nat → Nat → Nat) (ws : va_W) (tys : List (ClassId × FieldType)) (sz : Nat) (U : State) : Prop := U.heap.size = sz ∧ va_P (dC, dI) vwCl ws U.heap ∧ va_K (dC, dI) vwCl tys U ∧ va_D (fun _ => True) ws ∧ NW U
theorem pr_blind {av : List Value} {dC : Nat → ClassId} {dI : Nat → Nat → Nat} {ws : va_W} {tys : List (ClassId × FieldType)} : FrameBlind (va_Pc av (PR dC dI ws tys)) := by
  intro a U g mk q
  obtain ⟨q0, qP, qK, qN⟩ := q
  exact ⟨q0, qP, va_K.moved (u := U) (U := U.calling g mk a) (Vm.Alike.refl U.vm) qK, qN.blind⟩
theorem pc_blind {av : List Value} {dC : Nat → ClassId} {dI : Nat → Nat → Nat} {ws : va_W} {tys : List (ClassId × FieldType)} {sz : Nat} : FrameBlind (va_Pc av (PC dC dI ws tys sz)) := by
  intro a U g mk q
  obtain ⟨q0, q1, qP, qK, qD, qN⟩ := q
  exact ⟨q0, q1, qP, va_K.moved (u := U) (U := U.calling g mk a) (Vm.Alike.refl U.vm) qK, qD, qN.blind⟩
theorem pr_pre {s : State} {H : Heap} {av : List Value} {dC : Nat → ClassId} {dI : Nat → Nat → Nat} {ws : va_W} {tys : List (ClassId × FieldType)} (hP : va_P (dC, dI) vwCl ws H) (hK : va_K (dC, dI) vwCl tys s) (hN : NW s) : ∀ U : State, U.heap = H → s.WarmedH U.vm → va_Pc av (PR dC dI ws tys) av.toArray U :=
  fun U hU hW => ⟨rfl, by rw [hU]; exact hP, va_K.moved hW.alike hK, hN.warm hW⟩
theorem pc_pre {A : Nat → Prop} {s : State} {H : Heap} {av : List Value} {dC : Nat → ClassId} {dI : Nat → Nat → Nat} {ws : va_W} {tys : List (ClassId × FieldType)} (hP : va_P (dC, dI) vwCl ws H) (hK : va_K (dC, dI) vwCl tys s) (hD : va_D A ws) (hN : NW s) : ∀ U : State, U.heap = H → s.WarmedH U.vm → va_Pc av (PC dC dI ws tys H.size) av.toArray U :=
  fun U hU hW => ⟨rfl, by rw [hU], by rw [hU]; exact hP, va_K.moved hW.alike hK, hD.weaken (fun _ _ _ _ => trivial), hN.warm hW⟩
theorem gd_I {cy : Cond} (h : cy ∈ TB) : GoodIn TB (cy :: TB) := by
  intro w hw
  have hm : w ∈ TB := by
    rcases List.mem_cons.mp hw with rfl | h'
    · exact h
    · exact h'
  exact ⟨hm, good_of_word (List.mem_filter.mp hm).2⟩
theorem gd_app {a : List Cond} (ha : ∀ w ∈ a, w ∈ TB) {b : List Cond} (hb : GoodIn TB b) : GoodIn TB (a ++ b) := by
  intro w hw
  rcases List.mem_append.mp hw with h | h
  · exact ⟨ha w h, good_of_word (List.mem_filter.mp (ha w h)).2⟩
  · exact hb w h
theorem gd_V {own C : String} {idx : Nat} {y : MethodName} {cy : Cond} (h1 : Cond.methodLink own idx y ∈ TB) (h2 : Cond.instanceMethod y ∈ TB) (h3 : Cond.selects C y y ∈ TB) (h4 : Cond.initialized C ∈ TB) (h5 : cy ∈ TB) : GoodIn TB (wsV own idx C y (cy :: TB)) := by
  unfold wsV
  refine gd_app (fun w hw => ?_) (gd_I h5)
  simp only [List.mem_cons, List.not_mem_nil, or_false] at hw
  rcases hw with rfl | rfl | rfl | rfl <;> assumption
theorem gd_S {own : String} {idx : Nat} {y : MethodName} {cy : Cond} (h1 : Cond.methodLink own idx y ∈ TB) (h2 : Cond.static y ∈ TB) (h4 : Cond.initialized own ∈ TB) (h5 : cy ∈ TB) : GoodIn TB (wsS own idx y (cy :: TB)) := by
  unfold wsS
  refine gd_app (fun w hw => ?_) (gd_I h5)
  simp only [List.mem_cons, List.not_mem_nil, or_false] at hw
  rcases hw with rfl | rfl | rfl <;> assumption
theorem gd_S2 {own : String} {idx : Nat} {y : MethodName} {cy : Cond} (h1 : Cond.methodLink own idx y ∈ TB) (h2 : Cond.static y ∈ TB) (h4 : Cond.initialized y.cls ∈ TB) (h5 : cy ∈ TB) : GoodIn TB (va_wsS own idx y (cy :: TB)) := by
  unfold va_wsS
  refine gd_app (fun w hw => ?_) (gd_I h5)
  simp only [List.mem_cons, List.not_mem_nil, or_false] at hw
  rcases hw with rfl | rfl | rfl <;> assumption
theorem fb_rng (x : Int32) : -2147483648 ≤ x.toInt ∧ x.toInt < 2147483648 := ⟨Int32.le_toInt x, Int32.toInt_lt x⟩
theorem fb_bmod {z : Int} (h1 : -2147483648 ≤ z) (h2 : z < 2147483648) : z.bmod (2 ^ 32) = z := by
  rw [Int.bmod_def]; split <;> omega
theorem fb_addI {x y : Int32} (h1 : -2147483648 ≤ x.toInt + y.toInt) (h2 : x.toInt + y.toInt < 2147483648) : (x + y).toInt = x.toInt + y.toInt := by
  rw [Int32.toInt_add]; exact fb_bmod h1 h2
theorem fb_subI {x y : Int32} (h1 : -2147483648 ≤ x.toInt - y.toInt) (h2 : x.toInt - y.toInt < 2147483648) : (x - y).toInt = x.toInt - y.toInt := by
  rw [Int32.toInt_sub]; exact fb_bmod h1 h2
theorem hb_upd0 (v : Int32) (i : Nat) (w : Int32) (h : w = v) : upd (fun _ => v) i w = fun _ => v := by
  subst h; funext j; simp [upd]
theorem hb_updL0 (v : Int64) (i : Nat) : vp_updL (fun _ => v) i v = fun _ => v := by
  funext j; simp [vp_updL]
theorem hb_nat {x : Int32} (h0 : ¬ x < 0) (h1 : ¬ 1000 < x) : ∃ j : Nat, j ≤ 1000 ∧ x = nI j := by
  refine nI_of2 (M := 1000) (by decide) h0 ?_
  rw [Int32.lt_iff_toInt_lt] at h1
  rw [Int32.le_iff_toInt_le]
  omega
theorem hb_rem12 {x y : Int32} (hx0 : ¬ x < 0) (hx1 : ¬ 1000 < x) (hy0 : ¬ y < 0) (hy1 : ¬ 1000 < y) : vp_in ((x + y) - (x + y) / 12 * 12) 12 := by
  obtain ⟨a, ha, rfl⟩ := hb_nat hx0 hx1
  obtain ⟨b, hb, rfl⟩ := hb_nat hy0 hy1
  rw [nI_add, show (12 : Int32) = nI 12 from rfl, pk_rem (by omega) (by omega) (by omega)]
  exact vp_in_nI (Nat.mod_lt _ (by omega)) (by omega)
theorem hb_i6000 {x y : Int32} (hx0 : ¬ x < 0) (hx1 : ¬ 499 < x) (hy0 : ¬ y < 0) (hy1 : ¬ 11 < y) : vp_in ((12 * x) + y) 6000 := by
  obtain ⟨a, ha, rfl⟩ : ∃ j : Nat, j ≤ 499 ∧ x = nI j := by
    refine nI_of2 (M := 499) (by decide) hx0 ?_
    rw [Int32.lt_iff_toInt_lt] at hx1; rw [Int32.le_iff_toInt_le]; omega
  obtain ⟨b, hb, rfl⟩ : ∃ j : Nat, j ≤ 11 ∧ y = nI j := by
    refine nI_of2 (M := 11) (by decide) hy0 ?_
    rw [Int32.lt_iff_toInt_lt] at hy1; rw [Int32.le_iff_toInt_le]; omega
  rw [show (12 : Int32) = nI 12 from rfl, pk_mul, nI_add]
  exact vp_in_nI (by omega) (by omega)
theorem hb_div720 {x : Int32} (h0 : ¬ x < 1) (h1 : ¬ 1440 < x) : ∃ j : Nat, 1 ≤ j ∧ j ≤ 1440 ∧ x = nI j ∧ (0 + x) / 720 = nI (j / 720) := by
  obtain ⟨j, hj, rfl⟩ : ∃ j : Nat, j ≤ 1440 ∧ x = nI j := by
    refine nI_of2 (M := 1440) (by decide) ?_ ?_
    · rw [Int32.lt_iff_toInt_lt] at h0 ⊢
      have z0 : (0 : Int32).toInt = 0 := by decide
      have z1 : (1 : Int32).toInt = 1 := by decide
      omega
    · rw [Int32.lt_iff_toInt_lt] at h1; rw [Int32.le_iff_toInt_le]; omega
  refine ⟨j, ?_, hj, rfl, ?_⟩
  · rw [show (1 : Int32) = nI 1 from rfl, nI_ltI (by omega) (by omega)] at h0; omega
  · rw [Int32.zero_add, show (720 : Int32) = nI 720 from rfl, pk_div (by omega) (by omega) (by omega)]
theorem hb_day3 {x : Int32} (h0 : ¬ x < 1) (h1 : ¬ 1440 < x) : (0 + x) / 720 < 3 := by
  obtain ⟨j, h2, h3, -, e⟩ := hb_div720 h0 h1
  rw [e, show (3 : Int32) = nI 3 from rfl, nI_ltI (by omega) (by omega)]
  omega
theorem hb_time {x : Int32} (h0 : ¬ x < 1) (h1 : ¬ 1440 < x) : (0 + x) ≤ 359999 := by
  rw [Int32.zero_add]
  rw [Int32.lt_iff_toInt_lt] at h1
  rw [Int32.le_iff_toInt_le]
  have z1 : (1440 : Int32).toInt = 1440 := by decide
  have z2 : (359999 : Int32).toInt = 359999 := by decide
  omega
theorem fb_mulI {x y : Int32} (h1 : -2147483648 ≤ x.toInt * y.toInt) (h2 : x.toInt * y.toInt < 2147483648) : (x * y).toInt = x.toInt * y.toInt := by
  rw [Int32.toInt_mul]; exact fb_bmod h1 h2
theorem hb_divI {x y : Int32} (h0 : 0 ≤ x.toInt) (hd : 0 < y.toInt) : (x / y).toInt = x.toInt / y.toInt := by
  rw [Int32.toInt_div, Int.tdiv_eq_ediv_of_nonneg h0]
  have h1 : 0 ≤ x.toInt / y.toInt := Int.ediv_nonneg h0 (Int.le_of_lt hd)
  have h2 : x.toInt / y.toInt ≤ x.toInt := Int.ediv_le_self _ h0
  have h3 := fb_rng x
  exact fb_bmod (by omega) (by omega)
section HA
variable {p : Program} {l : Launch} {e : Env} {R : Room} {s : State} {m : MethodId} {args : Array Value} {below : List Frame} {meth : Method} {c : Code} {H : Heap} {locs : List Loc} {cells slots : Nat} {Q : State → Prop}
variable {cc : ByteArray} {pc : Nat} {ls : Array Slot} {rest : List Value} {D : va_G} {cl : List vw_C} {A : Nat → Prop} {a : Nat} {tys : List (ClassId × FieldType)} {ws : va_W} {H0 : Heap}
theorem va_aldA (hexec : p.tables.exec = Jvm.exec) (hb : c.code = cc) (hK : va_K D cl tys s) (hP : va_P D cl ws H) (q0 t0 : Nat) {cA : ClassId} {t : FieldType} {n : Nat} {f : Nat → Option Nat} (ha : ws[q0]? = some (a, .inl (cA, n, .inr (.inr (.inr (.inr f)))))) (ht : tys[t0]? = some (cA, .array t)) {i : Int32} (hin : vp_in i n) (hdg : decode cc pc = .ok (.aaload, 1))
    (kk : W p l e R s m args below meth c H locs cells slots Q (F0 m (pc + 1) ls (va_rf (f i.toNatClampNeg) :: rest))) : W p l e R s m args below meth c H locs cells slots Q (F0 m pc ls (.int i :: .ref a :: rest)) := by
  have hlt : i.toNatClampNeg < n := Nat.not_le.mp fun q => hin (Or.inr q)
  exact W.aald (v := va_rf (f i.toNatClampNeg)) (ty := .array t) hexec hb (hP q0 _ ha) ((hK.2 t0 _ ht).1 n (fun j => va_rf (f j))) rfl (fun q => by cases q) (by show ¬ (i < 0 ∨ (arrV _ _ _).slots.size ≤ _); rw [arrV_size]; exact hin) (by show (arrV _ _ _).slots[_]? = _; rw [arrV_read _ _ hlt]) rfl rfl hdg kk
theorem va_newA (hexec : p.tables.exec = Jvm.exec) (hb : c.code = cc) {own : String} {index : Nat} {t : FieldType} (hown : s.vm.findClass own = some m.cls) (hclink : (Cond.classLink own index (FieldType.array t).toString).before args s = true) (hover : (Cond.arrayOver (.array t)).before args s = true) (hK : va_K D cl tys s) (hP : va_P D cl ws H) (hD : va_D A ws) (hS : va_S A H0 H locs) (hA : ∀ q, H0.size ≤ q → A q)
    {n : Int32} {N' : Nat} (hn : ¬ n < 0) (hN : n.toNatClampNeg = N') (hbytes : N' * 4 ≤ 536870912) (hcells : cells + 1 ≤ R.cells) (hslots : slots + N' ≤ R.slots) (hdg : decode cc pc = .ok (.anewarray index, 3))
    (kk : ∀ (q : Nat) (cA : ClassId) (H1 : Heap), va_K D cl (tys ++ [(cA, .array t)]) s → va_P D cl (ws ++ [(q, .inl (cA, N', .inr (.inr (.inr (.inr (fun _ => none))))))]) H1 → va_D A (ws ++ [(q, .inl (cA, N', .inr (.inr (.inr (.inr (fun _ => none))))))]) → va_S A H0 H1 locs →
      W p l e R s m args below meth c H1 locs (cells + 1) (slots + N') Q (F0 m (pc + 3) ls (.ref q :: rest))) : W p l e R s m args below meth c H locs cells slots Q (F0 m pc ls (.int n :: rest)) := by
  subst hN
  refine W.anewA hexec hb hown hclink hover rfl hdg rfl hn hbytes hcells hslots fun cA kA comp f1 f2 f3 f4 => ?_
  generalize hH1 : H.push ({ cls := cA, slots := Array.replicate n.toNatClampNeg .null, vm := .none } : Cell) = H1
  have z1 : H1.size = H.size + 1 := by rw [← hH1, Array.size_push]
  have e1 : H1[H.size]? = some (arrV cA n.toNatClampNeg (fun _ => .null)) := by rw [← hH1, Array.getElem?_push_size, ← arrV_new]
  have o1 : ∀ q : Nat, q < H.size → H1[q]? = H[q]? := fun q hq => by rw [← hH1, Array.getElem?_push, if_neg (Nat.ne_of_lt hq)]
  have hAr : ArrOfT s cA (.array t) := fun N z => ⟨(fun k h => by cases h), kA, f2, comp, f3⟩
  have hk : ∀ (k : Nat) (x : Nat × va_E), ws[k]? = some x → H1[x.1]? = H[x.1]? := fun k x hx => o1 x.1 ((hP k x hx).lt)
  refine kk H.size cA H1 ⟨hK.1, fun k x hx => ?_⟩ ((hP.kept hk).app (fun k x hx => ?_)) (hD.push hP rfl (hA _ hS.1)) ⟨Nat.le_trans hS.1 (by omega), fun x h1 h2 => (o1 x (Nat.lt_of_lt_of_le h1 hS.1)).trans (hS.2.1 x h1 h2), hS.2.2⟩
  · by_cases hl : k < tys.length
    · rw [List.getElem?_append_left hl] at hx
      exact hK.2 k x hx
    · rw [List.getElem?_append_right (by omega)] at hx
      have hz : k - tys.length < 1 := (List.getElem?_eq_some_iff.mp hx).1
      rw [show k - tys.length = 0 by omega] at hx
      cases hx
      exact ⟨hAr, f1⟩
  · have hz : k < 1 := (List.getElem?_eq_some_iff.mp hx).1
    rw [show k = 0 by omega] at hx
    cases hx
    show H1[H.size]? = some (vp_cell _ _)
    rw [vp_cell_q]
    exact e1
theorem va_astA (hexec : p.tables.exec = Jvm.exec) (hb : c.code = cc) (hover : (Cond.arrayOver (.array .int)).before args s = true) (hK : va_K D cl tys s) (hP : va_P D cl ws H) (hD : va_D A ws) (hS : va_S A H0 H locs) (q0 t0 qk tk : Nat) {cA cV : ClassId} {x : vp_A} {n v : Nat} {f : Nat → Option Nat} (ha : ws[q0]? = some (a, .inl (cA, n, .inr (.inr (.inr (.inr f)))))) (ht : tys[t0]? = some (cA, .array .int)) (hv : ws[qk]? = some (v, .inl (cV, x))) (htk : tys[tk]? = some (cV, .int)) {i : Int32} (hin : vp_in i n) (hdg : decode cc pc = .ok (.aastore, 1))
    (kk : ∀ (H1 : Heap) (locs1 : List Loc), va_P D cl (ws.set q0 (a, .inl (cA, n, .inr (.inr (.inr (.inr (va_up f i.toNatClampNeg (some v)))))))) H1 → va_D A (ws.set q0 (a, .inl (cA, n, .inr (.inr (.inr (.inr (va_up f i.toNatClampNeg (some v)))))))) → va_S A H0 H1 locs1 → W p l e R s m args below meth c H1 locs1 cells slots Q (F0 m (pc + 1) ls rest)) : W p l e R s m args below meth c H locs cells slots Q (F0 m pc ls (.ref v :: .int i :: .ref a :: rest)) := by
  have hlt : i.toNatClampNeg < n := Nat.not_le.mp fun q => hin (Or.inr q)
  have h0 : ¬ i < 0 := fun q => hin (Or.inl q)
  have g1 : H[v]? = some (vp_cell cV x) := hP qk _ hv
  have hvm0 : (vp_cell cV x).vm = .none := by
    obtain ⟨n, f | f | f | f | f⟩ := x <;> rfl
  have hcl0 : (vp_cell cV x).cls = cV := by
    obtain ⟨n, f | f | f | f | f⟩ := x <;> rfl
  obtain ⟨comp, c1, kA, k0, k1, k2, k3, k4⟩ := arrayOverA_spec hover
  have hcA : c1 = cA := Option.some.inj (k4.symm.trans (hK.2 t0 _ ht).2)
  subst hcA
  have hcV : comp = cV := Option.some.inj (k0.symm.trans (hK.2 tk _ htk).2)
  subst hcV
  obtain ⟨kE, hkE, -⟩ := Vm.findClass_spec k0
  refine W.aast hexec hb (hP q0 _ ha) (fun q h => by cases h) (fun h => by cases h) k2 k3 rfl hkE ⟨h0, by show _ < (arrV _ _ _).slots.size; rw [arrV_size]; exact hlt⟩ g1 (fun q h => by rw [hvm0] at h; cases h) (by rw [hcl0]; exact hkE) (by rw [hcl0]; exact va_asg _ _) rfl rfl hdg fun H1 e z oq => ?_
  refine kk H1 _ (hP.set hD ha ?_ oq) (hD.set ha) (hS.put z oq (hD.2 q0 _ ha))
  show H1[a]? = some (vp_cell _ _)
  rw [e]
  rw [vp_cell_q, vp_cell_q, arrV_store]
  congr 2
  funext q
  by_cases hq : q = i.toNatClampNeg
  · subst hq
    simp [updV, va_up, va_rf]
  · simp [updV, va_up, hq]
end HA
theorem hb_last {ws : va_W} {x : Nat × va_E} : (ws ++ [x])[ws.length]? = some x := by simp
def hb_fl (v w : Int32) (i : Nat) : Nat → Int32 := fun j => if j < i then v else w
theorem hb_fl_0 (v w : Int32) : hb_fl v w 0 = fun _ => w := by funext j; simp [hb_fl]
theorem hb_fill {v w : Int32} {i : Nat} (h : i < 2 ^ 31) : upd (hb_fl v w i) (nI i).toNatClampNeg v = hb_fl v w (i + 1) := by
  rw [nI_clamp h]
  funext j
  unfold upd hb_fl
  by_cases h1 : j = i
  · rw [if_pos h1, if_pos (by omega)]
  · rw [if_neg h1]
    by_cases h2 : j < i
    · rw [if_pos h2, if_pos (by omega)]
    · rw [if_neg h2, if_neg (by omega)]
theorem hb_cellf {cA : ClassId} {n : Nat} {f g : Nat → Int32} (h : ∀ j, j < n → f j = g j) : vp_cell cA (n, .inl f) = vp_cell cA (n, .inl g) := by
  show arrV cA n (fun j => .int (f j)) = arrV cA n (fun j => .int (g j))
  unfold arrV
  congr 2
  funext j
  show Value.int (f j.val) = Value.int (g j.val)
  rw [h j.val j.isLt]
theorem hb_swap {D : va_G} {cl : List vw_C} {ws : va_W} {H : Heap} (i : Nat) {a : Nat} {k : ClassId} {n : Nat} {f : Nat → Int32} (g : Nat → Int32) (hP : va_P D cl ws H) (he : ws[i]? = some (a, .inl (k, n, .inl f))) (h : ∀ j, j < n → f j = g j) : va_P D cl (ws.set i (a, .inl (k, n, .inl g))) H := by
  intro j q hj
  by_cases hji : j = i
  · subst hji
    rw [List.getElem?_set_self (List.getElem?_eq_some_iff.mp he).1] at hj
    cases hj
    have h1 : H[a]? = some (vp_cell k (n, .inl f)) := hP j _ he
    show H[a]? = some (vp_cell k (n, .inl g))
    rw [h1, hb_cellf h]
  · rw [List.getElem?_set_ne (Ne.symm hji)] at hj
    exact hP j q hj
theorem hb_plpush {X : va_W} {L : List Nat} {e : va_E} {q : Nat} : (X ++ va_pl L (fun _ => e)) ++ [(q, e)] = X ++ va_pl (L ++ [q]) (fun _ => e) := by
  simp [va_pl]
theorem hb_fm {L : List Nat} {fm : Nat → Option Nat} {i q : Nat} (hi : i < 2 ^ 31) (hL : L.length = i) (h : ∀ j, fm j = L[j]?) : ∀ j, va_up fm (nI i).toNatClampNeg (some q) j = (L ++ [q])[j]? := by
  intro j
  rw [nI_clamp hi]
  unfold va_up
  by_cases h1 : j = i
  · rw [if_pos h1, h1, ← hL]; simp
  · rw [if_neg h1, h j]
    by_cases h2 : j < L.length
    · rw [List.getElem?_append_left h2]
    · rw [List.getElem?_eq_none (by omega), List.getElem?_eq_none (by simp; omega)]
theorem hb_right {D : va_G} {cl : List vw_C} {u v : va_W} {H : Heap} (h : va_P D cl (u ++ v) H) : va_P D cl v H := by
  intro k q hk
  exact h (u.length + k) q (by rw [List.getElem?_append_right (by omega), Nat.add_sub_cancel_left]; exact hk)
theorem hb_left {D : va_G} {cl : List vw_C} {u v : va_W} {H : Heap} (h : va_P D cl (u ++ v) H) : va_P D cl u H := by
  intro k q hk
  exact h k q (by rw [List.getElem?_append_left (List.getElem?_eq_some_iff.mp hk).1]; exact hk)
theorem hb_rightD {A : Nat → Prop} {u v : va_W} (h : va_D A (u ++ v)) : va_D A v := by
  have key : ∀ (k : Nat) (q : Nat × va_E), v[k]? = some q → (u ++ v)[u.length + k]? = some q := fun k q hk => by
    rw [List.getElem?_append_right (by omega), Nat.add_sub_cancel_left]; exact hk
  refine ⟨fun i j p q hi hj e => ?_, fun k q hk => h.2 _ q (key k q hk)⟩
  have := h.1 _ _ p q (key i p hi) (key j q hj) e
  omega
theorem hb_leftD {A : Nat → Prop} {u v : va_W} (h : va_D A (u ++ v)) : va_D A u := by
  have key : ∀ (k : Nat) (q : Nat × va_E), u[k]? = some q → (u ++ v)[k]? = some q := fun k q hk => by
    rw [List.getElem?_append_left (List.getElem?_eq_some_iff.mp hk).1]; exact hk
  exact ⟨fun i j p q hi hj e => h.1 _ _ p q (key i p hi) (key j q hj) e, fun k q hk => h.2 _ q (key k q hk)⟩
/-- the left world stays behind a call that had the right one -/
theorem hb_keep {A : Nat → Prop} {D : va_G} {cl : List vw_C} {u v : va_W} {H H1 : Heap} (hP : va_P D cl (u ++ v) H) (hD : va_D A (u ++ v)) (hk : ∀ q : Nat, q < H.size → ¬ va_A v H.size q → H1[q]? = H[q]?) : va_P D cl u H1 := by
  have hu := hb_left hP
  refine hu.kept (fun k q hq => hk q.1 (hu k q hq).lt (fun h => ?_))
  rcases h with ⟨k2, e, h⟩ | h
  · have h1 : (u ++ v)[k]? = some q := by rw [List.getElem?_append_left (List.getElem?_eq_some_iff.mp hq).1]; exact hq
    have h2 : (u ++ v)[u.length + k2]? = some (q.1, e) := by rw [List.getElem?_append_right (by omega), Nat.add_sub_cancel_left]; exact h
    have h3 := hD.1 _ _ q (q.1, e) h1 h2 rfl
    have h4 := (List.getElem?_eq_some_iff.mp hq).1
    omega
  · have := (hu k q hq).lt
    omega
theorem hb_flip {D : va_G} {cl : List vw_C} {u v : va_W} {H : Heap} (h : va_P D cl (u ++ v) H) : va_P D cl (v ++ u) H := (hb_right h).app (hb_left h)
theorem hb_flipD {A : Nat → Prop} {u v : va_W} (h : va_D A (u ++ v)) : va_D A (v ++ u) := by
  refine (hb_rightD h).app (hb_leftD h) (fun i j p q hi hj e => ?_)
  have h1 : (u ++ v)[u.length + i]? = some p := by rw [List.getElem?_append_right (by omega), Nat.add_sub_cancel_left]; exact hi
  have h2 : (u ++ v)[j]? = some q := by rw [List.getElem?_append_left (List.getElem?_eq_some_iff.mp hj).1]; exact hj
  have h3 := h.1 _ _ p q h1 h2 e
  have h4 := (List.getElem?_eq_some_iff.mp hj).1
  omega
theorem hb_short {L : Nat} (hL : L ≤ 6) (h6 : ¬ L = 6) : nI L - 6 < 0 := by
  have h : L = 0 ∨ L = 1 ∨ L = 2 ∨ L = 3 ∨ L = 4 ∨ L = 5 := by omega
  rcases h with rfl | rfl | rfl | rfl | rfl | rfl <;> decide +kernel
