def y_St_length : MethodName := ⟨"java/lang/String", "length", "()I"⟩
abbrev b_St_length : ByteArray := prog_14_method_54_code
def y_St_coder : MethodName := ⟨"java/lang/String", "coder", "()B"⟩
abbrev b_St_coder : ByteArray := prog_14_method_152_code
def y_St_charAt : MethodName := ⟨"java/lang/String", "charAt", "(I)C"⟩
abbrev b_St_charAt : ByteArray := prog_14_method_56_code
def y_St_isLatin1 : MethodName := ⟨"java/lang/String", "isLatin1", "()Z"⟩
abbrev b_St_isLatin1 : ByteArray := prog_14_method_154_code
def y_SL_charAt : MethodName := ⟨"java/lang/StringLatin1", "charAt", "([BI)C"⟩
abbrev b_SL_charAt : ByteArray := prog_15_method_2_code
def y_St_check : MethodName := ⟨"java/lang/String", "checkIndex", "(II)V"⟩
abbrev b_St_check : ByteArray := prog_14_method_155_code
def y_Pr_check : MethodName := ⟨"jdk/internal/util/Preconditions", "checkIndex", "(IILjava/util/function/BiFunction;)I"⟩
abbrev b_Pr_check : ByteArray := prog_17_method_11_code
def SLen : List Nat := [4, 4, 4, 7, 6, 5, 6, 4, 4, 2, 2]
def SByt : List (List Int32) := [[102, 97, 114, 101], [104, 111, 117, 114], [119, 105, 116, 104], [97, 103, 97, 105, 110, 115, 116], [115, 117, 110, 100, 97, 121], [108, 101, 97, 115, 116], [98, 114, 105, 100, 103, 101], [104, 101, 97, 100], [111, 97, 114, 115], [116, 111], [105, 115]]
def SIx : List Nat := [70, 72, 74, 76, 78, 80, 82, 84, 86, 55, 61]
def STx : List String := ["fare", "hour", "with", "against", "sunday", "least", "bridge", "head", "oars", "to", "is"]
def sLn (i : Nat) : Int32 := nI (SLen.getD i 0)
def sCh (i j : Nat) : Int32 := (SByt.getD i []).getD j 0
def SW (adK adV : Nat → Nat) (A : Nat → Prop) (U : State) (H : Heap) : Prop := vk_S 11 SLen SByt adK adV A U H ∧ (∀ i : Nat, i < 11 → vk_R R_Tp (SIx.getD i 0) (STx.getD i "") (adK i) U) ∧ va_Z "java/lang/String" "COMPACT_STRINGS" "Z" (.int 1) A U H ∧ va_Zq "jdk/internal/util/Preconditions" "SIOOBE_FORMATTER" "Ljava/util/function/BiFunction;" A U H
theorem SW.warm {adK adV : Nat → Nat} {A : Nat → Prop} {s U : State} {H : Heap} (hW : s.WarmedH U.vm) (h : SW adK adV A s H) : SW adK adV A U H := ⟨h.1.moved hW.alike, fun i hi => (h.2.1 i hi).warm hW, h.2.2.1.moved hW.alike, h.2.2.2.moved hW.alike⟩
theorem SW.kept {adK adV : Nat → Nat} {A : Nat → Prop} {U : State} {H H1 : Heap} (h : SW adK adV A U H) (hq : ∀ a : Nat, a < H.size → ¬ A a → H1[a]? = H[a]?) : SW adK adV A U H1 := ⟨h.1.kept hq, h.2.1, h.2.2.1.kept hq, h.2.2.2.kept hq⟩
theorem SW.narrow {adK adV : Nat → Nat} {A B : Nat → Prop} {U : State} {H : Heap} (h : SW adK adV A U H) (hAB : ∀ q, B q → A q) : SW adK adV B U H := ⟨h.1.narrow hAB, h.2.1, h.2.2.1.narrow hAB, h.2.2.2.narrow hAB⟩
theorem SW.blind {adK adV : Nat → Nat} {A : Nat → Prop} {U : State} {H : Heap} {g : JFrame} {mk : MethodId} {a : Array Value} (h : SW adK adV A U H) : SW adK adV A (U.calling g mk a) H := ⟨h.1.moved (u := U) (U := U.calling g mk a) (Vm.Alike.refl U.vm), fun i hi => (h.2.1 i hi).same (u := U) (U := U.calling g mk a) rfl, h.2.2.1.moved (u := U) (U := U.calling g mk a) (Vm.Alike.refl U.vm), h.2.2.2.moved (u := U) (U := U.calling g mk a) (Vm.Alike.refl U.vm)⟩
theorem sw_blind {av : List Value} {adK adV : Nat → Nat} {A : Nat → Prop} : FrameBlind (va_Pc av (fun U => SW adK adV A U U.heap)) := fun _ _ _ _ q => ⟨q.1, q.2.blind⟩
theorem sw_pre {s : State} {H : Heap} {locs : List Loc} {av : List Value} {adK adV : Nat → Nat} {A : Nat → Prop} (hS : va_S A s.heap H locs) (h : SW adK adV A s s.heap) : ∀ U : State, U.heap = H → s.WarmedH U.vm → va_Pc av (fun U => SW adK adV A U U.heap) av.toArray U := fun U hU hW => ⟨rfl, by show SW adK adV A U U.heap; rw [hU]; exact (h.kept hS.2.1).warm hW⟩
def PRs (dC : Nat → ClassId) (dI : Nat → Nat → Nat) (ws : va_W) (tys : List (ClassId × FieldType)) (adK adV : Nat → Nat) (A : Nat → Prop) (U : State) : Prop := PR dC dI ws tys U ∧ SW adK adV A U U.heap
def PCs (dC : Nat → ClassId) (dI : Nat → Nat → Nat) (ws : va_W) (tys : List (ClassId × FieldType)) (adK adV : Nat → Nat) (sz : Nat) (U : State) : Prop := PC dC dI ws tys sz U ∧ SW adK adV (va_A ws sz) U U.heap
theorem prs_blind {av : List Value} {dC : Nat → ClassId} {dI : Nat → Nat → Nat} {ws : va_W} {tys : List (ClassId × FieldType)} {adK adV : Nat → Nat} {A : Nat → Prop} : FrameBlind (va_Pc av (PRs dC dI ws tys adK adV A)) := by
  intro a U g mk q
  obtain ⟨q0, ⟨qP, qK, qN⟩, qS⟩ := q
  exact ⟨q0, ⟨qP, va_K.moved (u := U) (U := U.calling g mk a) (Vm.Alike.refl U.vm) qK, qN.blind⟩, qS.blind⟩
theorem pcs_blind {av : List Value} {dC : Nat → ClassId} {dI : Nat → Nat → Nat} {ws : va_W} {tys : List (ClassId × FieldType)} {adK adV : Nat → Nat} {sz : Nat} : FrameBlind (va_Pc av (PCs dC dI ws tys adK adV sz)) := by
  intro a U g mk q
  obtain ⟨q0, ⟨q1, qP, qK, qD, qN⟩, qS⟩ := q
  exact ⟨q0, ⟨q1, qP, va_K.moved (u := U) (U := U.calling g mk a) (Vm.Alike.refl U.vm) qK, qD, qN.blind⟩, qS.blind⟩
theorem prs_pre {s : State} {H : Heap} {locs : List Loc} {av : List Value} {dC : Nat → ClassId} {dI : Nat → Nat → Nat} {ws : va_W} {tys : List (ClassId × FieldType)} {adK adV : Nat → Nat} {A : Nat → Prop} (hP : va_P (dC, dI) vwCl ws H) (hK : va_K (dC, dI) vwCl tys s) (hN : NW s) (hS : va_S A s.heap H locs) (h : SW adK adV A s s.heap) : ∀ U : State, U.heap = H → s.WarmedH U.vm → va_Pc av (PRs dC dI ws tys adK adV A) av.toArray U :=
  fun U hU hW => ⟨rfl, ⟨by rw [hU]; exact hP, va_K.moved hW.alike hK, hN.warm hW⟩, by rw [hU]; exact (h.kept hS.2.1).warm hW⟩
theorem pcs_pre {A B : Nat → Prop} {s : State} {H : Heap} {locs : List Loc} {av : List Value} {dC : Nat → ClassId} {dI : Nat → Nat → Nat} {ws : va_W} {tys : List (ClassId × FieldType)} {adK adV : Nat → Nat} (hP : va_P (dC, dI) vwCl ws H) (hK : va_K (dC, dI) vwCl tys s) (hD : va_D B ws) (hN : NW s) (hS : va_S A s.heap H locs) (h : SW adK adV A s s.heap) (hF : ∀ q, va_A ws H.size q → A q) : ∀ U : State, U.heap = H → s.WarmedH U.vm → va_Pc av (PCs dC dI ws tys adK adV H.size) av.toArray U :=
  fun U hU hW => ⟨rfl, ⟨by rw [hU], by rw [hU]; exact hP, va_K.moved hW.alike hK, hD.weaken (fun _ _ _ _ => trivial), hN.warm hW⟩, by rw [hU]; exact ((h.kept hS.2.1).narrow hF).warm hW⟩
theorem sLn_b : ∀ i : Nat, i < 11 → ¬ sLn i < 0 ∧ ¬ 7 < sLn i := by decide +kernel
theorem sLn_shr : ∀ i : Nat, i < 11 → sLn i >>> ((0 : Int32) &&& 31) = sLn i := by decide +kernel
theorem sCh_c : ∀ i : Nat, i < 11 → ∀ j : Nat, j < SLen.getD i 0 → ((sCh i j &&& 255).toUInt32 % 65536).toInt32 = sCh i j := by decide +kernel
theorem sCh_n : ∀ i : Nat, i < 11 → ∀ j : Nat, j < SLen.getD i 0 → narrow .char (.int (sCh i j)) = .int (sCh i j) := by decide +kernel
theorem sLn_in : ∀ i : Nat, i < 11 → SLen.getD i 0 ≤ 7 := by decide +kernel
theorem sc_in {i : Nat} (hi : i < 11) {k : Int32} (h0 : ¬ k < 0) (h1 : ¬ sLn i ≤ k) : vp_in k (SLen.getD i 0) := by
  have h2 := sLn_in i hi
  have h3 : (sLn i).toInt = (SLen.getD i 0 : Int) := nI_toInt (by omega)
  rw [Int32.lt_iff_toInt_lt] at h0
  rw [Int32.le_iff_toInt_le, h3] at h1
  have z0 : (0 : Int32).toInt = 0 := by decide
  rw [vp_in_iff]
  omega
