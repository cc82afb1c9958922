set_option maxHeartbeats 4000000 in
set_option maxRecDepth 100000 in
theorem c_Md_arrive_c25 (l : Launch) (dC : Nat → ClassId) (dI : Nat → Nat → Nat) (h_0 y_0_3 y_0_5 y_0_6 y_0_7 y_0_8 y_0_9 y_0_10 y_0_11 y_0_12 y_0_13 y_0_14 y_0_16 y_0_17 y_0_19 y_0_20 y_0_22 y_0_23 y_0_24 y_0_25 y_0_26 y_0_27 y_0_30 y_0_31 y_0_32 y_0_33 y_0_34 y_0_35 y_0_36 y_0_37 y_0_38 y_0_39 y_0_40 y_0_41 y_0_48 y_0_49 y_0_50 y_0_51 y_0_52 y_0_53 y_0_54 y_0_55 y_0_61 y_0_62 y_0_63 h_1 h_2 h_3 : Nat) (kk_1 kk_2 kk_3 : ClassId) (sz : Nat)   : Met l y_Md_arrive (.code y_Md_arrive b_Md_arrive 3 none :: TB) ({ frames := 0, cells := 0, slots := 0, locals := 0 }) (va_Pc [.ref h_0] (PC dC dI [(h_0, .inr (7, [.int 0, .int 1440, .int 0, .ref y_0_3, .int (-1), .ref y_0_5, .ref y_0_6, .ref y_0_7, .ref y_0_8, .ref y_0_9, .ref y_0_10, .ref y_0_11, .ref y_0_12, .ref y_0_13, .ref y_0_14, .ref h_1, .ref y_0_16, .ref y_0_17, .ref h_2, .ref y_0_19, .ref y_0_20, .int 0, .ref y_0_22, .ref y_0_23, .ref y_0_24, .ref y_0_25, .ref y_0_26, .ref y_0_27, .int 0, .int 0, .ref y_0_30, .ref y_0_31, .ref y_0_32, .ref y_0_33, .ref y_0_34, .ref y_0_35, .ref y_0_36, .ref y_0_37, .ref y_0_38, .ref y_0_39, .ref y_0_40, .ref y_0_41, .int 0, .int 0, .int 0, .int 0, .int 0, .int 0, .ref y_0_48, .ref y_0_49, .ref y_0_50, .ref y_0_51, .ref y_0_52, .ref y_0_53, .ref y_0_54, .ref y_0_55, .long 0, .long 0, .long 0, .ref h_3, .int 0, .ref y_0_61, .ref y_0_62, .ref y_0_63])), (h_1, .inl (kk_1, 40, .inl (fun _ => 0))), (h_2, .inl (kk_2, 40, .inl (fun _ => 0))), (h_3, .inl (kk_3, 500, .inr (.inl (fun _ => 0))))] [(kk_1, .int), (kk_2, .boolean), (kk_3, .long)] sz)) (va_Qv (fun (_ : Unit) => True) (fun (_ : Unit) t => va_P (dC, dI) vwCl [(h_0, .inr (7, [.int 0, .int 1440, .int 0, .ref y_0_3, .int (-1), .ref y_0_5, .ref y_0_6, .ref y_0_7, .ref y_0_8, .ref y_0_9, .ref y_0_10, .ref y_0_11, .ref y_0_12, .ref y_0_13, .ref y_0_14, .ref h_1, .ref y_0_16, .ref y_0_17, .ref h_2, .ref y_0_19, .ref y_0_20, .int 0, .ref y_0_22, .ref y_0_23, .ref y_0_24, .ref y_0_25, .ref y_0_26, .ref y_0_27, .int 0, .int 0, .ref y_0_30, .ref y_0_31, .ref y_0_32, .ref y_0_33, .ref y_0_34, .ref y_0_35, .ref y_0_36, .ref y_0_37, .ref y_0_38, .ref y_0_39, .ref y_0_40, .ref y_0_41, .int 0, .int 0, .int 0, .int 0, .int 0, .int 0, .ref y_0_48, .ref y_0_49, .ref y_0_50, .ref y_0_51, .ref y_0_52, .ref y_0_53, .ref y_0_54, .ref y_0_55, .long 0, .long 0, .long 0, .ref h_3, .int 0, .ref y_0_61, .ref y_0_62, .ref y_0_63])), (h_1, .inl (kk_1, 40, .inl (fun _ => 0))), (h_2, .inl (kk_2, 40, .inl (fun _ => 0))), (h_3, .inl (kk_3, 500, .inr (.inl (fun _ => 0))))] t.heap ∧ va_K (dC, dI) vwCl [(kk_1, .int), (kk_2, .boolean), (kk_3, .long)] t ∧ va_D (va_A [(h_0, .inr (7, [.int 0, .int 1440, .int 0, .ref y_0_3, .int (-1), .ref y_0_5, .ref y_0_6, .ref y_0_7, .ref y_0_8, .ref y_0_9, .ref y_0_10, .ref y_0_11, .ref y_0_12, .ref y_0_13, .ref y_0_14, .ref h_1, .ref y_0_16, .ref y_0_17, .ref h_2, .ref y_0_19, .ref y_0_20, .int 0, .ref y_0_22, .ref y_0_23, .ref y_0_24, .ref y_0_25, .ref y_0_26, .ref y_0_27, .int 0, .int 0, .ref y_0_30, .ref y_0_31, .ref y_0_32, .ref y_0_33, .ref y_0_34, .ref y_0_35, .ref y_0_36, .ref y_0_37, .ref y_0_38, .ref y_0_39, .ref y_0_40, .ref y_0_41, .int 0, .int 0, .int 0, .int 0, .int 0, .int 0, .ref y_0_48, .ref y_0_49, .ref y_0_50, .ref y_0_51, .ref y_0_52, .ref y_0_53, .ref y_0_54, .ref y_0_55, .long 0, .long 0, .long 0, .ref h_3, .int 0, .ref y_0_61, .ref y_0_62, .ref y_0_63])), (h_1, .inl (kk_1, 40, .inl (fun _ => 0))), (h_2, .inl (kk_2, 40, .inl (fun _ => 0))), (h_3, .inl (kk_3, 500, .inr (.inl (fun _ => 0))))] sz) [(h_0, .inr (7, [.int 0, .int 1440, .int 0, .ref y_0_3, .int (-1), .ref y_0_5, .ref y_0_6, .ref y_0_7, .ref y_0_8, .ref y_0_9, .ref y_0_10, .ref y_0_11, .ref y_0_12, .ref y_0_13, .ref y_0_14, .ref h_1, .ref y_0_16, .ref y_0_17, .ref h_2, .ref y_0_19, .ref y_0_20, .int 0, .ref y_0_22, .ref y_0_23, .ref y_0_24, .ref y_0_25, .ref y_0_26, .ref y_0_27, .int 0, .int 0, .ref y_0_30, .ref y_0_31, .ref y_0_32, .ref y_0_33, .ref y_0_34, .ref y_0_35, .ref y_0_36, .ref y_0_37, .ref y_0_38, .ref y_0_39, .ref y_0_40, .ref y_0_41, .int 0, .int 0, .int 0, .int 0, .int 0, .int 0, .ref y_0_48, .ref y_0_49, .ref y_0_50, .ref y_0_51, .ref y_0_52, .ref y_0_53, .ref y_0_54, .ref y_0_55, .long 0, .long 0, .long 0, .ref h_3, .int 0, .ref y_0_61, .ref y_0_62, .ref y_0_63])), (h_1, .inl (kk_1, 40, .inl (fun _ => 0))), (h_2, .inl (kk_2, 40, .inl (fun _ => 0))), (h_3, .inl (kk_3, 500, .inr (.inl (fun _ => 0))))]) (va_A [(h_0, .inr (7, [.int 0, .int 1440, .int 0, .ref y_0_3, .int (-1), .ref y_0_5, .ref y_0_6, .ref y_0_7, .ref y_0_8, .ref y_0_9, .ref y_0_10, .ref y_0_11, .ref y_0_12, .ref y_0_13, .ref y_0_14, .ref h_1, .ref y_0_16, .ref y_0_17, .ref h_2, .ref y_0_19, .ref y_0_20, .int 0, .ref y_0_22, .ref y_0_23, .ref y_0_24, .ref y_0_25, .ref y_0_26, .ref y_0_27, .int 0, .int 0, .ref y_0_30, .ref y_0_31, .ref y_0_32, .ref y_0_33, .ref y_0_34, .ref y_0_35, .ref y_0_36, .ref y_0_37, .ref y_0_38, .ref y_0_39, .ref y_0_40, .ref y_0_41, .int 0, .int 0, .int 0, .int 0, .int 0, .int 0, .ref y_0_48, .ref y_0_49, .ref y_0_50, .ref y_0_51, .ref y_0_52, .ref y_0_53, .ref y_0_54, .ref y_0_55, .long 0, .long 0, .long 0, .ref h_3, .int 0, .ref y_0_61, .ref y_0_62, .ref y_0_63])), (h_1, .inl (kk_1, 40, .inl (fun _ => 0))), (h_2, .inl (kk_2, 40, .inl (fun _ => 0))), (h_3, .inl (kk_3, 500, .inr (.inl (fun _ => 0))))] sz)) 0 0 (va_A [(h_0, .inr (7, [.int 0, .int 1440, .int 0, .ref y_0_3, .int (-1), .ref y_0_5, .ref y_0_6, .ref y_0_7, .ref y_0_8, .ref y_0_9, .ref y_0_10, .ref y_0_11, .ref y_0_12, .ref y_0_13, .ref y_0_14, .ref h_1, .ref y_0_16, .ref y_0_17, .ref h_2, .ref y_0_19, .ref y_0_20, .int 0, .ref y_0_22, .ref y_0_23, .ref y_0_24, .ref y_0_25, .ref y_0_26, .ref y_0_27, .int 0, .int 0, .ref y_0_30, .ref y_0_31, .ref y_0_32, .ref y_0_33, .ref y_0_34, .ref y_0_35, .ref y_0_36, .ref y_0_37, .ref y_0_38, .ref y_0_39, .ref y_0_40, .ref y_0_41, .int 0, .int 0, .int 0, .int 0, .int 0, .int 0, .ref y_0_48, .ref y_0_49, .ref y_0_50, .ref y_0_51, .ref y_0_52, .ref y_0_53, .ref y_0_54, .ref y_0_55, .long 0, .long 0, .long 0, .ref h_3, .int 0, .ref y_0_61, .ref y_0_62, .ref y_0_63])), (h_1, .inl (kk_1, 40, .inl (fun _ => 0))), (h_2, .inl (kk_2, 40, .inl (fun _ => 0))), (h_3, .inl (kk_3, 500, .inr (.inl (fun _ => 0))))] sz) := by
  refine Met.ofW (cc := b_Md_arrive) (maxL := 3) (ret := none) (by decide) rfl ?_
  intro p e s m args below meth c s₁ B hml hv
  obtain ⟨rfl, hsz, hP, hK, hD0, hN⟩ := hv
  have hx := B.exec
  have hb := B.bytes
  have hr := B.returns
  have hts := atoms_spec (ws := (.code y_Md_arrive b_Md_arrive 3 none :: TB)) B.pre
  have htb := fun w (h : w ∈ TB) => hts w (List.mem_cons_of_mem _ h)
  have hown : s.vm.findClass R_Md = some m.cls := findClass_of_methodNamed B.named
  have hlocks := B.notSynchronized
  have hl := lv_entry ([.ref h_0]) (n := 3) (Nat.le_of_ble_eq_true rfl)
  rw [lg_entry_eq]
  generalize (lg_sl ([.ref h_0]) ++ List.replicate (3 - (lg_sl ([.ref h_0])).length) Slot.unset).toArray = ls at hl ⊢
  have hl : lv_has ls 3 [(0, .ref h_0)] := hl
  subst hsz
  have hD := hD0.self (sz := s.heap.size)
  obtain ⟨A, hAe⟩ : ∃ A, va_A [(h_0, .inr (7, [.int 0, .int 1440, .int 0, .ref y_0_3, .int (-1), .ref y_0_5, .ref y_0_6, .ref y_0_7, .ref y_0_8, .ref y_0_9, .ref y_0_10, .ref y_0_11, .ref y_0_12, .ref y_0_13, .ref y_0_14, .ref h_1, .ref y_0_16, .ref y_0_17, .ref h_2, .ref y_0_19, .ref y_0_20, .int 0, .ref y_0_22, .ref y_0_23, .ref y_0_24, .ref y_0_25, .ref y_0_26, .ref y_0_27, .int 0, .int 0, .ref y_0_30, .ref y_0_31, .ref y_0_32, .ref y_0_33, .ref y_0_34, .ref y_0_35, .ref y_0_36, .ref y_0_37, .ref y_0_38, .ref y_0_39, .ref y_0_40, .ref y_0_41, .int 0, .int 0, .int 0, .int 0, .int 0, .int 0, .ref y_0_48, .ref y_0_49, .ref y_0_50, .ref y_0_51, .ref y_0_52, .ref y_0_53, .ref y_0_54, .ref y_0_55, .long 0, .long 0, .long 0, .ref h_3, .int 0, .ref y_0_61, .ref y_0_62, .ref y_0_63])), (h_1, .inl (kk_1, 40, .inl (fun _ => 0))), (h_2, .inl (kk_2, 40, .inl (fun _ => 0))), (h_3, .inl (kk_3, 500, .inr (.inl (fun _ => 0))))] s.heap.size = A := ⟨_, rfl⟩
  rw [hAe] at hD
  have hA : ∀ q : Nat, s.heap.size ≤ q → A q := fun q h => by rw [← hAe]; exact Or.inr h
  have hS : va_S A s.heap s.heap [] := va_S.rf
  have hP := hP
  refine lv_iconst (v := 0) hx hb d_Md_arrive_0 (by decide +kernel) ?_
  refine lv_istore_n (lv' := [(1, .int 0), (0, .ref h_0)]) hx hb d_Md_arrive_1 rfl hl (by decide) rfl (fun ls hl => ?_)
  refine lv_iload_n hx hb d_Md_arrive_2 rfl (lv_at hl 0 rfl) ?_
  refine lv_aload_n hx hb d_Md_arrive_3 rfl (lv_at hl 1 rfl) ?_
  refine va_get (D := (dC, dI)) (ci := 7) (v := .int 0) (C := R_Md) (T := F_Md) (N := 64) hx hb htb i_Md hown hK hP 0 rfl rfl 21 (by decide) (htb (.fieldLink R_Md 206 "WaterMenModel" "boats" "I") tw_331) (fun _ h9 => h9) rfl d_Md_arrive_4 ?_
  refine lv_icmp_ge (tgt := 62) hx hb d_Md_arrive_7 (by decide) (fun _ => ?_) (fun h => absurd (by decide +kernel) h)
  refine W.widen (k := 0) (n := 0) (Nat.le_of_ble_eq_true rfl) (Nat.le_of_ble_eq_true rfl) ?_
  exact W.vret hx hb hr (fun t ht hW => ⟨⟨(), rfl, trivial, by rw [ht]; exact hP, va_K.moved hW.alike hK, by rw [hAe]; exact hD⟩, by rw [hAe]; exact hS.F ht⟩) (by rw [hAe]; exact hS.2.2) d_Md_arrive_62
def f_Md_today_c26  : Int32 := 2
set_option maxHeartbeats 4000000 in
set_option maxRecDepth 100000 in
theorem c_Md_today_c26 (l : Launch) (dC : Nat → ClassId) (dI : Nat → Nat → Nat) (h_0 y_0_3 y_0_5 y_0_6 y_0_7 y_0_8 y_0_9 y_0_10 y_0_11 y_0_12 y_0_13 y_0_14 y_0_16 y_0_17 y_0_19 y_0_20 y_0_22 y_0_23 y_0_24 y_0_25 y_0_26 y_0_27 y_0_30 y_0_31 y_0_32 y_0_33 y_0_34 y_0_35 y_0_36 y_0_37 y_0_38 y_0_39 y_0_40 y_0_41 y_0_48 y_0_49 y_0_50 y_0_51 y_0_52 y_0_53 y_0_54 y_0_55 y_0_61 y_0_62 y_0_63 h_1 h_2 h_3 : Nat) (kk_1 kk_2 kk_3 : ClassId) (sz : Nat)   : Met l y_Md_today (.code y_Md_today b_Md_today 1 (some .int) :: TB) ({ frames := 0, cells := 0, slots := 0, locals := 0 }) (va_Pc [.ref h_0] (PC dC dI [(h_0, .inr (7, [.int 0, .int 1440, .int 0, .ref y_0_3, .int (-1), .ref y_0_5, .ref y_0_6, .ref y_0_7, .ref y_0_8, .ref y_0_9, .ref y_0_10, .ref y_0_11, .ref y_0_12, .ref y_0_13, .ref y_0_14, .ref h_1, .ref y_0_16, .ref y_0_17, .ref h_2, .ref y_0_19, .ref y_0_20, .int 0, .ref y_0_22, .ref y_0_23, .ref y_0_24, .ref y_0_25, .ref y_0_26, .ref y_0_27, .int 0, .int 0, .ref y_0_30, .ref y_0_31, .ref y_0_32, .ref y_0_33, .ref y_0_34, .ref y_0_35, .ref y_0_36, .ref y_0_37, .ref y_0_38, .ref y_0_39, .ref y_0_40, .ref y_0_41, .int 0, .int 0, .int 0, .int 0, .int 0, .int 0, .ref y_0_48, .ref y_0_49, .ref y_0_50, .ref y_0_51, .ref y_0_52, .ref y_0_53, .ref y_0_54, .ref y_0_55, .long 0, .long 0, .long 0, .ref h_3, .int 0, .ref y_0_61, .ref y_0_62, .ref y_0_63])), (h_1, .inl (kk_1, 40, .inl (fun _ => 0))), (h_2, .inl (kk_2, 40, .inl (fun _ => 0))), (h_3, .inl (kk_3, 500, .inr (.inl (fun _ => 0))))] [(kk_1, .int), (kk_2, .boolean), (kk_3, .long)] sz)) (va_Qi (fun r (_ : Unit) => r = f_Md_today_c26) (fun (_ : Unit) t => va_P (dC, dI) vwCl [(h_0, .inr (7, [.int 0, .int 1440, .int 0, .ref y_0_3, .int (-1), .ref y_0_5, .ref y_0_6, .ref y_0_7, .ref y_0_8, .ref y_0_9, .ref y_0_10, .ref y_0_11, .ref y_0_12, .ref y_0_13, .ref y_0_14, .ref h_1, .ref y_0_16, .ref y_0_17, .ref h_2, .ref y_0_19, .ref y_0_20, .int 0, .ref y_0_22, .ref y_0_23, .ref y_0_24, .ref y_0_25, .ref y_0_26, .ref y_0_27, .int 0, .int 0, .ref y_0_30, .ref y_0_31, .ref y_0_32, .ref y_0_33, .ref y_0_34, .ref y_0_35, .ref y_0_36, .ref y_0_37, .ref y_0_38, .ref y_0_39, .ref y_0_40, .ref y_0_41, .int 0, .int 0, .int 0, .int 0, .int 0, .int 0, .ref y_0_48, .ref y_0_49, .ref y_0_50, .ref y_0_51, .ref y_0_52, .ref y_0_53, .ref y_0_54, .ref y_0_55, .long 0, .long 0, .long 0, .ref h_3, .int 0, .ref y_0_61, .ref y_0_62, .ref y_0_63])), (h_1, .inl (kk_1, 40, .inl (fun _ => 0))), (h_2, .inl (kk_2, 40, .inl (fun _ => 0))), (h_3, .inl (kk_3, 500, .inr (.inl (fun _ => 0))))] t.heap ∧ va_K (dC, dI) vwCl [(kk_1, .int), (kk_2, .boolean), (kk_3, .long)] t ∧ va_D (va_A [(h_0, .inr (7, [.int 0, .int 1440, .int 0, .ref y_0_3, .int (-1), .ref y_0_5, .ref y_0_6, .ref y_0_7, .ref y_0_8, .ref y_0_9, .ref y_0_10, .ref y_0_11, .ref y_0_12, .ref y_0_13, .ref y_0_14, .ref h_1, .ref y_0_16, .ref y_0_17, .ref h_2, .ref y_0_19, .ref y_0_20, .int 0, .ref y_0_22, .ref y_0_23, .ref y_0_24, .ref y_0_25, .ref y_0_26, .ref y_0_27, .int 0, .int 0, .ref y_0_30, .ref y_0_31, .ref y_0_32, .ref y_0_33, .ref y_0_34, .ref y_0_35, .ref y_0_36, .ref y_0_37, .ref y_0_38, .ref y_0_39, .ref y_0_40, .ref y_0_41, .int 0, .int 0, .int 0, .int 0, .int 0, .int 0, .ref y_0_48, .ref y_0_49, .ref y_0_50, .ref y_0_51, .ref y_0_52, .ref y_0_53, .ref y_0_54, .ref y_0_55, .long 0, .long 0, .long 0, .ref h_3, .int 0, .ref y_0_61, .ref y_0_62, .ref y_0_63])), (h_1, .inl (kk_1, 40, .inl (fun _ => 0))), (h_2, .inl (kk_2, 40, .inl (fun _ => 0))), (h_3, .inl (kk_3, 500, .inr (.inl (fun _ => 0))))] sz) [(h_0, .inr (7, [.int 0, .int 1440, .int 0, .ref y_0_3, .int (-1), .ref y_0_5, .ref y_0_6, .ref y_0_7, .ref y_0_8, .ref y_0_9, .ref y_0_10, .ref y_0_11, .ref y_0_12, .ref y_0_13, .ref y_0_14, .ref h_1, .ref y_0_16, .ref y_0_17, .ref h_2, .ref y_0_19, .ref y_0_20, .int 0, .ref y_0_22, .ref y_0_23, .ref y_0_24, .ref y_0_25, .ref y_0_26, .ref y_0_27, .int 0, .int 0, .ref y_0_30, .ref y_0_31, .ref y_0_32, .ref y_0_33, .ref y_0_34, .ref y_0_35, .ref y_0_36, .ref y_0_37, .ref y_0_38, .ref y_0_39, .ref y_0_40, .ref y_0_41, .int 0, .int 0, .int 0, .int 0, .int 0, .int 0, .ref y_0_48, .ref y_0_49, .ref y_0_50, .ref y_0_51, .ref y_0_52, .ref y_0_53, .ref y_0_54, .ref y_0_55, .long 0, .long 0, .long 0, .ref h_3, .int 0, .ref y_0_61, .ref y_0_62, .ref y_0_63])), (h_1, .inl (kk_1, 40, .inl (fun _ => 0))), (h_2, .inl (kk_2, 40, .inl (fun _ => 0))), (h_3, .inl (kk_3, 500, .inr (.inl (fun _ => 0))))]) (va_A [(h_0, .inr (7, [.int 0, .int 1440, .int 0, .ref y_0_3, .int (-1), .ref y_0_5, .ref y_0_6, .ref y_0_7, .ref y_0_8, .ref y_0_9, .ref y_0_10, .ref y_0_11, .ref y_0_12, .ref y_0_13, .ref y_0_14, .ref h_1, .ref y_0_16, .ref y_0_17, .ref h_2, .ref y_0_19, .ref y_0_20, .int 0, .ref y_0_22, .ref y_0_23, .ref y_0_24, .ref y_0_25, .ref y_0_26, .ref y_0_27, .int 0, .int 0, .ref y_0_30, .ref y_0_31, .ref y_0_32, .ref y_0_33, .ref y_0_34, .ref y_0_35, .ref y_0_36, .ref y_0_37, .ref y_0_38, .ref y_0_39, .ref y_0_40, .ref y_0_41, .int 0, .int 0, .int 0, .int 0, .int 0, .int 0, .ref y_0_48, .ref y_0_49, .ref y_0_50, .ref y_0_51, .ref y_0_52, .ref y_0_53, .ref y_0_54, .ref y_0_55, .long 0, .long 0, .long 0, .ref h_3, .int 0, .ref y_0_61, .ref y_0_62, .ref y_0_63])), (h_1, .inl (kk_1, 40, .inl (fun _ => 0))), (h_2, .inl (kk_2, 40, .inl (fun _ => 0))), (h_3, .inl (kk_3, 500, .inr (.inl (fun _ => 0))))] sz)) 0 0 (va_A [(h_0, .inr (7, [.int 0, .int 1440, .int 0, .ref y_0_3, .int (-1), .ref y_0_5, .ref y_0_6, .ref y_0_7, .ref y_0_8, .ref y_0_9, .ref y_0_10, .ref y_0_11, .ref y_0_12, .ref y_0_13, .ref y_0_14, .ref h_1, .ref y_0_16, .ref y_0_17, .ref h_2, .ref y_0_19, .ref y_0_20, .int 0, .ref y_0_22, .ref y_0_23, .ref y_0_24, .ref y_0_25, .ref y_0_26, .ref y_0_27, .int 0, .int 0, .ref y_0_30, .ref y_0_31, .ref y_0_32, .ref y_0_33, .ref y_0_34, .ref y_0_35, .ref y_0_36, .ref y_0_37, .ref y_0_38, .ref y_0_39, .ref y_0_40, .ref y_0_41, .int 0, .int 0, .int 0, .int 0, .int 0, .int 0, .ref y_0_48, .ref y_0_49, .ref y_0_50, .ref y_0_51, .ref y_0_52, .ref y_0_53, .ref y_0_54, .ref y_0_55, .long 0, .long 0, .long 0, .ref h_3, .int 0, .ref y_0_61, .ref y_0_62, .ref y_0_63])), (h_1, .inl (kk_1, 40, .inl (fun _ => 0))), (h_2, .inl (kk_2, 40, .inl (fun _ => 0))), (h_3, .inl (kk_3, 500, .inr (.inl (fun _ => 0))))] sz) := by
  refine Met.ofW (cc := b_Md_today) (maxL := 1) (ret := (some .int)) (by decide) rfl ?_
  intro p e s m args below meth c s₁ B hml hv
  obtain ⟨rfl, hsz, hP, hK, hD0, hN⟩ := hv
  have hx := B.exec
  have hb := B.bytes
  have hr := B.returns
  have hts := atoms_spec (ws := (.code y_Md_today b_Md_today 1 (some .int) :: TB)) B.pre
  have htb := fun w (h : w ∈ TB) => hts w (List.mem_cons_of_mem _ h)
  have hown : s.vm.findClass R_Md = some m.cls := findClass_of_methodNamed B.named
  have hlocks := B.notSynchronized
  have hl := lv_entry ([.ref h_0]) (n := 1) (Nat.le_of_ble_eq_true rfl)
  rw [lg_entry_eq]
  generalize (lg_sl ([.ref h_0]) ++ List.replicate (1 - (lg_sl ([.ref h_0])).length) Slot.unset).toArray = ls at hl ⊢
  have hl : lv_has ls 1 [(0, .ref h_0)] := hl
  subst hsz
  have hD := hD0.self (sz := s.heap.size)
  obtain ⟨A, hAe⟩ : ∃ A, va_A [(h_0, .inr (7, [.int 0, .int 1440, .int 0, .ref y_0_3, .int (-1), .ref y_0_5, .ref y_0_6, .ref y_0_7, .ref y_0_8, .ref y_0_9, .ref y_0_10, .ref y_0_11, .ref y_0_12, .ref y_0_13, .ref y_0_14, .ref h_1, .ref y_0_16, .ref y_0_17, .ref h_2, .ref y_0_19, .ref y_0_20, .int 0, .ref y_0_22, .ref y_0_23, .ref y_0_24, .ref y_0_25, .ref y_0_26, .ref y_0_27, .int 0, .int 0, .ref y_0_30, .ref y_0_31, .ref y_0_32, .ref y_0_33, .ref y_0_34, .ref y_0_35, .ref y_0_36, .ref y_0_37, .ref y_0_38, .ref y_0_39, .ref y_0_40, .ref y_0_41, .int 0, .int 0, .int 0, .int 0, .int 0, .int 0, .ref y_0_48, .ref y_0_49, .ref y_0_50, .ref y_0_51, .ref y_0_52, .ref y_0_53, .ref y_0_54, .ref y_0_55, .long 0, .long 0, .long 0, .ref h_3, .int 0, .ref y_0_61, .ref y_0_62, .ref y_0_63])), (h_1, .inl (kk_1, 40, .inl (fun _ => 0))), (h_2, .inl (kk_2, 40, .inl (fun _ => 0))), (h_3, .inl (kk_3, 500, .inr (.inl (fun _ => 0))))] s.heap.size = A := ⟨_, rfl⟩
  rw [hAe] at hD
  have hA : ∀ q : Nat, s.heap.size ≤ q → A q := fun q h => by rw [← hAe]; exact Or.inr h
  have hS : va_S A s.heap s.heap [] := va_S.rf
  have hP := hP
  refine lv_aload_n hx hb d_Md_today_0 rfl (lv_at hl 0 rfl) ?_
  refine va_get (D := (dC, dI)) (ci := 7) (v := .int 1440) (C := R_Md) (T := F_Md) (N := 64) hx hb htb i_Md hown hK hP 0 rfl rfl 1 (by decide) (htb (.fieldLink R_Md 7 "WaterMenModel" "time" "I") tw_311) (fun _ h9 => h9) rfl d_Md_today_1 ?_
  refine lv_sipush (v := 720) hx hb d_Md_today_4 (by decide +kernel) ?_
  refine lv_idiv hx hb d_Md_today_7 (by decide) ?_
  refine hb_ti 2 (by decide +kernel) ?_
  refine W.widen (k := 0) (n := 0) (Nat.le_of_ble_eq_true rfl) (Nat.le_of_ble_eq_true rfl) ?_
  exact W.iret (v := 2) hx hb hr (fun t ht hW => ⟨⟨2, (), rfl, rfl, by rw [ht]; exact hP, va_K.moved hW.alike hK, by rw [hAe]; exact hD⟩, by rw [hAe]; exact hS.F ht⟩) (by rw [hAe]; exact hS.2.2) d_Md_today_8
set_option maxHeartbeats 4000000 in
set_option maxRecDepth 100000 in
theorem c_Md_arrive_c27 (l : Launch) (dC : Nat → ClassId) (dI : Nat → Nat → Nat) (h_0 y_0_3 y_0_5 y_0_6 y_0_7 y_0_8 y_0_9 y_0_10 y_0_11 y_0_12 y_0_13 y_0_14 y_0_16 y_0_17 y_0_19 y_0_20 y_0_22 y_0_23 y_0_24 y_0_25 y_0_26 y_0_27 y_0_30 y_0_31 y_0_32 y_0_33 y_0_34 y_0_35 y_0_36 y_0_37 y_0_38 y_0_39 y_0_40 y_0_41 y_0_48 y_0_49 y_0_50 y_0_51 y_0_52 y_0_53 y_0_54 y_0_55 y_0_61 y_0_62 y_0_63 h_1 h_2 h_3 : Nat) (kk_1 kk_2 kk_3 : ClassId) (xx_0_1 : Int32) (sz : Nat)   : Met l y_Md_arrive (.code y_Md_arrive b_Md_arrive 3 none :: TB) ({ frames := 0, cells := 0, slots := 0, locals := 0 }) (va_Pc [.ref h_0] (PC dC dI [(h_0, .inr (7, [.int 0, .int xx_0_1, .int 0, .ref y_0_3, .int (-1), .ref y_0_5, .ref y_0_6, .ref y_0_7, .ref y_0_8, .ref y_0_9, .ref y_0_10, .ref y_0_11, .ref y_0_12, .ref y_0_13, .ref y_0_14, .ref h_1, .ref y_0_16, .ref y_0_17, .ref h_2, .ref y_0_19, .ref y_0_20, .int 0, .ref y_0_22, .ref y_0_23, .ref y_0_24, .ref y_0_25, .ref y_0_26, .ref y_0_27, .int 0, .int 0, .ref y_0_30, .ref y_0_31, .ref y_0_32, .ref y_0_33, .ref y_0_34, .ref y_0_35, .ref y_0_36, .ref y_0_37, .ref y_0_38, .ref y_0_39, .ref y_0_40, .ref y_0_41, .int 0, .int 0, .int 0, .int 0, .int 0, .int 0, .ref y_0_48, .ref y_0_49, .ref y_0_50, .ref y_0_51, .ref y_0_52, .ref y_0_53, .ref y_0_54, .ref y_0_55, .long 0, .long 0, .long 0, .ref h_3, .int 0, .ref y_0_61, .ref y_0_62, .ref y_0_63])), (h_1, .inl (kk_1, 40, .inl (fun _ => 0))), (h_2, .inl (kk_2, 40, .inl (fun _ => 0))), (h_3, .inl (kk_3, 500, .inr (.inl (fun _ => 0))))] [(kk_1, .int), (kk_2, .boolean), (kk_3, .long)] sz)) (va_Qv (fun (_ : Unit) => True) (fun (_ : Unit) t => va_P (dC, dI) vwCl [(h_0, .inr (7, [.int 0, .int xx_0_1, .int 0, .ref y_0_3, .int (-1), .ref y_0_5, .ref y_0_6, .ref y_0_7, .ref y_0_8, .ref y_0_9, .ref y_0_10, .ref y_0_11, .ref y_0_12, .ref y_0_13, .ref y_0_14, .ref h_1, .ref y_0_16, .ref y_0_17, .ref h_2, .ref y_0_19, .ref y_0_20, .int 0, .ref y_0_22, .ref y_0_23, .ref y_0_24, .ref y_0_25, .ref y_0_26, .ref y_0_27, .int 0, .int 0, .ref y_0_30, .ref y_0_31, .ref y_0_32, .ref y_0_33, .ref y_0_34, .ref y_0_35, .ref y_0_36, .ref y_0_37, .ref y_0_38, .ref y_0_39, .ref y_0_40, .ref y_0_41, .int 0, .int 0, .int 0, .int 0, .int 0, .int 0, .ref y_0_48, .ref y_0_49, .ref y_0_50, .ref y_0_51, .ref y_0_52, .ref y_0_53, .ref y_0_54, .ref y_0_55, .long 0, .long 0, .long 0, .ref h_3, .int 0, .ref y_0_61, .ref y_0_62, .ref y_0_63])), (h_1, .inl (kk_1, 40, .inl (fun _ => 0))), (h_2, .inl (kk_2, 40, .inl (fun _ => 0))), (h_3, .inl (kk_3, 500, .inr (.inl (fun _ => 0))))] t.heap ∧ va_K (dC, dI) vwCl [(kk_1, .int), (kk_2, .boolean), (kk_3, .long)] t ∧ va_D (va_A [(h_0, .inr (7, [.int 0, .int xx_0_1, .int 0, .ref y_0_3, .int (-1), .ref y_0_5, .ref y_0_6, .ref y_0_7, .ref y_0_8, .ref y_0_9, .ref y_0_10, .ref y_0_11, .ref y_0_12, .ref y_0_13, .ref y_0_14, .ref h_1, .ref y_0_16, .ref y_0_17, .ref h_2, .ref y_0_19, .ref y_0_20, .int 0, .ref y_0_22, .ref y_0_23, .ref y_0_24, .ref y_0_25, .ref y_0_26, .ref y_0_27, .int 0, .int 0, .ref y_0_30, .ref y_0_31, .ref y_0_32, .ref y_0_33, .ref y_0_34, .ref y_0_35, .ref y_0_36, .ref y_0_37, .ref y_0_38, .ref y_0_39, .ref y_0_40, .ref y_0_41, .int 0, .int 0, .int 0, .int 0, .int 0, .int 0, .ref y_0_48, .ref y_0_49, .ref y_0_50, .ref y_0_51, .ref y_0_52, .ref y_0_53, .ref y_0_54, .ref y_0_55, .long 0, .long 0, .long 0, .ref h_3, .int 0, .ref y_0_61, .ref y_0_62, .ref y_0_63])), (h_1, .inl (kk_1, 40, .inl (fun _ => 0))), (h_2, .inl (kk_2, 40, .inl (fun _ => 0))), (h_3, .inl (kk_3, 500, .inr (.inl (fun _ => 0))))] sz) [(h_0, .inr (7, [.int 0, .int xx_0_1, .int 0, .ref y_0_3, .int (-1), .ref y_0_5, .ref y_0_6, .ref y_0_7, .ref y_0_8, .ref y_0_9, .ref y_0_10, .ref y_0_11, .ref y_0_12, .ref y_0_13, .ref y_0_14, .ref h_1, .ref y_0_16, .ref y_0_17, .ref h_2, .ref y_0_19, .ref y_0_20, .int 0, .ref y_0_22, .ref y_0_23, .ref y_0_24, .ref y_0_25, .ref y_0_26, .ref y_0_27, .int 0, .int 0, .ref y_0_30, .ref y_0_31, .ref y_0_32, .ref y_0_33, .ref y_0_34, .ref y_0_35, .ref y_0_36, .ref y_0_37, .ref y_0_38, .ref y_0_39, .ref y_0_40, .ref y_0_41, .int 0, .int 0, .int 0, .int 0, .int 0, .int 0, .ref y_0_48, .ref y_0_49, .ref y_0_50, .ref y_0_51, .ref y_0_52, .ref y_0_53, .ref y_0_54, .ref y_0_55, .long 0, .long 0, .long 0, .ref h_3, .int 0, .ref y_0_61, .ref y_0_62, .ref y_0_63])), (h_1, .inl (kk_1, 40, .inl (fun _ => 0))), (h_2, .inl (kk_2, 40, .inl (fun _ => 0))), (h_3, .inl (kk_3, 500, .inr (.inl (fun _ => 0))))]) (va_A [(h_0, .inr (7, [.int 0, .int xx_0_1, .int 0, .ref y_0_3, .int (-1), .ref y_0_5, .ref y_0_6, .ref y_0_7, .ref y_0_8, .ref y_0_9, .ref y_0_10, .ref y_0_11, .ref y_0_12, .ref y_0_13, .ref y_0_14, .ref h_1, .ref y_0_16, .ref y_0_17, .ref h_2, .ref y_0_19, .ref y_0_20, .int 0, .ref y_0_22, .ref y_0_23, .ref y_0_24, .ref y_0_25, .ref y_0_26, .ref y_0_27, .int 0, .int 0, .ref y_0_30, .ref y_0_31, .ref y_0_32, .ref y_0_33, .ref y_0_34, .ref y_0_35, .ref y_0_36, .ref y_0_37, .ref y_0_38, .ref y_0_39, .ref y_0_40, .ref y_0_41, .int 0, .int 0, .int 0, .int 0, .int 0, .int 0, .ref y_0_48, .ref y_0_49, .ref y_0_50, .ref y_0_51, .ref y_0_52, .ref y_0_53, .ref y_0_54, .ref y_0_55, .long 0, .long 0, .long 0, .ref h_3, .int 0, .ref y_0_61, .ref y_0_62, .ref y_0_63])), (h_1, .inl (kk_1, 40, .inl (fun _ => 0))), (h_2, .inl (kk_2, 40, .inl (fun _ => 0))), (h_3, .inl (kk_3, 500, .inr (.inl (fun _ => 0))))] sz)) 0 0 (va_A [(h_0, .inr (7, [.int 0, .int xx_0_1, .int 0, .ref y_0_3, .int (-1), .ref y_0_5, .ref y_0_6, .ref y_0_7, .ref y_0_8, .ref y_0_9, .ref y_0_10, .ref y_0_11, .ref y_0_12, .ref y_0_13, .ref y_0_14, .ref h_1, .ref y_0_16, .ref y_0_17, .ref h_2, .ref y_0_19, .ref y_0_20, .int 0, .ref y_0_22, .ref y_0_23, .ref y_0_24, .ref y_0_25, .ref y_0_26, .ref y_0_27, .int 0, .int 0, .ref y_0_30, .ref y_0_31, .ref y_0_32, .ref y_0_33, .ref y_0_34, .ref y_0_35, .ref y_0_36, .ref y_0_37, .ref y_0_38, .ref y_0_39, .ref y_0_40, .ref y_0_41, .int 0, .int 0, .int 0, .int 0, .int 0, .int 0, .ref y_0_48, .ref y_0_49, .ref y_0_50, .ref y_0_51, .ref y_0_52, .ref y_0_53, .ref y_0_54, .ref y_0_55, .long 0, .long 0, .long 0, .ref h_3, .int 0, .ref y_0_61, .ref y_0_62, .ref y_0_63])), (h_1, .inl (kk_1, 40, .inl (fun _ => 0))), (h_2, .inl (kk_2, 40, .inl (fun _ => 0))), (h_3, .inl (kk_3, 500, .inr (.inl (fun _ => 0))))] sz) := by
  refine Met.ofW (cc := b_Md_arrive) (maxL := 3) (ret := none) (by decide) rfl ?_
  intro p e s m args below meth c s₁ B hml hv
  obtain ⟨rfl, hsz, hP, hK, hD0, hN⟩ := hv
  have hx := B.exec
  have hb := B.bytes
  have hr := B.returns
  have hts := atoms_spec (ws := (.code y_Md_arrive b_Md_arrive 3 none :: TB)) B.pre
  have htb := fun w (h : w ∈ TB) => hts w (List.mem_cons_of_mem _ h)
  have hown : s.vm.findClass R_Md = some m.cls := findClass_of_methodNamed B.named
  have hlocks := B.notSynchronized
  have hl := lv_entry ([.ref h_0]) (n := 3) (Nat.le_of_ble_eq_true rfl)
  rw [lg_entry_eq]
  generalize (lg_sl ([.ref h_0]) ++ List.replicate (3 - (lg_sl ([.ref h_0])).length) Slot.unset).toArray = ls at hl ⊢
  have hl : lv_has ls 3 [(0, .ref h_0)] := hl
  subst hsz
  have hD := hD0.self (sz := s.heap.size)
  obtain ⟨A, hAe⟩ : ∃ A, va_A [(h_0, .inr (7, [.int 0, .int xx_0_1, .int 0, .ref y_0_3, .int (-1), .ref y_0_5, .ref y_0_6, .ref y_0_7, .ref y_0_8, .ref y_0_9, .ref y_0_10, .ref y_0_11, .ref y_0_12, .ref y_0_13, .ref y_0_14, .ref h_1, .ref y_0_16, .ref y_0_17, .ref h_2, .ref y_0_19, .ref y_0_20, .int 0, .ref y_0_22, .ref y_0_23, .ref y_0_24, .ref y_0_25, .ref y_0_26, .ref y_0_27, .int 0, .int 0, .ref y_0_30, .ref y_0_31, .ref y_0_32, .ref y_0_33, .ref y_0_34, .ref y_0_35, .ref y_0_36, .ref y_0_37, .ref y_0_38, .ref y_0_39, .ref y_0_40, .ref y_0_41, .int 0, .int 0, .int 0, .int 0, .int 0, .int 0, .ref y_0_48, .ref y_0_49, .ref y_0_50, .ref y_0_51, .ref y_0_52, .ref y_0_53, .ref y_0_54, .ref y_0_55, .long 0, .long 0, .long 0, .ref h_3, .int 0, .ref y_0_61, .ref y_0_62, .ref y_0_63])), (h_1, .inl (kk_1, 40, .inl (fun _ => 0))), (h_2, .inl (kk_2, 40, .inl (fun _ => 0))), (h_3, .inl (kk_3, 500, .inr (.inl (fun _ => 0))))] s.heap.size = A := ⟨_, rfl⟩
  rw [hAe] at hD
  have hA : ∀ q : Nat, s.heap.size ≤ q → A q := fun q h => by rw [← hAe]; exact Or.inr h
  have hS : va_S A s.heap s.heap [] := va_S.rf
  have hP := hP
  refine lv_iconst (v := 0) hx hb d_Md_arrive_0 (by decide +kernel) ?_
  refine lv_istore_n (lv' := [(1, .int 0), (0, .ref h_0)]) hx hb d_Md_arrive_1 rfl hl (by decide) rfl (fun ls hl => ?_)
  refine lv_iload_n hx hb d_Md_arrive_2 rfl (lv_at hl 0 rfl) ?_
  refine lv_aload_n hx hb d_Md_arrive_3 rfl (lv_at hl 1 rfl) ?_
  refine va_get (D := (dC, dI)) (ci := 7) (v := .int 0) (C := R_Md) (T := F_Md) (N := 64) hx hb htb i_Md hown hK hP 0 rfl rfl 21 (by decide) (htb (.fieldLink R_Md 206 "WaterMenModel" "boats" "I") tw_331) (fun _ h9 => h9) rfl d_Md_arrive_4 ?_
  refine lv_icmp_ge (tgt := 62) hx hb d_Md_arrive_7 (by decide) (fun _ => ?_) (fun h => absurd (by decide +kernel) h)
  refine W.widen (k := 0) (n := 0) (Nat.le_of_ble_eq_true rfl) (Nat.le_of_ble_eq_true rfl) ?_
  exact W.vret hx hb hr (fun t ht hW => ⟨⟨(), rfl, trivial, by rw [ht]; exact hP, va_K.moved hW.alike hK, by rw [hAe]; exact hD⟩, by rw [hAe]; exact hS.F ht⟩) (by rw [hAe]; exact hS.2.2) d_Md_arrive_62
def f_Md_minutes (p_0 : Int32) : Int32 := if p_0 < 1 then ((-1)) else (if 1440 < p_0 then ((-1)) else (p_0))
set_option maxHeartbeats 4000000 in
set_option maxRecDepth 100000 in
theorem c_Md_minutes (l : Launch) (dC : Nat → ClassId) (dI : Nat → Nat → Nat) (a : Nat → Nat) (k : Nat → ClassId) (sz : Nat) (p_0 : Int32)  : Met l y_Md_minutes (.code y_Md_minutes b_Md_minutes 3 (some .int) :: TB) ({ frames := 1, cells := 0, slots := 0, locals := 25 }) (va_Pc [.ref (a 0), .int p_0] (PC dC dI (MW a k) (MT k) sz)) (va_Qi (fun r (_ : Unit) => r = f_Md_minutes p_0) (fun (_ : Unit) (_ : State) => True) (va_A (MW a k) sz)) 0 0 (va_A (MW a k) sz) := by
  refine Met.ofW (cc := b_Md_minutes) (maxL := 3) (ret := (some .int)) (by decide) rfl ?_
  intro p e s m args below meth c s₁ B hml hv
  obtain ⟨rfl, hsz, hP, hK, hD0, hN⟩ := hv
  have hx := B.exec
  have hb := B.bytes
  have hr := B.returns
  have hts := atoms_spec (ws := (.code y_Md_minutes b_Md_minutes 3 (some .int) :: TB)) B.pre
  have htb := fun w (h : w ∈ TB) => hts w (List.mem_cons_of_mem _ h)
  have hown : s.vm.findClass R_Md = some m.cls := findClass_of_methodNamed B.named
  have hlocks := B.notSynchronized
  have hl := lv_entry ([.ref (a 0), .int p_0]) (n := 3) (Nat.le_of_ble_eq_true rfl)
  rw [lg_entry_eq]
  generalize (lg_sl ([.ref (a 0), .int p_0]) ++ List.replicate (3 - (lg_sl ([.ref (a 0), .int p_0])).length) Slot.unset).toArray = ls at hl ⊢
  have hl : lv_has ls 3 [(0, .ref (a 0)), (1, .int p_0)] := hl
  subst hsz
  have hD := hD0.self (sz := s.heap.size)
  obtain ⟨A, hAe⟩ : ∃ A, va_A (MW a k) s.heap.size = A := ⟨_, rfl⟩
  rw [hAe] at hD
  have hA : ∀ q : Nat, s.heap.size ≤ q → A q := fun q h => by rw [← hAe]; exact Or.inr h
  have hS : va_S A s.heap s.heap [] := va_S.rf
  have hP := hP
  refine lv_iload_n hx hb d_Md_minutes_0 rfl (lv_at hl 1 rfl) ?_
  refine lv_iconst (v := 1) hx hb d_Md_minutes_1 (by decide +kernel) ?_
  refine lv_sipush (v := 1440) hx hb d_Md_minutes_2 (by decide +kernel) ?_
  refine vp_callSi (va_Run.run (va_runS (As := [.int p_0, .int 1, .int 1440]) (rest := []) ⟨hx, hb, hml, hown, htb⟩ (c_Md_in l p_0 1 1440) (cwS 3 htb (gd_S tw_297 tw_298 tw_296 tw_295) rfl rfl rfl (by decide +kernel) ⟨Nat.le_of_ble_eq_true rfl, Nat.le_of_ble_eq_true rfl⟩) ⟨fun _ _ _ _ h => h, fun U _ _ => ⟨rfl, trivial⟩⟩ rfl rfl hl.1 rfl (lv_room (Nat.le_of_ble_eq_true rfl)) d_Md_minutes_5 ⟨Nat.le_of_ble_eq_true rfl, Nat.le_of_ble_eq_true rfl⟩)) (fun r er => ?_)
  subst er
  by_cases c_1 : p_0 < 1
  · refine hb_ti 0 (by unfold f_Md_in; rw [if_pos c_1]) ?_
    refine lv_if_eq (tgt := 23) hx hb d_Md_minutes_8 (by decide) (fun _ => ?_) (fun h => absurd (by decide +kernel) h)
    refine lv_iconst (v := (-1)) hx hb d_Md_minutes_23 (by decide +kernel) ?_
    refine W.widen (k := 0) (n := 0) (Nat.le_of_ble_eq_true rfl) (Nat.le_of_ble_eq_true rfl) ?_
    exact W.iret (v := (-1)) hx hb hr (fun t ht hW => ⟨⟨(-1), (), rfl, (by unfold f_Md_minutes; rw [if_pos c_1]), trivial⟩, by rw [hAe]; exact hS.F ht⟩) (by rw [hAe]; exact hS.2.2) d_Md_minutes_24
  · by_cases c_2 : 1440 < p_0
    · refine hb_ti 0 (by unfold f_Md_in; rw [if_neg c_1, if_pos c_2]) ?_
      refine lv_if_eq (tgt := 23) hx hb d_Md_minutes_8 (by decide) (fun _ => ?_) (fun h => absurd (by decide +kernel) h)
      refine lv_iconst (v := (-1)) hx hb d_Md_minutes_23 (by decide +kernel) ?_
      refine W.widen (k := 0) (n := 0) (Nat.le_of_ble_eq_true rfl) (Nat.le_of_ble_eq_true rfl) ?_
      exact W.iret (v := (-1)) hx hb hr (fun t ht hW => ⟨⟨(-1), (), rfl, (by unfold f_Md_minutes; rw [if_neg c_1, if_pos c_2]), trivial⟩, by rw [hAe]; exact hS.F ht⟩) (by rw [hAe]; exact hS.2.2) d_Md_minutes_24
    · refine hb_ti 1 (by unfold f_Md_in; rw [if_neg c_1, if_neg c_2]) ?_
      refine lv_if_eq (tgt := 23) hx hb d_Md_minutes_8 (by decide) (fun h => absurd h (by decide +kernel)) (fun _ => ?_)
      refine lv_aload_n hx hb d_Md_minutes_11 rfl (lv_at hl 0 rfl) ?_
      refine va_get (D := (dC, dI)) (ci := 7) (v := .int 0) (C := R_Md) (T := F_Md) (N := 64) hx hb htb i_Md hown hK hP 0 rfl rfl 1 (by decide) (htb (.fieldLink R_Md 7 "WaterMenModel" "time" "I") tw_311) (fun _ h9 => h9) rfl d_Md_minutes_12 ?_
      refine lv_iload_n hx hb d_Md_minutes_15 rfl (lv_at hl 1 rfl) ?_
      refine lv_iadd hx hb d_Md_minutes_16 ?_
      refine lv_ldcw (v := 359999) hx hb hown (htb (.constant R_Md 305 359999) tw_361) d_Md_minutes_17 ?_
      refine lv_icmp_le (tgt := 25) hx hb d_Md_minutes_20 (by decide) (fun _ => ?_) (fun h => absurd (hb_time c_1 c_2) h)
      refine lv_iconst (v := 0) hx hb d_Md_minutes_25 (by decide +kernel) ?_
      refine lv_istore_n (lv' := [(2, .int 0), (0, .ref (a 0)), (1, .int p_0)]) hx hb d_Md_minutes_26 rfl hl (by decide) rfl (fun ls hl => ?_)
      have hP := hP.sub (ws' := [((a 0), .inr (7, [.int 0, .int 0, .int 0, .ref (a 1), .int (-1), .ref (a 2), .ref (a 3), .ref (a 4), .ref (a 5), .ref (a 6), .ref (a 7), .ref (a 8), .ref (a 9), .ref (a 10), .ref (a 11), .ref (a 12), .ref (a 13), .ref (a 14), .ref (a 15), .ref (a 16), .ref (a 17), .int 0, .ref (a 18), .ref (a 19), .ref (a 20), .ref (a 21), .ref (a 22), .ref (a 23), .int 0, .int 0, .ref (a 24), .ref (a 25), .ref (a 26), .ref (a 27), .ref (a 28), .ref (a 29), .ref (a 30), .ref (a 31), .ref (a 32), .ref (a 33), .ref (a 34), .ref (a 35), .int 0, .int 0, .int 0, .int 0, .int 0, .int 0, .ref (a 36), .ref (a 37), .ref (a 38), .ref (a 39), .ref (a 40), .ref (a 41), .ref (a 42), .ref (a 43), .long 0, .long 0, .long 0, .ref (a 44), .int 0, .ref (a 45), .ref (a 46), .ref (a 47)])), ((a 15), .inl ((k 15), 40, .inl (fun _ => 0))), ((a 12), .inl ((k 12), 40, .inl (fun _ => 0))), ((a 44), .inl ((k 44), 500, .inr (.inl (fun _ => 0))))]) [0, 15, 12, 44] rfl
      have hD := hD.sub (ws' := [((a 0), .inr (7, [.int 0, .int 0, .int 0, .ref (a 1), .int (-1), .ref (a 2), .ref (a 3), .ref (a 4), .ref (a 5), .ref (a 6), .ref (a 7), .ref (a 8), .ref (a 9), .ref (a 10), .ref (a 11), .ref (a 12), .ref (a 13), .ref (a 14), .ref (a 15), .ref (a 16), .ref (a 17), .int 0, .ref (a 18), .ref (a 19), .ref (a 20), .ref (a 21), .ref (a 22), .ref (a 23), .int 0, .int 0, .ref (a 24), .ref (a 25), .ref (a 26), .ref (a 27), .ref (a 28), .ref (a 29), .ref (a 30), .ref (a 31), .ref (a 32), .ref (a 33), .ref (a 34), .ref (a 35), .int 0, .int 0, .int 0, .int 0, .int 0, .int 0, .ref (a 36), .ref (a 37), .ref (a 38), .ref (a 39), .ref (a 40), .ref (a 41), .ref (a 42), .ref (a 43), .long 0, .long 0, .long 0, .ref (a 44), .int 0, .ref (a 45), .ref (a 46), .ref (a 47)])), ((a 15), .inl ((k 15), 40, .inl (fun _ => 0))), ((a 12), .inl ((k 12), 40, .inl (fun _ => 0))), ((a 44), .inl ((k 44), 500, .inr (.inl (fun _ => 0))))]) [0, 15, 12, 44] (by decide) rfl
      have hK := hK.sub (tys' := [((k 15), .boolean), ((k 12), .int), ((k 44), .long)]) [14, 11, 43] rfl
      obtain ⟨J, hJ1, hJ2, hJe, -⟩ := hb_div720 c_1 c_2
      have loop : ∀ (n j : Nat) (H : Heap) (locs : List Loc), j + n = J → va_P (dC, dI) vwCl [((a 0), .inr (7, [.int 0, .int (nI j), .int 0, .ref (a 1), .int (-1), .ref (a 2), .ref (a 3), .ref (a 4), .ref (a 5), .ref (a 6), .ref (a 7), .ref (a 8), .ref (a 9), .ref (a 10), .ref (a 11), .ref (a 12), .ref (a 13), .ref (a 14), .ref (a 15), .ref (a 16), .ref (a 17), .int 0, .ref (a 18), .ref (a 19), .ref (a 20), .ref (a 21), .ref (a 22), .ref (a 23), .int 0, .int 0, .ref (a 24), .ref (a 25), .ref (a 26), .ref (a 27), .ref (a 28), .ref (a 29), .ref (a 30), .ref (a 31), .ref (a 32), .ref (a 33), .ref (a 34), .ref (a 35), .int 0, .int 0, .int 0, .int 0, .int 0, .int 0, .ref (a 36), .ref (a 37), .ref (a 38), .ref (a 39), .ref (a 40), .ref (a 41), .ref (a 42), .ref (a 43), .long 0, .long 0, .long 0, .ref (a 44), .int 0, .ref (a 45), .ref (a 46), .ref (a 47)])), ((a 15), .inl ((k 15), 40, .inl (fun _ => 0))), ((a 12), .inl ((k 12), 40, .inl (fun _ => 0))), ((a 44), .inl ((k 44), 500, .inr (.inl (fun _ => 0))))] H → va_D A [((a 0), .inr (7, [.int 0, .int (nI j), .int 0, .ref (a 1), .int (-1), .ref (a 2), .ref (a 3), .ref (a 4), .ref (a 5), .ref (a 6), .ref (a 7), .ref (a 8), .ref (a 9), .ref (a 10), .ref (a 11), .ref (a 12), .ref (a 13), .ref (a 14), .ref (a 15), .ref (a 16), .ref (a 17), .int 0, .ref (a 18), .ref (a 19), .ref (a 20), .ref (a 21), .ref (a 22), .ref (a 23), .int 0, .int 0, .ref (a 24), .ref (a 25), .ref (a 26), .ref (a 27), .ref (a 28), .ref (a 29), .ref (a 30), .ref (a 31), .ref (a 32), .ref (a 33), .ref (a 34), .ref (a 35), .int 0, .int 0, .int 0, .int 0, .int 0, .int 0, .ref (a 36), .ref (a 37), .ref (a 38), .ref (a 39), .ref (a 40), .ref (a 41), .ref (a 42), .ref (a 43), .long 0, .long 0, .long 0, .ref (a 44), .int 0, .ref (a 45), .ref (a 46), .ref (a 47)])), ((a 15), .inl ((k 15), 40, .inl (fun _ => 0))), ((a 12), .inl ((k 12), 40, .inl (fun _ => 0))), ((a 44), .inl ((k 44), 500, .inr (.inl (fun _ => 0))))] → va_S A s.heap H locs → ∀ ls : Array Slot, lv_has ls 3 [(2, .int (nI j)), (0, .ref (a 0)), (1, .int p_0)] → W p l e (headSpec (.code y_Md_minutes b_Md_minutes 3 (some .int) :: TB) ({ frames := 1, cells := 0, slots := 0, locals := 25 })).room s m [.ref (a 0), .int p_0].toArray below meth c H locs 0 0 (MQ below (va_Qi (fun r (_ : Unit) => r = f_Md_minutes p_0) (fun (_ : Unit) (_ : State) => True) (va_A (MW a k) s.heap.size)) [.ref (a 0), .int p_0].toArray s 0 0 (va_A (MW a k) s.heap.size)) (F0 m 27 ls []) := by
        intro n
        induction n with
        | zero =>
          intro j H locs hj hP hD hS ls hl
          refine lv_iload_n hx hb d_Md_minutes_27 rfl (lv_at hl 0 rfl) ?_
          refine lv_iload_n hx hb d_Md_minutes_28 rfl (lv_at hl 2 rfl) ?_
          refine lv_icmp_ge (tgt := 106) hx hb d_Md_minutes_29 (by decide) (fun _ => ?_) (fun h => absurd (show p_0 ≤ nI j from by rw [hJe]; exact nI_le (by omega) (by omega)) h)
          refine lv_aload_n hx hb d_Md_minutes_106 rfl (lv_at hl 1 rfl) ?_
          refine va_get (D := (dC, dI)) (ci := 7) (v := .int (nI j)) (C := R_Md) (T := F_Md) (N := 64) hx hb htb i_Md hown hK hP 0 rfl rfl 1 (by decide) (htb (.fieldLink R_Md 7 "WaterMenModel" "time" "I") tw_311) (fun _ h9 => h9) rfl d_Md_minutes_107 ?_
          refine hb_ti p_0 (by rw [hJe, show j = J by omega]) ?_
          refine W.widen (k := 0) (n := 0) (Nat.le_of_ble_eq_true rfl) (Nat.le_of_ble_eq_true rfl) ?_
          exact W.iret (v := p_0) hx hb hr (fun t ht hW => ⟨⟨p_0, (), rfl, (by unfold f_Md_minutes; rw [if_neg c_1, if_neg c_2]), trivial⟩, by rw [hAe]; exact hS.F ht⟩) (by rw [hAe]; exact hS.2.2) d_Md_minutes_110
        | succ n ih =>
          intro j H locs hj hP hD hS ls hl
          refine lv_iload_n hx hb d_Md_minutes_27 rfl (lv_at hl 0 rfl) ?_
          refine lv_iload_n hx hb d_Md_minutes_28 rfl (lv_at hl 2 rfl) ?_
          refine lv_icmp_ge (tgt := 106) hx hb d_Md_minutes_29 (by decide) (fun h => absurd h (show ¬ p_0 ≤ nI j from by rw [hJe]; exact nI_ge (by omega) (by omega))) (fun _ => ?_)
          refine lv_aload_n hx hb d_Md_minutes_32 rfl (lv_at hl 1 rfl) ?_
          refine lv_dup hx hb d_Md_minutes_33 rfl ?_
          refine va_get (D := (dC, dI)) (ci := 7) (v := .int (nI j)) (C := R_Md) (T := F_Md) (N := 64) hx hb htb i_Md hown hK hP 0 rfl rfl 1 (by decide) (htb (.fieldLink R_Md 7 "WaterMenModel" "time" "I") tw_311) (fun _ h9 => h9) rfl d_Md_minutes_34 ?_
          refine lv_iconst (v := 1) hx hb d_Md_minutes_37 (by decide +kernel) ?_
          refine lv_iadd hx hb d_Md_minutes_38 ?_
          refine hb_ti (nI (j + 1)) (nI_1 j) ?_
          refine va_put (D := (dC, dI)) (ci := 7) (v := .int (nI (j + 1))) (ty := .int) (C := R_Md) (T := F_Md) (N := 64) hx hb htb i_Md t_Md t_Md_ok n_Md hown hK hP hD hS 0 rfl rfl 1 (by decide) (htb (.fieldLink R_Md 7 "WaterMenModel" "time" "I") tw_311) (fun _ h9 => h9) rfl (by decide +kernel) rfl rfl (Nat.le_of_ble_eq_true rfl) d_Md_minutes_39 (fun H locs hP hD hS => ?_)
          have hP : va_P (dC, dI) vwCl [((a 0), .inr (7, [.int 0, .int (nI (j + 1)), .int 0, .ref (a 1), .int (-1), .ref (a 2), .ref (a 3), .ref (a 4), .ref (a 5), .ref (a 6), .ref (a 7), .ref (a 8), .ref (a 9), .ref (a 10), .ref (a 11), .ref (a 12), .ref (a 13), .ref (a 14), .ref (a 15), .ref (a 16), .ref (a 17), .int 0, .ref (a 18), .ref (a 19), .ref (a 20), .ref (a 21), .ref (a 22), .ref (a 23), .int 0, .int 0, .ref (a 24), .ref (a 25), .ref (a 26), .ref (a 27), .ref (a 28), .ref (a 29), .ref (a 30), .ref (a 31), .ref (a 32), .ref (a 33), .ref (a 34), .ref (a 35), .int 0, .int 0, .int 0, .int 0, .int 0, .int 0, .ref (a 36), .ref (a 37), .ref (a 38), .ref (a 39), .ref (a 40), .ref (a 41), .ref (a 42), .ref (a 43), .long 0, .long 0, .long 0, .ref (a 44), .int 0, .ref (a 45), .ref (a 46), .ref (a 47)])), ((a 15), .inl ((k 15), 40, .inl (fun _ => 0))), ((a 12), .inl ((k 12), 40, .inl (fun _ => 0))), ((a 44), .inl ((k 44), 500, .inr (.inl (fun _ => 0))))] H := hP
          have hD : va_D A [((a 0), .inr (7, [.int 0, .int (nI (j + 1)), .int 0, .ref (a 1), .int (-1), .ref (a 2), .ref (a 3), .ref (a 4), .ref (a 5), .ref (a 6), .ref (a 7), .ref (a 8), .ref (a 9), .ref (a 10), .ref (a 11), .ref (a 12), .ref (a 13), .ref (a 14), .ref (a 15), .ref (a 16), .ref (a 17), .int 0, .ref (a 18), .ref (a 19), .ref (a 20), .ref (a 21), .ref (a 22), .ref (a 23), .int 0, .int 0, .ref (a 24), .ref (a 25), .ref (a 26), .ref (a 27), .ref (a 28), .ref (a 29), .ref (a 30), .ref (a 31), .ref (a 32), .ref (a 33), .ref (a 34), .ref (a 35), .int 0, .int 0, .int 0, .int 0, .int 0, .int 0, .ref (a 36), .ref (a 37), .ref (a 38), .ref (a 39), .ref (a 40), .ref (a 41), .ref (a 42), .ref (a 43), .long 0, .long 0, .long 0, .ref (a 44), .int 0, .ref (a 45), .ref (a 46), .ref (a 47)])), ((a 15), .inl ((k 15), 40, .inl (fun _ => 0))), ((a 12), .inl ((k 12), 40, .inl (fun _ => 0))), ((a 44), .inl ((k 44), 500, .inr (.inl (fun _ => 0))))] := hD
          by_cases e7 : j + 1 = 720
          · obtain rfl : j = 719 := by omega
            have hP : va_P (dC, dI) vwCl [((a 0), .inr (7, [.int 0, .int 720, .int 0, .ref (a 1), .int (-1), .ref (a 2), .ref (a 3), .ref (a 4), .ref (a 5), .ref (a 6), .ref (a 7), .ref (a 8), .ref (a 9), .ref (a 10), .ref (a 11), .ref (a 12), .ref (a 13), .ref (a 14), .ref (a 15), .ref (a 16), .ref (a 17), .int 0, .ref (a 18), .ref (a 19), .ref (a 20), .ref (a 21), .ref (a 22), .ref (a 23), .int 0, .int 0, .ref (a 24), .ref (a 25), .ref (a 26), .ref (a 27), .ref (a 28), .ref (a 29), .ref (a 30), .ref (a 31), .ref (a 32), .ref (a 33), .ref (a 34), .ref (a 35), .int 0, .int 0, .int 0, .int 0, .int 0, .int 0, .ref (a 36), .ref (a 37), .ref (a 38), .ref (a 39), .ref (a 40), .ref (a 41), .ref (a 42), .ref (a 43), .long 0, .long 0, .long 0, .ref (a 44), .int 0, .ref (a 45), .ref (a 46), .ref (a 47)])), ((a 15), .inl ((k 15), 40, .inl (fun _ => 0))), ((a 12), .inl ((k 12), 40, .inl (fun _ => 0))), ((a 44), .inl ((k 44), 500, .inr (.inl (fun _ => 0))))] H := hP
            have hD : va_D A [((a 0), .inr (7, [.int 0, .int 720, .int 0, .ref (a 1), .int (-1), .ref (a 2), .ref (a 3), .ref (a 4), .ref (a 5), .ref (a 6), .ref (a 7), .ref (a 8), .ref (a 9), .ref (a 10), .ref (a 11), .ref (a 12), .ref (a 13), .ref (a 14), .ref (a 15), .ref (a 16), .ref (a 17), .int 0, .ref (a 18), .ref (a 19), .ref (a 20), .ref (a 21), .ref (a 22), .ref (a 23), .int 0, .int 0, .ref (a 24), .ref (a 25), .ref (a 26), .ref (a 27), .ref (a 28), .ref (a 29), .ref (a 30), .ref (a 31), .ref (a 32), .ref (a 33), .ref (a 34), .ref (a 35), .int 0, .int 0, .int 0, .int 0, .int 0, .int 0, .ref (a 36), .ref (a 37), .ref (a 38), .ref (a 39), .ref (a 40), .ref (a 41), .ref (a 42), .ref (a 43), .long 0, .long 0, .long 0, .ref (a 44), .int 0, .ref (a 45), .ref (a 46), .ref (a 47)])), ((a 15), .inl ((k 15), 40, .inl (fun _ => 0))), ((a 12), .inl ((k 12), 40, .inl (fun _ => 0))), ((a 44), .inl ((k 44), 500, .inr (.inl (fun _ => 0))))] := hD
            refine lv_aload_n hx hb d_Md_minutes_42 rfl (lv_at hl 1 rfl) ?_
            have hPc := hP.sub (ws' := [((a 0), .inr (7, [.int 0, .int 720, .int 0, .ref (a 1), .int (-1), .ref (a 2), .ref (a 3), .ref (a 4), .ref (a 5), .ref (a 6), .ref (a 7), .ref (a 8), .ref (a 9), .ref (a 10), .ref (a 11), .ref (a 12), .ref (a 13), .ref (a 14), .ref (a 15), .ref (a 16), .ref (a 17), .int 0, .ref (a 18), .ref (a 19), .ref (a 20), .ref (a 21), .ref (a 22), .ref (a 23), .int 0, .int 0, .ref (a 24), .ref (a 25), .ref (a 26), .ref (a 27), .ref (a 28), .ref (a 29), .ref (a 30), .ref (a 31), .ref (a 32), .ref (a 33), .ref (a 34), .ref (a 35), .int 0, .int 0, .int 0, .int 0, .int 0, .int 0, .ref (a 36), .ref (a 37), .ref (a 38), .ref (a 39), .ref (a 40), .ref (a 41), .ref (a 42), .ref (a 43), .long 0, .long 0, .long 0, .ref (a 44), .int 0, .ref (a 45), .ref (a 46), .ref (a 47)])), ((a 12), .inl ((k 12), 40, .inl (fun _ => 0))), ((a 15), .inl ((k 15), 40, .inl (fun _ => 0))), ((a 44), .inl ((k 44), 500, .inr (.inl (fun _ => 0))))]) [0, 2, 1, 3] rfl
            have hDc := hD.sub (ws' := [((a 0), .inr (7, [.int 0, .int 720, .int 0, .ref (a 1), .int (-1), .ref (a 2), .ref (a 3), .ref (a 4), .ref (a 5), .ref (a 6), .ref (a 7), .ref (a 8), .ref (a 9), .ref (a 10), .ref (a 11), .ref (a 12), .ref (a 13), .ref (a 14), .ref (a 15), .ref (a 16), .ref (a 17), .int 0, .ref (a 18), .ref (a 19), .ref (a 20), .ref (a 21), .ref (a 22), .ref (a 23), .int 0, .int 0, .ref (a 24), .ref (a 25), .ref (a 26), .ref (a 27), .ref (a 28), .ref (a 29), .ref (a 30), .ref (a 31), .ref (a 32), .ref (a 33), .ref (a 34), .ref (a 35), .int 0, .int 0, .int 0, .int 0, .int 0, .int 0, .ref (a 36), .ref (a 37), .ref (a 38), .ref (a 39), .ref (a 40), .ref (a 41), .ref (a 42), .ref (a 43), .long 0, .long 0, .long 0, .ref (a 44), .int 0, .ref (a 45), .ref (a 46), .ref (a 47)])), ((a 12), .inl ((k 12), 40, .inl (fun _ => 0))), ((a 15), .inl ((k 15), 40, .inl (fun _ => 0))), ((a 44), .inl ((k 44), 500, .inr (.inl (fun _ => 0))))]) [0, 2, 1, 3] (by decide) rfl
            have hKc := hK.sub (tys' := [((k 12), .int), ((k 15), .boolean), ((k 44), .long)]) [1, 0, 2] rfl
            have hFc := va_free (wc := [((a 0), .inr (7, [.int 0, .int 720, .int 0, .ref (a 1), .int (-1), .ref (a 2), .ref (a 3), .ref (a 4), .ref (a 5), .ref (a 6), .ref (a 7), .ref (a 8), .ref (a 9), .ref (a 10), .ref (a 11), .ref (a 12), .ref (a 13), .ref (a 14), .ref (a 15), .ref (a 16), .ref (a 17), .int 0, .ref (a 18), .ref (a 19), .ref (a 20), .ref (a 21), .ref (a 22), .ref (a 23), .int 0, .int 0, .ref (a 24), .ref (a 25), .ref (a 26), .ref (a 27), .ref (a 28), .ref (a 29), .ref (a 30), .ref (a 31), .ref (a 32), .ref (a 33), .ref (a 34), .ref (a 35), .int 0, .int 0, .int 0, .int 0, .int 0, .int 0, .ref (a 36), .ref (a 37), .ref (a 38), .ref (a 39), .ref (a 40), .ref (a 41), .ref (a 42), .ref (a 43), .long 0, .long 0, .long 0, .ref (a 44), .int 0, .ref (a 45), .ref (a 46), .ref (a 47)])), ((a 12), .inl ((k 12), 40, .inl (fun _ => 0))), ((a 15), .inl ((k 15), 40, .inl (fun _ => 0))), ((a 44), .inl ((k 44), 500, .inr (.inl (fun _ => 0))))]) hD hS hA [0, 2, 1, 3] rfl
            refine va_callv (va_runV (As := []) (rest := []) ⟨hx, hb, hml, hown, htb⟩ (c_Md_arrive_c22 l dC dI (a 0) (a 1) (a 2) (a 3) (a 4) (a 5) (a 6) (a 7) (a 8) (a 9) (a 10) (a 11) (a 13) (a 14) (a 16) (a 17) (a 18) (a 19) (a 20) (a 21) (a 22) (a 23) (a 24) (a 25) (a 26) (a 27) (a 28) (a 29) (a 30) (a 31) (a 32) (a 33) (a 34) (a 35) (a 36) (a 37) (a 38) (a 39) (a 40) (a 41) (a 42) (a 43) (a 45) (a 46) (a 47) (a 12) (a 15) (a 44) (k 12) (k 15) (k 44) _) (cwV 0 htb (gd_V tw_363 tw_364 tw_365 tw_296 tw_362) rfl rfl rfl (by decide +kernel) ⟨Nat.le_of_ble_eq_true rfl, Nat.le_of_ble_eq_true rfl⟩) ⟨pc_blind, va_recv hKc hPc (ci := 7) (q0 := 0) rfl rfl, pc_pre hPc hKc hDc hN⟩ rfl rfl hl.1 rfl (lv_room (Nat.le_of_ble_eq_true rfl)) d_Md_minutes_43 ⟨Nat.le_of_ble_eq_true rfl, Nat.le_of_ble_eq_true rfl⟩) hS (fun q _ h => hFc q h) hFc (fun u t H1 locs ht hvm hw hB hz1 hk1 hS => ?_)
            obtain ⟨hP1, hK1, hD1⟩ := hB
            rw [ht] at hP1
            have hK1 := va_K.moved hvm.symm hK1
            obtain ⟨hP, hD⟩ := va_join (wr := []) (w1 := [((a 0), .inr (7, [.int 0, .int 720, .int 0, .ref (a 1), .int (-1), .ref (a 2), .ref (a 3), .ref (a 4), .ref (a 5), .ref (a 6), .ref (a 7), .ref (a 8), .ref (a 9), .ref (a 10), .ref (a 11), .ref (a 12), .ref (a 13), .ref (a 14), .ref (a 15), .ref (a 16), .ref (a 17), .int 0, .ref (a 18), .ref (a 19), .ref (a 20), .ref (a 21), .ref (a 22), .ref (a 23), .int 0, .int 0, .ref (a 24), .ref (a 25), .ref (a 26), .ref (a 27), .ref (a 28), .ref (a 29), .ref (a 30), .ref (a 31), .ref (a 32), .ref (a 33), .ref (a 34), .ref (a 35), .int 0, .int 0, .int 0, .int 0, .int 0, .int 0, .ref (a 36), .ref (a 37), .ref (a 38), .ref (a 39), .ref (a 40), .ref (a 41), .ref (a 42), .ref (a 43), .long 0, .long 0, .long 0, .ref (a 44), .int 0, .ref (a 45), .ref (a 46), .ref (a 47)])), ((a 12), .inl ((k 12), 40, .inl (fun _ => 0))), ((a 15), .inl ((k 15), 40, .inl (fun _ => 0))), ((a 44), .inl ((k 44), 500, .inr (.inl (fun _ => 0))))]) hP hD [0, 2, 1, 3] [] rfl rfl (by decide) (by decide) hk1 hFc hP1 hD1
            have hK := (hK.sub (tys' := []) [] rfl).app hK1
            generalize H1 = H at hP hS ⊢
            have hP : va_P (dC, dI) vwCl [((a 0), .inr (7, [.int 0, .int 720, .int 0, .ref (a 1), .int (-1), .ref (a 2), .ref (a 3), .ref (a 4), .ref (a 5), .ref (a 6), .ref (a 7), .ref (a 8), .ref (a 9), .ref (a 10), .ref (a 11), .ref (a 12), .ref (a 13), .ref (a 14), .ref (a 15), .ref (a 16), .ref (a 17), .int 0, .ref (a 18), .ref (a 19), .ref (a 20), .ref (a 21), .ref (a 22), .ref (a 23), .int 0, .int 0, .ref (a 24), .ref (a 25), .ref (a 26), .ref (a 27), .ref (a 28), .ref (a 29), .ref (a 30), .ref (a 31), .ref (a 32), .ref (a 33), .ref (a 34), .ref (a 35), .int 0, .int 0, .int 0, .int 0, .int 0, .int 0, .ref (a 36), .ref (a 37), .ref (a 38), .ref (a 39), .ref (a 40), .ref (a 41), .ref (a 42), .ref (a 43), .long 0, .long 0, .long 0, .ref (a 44), .int 0, .ref (a 45), .ref (a 46), .ref (a 47)])), ((a 12), .inl ((k 12), 40, .inl (fun _ => 0))), ((a 15), .inl ((k 15), 40, .inl (fun _ => 0))), ((a 44), .inl ((k 44), 500, .inr (.inl (fun _ => 0))))] H := hP
            have hD : va_D A [((a 0), .inr (7, [.int 0, .int 720, .int 0, .ref (a 1), .int (-1), .ref (a 2), .ref (a 3), .ref (a 4), .ref (a 5), .ref (a 6), .ref (a 7), .ref (a 8), .ref (a 9), .ref (a 10), .ref (a 11), .ref (a 12), .ref (a 13), .ref (a 14), .ref (a 15), .ref (a 16), .ref (a 17), .int 0, .ref (a 18), .ref (a 19), .ref (a 20), .ref (a 21), .ref (a 22), .ref (a 23), .int 0, .int 0, .ref (a 24), .ref (a 25), .ref (a 26), .ref (a 27), .ref (a 28), .ref (a 29), .ref (a 30), .ref (a 31), .ref (a 32), .ref (a 33), .ref (a 34), .ref (a 35), .int 0, .int 0, .int 0, .int 0, .int 0, .int 0, .ref (a 36), .ref (a 37), .ref (a 38), .ref (a 39), .ref (a 40), .ref (a 41), .ref (a 42), .ref (a 43), .long 0, .long 0, .long 0, .ref (a 44), .int 0, .ref (a 45), .ref (a 46), .ref (a 47)])), ((a 12), .inl ((k 12), 40, .inl (fun _ => 0))), ((a 15), .inl ((k 15), 40, .inl (fun _ => 0))), ((a 44), .inl ((k 44), 500, .inr (.inl (fun _ => 0))))] := hD
            have hK : va_K (dC, dI) vwCl [((k 12), .int), ((k 15), .boolean), ((k 44), .long)] s := hK
            refine lv_aload_n hx hb d_Md_minutes_46 rfl (lv_at hl 1 rfl) ?_
            refine va_get (D := (dC, dI)) (ci := 7) (v := .int 720) (C := R_Md) (T := F_Md) (N := 64) hx hb htb i_Md hown hK hP 0 rfl rfl 1 (by decide) (htb (.fieldLink R_Md 7 "WaterMenModel" "time" "I") tw_311) (fun _ h9 => h9) rfl d_Md_minutes_47 ?_
            refine lv_sipush (v := 720) hx hb d_Md_minutes_50 (by decide +kernel) ?_
            refine lv_irem hx hb d_Md_minutes_53 (by decide) ?_
            refine hb_ti 0 (by decide +kernel) ?_
            refine lv_if_eq (tgt := 60) hx hb d_Md_minutes_54 (by decide) (fun _ => ?_) (fun h => absurd (by decide +kernel) h)
            refine lv_aload_n hx hb d_Md_minutes_60 rfl (lv_at hl 1 rfl) ?_
            have hPc := hP.sub (ws' := [((a 0), .inr (7, [.int 0, .int 720, .int 0, .ref (a 1), .int (-1), .ref (a 2), .ref (a 3), .ref (a 4), .ref (a 5), .ref (a 6), .ref (a 7), .ref (a 8), .ref (a 9), .ref (a 10), .ref (a 11), .ref (a 12), .ref (a 13), .ref (a 14), .ref (a 15), .ref (a 16), .ref (a 17), .int 0, .ref (a 18), .ref (a 19), .ref (a 20), .ref (a 21), .ref (a 22), .ref (a 23), .int 0, .int 0, .ref (a 24), .ref (a 25), .ref (a 26), .ref (a 27), .ref (a 28), .ref (a 29), .ref (a 30), .ref (a 31), .ref (a 32), .ref (a 33), .ref (a 34), .ref (a 35), .int 0, .int 0, .int 0, .int 0, .int 0, .int 0, .ref (a 36), .ref (a 37), .ref (a 38), .ref (a 39), .ref (a 40), .ref (a 41), .ref (a 42), .ref (a 43), .long 0, .long 0, .long 0, .ref (a 44), .int 0, .ref (a 45), .ref (a 46), .ref (a 47)])), ((a 12), .inl ((k 12), 40, .inl (fun _ => 0))), ((a 15), .inl ((k 15), 40, .inl (fun _ => 0))), ((a 44), .inl ((k 44), 500, .inr (.inl (fun _ => 0))))]) [0, 1, 2, 3] rfl
            have hDc := hD.sub (ws' := [((a 0), .inr (7, [.int 0, .int 720, .int 0, .ref (a 1), .int (-1), .ref (a 2), .ref (a 3), .ref (a 4), .ref (a 5), .ref (a 6), .ref (a 7), .ref (a 8), .ref (a 9), .ref (a 10), .ref (a 11), .ref (a 12), .ref (a 13), .ref (a 14), .ref (a 15), .ref (a 16), .ref (a 17), .int 0, .ref (a 18), .ref (a 19), .ref (a 20), .ref (a 21), .ref (a 22), .ref (a 23), .int 0, .int 0, .ref (a 24), .ref (a 25), .ref (a 26), .ref (a 27), .ref (a 28), .ref (a 29), .ref (a 30), .ref (a 31), .ref (a 32), .ref (a 33), .ref (a 34), .ref (a 35), .int 0, .int 0, .int 0, .int 0, .int 0, .int 0, .ref (a 36), .ref (a 37), .ref (a 38), .ref (a 39), .ref (a 40), .ref (a 41), .ref (a 42), .ref (a 43), .long 0, .long 0, .long 0, .ref (a 44), .int 0, .ref (a 45), .ref (a 46), .ref (a 47)])), ((a 12), .inl ((k 12), 40, .inl (fun _ => 0))), ((a 15), .inl ((k 15), 40, .inl (fun _ => 0))), ((a 44), .inl ((k 44), 500, .inr (.inl (fun _ => 0))))]) [0, 1, 2, 3] (by decide) rfl
            have hKc := hK.sub (tys' := [((k 12), .int), ((k 15), .boolean), ((k 44), .long)]) [0, 1, 2] rfl
            have hFc := va_free (wc := [((a 0), .inr (7, [.int 0, .int 720, .int 0, .ref (a 1), .int (-1), .ref (a 2), .ref (a 3), .ref (a 4), .ref (a 5), .ref (a 6), .ref (a 7), .ref (a 8), .ref (a 9), .ref (a 10), .ref (a 11), .ref (a 12), .ref (a 13), .ref (a 14), .ref (a 15), .ref (a 16), .ref (a 17), .int 0, .ref (a 18), .ref (a 19), .ref (a 20), .ref (a 21), .ref (a 22), .ref (a 23), .int 0, .int 0, .ref (a 24), .ref (a 25), .ref (a 26), .ref (a 27), .ref (a 28), .ref (a 29), .ref (a 30), .ref (a 31), .ref (a 32), .ref (a 33), .ref (a 34), .ref (a 35), .int 0, .int 0, .int 0, .int 0, .int 0, .int 0, .ref (a 36), .ref (a 37), .ref (a 38), .ref (a 39), .ref (a 40), .ref (a 41), .ref (a 42), .ref (a 43), .long 0, .long 0, .long 0, .ref (a 44), .int 0, .ref (a 45), .ref (a 46), .ref (a 47)])), ((a 12), .inl ((k 12), 40, .inl (fun _ => 0))), ((a 15), .inl ((k 15), 40, .inl (fun _ => 0))), ((a 44), .inl ((k 44), 500, .inr (.inl (fun _ => 0))))]) hD hS hA [0, 1, 2, 3] rfl
            refine va_calli (va_runV (As := []) (rest := []) ⟨hx, hb, hml, hown, htb⟩ (c_Md_today_c23 l dC dI (a 0) (a 1) (a 2) (a 3) (a 4) (a 5) (a 6) (a 7) (a 8) (a 9) (a 10) (a 11) (a 13) (a 14) (a 16) (a 17) (a 18) (a 19) (a 20) (a 21) (a 22) (a 23) (a 24) (a 25) (a 26) (a 27) (a 28) (a 29) (a 30) (a 31) (a 32) (a 33) (a 34) (a 35) (a 36) (a 37) (a 38) (a 39) (a 40) (a 41) (a 42) (a 43) (a 45) (a 46) (a 47) (a 12) (a 15) (a 44) (k 12) (k 15) (k 44) _) (cwV 0 htb (gd_V tw_313 tw_314 tw_315 tw_296 tw_312) rfl rfl rfl (by decide +kernel) ⟨Nat.le_of_ble_eq_true rfl, Nat.le_of_ble_eq_true rfl⟩) ⟨pc_blind, va_recv hKc hPc (ci := 7) (q0 := 0) rfl rfl, pc_pre hPc hKc hDc hN⟩ rfl rfl hl.1 rfl (lv_room (Nat.le_of_ble_eq_true rfl)) d_Md_minutes_61 ⟨Nat.le_of_ble_eq_true rfl, Nat.le_of_ble_eq_true rfl⟩) hS (fun q _ h => hFc q h) hFc (fun r u t H1 locs ht hvm er hB hz1 hk1 hS => ?_)
            subst er
            obtain ⟨hP1, hK1, hD1⟩ := hB
            rw [ht] at hP1
            have hK1 := va_K.moved hvm.symm hK1
            obtain ⟨hP, hD⟩ := va_join (wr := []) (w1 := [((a 0), .inr (7, [.int 0, .int 720, .int 0, .ref (a 1), .int (-1), .ref (a 2), .ref (a 3), .ref (a 4), .ref (a 5), .ref (a 6), .ref (a 7), .ref (a 8), .ref (a 9), .ref (a 10), .ref (a 11), .ref (a 12), .ref (a 13), .ref (a 14), .ref (a 15), .ref (a 16), .ref (a 17), .int 0, .ref (a 18), .ref (a 19), .ref (a 20), .ref (a 21), .ref (a 22), .ref (a 23), .int 0, .int 0, .ref (a 24), .ref (a 25), .ref (a 26), .ref (a 27), .ref (a 28), .ref (a 29), .ref (a 30), .ref (a 31), .ref (a 32), .ref (a 33), .ref (a 34), .ref (a 35), .int 0, .int 0, .int 0, .int 0, .int 0, .int 0, .ref (a 36), .ref (a 37), .ref (a 38), .ref (a 39), .ref (a 40), .ref (a 41), .ref (a 42), .ref (a 43), .long 0, .long 0, .long 0, .ref (a 44), .int 0, .ref (a 45), .ref (a 46), .ref (a 47)])), ((a 12), .inl ((k 12), 40, .inl (fun _ => 0))), ((a 15), .inl ((k 15), 40, .inl (fun _ => 0))), ((a 44), .inl ((k 44), 500, .inr (.inl (fun _ => 0))))]) hP hD [0, 1, 2, 3] [] rfl rfl (by decide) (by decide) hk1 hFc hP1 hD1
            have hK := (hK.sub (tys' := []) [] rfl).app hK1
            generalize H1 = H at hP hS ⊢
            have hP : va_P (dC, dI) vwCl [((a 0), .inr (7, [.int 0, .int 720, .int 0, .ref (a 1), .int (-1), .ref (a 2), .ref (a 3), .ref (a 4), .ref (a 5), .ref (a 6), .ref (a 7), .ref (a 8), .ref (a 9), .ref (a 10), .ref (a 11), .ref (a 12), .ref (a 13), .ref (a 14), .ref (a 15), .ref (a 16), .ref (a 17), .int 0, .ref (a 18), .ref (a 19), .ref (a 20), .ref (a 21), .ref (a 22), .ref (a 23), .int 0, .int 0, .ref (a 24), .ref (a 25), .ref (a 26), .ref (a 27), .ref (a 28), .ref (a 29), .ref (a 30), .ref (a 31), .ref (a 32), .ref (a 33), .ref (a 34), .ref (a 35), .int 0, .int 0, .int 0, .int 0, .int 0, .int 0, .ref (a 36), .ref (a 37), .ref (a 38), .ref (a 39), .ref (a 40), .ref (a 41), .ref (a 42), .ref (a 43), .long 0, .long 0, .long 0, .ref (a 44), .int 0, .ref (a 45), .ref (a 46), .ref (a 47)])), ((a 12), .inl ((k 12), 40, .inl (fun _ => 0))), ((a 15), .inl ((k 15), 40, .inl (fun _ => 0))), ((a 44), .inl ((k 44), 500, .inr (.inl (fun _ => 0))))] H := hP
            have hD : va_D A [((a 0), .inr (7, [.int 0, .int 720, .int 0, .ref (a 1), .int (-1), .ref (a 2), .ref (a 3), .ref (a 4), .ref (a 5), .ref (a 6), .ref (a 7), .ref (a 8), .ref (a 9), .ref (a 10), .ref (a 11), .ref (a 12), .ref (a 13), .ref (a 14), .ref (a 15), .ref (a 16), .ref (a 17), .int 0, .ref (a 18), .ref (a 19), .ref (a 20), .ref (a 21), .ref (a 22), .ref (a 23), .int 0, .int 0, .ref (a 24), .ref (a 25), .ref (a 26), .ref (a 27), .ref (a 28), .ref (a 29), .ref (a 30), .ref (a 31), .ref (a 32), .ref (a 33), .ref (a 34), .ref (a 35), .int 0, .int 0, .int 0, .int 0, .int 0, .int 0, .ref (a 36), .ref (a 37), .ref (a 38), .ref (a 39), .ref (a 40), .ref (a 41), .ref (a 42), .ref (a 43), .long 0, .long 0, .long 0, .ref (a 44), .int 0, .ref (a 45), .ref (a 46), .ref (a 47)])), ((a 12), .inl ((k 12), 40, .inl (fun _ => 0))), ((a 15), .inl ((k 15), 40, .inl (fun _ => 0))), ((a 44), .inl ((k 44), 500, .inr (.inl (fun _ => 0))))] := hD
            have hK : va_K (dC, dI) vwCl [((k 12), .int), ((k 15), .boolean), ((k 44), .long)] s := hK
            refine hb_ti 1 rfl ?_
            refine lv_iconst (v := 1) hx hb d_Md_minutes_64 (by decide +kernel) ?_
            refine lv_isub hx hb d_Md_minutes_65 ?_
            refine hb_ti 0 (by decide +kernel) ?_
            refine lv_bipush (v := 7) hx hb d_Md_minutes_66 (by decide +kernel) ?_
            refine lv_irem hx hb d_Md_minutes_68 (by decide) ?_
            refine hb_ti 0 (by decide +kernel) ?_
            refine lv_if_ne (tgt := 82) hx hb d_Md_minutes_69 (by decide) (fun h => absurd (by decide +kernel) h) (fun _ => ?_)
            refine lv_aload_n hx hb d_Md_minutes_72 rfl (lv_at hl 1 rfl) ?_
            refine lv_aload_n hx hb d_Md_minutes_73 rfl (lv_at hl 1 rfl) ?_
            have hPc := hP.sub (ws' := [((a 0), .inr (7, [.int 0, .int 720, .int 0, .ref (a 1), .int (-1), .ref (a 2), .ref (a 3), .ref (a 4), .ref (a 5), .ref (a 6), .ref (a 7), .ref (a 8), .ref (a 9), .ref (a 10), .ref (a 11), .ref (a 12), .ref (a 13), .ref (a 14), .ref (a 15), .ref (a 16), .ref (a 17), .int 0, .ref (a 18), .ref (a 19), .ref (a 20), .ref (a 21), .ref (a 22), .ref (a 23), .int 0, .int 0, .ref (a 24), .ref (a 25), .ref (a 26), .ref (a 27), .ref (a 28), .ref (a 29), .ref (a 30), .ref (a 31), .ref (a 32), .ref (a 33), .ref (a 34), .ref (a 35), .int 0, .int 0, .int 0, .int 0, .int 0, .int 0, .ref (a 36), .ref (a 37), .ref (a 38), .ref (a 39), .ref (a 40), .ref (a 41), .ref (a 42), .ref (a 43), .long 0, .long 0, .long 0, .ref (a 44), .int 0, .ref (a 45), .ref (a 46), .ref (a 47)])), ((a 12), .inl ((k 12), 40, .inl (fun _ => 0))), ((a 15), .inl ((k 15), 40, .inl (fun _ => 0))), ((a 44), .inl ((k 44), 500, .inr (.inl (fun _ => 0))))]) [0, 1, 2, 3] rfl
            have hDc := hD.sub (ws' := [((a 0), .inr (7, [.int 0, .int 720, .int 0, .ref (a 1), .int (-1), .ref (a 2), .ref (a 3), .ref (a 4), .ref (a 5), .ref (a 6), .ref (a 7), .ref (a 8), .ref (a 9), .ref (a 10), .ref (a 11), .ref (a 12), .ref (a 13), .ref (a 14), .ref (a 15), .ref (a 16), .ref (a 17), .int 0, .ref (a 18), .ref (a 19), .ref (a 20), .ref (a 21), .ref (a 22), .ref (a 23), .int 0, .int 0, .ref (a 24), .ref (a 25), .ref (a 26), .ref (a 27), .ref (a 28), .ref (a 29), .ref (a 30), .ref (a 31), .ref (a 32), .ref (a 33), .ref (a 34), .ref (a 35), .int 0, .int 0, .int 0, .int 0, .int 0, .int 0, .ref (a 36), .ref (a 37), .ref (a 38), .ref (a 39), .ref (a 40), .ref (a 41), .ref (a 42), .ref (a 43), .long 0, .long 0, .long 0, .ref (a 44), .int 0, .ref (a 45), .ref (a 46), .ref (a 47)])), ((a 12), .inl ((k 12), 40, .inl (fun _ => 0))), ((a 15), .inl ((k 15), 40, .inl (fun _ => 0))), ((a 44), .inl ((k 44), 500, .inr (.inl (fun _ => 0))))]) [0, 1, 2, 3] (by decide) rfl
            have hKc := hK.sub (tys' := [((k 12), .int), ((k 15), .boolean), ((k 44), .long)]) [0, 1, 2] rfl
            have hFc := va_free (wc := [((a 0), .inr (7, [.int 0, .int 720, .int 0, .ref (a 1), .int (-1), .ref (a 2), .ref (a 3), .ref (a 4), .ref (a 5), .ref (a 6), .ref (a 7), .ref (a 8), .ref (a 9), .ref (a 10), .ref (a 11), .ref (a 12), .ref (a 13), .ref (a 14), .ref (a 15), .ref (a 16), .ref (a 17), .int 0, .ref (a 18), .ref (a 19), .ref (a 20), .ref (a 21), .ref (a 22), .ref (a 23), .int 0, .int 0, .ref (a 24), .ref (a 25), .ref (a 26), .ref (a 27), .ref (a 28), .ref (a 29), .ref (a 30), .ref (a 31), .ref (a 32), .ref (a 33), .ref (a 34), .ref (a 35), .int 0, .int 0, .int 0, .int 0, .int 0, .int 0, .ref (a 36), .ref (a 37), .ref (a 38), .ref (a 39), .ref (a 40), .ref (a 41), .ref (a 42), .ref (a 43), .long 0, .long 0, .long 0, .ref (a 44), .int 0, .ref (a 45), .ref (a 46), .ref (a 47)])), ((a 12), .inl ((k 12), 40, .inl (fun _ => 0))), ((a 15), .inl ((k 15), 40, .inl (fun _ => 0))), ((a 44), .inl ((k 44), 500, .inr (.inl (fun _ => 0))))]) hD hS hA [0, 1, 2, 3] rfl
            refine va_calli (va_runV (As := []) (rest := [.ref (a 0)]) ⟨hx, hb, hml, hown, htb⟩ (c_Md_today_c23 l dC dI (a 0) (a 1) (a 2) (a 3) (a 4) (a 5) (a 6) (a 7) (a 8) (a 9) (a 10) (a 11) (a 13) (a 14) (a 16) (a 17) (a 18) (a 19) (a 20) (a 21) (a 22) (a 23) (a 24) (a 25) (a 26) (a 27) (a 28) (a 29) (a 30) (a 31) (a 32) (a 33) (a 34) (a 35) (a 36) (a 37) (a 38) (a 39) (a 40) (a 41) (a 42) (a 43) (a 45) (a 46) (a 47) (a 12) (a 15) (a 44) (k 12) (k 15) (k 44) _) (cwV 0 htb (gd_V tw_313 tw_314 tw_315 tw_296 tw_312) rfl rfl rfl (by decide +kernel) ⟨Nat.le_of_ble_eq_true rfl, Nat.le_of_ble_eq_true rfl⟩) ⟨pc_blind, va_recv hKc hPc (ci := 7) (q0 := 0) rfl rfl, pc_pre hPc hKc hDc hN⟩ rfl rfl hl.1 rfl (lv_room (Nat.le_of_ble_eq_true rfl)) d_Md_minutes_74 ⟨Nat.le_of_ble_eq_true rfl, Nat.le_of_ble_eq_true rfl⟩) hS (fun q _ h => hFc q h) hFc (fun r u t H1 locs ht hvm er hB hz1 hk1 hS => ?_)
            subst er
            obtain ⟨hP1, hK1, hD1⟩ := hB
            rw [ht] at hP1
            have hK1 := va_K.moved hvm.symm hK1
            obtain ⟨hP, hD⟩ := va_join (wr := []) (w1 := [((a 0), .inr (7, [.int 0, .int 720, .int 0, .ref (a 1), .int (-1), .ref (a 2), .ref (a 3), .ref (a 4), .ref (a 5), .ref (a 6), .ref (a 7), .ref (a 8), .ref (a 9), .ref (a 10), .ref (a 11), .ref (a 12), .ref (a 13), .ref (a 14), .ref (a 15), .ref (a 16), .ref (a 17), .int 0, .ref (a 18), .ref (a 19), .ref (a 20), .ref (a 21), .ref (a 22), .ref (a 23), .int 0, .int 0, .ref (a 24), .ref (a 25), .ref (a 26), .ref (a 27), .ref (a 28), .ref (a 29), .ref (a 30), .ref (a 31), .ref (a 32), .ref (a 33), .ref (a 34), .ref (a 35), .int 0, .int 0, .int 0, .int 0, .int 0, .int 0, .ref (a 36), .ref (a 37), .ref (a 38), .ref (a 39), .ref (a 40), .ref (a 41), .ref (a 42), .ref (a 43), .long 0, .long 0, .long 0, .ref (a 44), .int 0, .ref (a 45), .ref (a 46), .ref (a 47)])), ((a 12), .inl ((k 12), 40, .inl (fun _ => 0))), ((a 15), .inl ((k 15), 40, .inl (fun _ => 0))), ((a 44), .inl ((k 44), 500, .inr (.inl (fun _ => 0))))]) hP hD [0, 1, 2, 3] [] rfl rfl (by decide) (by decide) hk1 hFc hP1 hD1
            have hK := (hK.sub (tys' := []) [] rfl).app hK1
            generalize H1 = H at hP hS ⊢
            have hP : va_P (dC, dI) vwCl [((a 0), .inr (7, [.int 0, .int 720, .int 0, .ref (a 1), .int (-1), .ref (a 2), .ref (a 3), .ref (a 4), .ref (a 5), .ref (a 6), .ref (a 7), .ref (a 8), .ref (a 9), .ref (a 10), .ref (a 11), .ref (a 12), .ref (a 13), .ref (a 14), .ref (a 15), .ref (a 16), .ref (a 17), .int 0, .ref (a 18), .ref (a 19), .ref (a 20), .ref (a 21), .ref (a 22), .ref (a 23), .int 0, .int 0, .ref (a 24), .ref (a 25), .ref (a 26), .ref (a 27), .ref (a 28), .ref (a 29), .ref (a 30), .ref (a 31), .ref (a 32), .ref (a 33), .ref (a 34), .ref (a 35), .int 0, .int 0, .int 0, .int 0, .int 0, .int 0, .ref (a 36), .ref (a 37), .ref (a 38), .ref (a 39), .ref (a 40), .ref (a 41), .ref (a 42), .ref (a 43), .long 0, .long 0, .long 0, .ref (a 44), .int 0, .ref (a 45), .ref (a 46), .ref (a 47)])), ((a 12), .inl ((k 12), 40, .inl (fun _ => 0))), ((a 15), .inl ((k 15), 40, .inl (fun _ => 0))), ((a 44), .inl ((k 44), 500, .inr (.inl (fun _ => 0))))] H := hP
            have hD : va_D A [((a 0), .inr (7, [.int 0, .int 720, .int 0, .ref (a 1), .int (-1), .ref (a 2), .ref (a 3), .ref (a 4), .ref (a 5), .ref (a 6), .ref (a 7), .ref (a 8), .ref (a 9), .ref (a 10), .ref (a 11), .ref (a 12), .ref (a 13), .ref (a 14), .ref (a 15), .ref (a 16), .ref (a 17), .int 0, .ref (a 18), .ref (a 19), .ref (a 20), .ref (a 21), .ref (a 22), .ref (a 23), .int 0, .int 0, .ref (a 24), .ref (a 25), .ref (a 26), .ref (a 27), .ref (a 28), .ref (a 29), .ref (a 30), .ref (a 31), .ref (a 32), .ref (a 33), .ref (a 34), .ref (a 35), .int 0, .int 0, .int 0, .int 0, .int 0, .int 0, .ref (a 36), .ref (a 37), .ref (a 38), .ref (a 39), .ref (a 40), .ref (a 41), .ref (a 42), .ref (a 43), .long 0, .long 0, .long 0, .ref (a 44), .int 0, .ref (a 45), .ref (a 46), .ref (a 47)])), ((a 12), .inl ((k 12), 40, .inl (fun _ => 0))), ((a 15), .inl ((k 15), 40, .inl (fun _ => 0))), ((a 44), .inl ((k 44), 500, .inr (.inl (fun _ => 0))))] := hD
            have hK : va_K (dC, dI) vwCl [((k 12), .int), ((k 15), .boolean), ((k 44), .long)] s := hK
            refine hb_ti 1 rfl ?_
            refine lv_iconst (v := 1) hx hb d_Md_minutes_77 (by decide +kernel) ?_
            refine lv_isub hx hb d_Md_minutes_78 ?_
            refine hb_ti 0 (by decide +kernel) ?_
            have hPc := hP.sub (ws' := [((a 0), .inr (7, [.int 0, .int 720, .int 0, .ref (a 1), .int (-1), .ref (a 2), .ref (a 3), .ref (a 4), .ref (a 5), .ref (a 6), .ref (a 7), .ref (a 8), .ref (a 9), .ref (a 10), .ref (a 11), .ref (a 12), .ref (a 13), .ref (a 14), .ref (a 15), .ref (a 16), .ref (a 17), .int 0, .ref (a 18), .ref (a 19), .ref (a 20), .ref (a 21), .ref (a 22), .ref (a 23), .int 0, .int 0, .ref (a 24), .ref (a 25), .ref (a 26), .ref (a 27), .ref (a 28), .ref (a 29), .ref (a 30), .ref (a 31), .ref (a 32), .ref (a 33), .ref (a 34), .ref (a 35), .int 0, .int 0, .int 0, .int 0, .int 0, .int 0, .ref (a 36), .ref (a 37), .ref (a 38), .ref (a 39), .ref (a 40), .ref (a 41), .ref (a 42), .ref (a 43), .long 0, .long 0, .long 0, .ref (a 44), .int 0, .ref (a 45), .ref (a 46), .ref (a 47)])), ((a 12), .inl ((k 12), 40, .inl (fun _ => 0))), ((a 15), .inl ((k 15), 40, .inl (fun _ => 0))), ((a 44), .inl ((k 44), 500, .inr (.inl (fun _ => 0))))]) [0, 1, 2, 3] rfl
            have hDc := hD.sub (ws' := [((a 0), .inr (7, [.int 0, .int 720, .int 0, .ref (a 1), .int (-1), .ref (a 2), .ref (a 3), .ref (a 4), .ref (a 5), .ref (a 6), .ref (a 7), .ref (a 8), .ref (a 9), .ref (a 10), .ref (a 11), .ref (a 12), .ref (a 13), .ref (a 14), .ref (a 15), .ref (a 16), .ref (a 17), .int 0, .ref (a 18), .ref (a 19), .ref (a 20), .ref (a 21), .ref (a 22), .ref (a 23), .int 0, .int 0, .ref (a 24), .ref (a 25), .ref (a 26), .ref (a 27), .ref (a 28), .ref (a 29), .ref (a 30), .ref (a 31), .ref (a 32), .ref (a 33), .ref (a 34), .ref (a 35), .int 0, .int 0, .int 0, .int 0, .int 0, .int 0, .ref (a 36), .ref (a 37), .ref (a 38), .ref (a 39), .ref (a 40), .ref (a 41), .ref (a 42), .ref (a 43), .long 0, .long 0, .long 0, .ref (a 44), .int 0, .ref (a 45), .ref (a 46), .ref (a 47)])), ((a 12), .inl ((k 12), 40, .inl (fun _ => 0))), ((a 15), .inl ((k 15), 40, .inl (fun _ => 0))), ((a 44), .inl ((k 44), 500, .inr (.inl (fun _ => 0))))]) [0, 1, 2, 3] (by decide) rfl
            have hKc := hK.sub (tys' := [((k 12), .int), ((k 15), .boolean), ((k 44), .long)]) [0, 1, 2] rfl
            have hFc := va_free (wc := [((a 0), .inr (7, [.int 0, .int 720, .int 0, .ref (a 1), .int (-1), .ref (a 2), .ref (a 3), .ref (a 4), .ref (a 5), .ref (a 6), .ref (a 7), .ref (a 8), .ref (a 9), .ref (a 10), .ref (a 11), .ref (a 12), .ref (a 13), .ref (a 14), .ref (a 15), .ref (a 16), .ref (a 17), .int 0, .ref (a 18), .ref (a 19), .ref (a 20), .ref (a 21), .ref (a 22), .ref (a 23), .int 0, .int 0, .ref (a 24), .ref (a 25), .ref (a 26), .ref (a 27), .ref (a 28), .ref (a 29), .ref (a 30), .ref (a 31), .ref (a 32), .ref (a 33), .ref (a 34), .ref (a 35), .int 0, .int 0, .int 0, .int 0, .int 0, .int 0, .ref (a 36), .ref (a 37), .ref (a 38), .ref (a 39), .ref (a 40), .ref (a 41), .ref (a 42), .ref (a 43), .long 0, .long 0, .long 0, .ref (a 44), .int 0, .ref (a 45), .ref (a 46), .ref (a 47)])), ((a 12), .inl ((k 12), 40, .inl (fun _ => 0))), ((a 15), .inl ((k 15), 40, .inl (fun _ => 0))), ((a 44), .inl ((k 44), 500, .inr (.inl (fun _ => 0))))]) hD hS hA [0, 1, 2, 3] rfl
            refine va_callv (va_runV (As := [.int 0]) (rest := []) ⟨hx, hb, hml, hown, htb⟩ (c_Md_part_c24 l dC dI (a 0) (a 1) (a 2) (a 3) (a 4) (a 5) (a 6) (a 7) (a 8) (a 9) (a 10) (a 11) (a 13) (a 14) (a 16) (a 17) (a 18) (a 19) (a 20) (a 21) (a 22) (a 23) (a 24) (a 25) (a 26) (a 27) (a 28) (a 29) (a 30) (a 31) (a 32) (a 33) (a 34) (a 35) (a 36) (a 37) (a 38) (a 39) (a 40) (a 41) (a 42) (a 43) (a 45) (a 46) (a 47) (a 12) (a 15) (a 44) (k 12) (k 15) (k 44) _) (cwV 1 htb (gd_V tw_369 tw_370 tw_371 tw_296 tw_368) rfl rfl rfl (by decide +kernel) ⟨Nat.le_of_ble_eq_true rfl, Nat.le_of_ble_eq_true rfl⟩) ⟨pc_blind, va_recv hKc hPc (ci := 7) (q0 := 0) rfl rfl, pc_pre hPc hKc hDc hN⟩ rfl rfl hl.1 rfl (lv_room (Nat.le_of_ble_eq_true rfl)) d_Md_minutes_79 ⟨Nat.le_of_ble_eq_true rfl, Nat.le_of_ble_eq_true rfl⟩) hS (fun q _ h => hFc q h) hFc (fun u t H1 locs ht hvm hw hB hz1 hk1 hS => ?_)
            obtain ⟨hP1, hK1, hD1⟩ := hB
            rw [ht] at hP1
            have hK1 := va_K.moved hvm.symm hK1
            obtain ⟨hP, hD⟩ := va_join (wr := []) (w1 := [((a 0), .inr (7, [.int 0, .int 720, .int 0, .ref (a 1), .int (-1), .ref (a 2), .ref (a 3), .ref (a 4), .ref (a 5), .ref (a 6), .ref (a 7), .ref (a 8), .ref (a 9), .ref (a 10), .ref (a 11), .ref (a 12), .ref (a 13), .ref (a 14), .ref (a 15), .ref (a 16), .ref (a 17), .int 0, .ref (a 18), .ref (a 19), .ref (a 20), .ref (a 21), .ref (a 22), .ref (a 23), .int 0, .int 0, .ref (a 24), .ref (a 25), .ref (a 26), .ref (a 27), .ref (a 28), .ref (a 29), .ref (a 30), .ref (a 31), .ref (a 32), .ref (a 33), .ref (a 34), .ref (a 35), .int 0, .int 0, .int 0, .int 0, .int 0, .int 0, .ref (a 36), .ref (a 37), .ref (a 38), .ref (a 39), .ref (a 40), .ref (a 41), .ref (a 42), .ref (a 43), .long 0, .long 0, .long 0, .ref (a 44), .int 0, .ref (a 45), .ref (a 46), .ref (a 47)])), ((a 12), .inl ((k 12), 40, .inl (fun _ => 0))), ((a 15), .inl ((k 15), 40, .inl (fun _ => 0))), ((a 44), .inl ((k 44), 500, .inr (.inl (fun _ => 0))))]) hP hD [0, 1, 2, 3] [] rfl rfl (by decide) (by decide) hk1 hFc hP1 hD1
            have hK := (hK.sub (tys' := []) [] rfl).app hK1
            generalize H1 = H at hP hS ⊢
            have hP : va_P (dC, dI) vwCl [((a 0), .inr (7, [.int 0, .int 720, .int 0, .ref (a 1), .int (-1), .ref (a 2), .ref (a 3), .ref (a 4), .ref (a 5), .ref (a 6), .ref (a 7), .ref (a 8), .ref (a 9), .ref (a 10), .ref (a 11), .ref (a 12), .ref (a 13), .ref (a 14), .ref (a 15), .ref (a 16), .ref (a 17), .int 0, .ref (a 18), .ref (a 19), .ref (a 20), .ref (a 21), .ref (a 22), .ref (a 23), .int 0, .int 0, .ref (a 24), .ref (a 25), .ref (a 26), .ref (a 27), .ref (a 28), .ref (a 29), .ref (a 30), .ref (a 31), .ref (a 32), .ref (a 33), .ref (a 34), .ref (a 35), .int 0, .int 0, .int 0, .int 0, .int 0, .int 0, .ref (a 36), .ref (a 37), .ref (a 38), .ref (a 39), .ref (a 40), .ref (a 41), .ref (a 42), .ref (a 43), .long 0, .long 0, .long 0, .ref (a 44), .int 0, .ref (a 45), .ref (a 46), .ref (a 47)])), ((a 12), .inl ((k 12), 40, .inl (fun _ => 0))), ((a 15), .inl ((k 15), 40, .inl (fun _ => 0))), ((a 44), .inl ((k 44), 500, .inr (.inl (fun _ => 0))))] H := hP
            have hD : va_D A [((a 0), .inr (7, [.int 0, .int 720, .int 0, .ref (a 1), .int (-1), .ref (a 2), .ref (a 3), .ref (a 4), .ref (a 5), .ref (a 6), .ref (a 7), .ref (a 8), .ref (a 9), .ref (a 10), .ref (a 11), .ref (a 12), .ref (a 13), .ref (a 14), .ref (a 15), .ref (a 16), .ref (a 17), .int 0, .ref (a 18), .ref (a 19), .ref (a 20), .ref (a 21), .ref (a 22), .ref (a 23), .int 0, .int 0, .ref (a 24), .ref (a 25), .ref (a 26), .ref (a 27), .ref (a 28), .ref (a 29), .ref (a 30), .ref (a 31), .ref (a 32), .ref (a 33), .ref (a 34), .ref (a 35), .int 0, .int 0, .int 0, .int 0, .int 0, .int 0, .ref (a 36), .ref (a 37), .ref (a 38), .ref (a 39), .ref (a 40), .ref (a 41), .ref (a 42), .ref (a 43), .long 0, .long 0, .long 0, .ref (a 44), .int 0, .ref (a 45), .ref (a 46), .ref (a 47)])), ((a 12), .inl ((k 12), 40, .inl (fun _ => 0))), ((a 15), .inl ((k 15), 40, .inl (fun _ => 0))), ((a 44), .inl ((k 44), 500, .inr (.inl (fun _ => 0))))] := hD
            have hK : va_K (dC, dI) vwCl [((k 12), .int), ((k 15), .boolean), ((k 44), .long)] s := hK
            refine lv_aload_n hx hb d_Md_minutes_82 rfl (lv_at hl 1 rfl) ?_
            have hPc := hP.sub (ws' := [((a 0), .inr (7, [.int 0, .int 720, .int 0, .ref (a 1), .int (-1), .ref (a 2), .ref (a 3), .ref (a 4), .ref (a 5), .ref (a 6), .ref (a 7), .ref (a 8), .ref (a 9), .ref (a 10), .ref (a 11), .ref (a 12), .ref (a 13), .ref (a 14), .ref (a 15), .ref (a 16), .ref (a 17), .int 0, .ref (a 18), .ref (a 19), .ref (a 20), .ref (a 21), .ref (a 22), .ref (a 23), .int 0, .int 0, .ref (a 24), .ref (a 25), .ref (a 26), .ref (a 27), .ref (a 28), .ref (a 29), .ref (a 30), .ref (a 31), .ref (a 32), .ref (a 33), .ref (a 34), .ref (a 35), .int 0, .int 0, .int 0, .int 0, .int 0, .int 0, .ref (a 36), .ref (a 37), .ref (a 38), .ref (a 39), .ref (a 40), .ref (a 41), .ref (a 42), .ref (a 43), .long 0, .long 0, .long 0, .ref (a 44), .int 0, .ref (a 45), .ref (a 46), .ref (a 47)])), ((a 12), .inl ((k 12), 40, .inl (fun _ => 0))), ((a 15), .inl ((k 15), 40, .inl (fun _ => 0))), ((a 44), .inl ((k 44), 500, .inr (.inl (fun _ => 0))))]) [0, 1, 2, 3] rfl
            have hDc := hD.sub (ws' := [((a 0), .inr (7, [.int 0, .int 720, .int 0, .ref (a 1), .int (-1), .ref (a 2), .ref (a 3), .ref (a 4), .ref (a 5), .ref (a 6), .ref (a 7), .ref (a 8), .ref (a 9), .ref (a 10), .ref (a 11), .ref (a 12), .ref (a 13), .ref (a 14), .ref (a 15), .ref (a 16), .ref (a 17), .int 0, .ref (a 18), .ref (a 19), .ref (a 20), .ref (a 21), .ref (a 22), .ref (a 23), .int 0, .int 0, .ref (a 24), .ref (a 25), .ref (a 26), .ref (a 27), .ref (a 28), .ref (a 29), .ref (a 30), .ref (a 31), .ref (a 32), .ref (a 33), .ref (a 34), .ref (a 35), .int 0, .int 0, .int 0, .int 0, .int 0, .int 0, .ref (a 36), .ref (a 37), .ref (a 38), .ref (a 39), .ref (a 40), .ref (a 41), .ref (a 42), .ref (a 43), .long 0, .long 0, .long 0, .ref (a 44), .int 0, .ref (a 45), .ref (a 46), .ref (a 47)])), ((a 12), .inl ((k 12), 40, .inl (fun _ => 0))), ((a 15), .inl ((k 15), 40, .inl (fun _ => 0))), ((a 44), .inl ((k 44), 500, .inr (.inl (fun _ => 0))))]) [0, 1, 2, 3] (by decide) rfl
            have hKc := hK.sub (tys' := [((k 12), .int), ((k 15), .boolean), ((k 44), .long)]) [0, 1, 2] rfl
            have hFc := va_free (wc := [((a 0), .inr (7, [.int 0, .int 720, .int 0, .ref (a 1), .int (-1), .ref (a 2), .ref (a 3), .ref (a 4), .ref (a 5), .ref (a 6), .ref (a 7), .ref (a 8), .ref (a 9), .ref (a 10), .ref (a 11), .ref (a 12), .ref (a 13), .ref (a 14), .ref (a 15), .ref (a 16), .ref (a 17), .int 0, .ref (a 18), .ref (a 19), .ref (a 20), .ref (a 21), .ref (a 22), .ref (a 23), .int 0, .int 0, .ref (a 24), .ref (a 25), .ref (a 26), .ref (a 27), .ref (a 28), .ref (a 29), .ref (a 30), .ref (a 31), .ref (a 32), .ref (a 33), .ref (a 34), .ref (a 35), .int 0, .int 0, .int 0, .int 0, .int 0, .int 0, .ref (a 36), .ref (a 37), .ref (a 38), .ref (a 39), .ref (a 40), .ref (a 41), .ref (a 42), .ref (a 43), .long 0, .long 0, .long 0, .ref (a 44), .int 0, .ref (a 45), .ref (a 46), .ref (a 47)])), ((a 12), .inl ((k 12), 40, .inl (fun _ => 0))), ((a 15), .inl ((k 15), 40, .inl (fun _ => 0))), ((a 44), .inl ((k 44), 500, .inr (.inl (fun _ => 0))))]) hD hS hA [0, 1, 2, 3] rfl
            refine va_calli (va_runV (As := []) (rest := []) ⟨hx, hb, hml, hown, htb⟩ (c_Md_today_c23 l dC dI (a 0) (a 1) (a 2) (a 3) (a 4) (a 5) (a 6) (a 7) (a 8) (a 9) (a 10) (a 11) (a 13) (a 14) (a 16) (a 17) (a 18) (a 19) (a 20) (a 21) (a 22) (a 23) (a 24) (a 25) (a 26) (a 27) (a 28) (a 29) (a 30) (a 31) (a 32) (a 33) (a 34) (a 35) (a 36) (a 37) (a 38) (a 39) (a 40) (a 41) (a 42) (a 43) (a 45) (a 46) (a 47) (a 12) (a 15) (a 44) (k 12) (k 15) (k 44) _) (cwV 0 htb (gd_V tw_313 tw_314 tw_315 tw_296 tw_312) rfl rfl rfl (by decide +kernel) ⟨Nat.le_of_ble_eq_true rfl, Nat.le_of_ble_eq_true rfl⟩) ⟨pc_blind, va_recv hKc hPc (ci := 7) (q0 := 0) rfl rfl, pc_pre hPc hKc hDc hN⟩ rfl rfl hl.1 rfl (lv_room (Nat.le_of_ble_eq_true rfl)) d_Md_minutes_83 ⟨Nat.le_of_ble_eq_true rfl, Nat.le_of_ble_eq_true rfl⟩) hS (fun q _ h => hFc q h) hFc (fun r u t H1 locs ht hvm er hB hz1 hk1 hS => ?_)
            subst er
            obtain ⟨hP1, hK1, hD1⟩ := hB
            rw [ht] at hP1
            have hK1 := va_K.moved hvm.symm hK1
            obtain ⟨hP, hD⟩ := va_join (wr := []) (w1 := [((a 0), .inr (7, [.int 0, .int 720, .int 0, .ref (a 1), .int (-1), .ref (a 2), .ref (a 3), .ref (a 4), .ref (a 5), .ref (a 6), .ref (a 7), .ref (a 8), .ref (a 9), .ref (a 10), .ref (a 11), .ref (a 12), .ref (a 13), .ref (a 14), .ref (a 15), .ref (a 16), .ref (a 17), .int 0, .ref (a 18), .ref (a 19), .ref (a 20), .ref (a 21), .ref (a 22), .ref (a 23), .int 0, .int 0, .ref (a 24), .ref (a 25), .ref (a 26), .ref (a 27), .ref (a 28), .ref (a 29), .ref (a 30), .ref (a 31), .ref (a 32), .ref (a 33), .ref (a 34), .ref (a 35), .int 0, .int 0, .int 0, .int 0, .int 0, .int 0, .ref (a 36), .ref (a 37), .ref (a 38), .ref (a 39), .ref (a 40), .ref (a 41), .ref (a 42), .ref (a 43), .long 0, .long 0, .long 0, .ref (a 44), .int 0, .ref (a 45), .ref (a 46), .ref (a 47)])), ((a 12), .inl ((k 12), 40, .inl (fun _ => 0))), ((a 15), .inl ((k 15), 40, .inl (fun _ => 0))), ((a 44), .inl ((k 44), 500, .inr (.inl (fun _ => 0))))]) hP hD [0, 1, 2, 3] [] rfl rfl (by decide) (by decide) hk1 hFc hP1 hD1
            have hK := (hK.sub (tys' := []) [] rfl).app hK1
            generalize H1 = H at hP hS ⊢
            have hP : va_P (dC, dI) vwCl [((a 0), .inr (7, [.int 0, .int 720, .int 0, .ref (a 1), .int (-1), .ref (a 2), .ref (a 3), .ref (a 4), .ref (a 5), .ref (a 6), .ref (a 7), .ref (a 8), .ref (a 9), .ref (a 10), .ref (a 11), .ref (a 12), .ref (a 13), .ref (a 14), .ref (a 15), .ref (a 16), .ref (a 17), .int 0, .ref (a 18), .ref (a 19), .ref (a 20), .ref (a 21), .ref (a 22), .ref (a 23), .int 0, .int 0, .ref (a 24), .ref (a 25), .ref (a 26), .ref (a 27), .ref (a 28), .ref (a 29), .ref (a 30), .ref (a 31), .ref (a 32), .ref (a 33), .ref (a 34), .ref (a 35), .int 0, .int 0, .int 0, .int 0, .int 0, .int 0, .ref (a 36), .ref (a 37), .ref (a 38), .ref (a 39), .ref (a 40), .ref (a 41), .ref (a 42), .ref (a 43), .long 0, .long 0, .long 0, .ref (a 44), .int 0, .ref (a 45), .ref (a 46), .ref (a 47)])), ((a 12), .inl ((k 12), 40, .inl (fun _ => 0))), ((a 15), .inl ((k 15), 40, .inl (fun _ => 0))), ((a 44), .inl ((k 44), 500, .inr (.inl (fun _ => 0))))] H := hP
            have hD : va_D A [((a 0), .inr (7, [.int 0, .int 720, .int 0, .ref (a 1), .int (-1), .ref (a 2), .ref (a 3), .ref (a 4), .ref (a 5), .ref (a 6), .ref (a 7), .ref (a 8), .ref (a 9), .ref (a 10), .ref (a 11), .ref (a 12), .ref (a 13), .ref (a 14), .ref (a 15), .ref (a 16), .ref (a 17), .int 0, .ref (a 18), .ref (a 19), .ref (a 20), .ref (a 21), .ref (a 22), .ref (a 23), .int 0, .int 0, .ref (a 24), .ref (a 25), .ref (a 26), .ref (a 27), .ref (a 28), .ref (a 29), .ref (a 30), .ref (a 31), .ref (a 32), .ref (a 33), .ref (a 34), .ref (a 35), .int 0, .int 0, .int 0, .int 0, .int 0, .int 0, .ref (a 36), .ref (a 37), .ref (a 38), .ref (a 39), .ref (a 40), .ref (a 41), .ref (a 42), .ref (a 43), .long 0, .long 0, .long 0, .ref (a 44), .int 0, .ref (a 45), .ref (a 46), .ref (a 47)])), ((a 12), .inl ((k 12), 40, .inl (fun _ => 0))), ((a 15), .inl ((k 15), 40, .inl (fun _ => 0))), ((a 44), .inl ((k 44), 500, .inr (.inl (fun _ => 0))))] := hD
            have hK : va_K (dC, dI) vwCl [((k 12), .int), ((k 15), .boolean), ((k 44), .long)] s := hK
            refine hb_ti 1 rfl ?_
            refine lv_bipush (v := 100) hx hb d_Md_minutes_86 (by decide +kernel) ?_
            refine lv_irem hx hb d_Md_minutes_88 (by decide) ?_
            refine hb_ti 1 (by decide +kernel) ?_
            refine lv_if_ne (tgt := 100) hx hb d_Md_minutes_89 (by decide) (fun _ => ?_) (fun h => absurd h (by decide +kernel))
            refine lv_iinc (v := nI (719 + 1)) (lv' := [(2, .int (nI (719 + 1))), (0, .ref (a 0)), (1, .int p_0)]) hx hb d_Md_minutes_100 hl (k := 0) rfl (nI_1 719) (by decide) rfl (fun ls hl => ?_)
            refine lv_goto (tgt := 27) hx hb d_Md_minutes_103 (by decide) ?_
            exact ih (719 + 1) _ _ (by omega) (hP.sub [0, 2, 1, 3] rfl) (hD.sub [0, 2, 1, 3] (by decide) rfl) hS ls (lv_sub hl [0, 1, 2] rfl)
          · by_cases e14 : j + 1 = 1440
            · obtain rfl : j = 1439 := by omega
              have hP : va_P (dC, dI) vwCl [((a 0), .inr (7, [.int 0, .int 1440, .int 0, .ref (a 1), .int (-1), .ref (a 2), .ref (a 3), .ref (a 4), .ref (a 5), .ref (a 6), .ref (a 7), .ref (a 8), .ref (a 9), .ref (a 10), .ref (a 11), .ref (a 12), .ref (a 13), .ref (a 14), .ref (a 15), .ref (a 16), .ref (a 17), .int 0, .ref (a 18), .ref (a 19), .ref (a 20), .ref (a 21), .ref (a 22), .ref (a 23), .int 0, .int 0, .ref (a 24), .ref (a 25), .ref (a 26), .ref (a 27), .ref (a 28), .ref (a 29), .ref (a 30), .ref (a 31), .ref (a 32), .ref (a 33), .ref (a 34), .ref (a 35), .int 0, .int 0, .int 0, .int 0, .int 0, .int 0, .ref (a 36), .ref (a 37), .ref (a 38), .ref (a 39), .ref (a 40), .ref (a 41), .ref (a 42), .ref (a 43), .long 0, .long 0, .long 0, .ref (a 44), .int 0, .ref (a 45), .ref (a 46), .ref (a 47)])), ((a 15), .inl ((k 15), 40, .inl (fun _ => 0))), ((a 12), .inl ((k 12), 40, .inl (fun _ => 0))), ((a 44), .inl ((k 44), 500, .inr (.inl (fun _ => 0))))] H := hP
              have hD : va_D A [((a 0), .inr (7, [.int 0, .int 1440, .int 0, .ref (a 1), .int (-1), .ref (a 2), .ref (a 3), .ref (a 4), .ref (a 5), .ref (a 6), .ref (a 7), .ref (a 8), .ref (a 9), .ref (a 10), .ref (a 11), .ref (a 12), .ref (a 13), .ref (a 14), .ref (a 15), .ref (a 16), .ref (a 17), .int 0, .ref (a 18), .ref (a 19), .ref (a 20), .ref (a 21), .ref (a 22), .ref (a 23), .int 0, .int 0, .ref (a 24), .ref (a 25), .ref (a 26), .ref (a 27), .ref (a 28), .ref (a 29), .ref (a 30), .ref (a 31), .ref (a 32), .ref (a 33), .ref (a 34), .ref (a 35), .int 0, .int 0, .int 0, .int 0, .int 0, .int 0, .ref (a 36), .ref (a 37), .ref (a 38), .ref (a 39), .ref (a 40), .ref (a 41), .ref (a 42), .ref (a 43), .long 0, .long 0, .long 0, .ref (a 44), .int 0, .ref (a 45), .ref (a 46), .ref (a 47)])), ((a 15), .inl ((k 15), 40, .inl (fun _ => 0))), ((a 12), .inl ((k 12), 40, .inl (fun _ => 0))), ((a 44), .inl ((k 44), 500, .inr (.inl (fun _ => 0))))] := hD
              refine lv_aload_n hx hb d_Md_minutes_42 rfl (lv_at hl 1 rfl) ?_
              have hPc := hP.sub (ws' := [((a 0), .inr (7, [.int 0, .int 1440, .int 0, .ref (a 1), .int (-1), .ref (a 2), .ref (a 3), .ref (a 4), .ref (a 5), .ref (a 6), .ref (a 7), .ref (a 8), .ref (a 9), .ref (a 10), .ref (a 11), .ref (a 12), .ref (a 13), .ref (a 14), .ref (a 15), .ref (a 16), .ref (a 17), .int 0, .ref (a 18), .ref (a 19), .ref (a 20), .ref (a 21), .ref (a 22), .ref (a 23), .int 0, .int 0, .ref (a 24), .ref (a 25), .ref (a 26), .ref (a 27), .ref (a 28), .ref (a 29), .ref (a 30), .ref (a 31), .ref (a 32), .ref (a 33), .ref (a 34), .ref (a 35), .int 0, .int 0, .int 0, .int 0, .int 0, .int 0, .ref (a 36), .ref (a 37), .ref (a 38), .ref (a 39), .ref (a 40), .ref (a 41), .ref (a 42), .ref (a 43), .long 0, .long 0, .long 0, .ref (a 44), .int 0, .ref (a 45), .ref (a 46), .ref (a 47)])), ((a 12), .inl ((k 12), 40, .inl (fun _ => 0))), ((a 15), .inl ((k 15), 40, .inl (fun _ => 0))), ((a 44), .inl ((k 44), 500, .inr (.inl (fun _ => 0))))]) [0, 2, 1, 3] rfl
              have hDc := hD.sub (ws' := [((a 0), .inr (7, [.int 0, .int 1440, .int 0, .ref (a 1), .int (-1), .ref (a 2), .ref (a 3), .ref (a 4), .ref (a 5), .ref (a 6), .ref (a 7), .ref (a 8), .ref (a 9), .ref (a 10), .ref (a 11), .ref (a 12), .ref (a 13), .ref (a 14), .ref (a 15), .ref (a 16), .ref (a 17), .int 0, .ref (a 18), .ref (a 19), .ref (a 20), .ref (a 21), .ref (a 22), .ref (a 23), .int 0, .int 0, .ref (a 24), .ref (a 25), .ref (a 26), .ref (a 27), .ref (a 28), .ref (a 29), .ref (a 30), .ref (a 31), .ref (a 32), .ref (a 33), .ref (a 34), .ref (a 35), .int 0, .int 0, .int 0, .int 0, .int 0, .int 0, .ref (a 36), .ref (a 37), .ref (a 38), .ref (a 39), .ref (a 40), .ref (a 41), .ref (a 42), .ref (a 43), .long 0, .long 0, .long 0, .ref (a 44), .int 0, .ref (a 45), .ref (a 46), .ref (a 47)])), ((a 12), .inl ((k 12), 40, .inl (fun _ => 0))), ((a 15), .inl ((k 15), 40, .inl (fun _ => 0))), ((a 44), .inl ((k 44), 500, .inr (.inl (fun _ => 0))))]) [0, 2, 1, 3] (by decide) rfl
              have hKc := hK.sub (tys' := [((k 12), .int), ((k 15), .boolean), ((k 44), .long)]) [1, 0, 2] rfl
              have hFc := va_free (wc := [((a 0), .inr (7, [.int 0, .int 1440, .int 0, .ref (a 1), .int (-1), .ref (a 2), .ref (a 3), .ref (a 4), .ref (a 5), .ref (a 6), .ref (a 7), .ref (a 8), .ref (a 9), .ref (a 10), .ref (a 11), .ref (a 12), .ref (a 13), .ref (a 14), .ref (a 15), .ref (a 16), .ref (a 17), .int 0, .ref (a 18), .ref (a 19), .ref (a 20), .ref (a 21), .ref (a 22), .ref (a 23), .int 0, .int 0, .ref (a 24), .ref (a 25), .ref (a 26), .ref (a 27), .ref (a 28), .ref (a 29), .ref (a 30), .ref (a 31), .ref (a 32), .ref (a 33), .ref (a 34), .ref (a 35), .int 0, .int 0, .int 0, .int 0, .int 0, .int 0, .ref (a 36), .ref (a 37), .ref (a 38), .ref (a 39), .ref (a 40), .ref (a 41), .ref (a 42), .ref (a 43), .long 0, .long 0, .long 0, .ref (a 44), .int 0, .ref (a 45), .ref (a 46), .ref (a 47)])), ((a 12), .inl ((k 12), 40, .inl (fun _ => 0))), ((a 15), .inl ((k 15), 40, .inl (fun _ => 0))), ((a 44), .inl ((k 44), 500, .inr (.inl (fun _ => 0))))]) hD hS hA [0, 2, 1, 3] rfl
              refine va_callv (va_runV (As := []) (rest := []) ⟨hx, hb, hml, hown, htb⟩ (c_Md_arrive_c25 l dC dI (a 0) (a 1) (a 2) (a 3) (a 4) (a 5) (a 6) (a 7) (a 8) (a 9) (a 10) (a 11) (a 13) (a 14) (a 16) (a 17) (a 18) (a 19) (a 20) (a 21) (a 22) (a 23) (a 24) (a 25) (a 26) (a 27) (a 28) (a 29) (a 30) (a 31) (a 32) (a 33) (a 34) (a 35) (a 36) (a 37) (a 38) (a 39) (a 40) (a 41) (a 42) (a 43) (a 45) (a 46) (a 47) (a 12) (a 15) (a 44) (k 12) (k 15) (k 44) _) (cwV 0 htb (gd_V tw_363 tw_364 tw_365 tw_296 tw_362) rfl rfl rfl (by decide +kernel) ⟨Nat.le_of_ble_eq_true rfl, Nat.le_of_ble_eq_true rfl⟩) ⟨pc_blind, va_recv hKc hPc (ci := 7) (q0 := 0) rfl rfl, pc_pre hPc hKc hDc hN⟩ rfl rfl hl.1 rfl (lv_room (Nat.le_of_ble_eq_true rfl)) d_Md_minutes_43 ⟨Nat.le_of_ble_eq_true rfl, Nat.le_of_ble_eq_true rfl⟩) hS (fun q _ h => hFc q h) hFc (fun u t H1 locs ht hvm hw hB hz1 hk1 hS => ?_)
              obtain ⟨hP1, hK1, hD1⟩ := hB
              rw [ht] at hP1
              have hK1 := va_K.moved hvm.symm hK1
              obtain ⟨hP, hD⟩ := va_join (wr := []) (w1 := [((a 0), .inr (7, [.int 0, .int 1440, .int 0, .ref (a 1), .int (-1), .ref (a 2), .ref (a 3), .ref (a 4), .ref (a 5), .ref (a 6), .ref (a 7), .ref (a 8), .ref (a 9), .ref (a 10), .ref (a 11), .ref (a 12), .ref (a 13), .ref (a 14), .ref (a 15), .ref (a 16), .ref (a 17), .int 0, .ref (a 18), .ref (a 19), .ref (a 20), .ref (a 21), .ref (a 22), .ref (a 23), .int 0, .int 0, .ref (a 24), .ref (a 25), .ref (a 26), .ref (a 27), .ref (a 28), .ref (a 29), .ref (a 30), .ref (a 31), .ref (a 32), .ref (a 33), .ref (a 34), .ref (a 35), .int 0, .int 0, .int 0, .int 0, .int 0, .int 0, .ref (a 36), .ref (a 37), .ref (a 38), .ref (a 39), .ref (a 40), .ref (a 41), .ref (a 42), .ref (a 43), .long 0, .long 0, .long 0, .ref (a 44), .int 0, .ref (a 45), .ref (a 46), .ref (a 47)])), ((a 12), .inl ((k 12), 40, .inl (fun _ => 0))), ((a 15), .inl ((k 15), 40, .inl (fun _ => 0))), ((a 44), .inl ((k 44), 500, .inr (.inl (fun _ => 0))))]) hP hD [0, 2, 1, 3] [] rfl rfl (by decide) (by decide) hk1 hFc hP1 hD1
              have hK := (hK.sub (tys' := []) [] rfl).app hK1
              generalize H1 = H at hP hS ⊢
              have hP : va_P (dC, dI) vwCl [((a 0), .inr (7, [.int 0, .int 1440, .int 0, .ref (a 1), .int (-1), .ref (a 2), .ref (a 3), .ref (a 4), .ref (a 5), .ref (a 6), .ref (a 7), .ref (a 8), .ref (a 9), .ref (a 10), .ref (a 11), .ref (a 12), .ref (a 13), .ref (a 14), .ref (a 15), .ref (a 16), .ref (a 17), .int 0, .ref (a 18), .ref (a 19), .ref (a 20), .ref (a 21), .ref (a 22), .ref (a 23), .int 0, .int 0, .ref (a 24), .ref (a 25), .ref (a 26), .ref (a 27), .ref (a 28), .ref (a 29), .ref (a 30), .ref (a 31), .ref (a 32), .ref (a 33), .ref (a 34), .ref (a 35), .int 0, .int 0, .int 0, .int 0, .int 0, .int 0, .ref (a 36), .ref (a 37), .ref (a 38), .ref (a 39), .ref (a 40), .ref (a 41), .ref (a 42), .ref (a 43), .long 0, .long 0, .long 0, .ref (a 44), .int 0, .ref (a 45), .ref (a 46), .ref (a 47)])), ((a 12), .inl ((k 12), 40, .inl (fun _ => 0))), ((a 15), .inl ((k 15), 40, .inl (fun _ => 0))), ((a 44), .inl ((k 44), 500, .inr (.inl (fun _ => 0))))] H := hP
              have hD : va_D A [((a 0), .inr (7, [.int 0, .int 1440, .int 0, .ref (a 1), .int (-1), .ref (a 2), .ref (a 3), .ref (a 4), .ref (a 5), .ref (a 6), .ref (a 7), .ref (a 8), .ref (a 9), .ref (a 10), .ref (a 11), .ref (a 12), .ref (a 13), .ref (a 14), .ref (a 15), .ref (a 16), .ref (a 17), .int 0, .ref (a 18), .ref (a 19), .ref (a 20), .ref (a 21), .ref (a 22), .ref (a 23), .int 0, .int 0, .ref (a 24), .ref (a 25), .ref (a 26), .ref (a 27), .ref (a 28), .ref (a 29), .ref (a 30), .ref (a 31), .ref (a 32), .ref (a 33), .ref (a 34), .ref (a 35), .int 0, .int 0, .int 0, .int 0, .int 0, .int 0, .ref (a 36), .ref (a 37), .ref (a 38), .ref (a 39), .ref (a 40), .ref (a 41), .ref (a 42), .ref (a 43), .long 0, .long 0, .long 0, .ref (a 44), .int 0, .ref (a 45), .ref (a 46), .ref (a 47)])), ((a 12), .inl ((k 12), 40, .inl (fun _ => 0))), ((a 15), .inl ((k 15), 40, .inl (fun _ => 0))), ((a 44), .inl ((k 44), 500, .inr (.inl (fun _ => 0))))] := hD
              have hK : va_K (dC, dI) vwCl [((k 12), .int), ((k 15), .boolean), ((k 44), .long)] s := hK
              refine lv_aload_n hx hb d_Md_minutes_46 rfl (lv_at hl 1 rfl) ?_
              refine va_get (D := (dC, dI)) (ci := 7) (v := .int 1440) (C := R_Md) (T := F_Md) (N := 64) hx hb htb i_Md hown hK hP 0 rfl rfl 1 (by decide) (htb (.fieldLink R_Md 7 "WaterMenModel" "time" "I") tw_311) (fun _ h9 => h9) rfl d_Md_minutes_47 ?_
              refine lv_sipush (v := 720) hx hb d_Md_minutes_50 (by decide +kernel) ?_
              refine lv_irem hx hb d_Md_minutes_53 (by decide) ?_
              refine hb_ti 0 (by decide +kernel) ?_
              refine lv_if_eq (tgt := 60) hx hb d_Md_minutes_54 (by decide) (fun _ => ?_) (fun h => absurd (by decide +kernel) h)
              refine lv_aload_n hx hb d_Md_minutes_60 rfl (lv_at hl 1 rfl) ?_
              have hPc := hP.sub (ws' := [((a 0), .inr (7, [.int 0, .int 1440, .int 0, .ref (a 1), .int (-1), .ref (a 2), .ref (a 3), .ref (a 4), .ref (a 5), .ref (a 6), .ref (a 7), .ref (a 8), .ref (a 9), .ref (a 10), .ref (a 11), .ref (a 12), .ref (a 13), .ref (a 14), .ref (a 15), .ref (a 16), .ref (a 17), .int 0, .ref (a 18), .ref (a 19), .ref (a 20), .ref (a 21), .ref (a 22), .ref (a 23), .int 0, .int 0, .ref (a 24), .ref (a 25), .ref (a 26), .ref (a 27), .ref (a 28), .ref (a 29), .ref (a 30), .ref (a 31), .ref (a 32), .ref (a 33), .ref (a 34), .ref (a 35), .int 0, .int 0, .int 0, .int 0, .int 0, .int 0, .ref (a 36), .ref (a 37), .ref (a 38), .ref (a 39), .ref (a 40), .ref (a 41), .ref (a 42), .ref (a 43), .long 0, .long 0, .long 0, .ref (a 44), .int 0, .ref (a 45), .ref (a 46), .ref (a 47)])), ((a 12), .inl ((k 12), 40, .inl (fun _ => 0))), ((a 15), .inl ((k 15), 40, .inl (fun _ => 0))), ((a 44), .inl ((k 44), 500, .inr (.inl (fun _ => 0))))]) [0, 1, 2, 3] rfl
              have hDc := hD.sub (ws' := [((a 0), .inr (7, [.int 0, .int 1440, .int 0, .ref (a 1), .int (-1), .ref (a 2), .ref (a 3), .ref (a 4), .ref (a 5), .ref (a 6), .ref (a 7), .ref (a 8), .ref (a 9), .ref (a 10), .ref (a 11), .ref (a 12), .ref (a 13), .ref (a 14), .ref (a 15), .ref (a 16), .ref (a 17), .int 0, .ref (a 18), .ref (a 19), .ref (a 20), .ref (a 21), .ref (a 22), .ref (a 23), .int 0, .int 0, .ref (a 24), .ref (a 25), .ref (a 26), .ref (a 27), .ref (a 28), .ref (a 29), .ref (a 30), .ref (a 31), .ref (a 32), .ref (a 33), .ref (a 34), .ref (a 35), .int 0, .int 0, .int 0, .int 0, .int 0, .int 0, .ref (a 36), .ref (a 37), .ref (a 38), .ref (a 39), .ref (a 40), .ref (a 41), .ref (a 42), .ref (a 43), .long 0, .long 0, .long 0, .ref (a 44), .int 0, .ref (a 45), .ref (a 46), .ref (a 47)])), ((a 12), .inl ((k 12), 40, .inl (fun _ => 0))), ((a 15), .inl ((k 15), 40, .inl (fun _ => 0))), ((a 44), .inl ((k 44), 500, .inr (.inl (fun _ => 0))))]) [0, 1, 2, 3] (by decide) rfl
              have hKc := hK.sub (tys' := [((k 12), .int), ((k 15), .boolean), ((k 44), .long)]) [0, 1, 2] rfl
              have hFc := va_free (wc := [((a 0), .inr (7, [.int 0, .int 1440, .int 0, .ref (a 1), .int (-1), .ref (a 2), .ref (a 3), .ref (a 4), .ref (a 5), .ref (a 6), .ref (a 7), .ref (a 8), .ref (a 9), .ref (a 10), .ref (a 11), .ref (a 12), .ref (a 13), .ref (a 14), .ref (a 15), .ref (a 16), .ref (a 17), .int 0, .ref (a 18), .ref (a 19), .ref (a 20), .ref (a 21), .ref (a 22), .ref (a 23), .int 0, .int 0, .ref (a 24), .ref (a 25), .ref (a 26), .ref (a 27), .ref (a 28), .ref (a 29), .ref (a 30), .ref (a 31), .ref (a 32), .ref (a 33), .ref (a 34), .ref (a 35), .int 0, .int 0, .int 0, .int 0, .int 0, .int 0, .ref (a 36), .ref (a 37), .ref (a 38), .ref (a 39), .ref (a 40), .ref (a 41), .ref (a 42), .ref (a 43), .long 0, .long 0, .long 0, .ref (a 44), .int 0, .ref (a 45), .ref (a 46), .ref (a 47)])), ((a 12), .inl ((k 12), 40, .inl (fun _ => 0))), ((a 15), .inl ((k 15), 40, .inl (fun _ => 0))), ((a 44), .inl ((k 44), 500, .inr (.inl (fun _ => 0))))]) hD hS hA [0, 1, 2, 3] rfl
              refine va_calli (va_runV (As := []) (rest := []) ⟨hx, hb, hml, hown, htb⟩ (c_Md_today_c26 l dC dI (a 0) (a 1) (a 2) (a 3) (a 4) (a 5) (a 6) (a 7) (a 8) (a 9) (a 10) (a 11) (a 13) (a 14) (a 16) (a 17) (a 18) (a 19) (a 20) (a 21) (a 22) (a 23) (a 24) (a 25) (a 26) (a 27) (a 28) (a 29) (a 30) (a 31) (a 32) (a 33) (a 34) (a 35) (a 36) (a 37) (a 38) (a 39) (a 40) (a 41) (a 42) (a 43) (a 45) (a 46) (a 47) (a 12) (a 15) (a 44) (k 12) (k 15) (k 44) _) (cwV 0 htb (gd_V tw_313 tw_314 tw_315 tw_296 tw_312) rfl rfl rfl (by decide +kernel) ⟨Nat.le_of_ble_eq_true rfl, Nat.le_of_ble_eq_true rfl⟩) ⟨pc_blind, va_recv hKc hPc (ci := 7) (q0 := 0) rfl rfl, pc_pre hPc hKc hDc hN⟩ rfl rfl hl.1 rfl (lv_room (Nat.le_of_ble_eq_true rfl)) d_Md_minutes_61 ⟨Nat.le_of_ble_eq_true rfl, Nat.le_of_ble_eq_true rfl⟩) hS (fun q _ h => hFc q h) hFc (fun r u t H1 locs ht hvm er hB hz1 hk1 hS => ?_)
              subst er
              obtain ⟨hP1, hK1, hD1⟩ := hB
              rw [ht] at hP1
              have hK1 := va_K.moved hvm.symm hK1
              obtain ⟨hP, hD⟩ := va_join (wr := []) (w1 := [((a 0), .inr (7, [.int 0, .int 1440, .int 0, .ref (a 1), .int (-1), .ref (a 2), .ref (a 3), .ref (a 4), .ref (a 5), .ref (a 6), .ref (a 7), .ref (a 8), .ref (a 9), .ref (a 10), .ref (a 11), .ref (a 12), .ref (a 13), .ref (a 14), .ref (a 15), .ref (a 16), .ref (a 17), .int 0, .ref (a 18), .ref (a 19), .ref (a 20), .ref (a 21), .ref (a 22), .ref (a 23), .int 0, .int 0, .ref (a 24), .ref (a 25), .ref (a 26), .ref (a 27), .ref (a 28), .ref (a 29), .ref (a 30), .ref (a 31), .ref (a 32), .ref (a 33), .ref (a 34), .ref (a 35), .int 0, .int 0, .int 0, .int 0, .int 0, .int 0, .ref (a 36), .ref (a 37), .ref (a 38), .ref (a 39), .ref (a 40), .ref (a 41), .ref (a 42), .ref (a 43), .long 0, .long 0, .long 0, .ref (a 44), .int 0, .ref (a 45), .ref (a 46), .ref (a 47)])), ((a 12), .inl ((k 12), 40, .inl (fun _ => 0))), ((a 15), .inl ((k 15), 40, .inl (fun _ => 0))), ((a 44), .inl ((k 44), 500, .inr (.inl (fun _ => 0))))]) hP hD [0, 1, 2, 3] [] rfl rfl (by decide) (by decide) hk1 hFc hP1 hD1
              have hK := (hK.sub (tys' := []) [] rfl).app hK1
              generalize H1 = H at hP hS ⊢
              have hP : va_P (dC, dI) vwCl [((a 0), .inr (7, [.int 0, .int 1440, .int 0, .ref (a 1), .int (-1), .ref (a 2), .ref (a 3), .ref (a 4), .ref (a 5), .ref (a 6), .ref (a 7), .ref (a 8), .ref (a 9), .ref (a 10), .ref (a 11), .ref (a 12), .ref (a 13), .ref (a 14), .ref (a 15), .ref (a 16), .ref (a 17), .int 0, .ref (a 18), .ref (a 19), .ref (a 20), .ref (a 21), .ref (a 22), .ref (a 23), .int 0, .int 0, .ref (a 24), .ref (a 25), .ref (a 26), .ref (a 27), .ref (a 28), .ref (a 29), .ref (a 30), .ref (a 31), .ref (a 32), .ref (a 33), .ref (a 34), .ref (a 35), .int 0, .int 0, .int 0, .int 0, .int 0, .int 0, .ref (a 36), .ref (a 37), .ref (a 38), .ref (a 39), .ref (a 40), .ref (a 41), .ref (a 42), .ref (a 43), .long 0, .long 0, .long 0, .ref (a 44), .int 0, .ref (a 45), .ref (a 46), .ref (a 47)])), ((a 12), .inl ((k 12), 40, .inl (fun _ => 0))), ((a 15), .inl ((k 15), 40, .inl (fun _ => 0))), ((a 44), .inl ((k 44), 500, .inr (.inl (fun _ => 0))))] H := hP
              have hD : va_D A [((a 0), .inr (7, [.int 0, .int 1440, .int 0, .ref (a 1), .int (-1), .ref (a 2), .ref (a 3), .ref (a 4), .ref (a 5), .ref (a 6), .ref (a 7), .ref (a 8), .ref (a 9), .ref (a 10), .ref (a 11), .ref (a 12), .ref (a 13), .ref (a 14), .ref (a 15), .ref (a 16), .ref (a 17), .int 0, .ref (a 18), .ref (a 19), .ref (a 20), .ref (a 21), .ref (a 22), .ref (a 23), .int 0, .int 0, .ref (a 24), .ref (a 25), .ref (a 26), .ref (a 27), .ref (a 28), .ref (a 29), .ref (a 30), .ref (a 31), .ref (a 32), .ref (a 33), .ref (a 34), .ref (a 35), .int 0, .int 0, .int 0, .int 0, .int 0, .int 0, .ref (a 36), .ref (a 37), .ref (a 38), .ref (a 39), .ref (a 40), .ref (a 41), .ref (a 42), .ref (a 43), .long 0, .long 0, .long 0, .ref (a 44), .int 0, .ref (a 45), .ref (a 46), .ref (a 47)])), ((a 12), .inl ((k 12), 40, .inl (fun _ => 0))), ((a 15), .inl ((k 15), 40, .inl (fun _ => 0))), ((a 44), .inl ((k 44), 500, .inr (.inl (fun _ => 0))))] := hD
              have hK : va_K (dC, dI) vwCl [((k 12), .int), ((k 15), .boolean), ((k 44), .long)] s := hK
              refine hb_ti 2 rfl ?_
              refine lv_iconst (v := 1) hx hb d_Md_minutes_64 (by decide +kernel) ?_
              refine lv_isub hx hb d_Md_minutes_65 ?_
              refine hb_ti 1 (by decide +kernel) ?_
              refine lv_bipush (v := 7) hx hb d_Md_minutes_66 (by decide +kernel) ?_
              refine lv_irem hx hb d_Md_minutes_68 (by decide) ?_
              refine hb_ti 1 (by decide +kernel) ?_
              refine lv_if_ne (tgt := 82) hx hb d_Md_minutes_69 (by decide) (fun _ => ?_) (fun h => absurd h (by decide +kernel))
              refine lv_aload_n hx hb d_Md_minutes_82 rfl (lv_at hl 1 rfl) ?_
              have hPc := hP.sub (ws' := [((a 0), .inr (7, [.int 0, .int 1440, .int 0, .ref (a 1), .int (-1), .ref (a 2), .ref (a 3), .ref (a 4), .ref (a 5), .ref (a 6), .ref (a 7), .ref (a 8), .ref (a 9), .ref (a 10), .ref (a 11), .ref (a 12), .ref (a 13), .ref (a 14), .ref (a 15), .ref (a 16), .ref (a 17), .int 0, .ref (a 18), .ref (a 19), .ref (a 20), .ref (a 21), .ref (a 22), .ref (a 23), .int 0, .int 0, .ref (a 24), .ref (a 25), .ref (a 26), .ref (a 27), .ref (a 28), .ref (a 29), .ref (a 30), .ref (a 31), .ref (a 32), .ref (a 33), .ref (a 34), .ref (a 35), .int 0, .int 0, .int 0, .int 0, .int 0, .int 0, .ref (a 36), .ref (a 37), .ref (a 38), .ref (a 39), .ref (a 40), .ref (a 41), .ref (a 42), .ref (a 43), .long 0, .long 0, .long 0, .ref (a 44), .int 0, .ref (a 45), .ref (a 46), .ref (a 47)])), ((a 12), .inl ((k 12), 40, .inl (fun _ => 0))), ((a 15), .inl ((k 15), 40, .inl (fun _ => 0))), ((a 44), .inl ((k 44), 500, .inr (.inl (fun _ => 0))))]) [0, 1, 2, 3] rfl
              have hDc := hD.sub (ws' := [((a 0), .inr (7, [.int 0, .int 1440, .int 0, .ref (a 1), .int (-1), .ref (a 2), .ref (a 3), .ref (a 4), .ref (a 5), .ref (a 6), .ref (a 7), .ref (a 8), .ref (a 9), .ref (a 10), .ref (a 11), .ref (a 12), .ref (a 13), .ref (a 14), .ref (a 15), .ref (a 16), .ref (a 17), .int 0, .ref (a 18), .ref (a 19), .ref (a 20), .ref (a 21), .ref (a 22), .ref (a 23), .int 0, .int 0, .ref (a 24), .ref (a 25), .ref (a 26), .ref (a 27), .ref (a 28), .ref (a 29), .ref (a 30), .ref (a 31), .ref (a 32), .ref (a 33), .ref (a 34), .ref (a 35), .int 0, .int 0, .int 0, .int 0, .int 0, .int 0, .ref (a 36), .ref (a 37), .ref (a 38), .ref (a 39), .ref (a 40), .ref (a 41), .ref (a 42), .ref (a 43), .long 0, .long 0, .long 0, .ref (a 44), .int 0, .ref (a 45), .ref (a 46), .ref (a 47)])), ((a 12), .inl ((k 12), 40, .inl (fun _ => 0))), ((a 15), .inl ((k 15), 40, .inl (fun _ => 0))), ((a 44), .inl ((k 44), 500, .inr (.inl (fun _ => 0))))]) [0, 1, 2, 3] (by decide) rfl
              have hKc := hK.sub (tys' := [((k 12), .int), ((k 15), .boolean), ((k 44), .long)]) [0, 1, 2] rfl
              have hFc := va_free (wc := [((a 0), .inr (7, [.int 0, .int 1440, .int 0, .ref (a 1), .int (-1), .ref (a 2), .ref (a 3), .ref (a 4), .ref (a 5), .ref (a 6), .ref (a 7), .ref (a 8), .ref (a 9), .ref (a 10), .ref (a 11), .ref (a 12), .ref (a 13), .ref (a 14), .ref (a 15), .ref (a 16), .ref (a 17), .int 0, .ref (a 18), .ref (a 19), .ref (a 20), .ref (a 21), .ref (a 22), .ref (a 23), .int 0, .int 0, .ref (a 24), .ref (a 25), .ref (a 26), .ref (a 27), .ref (a 28), .ref (a 29), .ref (a 30), .ref (a 31), .ref (a 32), .ref (a 33), .ref (a 34), .ref (a 35), .int 0, .int 0, .int 0, .int 0, .int 0, .int 0, .ref (a 36), .ref (a 37), .ref (a 38), .ref (a 39), .ref (a 40), .ref (a 41), .ref (a 42), .ref (a 43), .long 0, .long 0, .long 0, .ref (a 44), .int 0, .ref (a 45), .ref (a 46), .ref (a 47)])), ((a 12), .inl ((k 12), 40, .inl (fun _ => 0))), ((a 15), .inl ((k 15), 40, .inl (fun _ => 0))), ((a 44), .inl ((k 44), 500, .inr (.inl (fun _ => 0))))]) hD hS hA [0, 1, 2, 3] rfl
              refine va_calli (va_runV (As := []) (rest := []) ⟨hx, hb, hml, hown, htb⟩ (c_Md_today_c26 l dC dI (a 0) (a 1) (a 2) (a 3) (a 4) (a 5) (a 6) (a 7) (a 8) (a 9) (a 10) (a 11) (a 13) (a 14) (a 16) (a 17) (a 18) (a 19) (a 20) (a 21) (a 22) (a 23) (a 24) (a 25) (a 26) (a 27) (a 28) (a 29) (a 30) (a 31) (a 32) (a 33) (a 34) (a 35) (a 36) (a 37) (a 38) (a 39) (a 40) (a 41) (a 42) (a 43) (a 45) (a 46) (a 47) (a 12) (a 15) (a 44) (k 12) (k 15) (k 44) _) (cwV 0 htb (gd_V tw_313 tw_314 tw_315 tw_296 tw_312) rfl rfl rfl (by decide +kernel) ⟨Nat.le_of_ble_eq_true rfl, Nat.le_of_ble_eq_true rfl⟩) ⟨pc_blind, va_recv hKc hPc (ci := 7) (q0 := 0) rfl rfl, pc_pre hPc hKc hDc hN⟩ rfl rfl hl.1 rfl (lv_room (Nat.le_of_ble_eq_true rfl)) d_Md_minutes_83 ⟨Nat.le_of_ble_eq_true rfl, Nat.le_of_ble_eq_true rfl⟩) hS (fun q _ h => hFc q h) hFc (fun r u t H1 locs ht hvm er hB hz1 hk1 hS => ?_)
              subst er
              obtain ⟨hP1, hK1, hD1⟩ := hB
              rw [ht] at hP1
              have hK1 := va_K.moved hvm.symm hK1
              obtain ⟨hP, hD⟩ := va_join (wr := []) (w1 := [((a 0), .inr (7, [.int 0, .int 1440, .int 0, .ref (a 1), .int (-1), .ref (a 2), .ref (a 3), .ref (a 4), .ref (a 5), .ref (a 6), .ref (a 7), .ref (a 8), .ref (a 9), .ref (a 10), .ref (a 11), .ref (a 12), .ref (a 13), .ref (a 14), .ref (a 15), .ref (a 16), .ref (a 17), .int 0, .ref (a 18), .ref (a 19), .ref (a 20), .ref (a 21), .ref (a 22), .ref (a 23), .int 0, .int 0, .ref (a 24), .ref (a 25), .ref (a 26), .ref (a 27), .ref (a 28), .ref (a 29), .ref (a 30), .ref (a 31), .ref (a 32), .ref (a 33), .ref (a 34), .ref (a 35), .int 0, .int 0, .int 0, .int 0, .int 0, .int 0, .ref (a 36), .ref (a 37), .ref (a 38), .ref (a 39), .ref (a 40), .ref (a 41), .ref (a 42), .ref (a 43), .long 0, .long 0, .long 0, .ref (a 44), .int 0, .ref (a 45), .ref (a 46), .ref (a 47)])), ((a 12), .inl ((k 12), 40, .inl (fun _ => 0))), ((a 15), .inl ((k 15), 40, .inl (fun _ => 0))), ((a 44), .inl ((k 44), 500, .inr (.inl (fun _ => 0))))]) hP hD [0, 1, 2, 3] [] rfl rfl (by decide) (by decide) hk1 hFc hP1 hD1
              have hK := (hK.sub (tys' := []) [] rfl).app hK1
              generalize H1 = H at hP hS ⊢
              have hP : va_P (dC, dI) vwCl [((a 0), .inr (7, [.int 0, .int 1440, .int 0, .ref (a 1), .int (-1), .ref (a 2), .ref (a 3), .ref (a 4), .ref (a 5), .ref (a 6), .ref (a 7), .ref (a 8), .ref (a 9), .ref (a 10), .ref (a 11), .ref (a 12), .ref (a 13), .ref (a 14), .ref (a 15), .ref (a 16), .ref (a 17), .int 0, .ref (a 18), .ref (a 19), .ref (a 20), .ref (a 21), .ref (a 22), .ref (a 23), .int 0, .int 0, .ref (a 24), .ref (a 25), .ref (a 26), .ref (a 27), .ref (a 28), .ref (a 29), .ref (a 30), .ref (a 31), .ref (a 32), .ref (a 33), .ref (a 34), .ref (a 35), .int 0, .int 0, .int 0, .int 0, .int 0, .int 0, .ref (a 36), .ref (a 37), .ref (a 38), .ref (a 39), .ref (a 40), .ref (a 41), .ref (a 42), .ref (a 43), .long 0, .long 0, .long 0, .ref (a 44), .int 0, .ref (a 45), .ref (a 46), .ref (a 47)])), ((a 12), .inl ((k 12), 40, .inl (fun _ => 0))), ((a 15), .inl ((k 15), 40, .inl (fun _ => 0))), ((a 44), .inl ((k 44), 500, .inr (.inl (fun _ => 0))))] H := hP
              have hD : va_D A [((a 0), .inr (7, [.int 0, .int 1440, .int 0, .ref (a 1), .int (-1), .ref (a 2), .ref (a 3), .ref (a 4), .ref (a 5), .ref (a 6), .ref (a 7), .ref (a 8), .ref (a 9), .ref (a 10), .ref (a 11), .ref (a 12), .ref (a 13), .ref (a 14), .ref (a 15), .ref (a 16), .ref (a 17), .int 0, .ref (a 18), .ref (a 19), .ref (a 20), .ref (a 21), .ref (a 22), .ref (a 23), .int 0, .int 0, .ref (a 24), .ref (a 25), .ref (a 26), .ref (a 27), .ref (a 28), .ref (a 29), .ref (a 30), .ref (a 31), .ref (a 32), .ref (a 33), .ref (a 34), .ref (a 35), .int 0, .int 0, .int 0, .int 0, .int 0, .int 0, .ref (a 36), .ref (a 37), .ref (a 38), .ref (a 39), .ref (a 40), .ref (a 41), .ref (a 42), .ref (a 43), .long 0, .long 0, .long 0, .ref (a 44), .int 0, .ref (a 45), .ref (a 46), .ref (a 47)])), ((a 12), .inl ((k 12), 40, .inl (fun _ => 0))), ((a 15), .inl ((k 15), 40, .inl (fun _ => 0))), ((a 44), .inl ((k 44), 500, .inr (.inl (fun _ => 0))))] := hD
              have hK : va_K (dC, dI) vwCl [((k 12), .int), ((k 15), .boolean), ((k 44), .long)] s := hK
              refine hb_ti 2 rfl ?_
              refine lv_bipush (v := 100) hx hb d_Md_minutes_86 (by decide +kernel) ?_
              refine lv_irem hx hb d_Md_minutes_88 (by decide) ?_
              refine hb_ti 2 (by decide +kernel) ?_
              refine lv_if_ne (tgt := 100) hx hb d_Md_minutes_89 (by decide) (fun _ => ?_) (fun h => absurd h (by decide +kernel))
              refine lv_iinc (v := nI (1439 + 1)) (lv' := [(2, .int (nI (1439 + 1))), (0, .ref (a 0)), (1, .int p_0)]) hx hb d_Md_minutes_100 hl (k := 0) rfl (nI_1 1439) (by decide) rfl (fun ls hl => ?_)
              refine lv_goto (tgt := 27) hx hb d_Md_minutes_103 (by decide) ?_
              exact ih (1439 + 1) _ _ (by omega) (hP.sub [0, 2, 1, 3] rfl) (hD.sub [0, 2, 1, 3] (by decide) rfl) hS ls (lv_sub hl [0, 1, 2] rfl)
            · refine lv_aload_n hx hb d_Md_minutes_42 rfl (lv_at hl 1 rfl) ?_
              have hPc := hP.sub (ws' := [((a 0), .inr (7, [.int 0, .int (nI (j + 1)), .int 0, .ref (a 1), .int (-1), .ref (a 2), .ref (a 3), .ref (a 4), .ref (a 5), .ref (a 6), .ref (a 7), .ref (a 8), .ref (a 9), .ref (a 10), .ref (a 11), .ref (a 12), .ref (a 13), .ref (a 14), .ref (a 15), .ref (a 16), .ref (a 17), .int 0, .ref (a 18), .ref (a 19), .ref (a 20), .ref (a 21), .ref (a 22), .ref (a 23), .int 0, .int 0, .ref (a 24), .ref (a 25), .ref (a 26), .ref (a 27), .ref (a 28), .ref (a 29), .ref (a 30), .ref (a 31), .ref (a 32), .ref (a 33), .ref (a 34), .ref (a 35), .int 0, .int 0, .int 0, .int 0, .int 0, .int 0, .ref (a 36), .ref (a 37), .ref (a 38), .ref (a 39), .ref (a 40), .ref (a 41), .ref (a 42), .ref (a 43), .long 0, .long 0, .long 0, .ref (a 44), .int 0, .ref (a 45), .ref (a 46), .ref (a 47)])), ((a 12), .inl ((k 12), 40, .inl (fun _ => 0))), ((a 15), .inl ((k 15), 40, .inl (fun _ => 0))), ((a 44), .inl ((k 44), 500, .inr (.inl (fun _ => 0))))]) [0, 2, 1, 3] rfl
              have hDc := hD.sub (ws' := [((a 0), .inr (7, [.int 0, .int (nI (j + 1)), .int 0, .ref (a 1), .int (-1), .ref (a 2), .ref (a 3), .ref (a 4), .ref (a 5), .ref (a 6), .ref (a 7), .ref (a 8), .ref (a 9), .ref (a 10), .ref (a 11), .ref (a 12), .ref (a 13), .ref (a 14), .ref (a 15), .ref (a 16), .ref (a 17), .int 0, .ref (a 18), .ref (a 19), .ref (a 20), .ref (a 21), .ref (a 22), .ref (a 23), .int 0, .int 0, .ref (a 24), .ref (a 25), .ref (a 26), .ref (a 27), .ref (a 28), .ref (a 29), .ref (a 30), .ref (a 31), .ref (a 32), .ref (a 33), .ref (a 34), .ref (a 35), .int 0, .int 0, .int 0, .int 0, .int 0, .int 0, .ref (a 36), .ref (a 37), .ref (a 38), .ref (a 39), .ref (a 40), .ref (a 41), .ref (a 42), .ref (a 43), .long 0, .long 0, .long 0, .ref (a 44), .int 0, .ref (a 45), .ref (a 46), .ref (a 47)])), ((a 12), .inl ((k 12), 40, .inl (fun _ => 0))), ((a 15), .inl ((k 15), 40, .inl (fun _ => 0))), ((a 44), .inl ((k 44), 500, .inr (.inl (fun _ => 0))))]) [0, 2, 1, 3] (by decide) rfl
              have hKc := hK.sub (tys' := [((k 12), .int), ((k 15), .boolean), ((k 44), .long)]) [1, 0, 2] rfl
              have hFc := va_free (wc := [((a 0), .inr (7, [.int 0, .int (nI (j + 1)), .int 0, .ref (a 1), .int (-1), .ref (a 2), .ref (a 3), .ref (a 4), .ref (a 5), .ref (a 6), .ref (a 7), .ref (a 8), .ref (a 9), .ref (a 10), .ref (a 11), .ref (a 12), .ref (a 13), .ref (a 14), .ref (a 15), .ref (a 16), .ref (a 17), .int 0, .ref (a 18), .ref (a 19), .ref (a 20), .ref (a 21), .ref (a 22), .ref (a 23), .int 0, .int 0, .ref (a 24), .ref (a 25), .ref (a 26), .ref (a 27), .ref (a 28), .ref (a 29), .ref (a 30), .ref (a 31), .ref (a 32), .ref (a 33), .ref (a 34), .ref (a 35), .int 0, .int 0, .int 0, .int 0, .int 0, .int 0, .ref (a 36), .ref (a 37), .ref (a 38), .ref (a 39), .ref (a 40), .ref (a 41), .ref (a 42), .ref (a 43), .long 0, .long 0, .long 0, .ref (a 44), .int 0, .ref (a 45), .ref (a 46), .ref (a 47)])), ((a 12), .inl ((k 12), 40, .inl (fun _ => 0))), ((a 15), .inl ((k 15), 40, .inl (fun _ => 0))), ((a 44), .inl ((k 44), 500, .inr (.inl (fun _ => 0))))]) hD hS hA [0, 2, 1, 3] rfl
              refine va_callv (va_runV (As := []) (rest := []) ⟨hx, hb, hml, hown, htb⟩ (c_Md_arrive_c27 l dC dI (a 0) (a 1) (a 2) (a 3) (a 4) (a 5) (a 6) (a 7) (a 8) (a 9) (a 10) (a 11) (a 13) (a 14) (a 16) (a 17) (a 18) (a 19) (a 20) (a 21) (a 22) (a 23) (a 24) (a 25) (a 26) (a 27) (a 28) (a 29) (a 30) (a 31) (a 32) (a 33) (a 34) (a 35) (a 36) (a 37) (a 38) (a 39) (a 40) (a 41) (a 42) (a 43) (a 45) (a 46) (a 47) (a 12) (a 15) (a 44) (k 12) (k 15) (k 44) (nI (j + 1)) _) (cwV 0 htb (gd_V tw_363 tw_364 tw_365 tw_296 tw_362) rfl rfl rfl (by decide +kernel) ⟨Nat.le_of_ble_eq_true rfl, Nat.le_of_ble_eq_true rfl⟩) ⟨pc_blind, va_recv hKc hPc (ci := 7) (q0 := 0) rfl rfl, pc_pre hPc hKc hDc hN⟩ rfl rfl hl.1 rfl (lv_room (Nat.le_of_ble_eq_true rfl)) d_Md_minutes_43 ⟨Nat.le_of_ble_eq_true rfl, Nat.le_of_ble_eq_true rfl⟩) hS (fun q _ h => hFc q h) hFc (fun u t H1 locs ht hvm hw hB hz1 hk1 hS => ?_)
              obtain ⟨hP1, hK1, hD1⟩ := hB
              rw [ht] at hP1
              have hK1 := va_K.moved hvm.symm hK1
              obtain ⟨hP, hD⟩ := va_join (wr := []) (w1 := [((a 0), .inr (7, [.int 0, .int (nI (j + 1)), .int 0, .ref (a 1), .int (-1), .ref (a 2), .ref (a 3), .ref (a 4), .ref (a 5), .ref (a 6), .ref (a 7), .ref (a 8), .ref (a 9), .ref (a 10), .ref (a 11), .ref (a 12), .ref (a 13), .ref (a 14), .ref (a 15), .ref (a 16), .ref (a 17), .int 0, .ref (a 18), .ref (a 19), .ref (a 20), .ref (a 21), .ref (a 22), .ref (a 23), .int 0, .int 0, .ref (a 24), .ref (a 25), .ref (a 26), .ref (a 27), .ref (a 28), .ref (a 29), .ref (a 30), .ref (a 31), .ref (a 32), .ref (a 33), .ref (a 34), .ref (a 35), .int 0, .int 0, .int 0, .int 0, .int 0, .int 0, .ref (a 36), .ref (a 37), .ref (a 38), .ref (a 39), .ref (a 40), .ref (a 41), .ref (a 42), .ref (a 43), .long 0, .long 0, .long 0, .ref (a 44), .int 0, .ref (a 45), .ref (a 46), .ref (a 47)])), ((a 12), .inl ((k 12), 40, .inl (fun _ => 0))), ((a 15), .inl ((k 15), 40, .inl (fun _ => 0))), ((a 44), .inl ((k 44), 500, .inr (.inl (fun _ => 0))))]) hP hD [0, 2, 1, 3] [] rfl rfl (by decide) (by decide) hk1 hFc hP1 hD1
              have hK := (hK.sub (tys' := []) [] rfl).app hK1
              generalize H1 = H at hP hS ⊢
              have hP : va_P (dC, dI) vwCl [((a 0), .inr (7, [.int 0, .int (nI (j + 1)), .int 0, .ref (a 1), .int (-1), .ref (a 2), .ref (a 3), .ref (a 4), .ref (a 5), .ref (a 6), .ref (a 7), .ref (a 8), .ref (a 9), .ref (a 10), .ref (a 11), .ref (a 12), .ref (a 13), .ref (a 14), .ref (a 15), .ref (a 16), .ref (a 17), .int 0, .ref (a 18), .ref (a 19), .ref (a 20), .ref (a 21), .ref (a 22), .ref (a 23), .int 0, .int 0, .ref (a 24), .ref (a 25), .ref (a 26), .ref (a 27), .ref (a 28), .ref (a 29), .ref (a 30), .ref (a 31), .ref (a 32), .ref (a 33), .ref (a 34), .ref (a 35), .int 0, .int 0, .int 0, .int 0, .int 0, .int 0, .ref (a 36), .ref (a 37), .ref (a 38), .ref (a 39), .ref (a 40), .ref (a 41), .ref (a 42), .ref (a 43), .long 0, .long 0, .long 0, .ref (a 44), .int 0, .ref (a 45), .ref (a 46), .ref (a 47)])), ((a 12), .inl ((k 12), 40, .inl (fun _ => 0))), ((a 15), .inl ((k 15), 40, .inl (fun _ => 0))), ((a 44), .inl ((k 44), 500, .inr (.inl (fun _ => 0))))] H := hP
              have hD : va_D A [((a 0), .inr (7, [.int 0, .int (nI (j + 1)), .int 0, .ref (a 1), .int (-1), .ref (a 2), .ref (a 3), .ref (a 4), .ref (a 5), .ref (a 6), .ref (a 7), .ref (a 8), .ref (a 9), .ref (a 10), .ref (a 11), .ref (a 12), .ref (a 13), .ref (a 14), .ref (a 15), .ref (a 16), .ref (a 17), .int 0, .ref (a 18), .ref (a 19), .ref (a 20), .ref (a 21), .ref (a 22), .ref (a 23), .int 0, .int 0, .ref (a 24), .ref (a 25), .ref (a 26), .ref (a 27), .ref (a 28), .ref (a 29), .ref (a 30), .ref (a 31), .ref (a 32), .ref (a 33), .ref (a 34), .ref (a 35), .int 0, .int 0, .int 0, .int 0, .int 0, .int 0, .ref (a 36), .ref (a 37), .ref (a 38), .ref (a 39), .ref (a 40), .ref (a 41), .ref (a 42), .ref (a 43), .long 0, .long 0, .long 0, .ref (a 44), .int 0, .ref (a 45), .ref (a 46), .ref (a 47)])), ((a 12), .inl ((k 12), 40, .inl (fun _ => 0))), ((a 15), .inl ((k 15), 40, .inl (fun _ => 0))), ((a 44), .inl ((k 44), 500, .inr (.inl (fun _ => 0))))] := hD
              have hK : va_K (dC, dI) vwCl [((k 12), .int), ((k 15), .boolean), ((k 44), .long)] s := hK
              refine lv_aload_n hx hb d_Md_minutes_46 rfl (lv_at hl 1 rfl) ?_
              refine va_get (D := (dC, dI)) (ci := 7) (v := .int (nI (j + 1))) (C := R_Md) (T := F_Md) (N := 64) hx hb htb i_Md hown hK hP 0 rfl rfl 1 (by decide) (htb (.fieldLink R_Md 7 "WaterMenModel" "time" "I") tw_311) (fun _ h9 => h9) rfl d_Md_minutes_47 ?_
              refine lv_sipush (v := 720) hx hb d_Md_minutes_50 (by decide +kernel) ?_
              refine lv_irem hx hb d_Md_minutes_53 (by decide) ?_
              refine lv_if_eq (tgt := 60) hx hb d_Md_minutes_54 (by decide) (fun h => absurd h (show ¬ (nI (j + 1) - nI (j + 1) / 720 * 720 = 0) from by rw [show (720 : Int32) = nI 720 from rfl, pk_rem (by omega) (by omega) (by omega)]; exact nI_ne0 (by omega) (by omega))) (fun _ => ?_)
              refine lv_goto (tgt := 100) hx hb d_Md_minutes_57 (by decide) ?_
              refine lv_iinc (v := nI (j + 1)) (lv' := [(2, .int (nI (j + 1))), (0, .ref (a 0)), (1, .int p_0)]) hx hb d_Md_minutes_100 hl (k := 0) rfl (nI_1 j) (by decide) rfl (fun ls hl => ?_)
              refine lv_goto (tgt := 27) hx hb d_Md_minutes_103 (by decide) ?_
              exact ih (j + 1) _ _ (by omega) (hP.sub [0, 2, 1, 3] rfl) (hD.sub [0, 2, 1, 3] (by decide) rfl) hS ls (lv_sub hl [0, 1, 2] rfl)
      exact loop J 0 _ _ (by omega) hP hD hS ls (lv_sub hl [0, 1, 2] rfl)
def f_Md_sink (p_0 : Int32) (p_1 : Int32) (p_2 : Int32) : Int32 := if p_0 < 0 then ((-1)) else ((-1))
set_option maxHeartbeats 4000000 in
set_option maxRecDepth 100000 in
theorem c_Md_sink (l : Launch) (dC : Nat → ClassId) (dI : Nat → Nat → Nat) (a : Nat → Nat) (k : Nat → ClassId)  (p_0 : Int32) (p_1 : Int32) (p_2 : Int32)  : Met l y_Md_sink (.code y_Md_sink b_Md_sink 5 (some .int) :: TB) ({ frames := 2, cells := 0, slots := 0, locals := 43 }) (va_Pc [.ref (a 0), .int p_0, .int p_1, .int p_2] (PR dC dI (MW a k) (MT k))) (vp_Si (fun r => r = f_Md_sink p_0 p_1 p_2)) 0 0 (fun _ => False) := by
  refine Met.ofW (cc := b_Md_sink) (maxL := 5) (ret := (some .int)) (by decide) rfl ?_
  intro p e s m args below meth c s₁ B hml hv
  obtain ⟨rfl, hP, hK, hN⟩ := hv
  have hx := B.exec
  have hb := B.bytes
  have hr := B.returns
  have hts := atoms_spec (ws := (.code y_Md_sink b_Md_sink 5 (some .int) :: TB)) B.pre
  have htb := fun w (h : w ∈ TB) => hts w (List.mem_cons_of_mem _ h)
  have hown : s.vm.findClass R_Md = some m.cls := findClass_of_methodNamed B.named
  have hlocks := B.notSynchronized
  have hl := lv_entry ([.ref (a 0), .int p_0, .int p_1, .int p_2]) (n := 5) (Nat.le_of_ble_eq_true rfl)
  rw [lg_entry_eq]
  generalize (lg_sl ([.ref (a 0), .int p_0, .int p_1, .int p_2]) ++ List.replicate (5 - (lg_sl ([.ref (a 0), .int p_0, .int p_1, .int p_2])).length) Slot.unset).toArray = ls at hl ⊢
  have hl : lv_has ls 5 [(0, .ref (a 0)), (1, .int p_0), (2, .int p_1), (3, .int p_2)] := hl
  refine lv_aload_n hx hb d_Md_sink_0 rfl (lv_at hl 0 rfl) ?_
  refine lv_iload_n hx hb d_Md_sink_1 rfl (lv_at hl 1 rfl) ?_
  refine vp_callSi (va_Run.run (va_runV (As := [.int p_0]) (rest := []) ⟨hx, hb, hml, hown, htb⟩ (c_Md_isBoat l dC dI a k p_0) (cwV 1 htb (gd_V tw_333 tw_334 tw_335 tw_296 tw_332) rfl rfl rfl (by decide +kernel) ⟨Nat.le_of_ble_eq_true rfl, Nat.le_of_ble_eq_true rfl⟩) ⟨pr_blind, va_recv hK hP (ci := 7) (q0 := 0) rfl rfl, pr_pre hP hK hN⟩ rfl rfl hl.1 rfl (lv_room (Nat.le_of_ble_eq_true rfl)) d_Md_sink_2 ⟨Nat.le_of_ble_eq_true rfl, Nat.le_of_ble_eq_true rfl⟩)) (fun r er => ?_)
  subst er
  by_cases c_1 : p_0 < 0
  · refine hb_ti 0 (by unfold f_Md_isBoat; rw [if_pos c_1]) ?_
    refine lv_if_eq (tgt := 16) hx hb d_Md_sink_5 (by decide) (fun _ => ?_) (fun h => absurd (by decide +kernel) h)
    refine lv_iconst (v := (-1)) hx hb d_Md_sink_16 (by decide +kernel) ?_
    exact W.iret (v := (-1)) hx hb hr (fun t ht hW => ⟨(-1), rfl, (by unfold f_Md_sink; rw [if_pos c_1]), ht⟩) t_nil d_Md_sink_17
  · refine hb_ti 0 (by unfold f_Md_isBoat; rw [if_neg c_1]) ?_
    refine lv_if_eq (tgt := 16) hx hb d_Md_sink_5 (by decide) (fun _ => ?_) (fun h => absurd (by decide +kernel) h)
    refine lv_iconst (v := (-1)) hx hb d_Md_sink_16 (by decide +kernel) ?_
    exact W.iret (v := (-1)) hx hb hr (fun t ht hW => ⟨(-1), rfl, (by unfold f_Md_sink; rw [if_neg c_1]), ht⟩) t_nil d_Md_sink_17
def f_Md_trip (p_0 : Int32) (p_1 : Int32) : Int32 := if p_0 < 0 then ((-2)) else ((-2))
set_option maxHeartbeats 4000000 in
set_option maxRecDepth 100000 in
theorem c_Md_trip (l : Launch) (dC : Nat → ClassId) (dI : Nat → Nat → Nat) (a : Nat → Nat) (k : Nat → ClassId)  (p_0 : Int32) (p_1 : Int32)  : Met l y_Md_trip (.code y_Md_trip b_Md_trip 3 (some .int) :: TB) ({ frames := 1, cells := 0, slots := 0, locals := 22 }) (va_Pc [.ref (a 0), .int p_0, .int p_1] (PR dC dI (MW a k) (MT k))) (vp_Si (fun r => r = f_Md_trip p_0 p_1)) 0 0 (fun _ => False) := by
  refine Met.ofW (cc := b_Md_trip) (maxL := 3) (ret := (some .int)) (by decide) rfl ?_
  intro p e s m args below meth c s₁ B hml hv
  obtain ⟨rfl, hP, hK, hN⟩ := hv
  have hx := B.exec
  have hb := B.bytes
  have hr := B.returns
  have hts := atoms_spec (ws := (.code y_Md_trip b_Md_trip 3 (some .int) :: TB)) B.pre
  have htb := fun w (h : w ∈ TB) => hts w (List.mem_cons_of_mem _ h)
  have hown : s.vm.findClass R_Md = some m.cls := findClass_of_methodNamed B.named
  have hlocks := B.notSynchronized
  have hl := lv_entry ([.ref (a 0), .int p_0, .int p_1]) (n := 3) (Nat.le_of_ble_eq_true rfl)
  rw [lg_entry_eq]
  generalize (lg_sl ([.ref (a 0), .int p_0, .int p_1]) ++ List.replicate (3 - (lg_sl ([.ref (a 0), .int p_0, .int p_1])).length) Slot.unset).toArray = ls at hl ⊢
  have hl : lv_has ls 3 [(0, .ref (a 0)), (1, .int p_0), (2, .int p_1)] := hl
  refine lv_iload_n hx hb d_Md_trip_0 rfl (lv_at hl 1 rfl) ?_
  refine lv_iconst (v := 0) hx hb d_Md_trip_1 (by decide +kernel) ?_
  refine lv_aload_n hx hb d_Md_trip_2 rfl (lv_at hl 0 rfl) ?_
  refine va_get (D := (dC, dI)) (ci := 7) (v := .int 0) (C := R_Md) (T := F_Md) (N := 64) hx hb htb i_Md hown hK hP 0 rfl rfl 47 (by decide) (htb (.fieldLink R_Md 313 "WaterMenModel" "trips" "I") tw_372) (fun _ h9 => h9) rfl d_Md_trip_3 ?_
  refine lv_iconst (v := 1) hx hb d_Md_trip_6 (by decide +kernel) ?_
  refine lv_isub hx hb d_Md_trip_7 ?_
  refine hb_ti (-1) (by decide +kernel) ?_
  refine vp_callSi (va_Run.run (va_runS (As := [.int p_0, .int 0, .int (-1)]) (rest := []) ⟨hx, hb, hml, hown, htb⟩ (c_Md_in l p_0 0 (-1)) (cwS 3 htb (gd_S tw_297 tw_298 tw_296 tw_295) rfl rfl rfl (by decide +kernel) ⟨Nat.le_of_ble_eq_true rfl, Nat.le_of_ble_eq_true rfl⟩) ⟨fun _ _ _ _ h => h, fun U _ _ => ⟨rfl, trivial⟩⟩ rfl rfl hl.1 rfl (lv_room (Nat.le_of_ble_eq_true rfl)) d_Md_trip_8 ⟨Nat.le_of_ble_eq_true rfl, Nat.le_of_ble_eq_true rfl⟩)) (fun r er => ?_)
  subst er
  by_cases c_1 : p_0 < 0
  · refine hb_ti 0 (by unfold f_Md_in; rw [if_pos c_1]) ?_
    refine lv_if_ne (tgt := 17) hx hb d_Md_trip_11 (by decide) (fun h => absurd (by decide +kernel) h) (fun _ => ?_)
    refine lv_bipush (v := (-2)) hx hb d_Md_trip_14 (by decide +kernel) ?_
    exact W.iret (v := (-2)) hx hb hr (fun t ht hW => ⟨(-2), rfl, (by unfold f_Md_trip; rw [if_pos c_1]), ht⟩) t_nil d_Md_trip_16
  · refine hb_ti 0 (by unfold f_Md_in; rw [if_neg c_1, if_pos (show (-1) < p_0 from by have e0 := c_1; rw [Int32.lt_iff_toInt_lt] at e0; have z0 : ((-1) : Int32).toInt = -1 := (by decide +kernel); have z1 : (0 : Int32).toInt = 0 := (by decide +kernel); rw [Int32.lt_iff_toInt_lt]; omega)]) ?_
    refine lv_if_ne (tgt := 17) hx hb d_Md_trip_11 (by decide) (fun h => absurd (by decide +kernel) h) (fun _ => ?_)
    refine lv_bipush (v := (-2)) hx hb d_Md_trip_14 (by decide +kernel) ?_
    exact W.iret (v := (-2)) hx hb hr (fun t ht hW => ⟨(-2), rfl, (by unfold f_Md_trip; rw [if_neg c_1]), ht⟩) t_nil d_Md_trip_16
def f_Md_due (p_0 : Int32) (p_1 : Int32) : Int32 := if p_0 < 0 then ((-2)) else ((-2))
set_option maxHeartbeats 4000000 in
set_option maxRecDepth 100000 in
theorem c_Md_due (l : Launch) (dC : Nat → ClassId) (dI : Nat → Nat → Nat) (a : Nat → Nat) (k : Nat → ClassId)  (p_0 : Int32) (p_1 : Int32)  : Met l y_Md_due (.code y_Md_due b_Md_due 3 (some .int) :: TB) ({ frames := 1, cells := 0, slots := 0, locals := 22 }) (va_Pc [.ref (a 0), .int p_0, .int p_1] (PR dC dI (MW a k) (MT k))) (vp_Si (fun r => r = f_Md_due p_0 p_1)) 0 0 (fun _ => False) := by
  refine Met.ofW (cc := b_Md_due) (maxL := 3) (ret := (some .int)) (by decide) rfl ?_
  intro p e s m args below meth c s₁ B hml hv
  obtain ⟨rfl, hP, hK, hN⟩ := hv
  have hx := B.exec
  have hb := B.bytes
  have hr := B.returns
  have hts := atoms_spec (ws := (.code y_Md_due b_Md_due 3 (some .int) :: TB)) B.pre
  have htb := fun w (h : w ∈ TB) => hts w (List.mem_cons_of_mem _ h)
  have hown : s.vm.findClass R_Md = some m.cls := findClass_of_methodNamed B.named
  have hlocks := B.notSynchronized
  have hl := lv_entry ([.ref (a 0), .int p_0, .int p_1]) (n := 3) (Nat.le_of_ble_eq_true rfl)
  rw [lg_entry_eq]
  generalize (lg_sl ([.ref (a 0), .int p_0, .int p_1]) ++ List.replicate (3 - (lg_sl ([.ref (a 0), .int p_0, .int p_1])).length) Slot.unset).toArray = ls at hl ⊢
  have hl : lv_has ls 3 [(0, .ref (a 0)), (1, .int p_0), (2, .int p_1)] := hl
  refine lv_iload_n hx hb d_Md_due_0 rfl (lv_at hl 1 rfl) ?_
  refine lv_iconst (v := 0) hx hb d_Md_due_1 (by decide +kernel) ?_
  refine lv_aload_n hx hb d_Md_due_2 rfl (lv_at hl 0 rfl) ?_
  refine va_get (D := (dC, dI)) (ci := 7) (v := .int 0) (C := R_Md) (T := F_Md) (N := 64) hx hb htb i_Md hown hK hP 0 rfl rfl 47 (by decide) (htb (.fieldLink R_Md 313 "WaterMenModel" "trips" "I") tw_372) (fun _ h9 => h9) rfl d_Md_due_3 ?_
  refine lv_iconst (v := 1) hx hb d_Md_due_6 (by decide +kernel) ?_
  refine lv_isub hx hb d_Md_due_7 ?_
  refine hb_ti (-1) (by decide +kernel) ?_
  refine vp_callSi (va_Run.run (va_runS (As := [.int p_0, .int 0, .int (-1)]) (rest := []) ⟨hx, hb, hml, hown, htb⟩ (c_Md_in l p_0 0 (-1)) (cwS 3 htb (gd_S tw_297 tw_298 tw_296 tw_295) rfl rfl rfl (by decide +kernel) ⟨Nat.le_of_ble_eq_true rfl, Nat.le_of_ble_eq_true rfl⟩) ⟨fun _ _ _ _ h => h, fun U _ _ => ⟨rfl, trivial⟩⟩ rfl rfl hl.1 rfl (lv_room (Nat.le_of_ble_eq_true rfl)) d_Md_due_8 ⟨Nat.le_of_ble_eq_true rfl, Nat.le_of_ble_eq_true rfl⟩)) (fun r er => ?_)
  subst er
  by_cases c_1 : p_0 < 0
  · refine hb_ti 0 (by unfold f_Md_in; rw [if_pos c_1]) ?_
    refine lv_if_eq (tgt := 30) hx hb d_Md_due_11 (by decide) (fun _ => ?_) (fun h => absurd (by decide +kernel) h)
    refine lv_bipush (v := (-2)) hx hb d_Md_due_30 (by decide +kernel) ?_
    exact W.iret (v := (-2)) hx hb hr (fun t ht hW => ⟨(-2), rfl, (by unfold f_Md_due; rw [if_pos c_1]), ht⟩) t_nil d_Md_due_32
  · refine hb_ti 0 (by unfold f_Md_in; rw [if_neg c_1, if_pos (show (-1) < p_0 from by have e0 := c_1; rw [Int32.lt_iff_toInt_lt] at e0; have z0 : ((-1) : Int32).toInt = -1 := (by decide +kernel); have z1 : (0 : Int32).toInt = 0 := (by decide +kernel); rw [Int32.lt_iff_toInt_lt]; omega)]) ?_
    refine lv_if_eq (tgt := 30) hx hb d_Md_due_11 (by decide) (fun _ => ?_) (fun h => absurd (by decide +kernel) h)
    refine lv_bipush (v := (-2)) hx hb d_Md_due_30 (by decide +kernel) ?_
    exact W.iret (v := (-2)) hx hb hr (fun t ht hW => ⟨(-2), rfl, (by unfold f_Md_due; rw [if_neg c_1]), ht⟩) t_nil d_Md_due_32
def f_Md_over (p_0 : Int32) (p_1 : Int32) : Int32 := if p_0 < 0 then ((-1)) else (if 39 < p_0 then ((-1)) else (if p_1 < 0 then ((-1)) else (if 499 < p_1 then ((-1)) else (0))))
set_option maxHeartbeats 4000000 in
set_option maxRecDepth 100000 in
theorem c_Md_over (l : Launch) (dC : Nat → ClassId) (dI : Nat → Nat → Nat) (a : Nat → Nat) (k : Nat → ClassId)  (p_0 : Int32) (p_1 : Int32)  : Met l y_Md_over (.code y_Md_over b_Md_over 6 (some .int) :: TB) ({ frames := 2, cells := 0, slots := 0, locals := 42 }) (va_Pc [.ref (a 0), .int p_0, .int p_1] (PR dC dI (MW a k) (MT k))) (vp_Si (fun r => r = f_Md_over p_0 p_1)) 0 0 (fun _ => False) := by
  refine Met.ofW (cc := b_Md_over) (maxL := 6) (ret := (some .int)) (by decide) rfl ?_
  intro p e s m args below meth c s₁ B hml hv
  obtain ⟨rfl, hP, hK, hN⟩ := hv
  have hx := B.exec
  have hb := B.bytes
  have hr := B.returns
  have hts := atoms_spec (ws := (.code y_Md_over b_Md_over 6 (some .int) :: TB)) B.pre
  have htb := fun w (h : w ∈ TB) => hts w (List.mem_cons_of_mem _ h)
  have hown : s.vm.findClass R_Md = some m.cls := findClass_of_methodNamed B.named
  have hlocks := B.notSynchronized
  have hl := lv_entry ([.ref (a 0), .int p_0, .int p_1]) (n := 6) (Nat.le_of_ble_eq_true rfl)
  rw [lg_entry_eq]
  generalize (lg_sl ([.ref (a 0), .int p_0, .int p_1]) ++ List.replicate (6 - (lg_sl ([.ref (a 0), .int p_0, .int p_1])).length) Slot.unset).toArray = ls at hl ⊢
  have hl : lv_has ls 6 [(0, .ref (a 0)), (1, .int p_0), (2, .int p_1)] := hl
  refine lv_iload_n hx hb d_Md_over_0 rfl (lv_at hl 1 rfl) ?_
  refine vp_callSi (va_Run.run (va_runS (As := [.int p_0]) (rest := []) ⟨hx, hb, hml, hown, htb⟩ (c_Md_isMan l p_0) (cwS 1 htb (gd_S tw_317 tw_318 tw_296 tw_316) rfl rfl rfl (by decide +kernel) ⟨Nat.le_of_ble_eq_true rfl, Nat.le_of_ble_eq_true rfl⟩) ⟨fun _ _ _ _ h => h, fun U _ _ => ⟨rfl, trivial⟩⟩ rfl rfl hl.1 rfl (lv_room (Nat.le_of_ble_eq_true rfl)) d_Md_over_1 ⟨Nat.le_of_ble_eq_true rfl, Nat.le_of_ble_eq_true rfl⟩)) (fun r er => ?_)
  subst er
  by_cases c_1 : p_0 < 0
  · refine hb_ti 0 (by unfold f_Md_isMan; rw [if_pos c_1]) ?_
    refine lv_if_eq (tgt := 14) hx hb d_Md_over_4 (by decide) (fun _ => ?_) (fun h => absurd (by decide +kernel) h)
    refine lv_iconst (v := (-1)) hx hb d_Md_over_14 (by decide +kernel) ?_
    exact W.iret (v := (-1)) hx hb hr (fun t ht hW => ⟨(-1), rfl, (by unfold f_Md_over; rw [if_pos c_1]), ht⟩) t_nil d_Md_over_15
  · by_cases c_2 : 39 < p_0
    · refine hb_ti 0 (by unfold f_Md_isMan; rw [if_neg c_1, if_pos c_2]) ?_
      refine lv_if_eq (tgt := 14) hx hb d_Md_over_4 (by decide) (fun _ => ?_) (fun h => absurd (by decide +kernel) h)
      refine lv_iconst (v := (-1)) hx hb d_Md_over_14 (by decide +kernel) ?_
      exact W.iret (v := (-1)) hx hb hr (fun t ht hW => ⟨(-1), rfl, (by unfold f_Md_over; rw [if_neg c_1, if_pos c_2]), ht⟩) t_nil d_Md_over_15
    · refine hb_ti 1 (by unfold f_Md_isMan; rw [if_neg c_1, if_neg c_2]) ?_
      refine lv_if_eq (tgt := 14) hx hb d_Md_over_4 (by decide) (fun h => absurd h (by decide +kernel)) (fun _ => ?_)
      refine lv_iload_n hx hb d_Md_over_7 rfl (lv_at hl 2 rfl) ?_
      refine vp_callSi (va_Run.run (va_runS (As := [.int p_1]) (rest := []) ⟨hx, hb, hml, hown, htb⟩ (c_Md_isDay l p_1) (cwS 1 htb (gd_S tw_301 tw_302 tw_296 tw_300) rfl rfl rfl (by decide +kernel) ⟨Nat.le_of_ble_eq_true rfl, Nat.le_of_ble_eq_true rfl⟩) ⟨fun _ _ _ _ h => h, fun U _ _ => ⟨rfl, trivial⟩⟩ rfl rfl hl.1 rfl (lv_room (Nat.le_of_ble_eq_true rfl)) d_Md_over_8 ⟨Nat.le_of_ble_eq_true rfl, Nat.le_of_ble_eq_true rfl⟩)) (fun r er => ?_)
      subst er
      by_cases c_3 : p_1 < 0
      · refine hb_ti 0 (by unfold f_Md_isDay; rw [if_pos c_3]) ?_
        refine lv_if_ne (tgt := 16) hx hb d_Md_over_11 (by decide) (fun h => absurd (by decide +kernel) h) (fun _ => ?_)
        refine lv_iconst (v := (-1)) hx hb d_Md_over_14 (by decide +kernel) ?_
        exact W.iret (v := (-1)) hx hb hr (fun t ht hW => ⟨(-1), rfl, (by unfold f_Md_over; rw [if_neg c_1, if_neg c_2, if_pos c_3]), ht⟩) t_nil d_Md_over_15
      · by_cases c_4 : 499 < p_1
        · refine hb_ti 0 (by unfold f_Md_isDay; rw [if_neg c_3, if_pos c_4]) ?_
          refine lv_if_ne (tgt := 16) hx hb d_Md_over_11 (by decide) (fun h => absurd (by decide +kernel) h) (fun _ => ?_)
          refine lv_iconst (v := (-1)) hx hb d_Md_over_14 (by decide +kernel) ?_
          exact W.iret (v := (-1)) hx hb hr (fun t ht hW => ⟨(-1), rfl, (by unfold f_Md_over; rw [if_neg c_1, if_neg c_2, if_neg c_3, if_pos c_4]), ht⟩) t_nil d_Md_over_15
        · refine hb_ti 1 (by unfold f_Md_isDay; rw [if_neg c_3, if_neg c_4]) ?_
          refine lv_if_ne (tgt := 16) hx hb d_Md_over_11 (by decide) (fun _ => ?_) (fun h => absurd h (by decide +kernel))
          refine lv_iconst (v := 0) hx hb d_Md_over_16 (by decide +kernel) ?_
          refine lv_istore_n (lv' := [(3, .int 0), (0, .ref (a 0)), (1, .int p_0), (2, .int p_1)]) hx hb d_Md_over_17 rfl hl (by decide) rfl (fun ls hl => ?_)
          refine lv_iconst (v := 0) hx hb d_Md_over_18 (by decide +kernel) ?_
          refine lv_istore (lv' := [(4, .int 0), (3, .int 0), (0, .ref (a 0)), (1, .int p_0), (2, .int p_1)]) hx hb d_Md_over_19 hl (by decide) rfl (fun ls hl => ?_)
          refine lv_iload hx hb d_Md_over_21 (lv_at hl 0 rfl) ?_
          refine lv_aload_n hx hb d_Md_over_23 rfl (lv_at hl 2 rfl) ?_
          refine va_get (D := (dC, dI)) (ci := 7) (v := .int 0) (C := R_Md) (T := F_Md) (N := 64) hx hb htb i_Md hown hK hP 0 rfl rfl 47 (by decide) (htb (.fieldLink R_Md 313 "WaterMenModel" "trips" "I") tw_372) (fun _ h9 => h9) rfl d_Md_over_24 ?_
          refine lv_icmp_ge (tgt := 93) hx hb d_Md_over_27 (by decide) (fun _ => ?_) (fun h => absurd (by decide +kernel) h)
          refine lv_iload_n hx hb d_Md_over_93 rfl (lv_at hl 1 rfl) ?_
          exact W.iret (v := 0) hx hb hr (fun t ht hW => ⟨0, rfl, (by unfold f_Md_over; rw [if_neg c_1, if_neg c_2, if_neg c_3, if_neg c_4]), ht⟩) t_nil d_Md_over_94
def f_Md_isPension (p_0 : Int32) (p_1 : Int32) : Int32 := if p_0 < 1 then (0) else (if 10000 < p_0 then (0) else (if p_1 < 0 then (0) else (if 9999 < p_1 then (0) else (1))))
set_option maxHeartbeats 4000000 in
set_option maxRecDepth 100000 in
theorem c_Md_isPension (l : Launch)  (p_0 : Int32) (p_1 : Int32)  : Met l y_Md_isPension (.code y_Md_isPension b_Md_isPension 2 (some .boolean) :: TB) ({ frames := 1, cells := 0, slots := 0, locals := 22 }) (va_Pc [.int p_0, .int p_1] (fun _ => True)) (vp_Si (fun r => r = f_Md_isPension p_0 p_1)) 0 0 (fun _ => False) := by
  refine Met.ofW (cc := b_Md_isPension) (maxL := 2) (ret := (some .boolean)) (by decide) rfl ?_
  intro p e s m args below meth c s₁ B hml hv
  obtain ⟨rfl, -⟩ := hv
  have hx := B.exec
  have hb := B.bytes
  have hr := B.returns
  have hts := atoms_spec (ws := (.code y_Md_isPension b_Md_isPension 2 (some .boolean) :: TB)) B.pre
  have htb := fun w (h : w ∈ TB) => hts w (List.mem_cons_of_mem _ h)
  have hown : s.vm.findClass R_Md = some m.cls := findClass_of_methodNamed B.named
  have hlocks := B.notSynchronized
  have hl := lv_entry ([.int p_0, .int p_1]) (n := 2) (Nat.le_of_ble_eq_true rfl)
  rw [lg_entry_eq]
  generalize (lg_sl ([.int p_0, .int p_1]) ++ List.replicate (2 - (lg_sl ([.int p_0, .int p_1])).length) Slot.unset).toArray = ls at hl ⊢
  have hl : lv_has ls 2 [(0, .int p_0), (1, .int p_1)] := hl
  refine lv_iload_n hx hb d_Md_isPension_0 rfl (lv_at hl 0 rfl) ?_
  refine lv_iconst (v := 1) hx hb d_Md_isPension_1 (by decide +kernel) ?_
  refine lv_sipush (v := 10000) hx hb d_Md_isPension_2 (by decide +kernel) ?_
  refine vp_callSi (va_Run.run (va_runS (As := [.int p_0, .int 1, .int 10000]) (rest := []) ⟨hx, hb, hml, hown, htb⟩ (c_Md_in l p_0 1 10000) (cwS 3 htb (gd_S tw_297 tw_298 tw_296 tw_295) rfl rfl rfl (by decide +kernel) ⟨Nat.le_of_ble_eq_true rfl, Nat.le_of_ble_eq_true rfl⟩) ⟨fun _ _ _ _ h => h, fun U _ _ => ⟨rfl, trivial⟩⟩ rfl rfl hl.1 rfl (lv_room (Nat.le_of_ble_eq_true rfl)) d_Md_isPension_5 ⟨Nat.le_of_ble_eq_true rfl, Nat.le_of_ble_eq_true rfl⟩)) (fun r er => ?_)
  subst er
  by_cases c_1 : p_0 < 1
  · refine hb_ti 0 (by unfold f_Md_in; rw [if_pos c_1]) ?_
    refine lv_if_eq (tgt := 26) hx hb d_Md_isPension_8 (by decide) (fun _ => ?_) (fun h => absurd (by decide +kernel) h)
    refine lv_iconst (v := 0) hx hb d_Md_isPension_26 (by decide +kernel) ?_
    exact W.zret (v := 0) hx hb hr (by decide +kernel) (fun t ht hW => ⟨0, rfl, (by unfold f_Md_isPension; rw [if_pos c_1]), ht⟩) t_nil d_Md_isPension_27
  · by_cases c_2 : 10000 < p_0
    · refine hb_ti 0 (by unfold f_Md_in; rw [if_neg c_1, if_pos c_2]) ?_
      refine lv_if_eq (tgt := 26) hx hb d_Md_isPension_8 (by decide) (fun _ => ?_) (fun h => absurd (by decide +kernel) h)
      refine lv_iconst (v := 0) hx hb d_Md_isPension_26 (by decide +kernel) ?_
      exact W.zret (v := 0) hx hb hr (by decide +kernel) (fun t ht hW => ⟨0, rfl, (by unfold f_Md_isPension; rw [if_neg c_1, if_pos c_2]), ht⟩) t_nil d_Md_isPension_27
    · refine hb_ti 1 (by unfold f_Md_in; rw [if_neg c_1, if_neg c_2]) ?_
      refine lv_if_eq (tgt := 26) hx hb d_Md_isPension_8 (by decide) (fun h => absurd h (by decide +kernel)) (fun _ => ?_)
      refine lv_iload_n hx hb d_Md_isPension_11 rfl (lv_at hl 1 rfl) ?_
      refine lv_iconst (v := 0) hx hb d_Md_isPension_12 (by decide +kernel) ?_
      refine lv_sipush (v := 9999) hx hb d_Md_isPension_13 (by decide +kernel) ?_
      refine vp_callSi (va_Run.run (va_runS (As := [.int p_1, .int 0, .int 9999]) (rest := []) ⟨hx, hb, hml, hown, htb⟩ (c_Md_in l p_1 0 9999) (cwS 3 htb (gd_S tw_297 tw_298 tw_296 tw_295) rfl rfl rfl (by decide +kernel) ⟨Nat.le_of_ble_eq_true rfl, Nat.le_of_ble_eq_true rfl⟩) ⟨fun _ _ _ _ h => h, fun U _ _ => ⟨rfl, trivial⟩⟩ rfl rfl hl.1 rfl (lv_room (Nat.le_of_ble_eq_true rfl)) d_Md_isPension_16 ⟨Nat.le_of_ble_eq_true rfl, Nat.le_of_ble_eq_true rfl⟩)) (fun r er => ?_)
      subst er
      by_cases c_3 : p_1 < 0
      · refine hb_ti 0 (by unfold f_Md_in; rw [if_pos c_3]) ?_
        refine lv_if_eq (tgt := 26) hx hb d_Md_isPension_19 (by decide) (fun _ => ?_) (fun h => absurd (by decide +kernel) h)
        refine lv_iconst (v := 0) hx hb d_Md_isPension_26 (by decide +kernel) ?_
        exact W.zret (v := 0) hx hb hr (by decide +kernel) (fun t ht hW => ⟨0, rfl, (by unfold f_Md_isPension; rw [if_neg c_1, if_neg c_2, if_pos c_3]), ht⟩) t_nil d_Md_isPension_27
      · by_cases c_4 : 9999 < p_1
        · refine hb_ti 0 (by unfold f_Md_in; rw [if_neg c_3, if_pos c_4]) ?_
          refine lv_if_eq (tgt := 26) hx hb d_Md_isPension_19 (by decide) (fun _ => ?_) (fun h => absurd (by decide +kernel) h)
          refine lv_iconst (v := 0) hx hb d_Md_isPension_26 (by decide +kernel) ?_
          exact W.zret (v := 0) hx hb hr (by decide +kernel) (fun t ht hW => ⟨0, rfl, (by unfold f_Md_isPension; rw [if_neg c_1, if_neg c_2, if_neg c_3, if_pos c_4]), ht⟩) t_nil d_Md_isPension_27
        · refine hb_ti 1 (by unfold f_Md_in; rw [if_neg c_3, if_neg c_4]) ?_
          refine lv_if_eq (tgt := 26) hx hb d_Md_isPension_19 (by decide) (fun h => absurd h (by decide +kernel)) (fun _ => ?_)
          refine lv_iconst (v := 1) hx hb d_Md_isPension_22 (by decide +kernel) ?_
          refine lv_goto (tgt := 27) hx hb d_Md_isPension_23 (by decide) ?_
          exact W.zret (v := 1) hx hb hr (by decide +kernel) (fun t ht hW => ⟨1, rfl, (by unfold f_Md_isPension; rw [if_neg c_1, if_neg c_2, if_neg c_3, if_neg c_4]), ht⟩) t_nil d_Md_isPension_27
def f_Md_newPensioner (p_0 : Int32) (p_1 : Int32) : Int32 := 0
set_option maxHeartbeats 4000000 in
set_option maxRecDepth 100000 in
theorem c_Md_newPensioner (l : Launch) (dC : Nat → ClassId) (dI : Nat → Nat → Nat) (a : Nat → Nat) (k : Nat → ClassId) (sz : Nat) (p_0 : Int32) (p_1 : Int32)  : Met l y_Md_newPensioner (.code y_Md_newPensioner b_Md_newPensioner 3 (some .int) :: TB) ({ frames := 0, cells := 0, slots := 0, locals := 0 }) (va_Pc [.ref (a 0), .int p_0, .int p_1] (PC dC dI (MW a k) (MT k) sz)) (va_Qi (fun r (_ : Unit) => r = f_Md_newPensioner p_0 p_1) (fun (_ : Unit) (_ : State) => True) (va_A (MW a k) sz)) 0 0 (va_A (MW a k) sz) := by
  refine Met.ofW (cc := b_Md_newPensioner) (maxL := 3) (ret := (some .int)) (by decide) rfl ?_
  intro p e s m args below meth c s₁ B hml hv
  obtain ⟨rfl, hsz, hP, hK, hD0, hN⟩ := hv
  have hx := B.exec
  have hb := B.bytes
  have hr := B.returns
  have hts := atoms_spec (ws := (.code y_Md_newPensioner b_Md_newPensioner 3 (some .int) :: TB)) B.pre
  have htb := fun w (h : w ∈ TB) => hts w (List.mem_cons_of_mem _ h)
  have hown : s.vm.findClass R_Md = some m.cls := findClass_of_methodNamed B.named
  have hlocks := B.notSynchronized
  have hl := lv_entry ([.ref (a 0), .int p_0, .int p_1]) (n := 3) (Nat.le_of_ble_eq_true rfl)
  rw [lg_entry_eq]
  generalize (lg_sl ([.ref (a 0), .int p_0, .int p_1]) ++ List.replicate (3 - (lg_sl ([.ref (a 0), .int p_0, .int p_1])).length) Slot.unset).toArray = ls at hl ⊢
  have hl : lv_has ls 3 [(0, .ref (a 0)), (1, .int p_0), (2, .int p_1)] := hl
  subst hsz
  have hD := hD0.self (sz := s.heap.size)
  obtain ⟨A, hAe⟩ : ∃ A, va_A (MW a k) s.heap.size = A := ⟨_, rfl⟩
  rw [hAe] at hD
  have hA : ∀ q : Nat, s.heap.size ≤ q → A q := fun q h => by rw [← hAe]; exact Or.inr h
  have hS : va_S A s.heap s.heap [] := va_S.rf
  have hP := hP
  refine lv_aload_n hx hb d_Md_newPensioner_0 rfl (lv_at hl 0 rfl) ?_
  refine va_get (D := (dC, dI)) (ci := 7) (v := .ref (a 45)) (C := R_Md) (T := F_Md) (N := 64) hx hb htb i_Md hown hK hP 0 rfl rfl 61 (by decide) (htb (.fieldLink R_Md 177 "WaterMenModel" "pensionOf" "[I") tw_52) (fun _ h9 => h9) rfl d_Md_newPensioner_1 ?_
  refine lv_aload_n hx hb d_Md_newPensioner_4 rfl (lv_at hl 0 rfl) ?_
  refine va_get (D := (dC, dI)) (ci := 7) (v := .int 0) (C := R_Md) (T := F_Md) (N := 64) hx hb htb i_Md hown hK hP 0 rfl rfl 60 (by decide) (htb (.fieldLink R_Md 323 "WaterMenModel" "pensioners" "I") tw_376) (fun _ h9 => h9) rfl d_Md_newPensioner_5 ?_
  refine lv_iload_n hx hb d_Md_newPensioner_8 rfl (lv_at hl 1 rfl) ?_
  refine va_iast hx hb hK hP hD hS 45 44 rfl rfl (by unfold vp_in; decide +kernel) d_Md_newPensioner_9 (fun H locs hP hD hS => ?_)
  refine lv_aload_n hx hb d_Md_newPensioner_10 rfl (lv_at hl 0 rfl) ?_
  refine va_get (D := (dC, dI)) (ci := 7) (v := .ref (a 46)) (C := R_Md) (T := F_Md) (N := 64) hx hb htb i_Md hown hK hP 0 rfl rfl 62 (by decide) (htb (.fieldLink R_Md 180 "WaterMenModel" "pensionEnd" "[I") tw_53) (fun _ h9 => h9) rfl d_Md_newPensioner_11 ?_
  refine lv_aload_n hx hb d_Md_newPensioner_14 rfl (lv_at hl 0 rfl) ?_
  refine va_get (D := (dC, dI)) (ci := 7) (v := .int 0) (C := R_Md) (T := F_Md) (N := 64) hx hb htb i_Md hown hK hP 0 rfl rfl 60 (by decide) (htb (.fieldLink R_Md 323 "WaterMenModel" "pensioners" "I") tw_376) (fun _ h9 => h9) rfl d_Md_newPensioner_15 ?_
  refine lv_iload_n hx hb d_Md_newPensioner_18 rfl (lv_at hl 2 rfl) ?_
  refine va_iast hx hb hK hP hD hS 46 45 rfl rfl (by unfold vp_in; decide +kernel) d_Md_newPensioner_19 (fun H locs hP hD hS => ?_)
  refine lv_aload_n hx hb d_Md_newPensioner_20 rfl (lv_at hl 0 rfl) ?_
  refine lv_dup hx hb d_Md_newPensioner_21 rfl ?_
  refine va_get (D := (dC, dI)) (ci := 7) (v := .int 0) (C := R_Md) (T := F_Md) (N := 64) hx hb htb i_Md hown hK hP 0 rfl rfl 60 (by decide) (htb (.fieldLink R_Md 323 "WaterMenModel" "pensioners" "I") tw_376) (fun _ h9 => h9) rfl d_Md_newPensioner_22 ?_
  refine lv_iconst (v := 1) hx hb d_Md_newPensioner_25 (by decide +kernel) ?_
  refine lv_iadd hx hb d_Md_newPensioner_26 ?_
  refine hb_ti 1 (by decide +kernel) ?_
  refine va_put (D := (dC, dI)) (ci := 7) (v := .int 1) (ty := .int) (C := R_Md) (T := F_Md) (N := 64) hx hb htb i_Md t_Md t_Md_ok n_Md hown hK hP hD hS 0 rfl rfl 60 (by decide) (htb (.fieldLink R_Md 323 "WaterMenModel" "pensioners" "I") tw_376) (fun _ h9 => h9) rfl (by decide +kernel) rfl rfl (Nat.le_of_ble_eq_true rfl) d_Md_newPensioner_27 (fun H locs hP hD hS => ?_)
  refine lv_aload_n hx hb d_Md_newPensioner_30 rfl (lv_at hl 0 rfl) ?_
  refine va_get (D := (dC, dI)) (ci := 7) (v := .int 1) (C := R_Md) (T := F_Md) (N := 64) hx hb htb i_Md hown hK hP 0 rfl rfl 60 (by decide) (htb (.fieldLink R_Md 323 "WaterMenModel" "pensioners" "I") tw_376) (fun _ h9 => h9) rfl d_Md_newPensioner_31 ?_
  refine lv_iconst (v := 1) hx hb d_Md_newPensioner_34 (by decide +kernel) ?_
  refine lv_isub hx hb d_Md_newPensioner_35 ?_
  refine hb_ti 0 (by decide +kernel) ?_
  refine W.widen (k := 0) (n := 0) (Nat.le_of_ble_eq_true rfl) (Nat.le_of_ble_eq_true rfl) ?_
  exact W.iret (v := 0) hx hb hr (fun t ht hW => ⟨⟨0, (), rfl, rfl, trivial⟩, by rw [hAe]; exact hS.F ht⟩) (by rw [hAe]; exact hS.2.2) d_Md_newPensioner_36
def f_Md_pension (p_0 : Int32) (p_1 : Int32) : Int32 := if p_0 < 1 then ((-1)) else (if 10000 < p_0 then ((-1)) else (if p_1 < 0 then ((-1)) else (if 9999 < p_1 then ((-1)) else (0))))
set_option maxHeartbeats 4000000 in
set_option maxRecDepth 100000 in
theorem c_Md_pension (l : Launch) (dC : Nat → ClassId) (dI : Nat → Nat → Nat) (a : Nat → Nat) (k : Nat → ClassId) (sz : Nat) (p_0 : Int32) (p_1 : Int32)  : Met l y_Md_pension (.code y_Md_pension b_Md_pension 3 (some .int) :: TB) ({ frames := 2, cells := 0, slots := 0, locals := 43 }) (va_Pc [.ref (a 0), .int p_0, .int p_1] (PC dC dI (MW a k) (MT k) sz)) (va_Qi (fun r (_ : Unit) => r = f_Md_pension p_0 p_1) (fun (_ : Unit) (_ : State) => True) (va_A (MW a k) sz)) 0 0 (va_A (MW a k) sz) := by
  refine Met.ofW (cc := b_Md_pension) (maxL := 3) (ret := (some .int)) (by decide) rfl ?_
  intro p e s m args below meth c s₁ B hml hv
  obtain ⟨rfl, hsz, hP, hK, hD0, hN⟩ := hv
  have hx := B.exec
  have hb := B.bytes
  have hr := B.returns
  have hts := atoms_spec (ws := (.code y_Md_pension b_Md_pension 3 (some .int) :: TB)) B.pre
  have htb := fun w (h : w ∈ TB) => hts w (List.mem_cons_of_mem _ h)
  have hown : s.vm.findClass R_Md = some m.cls := findClass_of_methodNamed B.named
  have hlocks := B.notSynchronized
  have hl := lv_entry ([.ref (a 0), .int p_0, .int p_1]) (n := 3) (Nat.le_of_ble_eq_true rfl)
  rw [lg_entry_eq]
  generalize (lg_sl ([.ref (a 0), .int p_0, .int p_1]) ++ List.replicate (3 - (lg_sl ([.ref (a 0), .int p_0, .int p_1])).length) Slot.unset).toArray = ls at hl ⊢
  have hl : lv_has ls 3 [(0, .ref (a 0)), (1, .int p_0), (2, .int p_1)] := hl
  subst hsz
  have hD := hD0.self (sz := s.heap.size)
  obtain ⟨A, hAe⟩ : ∃ A, va_A (MW a k) s.heap.size = A := ⟨_, rfl⟩
  rw [hAe] at hD
  have hA : ∀ q : Nat, s.heap.size ≤ q → A q := fun q h => by rw [← hAe]; exact Or.inr h
  have hS : va_S A s.heap s.heap [] := va_S.rf
  have hP := hP
  refine lv_iload_n hx hb d_Md_pension_0 rfl (lv_at hl 1 rfl) ?_
  refine lv_iload_n hx hb d_Md_pension_1 rfl (lv_at hl 2 rfl) ?_
  refine vp_callSi (va_Run.run (va_runS (As := [.int p_0, .int p_1]) (rest := []) ⟨hx, hb, hml, hown, htb⟩ (c_Md_isPension l p_0 p_1) (cwS 2 htb (gd_S tw_374 tw_375 tw_296 tw_373) rfl rfl rfl (by decide +kernel) ⟨Nat.le_of_ble_eq_true rfl, Nat.le_of_ble_eq_true rfl⟩) ⟨fun _ _ _ _ h => h, fun U _ _ => ⟨rfl, trivial⟩⟩ rfl rfl hl.1 rfl (lv_room (Nat.le_of_ble_eq_true rfl)) d_Md_pension_2 ⟨Nat.le_of_ble_eq_true rfl, Nat.le_of_ble_eq_true rfl⟩)) (fun r er => ?_)
  subst er
  by_cases c_1 : p_0 < 1
  · refine hb_ti 0 (by unfold f_Md_isPension; rw [if_pos c_1]) ?_
    refine lv_if_ne (tgt := 10) hx hb d_Md_pension_5 (by decide) (fun h => absurd (by decide +kernel) h) (fun _ => ?_)
    refine lv_iconst (v := (-1)) hx hb d_Md_pension_8 (by decide +kernel) ?_
    refine W.widen (k := 0) (n := 0) (Nat.le_of_ble_eq_true rfl) (Nat.le_of_ble_eq_true rfl) ?_
    exact W.iret (v := (-1)) hx hb hr (fun t ht hW => ⟨⟨(-1), (), rfl, (by unfold f_Md_pension; rw [if_pos c_1]), trivial⟩, by rw [hAe]; exact hS.F ht⟩) (by rw [hAe]; exact hS.2.2) d_Md_pension_9
  · by_cases c_2 : 10000 < p_0
    · refine hb_ti 0 (by unfold f_Md_isPension; rw [if_neg c_1, if_pos c_2]) ?_
      refine lv_if_ne (tgt := 10) hx hb d_Md_pension_5 (by decide) (fun h => absurd (by decide +kernel) h) (fun _ => ?_)
      refine lv_iconst (v := (-1)) hx hb d_Md_pension_8 (by decide +kernel) ?_
      refine W.widen (k := 0) (n := 0) (Nat.le_of_ble_eq_true rfl) (Nat.le_of_ble_eq_true rfl) ?_
      exact W.iret (v := (-1)) hx hb hr (fun t ht hW => ⟨⟨(-1), (), rfl, (by unfold f_Md_pension; rw [if_neg c_1, if_pos c_2]), trivial⟩, by rw [hAe]; exact hS.F ht⟩) (by rw [hAe]; exact hS.2.2) d_Md_pension_9
    · by_cases c_3 : p_1 < 0
      · refine hb_ti 0 (by unfold f_Md_isPension; rw [if_neg c_1, if_neg c_2, if_pos c_3]) ?_
        refine lv_if_ne (tgt := 10) hx hb d_Md_pension_5 (by decide) (fun h => absurd (by decide +kernel) h) (fun _ => ?_)
        refine lv_iconst (v := (-1)) hx hb d_Md_pension_8 (by decide +kernel) ?_
        refine W.widen (k := 0) (n := 0) (Nat.le_of_ble_eq_true rfl) (Nat.le_of_ble_eq_true rfl) ?_
        exact W.iret (v := (-1)) hx hb hr (fun t ht hW => ⟨⟨(-1), (), rfl, (by unfold f_Md_pension; rw [if_neg c_1, if_neg c_2, if_pos c_3]), trivial⟩, by rw [hAe]; exact hS.F ht⟩) (by rw [hAe]; exact hS.2.2) d_Md_pension_9
      · by_cases c_4 : 9999 < p_1
        · refine hb_ti 0 (by unfold f_Md_isPension; rw [if_neg c_1, if_neg c_2, if_neg c_3, if_pos c_4]) ?_
          refine lv_if_ne (tgt := 10) hx hb d_Md_pension_5 (by decide) (fun h => absurd (by decide +kernel) h) (fun _ => ?_)
          refine lv_iconst (v := (-1)) hx hb d_Md_pension_8 (by decide +kernel) ?_
          refine W.widen (k := 0) (n := 0) (Nat.le_of_ble_eq_true rfl) (Nat.le_of_ble_eq_true rfl) ?_
          exact W.iret (v := (-1)) hx hb hr (fun t ht hW => ⟨⟨(-1), (), rfl, (by unfold f_Md_pension; rw [if_neg c_1, if_neg c_2, if_neg c_3, if_pos c_4]), trivial⟩, by rw [hAe]; exact hS.F ht⟩) (by rw [hAe]; exact hS.2.2) d_Md_pension_9
        · refine hb_ti 1 (by unfold f_Md_isPension; rw [if_neg c_1, if_neg c_2, if_neg c_3, if_neg c_4]) ?_
          refine lv_if_ne (tgt := 10) hx hb d_Md_pension_5 (by decide) (fun _ => ?_) (fun h => absurd h (by decide +kernel))
          refine lv_aload_n hx hb d_Md_pension_10 rfl (lv_at hl 0 rfl) ?_
          refine va_get (D := (dC, dI)) (ci := 7) (v := .int 0) (C := R_Md) (T := F_Md) (N := 64) hx hb htb i_Md hown hK hP 0 rfl rfl 60 (by decide) (htb (.fieldLink R_Md 323 "WaterMenModel" "pensioners" "I") tw_376) (fun _ h9 => h9) rfl d_Md_pension_11 ?_
          refine lv_bipush (v := 30) hx hb d_Md_pension_14 (by decide +kernel) ?_
          refine lv_icmp_ne (tgt := 24) hx hb d_Md_pension_16 (by decide) (fun _ => ?_) (fun h => absurd h (by decide +kernel))
          refine lv_aload_n hx hb d_Md_pension_24 rfl (lv_at hl 0 rfl) ?_
          refine lv_iload_n hx hb d_Md_pension_25 rfl (lv_at hl 1 rfl) ?_
          refine lv_iload_n hx hb d_Md_pension_26 rfl (lv_at hl 2 rfl) ?_
          have hFc := hb_free hD hS hA
          refine va_calli (va_runV (As := [.int p_0, .int p_1]) (rest := []) ⟨hx, hb, hml, hown, htb⟩ (c_Md_newPensioner l dC dI a k _ p_0 p_1) (cwV 2 htb (gd_V tw_378 tw_379 tw_380 tw_296 tw_377) rfl rfl rfl (by decide +kernel) ⟨Nat.le_of_ble_eq_true rfl, Nat.le_of_ble_eq_true rfl⟩) ⟨pc_blind, va_recv hK hP (ci := 7) (q0 := 0) rfl rfl, pc_pre hP hK hD hN⟩ rfl rfl hl.1 rfl (lv_room (Nat.le_of_ble_eq_true rfl)) d_Md_pension_27 ⟨Nat.le_of_ble_eq_true rfl, Nat.le_of_ble_eq_true rfl⟩) hS (fun q _ h => hFc q h) hFc (fun r u t H1 locs ht hvm er hB hz1 hk1 hS => ?_)
          subst er
          refine hb_ti 0 rfl ?_
          refine W.widen (k := 0) (n := 0) (Nat.le_of_ble_eq_true rfl) (Nat.le_of_ble_eq_true rfl) ?_
          exact W.iret (v := 0) hx hb hr (fun t ht hW => ⟨⟨0, (), rfl, (by unfold f_Md_pension; rw [if_neg c_1, if_neg c_2, if_neg c_3, if_neg c_4]), trivial⟩, by rw [hAe]; exact hS.F ht⟩) (by rw [hAe]; exact hS.2.2) d_Md_pension_30
def f_Md_foretold  : Int32 := (-2)
set_option maxHeartbeats 4000000 in
set_option maxRecDepth 100000 in
theorem c_Md_foretold (l : Launch) (dC : Nat → ClassId) (dI : Nat → Nat → Nat) (a : Nat → Nat) (k : Nat → ClassId)    : Met l y_Md_foretold (.code y_Md_foretold b_Md_foretold 8 (some .int) :: TB) ({ frames := 1, cells := 0, slots := 0, locals := 20 }) (va_Pc [.ref (a 0)] (PR dC dI (MW a k) (MT k))) (vp_Si (fun r => r = f_Md_foretold)) 0 0 (fun _ => False) := by
  refine Met.ofW (cc := b_Md_foretold) (maxL := 8) (ret := (some .int)) (by decide) rfl ?_
  intro p e s m args below meth c s₁ B hml hv
  obtain ⟨rfl, hP, hK, hN⟩ := hv
  have hx := B.exec
  have hb := B.bytes
  have hr := B.returns
  have hts := atoms_spec (ws := (.code y_Md_foretold b_Md_foretold 8 (some .int) :: TB)) B.pre
  have htb := fun w (h : w ∈ TB) => hts w (List.mem_cons_of_mem _ h)
  have hown : s.vm.findClass R_Md = some m.cls := findClass_of_methodNamed B.named
  have hlocks := B.notSynchronized
  have hl := lv_entry ([.ref (a 0)]) (n := 8) (Nat.le_of_ble_eq_true rfl)
  rw [lg_entry_eq]
  generalize (lg_sl ([.ref (a 0)]) ++ List.replicate (8 - (lg_sl ([.ref (a 0)])).length) Slot.unset).toArray = ls at hl ⊢
  have hl : lv_has ls 8 [(0, .ref (a 0))] := hl
  refine lv_lconst (v := 0) hx hb d_Md_foretold_0 (by decide +kernel) ?_
  refine lv_lstore_n (lv' := [(1, .long 0), (0, .ref (a 0))]) hx hb d_Md_foretold_1 rfl hl (by decide) rfl (fun ls hl => ?_)
  refine lv_aload_n hx hb d_Md_foretold_2 rfl (lv_at hl 1 rfl) ?_
  refine vp_callSi (va_Run.run (va_runV (As := []) (rest := []) ⟨hx, hb, hml, hown, htb⟩ (c_Md_today l dC dI a k) (cwV 0 htb (gd_V tw_313 tw_314 tw_315 tw_296 tw_312) rfl rfl rfl (by decide +kernel) ⟨Nat.le_of_ble_eq_true rfl, Nat.le_of_ble_eq_true rfl⟩) ⟨pr_blind, va_recv hK hP (ci := 7) (q0 := 0) rfl rfl, pr_pre hP hK hN⟩ rfl rfl hl.1 rfl (lv_room (Nat.le_of_ble_eq_true rfl)) d_Md_foretold_3 ⟨Nat.le_of_ble_eq_true rfl, Nat.le_of_ble_eq_true rfl⟩)) (fun r er => ?_)
  subst er
  refine hb_ti 0 rfl ?_
  refine lv_bipush (v := 100) hx hb d_Md_foretold_6 (by decide +kernel) ?_
  refine lv_icmp_ge (tgt := 15) hx hb d_Md_foretold_8 (by decide) (fun h => absurd h (by decide +kernel)) (fun _ => ?_)
  refine lv_iconst (v := 0) hx hb d_Md_foretold_11 (by decide +kernel) ?_
  refine lv_goto (tgt := 22) hx hb d_Md_foretold_12 (by decide) ?_
  refine lv_istore_n (lv' := [(3, .int 0), (1, .long 0), (0, .ref (a 0))]) hx hb d_Md_foretold_22 rfl hl (by decide) rfl (fun ls hl => ?_)
  refine lv_iload_n hx hb d_Md_foretold_23 rfl (lv_at hl 0 rfl) ?_
  refine lv_aload_n hx hb d_Md_foretold_24 rfl (lv_at hl 2 rfl) ?_
  refine vp_callSi (va_Run.run (va_runV (As := []) (rest := [.int 0]) ⟨hx, hb, hml, hown, htb⟩ (c_Md_today l dC dI a k) (cwV 0 htb (gd_V tw_313 tw_314 tw_315 tw_296 tw_312) rfl rfl rfl (by decide +kernel) ⟨Nat.le_of_ble_eq_true rfl, Nat.le_of_ble_eq_true rfl⟩) ⟨pr_blind, va_recv hK hP (ci := 7) (q0 := 0) rfl rfl, pr_pre hP hK hN⟩ rfl rfl hl.1 rfl (lv_room (Nat.le_of_ble_eq_true rfl)) d_Md_foretold_25 ⟨Nat.le_of_ble_eq_true rfl, Nat.le_of_ble_eq_true rfl⟩)) (fun r er => ?_)
  subst er
  refine hb_ti 0 rfl ?_
  refine lv_icmp_gt (tgt := 46) hx hb d_Md_foretold_28 (by decide) (fun h => absurd h (by decide +kernel)) (fun _ => ?_)
  refine lv_lload_n hx hb d_Md_foretold_31 rfl (lv_at hl 1 rfl) ?_
  refine lv_aload_n hx hb d_Md_foretold_32 rfl (lv_at hl 2 rfl) ?_
  refine va_get (D := (dC, dI)) (ci := 7) (v := .ref (a 44)) (C := R_Md) (T := F_Md) (N := 64) hx hb htb i_Md hown hK hP 0 rfl rfl 59 (by decide) (htb (.fieldLink R_Md 173 "WaterMenModel" "boxIn" "[J") tw_51) (fun _ h9 => h9) rfl d_Md_foretold_33 ?_
  refine lv_iload_n hx hb d_Md_foretold_36 rfl (lv_at hl 0 rfl) ?_
  refine va_lald hx hb hK hP 44 43 rfl rfl (by unfold vp_in; decide +kernel) d_Md_foretold_37 ?_
  refine hb_tl 0 rfl ?_
  refine lv_ladd hx hb d_Md_foretold_38 ?_
  refine hb_tl 0 (by decide +kernel) ?_
  refine lv_lstore_n (lv' := [(1, .long 0), (3, .int 0), (0, .ref (a 0))]) hx hb d_Md_foretold_39 rfl hl (by decide) rfl (fun ls hl => ?_)
  refine lv_iinc (v := 1) (lv' := [(3, .int 1), (1, .long 0), (0, .ref (a 0))]) hx hb d_Md_foretold_40 hl (k := 1) rfl (by decide +kernel) (by decide) rfl (fun ls hl => ?_)
  refine lv_goto (tgt := 23) hx hb d_Md_foretold_43 (by decide) ?_
  refine lv_iload_n hx hb d_Md_foretold_23 rfl (lv_at hl 0 rfl) ?_
  refine lv_aload_n hx hb d_Md_foretold_24 rfl (lv_at hl 2 rfl) ?_
  refine vp_callSi (va_Run.run (va_runV (As := []) (rest := [.int 1]) ⟨hx, hb, hml, hown, htb⟩ (c_Md_today l dC dI a k) (cwV 0 htb (gd_V tw_313 tw_314 tw_315 tw_296 tw_312) rfl rfl rfl (by decide +kernel) ⟨Nat.le_of_ble_eq_true rfl, Nat.le_of_ble_eq_true rfl⟩) ⟨pr_blind, va_recv hK hP (ci := 7) (q0 := 0) rfl rfl, pr_pre hP hK hN⟩ rfl rfl hl.1 rfl (lv_room (Nat.le_of_ble_eq_true rfl)) d_Md_foretold_25 ⟨Nat.le_of_ble_eq_true rfl, Nat.le_of_ble_eq_true rfl⟩)) (fun r er => ?_)
  subst er
  refine hb_ti 0 rfl ?_
  refine lv_icmp_gt (tgt := 46) hx hb d_Md_foretold_28 (by decide) (fun _ => ?_) (fun h => absurd (by decide +kernel) h)
  refine lv_aload_n hx hb d_Md_foretold_46 rfl (lv_at hl 2 rfl) ?_
  refine va_get (D := (dC, dI)) (ci := 7) (v := .long 0) (C := R_Md) (T := F_Md) (N := 64) hx hb htb i_Md hown hK hP 0 rfl rfl 56 (by decide) (htb (.fieldLink R_Md 316 "WaterMenModel" "box" "J") tw_366) (fun _ h9 => h9) rfl d_Md_foretold_47 ?_
  refine lv_lstore_n (lv' := [(3, .long 0), (1, .long 0), (0, .ref (a 0))]) hx hb d_Md_foretold_50 rfl hl (by decide) rfl (fun ls hl => ?_)
  refine lv_iconst (v := 1) hx hb d_Md_foretold_51 (by decide +kernel) ?_
  refine lv_istore (lv' := [(5, .int 1), (3, .long 0), (1, .long 0), (0, .ref (a 0))]) hx hb d_Md_foretold_52 hl (by decide) rfl (fun ls hl => ?_)
  refine lv_iload hx hb d_Md_foretold_54 (lv_at hl 0 rfl) ?_
  refine lv_bipush (v := 40) hx hb d_Md_foretold_56 (by decide +kernel) ?_
  refine lv_icmp_gt (tgt := 146) hx hb d_Md_foretold_58 (by decide) (fun h => absurd h (by decide +kernel)) (fun _ => ?_)
  refine lv_aload_n hx hb d_Md_foretold_61 rfl (lv_at hl 3 rfl) ?_
  refine vp_callSi (va_Run.run (va_runV (As := []) (rest := []) ⟨hx, hb, hml, hown, htb⟩ (c_Md_today l dC dI a k) (cwV 0 htb (gd_V tw_313 tw_314 tw_315 tw_296 tw_312) rfl rfl rfl (by decide +kernel) ⟨Nat.le_of_ble_eq_true rfl, Nat.le_of_ble_eq_true rfl⟩) ⟨pr_blind, va_recv hK hP (ci := 7) (q0 := 0) rfl rfl, pr_pre hP hK hN⟩ rfl rfl hl.1 rfl (lv_room (Nat.le_of_ble_eq_true rfl)) d_Md_foretold_62 ⟨Nat.le_of_ble_eq_true rfl, Nat.le_of_ble_eq_true rfl⟩)) (fun r er => ?_)
  subst er
  refine hb_ti 0 rfl ?_
  refine lv_bipush (v := 100) hx hb d_Md_foretold_65 (by decide +kernel) ?_
  refine lv_idiv hx hb d_Md_foretold_67 (by decide) ?_
  refine hb_ti 0 (by decide +kernel) ?_
  refine lv_iload hx hb d_Md_foretold_68 (lv_at hl 0 rfl) ?_
  refine lv_iadd hx hb d_Md_foretold_70 ?_
  refine hb_ti 1 (by decide +kernel) ?_
  refine lv_bipush (v := 100) hx hb d_Md_foretold_71 (by decide +kernel) ?_
  refine lv_imul hx hb d_Md_foretold_73 ?_
  refine hb_ti 100 (by decide +kernel) ?_
  refine lv_istore (lv' := [(6, .int 100), (5, .int 1), (3, .long 0), (1, .long 0), (0, .ref (a 0))]) hx hb d_Md_foretold_74 hl (by decide) rfl (fun ls hl => ?_)
  refine lv_lload_n hx hb d_Md_foretold_76 rfl (lv_at hl 2 rfl) ?_
  refine lv_lload_n hx hb d_Md_foretold_77 rfl (lv_at hl 3 rfl) ?_
  refine lv_ladd hx hb d_Md_foretold_78 ?_
  refine hb_tl 0 (by decide +kernel) ?_
  refine lv_lstore_n (lv' := [(3, .long 0), (6, .int 100), (5, .int 1), (1, .long 0), (0, .ref (a 0))]) hx hb d_Md_foretold_79 rfl hl (by decide) rfl (fun ls hl => ?_)
  refine lv_iconst (v := 0) hx hb d_Md_foretold_80 (by decide +kernel) ?_
  refine lv_istore (lv' := [(7, .int 0), (3, .long 0), (6, .int 100), (5, .int 1), (1, .long 0), (0, .ref (a 0))]) hx hb d_Md_foretold_81 hl (by decide) rfl (fun ls hl => ?_)
  refine lv_iload hx hb d_Md_foretold_83 (lv_at hl 0 rfl) ?_
  refine lv_aload_n hx hb d_Md_foretold_85 rfl (lv_at hl 5 rfl) ?_
  refine va_get (D := (dC, dI)) (ci := 7) (v := .int 0) (C := R_Md) (T := F_Md) (N := 64) hx hb htb i_Md hown hK hP 0 rfl rfl 60 (by decide) (htb (.fieldLink R_Md 323 "WaterMenModel" "pensioners" "I") tw_376) (fun _ h9 => h9) rfl d_Md_foretold_86 ?_
  refine lv_icmp_ge (tgt := 140) hx hb d_Md_foretold_89 (by decide) (fun _ => ?_) (fun h => absurd (by decide +kernel) h)
  refine lv_iinc (v := 2) (lv' := [(5, .int 2), (7, .int 0), (3, .long 0), (6, .int 100), (1, .long 0), (0, .ref (a 0))]) hx hb d_Md_foretold_140 hl (k := 3) rfl (by decide +kernel) (by decide) rfl (fun ls hl => ?_)
  refine lv_goto (tgt := 54) hx hb d_Md_foretold_143 (by decide) ?_
  refine lv_iload hx hb d_Md_foretold_54 (lv_at hl 0 rfl) ?_
  refine lv_bipush (v := 40) hx hb d_Md_foretold_56 (by decide +kernel) ?_
  refine lv_icmp_gt (tgt := 146) hx hb d_Md_foretold_58 (by decide) (fun h => absurd h (by decide +kernel)) (fun _ => ?_)
  refine lv_aload_n hx hb d_Md_foretold_61 rfl (lv_at hl 5 rfl) ?_
  refine vp_callSi (va_Run.run (va_runV (As := []) (rest := []) ⟨hx, hb, hml, hown, htb⟩ (c_Md_today l dC dI a k) (cwV 0 htb (gd_V tw_313 tw_314 tw_315 tw_296 tw_312) rfl rfl rfl (by decide +kernel) ⟨Nat.le_of_ble_eq_true rfl, Nat.le_of_ble_eq_true rfl⟩) ⟨pr_blind, va_recv hK hP (ci := 7) (q0 := 0) rfl rfl, pr_pre hP hK hN⟩ rfl rfl hl.1 rfl (lv_room (Nat.le_of_ble_eq_true rfl)) d_Md_foretold_62 ⟨Nat.le_of_ble_eq_true rfl, Nat.le_of_ble_eq_true rfl⟩)) (fun r er => ?_)
  subst er
  refine hb_ti 0 rfl ?_
  refine lv_bipush (v := 100) hx hb d_Md_foretold_65 (by decide +kernel) ?_
  refine lv_idiv hx hb d_Md_foretold_67 (by decide) ?_
  refine hb_ti 0 (by decide +kernel) ?_
  refine lv_iload hx hb d_Md_foretold_68 (lv_at hl 0 rfl) ?_
  refine lv_iadd hx hb d_Md_foretold_70 ?_
  refine hb_ti 2 (by decide +kernel) ?_
  refine lv_bipush (v := 100) hx hb d_Md_foretold_71 (by decide +kernel) ?_
  refine lv_imul hx hb d_Md_foretold_73 ?_
  refine hb_ti 200 (by decide +kernel) ?_
  refine lv_istore (lv' := [(6, .int 200), (5, .int 2), (7, .int 0), (3, .long 0), (1, .long 0), (0, .ref (a 0))]) hx hb d_Md_foretold_74 hl (by decide) rfl (fun ls hl => ?_)
  refine lv_lload_n hx hb d_Md_foretold_76 rfl (lv_at hl 3 rfl) ?_
  refine lv_lload_n hx hb d_Md_foretold_77 rfl (lv_at hl 4 rfl) ?_
  refine lv_ladd hx hb d_Md_foretold_78 ?_
  refine hb_tl 0 (by decide +kernel) ?_
  refine lv_lstore_n (lv' := [(3, .long 0), (6, .int 200), (5, .int 2), (7, .int 0), (1, .long 0), (0, .ref (a 0))]) hx hb d_Md_foretold_79 rfl hl (by decide) rfl (fun ls hl => ?_)
  refine lv_iconst (v := 0) hx hb d_Md_foretold_80 (by decide +kernel) ?_
  refine lv_istore (lv' := [(7, .int 0), (3, .long 0), (6, .int 200), (5, .int 2), (1, .long 0), (0, .ref (a 0))]) hx hb d_Md_foretold_81 hl (by decide) rfl (fun ls hl => ?_)
  refine lv_iload hx hb d_Md_foretold_83 (lv_at hl 0 rfl) ?_
  refine lv_aload_n hx hb d_Md_foretold_85 rfl (lv_at hl 5 rfl) ?_
  refine va_get (D := (dC, dI)) (ci := 7) (v := .int 0) (C := R_Md) (T := F_Md) (N := 64) hx hb htb i_Md hown hK hP 0 rfl rfl 60 (by decide) (htb (.fieldLink R_Md 323 "WaterMenModel" "pensioners" "I") tw_376) (fun _ h9 => h9) rfl d_Md_foretold_86 ?_
  refine lv_icmp_ge (tgt := 140) hx hb d_Md_foretold_89 (by decide) (fun _ => ?_) (fun h => absurd (by decide +kernel) h)
  refine lv_iinc (v := 3) (lv' := [(5, .int 3), (7, .int 0), (3, .long 0), (6, .int 200), (1, .long 0), (0, .ref (a 0))]) hx hb d_Md_foretold_140 hl (k := 3) rfl (by decide +kernel) (by decide) rfl (fun ls hl => ?_)
  refine lv_goto (tgt := 54) hx hb d_Md_foretold_143 (by decide) ?_
  refine lv_iload hx hb d_Md_foretold_54 (lv_at hl 0 rfl) ?_
  refine lv_bipush (v := 40) hx hb d_Md_foretold_56 (by decide +kernel) ?_
  refine lv_icmp_gt (tgt := 146) hx hb d_Md_foretold_58 (by decide) (fun h => absurd h (by decide +kernel)) (fun _ => ?_)
  refine lv_aload_n hx hb d_Md_foretold_61 rfl (lv_at hl 5 rfl) ?_
  refine vp_callSi (va_Run.run (va_runV (As := []) (rest := []) ⟨hx, hb, hml, hown, htb⟩ (c_Md_today l dC dI a k) (cwV 0 htb (gd_V tw_313 tw_314 tw_315 tw_296 tw_312) rfl rfl rfl (by decide +kernel) ⟨Nat.le_of_ble_eq_true rfl, Nat.le_of_ble_eq_true rfl⟩) ⟨pr_blind, va_recv hK hP (ci := 7) (q0 := 0) rfl rfl, pr_pre hP hK hN⟩ rfl rfl hl.1 rfl (lv_room (Nat.le_of_ble_eq_true rfl)) d_Md_foretold_62 ⟨Nat.le_of_ble_eq_true rfl, Nat.le_of_ble_eq_true rfl⟩)) (fun r er => ?_)
  subst er
  refine hb_ti 0 rfl ?_
  refine lv_bipush (v := 100) hx hb d_Md_foretold_65 (by decide +kernel) ?_
  refine lv_idiv hx hb d_Md_foretold_67 (by decide) ?_
  refine hb_ti 0 (by decide +kernel) ?_
  refine lv_iload hx hb d_Md_foretold_68 (lv_at hl 0 rfl) ?_
  refine lv_iadd hx hb d_Md_foretold_70 ?_
  refine hb_ti 3 (by decide +kernel) ?_
  refine lv_bipush (v := 100) hx hb d_Md_foretold_71 (by decide +kernel) ?_
  refine lv_imul hx hb d_Md_foretold_73 ?_
  refine hb_ti 300 (by decide +kernel) ?_
  refine lv_istore (lv' := [(6, .int 300), (5, .int 3), (7, .int 0), (3, .long 0), (1, .long 0), (0, .ref (a 0))]) hx hb d_Md_foretold_74 hl (by decide) rfl (fun ls hl => ?_)
  refine lv_lload_n hx hb d_Md_foretold_76 rfl (lv_at hl 3 rfl) ?_
  refine lv_lload_n hx hb d_Md_foretold_77 rfl (lv_at hl 4 rfl) ?_
  refine lv_ladd hx hb d_Md_foretold_78 ?_
  refine hb_tl 0 (by decide +kernel) ?_
  refine lv_lstore_n (lv' := [(3, .long 0), (6, .int 300), (5, .int 3), (7, .int 0), (1, .long 0), (0, .ref (a 0))]) hx hb d_Md_foretold_79 rfl hl (by decide) rfl (fun ls hl => ?_)
  refine lv_iconst (v := 0) hx hb d_Md_foretold_80 (by decide +kernel) ?_
  refine lv_istore (lv' := [(7, .int 0), (3, .long 0), (6, .int 300), (5, .int 3), (1, .long 0), (0, .ref (a 0))]) hx hb d_Md_foretold_81 hl (by decide) rfl (fun ls hl => ?_)
  refine lv_iload hx hb d_Md_foretold_83 (lv_at hl 0 rfl) ?_
  refine lv_aload_n hx hb d_Md_foretold_85 rfl (lv_at hl 5 rfl) ?_
  refine va_get (D := (dC, dI)) (ci := 7) (v := .int 0) (C := R_Md) (T := F_Md) (N := 64) hx hb htb i_Md hown hK hP 0 rfl rfl 60 (by decide) (htb (.fieldLink R_Md 323 "WaterMenModel" "pensioners" "I") tw_376) (fun _ h9 => h9) rfl d_Md_foretold_86 ?_
  refine lv_icmp_ge (tgt := 140) hx hb d_Md_foretold_89 (by decide) (fun _ => ?_) (fun h => absurd (by decide +kernel) h)
  refine lv_iinc (v := 4) (lv' := [(5, .int 4), (7, .int 0), (3, .long 0), (6, .int 300), (1, .long 0), (0, .ref (a 0))]) hx hb d_Md_foretold_140 hl (k := 3) rfl (by decide +kernel) (by decide) rfl (fun ls hl => ?_)
  refine lv_goto (tgt := 54) hx hb d_Md_foretold_143 (by decide) ?_
  refine lv_iload hx hb d_Md_foretold_54 (lv_at hl 0 rfl) ?_
  refine lv_bipush (v := 40) hx hb d_Md_foretold_56 (by decide +kernel) ?_
  refine lv_icmp_gt (tgt := 146) hx hb d_Md_foretold_58 (by decide) (fun h => absurd h (by decide +kernel)) (fun _ => ?_)
  refine lv_aload_n hx hb d_Md_foretold_61 rfl (lv_at hl 5 rfl) ?_
  refine vp_callSi (va_Run.run (va_runV (As := []) (rest := []) ⟨hx, hb, hml, hown, htb⟩ (c_Md_today l dC dI a k) (cwV 0 htb (gd_V tw_313 tw_314 tw_315 tw_296 tw_312) rfl rfl rfl (by decide +kernel) ⟨Nat.le_of_ble_eq_true rfl, Nat.le_of_ble_eq_true rfl⟩) ⟨pr_blind, va_recv hK hP (ci := 7) (q0 := 0) rfl rfl, pr_pre hP hK hN⟩ rfl rfl hl.1 rfl (lv_room (Nat.le_of_ble_eq_true rfl)) d_Md_foretold_62 ⟨Nat.le_of_ble_eq_true rfl, Nat.le_of_ble_eq_true rfl⟩)) (fun r er => ?_)
  subst er
  refine hb_ti 0 rfl ?_
  refine lv_bipush (v := 100) hx hb d_Md_foretold_65 (by decide +kernel) ?_
  refine lv_idiv hx hb d_Md_foretold_67 (by decide) ?_
  refine hb_ti 0 (by decide +kernel) ?_
  refine lv_iload hx hb d_Md_foretold_68 (lv_at hl 0 rfl) ?_
  refine lv_iadd hx hb d_Md_foretold_70 ?_
  refine hb_ti 4 (by decide +kernel) ?_
  refine lv_bipush (v := 100) hx hb d_Md_foretold_71 (by decide +kernel) ?_
  refine lv_imul hx hb d_Md_foretold_73 ?_
  refine hb_ti 400 (by decide +kernel) ?_
  refine lv_istore (lv' := [(6, .int 400), (5, .int 4), (7, .int 0), (3, .long 0), (1, .long 0), (0, .ref (a 0))]) hx hb d_Md_foretold_74 hl (by decide) rfl (fun ls hl => ?_)
  refine lv_lload_n hx hb d_Md_foretold_76 rfl (lv_at hl 3 rfl) ?_
  refine lv_lload_n hx hb d_Md_foretold_77 rfl (lv_at hl 4 rfl) ?_
  refine lv_ladd hx hb d_Md_foretold_78 ?_
  refine hb_tl 0 (by decide +kernel) ?_
  refine lv_lstore_n (lv' := [(3, .long 0), (6, .int 400), (5, .int 4), (7, .int 0), (1, .long 0), (0, .ref (a 0))]) hx hb d_Md_foretold_79 rfl hl (by decide) rfl (fun ls hl => ?_)
  refine lv_iconst (v := 0) hx hb d_Md_foretold_80 (by decide +kernel) ?_
  refine lv_istore (lv' := [(7, .int 0), (3, .long 0), (6, .int 400), (5, .int 4), (1, .long 0), (0, .ref (a 0))]) hx hb d_Md_foretold_81 hl (by decide) rfl (fun ls hl => ?_)
  refine lv_iload hx hb d_Md_foretold_83 (lv_at hl 0 rfl) ?_
  refine lv_aload_n hx hb d_Md_foretold_85 rfl (lv_at hl 5 rfl) ?_
  refine va_get (D := (dC, dI)) (ci := 7) (v := .int 0) (C := R_Md) (T := F_Md) (N := 64) hx hb htb i_Md hown hK hP 0 rfl rfl 60 (by decide) (htb (.fieldLink R_Md 323 "WaterMenModel" "pensioners" "I") tw_376) (fun _ h9 => h9) rfl d_Md_foretold_86 ?_
  refine lv_icmp_ge (tgt := 140) hx hb d_Md_foretold_89 (by decide) (fun _ => ?_) (fun h => absurd (by decide +kernel) h)
  refine lv_iinc (v := 5) (lv' := [(5, .int 5), (7, .int 0), (3, .long 0), (6, .int 400), (1, .long 0), (0, .ref (a 0))]) hx hb d_Md_foretold_140 hl (k := 3) rfl (by decide +kernel) (by decide) rfl (fun ls hl => ?_)
  refine lv_goto (tgt := 54) hx hb d_Md_foretold_143 (by decide) ?_
  refine lv_iload hx hb d_Md_foretold_54 (lv_at hl 0 rfl) ?_
  refine lv_bipush (v := 40) hx hb d_Md_foretold_56 (by decide +kernel) ?_
  refine lv_icmp_gt (tgt := 146) hx hb d_Md_foretold_58 (by decide) (fun h => absurd h (by decide +kernel)) (fun _ => ?_)
  refine lv_aload_n hx hb d_Md_foretold_61 rfl (lv_at hl 5 rfl) ?_
  refine vp_callSi (va_Run.run (va_runV (As := []) (rest := []) ⟨hx, hb, hml, hown, htb⟩ (c_Md_today l dC dI a k) (cwV 0 htb (gd_V tw_313 tw_314 tw_315 tw_296 tw_312) rfl rfl rfl (by decide +kernel) ⟨Nat.le_of_ble_eq_true rfl, Nat.le_of_ble_eq_true rfl⟩) ⟨pr_blind, va_recv hK hP (ci := 7) (q0 := 0) rfl rfl, pr_pre hP hK hN⟩ rfl rfl hl.1 rfl (lv_room (Nat.le_of_ble_eq_true rfl)) d_Md_foretold_62 ⟨Nat.le_of_ble_eq_true rfl, Nat.le_of_ble_eq_true rfl⟩)) (fun r er => ?_)
  subst er
  refine hb_ti 0 rfl ?_
  refine lv_bipush (v := 100) hx hb d_Md_foretold_65 (by decide +kernel) ?_
  refine lv_idiv hx hb d_Md_foretold_67 (by decide) ?_
  refine hb_ti 0 (by decide +kernel) ?_
  refine lv_iload hx hb d_Md_foretold_68 (lv_at hl 0 rfl) ?_
  refine lv_iadd hx hb d_Md_foretold_70 ?_
  refine hb_ti 5 (by decide +kernel) ?_
  refine lv_bipush (v := 100) hx hb d_Md_foretold_71 (by decide +kernel) ?_
  refine lv_imul hx hb d_Md_foretold_73 ?_
  refine hb_ti 500 (by decide +kernel) ?_
  refine lv_istore (lv' := [(6, .int 500), (5, .int 5), (7, .int 0), (3, .long 0), (1, .long 0), (0, .ref (a 0))]) hx hb d_Md_foretold_74 hl (by decide) rfl (fun ls hl => ?_)
  refine lv_lload_n hx hb d_Md_foretold_76 rfl (lv_at hl 3 rfl) ?_
  refine lv_lload_n hx hb d_Md_foretold_77 rfl (lv_at hl 4 rfl) ?_
  refine lv_ladd hx hb d_Md_foretold_78 ?_
  refine hb_tl 0 (by decide +kernel) ?_
  refine lv_lstore_n (lv' := [(3, .long 0), (6, .int 500), (5, .int 5), (7, .int 0), (1, .long 0), (0, .ref (a 0))]) hx hb d_Md_foretold_79 rfl hl (by decide) rfl (fun ls hl => ?_)
  refine lv_iconst (v := 0) hx hb d_Md_foretold_80 (by decide +kernel) ?_
  refine lv_istore (lv' := [(7, .int 0), (3, .long 0), (6, .int 500), (5, .int 5), (1, .long 0), (0, .ref (a 0))]) hx hb d_Md_foretold_81 hl (by decide) rfl (fun ls hl => ?_)
  refine lv_iload hx hb d_Md_foretold_83 (lv_at hl 0 rfl) ?_
  refine lv_aload_n hx hb d_Md_foretold_85 rfl (lv_at hl 5 rfl) ?_
  refine va_get (D := (dC, dI)) (ci := 7) (v := .int 0) (C := R_Md) (T := F_Md) (N := 64) hx hb htb i_Md hown hK hP 0 rfl rfl 60 (by decide) (htb (.fieldLink R_Md 323 "WaterMenModel" "pensioners" "I") tw_376) (fun _ h9 => h9) rfl d_Md_foretold_86 ?_
  refine lv_icmp_ge (tgt := 140) hx hb d_Md_foretold_89 (by decide) (fun _ => ?_) (fun h => absurd (by decide +kernel) h)
  refine lv_iinc (v := 6) (lv' := [(5, .int 6), (7, .int 0), (3, .long 0), (6, .int 500), (1, .long 0), (0, .ref (a 0))]) hx hb d_Md_foretold_140 hl (k := 3) rfl (by decide +kernel) (by decide) rfl (fun ls hl => ?_)
  refine lv_goto (tgt := 54) hx hb d_Md_foretold_143 (by decide) ?_
  refine lv_iload hx hb d_Md_foretold_54 (lv_at hl 0 rfl) ?_
  refine lv_bipush (v := 40) hx hb d_Md_foretold_56 (by decide +kernel) ?_
  refine lv_icmp_gt (tgt := 146) hx hb d_Md_foretold_58 (by decide) (fun h => absurd h (by decide +kernel)) (fun _ => ?_)
  refine lv_aload_n hx hb d_Md_foretold_61 rfl (lv_at hl 5 rfl) ?_
  refine vp_callSi (va_Run.run (va_runV (As := []) (rest := []) ⟨hx, hb, hml, hown, htb⟩ (c_Md_today l dC dI a k) (cwV 0 htb (gd_V tw_313 tw_314 tw_315 tw_296 tw_312) rfl rfl rfl (by decide +kernel) ⟨Nat.le_of_ble_eq_true rfl, Nat.le_of_ble_eq_true rfl⟩) ⟨pr_blind, va_recv hK hP (ci := 7) (q0 := 0) rfl rfl, pr_pre hP hK hN⟩ rfl rfl hl.1 rfl (lv_room (Nat.le_of_ble_eq_true rfl)) d_Md_foretold_62 ⟨Nat.le_of_ble_eq_true rfl, Nat.le_of_ble_eq_true rfl⟩)) (fun r er => ?_)
  subst er
  refine hb_ti 0 rfl ?_
  refine lv_bipush (v := 100) hx hb d_Md_foretold_65 (by decide +kernel) ?_
  refine lv_idiv hx hb d_Md_foretold_67 (by decide) ?_
  refine hb_ti 0 (by decide +kernel) ?_
  refine lv_iload hx hb d_Md_foretold_68 (lv_at hl 0 rfl) ?_
  refine lv_iadd hx hb d_Md_foretold_70 ?_
  refine hb_ti 6 (by decide +kernel) ?_
  refine lv_bipush (v := 100) hx hb d_Md_foretold_71 (by decide +kernel) ?_
  refine lv_imul hx hb d_Md_foretold_73 ?_
  refine hb_ti 600 (by decide +kernel) ?_
  refine lv_istore (lv' := [(6, .int 600), (5, .int 6), (7, .int 0), (3, .long 0), (1, .long 0), (0, .ref (a 0))]) hx hb d_Md_foretold_74 hl (by decide) rfl (fun ls hl => ?_)
  refine lv_lload_n hx hb d_Md_foretold_76 rfl (lv_at hl 3 rfl) ?_
  refine lv_lload_n hx hb d_Md_foretold_77 rfl (lv_at hl 4 rfl) ?_
  refine lv_ladd hx hb d_Md_foretold_78 ?_
  refine hb_tl 0 (by decide +kernel) ?_
  refine lv_lstore_n (lv' := [(3, .long 0), (6, .int 600), (5, .int 6), (7, .int 0), (1, .long 0), (0, .ref (a 0))]) hx hb d_Md_foretold_79 rfl hl (by decide) rfl (fun ls hl => ?_)
  refine lv_iconst (v := 0) hx hb d_Md_foretold_80 (by decide +kernel) ?_
  refine lv_istore (lv' := [(7, .int 0), (3, .long 0), (6, .int 600), (5, .int 6), (1, .long 0), (0, .ref (a 0))]) hx hb d_Md_foretold_81 hl (by decide) rfl (fun ls hl => ?_)
  refine lv_iload hx hb d_Md_foretold_83 (lv_at hl 0 rfl) ?_
  refine lv_aload_n hx hb d_Md_foretold_85 rfl (lv_at hl 5 rfl) ?_
  refine va_get (D := (dC, dI)) (ci := 7) (v := .int 0) (C := R_Md) (T := F_Md) (N := 64) hx hb htb i_Md hown hK hP 0 rfl rfl 60 (by decide) (htb (.fieldLink R_Md 323 "WaterMenModel" "pensioners" "I") tw_376) (fun _ h9 => h9) rfl d_Md_foretold_86 ?_
  refine lv_icmp_ge (tgt := 140) hx hb d_Md_foretold_89 (by decide) (fun _ => ?_) (fun h => absurd (by decide +kernel) h)
  refine lv_iinc (v := 7) (lv' := [(5, .int 7), (7, .int 0), (3, .long 0), (6, .int 600), (1, .long 0), (0, .ref (a 0))]) hx hb d_Md_foretold_140 hl (k := 3) rfl (by decide +kernel) (by decide) rfl (fun ls hl => ?_)
  refine lv_goto (tgt := 54) hx hb d_Md_foretold_143 (by decide) ?_
  refine lv_iload hx hb d_Md_foretold_54 (lv_at hl 0 rfl) ?_
  refine lv_bipush (v := 40) hx hb d_Md_foretold_56 (by decide +kernel) ?_
  refine lv_icmp_gt (tgt := 146) hx hb d_Md_foretold_58 (by decide) (fun h => absurd h (by decide +kernel)) (fun _ => ?_)
  refine lv_aload_n hx hb d_Md_foretold_61 rfl (lv_at hl 5 rfl) ?_
  refine vp_callSi (va_Run.run (va_runV (As := []) (rest := []) ⟨hx, hb, hml, hown, htb⟩ (c_Md_today l dC dI a k) (cwV 0 htb (gd_V tw_313 tw_314 tw_315 tw_296 tw_312) rfl rfl rfl (by decide +kernel) ⟨Nat.le_of_ble_eq_true rfl, Nat.le_of_ble_eq_true rfl⟩) ⟨pr_blind, va_recv hK hP (ci := 7) (q0 := 0) rfl rfl, pr_pre hP hK hN⟩ rfl rfl hl.1 rfl (lv_room (Nat.le_of_ble_eq_true rfl)) d_Md_foretold_62 ⟨Nat.le_of_ble_eq_true rfl, Nat.le_of_ble_eq_true rfl⟩)) (fun r er => ?_)
  subst er
  refine hb_ti 0 rfl ?_
  refine lv_bipush (v := 100) hx hb d_Md_foretold_65 (by decide +kernel) ?_
  refine lv_idiv hx hb d_Md_foretold_67 (by decide) ?_
  refine hb_ti 0 (by decide +kernel) ?_
  refine lv_iload hx hb d_Md_foretold_68 (lv_at hl 0 rfl) ?_
  refine lv_iadd hx hb d_Md_foretold_70 ?_
  refine hb_ti 7 (by decide +kernel) ?_
  refine lv_bipush (v := 100) hx hb d_Md_foretold_71 (by decide +kernel) ?_
  refine lv_imul hx hb d_Md_foretold_73 ?_
  refine hb_ti 700 (by decide +kernel) ?_
  refine lv_istore (lv' := [(6, .int 700), (5, .int 7), (7, .int 0), (3, .long 0), (1, .long 0), (0, .ref (a 0))]) hx hb d_Md_foretold_74 hl (by decide) rfl (fun ls hl => ?_)
  refine lv_lload_n hx hb d_Md_foretold_76 rfl (lv_at hl 3 rfl) ?_
  refine lv_lload_n hx hb d_Md_foretold_77 rfl (lv_at hl 4 rfl) ?_
  refine lv_ladd hx hb d_Md_foretold_78 ?_
  refine hb_tl 0 (by decide +kernel) ?_
  refine lv_lstore_n (lv' := [(3, .long 0), (6, .int 700), (5, .int 7), (7, .int 0), (1, .long 0), (0, .ref (a 0))]) hx hb d_Md_foretold_79 rfl hl (by decide) rfl (fun ls hl => ?_)
  refine lv_iconst (v := 0) hx hb d_Md_foretold_80 (by decide +kernel) ?_
  refine lv_istore (lv' := [(7, .int 0), (3, .long 0), (6, .int 700), (5, .int 7), (1, .long 0), (0, .ref (a 0))]) hx hb d_Md_foretold_81 hl (by decide) rfl (fun ls hl => ?_)
  refine lv_iload hx hb d_Md_foretold_83 (lv_at hl 0 rfl) ?_
  refine lv_aload_n hx hb d_Md_foretold_85 rfl (lv_at hl 5 rfl) ?_
  refine va_get (D := (dC, dI)) (ci := 7) (v := .int 0) (C := R_Md) (T := F_Md) (N := 64) hx hb htb i_Md hown hK hP 0 rfl rfl 60 (by decide) (htb (.fieldLink R_Md 323 "WaterMenModel" "pensioners" "I") tw_376) (fun _ h9 => h9) rfl d_Md_foretold_86 ?_
  refine lv_icmp_ge (tgt := 140) hx hb d_Md_foretold_89 (by decide) (fun _ => ?_) (fun h => absurd (by decide +kernel) h)
  refine lv_iinc (v := 8) (lv' := [(5, .int 8), (7, .int 0), (3, .long 0), (6, .int 700), (1, .long 0), (0, .ref (a 0))]) hx hb d_Md_foretold_140 hl (k := 3) rfl (by decide +kernel) (by decide) rfl (fun ls hl => ?_)
  refine lv_goto (tgt := 54) hx hb d_Md_foretold_143 (by decide) ?_
  refine lv_iload hx hb d_Md_foretold_54 (lv_at hl 0 rfl) ?_
  refine lv_bipush (v := 40) hx hb d_Md_foretold_56 (by decide +kernel) ?_
  refine lv_icmp_gt (tgt := 146) hx hb d_Md_foretold_58 (by decide) (fun h => absurd h (by decide +kernel)) (fun _ => ?_)
  refine lv_aload_n hx hb d_Md_foretold_61 rfl (lv_at hl 5 rfl) ?_
  refine vp_callSi (va_Run.run (va_runV (As := []) (rest := []) ⟨hx, hb, hml, hown, htb⟩ (c_Md_today l dC dI a k) (cwV 0 htb (gd_V tw_313 tw_314 tw_315 tw_296 tw_312) rfl rfl rfl (by decide +kernel) ⟨Nat.le_of_ble_eq_true rfl, Nat.le_of_ble_eq_true rfl⟩) ⟨pr_blind, va_recv hK hP (ci := 7) (q0 := 0) rfl rfl, pr_pre hP hK hN⟩ rfl rfl hl.1 rfl (lv_room (Nat.le_of_ble_eq_true rfl)) d_Md_foretold_62 ⟨Nat.le_of_ble_eq_true rfl, Nat.le_of_ble_eq_true rfl⟩)) (fun r er => ?_)
  subst er
  refine hb_ti 0 rfl ?_
  refine lv_bipush (v := 100) hx hb d_Md_foretold_65 (by decide +kernel) ?_
  refine lv_idiv hx hb d_Md_foretold_67 (by decide) ?_
  refine hb_ti 0 (by decide +kernel) ?_
  refine lv_iload hx hb d_Md_foretold_68 (lv_at hl 0 rfl) ?_
  refine lv_iadd hx hb d_Md_foretold_70 ?_
  refine hb_ti 8 (by decide +kernel) ?_
  refine lv_bipush (v := 100) hx hb d_Md_foretold_71 (by decide +kernel) ?_
  refine lv_imul hx hb d_Md_foretold_73 ?_
  refine hb_ti 800 (by decide +kernel) ?_
  refine lv_istore (lv' := [(6, .int 800), (5, .int 8), (7, .int 0), (3, .long 0), (1, .long 0), (0, .ref (a 0))]) hx hb d_Md_foretold_74 hl (by decide) rfl (fun ls hl => ?_)
  refine lv_lload_n hx hb d_Md_foretold_76 rfl (lv_at hl 3 rfl) ?_
  refine lv_lload_n hx hb d_Md_foretold_77 rfl (lv_at hl 4 rfl) ?_
  refine lv_ladd hx hb d_Md_foretold_78 ?_
  refine hb_tl 0 (by decide +kernel) ?_
  refine lv_lstore_n (lv' := [(3, .long 0), (6, .int 800), (5, .int 8), (7, .int 0), (1, .long 0), (0, .ref (a 0))]) hx hb d_Md_foretold_79 rfl hl (by decide) rfl (fun ls hl => ?_)
  refine lv_iconst (v := 0) hx hb d_Md_foretold_80 (by decide +kernel) ?_
  refine lv_istore (lv' := [(7, .int 0), (3, .long 0), (6, .int 800), (5, .int 8), (1, .long 0), (0, .ref (a 0))]) hx hb d_Md_foretold_81 hl (by decide) rfl (fun ls hl => ?_)
  refine lv_iload hx hb d_Md_foretold_83 (lv_at hl 0 rfl) ?_
  refine lv_aload_n hx hb d_Md_foretold_85 rfl (lv_at hl 5 rfl) ?_
  refine va_get (D := (dC, dI)) (ci := 7) (v := .int 0) (C := R_Md) (T := F_Md) (N := 64) hx hb htb i_Md hown hK hP 0 rfl rfl 60 (by decide) (htb (.fieldLink R_Md 323 "WaterMenModel" "pensioners" "I") tw_376) (fun _ h9 => h9) rfl d_Md_foretold_86 ?_
  refine lv_icmp_ge (tgt := 140) hx hb d_Md_foretold_89 (by decide) (fun _ => ?_) (fun h => absurd (by decide +kernel) h)
  refine lv_iinc (v := 9) (lv' := [(5, .int 9), (7, .int 0), (3, .long 0), (6, .int 800), (1, .long 0), (0, .ref (a 0))]) hx hb d_Md_foretold_140 hl (k := 3) rfl (by decide +kernel) (by decide) rfl (fun ls hl => ?_)
  refine lv_goto (tgt := 54) hx hb d_Md_foretold_143 (by decide) ?_
  refine lv_iload hx hb d_Md_foretold_54 (lv_at hl 0 rfl) ?_
  refine lv_bipush (v := 40) hx hb d_Md_foretold_56 (by decide +kernel) ?_
  refine lv_icmp_gt (tgt := 146) hx hb d_Md_foretold_58 (by decide) (fun h => absurd h (by decide +kernel)) (fun _ => ?_)
  refine lv_aload_n hx hb d_Md_foretold_61 rfl (lv_at hl 5 rfl) ?_
  refine vp_callSi (va_Run.run (va_runV (As := []) (rest := []) ⟨hx, hb, hml, hown, htb⟩ (c_Md_today l dC dI a k) (cwV 0 htb (gd_V tw_313 tw_314 tw_315 tw_296 tw_312) rfl rfl rfl (by decide +kernel) ⟨Nat.le_of_ble_eq_true rfl, Nat.le_of_ble_eq_true rfl⟩) ⟨pr_blind, va_recv hK hP (ci := 7) (q0 := 0) rfl rfl, pr_pre hP hK hN⟩ rfl rfl hl.1 rfl (lv_room (Nat.le_of_ble_eq_true rfl)) d_Md_foretold_62 ⟨Nat.le_of_ble_eq_true rfl, Nat.le_of_ble_eq_true rfl⟩)) (fun r er => ?_)
  subst er
  refine hb_ti 0 rfl ?_
  refine lv_bipush (v := 100) hx hb d_Md_foretold_65 (by decide +kernel) ?_
  refine lv_idiv hx hb d_Md_foretold_67 (by decide) ?_
  refine hb_ti 0 (by decide +kernel) ?_
  refine lv_iload hx hb d_Md_foretold_68 (lv_at hl 0 rfl) ?_
  refine lv_iadd hx hb d_Md_foretold_70 ?_
  refine hb_ti 9 (by decide +kernel) ?_
  refine lv_bipush (v := 100) hx hb d_Md_foretold_71 (by decide +kernel) ?_
  refine lv_imul hx hb d_Md_foretold_73 ?_
  refine hb_ti 900 (by decide +kernel) ?_
  refine lv_istore (lv' := [(6, .int 900), (5, .int 9), (7, .int 0), (3, .long 0), (1, .long 0), (0, .ref (a 0))]) hx hb d_Md_foretold_74 hl (by decide) rfl (fun ls hl => ?_)
  refine lv_lload_n hx hb d_Md_foretold_76 rfl (lv_at hl 3 rfl) ?_
  refine lv_lload_n hx hb d_Md_foretold_77 rfl (lv_at hl 4 rfl) ?_
  refine lv_ladd hx hb d_Md_foretold_78 ?_
  refine hb_tl 0 (by decide +kernel) ?_
  refine lv_lstore_n (lv' := [(3, .long 0), (6, .int 900), (5, .int 9), (7, .int 0), (1, .long 0), (0, .ref (a 0))]) hx hb d_Md_foretold_79 rfl hl (by decide) rfl (fun ls hl => ?_)
  refine lv_iconst (v := 0) hx hb d_Md_foretold_80 (by decide +kernel) ?_
  refine lv_istore (lv' := [(7, .int 0), (3, .long 0), (6, .int 900), (5, .int 9), (1, .long 0), (0, .ref (a 0))]) hx hb d_Md_foretold_81 hl (by decide) rfl (fun ls hl => ?_)
  refine lv_iload hx hb d_Md_foretold_83 (lv_at hl 0 rfl) ?_
  refine lv_aload_n hx hb d_Md_foretold_85 rfl (lv_at hl 5 rfl) ?_
  refine va_get (D := (dC, dI)) (ci := 7) (v := .int 0) (C := R_Md) (T := F_Md) (N := 64) hx hb htb i_Md hown hK hP 0 rfl rfl 60 (by decide) (htb (.fieldLink R_Md 323 "WaterMenModel" "pensioners" "I") tw_376) (fun _ h9 => h9) rfl d_Md_foretold_86 ?_
  refine lv_icmp_ge (tgt := 140) hx hb d_Md_foretold_89 (by decide) (fun _ => ?_) (fun h => absurd (by decide +kernel) h)
  refine lv_iinc (v := 10) (lv' := [(5, .int 10), (7, .int 0), (3, .long 0), (6, .int 900), (1, .long 0), (0, .ref (a 0))]) hx hb d_Md_foretold_140 hl (k := 3) rfl (by decide +kernel) (by decide) rfl (fun ls hl => ?_)
  refine lv_goto (tgt := 54) hx hb d_Md_foretold_143 (by decide) ?_
  refine lv_iload hx hb d_Md_foretold_54 (lv_at hl 0 rfl) ?_
  refine lv_bipush (v := 40) hx hb d_Md_foretold_56 (by decide +kernel) ?_
  refine lv_icmp_gt (tgt := 146) hx hb d_Md_foretold_58 (by decide) (fun h => absurd h (by decide +kernel)) (fun _ => ?_)
  refine lv_aload_n hx hb d_Md_foretold_61 rfl (lv_at hl 5 rfl) ?_
  refine vp_callSi (va_Run.run (va_runV (As := []) (rest := []) ⟨hx, hb, hml, hown, htb⟩ (c_Md_today l dC dI a k) (cwV 0 htb (gd_V tw_313 tw_314 tw_315 tw_296 tw_312) rfl rfl rfl (by decide +kernel) ⟨Nat.le_of_ble_eq_true rfl, Nat.le_of_ble_eq_true rfl⟩) ⟨pr_blind, va_recv hK hP (ci := 7) (q0 := 0) rfl rfl, pr_pre hP hK hN⟩ rfl rfl hl.1 rfl (lv_room (Nat.le_of_ble_eq_true rfl)) d_Md_foretold_62 ⟨Nat.le_of_ble_eq_true rfl, Nat.le_of_ble_eq_true rfl⟩)) (fun r er => ?_)
  subst er
  refine hb_ti 0 rfl ?_
  refine lv_bipush (v := 100) hx hb d_Md_foretold_65 (by decide +kernel) ?_
  refine lv_idiv hx hb d_Md_foretold_67 (by decide) ?_
  refine hb_ti 0 (by decide +kernel) ?_
  refine lv_iload hx hb d_Md_foretold_68 (lv_at hl 0 rfl) ?_
  refine lv_iadd hx hb d_Md_foretold_70 ?_
  refine hb_ti 10 (by decide +kernel) ?_
  refine lv_bipush (v := 100) hx hb d_Md_foretold_71 (by decide +kernel) ?_
  refine lv_imul hx hb d_Md_foretold_73 ?_
  refine hb_ti 1000 (by decide +kernel) ?_
  refine lv_istore (lv' := [(6, .int 1000), (5, .int 10), (7, .int 0), (3, .long 0), (1, .long 0), (0, .ref (a 0))]) hx hb d_Md_foretold_74 hl (by decide) rfl (fun ls hl => ?_)
  refine lv_lload_n hx hb d_Md_foretold_76 rfl (lv_at hl 3 rfl) ?_
  refine lv_lload_n hx hb d_Md_foretold_77 rfl (lv_at hl 4 rfl) ?_
  refine lv_ladd hx hb d_Md_foretold_78 ?_
  refine hb_tl 0 (by decide +kernel) ?_
  refine lv_lstore_n (lv' := [(3, .long 0), (6, .int 1000), (5, .int 10), (7, .int 0), (1, .long 0), (0, .ref (a 0))]) hx hb d_Md_foretold_79 rfl hl (by decide) rfl (fun ls hl => ?_)
  refine lv_iconst (v := 0) hx hb d_Md_foretold_80 (by decide +kernel) ?_
  refine lv_istore (lv' := [(7, .int 0), (3, .long 0), (6, .int 1000), (5, .int 10), (1, .long 0), (0, .ref (a 0))]) hx hb d_Md_foretold_81 hl (by decide) rfl (fun ls hl => ?_)
  refine lv_iload hx hb d_Md_foretold_83 (lv_at hl 0 rfl) ?_
  refine lv_aload_n hx hb d_Md_foretold_85 rfl (lv_at hl 5 rfl) ?_
  refine va_get (D := (dC, dI)) (ci := 7) (v := .int 0) (C := R_Md) (T := F_Md) (N := 64) hx hb htb i_Md hown hK hP 0 rfl rfl 60 (by decide) (htb (.fieldLink R_Md 323 "WaterMenModel" "pensioners" "I") tw_376) (fun _ h9 => h9) rfl d_Md_foretold_86 ?_
  refine lv_icmp_ge (tgt := 140) hx hb d_Md_foretold_89 (by decide) (fun _ => ?_) (fun h => absurd (by decide +kernel) h)
  refine lv_iinc (v := 11) (lv' := [(5, .int 11), (7, .int 0), (3, .long 0), (6, .int 1000), (1, .long 0), (0, .ref (a 0))]) hx hb d_Md_foretold_140 hl (k := 3) rfl (by decide +kernel) (by decide) rfl (fun ls hl => ?_)
  refine lv_goto (tgt := 54) hx hb d_Md_foretold_143 (by decide) ?_
  refine lv_iload hx hb d_Md_foretold_54 (lv_at hl 0 rfl) ?_
  refine lv_bipush (v := 40) hx hb d_Md_foretold_56 (by decide +kernel) ?_
  refine lv_icmp_gt (tgt := 146) hx hb d_Md_foretold_58 (by decide) (fun h => absurd h (by decide +kernel)) (fun _ => ?_)
  refine lv_aload_n hx hb d_Md_foretold_61 rfl (lv_at hl 5 rfl) ?_
  refine vp_callSi (va_Run.run (va_runV (As := []) (rest := []) ⟨hx, hb, hml, hown, htb⟩ (c_Md_today l dC dI a k) (cwV 0 htb (gd_V tw_313 tw_314 tw_315 tw_296 tw_312) rfl rfl rfl (by decide +kernel) ⟨Nat.le_of_ble_eq_true rfl, Nat.le_of_ble_eq_true rfl⟩) ⟨pr_blind, va_recv hK hP (ci := 7) (q0 := 0) rfl rfl, pr_pre hP hK hN⟩ rfl rfl hl.1 rfl (lv_room (Nat.le_of_ble_eq_true rfl)) d_Md_foretold_62 ⟨Nat.le_of_ble_eq_true rfl, Nat.le_of_ble_eq_true rfl⟩)) (fun r er => ?_)
  subst er
  refine hb_ti 0 rfl ?_
  refine lv_bipush (v := 100) hx hb d_Md_foretold_65 (by decide +kernel) ?_
  refine lv_idiv hx hb d_Md_foretold_67 (by decide) ?_
  refine hb_ti 0 (by decide +kernel) ?_
  refine lv_iload hx hb d_Md_foretold_68 (lv_at hl 0 rfl) ?_
  refine lv_iadd hx hb d_Md_foretold_70 ?_
  refine hb_ti 11 (by decide +kernel) ?_
  refine lv_bipush (v := 100) hx hb d_Md_foretold_71 (by decide +kernel) ?_
  refine lv_imul hx hb d_Md_foretold_73 ?_
  refine hb_ti 1100 (by decide +kernel) ?_
  refine lv_istore (lv' := [(6, .int 1100), (5, .int 11), (7, .int 0), (3, .long 0), (1, .long 0), (0, .ref (a 0))]) hx hb d_Md_foretold_74 hl (by decide) rfl (fun ls hl => ?_)
  refine lv_lload_n hx hb d_Md_foretold_76 rfl (lv_at hl 3 rfl) ?_
  refine lv_lload_n hx hb d_Md_foretold_77 rfl (lv_at hl 4 rfl) ?_
  refine lv_ladd hx hb d_Md_foretold_78 ?_
  refine hb_tl 0 (by decide +kernel) ?_
  refine lv_lstore_n (lv' := [(3, .long 0), (6, .int 1100), (5, .int 11), (7, .int 0), (1, .long 0), (0, .ref (a 0))]) hx hb d_Md_foretold_79 rfl hl (by decide) rfl (fun ls hl => ?_)
  refine lv_iconst (v := 0) hx hb d_Md_foretold_80 (by decide +kernel) ?_
  refine lv_istore (lv' := [(7, .int 0), (3, .long 0), (6, .int 1100), (5, .int 11), (1, .long 0), (0, .ref (a 0))]) hx hb d_Md_foretold_81 hl (by decide) rfl (fun ls hl => ?_)
  refine lv_iload hx hb d_Md_foretold_83 (lv_at hl 0 rfl) ?_
  refine lv_aload_n hx hb d_Md_foretold_85 rfl (lv_at hl 5 rfl) ?_
  refine va_get (D := (dC, dI)) (ci := 7) (v := .int 0) (C := R_Md) (T := F_Md) (N := 64) hx hb htb i_Md hown hK hP 0 rfl rfl 60 (by decide) (htb (.fieldLink R_Md 323 "WaterMenModel" "pensioners" "I") tw_376) (fun _ h9 => h9) rfl d_Md_foretold_86 ?_
  refine lv_icmp_ge (tgt := 140) hx hb d_Md_foretold_89 (by decide) (fun _ => ?_) (fun h => absurd (by decide +kernel) h)
  refine lv_iinc (v := 12) (lv' := [(5, .int 12), (7, .int 0), (3, .long 0), (6, .int 1100), (1, .long 0), (0, .ref (a 0))]) hx hb d_Md_foretold_140 hl (k := 3) rfl (by decide +kernel) (by decide) rfl (fun ls hl => ?_)
  refine lv_goto (tgt := 54) hx hb d_Md_foretold_143 (by decide) ?_
  refine lv_iload hx hb d_Md_foretold_54 (lv_at hl 0 rfl) ?_
  refine lv_bipush (v := 40) hx hb d_Md_foretold_56 (by decide +kernel) ?_
  refine lv_icmp_gt (tgt := 146) hx hb d_Md_foretold_58 (by decide) (fun h => absurd h (by decide +kernel)) (fun _ => ?_)
  refine lv_aload_n hx hb d_Md_foretold_61 rfl (lv_at hl 5 rfl) ?_
  refine vp_callSi (va_Run.run (va_runV (As := []) (rest := []) ⟨hx, hb, hml, hown, htb⟩ (c_Md_today l dC dI a k) (cwV 0 htb (gd_V tw_313 tw_314 tw_315 tw_296 tw_312) rfl rfl rfl (by decide +kernel) ⟨Nat.le_of_ble_eq_true rfl, Nat.le_of_ble_eq_true rfl⟩) ⟨pr_blind, va_recv hK hP (ci := 7) (q0 := 0) rfl rfl, pr_pre hP hK hN⟩ rfl rfl hl.1 rfl (lv_room (Nat.le_of_ble_eq_true rfl)) d_Md_foretold_62 ⟨Nat.le_of_ble_eq_true rfl, Nat.le_of_ble_eq_true rfl⟩)) (fun r er => ?_)
  subst er
  refine hb_ti 0 rfl ?_
  refine lv_bipush (v := 100) hx hb d_Md_foretold_65 (by decide +kernel) ?_
  refine lv_idiv hx hb d_Md_foretold_67 (by decide) ?_
  refine hb_ti 0 (by decide +kernel) ?_
  refine lv_iload hx hb d_Md_foretold_68 (lv_at hl 0 rfl) ?_
  refine lv_iadd hx hb d_Md_foretold_70 ?_
  refine hb_ti 12 (by decide +kernel) ?_
  refine lv_bipush (v := 100) hx hb d_Md_foretold_71 (by decide +kernel) ?_
  refine lv_imul hx hb d_Md_foretold_73 ?_
  refine hb_ti 1200 (by decide +kernel) ?_
  refine lv_istore (lv' := [(6, .int 1200), (5, .int 12), (7, .int 0), (3, .long 0), (1, .long 0), (0, .ref (a 0))]) hx hb d_Md_foretold_74 hl (by decide) rfl (fun ls hl => ?_)
  refine lv_lload_n hx hb d_Md_foretold_76 rfl (lv_at hl 3 rfl) ?_
  refine lv_lload_n hx hb d_Md_foretold_77 rfl (lv_at hl 4 rfl) ?_
  refine lv_ladd hx hb d_Md_foretold_78 ?_
  refine hb_tl 0 (by decide +kernel) ?_
  refine lv_lstore_n (lv' := [(3, .long 0), (6, .int 1200), (5, .int 12), (7, .int 0), (1, .long 0), (0, .ref (a 0))]) hx hb d_Md_foretold_79 rfl hl (by decide) rfl (fun ls hl => ?_)
  refine lv_iconst (v := 0) hx hb d_Md_foretold_80 (by decide +kernel) ?_
  refine lv_istore (lv' := [(7, .int 0), (3, .long 0), (6, .int 1200), (5, .int 12), (1, .long 0), (0, .ref (a 0))]) hx hb d_Md_foretold_81 hl (by decide) rfl (fun ls hl => ?_)
  refine lv_iload hx hb d_Md_foretold_83 (lv_at hl 0 rfl) ?_
  refine lv_aload_n hx hb d_Md_foretold_85 rfl (lv_at hl 5 rfl) ?_
  refine va_get (D := (dC, dI)) (ci := 7) (v := .int 0) (C := R_Md) (T := F_Md) (N := 64) hx hb htb i_Md hown hK hP 0 rfl rfl 60 (by decide) (htb (.fieldLink R_Md 323 "WaterMenModel" "pensioners" "I") tw_376) (fun _ h9 => h9) rfl d_Md_foretold_86 ?_
  refine lv_icmp_ge (tgt := 140) hx hb d_Md_foretold_89 (by decide) (fun _ => ?_) (fun h => absurd (by decide +kernel) h)
  refine lv_iinc (v := 13) (lv' := [(5, .int 13), (7, .int 0), (3, .long 0), (6, .int 1200), (1, .long 0), (0, .ref (a 0))]) hx hb d_Md_foretold_140 hl (k := 3) rfl (by decide +kernel) (by decide) rfl (fun ls hl => ?_)
  refine lv_goto (tgt := 54) hx hb d_Md_foretold_143 (by decide) ?_
  refine lv_iload hx hb d_Md_foretold_54 (lv_at hl 0 rfl) ?_
  refine lv_bipush (v := 40) hx hb d_Md_foretold_56 (by decide +kernel) ?_
  refine lv_icmp_gt (tgt := 146) hx hb d_Md_foretold_58 (by decide) (fun h => absurd h (by decide +kernel)) (fun _ => ?_)
  refine lv_aload_n hx hb d_Md_foretold_61 rfl (lv_at hl 5 rfl) ?_
  refine vp_callSi (va_Run.run (va_runV (As := []) (rest := []) ⟨hx, hb, hml, hown, htb⟩ (c_Md_today l dC dI a k) (cwV 0 htb (gd_V tw_313 tw_314 tw_315 tw_296 tw_312) rfl rfl rfl (by decide +kernel) ⟨Nat.le_of_ble_eq_true rfl, Nat.le_of_ble_eq_true rfl⟩) ⟨pr_blind, va_recv hK hP (ci := 7) (q0 := 0) rfl rfl, pr_pre hP hK hN⟩ rfl rfl hl.1 rfl (lv_room (Nat.le_of_ble_eq_true rfl)) d_Md_foretold_62 ⟨Nat.le_of_ble_eq_true rfl, Nat.le_of_ble_eq_true rfl⟩)) (fun r er => ?_)
  subst er
  refine hb_ti 0 rfl ?_
  refine lv_bipush (v := 100) hx hb d_Md_foretold_65 (by decide +kernel) ?_
  refine lv_idiv hx hb d_Md_foretold_67 (by decide) ?_
  refine hb_ti 0 (by decide +kernel) ?_
  refine lv_iload hx hb d_Md_foretold_68 (lv_at hl 0 rfl) ?_
  refine lv_iadd hx hb d_Md_foretold_70 ?_
  refine hb_ti 13 (by decide +kernel) ?_
  refine lv_bipush (v := 100) hx hb d_Md_foretold_71 (by decide +kernel) ?_
  refine lv_imul hx hb d_Md_foretold_73 ?_
  refine hb_ti 1300 (by decide +kernel) ?_
  refine lv_istore (lv' := [(6, .int 1300), (5, .int 13), (7, .int 0), (3, .long 0), (1, .long 0), (0, .ref (a 0))]) hx hb d_Md_foretold_74 hl (by decide) rfl (fun ls hl => ?_)
  refine lv_lload_n hx hb d_Md_foretold_76 rfl (lv_at hl 3 rfl) ?_
  refine lv_lload_n hx hb d_Md_foretold_77 rfl (lv_at hl 4 rfl) ?_
  refine lv_ladd hx hb d_Md_foretold_78 ?_
  refine hb_tl 0 (by decide +kernel) ?_
  refine lv_lstore_n (lv' := [(3, .long 0), (6, .int 1300), (5, .int 13), (7, .int 0), (1, .long 0), (0, .ref (a 0))]) hx hb d_Md_foretold_79 rfl hl (by decide) rfl (fun ls hl => ?_)
  refine lv_iconst (v := 0) hx hb d_Md_foretold_80 (by decide +kernel) ?_
  refine lv_istore (lv' := [(7, .int 0), (3, .long 0), (6, .int 1300), (5, .int 13), (1, .long 0), (0, .ref (a 0))]) hx hb d_Md_foretold_81 hl (by decide) rfl (fun ls hl => ?_)
  refine lv_iload hx hb d_Md_foretold_83 (lv_at hl 0 rfl) ?_
  refine lv_aload_n hx hb d_Md_foretold_85 rfl (lv_at hl 5 rfl) ?_
  refine va_get (D := (dC, dI)) (ci := 7) (v := .int 0) (C := R_Md) (T := F_Md) (N := 64) hx hb htb i_Md hown hK hP 0 rfl rfl 60 (by decide) (htb (.fieldLink R_Md 323 "WaterMenModel" "pensioners" "I") tw_376) (fun _ h9 => h9) rfl d_Md_foretold_86 ?_
  refine lv_icmp_ge (tgt := 140) hx hb d_Md_foretold_89 (by decide) (fun _ => ?_) (fun h => absurd (by decide +kernel) h)
  refine lv_iinc (v := 14) (lv' := [(5, .int 14), (7, .int 0), (3, .long 0), (6, .int 1300), (1, .long 0), (0, .ref (a 0))]) hx hb d_Md_foretold_140 hl (k := 3) rfl (by decide +kernel) (by decide) rfl (fun ls hl => ?_)
  refine lv_goto (tgt := 54) hx hb d_Md_foretold_143 (by decide) ?_
  refine lv_iload hx hb d_Md_foretold_54 (lv_at hl 0 rfl) ?_
  refine lv_bipush (v := 40) hx hb d_Md_foretold_56 (by decide +kernel) ?_
  refine lv_icmp_gt (tgt := 146) hx hb d_Md_foretold_58 (by decide) (fun h => absurd h (by decide +kernel)) (fun _ => ?_)
  refine lv_aload_n hx hb d_Md_foretold_61 rfl (lv_at hl 5 rfl) ?_
  refine vp_callSi (va_Run.run (va_runV (As := []) (rest := []) ⟨hx, hb, hml, hown, htb⟩ (c_Md_today l dC dI a k) (cwV 0 htb (gd_V tw_313 tw_314 tw_315 tw_296 tw_312) rfl rfl rfl (by decide +kernel) ⟨Nat.le_of_ble_eq_true rfl, Nat.le_of_ble_eq_true rfl⟩) ⟨pr_blind, va_recv hK hP (ci := 7) (q0 := 0) rfl rfl, pr_pre hP hK hN⟩ rfl rfl hl.1 rfl (lv_room (Nat.le_of_ble_eq_true rfl)) d_Md_foretold_62 ⟨Nat.le_of_ble_eq_true rfl, Nat.le_of_ble_eq_true rfl⟩)) (fun r er => ?_)
  subst er
  refine hb_ti 0 rfl ?_
  refine lv_bipush (v := 100) hx hb d_Md_foretold_65 (by decide +kernel) ?_
  refine lv_idiv hx hb d_Md_foretold_67 (by decide) ?_
  refine hb_ti 0 (by decide +kernel) ?_
  refine lv_iload hx hb d_Md_foretold_68 (lv_at hl 0 rfl) ?_
  refine lv_iadd hx hb d_Md_foretold_70 ?_
  refine hb_ti 14 (by decide +kernel) ?_
  refine lv_bipush (v := 100) hx hb d_Md_foretold_71 (by decide +kernel) ?_
  refine lv_imul hx hb d_Md_foretold_73 ?_
  refine hb_ti 1400 (by decide +kernel) ?_
  refine lv_istore (lv' := [(6, .int 1400), (5, .int 14), (7, .int 0), (3, .long 0), (1, .long 0), (0, .ref (a 0))]) hx hb d_Md_foretold_74 hl (by decide) rfl (fun ls hl => ?_)
  refine lv_lload_n hx hb d_Md_foretold_76 rfl (lv_at hl 3 rfl) ?_
  refine lv_lload_n hx hb d_Md_foretold_77 rfl (lv_at hl 4 rfl) ?_
  refine lv_ladd hx hb d_Md_foretold_78 ?_
  refine hb_tl 0 (by decide +kernel) ?_
  refine lv_lstore_n (lv' := [(3, .long 0), (6, .int 1400), (5, .int 14), (7, .int 0), (1, .long 0), (0, .ref (a 0))]) hx hb d_Md_foretold_79 rfl hl (by decide) rfl (fun ls hl => ?_)
  refine lv_iconst (v := 0) hx hb d_Md_foretold_80 (by decide +kernel) ?_
  refine lv_istore (lv' := [(7, .int 0), (3, .long 0), (6, .int 1400), (5, .int 14), (1, .long 0), (0, .ref (a 0))]) hx hb d_Md_foretold_81 hl (by decide) rfl (fun ls hl => ?_)
  refine lv_iload hx hb d_Md_foretold_83 (lv_at hl 0 rfl) ?_
  refine lv_aload_n hx hb d_Md_foretold_85 rfl (lv_at hl 5 rfl) ?_
  refine va_get (D := (dC, dI)) (ci := 7) (v := .int 0) (C := R_Md) (T := F_Md) (N := 64) hx hb htb i_Md hown hK hP 0 rfl rfl 60 (by decide) (htb (.fieldLink R_Md 323 "WaterMenModel" "pensioners" "I") tw_376) (fun _ h9 => h9) rfl d_Md_foretold_86 ?_
  refine lv_icmp_ge (tgt := 140) hx hb d_Md_foretold_89 (by decide) (fun _ => ?_) (fun h => absurd (by decide +kernel) h)
  refine lv_iinc (v := 15) (lv' := [(5, .int 15), (7, .int 0), (3, .long 0), (6, .int 1400), (1, .long 0), (0, .ref (a 0))]) hx hb d_Md_foretold_140 hl (k := 3) rfl (by decide +kernel) (by decide) rfl (fun ls hl => ?_)
  refine lv_goto (tgt := 54) hx hb d_Md_foretold_143 (by decide) ?_
  refine lv_iload hx hb d_Md_foretold_54 (lv_at hl 0 rfl) ?_
  refine lv_bipush (v := 40) hx hb d_Md_foretold_56 (by decide +kernel) ?_
  refine lv_icmp_gt (tgt := 146) hx hb d_Md_foretold_58 (by decide) (fun h => absurd h (by decide +kernel)) (fun _ => ?_)
  refine lv_aload_n hx hb d_Md_foretold_61 rfl (lv_at hl 5 rfl) ?_
  refine vp_callSi (va_Run.run (va_runV (As := []) (rest := []) ⟨hx, hb, hml, hown, htb⟩ (c_Md_today l dC dI a k) (cwV 0 htb (gd_V tw_313 tw_314 tw_315 tw_296 tw_312) rfl rfl rfl (by decide +kernel) ⟨Nat.le_of_ble_eq_true rfl, Nat.le_of_ble_eq_true rfl⟩) ⟨pr_blind, va_recv hK hP (ci := 7) (q0 := 0) rfl rfl, pr_pre hP hK hN⟩ rfl rfl hl.1 rfl (lv_room (Nat.le_of_ble_eq_true rfl)) d_Md_foretold_62 ⟨Nat.le_of_ble_eq_true rfl, Nat.le_of_ble_eq_true rfl⟩)) (fun r er => ?_)
  subst er
  refine hb_ti 0 rfl ?_
  refine lv_bipush (v := 100) hx hb d_Md_foretold_65 (by decide +kernel) ?_
  refine lv_idiv hx hb d_Md_foretold_67 (by decide) ?_
  refine hb_ti 0 (by decide +kernel) ?_
  refine lv_iload hx hb d_Md_foretold_68 (lv_at hl 0 rfl) ?_
  refine lv_iadd hx hb d_Md_foretold_70 ?_
  refine hb_ti 15 (by decide +kernel) ?_
  refine lv_bipush (v := 100) hx hb d_Md_foretold_71 (by decide +kernel) ?_
  refine lv_imul hx hb d_Md_foretold_73 ?_
  refine hb_ti 1500 (by decide +kernel) ?_
  refine lv_istore (lv' := [(6, .int 1500), (5, .int 15), (7, .int 0), (3, .long 0), (1, .long 0), (0, .ref (a 0))]) hx hb d_Md_foretold_74 hl (by decide) rfl (fun ls hl => ?_)
  refine lv_lload_n hx hb d_Md_foretold_76 rfl (lv_at hl 3 rfl) ?_
  refine lv_lload_n hx hb d_Md_foretold_77 rfl (lv_at hl 4 rfl) ?_
  refine lv_ladd hx hb d_Md_foretold_78 ?_
  refine hb_tl 0 (by decide +kernel) ?_
  refine lv_lstore_n (lv' := [(3, .long 0), (6, .int 1500), (5, .int 15), (7, .int 0), (1, .long 0), (0, .ref (a 0))]) hx hb d_Md_foretold_79 rfl hl (by decide) rfl (fun ls hl => ?_)
  refine lv_iconst (v := 0) hx hb d_Md_foretold_80 (by decide +kernel) ?_
  refine lv_istore (lv' := [(7, .int 0), (3, .long 0), (6, .int 1500), (5, .int 15), (1, .long 0), (0, .ref (a 0))]) hx hb d_Md_foretold_81 hl (by decide) rfl (fun ls hl => ?_)
  refine lv_iload hx hb d_Md_foretold_83 (lv_at hl 0 rfl) ?_
  refine lv_aload_n hx hb d_Md_foretold_85 rfl (lv_at hl 5 rfl) ?_
  refine va_get (D := (dC, dI)) (ci := 7) (v := .int 0) (C := R_Md) (T := F_Md) (N := 64) hx hb htb i_Md hown hK hP 0 rfl rfl 60 (by decide) (htb (.fieldLink R_Md 323 "WaterMenModel" "pensioners" "I") tw_376) (fun _ h9 => h9) rfl d_Md_foretold_86 ?_
  refine lv_icmp_ge (tgt := 140) hx hb d_Md_foretold_89 (by decide) (fun _ => ?_) (fun h => absurd (by decide +kernel) h)
  refine lv_iinc (v := 16) (lv' := [(5, .int 16), (7, .int 0), (3, .long 0), (6, .int 1500), (1, .long 0), (0, .ref (a 0))]) hx hb d_Md_foretold_140 hl (k := 3) rfl (by decide +kernel) (by decide) rfl (fun ls hl => ?_)
  refine lv_goto (tgt := 54) hx hb d_Md_foretold_143 (by decide) ?_
  refine lv_iload hx hb d_Md_foretold_54 (lv_at hl 0 rfl) ?_
  refine lv_bipush (v := 40) hx hb d_Md_foretold_56 (by decide +kernel) ?_
  refine lv_icmp_gt (tgt := 146) hx hb d_Md_foretold_58 (by decide) (fun h => absurd h (by decide +kernel)) (fun _ => ?_)
  refine lv_aload_n hx hb d_Md_foretold_61 rfl (lv_at hl 5 rfl) ?_
  refine vp_callSi (va_Run.run (va_runV (As := []) (rest := []) ⟨hx, hb, hml, hown, htb⟩ (c_Md_today l dC dI a k) (cwV 0 htb (gd_V tw_313 tw_314 tw_315 tw_296 tw_312) rfl rfl rfl (by decide +kernel) ⟨Nat.le_of_ble_eq_true rfl, Nat.le_of_ble_eq_true rfl⟩) ⟨pr_blind, va_recv hK hP (ci := 7) (q0 := 0) rfl rfl, pr_pre hP hK hN⟩ rfl rfl hl.1 rfl (lv_room (Nat.le_of_ble_eq_true rfl)) d_Md_foretold_62 ⟨Nat.le_of_ble_eq_true rfl, Nat.le_of_ble_eq_true rfl⟩)) (fun r er => ?_)
  subst er
  refine hb_ti 0 rfl ?_
  refine lv_bipush (v := 100) hx hb d_Md_foretold_65 (by decide +kernel) ?_
  refine lv_idiv hx hb d_Md_foretold_67 (by decide) ?_
  refine hb_ti 0 (by decide +kernel) ?_
  refine lv_iload hx hb d_Md_foretold_68 (lv_at hl 0 rfl) ?_
  refine lv_iadd hx hb d_Md_foretold_70 ?_
  refine hb_ti 16 (by decide +kernel) ?_
  refine lv_bipush (v := 100) hx hb d_Md_foretold_71 (by decide +kernel) ?_
  refine lv_imul hx hb d_Md_foretold_73 ?_
  refine hb_ti 1600 (by decide +kernel) ?_
  refine lv_istore (lv' := [(6, .int 1600), (5, .int 16), (7, .int 0), (3, .long 0), (1, .long 0), (0, .ref (a 0))]) hx hb d_Md_foretold_74 hl (by decide) rfl (fun ls hl => ?_)
  refine lv_lload_n hx hb d_Md_foretold_76 rfl (lv_at hl 3 rfl) ?_
  refine lv_lload_n hx hb d_Md_foretold_77 rfl (lv_at hl 4 rfl) ?_
  refine lv_ladd hx hb d_Md_foretold_78 ?_
  refine hb_tl 0 (by decide +kernel) ?_
  refine lv_lstore_n (lv' := [(3, .long 0), (6, .int 1600), (5, .int 16), (7, .int 0), (1, .long 0), (0, .ref (a 0))]) hx hb d_Md_foretold_79 rfl hl (by decide) rfl (fun ls hl => ?_)
  refine lv_iconst (v := 0) hx hb d_Md_foretold_80 (by decide +kernel) ?_
  refine lv_istore (lv' := [(7, .int 0), (3, .long 0), (6, .int 1600), (5, .int 16), (1, .long 0), (0, .ref (a 0))]) hx hb d_Md_foretold_81 hl (by decide) rfl (fun ls hl => ?_)
  refine lv_iload hx hb d_Md_foretold_83 (lv_at hl 0 rfl) ?_
  refine lv_aload_n hx hb d_Md_foretold_85 rfl (lv_at hl 5 rfl) ?_
  refine va_get (D := (dC, dI)) (ci := 7) (v := .int 0) (C := R_Md) (T := F_Md) (N := 64) hx hb htb i_Md hown hK hP 0 rfl rfl 60 (by decide) (htb (.fieldLink R_Md 323 "WaterMenModel" "pensioners" "I") tw_376) (fun _ h9 => h9) rfl d_Md_foretold_86 ?_
  refine lv_icmp_ge (tgt := 140) hx hb d_Md_foretold_89 (by decide) (fun _ => ?_) (fun h => absurd (by decide +kernel) h)
  refine lv_iinc (v := 17) (lv' := [(5, .int 17), (7, .int 0), (3, .long 0), (6, .int 1600), (1, .long 0), (0, .ref (a 0))]) hx hb d_Md_foretold_140 hl (k := 3) rfl (by decide +kernel) (by decide) rfl (fun ls hl => ?_)
  refine lv_goto (tgt := 54) hx hb d_Md_foretold_143 (by decide) ?_
  refine lv_iload hx hb d_Md_foretold_54 (lv_at hl 0 rfl) ?_
  refine lv_bipush (v := 40) hx hb d_Md_foretold_56 (by decide +kernel) ?_
  refine lv_icmp_gt (tgt := 146) hx hb d_Md_foretold_58 (by decide) (fun h => absurd h (by decide +kernel)) (fun _ => ?_)
  refine lv_aload_n hx hb d_Md_foretold_61 rfl (lv_at hl 5 rfl) ?_
  refine vp_callSi (va_Run.run (va_runV (As := []) (rest := []) ⟨hx, hb, hml, hown, htb⟩ (c_Md_today l dC dI a k) (cwV 0 htb (gd_V tw_313 tw_314 tw_315 tw_296 tw_312) rfl rfl rfl (by decide +kernel) ⟨Nat.le_of_ble_eq_true rfl, Nat.le_of_ble_eq_true rfl⟩) ⟨pr_blind, va_recv hK hP (ci := 7) (q0 := 0) rfl rfl, pr_pre hP hK hN⟩ rfl rfl hl.1 rfl (lv_room (Nat.le_of_ble_eq_true rfl)) d_Md_foretold_62 ⟨Nat.le_of_ble_eq_true rfl, Nat.le_of_ble_eq_true rfl⟩)) (fun r er => ?_)
  subst er
  refine hb_ti 0 rfl ?_
  refine lv_bipush (v := 100) hx hb d_Md_foretold_65 (by decide +kernel) ?_
  refine lv_idiv hx hb d_Md_foretold_67 (by decide) ?_
  refine hb_ti 0 (by decide +kernel) ?_
  refine lv_iload hx hb d_Md_foretold_68 (lv_at hl 0 rfl) ?_
  refine lv_iadd hx hb d_Md_foretold_70 ?_
  refine hb_ti 17 (by decide +kernel) ?_
  refine lv_bipush (v := 100) hx hb d_Md_foretold_71 (by decide +kernel) ?_
  refine lv_imul hx hb d_Md_foretold_73 ?_
  refine hb_ti 1700 (by decide +kernel) ?_
  refine lv_istore (lv' := [(6, .int 1700), (5, .int 17), (7, .int 0), (3, .long 0), (1, .long 0), (0, .ref (a 0))]) hx hb d_Md_foretold_74 hl (by decide) rfl (fun ls hl => ?_)
  refine lv_lload_n hx hb d_Md_foretold_76 rfl (lv_at hl 3 rfl) ?_
  refine lv_lload_n hx hb d_Md_foretold_77 rfl (lv_at hl 4 rfl) ?_
  refine lv_ladd hx hb d_Md_foretold_78 ?_
  refine hb_tl 0 (by decide +kernel) ?_
  refine lv_lstore_n (lv' := [(3, .long 0), (6, .int 1700), (5, .int 17), (7, .int 0), (1, .long 0), (0, .ref (a 0))]) hx hb d_Md_foretold_79 rfl hl (by decide) rfl (fun ls hl => ?_)
  refine lv_iconst (v := 0) hx hb d_Md_foretold_80 (by decide +kernel) ?_
  refine lv_istore (lv' := [(7, .int 0), (3, .long 0), (6, .int 1700), (5, .int 17), (1, .long 0), (0, .ref (a 0))]) hx hb d_Md_foretold_81 hl (by decide) rfl (fun ls hl => ?_)
  refine lv_iload hx hb d_Md_foretold_83 (lv_at hl 0 rfl) ?_
  refine lv_aload_n hx hb d_Md_foretold_85 rfl (lv_at hl 5 rfl) ?_
  refine va_get (D := (dC, dI)) (ci := 7) (v := .int 0) (C := R_Md) (T := F_Md) (N := 64) hx hb htb i_Md hown hK hP 0 rfl rfl 60 (by decide) (htb (.fieldLink R_Md 323 "WaterMenModel" "pensioners" "I") tw_376) (fun _ h9 => h9) rfl d_Md_foretold_86 ?_
  refine lv_icmp_ge (tgt := 140) hx hb d_Md_foretold_89 (by decide) (fun _ => ?_) (fun h => absurd (by decide +kernel) h)
  refine lv_iinc (v := 18) (lv' := [(5, .int 18), (7, .int 0), (3, .long 0), (6, .int 1700), (1, .long 0), (0, .ref (a 0))]) hx hb d_Md_foretold_140 hl (k := 3) rfl (by decide +kernel) (by decide) rfl (fun ls hl => ?_)
  refine lv_goto (tgt := 54) hx hb d_Md_foretold_143 (by decide) ?_
  refine lv_iload hx hb d_Md_foretold_54 (lv_at hl 0 rfl) ?_
  refine lv_bipush (v := 40) hx hb d_Md_foretold_56 (by decide +kernel) ?_
  refine lv_icmp_gt (tgt := 146) hx hb d_Md_foretold_58 (by decide) (fun h => absurd h (by decide +kernel)) (fun _ => ?_)
  refine lv_aload_n hx hb d_Md_foretold_61 rfl (lv_at hl 5 rfl) ?_
  refine vp_callSi (va_Run.run (va_runV (As := []) (rest := []) ⟨hx, hb, hml, hown, htb⟩ (c_Md_today l dC dI a k) (cwV 0 htb (gd_V tw_313 tw_314 tw_315 tw_296 tw_312) rfl rfl rfl (by decide +kernel) ⟨Nat.le_of_ble_eq_true rfl, Nat.le_of_ble_eq_true rfl⟩) ⟨pr_blind, va_recv hK hP (ci := 7) (q0 := 0) rfl rfl, pr_pre hP hK hN⟩ rfl rfl hl.1 rfl (lv_room (Nat.le_of_ble_eq_true rfl)) d_Md_foretold_62 ⟨Nat.le_of_ble_eq_true rfl, Nat.le_of_ble_eq_true rfl⟩)) (fun r er => ?_)
  subst er
  refine hb_ti 0 rfl ?_
  refine lv_bipush (v := 100) hx hb d_Md_foretold_65 (by decide +kernel) ?_
  refine lv_idiv hx hb d_Md_foretold_67 (by decide) ?_
  refine hb_ti 0 (by decide +kernel) ?_
  refine lv_iload hx hb d_Md_foretold_68 (lv_at hl 0 rfl) ?_
  refine lv_iadd hx hb d_Md_foretold_70 ?_
  refine hb_ti 18 (by decide +kernel) ?_
  refine lv_bipush (v := 100) hx hb d_Md_foretold_71 (by decide +kernel) ?_
  refine lv_imul hx hb d_Md_foretold_73 ?_
  refine hb_ti 1800 (by decide +kernel) ?_
  refine lv_istore (lv' := [(6, .int 1800), (5, .int 18), (7, .int 0), (3, .long 0), (1, .long 0), (0, .ref (a 0))]) hx hb d_Md_foretold_74 hl (by decide) rfl (fun ls hl => ?_)
  refine lv_lload_n hx hb d_Md_foretold_76 rfl (lv_at hl 3 rfl) ?_
  refine lv_lload_n hx hb d_Md_foretold_77 rfl (lv_at hl 4 rfl) ?_
  refine lv_ladd hx hb d_Md_foretold_78 ?_
  refine hb_tl 0 (by decide +kernel) ?_
  refine lv_lstore_n (lv' := [(3, .long 0), (6, .int 1800), (5, .int 18), (7, .int 0), (1, .long 0), (0, .ref (a 0))]) hx hb d_Md_foretold_79 rfl hl (by decide) rfl (fun ls hl => ?_)
  refine lv_iconst (v := 0) hx hb d_Md_foretold_80 (by decide +kernel) ?_
  refine lv_istore (lv' := [(7, .int 0), (3, .long 0), (6, .int 1800), (5, .int 18), (1, .long 0), (0, .ref (a 0))]) hx hb d_Md_foretold_81 hl (by decide) rfl (fun ls hl => ?_)
  refine lv_iload hx hb d_Md_foretold_83 (lv_at hl 0 rfl) ?_
  refine lv_aload_n hx hb d_Md_foretold_85 rfl (lv_at hl 5 rfl) ?_
  refine va_get (D := (dC, dI)) (ci := 7) (v := .int 0) (C := R_Md) (T := F_Md) (N := 64) hx hb htb i_Md hown hK hP 0 rfl rfl 60 (by decide) (htb (.fieldLink R_Md 323 "WaterMenModel" "pensioners" "I") tw_376) (fun _ h9 => h9) rfl d_Md_foretold_86 ?_
  refine lv_icmp_ge (tgt := 140) hx hb d_Md_foretold_89 (by decide) (fun _ => ?_) (fun h => absurd (by decide +kernel) h)
  refine lv_iinc (v := 19) (lv' := [(5, .int 19), (7, .int 0), (3, .long 0), (6, .int 1800), (1, .long 0), (0, .ref (a 0))]) hx hb d_Md_foretold_140 hl (k := 3) rfl (by decide +kernel) (by decide) rfl (fun ls hl => ?_)
  refine lv_goto (tgt := 54) hx hb d_Md_foretold_143 (by decide) ?_
  refine lv_iload hx hb d_Md_foretold_54 (lv_at hl 0 rfl) ?_
  refine lv_bipush (v := 40) hx hb d_Md_foretold_56 (by decide +kernel) ?_
  refine lv_icmp_gt (tgt := 146) hx hb d_Md_foretold_58 (by decide) (fun h => absurd h (by decide +kernel)) (fun _ => ?_)
  refine lv_aload_n hx hb d_Md_foretold_61 rfl (lv_at hl 5 rfl) ?_
  refine vp_callSi (va_Run.run (va_runV (As := []) (rest := []) ⟨hx, hb, hml, hown, htb⟩ (c_Md_today l dC dI a k) (cwV 0 htb (gd_V tw_313 tw_314 tw_315 tw_296 tw_312) rfl rfl rfl (by decide +kernel) ⟨Nat.le_of_ble_eq_true rfl, Nat.le_of_ble_eq_true rfl⟩) ⟨pr_blind, va_recv hK hP (ci := 7) (q0 := 0) rfl rfl, pr_pre hP hK hN⟩ rfl rfl hl.1 rfl (lv_room (Nat.le_of_ble_eq_true rfl)) d_Md_foretold_62 ⟨Nat.le_of_ble_eq_true rfl, Nat.le_of_ble_eq_true rfl⟩)) (fun r er => ?_)
  subst er
  refine hb_ti 0 rfl ?_
  refine lv_bipush (v := 100) hx hb d_Md_foretold_65 (by decide +kernel) ?_
  refine lv_idiv hx hb d_Md_foretold_67 (by decide) ?_
  refine hb_ti 0 (by decide +kernel) ?_
  refine lv_iload hx hb d_Md_foretold_68 (lv_at hl 0 rfl) ?_
  refine lv_iadd hx hb d_Md_foretold_70 ?_
  refine hb_ti 19 (by decide +kernel) ?_
  refine lv_bipush (v := 100) hx hb d_Md_foretold_71 (by decide +kernel) ?_
  refine lv_imul hx hb d_Md_foretold_73 ?_
  refine hb_ti 1900 (by decide +kernel) ?_
  refine lv_istore (lv' := [(6, .int 1900), (5, .int 19), (7, .int 0), (3, .long 0), (1, .long 0), (0, .ref (a 0))]) hx hb d_Md_foretold_74 hl (by decide) rfl (fun ls hl => ?_)
  refine lv_lload_n hx hb d_Md_foretold_76 rfl (lv_at hl 3 rfl) ?_
  refine lv_lload_n hx hb d_Md_foretold_77 rfl (lv_at hl 4 rfl) ?_
  refine lv_ladd hx hb d_Md_foretold_78 ?_
  refine hb_tl 0 (by decide +kernel) ?_
  refine lv_lstore_n (lv' := [(3, .long 0), (6, .int 1900), (5, .int 19), (7, .int 0), (1, .long 0), (0, .ref (a 0))]) hx hb d_Md_foretold_79 rfl hl (by decide) rfl (fun ls hl => ?_)
  refine lv_iconst (v := 0) hx hb d_Md_foretold_80 (by decide +kernel) ?_
  refine lv_istore (lv' := [(7, .int 0), (3, .long 0), (6, .int 1900), (5, .int 19), (1, .long 0), (0, .ref (a 0))]) hx hb d_Md_foretold_81 hl (by decide) rfl (fun ls hl => ?_)
  refine lv_iload hx hb d_Md_foretold_83 (lv_at hl 0 rfl) ?_
  refine lv_aload_n hx hb d_Md_foretold_85 rfl (lv_at hl 5 rfl) ?_
  refine va_get (D := (dC, dI)) (ci := 7) (v := .int 0) (C := R_Md) (T := F_Md) (N := 64) hx hb htb i_Md hown hK hP 0 rfl rfl 60 (by decide) (htb (.fieldLink R_Md 323 "WaterMenModel" "pensioners" "I") tw_376) (fun _ h9 => h9) rfl d_Md_foretold_86 ?_
  refine lv_icmp_ge (tgt := 140) hx hb d_Md_foretold_89 (by decide) (fun _ => ?_) (fun h => absurd (by decide +kernel) h)
  refine lv_iinc (v := 20) (lv' := [(5, .int 20), (7, .int 0), (3, .long 0), (6, .int 1900), (1, .long 0), (0, .ref (a 0))]) hx hb d_Md_foretold_140 hl (k := 3) rfl (by decide +kernel) (by decide) rfl (fun ls hl => ?_)
  refine lv_goto (tgt := 54) hx hb d_Md_foretold_143 (by decide) ?_
  refine lv_iload hx hb d_Md_foretold_54 (lv_at hl 0 rfl) ?_
  refine lv_bipush (v := 40) hx hb d_Md_foretold_56 (by decide +kernel) ?_
  refine lv_icmp_gt (tgt := 146) hx hb d_Md_foretold_58 (by decide) (fun h => absurd h (by decide +kernel)) (fun _ => ?_)
  refine lv_aload_n hx hb d_Md_foretold_61 rfl (lv_at hl 5 rfl) ?_
  refine vp_callSi (va_Run.run (va_runV (As := []) (rest := []) ⟨hx, hb, hml, hown, htb⟩ (c_Md_today l dC dI a k) (cwV 0 htb (gd_V tw_313 tw_314 tw_315 tw_296 tw_312) rfl rfl rfl (by decide +kernel) ⟨Nat.le_of_ble_eq_true rfl, Nat.le_of_ble_eq_true rfl⟩) ⟨pr_blind, va_recv hK hP (ci := 7) (q0 := 0) rfl rfl, pr_pre hP hK hN⟩ rfl rfl hl.1 rfl (lv_room (Nat.le_of_ble_eq_true rfl)) d_Md_foretold_62 ⟨Nat.le_of_ble_eq_true rfl, Nat.le_of_ble_eq_true rfl⟩)) (fun r er => ?_)
  subst er
  refine hb_ti 0 rfl ?_
  refine lv_bipush (v := 100) hx hb d_Md_foretold_65 (by decide +kernel) ?_
  refine lv_idiv hx hb d_Md_foretold_67 (by decide) ?_
  refine hb_ti 0 (by decide +kernel) ?_
  refine lv_iload hx hb d_Md_foretold_68 (lv_at hl 0 rfl) ?_
  refine lv_iadd hx hb d_Md_foretold_70 ?_
  refine hb_ti 20 (by decide +kernel) ?_
  refine lv_bipush (v := 100) hx hb d_Md_foretold_71 (by decide +kernel) ?_
  refine lv_imul hx hb d_Md_foretold_73 ?_
  refine hb_ti 2000 (by decide +kernel) ?_
  refine lv_istore (lv' := [(6, .int 2000), (5, .int 20), (7, .int 0), (3, .long 0), (1, .long 0), (0, .ref (a 0))]) hx hb d_Md_foretold_74 hl (by decide) rfl (fun ls hl => ?_)
  refine lv_lload_n hx hb d_Md_foretold_76 rfl (lv_at hl 3 rfl) ?_
  refine lv_lload_n hx hb d_Md_foretold_77 rfl (lv_at hl 4 rfl) ?_
  refine lv_ladd hx hb d_Md_foretold_78 ?_
  refine hb_tl 0 (by decide +kernel) ?_
  refine lv_lstore_n (lv' := [(3, .long 0), (6, .int 2000), (5, .int 20), (7, .int 0), (1, .long 0), (0, .ref (a 0))]) hx hb d_Md_foretold_79 rfl hl (by decide) rfl (fun ls hl => ?_)
  refine lv_iconst (v := 0) hx hb d_Md_foretold_80 (by decide +kernel) ?_
  refine lv_istore (lv' := [(7, .int 0), (3, .long 0), (6, .int 2000), (5, .int 20), (1, .long 0), (0, .ref (a 0))]) hx hb d_Md_foretold_81 hl (by decide) rfl (fun ls hl => ?_)
  refine lv_iload hx hb d_Md_foretold_83 (lv_at hl 0 rfl) ?_
  refine lv_aload_n hx hb d_Md_foretold_85 rfl (lv_at hl 5 rfl) ?_
  refine va_get (D := (dC, dI)) (ci := 7) (v := .int 0) (C := R_Md) (T := F_Md) (N := 64) hx hb htb i_Md hown hK hP 0 rfl rfl 60 (by decide) (htb (.fieldLink R_Md 323 "WaterMenModel" "pensioners" "I") tw_376) (fun _ h9 => h9) rfl d_Md_foretold_86 ?_
  refine lv_icmp_ge (tgt := 140) hx hb d_Md_foretold_89 (by decide) (fun _ => ?_) (fun h => absurd (by decide +kernel) h)
  refine lv_iinc (v := 21) (lv' := [(5, .int 21), (7, .int 0), (3, .long 0), (6, .int 2000), (1, .long 0), (0, .ref (a 0))]) hx hb d_Md_foretold_140 hl (k := 3) rfl (by decide +kernel) (by decide) rfl (fun ls hl => ?_)
  refine lv_goto (tgt := 54) hx hb d_Md_foretold_143 (by decide) ?_
  refine lv_iload hx hb d_Md_foretold_54 (lv_at hl 0 rfl) ?_
  refine lv_bipush (v := 40) hx hb d_Md_foretold_56 (by decide +kernel) ?_
  refine lv_icmp_gt (tgt := 146) hx hb d_Md_foretold_58 (by decide) (fun h => absurd h (by decide +kernel)) (fun _ => ?_)
  refine lv_aload_n hx hb d_Md_foretold_61 rfl (lv_at hl 5 rfl) ?_
  refine vp_callSi (va_Run.run (va_runV (As := []) (rest := []) ⟨hx, hb, hml, hown, htb⟩ (c_Md_today l dC dI a k) (cwV 0 htb (gd_V tw_313 tw_314 tw_315 tw_296 tw_312) rfl rfl rfl (by decide +kernel) ⟨Nat.le_of_ble_eq_true rfl, Nat.le_of_ble_eq_true rfl⟩) ⟨pr_blind, va_recv hK hP (ci := 7) (q0 := 0) rfl rfl, pr_pre hP hK hN⟩ rfl rfl hl.1 rfl (lv_room (Nat.le_of_ble_eq_true rfl)) d_Md_foretold_62 ⟨Nat.le_of_ble_eq_true rfl, Nat.le_of_ble_eq_true rfl⟩)) (fun r er => ?_)
  subst er
  refine hb_ti 0 rfl ?_
  refine lv_bipush (v := 100) hx hb d_Md_foretold_65 (by decide +kernel) ?_
  refine lv_idiv hx hb d_Md_foretold_67 (by decide) ?_
  refine hb_ti 0 (by decide +kernel) ?_
  refine lv_iload hx hb d_Md_foretold_68 (lv_at hl 0 rfl) ?_
  refine lv_iadd hx hb d_Md_foretold_70 ?_
  refine hb_ti 21 (by decide +kernel) ?_
  refine lv_bipush (v := 100) hx hb d_Md_foretold_71 (by decide +kernel) ?_
  refine lv_imul hx hb d_Md_foretold_73 ?_
  refine hb_ti 2100 (by decide +kernel) ?_
  refine lv_istore (lv' := [(6, .int 2100), (5, .int 21), (7, .int 0), (3, .long 0), (1, .long 0), (0, .ref (a 0))]) hx hb d_Md_foretold_74 hl (by decide) rfl (fun ls hl => ?_)
  refine lv_lload_n hx hb d_Md_foretold_76 rfl (lv_at hl 3 rfl) ?_
  refine lv_lload_n hx hb d_Md_foretold_77 rfl (lv_at hl 4 rfl) ?_
  refine lv_ladd hx hb d_Md_foretold_78 ?_
  refine hb_tl 0 (by decide +kernel) ?_
  refine lv_lstore_n (lv' := [(3, .long 0), (6, .int 2100), (5, .int 21), (7, .int 0), (1, .long 0), (0, .ref (a 0))]) hx hb d_Md_foretold_79 rfl hl (by decide) rfl (fun ls hl => ?_)
  refine lv_iconst (v := 0) hx hb d_Md_foretold_80 (by decide +kernel) ?_
  refine lv_istore (lv' := [(7, .int 0), (3, .long 0), (6, .int 2100), (5, .int 21), (1, .long 0), (0, .ref (a 0))]) hx hb d_Md_foretold_81 hl (by decide) rfl (fun ls hl => ?_)
  refine lv_iload hx hb d_Md_foretold_83 (lv_at hl 0 rfl) ?_
  refine lv_aload_n hx hb d_Md_foretold_85 rfl (lv_at hl 5 rfl) ?_
  refine va_get (D := (dC, dI)) (ci := 7) (v := .int 0) (C := R_Md) (T := F_Md) (N := 64) hx hb htb i_Md hown hK hP 0 rfl rfl 60 (by decide) (htb (.fieldLink R_Md 323 "WaterMenModel" "pensioners" "I") tw_376) (fun _ h9 => h9) rfl d_Md_foretold_86 ?_
  refine lv_icmp_ge (tgt := 140) hx hb d_Md_foretold_89 (by decide) (fun _ => ?_) (fun h => absurd (by decide +kernel) h)
  refine lv_iinc (v := 22) (lv' := [(5, .int 22), (7, .int 0), (3, .long 0), (6, .int 2100), (1, .long 0), (0, .ref (a 0))]) hx hb d_Md_foretold_140 hl (k := 3) rfl (by decide +kernel) (by decide) rfl (fun ls hl => ?_)
  refine lv_goto (tgt := 54) hx hb d_Md_foretold_143 (by decide) ?_
  refine lv_iload hx hb d_Md_foretold_54 (lv_at hl 0 rfl) ?_
  refine lv_bipush (v := 40) hx hb d_Md_foretold_56 (by decide +kernel) ?_
  refine lv_icmp_gt (tgt := 146) hx hb d_Md_foretold_58 (by decide) (fun h => absurd h (by decide +kernel)) (fun _ => ?_)
  refine lv_aload_n hx hb d_Md_foretold_61 rfl (lv_at hl 5 rfl) ?_
  refine vp_callSi (va_Run.run (va_runV (As := []) (rest := []) ⟨hx, hb, hml, hown, htb⟩ (c_Md_today l dC dI a k) (cwV 0 htb (gd_V tw_313 tw_314 tw_315 tw_296 tw_312) rfl rfl rfl (by decide +kernel) ⟨Nat.le_of_ble_eq_true rfl, Nat.le_of_ble_eq_true rfl⟩) ⟨pr_blind, va_recv hK hP (ci := 7) (q0 := 0) rfl rfl, pr_pre hP hK hN⟩ rfl rfl hl.1 rfl (lv_room (Nat.le_of_ble_eq_true rfl)) d_Md_foretold_62 ⟨Nat.le_of_ble_eq_true rfl, Nat.le_of_ble_eq_true rfl⟩)) (fun r er => ?_)
  subst er
  refine hb_ti 0 rfl ?_
  refine lv_bipush (v := 100) hx hb d_Md_foretold_65 (by decide +kernel) ?_
  refine lv_idiv hx hb d_Md_foretold_67 (by decide) ?_
  refine hb_ti 0 (by decide +kernel) ?_
  refine lv_iload hx hb d_Md_foretold_68 (lv_at hl 0 rfl) ?_
  refine lv_iadd hx hb d_Md_foretold_70 ?_
  refine hb_ti 22 (by decide +kernel) ?_
  refine lv_bipush (v := 100) hx hb d_Md_foretold_71 (by decide +kernel) ?_
  refine lv_imul hx hb d_Md_foretold_73 ?_
  refine hb_ti 2200 (by decide +kernel) ?_
  refine lv_istore (lv' := [(6, .int 2200), (5, .int 22), (7, .int 0), (3, .long 0), (1, .long 0), (0, .ref (a 0))]) hx hb d_Md_foretold_74 hl (by decide) rfl (fun ls hl => ?_)
  refine lv_lload_n hx hb d_Md_foretold_76 rfl (lv_at hl 3 rfl) ?_
  refine lv_lload_n hx hb d_Md_foretold_77 rfl (lv_at hl 4 rfl) ?_
  refine lv_ladd hx hb d_Md_foretold_78 ?_
  refine hb_tl 0 (by decide +kernel) ?_
  refine lv_lstore_n (lv' := [(3, .long 0), (6, .int 2200), (5, .int 22), (7, .int 0), (1, .long 0), (0, .ref (a 0))]) hx hb d_Md_foretold_79 rfl hl (by decide) rfl (fun ls hl => ?_)
  refine lv_iconst (v := 0) hx hb d_Md_foretold_80 (by decide +kernel) ?_
  refine lv_istore (lv' := [(7, .int 0), (3, .long 0), (6, .int 2200), (5, .int 22), (1, .long 0), (0, .ref (a 0))]) hx hb d_Md_foretold_81 hl (by decide) rfl (fun ls hl => ?_)
  refine lv_iload hx hb d_Md_foretold_83 (lv_at hl 0 rfl) ?_
  refine lv_aload_n hx hb d_Md_foretold_85 rfl (lv_at hl 5 rfl) ?_
  refine va_get (D := (dC, dI)) (ci := 7) (v := .int 0) (C := R_Md) (T := F_Md) (N := 64) hx hb htb i_Md hown hK hP 0 rfl rfl 60 (by decide) (htb (.fieldLink R_Md 323 "WaterMenModel" "pensioners" "I") tw_376) (fun _ h9 => h9) rfl d_Md_foretold_86 ?_
  refine lv_icmp_ge (tgt := 140) hx hb d_Md_foretold_89 (by decide) (fun _ => ?_) (fun h => absurd (by decide +kernel) h)
  refine lv_iinc (v := 23) (lv' := [(5, .int 23), (7, .int 0), (3, .long 0), (6, .int 2200), (1, .long 0), (0, .ref (a 0))]) hx hb d_Md_foretold_140 hl (k := 3) rfl (by decide +kernel) (by decide) rfl (fun ls hl => ?_)
  refine lv_goto (tgt := 54) hx hb d_Md_foretold_143 (by decide) ?_
  refine lv_iload hx hb d_Md_foretold_54 (lv_at hl 0 rfl) ?_
  refine lv_bipush (v := 40) hx hb d_Md_foretold_56 (by decide +kernel) ?_
  refine lv_icmp_gt (tgt := 146) hx hb d_Md_foretold_58 (by decide) (fun h => absurd h (by decide +kernel)) (fun _ => ?_)
  refine lv_aload_n hx hb d_Md_foretold_61 rfl (lv_at hl 5 rfl) ?_
  refine vp_callSi (va_Run.run (va_runV (As := []) (rest := []) ⟨hx, hb, hml, hown, htb⟩ (c_Md_today l dC dI a k) (cwV 0 htb (gd_V tw_313 tw_314 tw_315 tw_296 tw_312) rfl rfl rfl (by decide +kernel) ⟨Nat.le_of_ble_eq_true rfl, Nat.le_of_ble_eq_true rfl⟩) ⟨pr_blind, va_recv hK hP (ci := 7) (q0 := 0) rfl rfl, pr_pre hP hK hN⟩ rfl rfl hl.1 rfl (lv_room (Nat.le_of_ble_eq_true rfl)) d_Md_foretold_62 ⟨Nat.le_of_ble_eq_true rfl, Nat.le_of_ble_eq_true rfl⟩)) (fun r er => ?_)
  subst er
  refine hb_ti 0 rfl ?_
  refine lv_bipush (v := 100) hx hb d_Md_foretold_65 (by decide +kernel) ?_
  refine lv_idiv hx hb d_Md_foretold_67 (by decide) ?_
  refine hb_ti 0 (by decide +kernel) ?_
  refine lv_iload hx hb d_Md_foretold_68 (lv_at hl 0 rfl) ?_
  refine lv_iadd hx hb d_Md_foretold_70 ?_
  refine hb_ti 23 (by decide +kernel) ?_
  refine lv_bipush (v := 100) hx hb d_Md_foretold_71 (by decide +kernel) ?_
  refine lv_imul hx hb d_Md_foretold_73 ?_
  refine hb_ti 2300 (by decide +kernel) ?_
  refine lv_istore (lv' := [(6, .int 2300), (5, .int 23), (7, .int 0), (3, .long 0), (1, .long 0), (0, .ref (a 0))]) hx hb d_Md_foretold_74 hl (by decide) rfl (fun ls hl => ?_)
  refine lv_lload_n hx hb d_Md_foretold_76 rfl (lv_at hl 3 rfl) ?_
  refine lv_lload_n hx hb d_Md_foretold_77 rfl (lv_at hl 4 rfl) ?_
  refine lv_ladd hx hb d_Md_foretold_78 ?_
  refine hb_tl 0 (by decide +kernel) ?_
  refine lv_lstore_n (lv' := [(3, .long 0), (6, .int 2300), (5, .int 23), (7, .int 0), (1, .long 0), (0, .ref (a 0))]) hx hb d_Md_foretold_79 rfl hl (by decide) rfl (fun ls hl => ?_)
  refine lv_iconst (v := 0) hx hb d_Md_foretold_80 (by decide +kernel) ?_
  refine lv_istore (lv' := [(7, .int 0), (3, .long 0), (6, .int 2300), (5, .int 23), (1, .long 0), (0, .ref (a 0))]) hx hb d_Md_foretold_81 hl (by decide) rfl (fun ls hl => ?_)
  refine lv_iload hx hb d_Md_foretold_83 (lv_at hl 0 rfl) ?_
  refine lv_aload_n hx hb d_Md_foretold_85 rfl (lv_at hl 5 rfl) ?_
  refine va_get (D := (dC, dI)) (ci := 7) (v := .int 0) (C := R_Md) (T := F_Md) (N := 64) hx hb htb i_Md hown hK hP 0 rfl rfl 60 (by decide) (htb (.fieldLink R_Md 323 "WaterMenModel" "pensioners" "I") tw_376) (fun _ h9 => h9) rfl d_Md_foretold_86 ?_
  refine lv_icmp_ge (tgt := 140) hx hb d_Md_foretold_89 (by decide) (fun _ => ?_) (fun h => absurd (by decide +kernel) h)
  refine lv_iinc (v := 24) (lv' := [(5, .int 24), (7, .int 0), (3, .long 0), (6, .int 2300), (1, .long 0), (0, .ref (a 0))]) hx hb d_Md_foretold_140 hl (k := 3) rfl (by decide +kernel) (by decide) rfl (fun ls hl => ?_)
  refine lv_goto (tgt := 54) hx hb d_Md_foretold_143 (by decide) ?_
  refine lv_iload hx hb d_Md_foretold_54 (lv_at hl 0 rfl) ?_
  refine lv_bipush (v := 40) hx hb d_Md_foretold_56 (by decide +kernel) ?_
  refine lv_icmp_gt (tgt := 146) hx hb d_Md_foretold_58 (by decide) (fun h => absurd h (by decide +kernel)) (fun _ => ?_)
  refine lv_aload_n hx hb d_Md_foretold_61 rfl (lv_at hl 5 rfl) ?_
  refine vp_callSi (va_Run.run (va_runV (As := []) (rest := []) ⟨hx, hb, hml, hown, htb⟩ (c_Md_today l dC dI a k) (cwV 0 htb (gd_V tw_313 tw_314 tw_315 tw_296 tw_312) rfl rfl rfl (by decide +kernel) ⟨Nat.le_of_ble_eq_true rfl, Nat.le_of_ble_eq_true rfl⟩) ⟨pr_blind, va_recv hK hP (ci := 7) (q0 := 0) rfl rfl, pr_pre hP hK hN⟩ rfl rfl hl.1 rfl (lv_room (Nat.le_of_ble_eq_true rfl)) d_Md_foretold_62 ⟨Nat.le_of_ble_eq_true rfl, Nat.le_of_ble_eq_true rfl⟩)) (fun r er => ?_)
  subst er
  refine hb_ti 0 rfl ?_
  refine lv_bipush (v := 100) hx hb d_Md_foretold_65 (by decide +kernel) ?_
  refine lv_idiv hx hb d_Md_foretold_67 (by decide) ?_
  refine hb_ti 0 (by decide +kernel) ?_
  refine lv_iload hx hb d_Md_foretold_68 (lv_at hl 0 rfl) ?_
  refine lv_iadd hx hb d_Md_foretold_70 ?_
  refine hb_ti 24 (by decide +kernel) ?_
  refine lv_bipush (v := 100) hx hb d_Md_foretold_71 (by decide +kernel) ?_
  refine lv_imul hx hb d_Md_foretold_73 ?_
  refine hb_ti 2400 (by decide +kernel) ?_
  refine lv_istore (lv' := [(6, .int 2400), (5, .int 24), (7, .int 0), (3, .long 0), (1, .long 0), (0, .ref (a 0))]) hx hb d_Md_foretold_74 hl (by decide) rfl (fun ls hl => ?_)
  refine lv_lload_n hx hb d_Md_foretold_76 rfl (lv_at hl 3 rfl) ?_
  refine lv_lload_n hx hb d_Md_foretold_77 rfl (lv_at hl 4 rfl) ?_
  refine lv_ladd hx hb d_Md_foretold_78 ?_
  refine hb_tl 0 (by decide +kernel) ?_
  refine lv_lstore_n (lv' := [(3, .long 0), (6, .int 2400), (5, .int 24), (7, .int 0), (1, .long 0), (0, .ref (a 0))]) hx hb d_Md_foretold_79 rfl hl (by decide) rfl (fun ls hl => ?_)
  refine lv_iconst (v := 0) hx hb d_Md_foretold_80 (by decide +kernel) ?_
  refine lv_istore (lv' := [(7, .int 0), (3, .long 0), (6, .int 2400), (5, .int 24), (1, .long 0), (0, .ref (a 0))]) hx hb d_Md_foretold_81 hl (by decide) rfl (fun ls hl => ?_)
  refine lv_iload hx hb d_Md_foretold_83 (lv_at hl 0 rfl) ?_
  refine lv_aload_n hx hb d_Md_foretold_85 rfl (lv_at hl 5 rfl) ?_
  refine va_get (D := (dC, dI)) (ci := 7) (v := .int 0) (C := R_Md) (T := F_Md) (N := 64) hx hb htb i_Md hown hK hP 0 rfl rfl 60 (by decide) (htb (.fieldLink R_Md 323 "WaterMenModel" "pensioners" "I") tw_376) (fun _ h9 => h9) rfl d_Md_foretold_86 ?_
  refine lv_icmp_ge (tgt := 140) hx hb d_Md_foretold_89 (by decide) (fun _ => ?_) (fun h => absurd (by decide +kernel) h)
  refine lv_iinc (v := 25) (lv' := [(5, .int 25), (7, .int 0), (3, .long 0), (6, .int 2400), (1, .long 0), (0, .ref (a 0))]) hx hb d_Md_foretold_140 hl (k := 3) rfl (by decide +kernel) (by decide) rfl (fun ls hl => ?_)
  refine lv_goto (tgt := 54) hx hb d_Md_foretold_143 (by decide) ?_
  refine lv_iload hx hb d_Md_foretold_54 (lv_at hl 0 rfl) ?_
  refine lv_bipush (v := 40) hx hb d_Md_foretold_56 (by decide +kernel) ?_
  refine lv_icmp_gt (tgt := 146) hx hb d_Md_foretold_58 (by decide) (fun h => absurd h (by decide +kernel)) (fun _ => ?_)
  refine lv_aload_n hx hb d_Md_foretold_61 rfl (lv_at hl 5 rfl) ?_
  refine vp_callSi (va_Run.run (va_runV (As := []) (rest := []) ⟨hx, hb, hml, hown, htb⟩ (c_Md_today l dC dI a k) (cwV 0 htb (gd_V tw_313 tw_314 tw_315 tw_296 tw_312) rfl rfl rfl (by decide +kernel) ⟨Nat.le_of_ble_eq_true rfl, Nat.le_of_ble_eq_true rfl⟩) ⟨pr_blind, va_recv hK hP (ci := 7) (q0 := 0) rfl rfl, pr_pre hP hK hN⟩ rfl rfl hl.1 rfl (lv_room (Nat.le_of_ble_eq_true rfl)) d_Md_foretold_62 ⟨Nat.le_of_ble_eq_true rfl, Nat.le_of_ble_eq_true rfl⟩)) (fun r er => ?_)
  subst er
  refine hb_ti 0 rfl ?_
  refine lv_bipush (v := 100) hx hb d_Md_foretold_65 (by decide +kernel) ?_
  refine lv_idiv hx hb d_Md_foretold_67 (by decide) ?_
  refine hb_ti 0 (by decide +kernel) ?_
  refine lv_iload hx hb d_Md_foretold_68 (lv_at hl 0 rfl) ?_
  refine lv_iadd hx hb d_Md_foretold_70 ?_
  refine hb_ti 25 (by decide +kernel) ?_
  refine lv_bipush (v := 100) hx hb d_Md_foretold_71 (by decide +kernel) ?_
  refine lv_imul hx hb d_Md_foretold_73 ?_
  refine hb_ti 2500 (by decide +kernel) ?_
  refine lv_istore (lv' := [(6, .int 2500), (5, .int 25), (7, .int 0), (3, .long 0), (1, .long 0), (0, .ref (a 0))]) hx hb d_Md_foretold_74 hl (by decide) rfl (fun ls hl => ?_)
  refine lv_lload_n hx hb d_Md_foretold_76 rfl (lv_at hl 3 rfl) ?_
  refine lv_lload_n hx hb d_Md_foretold_77 rfl (lv_at hl 4 rfl) ?_
  refine lv_ladd hx hb d_Md_foretold_78 ?_
  refine hb_tl 0 (by decide +kernel) ?_
  refine lv_lstore_n (lv' := [(3, .long 0), (6, .int 2500), (5, .int 25), (7, .int 0), (1, .long 0), (0, .ref (a 0))]) hx hb d_Md_foretold_79 rfl hl (by decide) rfl (fun ls hl => ?_)
  refine lv_iconst (v := 0) hx hb d_Md_foretold_80 (by decide +kernel) ?_
  refine lv_istore (lv' := [(7, .int 0), (3, .long 0), (6, .int 2500), (5, .int 25), (1, .long 0), (0, .ref (a 0))]) hx hb d_Md_foretold_81 hl (by decide) rfl (fun ls hl => ?_)
  refine lv_iload hx hb d_Md_foretold_83 (lv_at hl 0 rfl) ?_
  refine lv_aload_n hx hb d_Md_foretold_85 rfl (lv_at hl 5 rfl) ?_
  refine va_get (D := (dC, dI)) (ci := 7) (v := .int 0) (C := R_Md) (T := F_Md) (N := 64) hx hb htb i_Md hown hK hP 0 rfl rfl 60 (by decide) (htb (.fieldLink R_Md 323 "WaterMenModel" "pensioners" "I") tw_376) (fun _ h9 => h9) rfl d_Md_foretold_86 ?_
  refine lv_icmp_ge (tgt := 140) hx hb d_Md_foretold_89 (by decide) (fun _ => ?_) (fun h => absurd (by decide +kernel) h)
  refine lv_iinc (v := 26) (lv' := [(5, .int 26), (7, .int 0), (3, .long 0), (6, .int 2500), (1, .long 0), (0, .ref (a 0))]) hx hb d_Md_foretold_140 hl (k := 3) rfl (by decide +kernel) (by decide) rfl (fun ls hl => ?_)
  refine lv_goto (tgt := 54) hx hb d_Md_foretold_143 (by decide) ?_
  refine lv_iload hx hb d_Md_foretold_54 (lv_at hl 0 rfl) ?_
  refine lv_bipush (v := 40) hx hb d_Md_foretold_56 (by decide +kernel) ?_
  refine lv_icmp_gt (tgt := 146) hx hb d_Md_foretold_58 (by decide) (fun h => absurd h (by decide +kernel)) (fun _ => ?_)
  refine lv_aload_n hx hb d_Md_foretold_61 rfl (lv_at hl 5 rfl) ?_
  refine vp_callSi (va_Run.run (va_runV (As := []) (rest := []) ⟨hx, hb, hml, hown, htb⟩ (c_Md_today l dC dI a k) (cwV 0 htb (gd_V tw_313 tw_314 tw_315 tw_296 tw_312) rfl rfl rfl (by decide +kernel) ⟨Nat.le_of_ble_eq_true rfl, Nat.le_of_ble_eq_true rfl⟩) ⟨pr_blind, va_recv hK hP (ci := 7) (q0 := 0) rfl rfl, pr_pre hP hK hN⟩ rfl rfl hl.1 rfl (lv_room (Nat.le_of_ble_eq_true rfl)) d_Md_foretold_62 ⟨Nat.le_of_ble_eq_true rfl, Nat.le_of_ble_eq_true rfl⟩)) (fun r er => ?_)
  subst er
  refine hb_ti 0 rfl ?_
  refine lv_bipush (v := 100) hx hb d_Md_foretold_65 (by decide +kernel) ?_
  refine lv_idiv hx hb d_Md_foretold_67 (by decide) ?_
  refine hb_ti 0 (by decide +kernel) ?_
  refine lv_iload hx hb d_Md_foretold_68 (lv_at hl 0 rfl) ?_
  refine lv_iadd hx hb d_Md_foretold_70 ?_
  refine hb_ti 26 (by decide +kernel) ?_
  refine lv_bipush (v := 100) hx hb d_Md_foretold_71 (by decide +kernel) ?_
  refine lv_imul hx hb d_Md_foretold_73 ?_
  refine hb_ti 2600 (by decide +kernel) ?_
  refine lv_istore (lv' := [(6, .int 2600), (5, .int 26), (7, .int 0), (3, .long 0), (1, .long 0), (0, .ref (a 0))]) hx hb d_Md_foretold_74 hl (by decide) rfl (fun ls hl => ?_)
  refine lv_lload_n hx hb d_Md_foretold_76 rfl (lv_at hl 3 rfl) ?_
  refine lv_lload_n hx hb d_Md_foretold_77 rfl (lv_at hl 4 rfl) ?_
  refine lv_ladd hx hb d_Md_foretold_78 ?_
  refine hb_tl 0 (by decide +kernel) ?_
  refine lv_lstore_n (lv' := [(3, .long 0), (6, .int 2600), (5, .int 26), (7, .int 0), (1, .long 0), (0, .ref (a 0))]) hx hb d_Md_foretold_79 rfl hl (by decide) rfl (fun ls hl => ?_)
  refine lv_iconst (v := 0) hx hb d_Md_foretold_80 (by decide +kernel) ?_
  refine lv_istore (lv' := [(7, .int 0), (3, .long 0), (6, .int 2600), (5, .int 26), (1, .long 0), (0, .ref (a 0))]) hx hb d_Md_foretold_81 hl (by decide) rfl (fun ls hl => ?_)
  refine lv_iload hx hb d_Md_foretold_83 (lv_at hl 0 rfl) ?_
  refine lv_aload_n hx hb d_Md_foretold_85 rfl (lv_at hl 5 rfl) ?_
  refine va_get (D := (dC, dI)) (ci := 7) (v := .int 0) (C := R_Md) (T := F_Md) (N := 64) hx hb htb i_Md hown hK hP 0 rfl rfl 60 (by decide) (htb (.fieldLink R_Md 323 "WaterMenModel" "pensioners" "I") tw_376) (fun _ h9 => h9) rfl d_Md_foretold_86 ?_
  refine lv_icmp_ge (tgt := 140) hx hb d_Md_foretold_89 (by decide) (fun _ => ?_) (fun h => absurd (by decide +kernel) h)
  refine lv_iinc (v := 27) (lv' := [(5, .int 27), (7, .int 0), (3, .long 0), (6, .int 2600), (1, .long 0), (0, .ref (a 0))]) hx hb d_Md_foretold_140 hl (k := 3) rfl (by decide +kernel) (by decide) rfl (fun ls hl => ?_)
  refine lv_goto (tgt := 54) hx hb d_Md_foretold_143 (by decide) ?_
  refine lv_iload hx hb d_Md_foretold_54 (lv_at hl 0 rfl) ?_
  refine lv_bipush (v := 40) hx hb d_Md_foretold_56 (by decide +kernel) ?_
  refine lv_icmp_gt (tgt := 146) hx hb d_Md_foretold_58 (by decide) (fun h => absurd h (by decide +kernel)) (fun _ => ?_)
  refine lv_aload_n hx hb d_Md_foretold_61 rfl (lv_at hl 5 rfl) ?_
  refine vp_callSi (va_Run.run (va_runV (As := []) (rest := []) ⟨hx, hb, hml, hown, htb⟩ (c_Md_today l dC dI a k) (cwV 0 htb (gd_V tw_313 tw_314 tw_315 tw_296 tw_312) rfl rfl rfl (by decide +kernel) ⟨Nat.le_of_ble_eq_true rfl, Nat.le_of_ble_eq_true rfl⟩) ⟨pr_blind, va_recv hK hP (ci := 7) (q0 := 0) rfl rfl, pr_pre hP hK hN⟩ rfl rfl hl.1 rfl (lv_room (Nat.le_of_ble_eq_true rfl)) d_Md_foretold_62 ⟨Nat.le_of_ble_eq_true rfl, Nat.le_of_ble_eq_true rfl⟩)) (fun r er => ?_)
  subst er
  refine hb_ti 0 rfl ?_
  refine lv_bipush (v := 100) hx hb d_Md_foretold_65 (by decide +kernel) ?_
  refine lv_idiv hx hb d_Md_foretold_67 (by decide) ?_
  refine hb_ti 0 (by decide +kernel) ?_
  refine lv_iload hx hb d_Md_foretold_68 (lv_at hl 0 rfl) ?_
  refine lv_iadd hx hb d_Md_foretold_70 ?_
  refine hb_ti 27 (by decide +kernel) ?_
  refine lv_bipush (v := 100) hx hb d_Md_foretold_71 (by decide +kernel) ?_
  refine lv_imul hx hb d_Md_foretold_73 ?_
  refine hb_ti 2700 (by decide +kernel) ?_
  refine lv_istore (lv' := [(6, .int 2700), (5, .int 27), (7, .int 0), (3, .long 0), (1, .long 0), (0, .ref (a 0))]) hx hb d_Md_foretold_74 hl (by decide) rfl (fun ls hl => ?_)
  refine lv_lload_n hx hb d_Md_foretold_76 rfl (lv_at hl 3 rfl) ?_
  refine lv_lload_n hx hb d_Md_foretold_77 rfl (lv_at hl 4 rfl) ?_
  refine lv_ladd hx hb d_Md_foretold_78 ?_
  refine hb_tl 0 (by decide +kernel) ?_
  refine lv_lstore_n (lv' := [(3, .long 0), (6, .int 2700), (5, .int 27), (7, .int 0), (1, .long 0), (0, .ref (a 0))]) hx hb d_Md_foretold_79 rfl hl (by decide) rfl (fun ls hl => ?_)
  refine lv_iconst (v := 0) hx hb d_Md_foretold_80 (by decide +kernel) ?_
  refine lv_istore (lv' := [(7, .int 0), (3, .long 0), (6, .int 2700), (5, .int 27), (1, .long 0), (0, .ref (a 0))]) hx hb d_Md_foretold_81 hl (by decide) rfl (fun ls hl => ?_)
  refine lv_iload hx hb d_Md_foretold_83 (lv_at hl 0 rfl) ?_
  refine lv_aload_n hx hb d_Md_foretold_85 rfl (lv_at hl 5 rfl) ?_
  refine va_get (D := (dC, dI)) (ci := 7) (v := .int 0) (C := R_Md) (T := F_Md) (N := 64) hx hb htb i_Md hown hK hP 0 rfl rfl 60 (by decide) (htb (.fieldLink R_Md 323 "WaterMenModel" "pensioners" "I") tw_376) (fun _ h9 => h9) rfl d_Md_foretold_86 ?_
  refine lv_icmp_ge (tgt := 140) hx hb d_Md_foretold_89 (by decide) (fun _ => ?_) (fun h => absurd (by decide +kernel) h)
  refine lv_iinc (v := 28) (lv' := [(5, .int 28), (7, .int 0), (3, .long 0), (6, .int 2700), (1, .long 0), (0, .ref (a 0))]) hx hb d_Md_foretold_140 hl (k := 3) rfl (by decide +kernel) (by decide) rfl (fun ls hl => ?_)
  refine lv_goto (tgt := 54) hx hb d_Md_foretold_143 (by decide) ?_
  refine lv_iload hx hb d_Md_foretold_54 (lv_at hl 0 rfl) ?_
  refine lv_bipush (v := 40) hx hb d_Md_foretold_56 (by decide +kernel) ?_
  refine lv_icmp_gt (tgt := 146) hx hb d_Md_foretold_58 (by decide) (fun h => absurd h (by decide +kernel)) (fun _ => ?_)
  refine lv_aload_n hx hb d_Md_foretold_61 rfl (lv_at hl 5 rfl) ?_
  refine vp_callSi (va_Run.run (va_runV (As := []) (rest := []) ⟨hx, hb, hml, hown, htb⟩ (c_Md_today l dC dI a k) (cwV 0 htb (gd_V tw_313 tw_314 tw_315 tw_296 tw_312) rfl rfl rfl (by decide +kernel) ⟨Nat.le_of_ble_eq_true rfl, Nat.le_of_ble_eq_true rfl⟩) ⟨pr_blind, va_recv hK hP (ci := 7) (q0 := 0) rfl rfl, pr_pre hP hK hN⟩ rfl rfl hl.1 rfl (lv_room (Nat.le_of_ble_eq_true rfl)) d_Md_foretold_62 ⟨Nat.le_of_ble_eq_true rfl, Nat.le_of_ble_eq_true rfl⟩)) (fun r er => ?_)
  subst er
  refine hb_ti 0 rfl ?_
  refine lv_bipush (v := 100) hx hb d_Md_foretold_65 (by decide +kernel) ?_
  refine lv_idiv hx hb d_Md_foretold_67 (by decide) ?_
  refine hb_ti 0 (by decide +kernel) ?_
  refine lv_iload hx hb d_Md_foretold_68 (lv_at hl 0 rfl) ?_
  refine lv_iadd hx hb d_Md_foretold_70 ?_
  refine hb_ti 28 (by decide +kernel) ?_
  refine lv_bipush (v := 100) hx hb d_Md_foretold_71 (by decide +kernel) ?_
  refine lv_imul hx hb d_Md_foretold_73 ?_
  refine hb_ti 2800 (by decide +kernel) ?_
  refine lv_istore (lv' := [(6, .int 2800), (5, .int 28), (7, .int 0), (3, .long 0), (1, .long 0), (0, .ref (a 0))]) hx hb d_Md_foretold_74 hl (by decide) rfl (fun ls hl => ?_)
  refine lv_lload_n hx hb d_Md_foretold_76 rfl (lv_at hl 3 rfl) ?_
  refine lv_lload_n hx hb d_Md_foretold_77 rfl (lv_at hl 4 rfl) ?_
  refine lv_ladd hx hb d_Md_foretold_78 ?_
  refine hb_tl 0 (by decide +kernel) ?_
  refine lv_lstore_n (lv' := [(3, .long 0), (6, .int 2800), (5, .int 28), (7, .int 0), (1, .long 0), (0, .ref (a 0))]) hx hb d_Md_foretold_79 rfl hl (by decide) rfl (fun ls hl => ?_)
  refine lv_iconst (v := 0) hx hb d_Md_foretold_80 (by decide +kernel) ?_
  refine lv_istore (lv' := [(7, .int 0), (3, .long 0), (6, .int 2800), (5, .int 28), (1, .long 0), (0, .ref (a 0))]) hx hb d_Md_foretold_81 hl (by decide) rfl (fun ls hl => ?_)
  refine lv_iload hx hb d_Md_foretold_83 (lv_at hl 0 rfl) ?_
  refine lv_aload_n hx hb d_Md_foretold_85 rfl (lv_at hl 5 rfl) ?_
  refine va_get (D := (dC, dI)) (ci := 7) (v := .int 0) (C := R_Md) (T := F_Md) (N := 64) hx hb htb i_Md hown hK hP 0 rfl rfl 60 (by decide) (htb (.fieldLink R_Md 323 "WaterMenModel" "pensioners" "I") tw_376) (fun _ h9 => h9) rfl d_Md_foretold_86 ?_
  refine lv_icmp_ge (tgt := 140) hx hb d_Md_foretold_89 (by decide) (fun _ => ?_) (fun h => absurd (by decide +kernel) h)
  refine lv_iinc (v := 29) (lv' := [(5, .int 29), (7, .int 0), (3, .long 0), (6, .int 2800), (1, .long 0), (0, .ref (a 0))]) hx hb d_Md_foretold_140 hl (k := 3) rfl (by decide +kernel) (by decide) rfl (fun ls hl => ?_)
  refine lv_goto (tgt := 54) hx hb d_Md_foretold_143 (by decide) ?_
  refine lv_iload hx hb d_Md_foretold_54 (lv_at hl 0 rfl) ?_
  refine lv_bipush (v := 40) hx hb d_Md_foretold_56 (by decide +kernel) ?_
  refine lv_icmp_gt (tgt := 146) hx hb d_Md_foretold_58 (by decide) (fun h => absurd h (by decide +kernel)) (fun _ => ?_)
  refine lv_aload_n hx hb d_Md_foretold_61 rfl (lv_at hl 5 rfl) ?_
  refine vp_callSi (va_Run.run (va_runV (As := []) (rest := []) ⟨hx, hb, hml, hown, htb⟩ (c_Md_today l dC dI a k) (cwV 0 htb (gd_V tw_313 tw_314 tw_315 tw_296 tw_312) rfl rfl rfl (by decide +kernel) ⟨Nat.le_of_ble_eq_true rfl, Nat.le_of_ble_eq_true rfl⟩) ⟨pr_blind, va_recv hK hP (ci := 7) (q0 := 0) rfl rfl, pr_pre hP hK hN⟩ rfl rfl hl.1 rfl (lv_room (Nat.le_of_ble_eq_true rfl)) d_Md_foretold_62 ⟨Nat.le_of_ble_eq_true rfl, Nat.le_of_ble_eq_true rfl⟩)) (fun r er => ?_)
  subst er
  refine hb_ti 0 rfl ?_
  refine lv_bipush (v := 100) hx hb d_Md_foretold_65 (by decide +kernel) ?_
  refine lv_idiv hx hb d_Md_foretold_67 (by decide) ?_
  refine hb_ti 0 (by decide +kernel) ?_
  refine lv_iload hx hb d_Md_foretold_68 (lv_at hl 0 rfl) ?_
  refine lv_iadd hx hb d_Md_foretold_70 ?_
  refine hb_ti 29 (by decide +kernel) ?_
  refine lv_bipush (v := 100) hx hb d_Md_foretold_71 (by decide +kernel) ?_
  refine lv_imul hx hb d_Md_foretold_73 ?_
  refine hb_ti 2900 (by decide +kernel) ?_
  refine lv_istore (lv' := [(6, .int 2900), (5, .int 29), (7, .int 0), (3, .long 0), (1, .long 0), (0, .ref (a 0))]) hx hb d_Md_foretold_74 hl (by decide) rfl (fun ls hl => ?_)
  refine lv_lload_n hx hb d_Md_foretold_76 rfl (lv_at hl 3 rfl) ?_
  refine lv_lload_n hx hb d_Md_foretold_77 rfl (lv_at hl 4 rfl) ?_
  refine lv_ladd hx hb d_Md_foretold_78 ?_
  refine hb_tl 0 (by decide +kernel) ?_
  refine lv_lstore_n (lv' := [(3, .long 0), (6, .int 2900), (5, .int 29), (7, .int 0), (1, .long 0), (0, .ref (a 0))]) hx hb d_Md_foretold_79 rfl hl (by decide) rfl (fun ls hl => ?_)
  refine lv_iconst (v := 0) hx hb d_Md_foretold_80 (by decide +kernel) ?_
  refine lv_istore (lv' := [(7, .int 0), (3, .long 0), (6, .int 2900), (5, .int 29), (1, .long 0), (0, .ref (a 0))]) hx hb d_Md_foretold_81 hl (by decide) rfl (fun ls hl => ?_)
  refine lv_iload hx hb d_Md_foretold_83 (lv_at hl 0 rfl) ?_
  refine lv_aload_n hx hb d_Md_foretold_85 rfl (lv_at hl 5 rfl) ?_
  refine va_get (D := (dC, dI)) (ci := 7) (v := .int 0) (C := R_Md) (T := F_Md) (N := 64) hx hb htb i_Md hown hK hP 0 rfl rfl 60 (by decide) (htb (.fieldLink R_Md 323 "WaterMenModel" "pensioners" "I") tw_376) (fun _ h9 => h9) rfl d_Md_foretold_86 ?_
  refine lv_icmp_ge (tgt := 140) hx hb d_Md_foretold_89 (by decide) (fun _ => ?_) (fun h => absurd (by decide +kernel) h)
  refine lv_iinc (v := 30) (lv' := [(5, .int 30), (7, .int 0), (3, .long 0), (6, .int 2900), (1, .long 0), (0, .ref (a 0))]) hx hb d_Md_foretold_140 hl (k := 3) rfl (by decide +kernel) (by decide) rfl (fun ls hl => ?_)
  refine lv_goto (tgt := 54) hx hb d_Md_foretold_143 (by decide) ?_
  refine lv_iload hx hb d_Md_foretold_54 (lv_at hl 0 rfl) ?_
  refine lv_bipush (v := 40) hx hb d_Md_foretold_56 (by decide +kernel) ?_
  refine lv_icmp_gt (tgt := 146) hx hb d_Md_foretold_58 (by decide) (fun h => absurd h (by decide +kernel)) (fun _ => ?_)
  refine lv_aload_n hx hb d_Md_foretold_61 rfl (lv_at hl 5 rfl) ?_
  refine vp_callSi (va_Run.run (va_runV (As := []) (rest := []) ⟨hx, hb, hml, hown, htb⟩ (c_Md_today l dC dI a k) (cwV 0 htb (gd_V tw_313 tw_314 tw_315 tw_296 tw_312) rfl rfl rfl (by decide +kernel) ⟨Nat.le_of_ble_eq_true rfl, Nat.le_of_ble_eq_true rfl⟩) ⟨pr_blind, va_recv hK hP (ci := 7) (q0 := 0) rfl rfl, pr_pre hP hK hN⟩ rfl rfl hl.1 rfl (lv_room (Nat.le_of_ble_eq_true rfl)) d_Md_foretold_62 ⟨Nat.le_of_ble_eq_true rfl, Nat.le_of_ble_eq_true rfl⟩)) (fun r er => ?_)
  subst er
  refine hb_ti 0 rfl ?_
  refine lv_bipush (v := 100) hx hb d_Md_foretold_65 (by decide +kernel) ?_
  refine lv_idiv hx hb d_Md_foretold_67 (by decide) ?_
  refine hb_ti 0 (by decide +kernel) ?_
  refine lv_iload hx hb d_Md_foretold_68 (lv_at hl 0 rfl) ?_
  refine lv_iadd hx hb d_Md_foretold_70 ?_
  refine hb_ti 30 (by decide +kernel) ?_
  refine lv_bipush (v := 100) hx hb d_Md_foretold_71 (by decide +kernel) ?_
  refine lv_imul hx hb d_Md_foretold_73 ?_
  refine hb_ti 3000 (by decide +kernel) ?_
  refine lv_istore (lv' := [(6, .int 3000), (5, .int 30), (7, .int 0), (3, .long 0), (1, .long 0), (0, .ref (a 0))]) hx hb d_Md_foretold_74 hl (by decide) rfl (fun ls hl => ?_)
  refine lv_lload_n hx hb d_Md_foretold_76 rfl (lv_at hl 3 rfl) ?_
  refine lv_lload_n hx hb d_Md_foretold_77 rfl (lv_at hl 4 rfl) ?_
  refine lv_ladd hx hb d_Md_foretold_78 ?_
  refine hb_tl 0 (by decide +kernel) ?_
  refine lv_lstore_n (lv' := [(3, .long 0), (6, .int 3000), (5, .int 30), (7, .int 0), (1, .long 0), (0, .ref (a 0))]) hx hb d_Md_foretold_79 rfl hl (by decide) rfl (fun ls hl => ?_)
  refine lv_iconst (v := 0) hx hb d_Md_foretold_80 (by decide +kernel) ?_
  refine lv_istore (lv' := [(7, .int 0), (3, .long 0), (6, .int 3000), (5, .int 30), (1, .long 0), (0, .ref (a 0))]) hx hb d_Md_foretold_81 hl (by decide) rfl (fun ls hl => ?_)
  refine lv_iload hx hb d_Md_foretold_83 (lv_at hl 0 rfl) ?_
  refine lv_aload_n hx hb d_Md_foretold_85 rfl (lv_at hl 5 rfl) ?_
  refine va_get (D := (dC, dI)) (ci := 7) (v := .int 0) (C := R_Md) (T := F_Md) (N := 64) hx hb htb i_Md hown hK hP 0 rfl rfl 60 (by decide) (htb (.fieldLink R_Md 323 "WaterMenModel" "pensioners" "I") tw_376) (fun _ h9 => h9) rfl d_Md_foretold_86 ?_
  refine lv_icmp_ge (tgt := 140) hx hb d_Md_foretold_89 (by decide) (fun _ => ?_) (fun h => absurd (by decide +kernel) h)
  refine lv_iinc (v := 31) (lv' := [(5, .int 31), (7, .int 0), (3, .long 0), (6, .int 3000), (1, .long 0), (0, .ref (a 0))]) hx hb d_Md_foretold_140 hl (k := 3) rfl (by decide +kernel) (by decide) rfl (fun ls hl => ?_)
  refine lv_goto (tgt := 54) hx hb d_Md_foretold_143 (by decide) ?_
  refine lv_iload hx hb d_Md_foretold_54 (lv_at hl 0 rfl) ?_
  refine lv_bipush (v := 40) hx hb d_Md_foretold_56 (by decide +kernel) ?_
  refine lv_icmp_gt (tgt := 146) hx hb d_Md_foretold_58 (by decide) (fun h => absurd h (by decide +kernel)) (fun _ => ?_)
  refine lv_aload_n hx hb d_Md_foretold_61 rfl (lv_at hl 5 rfl) ?_
  refine vp_callSi (va_Run.run (va_runV (As := []) (rest := []) ⟨hx, hb, hml, hown, htb⟩ (c_Md_today l dC dI a k) (cwV 0 htb (gd_V tw_313 tw_314 tw_315 tw_296 tw_312) rfl rfl rfl (by decide +kernel) ⟨Nat.le_of_ble_eq_true rfl, Nat.le_of_ble_eq_true rfl⟩) ⟨pr_blind, va_recv hK hP (ci := 7) (q0 := 0) rfl rfl, pr_pre hP hK hN⟩ rfl rfl hl.1 rfl (lv_room (Nat.le_of_ble_eq_true rfl)) d_Md_foretold_62 ⟨Nat.le_of_ble_eq_true rfl, Nat.le_of_ble_eq_true rfl⟩)) (fun r er => ?_)
  subst er
  refine hb_ti 0 rfl ?_
  refine lv_bipush (v := 100) hx hb d_Md_foretold_65 (by decide +kernel) ?_
  refine lv_idiv hx hb d_Md_foretold_67 (by decide) ?_
  refine hb_ti 0 (by decide +kernel) ?_
  refine lv_iload hx hb d_Md_foretold_68 (lv_at hl 0 rfl) ?_
  refine lv_iadd hx hb d_Md_foretold_70 ?_
  refine hb_ti 31 (by decide +kernel) ?_
  refine lv_bipush (v := 100) hx hb d_Md_foretold_71 (by decide +kernel) ?_
  refine lv_imul hx hb d_Md_foretold_73 ?_
  refine hb_ti 3100 (by decide +kernel) ?_
  refine lv_istore (lv' := [(6, .int 3100), (5, .int 31), (7, .int 0), (3, .long 0), (1, .long 0), (0, .ref (a 0))]) hx hb d_Md_foretold_74 hl (by decide) rfl (fun ls hl => ?_)
  refine lv_lload_n hx hb d_Md_foretold_76 rfl (lv_at hl 3 rfl) ?_
  refine lv_lload_n hx hb d_Md_foretold_77 rfl (lv_at hl 4 rfl) ?_
  refine lv_ladd hx hb d_Md_foretold_78 ?_
  refine hb_tl 0 (by decide +kernel) ?_
  refine lv_lstore_n (lv' := [(3, .long 0), (6, .int 3100), (5, .int 31), (7, .int 0), (1, .long 0), (0, .ref (a 0))]) hx hb d_Md_foretold_79 rfl hl (by decide) rfl (fun ls hl => ?_)
  refine lv_iconst (v := 0) hx hb d_Md_foretold_80 (by decide +kernel) ?_
  refine lv_istore (lv' := [(7, .int 0), (3, .long 0), (6, .int 3100), (5, .int 31), (1, .long 0), (0, .ref (a 0))]) hx hb d_Md_foretold_81 hl (by decide) rfl (fun ls hl => ?_)
  refine lv_iload hx hb d_Md_foretold_83 (lv_at hl 0 rfl) ?_
  refine lv_aload_n hx hb d_Md_foretold_85 rfl (lv_at hl 5 rfl) ?_
  refine va_get (D := (dC, dI)) (ci := 7) (v := .int 0) (C := R_Md) (T := F_Md) (N := 64) hx hb htb i_Md hown hK hP 0 rfl rfl 60 (by decide) (htb (.fieldLink R_Md 323 "WaterMenModel" "pensioners" "I") tw_376) (fun _ h9 => h9) rfl d_Md_foretold_86 ?_
  refine lv_icmp_ge (tgt := 140) hx hb d_Md_foretold_89 (by decide) (fun _ => ?_) (fun h => absurd (by decide +kernel) h)
  refine lv_iinc (v := 32) (lv' := [(5, .int 32), (7, .int 0), (3, .long 0), (6, .int 3100), (1, .long 0), (0, .ref (a 0))]) hx hb d_Md_foretold_140 hl (k := 3) rfl (by decide +kernel) (by decide) rfl (fun ls hl => ?_)
  refine lv_goto (tgt := 54) hx hb d_Md_foretold_143 (by decide) ?_
  refine lv_iload hx hb d_Md_foretold_54 (lv_at hl 0 rfl) ?_
  refine lv_bipush (v := 40) hx hb d_Md_foretold_56 (by decide +kernel) ?_
  refine lv_icmp_gt (tgt := 146) hx hb d_Md_foretold_58 (by decide) (fun h => absurd h (by decide +kernel)) (fun _ => ?_)
  refine lv_aload_n hx hb d_Md_foretold_61 rfl (lv_at hl 5 rfl) ?_
  refine vp_callSi (va_Run.run (va_runV (As := []) (rest := []) ⟨hx, hb, hml, hown, htb⟩ (c_Md_today l dC dI a k) (cwV 0 htb (gd_V tw_313 tw_314 tw_315 tw_296 tw_312) rfl rfl rfl (by decide +kernel) ⟨Nat.le_of_ble_eq_true rfl, Nat.le_of_ble_eq_true rfl⟩) ⟨pr_blind, va_recv hK hP (ci := 7) (q0 := 0) rfl rfl, pr_pre hP hK hN⟩ rfl rfl hl.1 rfl (lv_room (Nat.le_of_ble_eq_true rfl)) d_Md_foretold_62 ⟨Nat.le_of_ble_eq_true rfl, Nat.le_of_ble_eq_true rfl⟩)) (fun r er => ?_)
  subst er
  refine hb_ti 0 rfl ?_
  refine lv_bipush (v := 100) hx hb d_Md_foretold_65 (by decide +kernel) ?_
  refine lv_idiv hx hb d_Md_foretold_67 (by decide) ?_
  refine hb_ti 0 (by decide +kernel) ?_
  refine lv_iload hx hb d_Md_foretold_68 (lv_at hl 0 rfl) ?_
  refine lv_iadd hx hb d_Md_foretold_70 ?_
  refine hb_ti 32 (by decide +kernel) ?_
  refine lv_bipush (v := 100) hx hb d_Md_foretold_71 (by decide +kernel) ?_
  refine lv_imul hx hb d_Md_foretold_73 ?_
  refine hb_ti 3200 (by decide +kernel) ?_
  refine lv_istore (lv' := [(6, .int 3200), (5, .int 32), (7, .int 0), (3, .long 0), (1, .long 0), (0, .ref (a 0))]) hx hb d_Md_foretold_74 hl (by decide) rfl (fun ls hl => ?_)
  refine lv_lload_n hx hb d_Md_foretold_76 rfl (lv_at hl 3 rfl) ?_
  refine lv_lload_n hx hb d_Md_foretold_77 rfl (lv_at hl 4 rfl) ?_
  refine lv_ladd hx hb d_Md_foretold_78 ?_
  refine hb_tl 0 (by decide +kernel) ?_
  refine lv_lstore_n (lv' := [(3, .long 0), (6, .int 3200), (5, .int 32), (7, .int 0), (1, .long 0), (0, .ref (a 0))]) hx hb d_Md_foretold_79 rfl hl (by decide) rfl (fun ls hl => ?_)
  refine lv_iconst (v := 0) hx hb d_Md_foretold_80 (by decide +kernel) ?_
  refine lv_istore (lv' := [(7, .int 0), (3, .long 0), (6, .int 3200), (5, .int 32), (1, .long 0), (0, .ref (a 0))]) hx hb d_Md_foretold_81 hl (by decide) rfl (fun ls hl => ?_)
  refine lv_iload hx hb d_Md_foretold_83 (lv_at hl 0 rfl) ?_
  refine lv_aload_n hx hb d_Md_foretold_85 rfl (lv_at hl 5 rfl) ?_
  refine va_get (D := (dC, dI)) (ci := 7) (v := .int 0) (C := R_Md) (T := F_Md) (N := 64) hx hb htb i_Md hown hK hP 0 rfl rfl 60 (by decide) (htb (.fieldLink R_Md 323 "WaterMenModel" "pensioners" "I") tw_376) (fun _ h9 => h9) rfl d_Md_foretold_86 ?_
  refine lv_icmp_ge (tgt := 140) hx hb d_Md_foretold_89 (by decide) (fun _ => ?_) (fun h => absurd (by decide +kernel) h)
  refine lv_iinc (v := 33) (lv' := [(5, .int 33), (7, .int 0), (3, .long 0), (6, .int 3200), (1, .long 0), (0, .ref (a 0))]) hx hb d_Md_foretold_140 hl (k := 3) rfl (by decide +kernel) (by decide) rfl (fun ls hl => ?_)
  refine lv_goto (tgt := 54) hx hb d_Md_foretold_143 (by decide) ?_
  refine lv_iload hx hb d_Md_foretold_54 (lv_at hl 0 rfl) ?_
  refine lv_bipush (v := 40) hx hb d_Md_foretold_56 (by decide +kernel) ?_
  refine lv_icmp_gt (tgt := 146) hx hb d_Md_foretold_58 (by decide) (fun h => absurd h (by decide +kernel)) (fun _ => ?_)
  refine lv_aload_n hx hb d_Md_foretold_61 rfl (lv_at hl 5 rfl) ?_
  refine vp_callSi (va_Run.run (va_runV (As := []) (rest := []) ⟨hx, hb, hml, hown, htb⟩ (c_Md_today l dC dI a k) (cwV 0 htb (gd_V tw_313 tw_314 tw_315 tw_296 tw_312) rfl rfl rfl (by decide +kernel) ⟨Nat.le_of_ble_eq_true rfl, Nat.le_of_ble_eq_true rfl⟩) ⟨pr_blind, va_recv hK hP (ci := 7) (q0 := 0) rfl rfl, pr_pre hP hK hN⟩ rfl rfl hl.1 rfl (lv_room (Nat.le_of_ble_eq_true rfl)) d_Md_foretold_62 ⟨Nat.le_of_ble_eq_true rfl, Nat.le_of_ble_eq_true rfl⟩)) (fun r er => ?_)
  subst er
  refine hb_ti 0 rfl ?_
  refine lv_bipush (v := 100) hx hb d_Md_foretold_65 (by decide +kernel) ?_
  refine lv_idiv hx hb d_Md_foretold_67 (by decide) ?_
  refine hb_ti 0 (by decide +kernel) ?_
  refine lv_iload hx hb d_Md_foretold_68 (lv_at hl 0 rfl) ?_
  refine lv_iadd hx hb d_Md_foretold_70 ?_
  refine hb_ti 33 (by decide +kernel) ?_
  refine lv_bipush (v := 100) hx hb d_Md_foretold_71 (by decide +kernel) ?_
  refine lv_imul hx hb d_Md_foretold_73 ?_
  refine hb_ti 3300 (by decide +kernel) ?_
  refine lv_istore (lv' := [(6, .int 3300), (5, .int 33), (7, .int 0), (3, .long 0), (1, .long 0), (0, .ref (a 0))]) hx hb d_Md_foretold_74 hl (by decide) rfl (fun ls hl => ?_)
  refine lv_lload_n hx hb d_Md_foretold_76 rfl (lv_at hl 3 rfl) ?_
  refine lv_lload_n hx hb d_Md_foretold_77 rfl (lv_at hl 4 rfl) ?_
  refine lv_ladd hx hb d_Md_foretold_78 ?_
  refine hb_tl 0 (by decide +kernel) ?_
  refine lv_lstore_n (lv' := [(3, .long 0), (6, .int 3300), (5, .int 33), (7, .int 0), (1, .long 0), (0, .ref (a 0))]) hx hb d_Md_foretold_79 rfl hl (by decide) rfl (fun ls hl => ?_)
  refine lv_iconst (v := 0) hx hb d_Md_foretold_80 (by decide +kernel) ?_
  refine lv_istore (lv' := [(7, .int 0), (3, .long 0), (6, .int 3300), (5, .int 33), (1, .long 0), (0, .ref (a 0))]) hx hb d_Md_foretold_81 hl (by decide) rfl (fun ls hl => ?_)
  refine lv_iload hx hb d_Md_foretold_83 (lv_at hl 0 rfl) ?_
  refine lv_aload_n hx hb d_Md_foretold_85 rfl (lv_at hl 5 rfl) ?_
  refine va_get (D := (dC, dI)) (ci := 7) (v := .int 0) (C := R_Md) (T := F_Md) (N := 64) hx hb htb i_Md hown hK hP 0 rfl rfl 60 (by decide) (htb (.fieldLink R_Md 323 "WaterMenModel" "pensioners" "I") tw_376) (fun _ h9 => h9) rfl d_Md_foretold_86 ?_
  refine lv_icmp_ge (tgt := 140) hx hb d_Md_foretold_89 (by decide) (fun _ => ?_) (fun h => absurd (by decide +kernel) h)
  refine lv_iinc (v := 34) (lv' := [(5, .int 34), (7, .int 0), (3, .long 0), (6, .int 3300), (1, .long 0), (0, .ref (a 0))]) hx hb d_Md_foretold_140 hl (k := 3) rfl (by decide +kernel) (by decide) rfl (fun ls hl => ?_)
  refine lv_goto (tgt := 54) hx hb d_Md_foretold_143 (by decide) ?_
  refine lv_iload hx hb d_Md_foretold_54 (lv_at hl 0 rfl) ?_
  refine lv_bipush (v := 40) hx hb d_Md_foretold_56 (by decide +kernel) ?_
  refine lv_icmp_gt (tgt := 146) hx hb d_Md_foretold_58 (by decide) (fun h => absurd h (by decide +kernel)) (fun _ => ?_)
  refine lv_aload_n hx hb d_Md_foretold_61 rfl (lv_at hl 5 rfl) ?_
  refine vp_callSi (va_Run.run (va_runV (As := []) (rest := []) ⟨hx, hb, hml, hown, htb⟩ (c_Md_today l dC dI a k) (cwV 0 htb (gd_V tw_313 tw_314 tw_315 tw_296 tw_312) rfl rfl rfl (by decide +kernel) ⟨Nat.le_of_ble_eq_true rfl, Nat.le_of_ble_eq_true rfl⟩) ⟨pr_blind, va_recv hK hP (ci := 7) (q0 := 0) rfl rfl, pr_pre hP hK hN⟩ rfl rfl hl.1 rfl (lv_room (Nat.le_of_ble_eq_true rfl)) d_Md_foretold_62 ⟨Nat.le_of_ble_eq_true rfl, Nat.le_of_ble_eq_true rfl⟩)) (fun r er => ?_)
  subst er
  refine hb_ti 0 rfl ?_
  refine lv_bipush (v := 100) hx hb d_Md_foretold_65 (by decide +kernel) ?_
  refine lv_idiv hx hb d_Md_foretold_67 (by decide) ?_
  refine hb_ti 0 (by decide +kernel) ?_
  refine lv_iload hx hb d_Md_foretold_68 (lv_at hl 0 rfl) ?_
  refine lv_iadd hx hb d_Md_foretold_70 ?_
  refine hb_ti 34 (by decide +kernel) ?_
  refine lv_bipush (v := 100) hx hb d_Md_foretold_71 (by decide +kernel) ?_
  refine lv_imul hx hb d_Md_foretold_73 ?_
  refine hb_ti 3400 (by decide +kernel) ?_
  refine lv_istore (lv' := [(6, .int 3400), (5, .int 34), (7, .int 0), (3, .long 0), (1, .long 0), (0, .ref (a 0))]) hx hb d_Md_foretold_74 hl (by decide) rfl (fun ls hl => ?_)
  refine lv_lload_n hx hb d_Md_foretold_76 rfl (lv_at hl 3 rfl) ?_
  refine lv_lload_n hx hb d_Md_foretold_77 rfl (lv_at hl 4 rfl) ?_
  refine lv_ladd hx hb d_Md_foretold_78 ?_
  refine hb_tl 0 (by decide +kernel) ?_
  refine lv_lstore_n (lv' := [(3, .long 0), (6, .int 3400), (5, .int 34), (7, .int 0), (1, .long 0), (0, .ref (a 0))]) hx hb d_Md_foretold_79 rfl hl (by decide) rfl (fun ls hl => ?_)
  refine lv_iconst (v := 0) hx hb d_Md_foretold_80 (by decide +kernel) ?_
  refine lv_istore (lv' := [(7, .int 0), (3, .long 0), (6, .int 3400), (5, .int 34), (1, .long 0), (0, .ref (a 0))]) hx hb d_Md_foretold_81 hl (by decide) rfl (fun ls hl => ?_)
  refine lv_iload hx hb d_Md_foretold_83 (lv_at hl 0 rfl) ?_
  refine lv_aload_n hx hb d_Md_foretold_85 rfl (lv_at hl 5 rfl) ?_
  refine va_get (D := (dC, dI)) (ci := 7) (v := .int 0) (C := R_Md) (T := F_Md) (N := 64) hx hb htb i_Md hown hK hP 0 rfl rfl 60 (by decide) (htb (.fieldLink R_Md 323 "WaterMenModel" "pensioners" "I") tw_376) (fun _ h9 => h9) rfl d_Md_foretold_86 ?_
  refine lv_icmp_ge (tgt := 140) hx hb d_Md_foretold_89 (by decide) (fun _ => ?_) (fun h => absurd (by decide +kernel) h)
  refine lv_iinc (v := 35) (lv' := [(5, .int 35), (7, .int 0), (3, .long 0), (6, .int 3400), (1, .long 0), (0, .ref (a 0))]) hx hb d_Md_foretold_140 hl (k := 3) rfl (by decide +kernel) (by decide) rfl (fun ls hl => ?_)
  refine lv_goto (tgt := 54) hx hb d_Md_foretold_143 (by decide) ?_
  refine lv_iload hx hb d_Md_foretold_54 (lv_at hl 0 rfl) ?_
  refine lv_bipush (v := 40) hx hb d_Md_foretold_56 (by decide +kernel) ?_
  refine lv_icmp_gt (tgt := 146) hx hb d_Md_foretold_58 (by decide) (fun h => absurd h (by decide +kernel)) (fun _ => ?_)
  refine lv_aload_n hx hb d_Md_foretold_61 rfl (lv_at hl 5 rfl) ?_
  refine vp_callSi (va_Run.run (va_runV (As := []) (rest := []) ⟨hx, hb, hml, hown, htb⟩ (c_Md_today l dC dI a k) (cwV 0 htb (gd_V tw_313 tw_314 tw_315 tw_296 tw_312) rfl rfl rfl (by decide +kernel) ⟨Nat.le_of_ble_eq_true rfl, Nat.le_of_ble_eq_true rfl⟩) ⟨pr_blind, va_recv hK hP (ci := 7) (q0 := 0) rfl rfl, pr_pre hP hK hN⟩ rfl rfl hl.1 rfl (lv_room (Nat.le_of_ble_eq_true rfl)) d_Md_foretold_62 ⟨Nat.le_of_ble_eq_true rfl, Nat.le_of_ble_eq_true rfl⟩)) (fun r er => ?_)
  subst er
  refine hb_ti 0 rfl ?_
  refine lv_bipush (v := 100) hx hb d_Md_foretold_65 (by decide +kernel) ?_
  refine lv_idiv hx hb d_Md_foretold_67 (by decide) ?_
  refine hb_ti 0 (by decide +kernel) ?_
  refine lv_iload hx hb d_Md_foretold_68 (lv_at hl 0 rfl) ?_
  refine lv_iadd hx hb d_Md_foretold_70 ?_
  refine hb_ti 35 (by decide +kernel) ?_
  refine lv_bipush (v := 100) hx hb d_Md_foretold_71 (by decide +kernel) ?_
  refine lv_imul hx hb d_Md_foretold_73 ?_
  refine hb_ti 3500 (by decide +kernel) ?_
  refine lv_istore (lv' := [(6, .int 3500), (5, .int 35), (7, .int 0), (3, .long 0), (1, .long 0), (0, .ref (a 0))]) hx hb d_Md_foretold_74 hl (by decide) rfl (fun ls hl => ?_)
  refine lv_lload_n hx hb d_Md_foretold_76 rfl (lv_at hl 3 rfl) ?_
  refine lv_lload_n hx hb d_Md_foretold_77 rfl (lv_at hl 4 rfl) ?_
  refine lv_ladd hx hb d_Md_foretold_78 ?_
  refine hb_tl 0 (by decide +kernel) ?_
  refine lv_lstore_n (lv' := [(3, .long 0), (6, .int 3500), (5, .int 35), (7, .int 0), (1, .long 0), (0, .ref (a 0))]) hx hb d_Md_foretold_79 rfl hl (by decide) rfl (fun ls hl => ?_)
  refine lv_iconst (v := 0) hx hb d_Md_foretold_80 (by decide +kernel) ?_
  refine lv_istore (lv' := [(7, .int 0), (3, .long 0), (6, .int 3500), (5, .int 35), (1, .long 0), (0, .ref (a 0))]) hx hb d_Md_foretold_81 hl (by decide) rfl (fun ls hl => ?_)
  refine lv_iload hx hb d_Md_foretold_83 (lv_at hl 0 rfl) ?_
  refine lv_aload_n hx hb d_Md_foretold_85 rfl (lv_at hl 5 rfl) ?_
  refine va_get (D := (dC, dI)) (ci := 7) (v := .int 0) (C := R_Md) (T := F_Md) (N := 64) hx hb htb i_Md hown hK hP 0 rfl rfl 60 (by decide) (htb (.fieldLink R_Md 323 "WaterMenModel" "pensioners" "I") tw_376) (fun _ h9 => h9) rfl d_Md_foretold_86 ?_
  refine lv_icmp_ge (tgt := 140) hx hb d_Md_foretold_89 (by decide) (fun _ => ?_) (fun h => absurd (by decide +kernel) h)
  refine lv_iinc (v := 36) (lv' := [(5, .int 36), (7, .int 0), (3, .long 0), (6, .int 3500), (1, .long 0), (0, .ref (a 0))]) hx hb d_Md_foretold_140 hl (k := 3) rfl (by decide +kernel) (by decide) rfl (fun ls hl => ?_)
  refine lv_goto (tgt := 54) hx hb d_Md_foretold_143 (by decide) ?_
  refine lv_iload hx hb d_Md_foretold_54 (lv_at hl 0 rfl) ?_
  refine lv_bipush (v := 40) hx hb d_Md_foretold_56 (by decide +kernel) ?_
  refine lv_icmp_gt (tgt := 146) hx hb d_Md_foretold_58 (by decide) (fun h => absurd h (by decide +kernel)) (fun _ => ?_)
  refine lv_aload_n hx hb d_Md_foretold_61 rfl (lv_at hl 5 rfl) ?_
  refine vp_callSi (va_Run.run (va_runV (As := []) (rest := []) ⟨hx, hb, hml, hown, htb⟩ (c_Md_today l dC dI a k) (cwV 0 htb (gd_V tw_313 tw_314 tw_315 tw_296 tw_312) rfl rfl rfl (by decide +kernel) ⟨Nat.le_of_ble_eq_true rfl, Nat.le_of_ble_eq_true rfl⟩) ⟨pr_blind, va_recv hK hP (ci := 7) (q0 := 0) rfl rfl, pr_pre hP hK hN⟩ rfl rfl hl.1 rfl (lv_room (Nat.le_of_ble_eq_true rfl)) d_Md_foretold_62 ⟨Nat.le_of_ble_eq_true rfl, Nat.le_of_ble_eq_true rfl⟩)) (fun r er => ?_)
  subst er
  refine hb_ti 0 rfl ?_
  refine lv_bipush (v := 100) hx hb d_Md_foretold_65 (by decide +kernel) ?_
  refine lv_idiv hx hb d_Md_foretold_67 (by decide) ?_
  refine hb_ti 0 (by decide +kernel) ?_
  refine lv_iload hx hb d_Md_foretold_68 (lv_at hl 0 rfl) ?_
  refine lv_iadd hx hb d_Md_foretold_70 ?_
  refine hb_ti 36 (by decide +kernel) ?_
  refine lv_bipush (v := 100) hx hb d_Md_foretold_71 (by decide +kernel) ?_
  refine lv_imul hx hb d_Md_foretold_73 ?_
  refine hb_ti 3600 (by decide +kernel) ?_
  refine lv_istore (lv' := [(6, .int 3600), (5, .int 36), (7, .int 0), (3, .long 0), (1, .long 0), (0, .ref (a 0))]) hx hb d_Md_foretold_74 hl (by decide) rfl (fun ls hl => ?_)
  refine lv_lload_n hx hb d_Md_foretold_76 rfl (lv_at hl 3 rfl) ?_
  refine lv_lload_n hx hb d_Md_foretold_77 rfl (lv_at hl 4 rfl) ?_
  refine lv_ladd hx hb d_Md_foretold_78 ?_
  refine hb_tl 0 (by decide +kernel) ?_
  refine lv_lstore_n (lv' := [(3, .long 0), (6, .int 3600), (5, .int 36), (7, .int 0), (1, .long 0), (0, .ref (a 0))]) hx hb d_Md_foretold_79 rfl hl (by decide) rfl (fun ls hl => ?_)
  refine lv_iconst (v := 0) hx hb d_Md_foretold_80 (by decide +kernel) ?_
  refine lv_istore (lv' := [(7, .int 0), (3, .long 0), (6, .int 3600), (5, .int 36), (1, .long 0), (0, .ref (a 0))]) hx hb d_Md_foretold_81 hl (by decide) rfl (fun ls hl => ?_)
  refine lv_iload hx hb d_Md_foretold_83 (lv_at hl 0 rfl) ?_
  refine lv_aload_n hx hb d_Md_foretold_85 rfl (lv_at hl 5 rfl) ?_
  refine va_get (D := (dC, dI)) (ci := 7) (v := .int 0) (C := R_Md) (T := F_Md) (N := 64) hx hb htb i_Md hown hK hP 0 rfl rfl 60 (by decide) (htb (.fieldLink R_Md 323 "WaterMenModel" "pensioners" "I") tw_376) (fun _ h9 => h9) rfl d_Md_foretold_86 ?_
  refine lv_icmp_ge (tgt := 140) hx hb d_Md_foretold_89 (by decide) (fun _ => ?_) (fun h => absurd (by decide +kernel) h)
  refine lv_iinc (v := 37) (lv' := [(5, .int 37), (7, .int 0), (3, .long 0), (6, .int 3600), (1, .long 0), (0, .ref (a 0))]) hx hb d_Md_foretold_140 hl (k := 3) rfl (by decide +kernel) (by decide) rfl (fun ls hl => ?_)
  refine lv_goto (tgt := 54) hx hb d_Md_foretold_143 (by decide) ?_
  refine lv_iload hx hb d_Md_foretold_54 (lv_at hl 0 rfl) ?_
  refine lv_bipush (v := 40) hx hb d_Md_foretold_56 (by decide +kernel) ?_
  refine lv_icmp_gt (tgt := 146) hx hb d_Md_foretold_58 (by decide) (fun h => absurd h (by decide +kernel)) (fun _ => ?_)
  refine lv_aload_n hx hb d_Md_foretold_61 rfl (lv_at hl 5 rfl) ?_
  refine vp_callSi (va_Run.run (va_runV (As := []) (rest := []) ⟨hx, hb, hml, hown, htb⟩ (c_Md_today l dC dI a k) (cwV 0 htb (gd_V tw_313 tw_314 tw_315 tw_296 tw_312) rfl rfl rfl (by decide +kernel) ⟨Nat.le_of_ble_eq_true rfl, Nat.le_of_ble_eq_true rfl⟩) ⟨pr_blind, va_recv hK hP (ci := 7) (q0 := 0) rfl rfl, pr_pre hP hK hN⟩ rfl rfl hl.1 rfl (lv_room (Nat.le_of_ble_eq_true rfl)) d_Md_foretold_62 ⟨Nat.le_of_ble_eq_true rfl, Nat.le_of_ble_eq_true rfl⟩)) (fun r er => ?_)
  subst er
  refine hb_ti 0 rfl ?_
  refine lv_bipush (v := 100) hx hb d_Md_foretold_65 (by decide +kernel) ?_
  refine lv_idiv hx hb d_Md_foretold_67 (by decide) ?_
  refine hb_ti 0 (by decide +kernel) ?_
  refine lv_iload hx hb d_Md_foretold_68 (lv_at hl 0 rfl) ?_
  refine lv_iadd hx hb d_Md_foretold_70 ?_
  refine hb_ti 37 (by decide +kernel) ?_
  refine lv_bipush (v := 100) hx hb d_Md_foretold_71 (by decide +kernel) ?_
  refine lv_imul hx hb d_Md_foretold_73 ?_
  refine hb_ti 3700 (by decide +kernel) ?_
  refine lv_istore (lv' := [(6, .int 3700), (5, .int 37), (7, .int 0), (3, .long 0), (1, .long 0), (0, .ref (a 0))]) hx hb d_Md_foretold_74 hl (by decide) rfl (fun ls hl => ?_)
  refine lv_lload_n hx hb d_Md_foretold_76 rfl (lv_at hl 3 rfl) ?_
  refine lv_lload_n hx hb d_Md_foretold_77 rfl (lv_at hl 4 rfl) ?_
  refine lv_ladd hx hb d_Md_foretold_78 ?_
  refine hb_tl 0 (by decide +kernel) ?_
  refine lv_lstore_n (lv' := [(3, .long 0), (6, .int 3700), (5, .int 37), (7, .int 0), (1, .long 0), (0, .ref (a 0))]) hx hb d_Md_foretold_79 rfl hl (by decide) rfl (fun ls hl => ?_)
  refine lv_iconst (v := 0) hx hb d_Md_foretold_80 (by decide +kernel) ?_
  refine lv_istore (lv' := [(7, .int 0), (3, .long 0), (6, .int 3700), (5, .int 37), (1, .long 0), (0, .ref (a 0))]) hx hb d_Md_foretold_81 hl (by decide) rfl (fun ls hl => ?_)
  refine lv_iload hx hb d_Md_foretold_83 (lv_at hl 0 rfl) ?_
  refine lv_aload_n hx hb d_Md_foretold_85 rfl (lv_at hl 5 rfl) ?_
  refine va_get (D := (dC, dI)) (ci := 7) (v := .int 0) (C := R_Md) (T := F_Md) (N := 64) hx hb htb i_Md hown hK hP 0 rfl rfl 60 (by decide) (htb (.fieldLink R_Md 323 "WaterMenModel" "pensioners" "I") tw_376) (fun _ h9 => h9) rfl d_Md_foretold_86 ?_
  refine lv_icmp_ge (tgt := 140) hx hb d_Md_foretold_89 (by decide) (fun _ => ?_) (fun h => absurd (by decide +kernel) h)
  refine lv_iinc (v := 38) (lv' := [(5, .int 38), (7, .int 0), (3, .long 0), (6, .int 3700), (1, .long 0), (0, .ref (a 0))]) hx hb d_Md_foretold_140 hl (k := 3) rfl (by decide +kernel) (by decide) rfl (fun ls hl => ?_)
  refine lv_goto (tgt := 54) hx hb d_Md_foretold_143 (by decide) ?_
  refine lv_iload hx hb d_Md_foretold_54 (lv_at hl 0 rfl) ?_
  refine lv_bipush (v := 40) hx hb d_Md_foretold_56 (by decide +kernel) ?_
  refine lv_icmp_gt (tgt := 146) hx hb d_Md_foretold_58 (by decide) (fun h => absurd h (by decide +kernel)) (fun _ => ?_)
  refine lv_aload_n hx hb d_Md_foretold_61 rfl (lv_at hl 5 rfl) ?_
  refine vp_callSi (va_Run.run (va_runV (As := []) (rest := []) ⟨hx, hb, hml, hown, htb⟩ (c_Md_today l dC dI a k) (cwV 0 htb (gd_V tw_313 tw_314 tw_315 tw_296 tw_312) rfl rfl rfl (by decide +kernel) ⟨Nat.le_of_ble_eq_true rfl, Nat.le_of_ble_eq_true rfl⟩) ⟨pr_blind, va_recv hK hP (ci := 7) (q0 := 0) rfl rfl, pr_pre hP hK hN⟩ rfl rfl hl.1 rfl (lv_room (Nat.le_of_ble_eq_true rfl)) d_Md_foretold_62 ⟨Nat.le_of_ble_eq_true rfl, Nat.le_of_ble_eq_true rfl⟩)) (fun r er => ?_)
  subst er
  refine hb_ti 0 rfl ?_
  refine lv_bipush (v := 100) hx hb d_Md_foretold_65 (by decide +kernel) ?_
  refine lv_idiv hx hb d_Md_foretold_67 (by decide) ?_
  refine hb_ti 0 (by decide +kernel) ?_
  refine lv_iload hx hb d_Md_foretold_68 (lv_at hl 0 rfl) ?_
  refine lv_iadd hx hb d_Md_foretold_70 ?_
  refine hb_ti 38 (by decide +kernel) ?_
  refine lv_bipush (v := 100) hx hb d_Md_foretold_71 (by decide +kernel) ?_
  refine lv_imul hx hb d_Md_foretold_73 ?_
  refine hb_ti 3800 (by decide +kernel) ?_
  refine lv_istore (lv' := [(6, .int 3800), (5, .int 38), (7, .int 0), (3, .long 0), (1, .long 0), (0, .ref (a 0))]) hx hb d_Md_foretold_74 hl (by decide) rfl (fun ls hl => ?_)
  refine lv_lload_n hx hb d_Md_foretold_76 rfl (lv_at hl 3 rfl) ?_
  refine lv_lload_n hx hb d_Md_foretold_77 rfl (lv_at hl 4 rfl) ?_
  refine lv_ladd hx hb d_Md_foretold_78 ?_
  refine hb_tl 0 (by decide +kernel) ?_
  refine lv_lstore_n (lv' := [(3, .long 0), (6, .int 3800), (5, .int 38), (7, .int 0), (1, .long 0), (0, .ref (a 0))]) hx hb d_Md_foretold_79 rfl hl (by decide) rfl (fun ls hl => ?_)
  refine lv_iconst (v := 0) hx hb d_Md_foretold_80 (by decide +kernel) ?_
  refine lv_istore (lv' := [(7, .int 0), (3, .long 0), (6, .int 3800), (5, .int 38), (1, .long 0), (0, .ref (a 0))]) hx hb d_Md_foretold_81 hl (by decide) rfl (fun ls hl => ?_)
  refine lv_iload hx hb d_Md_foretold_83 (lv_at hl 0 rfl) ?_
  refine lv_aload_n hx hb d_Md_foretold_85 rfl (lv_at hl 5 rfl) ?_
  refine va_get (D := (dC, dI)) (ci := 7) (v := .int 0) (C := R_Md) (T := F_Md) (N := 64) hx hb htb i_Md hown hK hP 0 rfl rfl 60 (by decide) (htb (.fieldLink R_Md 323 "WaterMenModel" "pensioners" "I") tw_376) (fun _ h9 => h9) rfl d_Md_foretold_86 ?_
  refine lv_icmp_ge (tgt := 140) hx hb d_Md_foretold_89 (by decide) (fun _ => ?_) (fun h => absurd (by decide +kernel) h)
  refine lv_iinc (v := 39) (lv' := [(5, .int 39), (7, .int 0), (3, .long 0), (6, .int 3800), (1, .long 0), (0, .ref (a 0))]) hx hb d_Md_foretold_140 hl (k := 3) rfl (by decide +kernel) (by decide) rfl (fun ls hl => ?_)
  refine lv_goto (tgt := 54) hx hb d_Md_foretold_143 (by decide) ?_
  refine lv_iload hx hb d_Md_foretold_54 (lv_at hl 0 rfl) ?_
  refine lv_bipush (v := 40) hx hb d_Md_foretold_56 (by decide +kernel) ?_
  refine lv_icmp_gt (tgt := 146) hx hb d_Md_foretold_58 (by decide) (fun h => absurd h (by decide +kernel)) (fun _ => ?_)
  refine lv_aload_n hx hb d_Md_foretold_61 rfl (lv_at hl 5 rfl) ?_
  refine vp_callSi (va_Run.run (va_runV (As := []) (rest := []) ⟨hx, hb, hml, hown, htb⟩ (c_Md_today l dC dI a k) (cwV 0 htb (gd_V tw_313 tw_314 tw_315 tw_296 tw_312) rfl rfl rfl (by decide +kernel) ⟨Nat.le_of_ble_eq_true rfl, Nat.le_of_ble_eq_true rfl⟩) ⟨pr_blind, va_recv hK hP (ci := 7) (q0 := 0) rfl rfl, pr_pre hP hK hN⟩ rfl rfl hl.1 rfl (lv_room (Nat.le_of_ble_eq_true rfl)) d_Md_foretold_62 ⟨Nat.le_of_ble_eq_true rfl, Nat.le_of_ble_eq_true rfl⟩)) (fun r er => ?_)
  subst er
  refine hb_ti 0 rfl ?_
  refine lv_bipush (v := 100) hx hb d_Md_foretold_65 (by decide +kernel) ?_
  refine lv_idiv hx hb d_Md_foretold_67 (by decide) ?_
  refine hb_ti 0 (by decide +kernel) ?_
  refine lv_iload hx hb d_Md_foretold_68 (lv_at hl 0 rfl) ?_
  refine lv_iadd hx hb d_Md_foretold_70 ?_
  refine hb_ti 39 (by decide +kernel) ?_
  refine lv_bipush (v := 100) hx hb d_Md_foretold_71 (by decide +kernel) ?_
  refine lv_imul hx hb d_Md_foretold_73 ?_
  refine hb_ti 3900 (by decide +kernel) ?_
  refine lv_istore (lv' := [(6, .int 3900), (5, .int 39), (7, .int 0), (3, .long 0), (1, .long 0), (0, .ref (a 0))]) hx hb d_Md_foretold_74 hl (by decide) rfl (fun ls hl => ?_)
  refine lv_lload_n hx hb d_Md_foretold_76 rfl (lv_at hl 3 rfl) ?_
  refine lv_lload_n hx hb d_Md_foretold_77 rfl (lv_at hl 4 rfl) ?_
  refine lv_ladd hx hb d_Md_foretold_78 ?_
  refine hb_tl 0 (by decide +kernel) ?_
  refine lv_lstore_n (lv' := [(3, .long 0), (6, .int 3900), (5, .int 39), (7, .int 0), (1, .long 0), (0, .ref (a 0))]) hx hb d_Md_foretold_79 rfl hl (by decide) rfl (fun ls hl => ?_)
  refine lv_iconst (v := 0) hx hb d_Md_foretold_80 (by decide +kernel) ?_
  refine lv_istore (lv' := [(7, .int 0), (3, .long 0), (6, .int 3900), (5, .int 39), (1, .long 0), (0, .ref (a 0))]) hx hb d_Md_foretold_81 hl (by decide) rfl (fun ls hl => ?_)
  refine lv_iload hx hb d_Md_foretold_83 (lv_at hl 0 rfl) ?_
  refine lv_aload_n hx hb d_Md_foretold_85 rfl (lv_at hl 5 rfl) ?_
  refine va_get (D := (dC, dI)) (ci := 7) (v := .int 0) (C := R_Md) (T := F_Md) (N := 64) hx hb htb i_Md hown hK hP 0 rfl rfl 60 (by decide) (htb (.fieldLink R_Md 323 "WaterMenModel" "pensioners" "I") tw_376) (fun _ h9 => h9) rfl d_Md_foretold_86 ?_
  refine lv_icmp_ge (tgt := 140) hx hb d_Md_foretold_89 (by decide) (fun _ => ?_) (fun h => absurd (by decide +kernel) h)
  refine lv_iinc (v := 40) (lv' := [(5, .int 40), (7, .int 0), (3, .long 0), (6, .int 3900), (1, .long 0), (0, .ref (a 0))]) hx hb d_Md_foretold_140 hl (k := 3) rfl (by decide +kernel) (by decide) rfl (fun ls hl => ?_)
  refine lv_goto (tgt := 54) hx hb d_Md_foretold_143 (by decide) ?_
  refine lv_iload hx hb d_Md_foretold_54 (lv_at hl 0 rfl) ?_
  refine lv_bipush (v := 40) hx hb d_Md_foretold_56 (by decide +kernel) ?_
  refine lv_icmp_gt (tgt := 146) hx hb d_Md_foretold_58 (by decide) (fun h => absurd h (by decide +kernel)) (fun _ => ?_)
  refine lv_aload_n hx hb d_Md_foretold_61 rfl (lv_at hl 5 rfl) ?_
  refine vp_callSi (va_Run.run (va_runV (As := []) (rest := []) ⟨hx, hb, hml, hown, htb⟩ (c_Md_today l dC dI a k) (cwV 0 htb (gd_V tw_313 tw_314 tw_315 tw_296 tw_312) rfl rfl rfl (by decide +kernel) ⟨Nat.le_of_ble_eq_true rfl, Nat.le_of_ble_eq_true rfl⟩) ⟨pr_blind, va_recv hK hP (ci := 7) (q0 := 0) rfl rfl, pr_pre hP hK hN⟩ rfl rfl hl.1 rfl (lv_room (Nat.le_of_ble_eq_true rfl)) d_Md_foretold_62 ⟨Nat.le_of_ble_eq_true rfl, Nat.le_of_ble_eq_true rfl⟩)) (fun r er => ?_)
  subst er
  refine hb_ti 0 rfl ?_
  refine lv_bipush (v := 100) hx hb d_Md_foretold_65 (by decide +kernel) ?_
  refine lv_idiv hx hb d_Md_foretold_67 (by decide) ?_
  refine hb_ti 0 (by decide +kernel) ?_
  refine lv_iload hx hb d_Md_foretold_68 (lv_at hl 0 rfl) ?_
  refine lv_iadd hx hb d_Md_foretold_70 ?_
  refine hb_ti 40 (by decide +kernel) ?_
  refine lv_bipush (v := 100) hx hb d_Md_foretold_71 (by decide +kernel) ?_
  refine lv_imul hx hb d_Md_foretold_73 ?_
  refine hb_ti 4000 (by decide +kernel) ?_
  refine lv_istore (lv' := [(6, .int 4000), (5, .int 40), (7, .int 0), (3, .long 0), (1, .long 0), (0, .ref (a 0))]) hx hb d_Md_foretold_74 hl (by decide) rfl (fun ls hl => ?_)
  refine lv_lload_n hx hb d_Md_foretold_76 rfl (lv_at hl 3 rfl) ?_
  refine lv_lload_n hx hb d_Md_foretold_77 rfl (lv_at hl 4 rfl) ?_
  refine lv_ladd hx hb d_Md_foretold_78 ?_
  refine hb_tl 0 (by decide +kernel) ?_
  refine lv_lstore_n (lv' := [(3, .long 0), (6, .int 4000), (5, .int 40), (7, .int 0), (1, .long 0), (0, .ref (a 0))]) hx hb d_Md_foretold_79 rfl hl (by decide) rfl (fun ls hl => ?_)
  refine lv_iconst (v := 0) hx hb d_Md_foretold_80 (by decide +kernel) ?_
  refine lv_istore (lv' := [(7, .int 0), (3, .long 0), (6, .int 4000), (5, .int 40), (1, .long 0), (0, .ref (a 0))]) hx hb d_Md_foretold_81 hl (by decide) rfl (fun ls hl => ?_)
  refine lv_iload hx hb d_Md_foretold_83 (lv_at hl 0 rfl) ?_
  refine lv_aload_n hx hb d_Md_foretold_85 rfl (lv_at hl 5 rfl) ?_
  refine va_get (D := (dC, dI)) (ci := 7) (v := .int 0) (C := R_Md) (T := F_Md) (N := 64) hx hb htb i_Md hown hK hP 0 rfl rfl 60 (by decide) (htb (.fieldLink R_Md 323 "WaterMenModel" "pensioners" "I") tw_376) (fun _ h9 => h9) rfl d_Md_foretold_86 ?_
  refine lv_icmp_ge (tgt := 140) hx hb d_Md_foretold_89 (by decide) (fun _ => ?_) (fun h => absurd (by decide +kernel) h)
  refine lv_iinc (v := 41) (lv' := [(5, .int 41), (7, .int 0), (3, .long 0), (6, .int 4000), (1, .long 0), (0, .ref (a 0))]) hx hb d_Md_foretold_140 hl (k := 3) rfl (by decide +kernel) (by decide) rfl (fun ls hl => ?_)
  refine lv_goto (tgt := 54) hx hb d_Md_foretold_143 (by decide) ?_
  refine lv_iload hx hb d_Md_foretold_54 (lv_at hl 0 rfl) ?_
  refine lv_bipush (v := 40) hx hb d_Md_foretold_56 (by decide +kernel) ?_
  refine lv_icmp_gt (tgt := 146) hx hb d_Md_foretold_58 (by decide) (fun _ => ?_) (fun h => absurd (by decide +kernel) h)
  refine lv_bipush (v := (-2)) hx hb d_Md_foretold_146 (by decide +kernel) ?_
  exact W.iret (v := (-2)) hx hb hr (fun t ht hW => ⟨(-2), rfl, rfl, ht⟩) t_nil d_Md_foretold_148
