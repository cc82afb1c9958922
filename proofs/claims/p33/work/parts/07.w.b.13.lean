def wp_Md_wordOf_w (L : List Nat) (f : TF) (p_0 : Int64) (Q : Int32 → Prop) : Prop := ∀ y_1 : Int32, y_1 = lg_cmp (p_0 : Int64) (555 : Int64) → ((y_1 = 0 → Q 4) ∧ (¬ (y_1 = 0) → ∀ y_3 : Int32, y_3 = lg_cmp (p_0 : Int64) (262 : Int64) → ((y_3 = 0 → Q 5) ∧ (¬ (y_3 = 0) → ∀ y_5 : Int32, y_5 = lg_cmp (p_0 : Int64) (119318 : Int64) → ((y_5 = 0 → Q 10) ∧ (¬ (y_5 = 0) → ∀ y_7 : Int32, y_7 = lg_cmp (p_0 : Int64) (168984 : Int64) → ((y_7 = 0 → Q 11) ∧ (¬ (y_7 = 0) → ∀ y_9 : Int32, y_9 = lg_cmp (p_0 : Int64) (459818 : Int64) → ((y_9 = 0 → Q 12) ∧ (¬ (y_9 = 0) → ∀ y_11 : Int32, y_11 = lg_cmp (p_0 : Int64) (488582165 : Int64) → ((y_11 = 0 → Q 13) ∧ (¬ (y_11 = 0) → ∀ y_13 : Int32, y_13 = lg_cmp (p_0 : Int64) (284068024 : Int64) → ((y_13 = 0 → Q 14) ∧ (¬ (y_13 = 0) → ∀ y_15 : Int32, y_15 = lg_cmp (p_0 : Int64) (6476969 : Int64) → ((y_15 = 0 → Q 15) ∧ (¬ (y_15 = 0) → ∀ y_17 : Int32, y_17 = lg_cmp (p_0 : Int64) (38444009 : Int64) → ((y_17 = 0 → Q 16) ∧ (¬ (y_17 = 0) → ∀ y_19 : Int32, y_19 = lg_cmp (p_0 : Int64) (161140 : Int64) → ((y_19 = 0 → Q 17) ∧ (¬ (y_19 = 0) → ∀ y_21 : Int32, y_21 = lg_cmp (p_0 : Int64) (296479 : Int64) → ((y_21 = 0 → Q 18) ∧ (¬ (y_21 = 0) → Q 3))))))))))))))))))))))
set_option maxHeartbeats 4000000 in
set_option maxRecDepth 100000 in
theorem c_Md_wordOf_w (l : Launch) (dC : Nat → ClassId) (dI : Nat → Nat → Nat) (ct : Nat → ClassId) (L : List Nat) (f : TF) (hO_0 : Ok L f)  (p_0 : Int64)  (Q : Int32 → Prop) (hQ : wp_Md_wordOf_w L f p_0 Q) : Met l y_Md_wordOf (.code y_Md_wordOf b_Md_wordOf 2 (some .int) :: TB) ({ frames := 0, cells := 0, slots := 0, locals := 0 }) (va_Pc [.long p_0] (PR dC dI (TW ct L f) (TT ct))) (vp_Si (fun r => ((¬ (r < 0) ∧ ¬ (18 < r) ∧ True)) ∧ Q r)) 0 0 (fun _ => False) := by
  refine Met.ofW (cc := b_Md_wordOf) (maxL := 2) (ret := (some .int)) (by decide) rfl ?_
  intro p e s m args below meth c s₁ B hml hv
  obtain ⟨rfl, hP, hK, hN⟩ := hv
  have hx := B.exec
  have hb := B.bytes
  have hr := B.returns
  have hts := atoms_spec (ws := (.code y_Md_wordOf b_Md_wordOf 2 (some .int) :: TB)) B.pre
  have htb := fun w (h : w ∈ TB) => hts w (List.mem_cons_of_mem _ h)
  have hown : s.vm.findClass R_Md = some m.cls := findClass_of_methodNamed B.named
  have hlocks := B.notSynchronized
  have hl := lv_entry ([.long p_0]) (n := 2) (Nat.le_of_ble_eq_true rfl)
  rw [lg_entry_eq]
  generalize (lg_sl ([.long p_0]) ++ List.replicate (2 - (lg_sl ([.long p_0])).length) Slot.unset).toArray = ls at hl ⊢
  have hl : lv_has ls 2 [(0, .long p_0)] := hl
  unfold wp_Md_wordOf_w at hQ
  refine lv_lload_n hx hb d_Md_wordOf_0 rfl (lv_at hl 0 rfl) ?_
  refine lv_ldc2 (v := 555) hx hb hown (htb (.constantLong R_Md 244 555) tw_348) d_Md_wordOf_1 ?_
  refine W.lcmp hx hb d_Md_wordOf_4 ?_
  refine hb_eqi (fun y_1 hy_1 => ?_)
  have hQ := hQ y_1 hy_1
  refine lv_if_ne (tgt := 10) hx hb d_Md_wordOf_5 (by decide) (fun c_2 => ?_) (fun c_2 => ?_)
  · have hQ := hQ.2 c_2
    refine lv_lload_n hx hb d_Md_wordOf_10 rfl (lv_at hl 0 rfl) ?_
    refine lv_ldc2 (v := 262) hx hb hown (htb (.constantLong R_Md 246 262) tw_349) d_Md_wordOf_11 ?_
    refine W.lcmp hx hb d_Md_wordOf_14 ?_
    refine hb_eqi (fun y_3 hy_3 => ?_)
    have hQ := hQ y_3 hy_3
    refine lv_if_ne (tgt := 20) hx hb d_Md_wordOf_15 (by decide) (fun c_4 => ?_) (fun c_4 => ?_)
    · have hQ := hQ.2 c_4
      refine lv_lload_n hx hb d_Md_wordOf_20 rfl (lv_at hl 0 rfl) ?_
      refine lv_ldc2 (v := 119318) hx hb hown (htb (.constantLong R_Md 248 119318) tw_350) d_Md_wordOf_21 ?_
      refine W.lcmp hx hb d_Md_wordOf_24 ?_
      refine hb_eqi (fun y_5 hy_5 => ?_)
      have hQ := hQ y_5 hy_5
      refine lv_if_ne (tgt := 31) hx hb d_Md_wordOf_25 (by decide) (fun c_6 => ?_) (fun c_6 => ?_)
      · have hQ := hQ.2 c_6
        refine lv_lload_n hx hb d_Md_wordOf_31 rfl (lv_at hl 0 rfl) ?_
        refine lv_ldc2 (v := 168984) hx hb hown (htb (.constantLong R_Md 250 168984) tw_351) d_Md_wordOf_32 ?_
        refine W.lcmp hx hb d_Md_wordOf_35 ?_
        refine hb_eqi (fun y_7 hy_7 => ?_)
        have hQ := hQ y_7 hy_7
        refine lv_if_ne (tgt := 42) hx hb d_Md_wordOf_36 (by decide) (fun c_8 => ?_) (fun c_8 => ?_)
        · have hQ := hQ.2 c_8
          refine lv_lload_n hx hb d_Md_wordOf_42 rfl (lv_at hl 0 rfl) ?_
          refine lv_ldc2 (v := 459818) hx hb hown (htb (.constantLong R_Md 252 459818) tw_352) d_Md_wordOf_43 ?_
          refine W.lcmp hx hb d_Md_wordOf_46 ?_
          refine hb_eqi (fun y_9 hy_9 => ?_)
          have hQ := hQ y_9 hy_9
          refine lv_if_ne (tgt := 53) hx hb d_Md_wordOf_47 (by decide) (fun c_10 => ?_) (fun c_10 => ?_)
          · have hQ := hQ.2 c_10
            refine lv_lload_n hx hb d_Md_wordOf_53 rfl (lv_at hl 0 rfl) ?_
            refine lv_ldc2 (v := 488582165) hx hb hown (htb (.constantLong R_Md 254 488582165) tw_353) d_Md_wordOf_54 ?_
            refine W.lcmp hx hb d_Md_wordOf_57 ?_
            refine hb_eqi (fun y_11 hy_11 => ?_)
            have hQ := hQ y_11 hy_11
            refine lv_if_ne (tgt := 64) hx hb d_Md_wordOf_58 (by decide) (fun c_12 => ?_) (fun c_12 => ?_)
            · have hQ := hQ.2 c_12
              refine lv_lload_n hx hb d_Md_wordOf_64 rfl (lv_at hl 0 rfl) ?_
              refine lv_ldc2 (v := 284068024) hx hb hown (htb (.constantLong R_Md 256 284068024) tw_354) d_Md_wordOf_65 ?_
              refine W.lcmp hx hb d_Md_wordOf_68 ?_
              refine hb_eqi (fun y_13 hy_13 => ?_)
              have hQ := hQ y_13 hy_13
              refine lv_if_ne (tgt := 75) hx hb d_Md_wordOf_69 (by decide) (fun c_14 => ?_) (fun c_14 => ?_)
              · have hQ := hQ.2 c_14
                refine lv_lload_n hx hb d_Md_wordOf_75 rfl (lv_at hl 0 rfl) ?_
                refine lv_ldc2 (v := 6476969) hx hb hown (htb (.constantLong R_Md 258 6476969) tw_355) d_Md_wordOf_76 ?_
                refine W.lcmp hx hb d_Md_wordOf_79 ?_
                refine hb_eqi (fun y_15 hy_15 => ?_)
                have hQ := hQ y_15 hy_15
                refine lv_if_ne (tgt := 86) hx hb d_Md_wordOf_80 (by decide) (fun c_16 => ?_) (fun c_16 => ?_)
                · have hQ := hQ.2 c_16
                  refine lv_lload_n hx hb d_Md_wordOf_86 rfl (lv_at hl 0 rfl) ?_
                  refine lv_ldc2 (v := 38444009) hx hb hown (htb (.constantLong R_Md 260 38444009) tw_356) d_Md_wordOf_87 ?_
                  refine W.lcmp hx hb d_Md_wordOf_90 ?_
                  refine hb_eqi (fun y_17 hy_17 => ?_)
                  have hQ := hQ y_17 hy_17
                  refine lv_if_ne (tgt := 97) hx hb d_Md_wordOf_91 (by decide) (fun c_18 => ?_) (fun c_18 => ?_)
                  · have hQ := hQ.2 c_18
                    refine lv_lload_n hx hb d_Md_wordOf_97 rfl (lv_at hl 0 rfl) ?_
                    refine lv_ldc2 (v := 161140) hx hb hown (htb (.constantLong R_Md 262 161140) tw_357) d_Md_wordOf_98 ?_
                    refine W.lcmp hx hb d_Md_wordOf_101 ?_
                    refine hb_eqi (fun y_19 hy_19 => ?_)
                    have hQ := hQ y_19 hy_19
                    refine lv_if_ne (tgt := 108) hx hb d_Md_wordOf_102 (by decide) (fun c_20 => ?_) (fun c_20 => ?_)
                    · have hQ := hQ.2 c_20
                      refine lv_lload_n hx hb d_Md_wordOf_108 rfl (lv_at hl 0 rfl) ?_
                      refine lv_ldc2 (v := 296479) hx hb hown (htb (.constantLong R_Md 264 296479) tw_358) d_Md_wordOf_109 ?_
                      refine W.lcmp hx hb d_Md_wordOf_112 ?_
                      refine hb_eqi (fun y_21 hy_21 => ?_)
                      have hQ := hQ y_21 hy_21
                      refine lv_if_ne (tgt := 121) hx hb d_Md_wordOf_113 (by decide) (fun c_22 => ?_) (fun c_22 => ?_)
                      · have hQ := hQ.2 c_22
                        refine lv_iconst (v := 3) hx hb d_Md_wordOf_121 (by decide +kernel) ?_
                        exact W.iret (v := 3) hx hb hr (fun t ht hW => ⟨3, rfl, ⟨⟨(by decide +kernel), (by decide +kernel), trivial⟩, hQ⟩, ht⟩) t_nil d_Md_wordOf_122
                      · have hQ := hQ.1 c_22
                        refine lv_bipush (v := 18) hx hb d_Md_wordOf_116 (by decide +kernel) ?_
                        refine lv_goto (tgt := 122) hx hb d_Md_wordOf_118 (by decide) ?_
                        exact W.iret (v := 18) hx hb hr (fun t ht hW => ⟨18, rfl, ⟨⟨(by decide +kernel), (by decide +kernel), trivial⟩, hQ⟩, ht⟩) t_nil d_Md_wordOf_122
                    · have hQ := hQ.1 c_20
                      refine lv_bipush (v := 17) hx hb d_Md_wordOf_105 (by decide +kernel) ?_
                      exact W.iret (v := 17) hx hb hr (fun t ht hW => ⟨17, rfl, ⟨⟨(by decide +kernel), (by decide +kernel), trivial⟩, hQ⟩, ht⟩) t_nil d_Md_wordOf_107
                  · have hQ := hQ.1 c_18
                    refine lv_bipush (v := 16) hx hb d_Md_wordOf_94 (by decide +kernel) ?_
                    exact W.iret (v := 16) hx hb hr (fun t ht hW => ⟨16, rfl, ⟨⟨(by decide +kernel), (by decide +kernel), trivial⟩, hQ⟩, ht⟩) t_nil d_Md_wordOf_96
                · have hQ := hQ.1 c_16
                  refine lv_bipush (v := 15) hx hb d_Md_wordOf_83 (by decide +kernel) ?_
                  exact W.iret (v := 15) hx hb hr (fun t ht hW => ⟨15, rfl, ⟨⟨(by decide +kernel), (by decide +kernel), trivial⟩, hQ⟩, ht⟩) t_nil d_Md_wordOf_85
              · have hQ := hQ.1 c_14
                refine lv_bipush (v := 14) hx hb d_Md_wordOf_72 (by decide +kernel) ?_
                exact W.iret (v := 14) hx hb hr (fun t ht hW => ⟨14, rfl, ⟨⟨(by decide +kernel), (by decide +kernel), trivial⟩, hQ⟩, ht⟩) t_nil d_Md_wordOf_74
            · have hQ := hQ.1 c_12
              refine lv_bipush (v := 13) hx hb d_Md_wordOf_61 (by decide +kernel) ?_
              exact W.iret (v := 13) hx hb hr (fun t ht hW => ⟨13, rfl, ⟨⟨(by decide +kernel), (by decide +kernel), trivial⟩, hQ⟩, ht⟩) t_nil d_Md_wordOf_63
          · have hQ := hQ.1 c_10
            refine lv_bipush (v := 12) hx hb d_Md_wordOf_50 (by decide +kernel) ?_
            exact W.iret (v := 12) hx hb hr (fun t ht hW => ⟨12, rfl, ⟨⟨(by decide +kernel), (by decide +kernel), trivial⟩, hQ⟩, ht⟩) t_nil d_Md_wordOf_52
        · have hQ := hQ.1 c_8
          refine lv_bipush (v := 11) hx hb d_Md_wordOf_39 (by decide +kernel) ?_
          exact W.iret (v := 11) hx hb hr (fun t ht hW => ⟨11, rfl, ⟨⟨(by decide +kernel), (by decide +kernel), trivial⟩, hQ⟩, ht⟩) t_nil d_Md_wordOf_41
      · have hQ := hQ.1 c_6
        refine lv_bipush (v := 10) hx hb d_Md_wordOf_28 (by decide +kernel) ?_
        exact W.iret (v := 10) hx hb hr (fun t ht hW => ⟨10, rfl, ⟨⟨(by decide +kernel), (by decide +kernel), trivial⟩, hQ⟩, ht⟩) t_nil d_Md_wordOf_30
    · have hQ := hQ.1 c_4
      refine lv_iconst (v := 5) hx hb d_Md_wordOf_18 (by decide +kernel) ?_
      exact W.iret (v := 5) hx hb hr (fun t ht hW => ⟨5, rfl, ⟨⟨(by decide +kernel), (by decide +kernel), trivial⟩, hQ⟩, ht⟩) t_nil d_Md_wordOf_19
  · have hQ := hQ.1 c_2
    refine lv_iconst (v := 4) hx hb d_Md_wordOf_8 (by decide +kernel) ?_
    exact W.iret (v := 4) hx hb hr (fun t ht hW => ⟨4, rfl, ⟨⟨(by decide +kernel), (by decide +kernel), trivial⟩, hQ⟩, ht⟩) t_nil d_Md_wordOf_9
def WL_Md_advance_w_0_1 : List (Nat × Nat) := [(27, 42)]
def WL_Md_advance_w_193_28 : List (Nat × Nat) := [(27, 42), (27, 45)]
def WL_Md_advance_w_85_63 : List (Nat × Nat) := [(27, 42)]
def W_Md_advance_w : List (Nat × Nat) := [(27, 42), (27, 43), (27, 44), (27, 45)]
def wpB_Md_advance_w_193_28 (L : List Nat) (f : TF) (q0 : Nat) (L_1 : List Nat) (f_1 : TF) (rec_1 : List Nat → TF → Prop) (q_6 : Nat) (x_7 : Int32) (f_2 : TF) (f_3 : TF) (f_4 : TF) (f_5 : TF) (Q : List Nat → TF → Prop) (rec_28 : Int32 → List Nat → TF → Prop) (v2_28 : Int32) (L_6 : List Nat) (f_6 : TF) : Prop := Ok L_6 f_6 → Ext WL_Md_advance_w_193_28 L_1 f_5 L_6 f_6 → (((ti f q0 28) ≤ (ti f_6 q0 42) → ((v2_28 ≤ 5 → ∀ f_7 : TF, f_7 = sI f_6 q0 43 1 → Ok L_6 f_7 → Q L_6 f_7) ∧ (¬ (v2_28 ≤ 5) → ∀ f_7 : TF, f_7 = sI f_6 q0 43 3 → Ok L_6 f_7 → Q L_6 f_7))) ∧ (¬ ((ti f q0 28) ≤ (ti f_6 q0 42)) → ∀ x_34 : Int32, ti f_6 q_6 ((ti f_6 q0 42) : Int32).toNatClampNeg = x_34 → ((x_34 < 48 → ((v2_28 ≤ 5 → ∀ f_7 : TF, f_7 = sI f_6 q0 43 1 → Ok L_6 f_7 → Q L_6 f_7) ∧ (¬ (v2_28 ≤ 5) → ∀ f_7 : TF, f_7 = sI f_6 q0 43 3 → Ok L_6 f_7 → Q L_6 f_7))) ∧ (¬ (x_34 < 48) → ((57 < x_34 → ((v2_28 ≤ 5 → ∀ f_7 : TF, f_7 = sI f_6 q0 43 1 → Ok L_6 f_7 → Q L_6 f_7) ∧ (¬ (v2_28 ≤ 5) → ∀ f_7 : TF, f_7 = sI f_6 q0 43 3 → Ok L_6 f_7 → Q L_6 f_7))) ∧ (¬ (57 < x_34) → ((5 ≤ v2_28 → ∀ x_45 : Int32, ti f_6 q0 45 = x_45 → ∀ f_7 : TF, f_7 = sI f_6 q0 45 x_45 → Ok L_6 f_7 → ∀ f_8 : TF, f_8 = sI f_7 q0 42 ((ti f_6 q0 42) + 1) → Ok L_6 f_8 → rec_28 (v2_28 + 1) L_6 f_8) ∧ (¬ (5 ≤ v2_28) → ∀ x_48 : Int32, ti f_6 q0 45 = x_48 → ∀ f_7 : TF, f_7 = sI f_6 q0 45 (((10 * x_48) + x_34) - 48) → Ok L_6 f_7 → ∀ f_8 : TF, f_8 = sI f_7 q0 42 ((ti f_6 q0 42) + 1) → Ok L_6 f_8 → rec_28 (v2_28 + 1) L_6 f_8))))))))
def wpL_Md_advance_w_193_28 (L : List Nat) (f : TF) (q0 : Nat) (L_1 : List Nat) (f_1 : TF) (rec_1 : List Nat → TF → Prop) (q_6 : Nat) (x_7 : Int32) (f_2 : TF) (f_3 : TF) (f_4 : TF) (f_5 : TF) (Q : List Nat → TF → Prop) : Nat → Int32 → List Nat → TF → Prop
  | 0 => fun v2_28 L_6 f_6 => wpB_Md_advance_w_193_28 L f q0 L_1 f_1 rec_1 q_6 x_7 f_2 f_3 f_4 f_5 Q (fun _ _ _ => True) v2_28 L_6 f_6
  | n + 1 => fun v2_28 L_6 f_6 => wpB_Md_advance_w_193_28 L f q0 L_1 f_1 rec_1 q_6 x_7 f_2 f_3 f_4 f_5 Q (wpL_Md_advance_w_193_28 L f q0 L_1 f_1 rec_1 q_6 x_7 f_2 f_3 f_4 f_5 Q n) v2_28 L_6 f_6
def wpR_Md_advance_w_193_28 (L : List Nat) (f : TF) (q0 : Nat) (L_1 : List Nat) (f_1 : TF) (rec_1 : List Nat → TF → Prop) (q_6 : Nat) (x_7 : Int32) (f_2 : TF) (f_3 : TF) (f_4 : TF) (f_5 : TF) (Q : List Nat → TF → Prop) : Nat → Int32 → List Nat → TF → Prop
  | 0 => fun _ _ _ => True
  | n + 1 => wpL_Md_advance_w_193_28 L f q0 L_1 f_1 rec_1 q_6 x_7 f_2 f_3 f_4 f_5 Q n
theorem wpL_Md_advance_w_193_28_eq {L : List Nat} {f : TF} {q0 : Nat} {L_1 : List Nat} {f_1 : TF} {rec_1 : List Nat → TF → Prop} {q_6 : Nat} {x_7 : Int32} {f_2 : TF} {f_3 : TF} {f_4 : TF} {f_5 : TF} {Q : List Nat → TF → Prop} {n : Nat} : wpL_Md_advance_w_193_28 L f q0 L_1 f_1 rec_1 q_6 x_7 f_2 f_3 f_4 f_5 Q n = wpB_Md_advance_w_193_28 L f q0 L_1 f_1 rec_1 q_6 x_7 f_2 f_3 f_4 f_5 Q (wpR_Md_advance_w_193_28 L f q0 L_1 f_1 rec_1 q_6 x_7 f_2 f_3 f_4 f_5 Q n) := by cases n <;> rfl
theorem wpR_Md_advance_w_193_28_pos {L : List Nat} {f : TF} {q0 : Nat} {L_1 : List Nat} {f_1 : TF} {rec_1 : List Nat → TF → Prop} {q_6 : Nat} {x_7 : Int32} {f_2 : TF} {f_3 : TF} {f_4 : TF} {f_5 : TF} {Q : List Nat → TF → Prop} {n : Nat} (h : 0 < n) : wpR_Md_advance_w_193_28 L f q0 L_1 f_1 rec_1 q_6 x_7 f_2 f_3 f_4 f_5 Q n = wpL_Md_advance_w_193_28 L f q0 L_1 f_1 rec_1 q_6 x_7 f_2 f_3 f_4 f_5 Q (n - 1) := by
  cases n with
  | zero => omega
  | succ n => rfl
def wpB_Md_advance_w_85_63 (L : List Nat) (f : TF) (q0 : Nat) (L_1 : List Nat) (f_1 : TF) (rec_1 : List Nat → TF → Prop) (q_6 : Nat) (x_7 : Int32) (f_2 : TF) (y_58 : Int64) (y_60 : Int64) (y_61 : Int64) (f_3 : TF) (Q : List Nat → TF → Prop) (rec_63 : Int32 → Int64 → List Nat → TF → Prop) (v4_63 : Int32) (v2_63 : Int64) (L_4 : List Nat) (f_4 : TF) : Prop := Ok L_4 f_4 → Ext WL_Md_advance_w_85_63 L_1 f_3 L_4 f_4 → (((ti f q0 28) ≤ (ti f_4 q0 42) → ((v4_63 ≤ 7 → wp_Md_wordOf_w L_4 f_4 v2_63 (fun (r_67 : Int32) => (∀ f_5 : TF, f_5 = sI f_4 q0 43 r_67 → Ok L_4 f_5 → Q L_4 f_5))) ∧ (¬ (v4_63 ≤ 7) → ∀ f_5 : TF, f_5 = sI f_4 q0 43 3 → Ok L_4 f_5 → Q L_4 f_5))) ∧ (¬ ((ti f q0 28) ≤ (ti f_4 q0 42)) → ∀ x_72 : Int32, ti f_4 q_6 ((ti f_4 q0 42) : Int32).toNatClampNeg = x_72 → ((x_72 < 97 → ((v4_63 ≤ 7 → wp_Md_wordOf_w L_4 f_4 v2_63 (fun (r_76 : Int32) => (∀ f_5 : TF, f_5 = sI f_4 q0 43 r_76 → Ok L_4 f_5 → Q L_4 f_5))) ∧ (¬ (v4_63 ≤ 7) → ∀ f_5 : TF, f_5 = sI f_4 q0 43 3 → Ok L_4 f_5 → Q L_4 f_5))) ∧ (¬ (x_72 < 97) → ((122 < x_72 → ((v4_63 ≤ 7 → wp_Md_wordOf_w L_4 f_4 v2_63 (fun (r_83 : Int32) => (∀ f_5 : TF, f_5 = sI f_4 q0 43 r_83 → Ok L_4 f_5 → Q L_4 f_5))) ∧ (¬ (v4_63 ≤ 7) → ∀ f_5 : TF, f_5 = sI f_4 q0 43 3 → Ok L_4 f_5 → Q L_4 f_5))) ∧ (¬ (122 < x_72) → ((8 ≤ v4_63 → ∀ f_5 : TF, f_5 = sI f_4 q0 42 ((ti f_4 q0 42) + 1) → Ok L_4 f_5 → rec_63 (v4_63 + 1) v2_63 L_4 f_5) ∧ (¬ (8 ≤ v4_63) → ∀ y_90 : Int64, y_90 = (v2_63 : Int64) * (27 : Int64) → ∀ y_92 : Int64, y_92 = (y_90 : Int64) + ((x_72 : Int32).toInt64 : Int64) → ∀ y_93 : Int64, y_93 = (y_92 : Int64) - (96 : Int64) → ∀ f_5 : TF, f_5 = sI f_4 q0 42 ((ti f_4 q0 42) + 1) → Ok L_4 f_5 → rec_63 (v4_63 + 1) y_93 L_4 f_5))))))))
def wpL_Md_advance_w_85_63 (L : List Nat) (f : TF) (q0 : Nat) (L_1 : List Nat) (f_1 : TF) (rec_1 : List Nat → TF → Prop) (q_6 : Nat) (x_7 : Int32) (f_2 : TF) (y_58 : Int64) (y_60 : Int64) (y_61 : Int64) (f_3 : TF) (Q : List Nat → TF → Prop) : Nat → Int32 → Int64 → List Nat → TF → Prop
  | 0 => fun v4_63 v2_63 L_4 f_4 => wpB_Md_advance_w_85_63 L f q0 L_1 f_1 rec_1 q_6 x_7 f_2 y_58 y_60 y_61 f_3 Q (fun _ _ _ _ => True) v4_63 v2_63 L_4 f_4
  | n + 1 => fun v4_63 v2_63 L_4 f_4 => wpB_Md_advance_w_85_63 L f q0 L_1 f_1 rec_1 q_6 x_7 f_2 y_58 y_60 y_61 f_3 Q (wpL_Md_advance_w_85_63 L f q0 L_1 f_1 rec_1 q_6 x_7 f_2 y_58 y_60 y_61 f_3 Q n) v4_63 v2_63 L_4 f_4
def wpR_Md_advance_w_85_63 (L : List Nat) (f : TF) (q0 : Nat) (L_1 : List Nat) (f_1 : TF) (rec_1 : List Nat → TF → Prop) (q_6 : Nat) (x_7 : Int32) (f_2 : TF) (y_58 : Int64) (y_60 : Int64) (y_61 : Int64) (f_3 : TF) (Q : List Nat → TF → Prop) : Nat → Int32 → Int64 → List Nat → TF → Prop
  | 0 => fun _ _ _ _ => True
  | n + 1 => wpL_Md_advance_w_85_63 L f q0 L_1 f_1 rec_1 q_6 x_7 f_2 y_58 y_60 y_61 f_3 Q n
theorem wpL_Md_advance_w_85_63_eq {L : List Nat} {f : TF} {q0 : Nat} {L_1 : List Nat} {f_1 : TF} {rec_1 : List Nat → TF → Prop} {q_6 : Nat} {x_7 : Int32} {f_2 : TF} {y_58 : Int64} {y_60 : Int64} {y_61 : Int64} {f_3 : TF} {Q : List Nat → TF → Prop} {n : Nat} : wpL_Md_advance_w_85_63 L f q0 L_1 f_1 rec_1 q_6 x_7 f_2 y_58 y_60 y_61 f_3 Q n = wpB_Md_advance_w_85_63 L f q0 L_1 f_1 rec_1 q_6 x_7 f_2 y_58 y_60 y_61 f_3 Q (wpR_Md_advance_w_85_63 L f q0 L_1 f_1 rec_1 q_6 x_7 f_2 y_58 y_60 y_61 f_3 Q n) := by cases n <;> rfl
theorem wpR_Md_advance_w_85_63_pos {L : List Nat} {f : TF} {q0 : Nat} {L_1 : List Nat} {f_1 : TF} {rec_1 : List Nat → TF → Prop} {q_6 : Nat} {x_7 : Int32} {f_2 : TF} {y_58 : Int64} {y_60 : Int64} {y_61 : Int64} {f_3 : TF} {Q : List Nat → TF → Prop} {n : Nat} (h : 0 < n) : wpR_Md_advance_w_85_63 L f q0 L_1 f_1 rec_1 q_6 x_7 f_2 y_58 y_60 y_61 f_3 Q n = wpL_Md_advance_w_85_63 L f q0 L_1 f_1 rec_1 q_6 x_7 f_2 y_58 y_60 y_61 f_3 Q (n - 1) := by
  cases n with
  | zero => omega
  | succ n => rfl
def wpB_Md_advance_w_0_1 (L : List Nat) (f : TF) (q0 : Nat) (Q : List Nat → TF → Prop) (rec_1 : List Nat → TF → Prop) (L_1 : List Nat) (f_1 : TF) : Prop := Ok L_1 f_1 → Ext WL_Md_advance_w_0_1 L f L_1 f_1 → (((ti f q0 28) ≤ (ti f_1 q0 42) → ∀ f_2 : TF, f_2 = sI f_1 q0 44 (ti f_1 q0 42) → Ok L_1 f_2 → ∀ f_3 : TF, f_3 = sI f_2 q0 43 0 → Ok L_1 f_3 → Q L_1 f_3) ∧ (¬ ((ti f q0 28) ≤ (ti f_1 q0 42)) → ∀ q_6 : Nat, tr f_1 q0 27 = some q_6 → ∀ x_7 : Int32, ti f_1 q_6 ((ti f_1 q0 42) : Int32).toNatClampNeg = x_7 → ((x_7 = 32 → ∀ f_2 : TF, f_2 = sI f_1 q0 42 ((ti f_1 q0 42) + 1) → Ok L_1 f_2 → rec_1 L_1 f_2) ∧ (¬ (x_7 = 32) → ∀ f_2 : TF, f_2 = sI f_1 q0 44 (ti f_1 q0 42) → Ok L_1 f_2 → ((x_7 < 97 → ((x_7 < 48 → ∀ f_3 : TF, f_3 = sI f_2 q0 42 ((ti f_1 q0 42) + 1) → Ok L_1 f_3 → ∀ f_4 : TF, f_4 = sI f_3 q0 43 3 → Ok L_1 f_4 → Q L_1 f_4) ∧ (¬ (x_7 < 48) → ((57 < x_7 → ∀ f_3 : TF, f_3 = sI f_2 q0 42 ((ti f_1 q0 42) + 1) → Ok L_1 f_3 → ((x_7 = 59 → ∀ f_4 : TF, f_4 = sI f_3 q0 43 2 → Ok L_1 f_4 → Q L_1 f_4) ∧ (¬ (x_7 = 59) → ∀ f_4 : TF, f_4 = sI f_3 q0 43 3 → Ok L_1 f_4 → Q L_1 f_4))) ∧ (¬ (57 < x_7) → ∀ f_3 : TF, f_3 = sI f_2 q0 45 0 → Ok L_1 f_3 → ∀ f_4 : TF, f_4 = sI f_3 q0 45 ((0 + x_7) - 48) → Ok L_1 f_4 → ∀ f_5 : TF, f_5 = sI f_4 q0 42 ((ti f_1 q0 42) + 1) → Ok L_1 f_5 → wpL_Md_advance_w_193_28 L f q0 L_1 f_1 rec_1 q_6 x_7 f_2 f_3 f_4 f_5 Q ((((ti f q0 28) : Int32).toInt - (((ti f_1 q0 42) + 1) : Int32).toInt).toNat) (1 : Int32) L_1 f_5))))) ∧ (¬ (x_7 < 97) → ((122 < x_7 → ∀ f_3 : TF, f_3 = sI f_2 q0 42 ((ti f_1 q0 42) + 1) → Ok L_1 f_3 → ∀ f_4 : TF, f_4 = sI f_3 q0 43 3 → Ok L_1 f_4 → Q L_1 f_4) ∧ (¬ (122 < x_7) → ∀ y_58 : Int64, y_58 = (0 : Int64) * (27 : Int64) → ∀ y_60 : Int64, y_60 = (y_58 : Int64) + ((x_7 : Int32).toInt64 : Int64) → ∀ y_61 : Int64, y_61 = (y_60 : Int64) - (96 : Int64) → ∀ f_3 : TF, f_3 = sI f_2 q0 42 ((ti f_1 q0 42) + 1) → Ok L_1 f_3 → wpL_Md_advance_w_85_63 L f q0 L_1 f_1 rec_1 q_6 x_7 f_2 y_58 y_60 y_61 f_3 Q ((((ti f q0 28) : Int32).toInt - (((ti f_1 q0 42) + 1) : Int32).toInt).toNat) (1 : Int32) y_61 L_1 f_3))))))))
def wpL_Md_advance_w_0_1 (L : List Nat) (f : TF) (q0 : Nat) (Q : List Nat → TF → Prop) : Nat → List Nat → TF → Prop
  | 0 => fun L_1 f_1 => wpB_Md_advance_w_0_1 L f q0 Q (fun _ _ => True) L_1 f_1
  | n + 1 => fun L_1 f_1 => wpB_Md_advance_w_0_1 L f q0 Q (wpL_Md_advance_w_0_1 L f q0 Q n) L_1 f_1
def wpR_Md_advance_w_0_1 (L : List Nat) (f : TF) (q0 : Nat) (Q : List Nat → TF → Prop) : Nat → List Nat → TF → Prop
  | 0 => fun _ _ => True
  | n + 1 => wpL_Md_advance_w_0_1 L f q0 Q n
theorem wpL_Md_advance_w_0_1_eq {L : List Nat} {f : TF} {q0 : Nat} {Q : List Nat → TF → Prop} {n : Nat} : wpL_Md_advance_w_0_1 L f q0 Q n = wpB_Md_advance_w_0_1 L f q0 Q (wpR_Md_advance_w_0_1 L f q0 Q n) := by cases n <;> rfl
theorem wpR_Md_advance_w_0_1_pos {L : List Nat} {f : TF} {q0 : Nat} {Q : List Nat → TF → Prop} {n : Nat} (h : 0 < n) : wpR_Md_advance_w_0_1 L f q0 Q n = wpL_Md_advance_w_0_1 L f q0 Q (n - 1) := by
  cases n with
  | zero => omega
  | succ n => rfl
def wp_Md_advance_w (L : List Nat) (f : TF) (q0 : Nat) (Q : List Nat → TF → Prop) : Prop := wpL_Md_advance_w_0_1 L f q0 Q ((((ti f q0 28) : Int32).toInt - ((ti f q0 42) : Int32).toInt).toNat) L f
set_option maxHeartbeats 4000000 in
set_option maxRecDepth 100000 in
theorem c_Md_advance_w (l : Launch) (dC : Nat → ClassId) (dI : Nat → Nat → Nat) (ct : Nat → ClassId) (L : List Nat) (f : TF) (hO_0 : Ok L f) (q0 : Nat) (m0 : q0 ∈ L ∧ tk f q0 = 27) (sz : Nat)   (as_0 : ¬ ((ti f q0 28) < (ti f q0 42))) (Q : List Nat → TF → Prop) (hQ : wp_Md_advance_w L f q0 Q) : Met l y_Md_advance (.code y_Md_advance b_Md_advance 5 none :: TB) ({ frames := 1, cells := 0, slots := 0, locals := 21 }) (va_Pc [.ref q0] (PC dC dI (TW ct L f) (TT ct) sz)) (va_Qv (fun (u : TSt) => Ok u.1 u.2 ∧ Ext W_Md_advance_w L f u.1 u.2 ∧ (((ti u.2 q0 43) = 0 ∧ ¬ ((ti u.2 q0 42) < (ti f q0 42)) ∧ ¬ ((ti f q0 28) < (ti u.2 q0 42)) ∧ True) ∨ (¬ ((ti u.2 q0 42) < ((ti f q0 42) + 1)) ∧ ¬ ((ti f q0 28) < (ti u.2 q0 42)) ∧ True)) ∧ Q u.1 u.2) (fun (u : TSt) t => va_P (dC, dI) vwCl (TW ct u.1 u.2) t.heap ∧ va_K (dC, dI) vwCl (TT ct) t ∧ va_D (va_A (TW ct L f) sz) (TW ct u.1 u.2)) (va_A (TW ct L f) sz)) 0 0 (va_A (TW ct L f) sz) := by
  refine Met.ofW (cc := b_Md_advance) (maxL := 5) (ret := none) (by decide) rfl ?_
  intro p e s m args below meth c s₁ B hml hv
  obtain ⟨rfl, hsz, hP, hK, hD0, hN⟩ := hv
  have hx := B.exec
  have hb := B.bytes
  have hr := B.returns
  have hts := atoms_spec (ws := (.code y_Md_advance b_Md_advance 5 none :: TB)) B.pre
  have htb := fun w (h : w ∈ TB) => hts w (List.mem_cons_of_mem _ h)
  have hown : s.vm.findClass R_Md = some m.cls := findClass_of_methodNamed B.named
  have hlocks := B.notSynchronized
  have hl := lv_entry ([.ref q0]) (n := 5) (Nat.le_of_ble_eq_true rfl)
  rw [lg_entry_eq]
  generalize (lg_sl ([.ref q0]) ++ List.replicate (5 - (lg_sl ([.ref q0])).length) Slot.unset).toArray = ls at hl ⊢
  have hl : lv_has ls 5 [(0, .ref q0)] := hl
  subst hsz
  have hD := hD0.self (sz := s.heap.size)
  obtain ⟨A, hAe⟩ : ∃ A, va_A (TW ct L f) s.heap.size = A := ⟨_, rfl⟩
  rw [hAe] at hD
  have hA : ∀ q : Nat, s.heap.size ≤ q → A q := fun q h => by rw [← hAe]; exact Or.inr h
  have hS : va_S A s.heap s.heap [] := va_S.rf
  have hA_0 : Ext [] L f L f := Ext.rf
  suffices hGo : ∀ (H : Heap) (locs : List Loc), va_P (dC, dI) vwCl (TW ct L f) H → va_S A s.heap H locs → W p l e (headSpec (.code y_Md_advance b_Md_advance 5 none :: TB) ({ frames := 1, cells := 0, slots := 0, locals := 21 })).room s m [.ref q0].toArray below meth c H locs 0 0 (MQ below (va_Qv (fun (u : TSt) => Ok u.1 u.2 ∧ Ext W_Md_advance_w L f u.1 u.2 ∧ (((ti u.2 q0 43) = 0 ∧ ¬ ((ti u.2 q0 42) < (ti f q0 42)) ∧ ¬ ((ti f q0 28) < (ti u.2 q0 42)) ∧ True) ∨ (¬ ((ti u.2 q0 42) < ((ti f q0 42) + 1)) ∧ ¬ ((ti f q0 28) < (ti u.2 q0 42)) ∧ True)) ∧ Q u.1 u.2) (fun (u : TSt) t => va_P (dC, dI) vwCl (TW ct u.1 u.2) t.heap ∧ va_K (dC, dI) vwCl (TT ct) t ∧ va_D (va_A (TW ct L f) s.heap.size) (TW ct u.1 u.2)) (va_A (TW ct L f) s.heap.size)) [.ref q0].toArray s 0 0 (va_A (TW ct L f) s.heap.size)) (F0 m 0 ls []) from hGo _ _ hP hS
  clear hP hS
  intro H locs hP hS
  unfold wp_Md_advance_w at hQ
  have bp_28 := hO_0.i m0 (show slotD 27 28 = some (.inl (0, 400)) from rfl)
  have bp_42 := hO_0.i m0 (show slotD 27 42 = some (.inl (0, 400)) from rfl)
  have cut_1 : ∀ (n_1 : Nat) (L_1 : List Nat) (f_1 : TF) (H : Heap) (locs : List Loc) (ls : Array Slot), va_P (dC, dI) vwCl (TW ct L_1 f_1) H → va_D A (TW ct L_1 f_1) → va_S A s.heap H locs → Ok L_1 f_1 → Ext WL_Md_advance_w_0_1 L f L_1 f_1 → ¬ ((ti f q0 28) < (ti f_1 q0 42)) → ¬ ((ti f_1 q0 42) < (ti f q0 42)) → ((ti f q0 28) : Int32).toInt - ((ti f_1 q0 42) : Int32).toInt ≤ (n_1 : Int) → wpL_Md_advance_w_0_1 L f q0 Q n_1 L_1 f_1 → lv_has ls 5 [(0, .ref q0)] → W p l e (headSpec (.code y_Md_advance b_Md_advance 5 none :: TB) ({ frames := 1, cells := 0, slots := 0, locals := 21 })).room s m [.ref q0].toArray below meth c H locs 0 0 (MQ below (va_Qv (fun (u : TSt) => Ok u.1 u.2 ∧ Ext W_Md_advance_w L f u.1 u.2 ∧ (((ti u.2 q0 43) = 0 ∧ ¬ ((ti u.2 q0 42) < (ti f q0 42)) ∧ ¬ ((ti f q0 28) < (ti u.2 q0 42)) ∧ True) ∨ (¬ ((ti u.2 q0 42) < ((ti f q0 42) + 1)) ∧ ¬ ((ti f q0 28) < (ti u.2 q0 42)) ∧ True)) ∧ Q u.1 u.2) (fun (u : TSt) t => va_P (dC, dI) vwCl (TW ct u.1 u.2) t.heap ∧ va_K (dC, dI) vwCl (TT ct) t ∧ va_D (va_A (TW ct L f) s.heap.size) (TW ct u.1 u.2)) (va_A (TW ct L f) s.heap.size)) [.ref q0].toArray s 0 0 (va_A (TW ct L f) s.heap.size)) (F0 m 0 ls []) := by
    intro n_1
    induction n_1 using Nat.strongRecOn with
    | _ n_1 ih_1 =>
      intro L_1 f_1 H locs ls hP hD hS hO_1 hE_1 iv0_1 iv1_1 hm_1 hQ hl
      have hA_1 := hA_0.trans hE_1
      have bf_2 := hO_1.i (hA_1.m m0) (show slotD 27 42 = some (.inl (0, 400)) from rfl)
      rw [wpL_Md_advance_w_0_1_eq] at hQ
      obtain ⟨rec_1, hrec_1⟩ : ∃ g, wpR_Md_advance_w_0_1 L f q0 Q n_1 = g := ⟨_, rfl⟩
      rw [hrec_1] at hQ
      unfold wpB_Md_advance_w_0_1 at hQ
      have hQ := hQ hO_1 hE_1
      refine lv_aload_n hx hb d_Md_advance_0 rfl (lv_at hl 0 rfl) ?_
      refine tw_getI (x := (ti f_1 q0 42)) (D := (dC, dI)) (C := R_Md) (T := F_Md) (N := 64) (ci := 7) (kd := 27) (ct := ct) hx hb htb i_Md hown hK hP (hA_1.m m0) rfl rfl 42 rfl (by decide) (htb (.fieldLink R_Md 218 "WaterMenModel" "at" "I") tw_336) (fun _ h9 => h9) rfl d_Md_advance_1 ?_
      refine lv_aload_n hx hb d_Md_advance_4 rfl (lv_at hl 0 rfl) ?_
      refine tw_getI (x := (ti f q0 28)) (D := (dC, dI)) (C := R_Md) (T := F_Md) (N := 64) (ci := 7) (kd := 27) (ct := ct) hx hb htb i_Md hown hK hP (hA_1.m m0) rfl rfl 28 ((hA_1.ei m0 rfl).trans rfl) (by decide) (htb (.fieldLink R_Md 212 "WaterMenModel" "taped" "I") tw_187) (fun _ h9 => h9) rfl d_Md_advance_5 ?_
      refine lv_icmp_ge (tgt := 38) hx hb d_Md_advance_8 (by decide) (fun c_3 => ?_) (fun c_3 => ?_)
      · have hQ := hQ.1 c_3
        refine lv_aload_n hx hb d_Md_advance_38 rfl (lv_at hl 0 rfl) ?_
        refine lv_aload_n hx hb d_Md_advance_39 rfl (lv_at hl 0 rfl) ?_
        refine tw_getI (x := (ti f_1 q0 42)) (D := (dC, dI)) (C := R_Md) (T := F_Md) (N := 64) (ci := 7) (kd := 27) (ct := ct) hx hb htb i_Md hown hK hP (hA_1.m m0) rfl rfl 42 rfl (by decide) (htb (.fieldLink R_Md 218 "WaterMenModel" "at" "I") tw_336) (fun _ h9 => h9) rfl d_Md_advance_40 ?_
        refine tw_puti (v := (ti f_1 q0 42)) (D := (dC, dI)) (C := R_Md) (T := F_Md) (N := 64) (ci := 7) (kd := 27) (ct := ct) (ty := .int) hx hb htb i_Md t_Md t_Md_ok n_Md hown hK hP hD hS hO_1 (hA_1.m m0) rfl rfl 44 (by decide) (htb (.fieldLink R_Md 221 "WaterMenModel" "tkAt" "I") tw_337) (fun _ h9 => h9) rfl (by decide +kernel) rfl rfl rfl ⟨bf_2.1, bf_2.2⟩ d_Md_advance_43 (fun f_2 H locs hP hD hS hO_2 hE_2 w_4 hF_2 => ?_)
        have hA_2 := hA_1.trans hE_2
        have hQ := hQ f_2 hF_2
        have hQ := hQ hO_2
        refine lv_aload_n hx hb d_Md_advance_46 rfl (lv_at hl 0 rfl) ?_
        refine tw_getI (x := (ti f_1 q0 42)) (D := (dC, dI)) (C := R_Md) (T := F_Md) (N := 64) (ci := 7) (kd := 27) (ct := ct) hx hb htb i_Md hown hK hP (hA_2.m m0) rfl rfl 42 ((hE_2.ei (hA_1.m m0) rfl).trans rfl) (by decide) (htb (.fieldLink R_Md 218 "WaterMenModel" "at" "I") tw_336) (fun _ h9 => h9) rfl d_Md_advance_47 ?_
        refine lv_aload_n hx hb d_Md_advance_50 rfl (lv_at hl 0 rfl) ?_
        refine tw_getI (x := (ti f q0 28)) (D := (dC, dI)) (C := R_Md) (T := F_Md) (N := 64) (ci := 7) (kd := 27) (ct := ct) hx hb htb i_Md hown hK hP (hA_2.m m0) rfl rfl 28 ((hA_2.ei m0 rfl).trans rfl) (by decide) (htb (.fieldLink R_Md 212 "WaterMenModel" "taped" "I") tw_187) (fun _ h9 => h9) rfl d_Md_advance_51 ?_
        refine lv_icmp_ne (tgt := 63) hx hb d_Md_advance_54 (by decide) (fun h => absurd (show (ti f_1 q0 42) = (ti f q0 28) from ((fun (a_0 : Int32) (a_1 : Int32) (k_0 : ¬ (a_0 < a_1)) (k_1 : a_0 ≤ a_1) => (show a_1 = a_0 from by have r0 := fb_rng (a_0); have r1 := fb_rng (a_1); have e0 := k_0; rw [Int32.lt_iff_toInt_lt] at e0; have e1 := k_1; rw [Int32.le_iff_toInt_le] at e1; rw [← Int32.toInt_inj]; omega)) (ti f q0 28) (ti f_1 q0 42) iv0_1 c_3)) h) (fun _ => ?_)
        refine lv_aload_n hx hb d_Md_advance_57 rfl (lv_at hl 0 rfl) ?_
        refine lv_iconst (v := 0) hx hb d_Md_advance_58 (by decide +kernel) ?_
        refine tw_puti (v := 0) (D := (dC, dI)) (C := R_Md) (T := F_Md) (N := 64) (ci := 7) (kd := 27) (ct := ct) (ty := .int) hx hb htb i_Md t_Md t_Md_ok n_Md hown hK hP hD hS hO_2 (hA_2.m m0) rfl rfl 43 (by decide) (htb (.fieldLink R_Md 224 "WaterMenModel" "tk" "I") tw_338) (fun _ h9 => h9) rfl (by decide +kernel) rfl rfl rfl ⟨by decide +kernel, by decide +kernel⟩ d_Md_advance_59 (fun f_3 H locs hP hD hS hO_3 hE_3 w_5 hF_3 => ?_)
        have hA_3 := hA_2.trans hE_3
        have hQ := hQ f_3 hF_3
        have hQ := hQ hO_3
        refine W.widen (k := 0) (n := 0) (Nat.le_of_ble_eq_true rfl) (Nat.le_of_ble_eq_true rfl) ?_
        exact W.vret hx hb hr (fun t ht hW => ⟨⟨(L_1, f_3), rfl, ⟨hO_3, hA_3.mono (by decide +kernel), (Or.inl ⟨(by show (ti f_3 q0 43) = 0; rw [show ti f_3 q0 43 = 0 from w_5]; first | done | exact (by decide +kernel)), (by show ¬ ((ti f_3 q0 42) < (ti f q0 42)); rw [show ti f_3 q0 42 = (ti f_1 q0 42) from ((hE_3.ei (hA_2.m m0) rfl).trans ((hE_2.ei (hA_1.m m0) rfl).trans rfl))]; first | done | exact iv1_1), (by show ¬ ((ti f q0 28) < (ti f_3 q0 42)); rw [show ti f_3 q0 42 = (ti f_1 q0 42) from ((hE_3.ei (hA_2.m m0) rfl).trans ((hE_2.ei (hA_1.m m0) rfl).trans rfl))]; first | done | exact iv0_1), trivial⟩), hQ⟩, by rw [ht]; exact hP, va_K.moved hW.alike hK, by rw [hAe]; exact hD⟩, by rw [hAe]; exact hS.F ht⟩) (by rw [hAe]; exact hS.2.2) d_Md_advance_62
      · have hQ := hQ.2 c_3
        refine lv_aload_n hx hb d_Md_advance_11 rfl (lv_at hl 0 rfl) ?_
        refine tw_getr (D := (dC, dI)) (C := R_Md) (T := F_Md) (N := 64) (ci := 7) (kd := 27) (ct := ct) hx hb htb i_Md hown hK hP hO_1 (hA_1.m m0) rfl rfl 27 (by decide) (htb (.fieldLink R_Md 109 "WaterMenModel" "tape" "[B") tw_188) (fun _ h9 => h9) rfl d_Md_advance_12 (fun q_6 e_6 m_6 => ?_)
        have hQ := hQ q_6 e_6
        refine lv_aload_n hx hb d_Md_advance_15 rfl (lv_at hl 0 rfl) ?_
        refine tw_getI (x := (ti f_1 q0 42)) (D := (dC, dI)) (C := R_Md) (T := F_Md) (N := 64) (ci := 7) (kd := 27) (ct := ct) hx hb htb i_Md hown hK hP (hA_1.m m0) rfl rfl 42 rfl (by decide) (htb (.fieldLink R_Md 218 "WaterMenModel" "at" "I") tw_336) (fun _ h9 => h9) rfl d_Md_advance_16 ?_
        refine tw_aldB (ct := ct) hx hb hK hP hO_1 m_6 rfl ((fun (a_0 : Int32) (a_1 : Int32) (k_0 : ¬ (a_1 < 0)) (k_1 : ¬ (a_0 ≤ a_1)) (k_2 : ¬ (400 < a_0)) => (show vp_in (a_1) 400 from by have z0 : (0 : Int32).toInt = 0 := (by decide +kernel); have z1 : (400 : Int32).toInt = 400 := (by decide +kernel); have r0 := fb_rng (a_0); have r1 := fb_rng (a_1); have e0 := k_0; rw [Int32.lt_iff_toInt_lt, z0] at e0; have e1 := k_1; rw [Int32.le_iff_toInt_le] at e1; have e2 := k_2; rw [Int32.lt_iff_toInt_lt, z1] at e2; rw [vp_in_iff]; omega)) (ti f q0 28) (ti f_1 q0 42) bf_2.1 c_3 bp_28.2) d_Md_advance_19 (fun x_7 e_7 b_7 => ?_)
        have hQ := hQ x_7 e_7
        refine lv_bipush (v := 32) hx hb d_Md_advance_20 (by decide +kernel) ?_
        refine lv_icmp_ne (tgt := 38) hx hb d_Md_advance_22 (by decide) (fun c_8 => ?_) (fun c_8 => ?_)
        · have hQ := hQ.2 c_8
          refine lv_aload_n hx hb d_Md_advance_38 rfl (lv_at hl 0 rfl) ?_
          refine lv_aload_n hx hb d_Md_advance_39 rfl (lv_at hl 0 rfl) ?_
          refine tw_getI (x := (ti f_1 q0 42)) (D := (dC, dI)) (C := R_Md) (T := F_Md) (N := 64) (ci := 7) (kd := 27) (ct := ct) hx hb htb i_Md hown hK hP (hA_1.m m0) rfl rfl 42 rfl (by decide) (htb (.fieldLink R_Md 218 "WaterMenModel" "at" "I") tw_336) (fun _ h9 => h9) rfl d_Md_advance_40 ?_
          refine tw_puti (v := (ti f_1 q0 42)) (D := (dC, dI)) (C := R_Md) (T := F_Md) (N := 64) (ci := 7) (kd := 27) (ct := ct) (ty := .int) hx hb htb i_Md t_Md t_Md_ok n_Md hown hK hP hD hS hO_1 (hA_1.m m0) rfl rfl 44 (by decide) (htb (.fieldLink R_Md 221 "WaterMenModel" "tkAt" "I") tw_337) (fun _ h9 => h9) rfl (by decide +kernel) rfl rfl rfl ⟨bf_2.1, bf_2.2⟩ d_Md_advance_43 (fun f_2 H locs hP hD hS hO_2 hE_2 w_9 hF_2 => ?_)
          have hA_2 := hA_1.trans hE_2
          have hQ := hQ f_2 hF_2
          have hQ := hQ hO_2
          refine lv_aload_n hx hb d_Md_advance_46 rfl (lv_at hl 0 rfl) ?_
          refine tw_getI (x := (ti f_1 q0 42)) (D := (dC, dI)) (C := R_Md) (T := F_Md) (N := 64) (ci := 7) (kd := 27) (ct := ct) hx hb htb i_Md hown hK hP (hA_2.m m0) rfl rfl 42 ((hE_2.ei (hA_1.m m0) rfl).trans rfl) (by decide) (htb (.fieldLink R_Md 218 "WaterMenModel" "at" "I") tw_336) (fun _ h9 => h9) rfl d_Md_advance_47 ?_
          refine lv_aload_n hx hb d_Md_advance_50 rfl (lv_at hl 0 rfl) ?_
          refine tw_getI (x := (ti f q0 28)) (D := (dC, dI)) (C := R_Md) (T := F_Md) (N := 64) (ci := 7) (kd := 27) (ct := ct) hx hb htb i_Md hown hK hP (hA_2.m m0) rfl rfl 28 ((hA_2.ei m0 rfl).trans rfl) (by decide) (htb (.fieldLink R_Md 212 "WaterMenModel" "taped" "I") tw_187) (fun _ h9 => h9) rfl d_Md_advance_51 ?_
          refine lv_icmp_ne (tgt := 63) hx hb d_Md_advance_54 (by decide) (fun _ => ?_) (fun h => absurd h (show ¬ ((ti f_1 q0 42) = (ti f q0 28)) from ((fun (a_0 : Int32) (a_1 : Int32) (k_0 : ¬ (a_0 ≤ a_1)) => (show ¬ (a_1 = a_0) from by have r0 := fb_rng (a_0); have r1 := fb_rng (a_1); have e0 := k_0; rw [Int32.le_iff_toInt_le] at e0; rw [← Int32.toInt_inj]; omega)) (ti f q0 28) (ti f_1 q0 42) c_3)))
          refine lv_aload_n hx hb d_Md_advance_63 rfl (lv_at hl 0 rfl) ?_
          refine tw_getR (D := (dC, dI)) (C := R_Md) (T := F_Md) (N := 64) (ci := 7) (kd := 27) (ct := ct) hx hb htb i_Md hown hK hP (hA_2.m m0) rfl rfl 27 ((hE_2.er (hA_1.m m0) rfl).trans e_6) (by decide) (htb (.fieldLink R_Md 109 "WaterMenModel" "tape" "[B") tw_188) (fun _ h9 => h9) rfl d_Md_advance_64 ?_
          refine hb_tv (.ref q_6) rfl ?_
          refine lv_aload_n hx hb d_Md_advance_67 rfl (lv_at hl 0 rfl) ?_
          refine tw_getI (x := (ti f_1 q0 42)) (D := (dC, dI)) (C := R_Md) (T := F_Md) (N := 64) (ci := 7) (kd := 27) (ct := ct) hx hb htb i_Md hown hK hP (hA_2.m m0) rfl rfl 42 ((hE_2.ei (hA_1.m m0) rfl).trans rfl) (by decide) (htb (.fieldLink R_Md 218 "WaterMenModel" "at" "I") tw_336) (fun _ h9 => h9) rfl d_Md_advance_68 ?_
          refine tw_aldxB (ct := ct) (x := x_7) hx hb hK hP (hE_2.m m_6) rfl ((fun (a_0 : Int32) (a_1 : Int32) (k_0 : ¬ (a_1 < 0)) (k_1 : ¬ (a_0 ≤ a_1)) (k_2 : ¬ (400 < a_0)) => (show vp_in (a_1) 400 from by have z0 : (0 : Int32).toInt = 0 := (by decide +kernel); have z1 : (400 : Int32).toInt = 400 := (by decide +kernel); have r0 := fb_rng (a_0); have r1 := fb_rng (a_1); have e0 := k_0; rw [Int32.lt_iff_toInt_lt, z0] at e0; have e1 := k_1; rw [Int32.le_iff_toInt_le] at e1; have e2 := k_2; rw [Int32.lt_iff_toInt_lt, z1] at e2; rw [vp_in_iff]; omega)) (ti f q0 28) (ti f_1 q0 42) bf_2.1 c_3 bp_28.2) ((hE_2.ei m_6 rfl).trans e_7) d_Md_advance_71 ?_
          refine lv_istore_n (lv' := [(1, .int x_7), (0, .ref q0)]) hx hb d_Md_advance_72 rfl hl (by decide) rfl (fun ls hl => ?_)
          refine lv_iload_n hx hb d_Md_advance_73 rfl (lv_at hl 0 rfl) ?_
          refine vp_callSi (va_Run.run (va_runS (As := [.int x_7]) (rest := []) ⟨hx, hb, hml, hown, htb⟩ (c_Md_isLetter l x_7) (cwS 1 htb (gd_S tw_340 tw_341 tw_89 tw_339) rfl rfl rfl (by decide +kernel) ⟨Nat.le_of_ble_eq_true rfl, Nat.le_of_ble_eq_true rfl⟩) ⟨fun _ _ _ _ h => h, fun U _ _ => ⟨rfl, trivial⟩⟩ rfl rfl hl.1 rfl (lv_room (Nat.le_of_ble_eq_true rfl)) d_Md_advance_74 ⟨Nat.le_of_ble_eq_true rfl, Nat.le_of_ble_eq_true rfl⟩)) (fun r er => ?_)
          subst er
          by_cases c_12 : x_7 < 97
          · have hQ := hQ.1 c_12
            refine hb_ti 0 (by unfold f_Md_isLetter; rw [if_pos c_12]; first | done | rfl) ?_
            refine lv_if_eq (tgt := 179) hx hb d_Md_advance_77 (by decide) (fun _ => ?_) (fun h => absurd (by decide +kernel) h)
            refine lv_iload_n hx hb d_Md_advance_179 rfl (lv_at hl 0 rfl) ?_
            refine vp_callSi (va_Run.run (va_runS (As := [.int x_7]) (rest := []) ⟨hx, hb, hml, hown, htb⟩ (c_Md_isDigit l x_7) (cwS 1 htb (gd_S tw_343 tw_344 tw_89 tw_342) rfl rfl rfl (by decide +kernel) ⟨Nat.le_of_ble_eq_true rfl, Nat.le_of_ble_eq_true rfl⟩) ⟨fun _ _ _ _ h => h, fun U _ _ => ⟨rfl, trivial⟩⟩ rfl rfl hl.1 rfl (lv_room (Nat.le_of_ble_eq_true rfl)) d_Md_advance_180 ⟨Nat.le_of_ble_eq_true rfl, Nat.le_of_ble_eq_true rfl⟩)) (fun r er => ?_)
            subst er
            by_cases c_14 : x_7 < 48
            · have hQ := hQ.1 c_14
              refine hb_ti 0 (by unfold f_Md_isDigit; rw [if_pos c_14]; first | done | rfl) ?_
              refine lv_if_eq (tgt := 286) hx hb d_Md_advance_183 (by decide) (fun _ => ?_) (fun h => absurd (by decide +kernel) h)
              refine lv_aload_n hx hb d_Md_advance_286 rfl (lv_at hl 1 rfl) ?_
              refine lv_dup hx hb d_Md_advance_287 rfl ?_
              refine tw_getI (x := (ti f_1 q0 42)) (D := (dC, dI)) (C := R_Md) (T := F_Md) (N := 64) (ci := 7) (kd := 27) (ct := ct) hx hb htb i_Md hown hK hP (hA_2.m m0) rfl rfl 42 ((hE_2.ei (hA_1.m m0) rfl).trans rfl) (by decide) (htb (.fieldLink R_Md 218 "WaterMenModel" "at" "I") tw_336) (fun _ h9 => h9) rfl d_Md_advance_288 ?_
              refine lv_iconst (v := 1) hx hb d_Md_advance_291 (by decide +kernel) ?_
              refine lv_iadd hx hb d_Md_advance_292 ?_
              refine tw_puti (v := ((ti f_1 q0 42) + 1)) (D := (dC, dI)) (C := R_Md) (T := F_Md) (N := 64) (ci := 7) (kd := 27) (ct := ct) (ty := .int) hx hb htb i_Md t_Md t_Md_ok n_Md hown hK hP hD hS hO_2 (hA_2.m m0) rfl rfl 42 (by decide) (htb (.fieldLink R_Md 218 "WaterMenModel" "at" "I") tw_336) (fun _ h9 => h9) rfl (by decide +kernel) rfl rfl rfl ⟨(show ¬ (((ti f_1 q0 42) + 1) < 0) from ((fun (a_0 : Int32) (a_1 : Int32) (k_0 : ¬ (a_1 < 0)) (k_1 : ¬ (a_0 ≤ a_1)) => (show ¬ ((a_1 + 1) < 0) from by have z0 : (0 : Int32).toInt = 0 := (by decide +kernel); have z1 : (1 : Int32).toInt = 1 := (by decide +kernel); have r0 := fb_rng (a_0); have r1 := fb_rng (a_1); have e0 := k_0; rw [Int32.lt_iff_toInt_lt, z0] at e0; have e1 := k_1; rw [Int32.le_iff_toInt_le] at e1; obtain ⟨n_0, hn_0, s0⟩ := nd_add (x := a_1) (y := (1 : Int32)) (by (try rw [z1]); omega) (by (try rw [z1]); omega); rw [z1] at s0; rw [hn_0, Int32.lt_iff_toInt_lt, z0]; omega)) (ti f q0 28) (ti f_1 q0 42) bf_2.1 c_3)), (show ¬ (400 < ((ti f_1 q0 42) + 1)) from ((fun (a_0 : Int32) (a_1 : Int32) (k_0 : ¬ (a_0 ≤ a_1)) (k_1 : ¬ (400 < a_0)) => (show ¬ (400 < (a_1 + 1)) from by have z0 : (1 : Int32).toInt = 1 := (by decide +kernel); have z1 : (400 : Int32).toInt = 400 := (by decide +kernel); have r0 := fb_rng (a_0); have r1 := fb_rng (a_1); have e0 := k_0; rw [Int32.le_iff_toInt_le] at e0; have e1 := k_1; rw [Int32.lt_iff_toInt_lt, z1] at e1; obtain ⟨n_0, hn_0, s0⟩ := nd_add (x := a_1) (y := (1 : Int32)) (by (try rw [z0]); omega) (by (try rw [z0]); omega); rw [z0] at s0; rw [hn_0, Int32.lt_iff_toInt_lt, z1]; omega)) (ti f q0 28) (ti f_1 q0 42) c_3 bp_28.2))⟩ d_Md_advance_293 (fun f_3 H locs hP hD hS hO_3 hE_3 w_15 hF_3 => ?_)
              have hA_3 := hA_2.trans hE_3
              have hQ := hQ f_3 hF_3
              have hQ := hQ hO_3
              refine lv_aload_n hx hb d_Md_advance_296 rfl (lv_at hl 1 rfl) ?_
              refine lv_iload_n hx hb d_Md_advance_297 rfl (lv_at hl 0 rfl) ?_
              refine lv_bipush (v := 59) hx hb d_Md_advance_298 (by decide +kernel) ?_
              refine lv_icmp_ne (tgt := 307) hx hb d_Md_advance_300 (by decide) (fun _ => ?_) (fun h => absurd h (show ¬ (x_7 = 59) from by have e0 := c_14; rw [Int32.lt_iff_toInt_lt] at e0; have z0 : (48 : Int32).toInt = 48 := (by decide +kernel); have z1 : (59 : Int32).toInt = 59 := (by decide +kernel); rw [← Int32.toInt_inj]; omega))
              refine lv_iconst (v := 3) hx hb d_Md_advance_307 (by decide +kernel) ?_
              refine tw_puti (v := 3) (D := (dC, dI)) (C := R_Md) (T := F_Md) (N := 64) (ci := 7) (kd := 27) (ct := ct) (ty := .int) hx hb htb i_Md t_Md t_Md_ok n_Md hown hK hP hD hS hO_3 (hA_3.m m0) rfl rfl 43 (by decide) (htb (.fieldLink R_Md 224 "WaterMenModel" "tk" "I") tw_338) (fun _ h9 => h9) rfl (by decide +kernel) rfl rfl rfl ⟨by decide +kernel, by decide +kernel⟩ d_Md_advance_308 (fun f_4 H locs hP hD hS hO_4 hE_4 w_16 hF_4 => ?_)
              have hA_4 := hA_3.trans hE_4
              have hQ := hQ f_4 hF_4
              have hQ := hQ hO_4
              refine W.widen (k := 0) (n := 0) (Nat.le_of_ble_eq_true rfl) (Nat.le_of_ble_eq_true rfl) ?_
              exact W.vret hx hb hr (fun t ht hW => ⟨⟨(L_1, f_4), rfl, ⟨hO_4, hA_4.mono (by decide +kernel), (Or.inr ⟨(by show ¬ ((ti f_4 q0 42) < ((ti f q0 42) + 1)); rw [show ti f_4 q0 42 = ((ti f_1 q0 42) + 1) from ((hE_4.ei (hA_3.m m0) rfl).trans w_15)]; first | done | exact (show ¬ (((ti f_1 q0 42) + 1) < ((ti f q0 42) + 1)) from ((fun (a_0 : Int32) (a_1 : Int32) (a_2 : Int32) (k_0 : ¬ (a_2 < a_1)) (k_1 : ¬ (a_0 ≤ a_2)) => (show ¬ ((a_2 + 1) < (a_1 + 1)) from by have z0 : (1 : Int32).toInt = 1 := (by decide +kernel); have r0 := fb_rng (a_0); have r1 := fb_rng (a_1); have r2 := fb_rng (a_2); have e0 := k_0; rw [Int32.lt_iff_toInt_lt] at e0; have e1 := k_1; rw [Int32.le_iff_toInt_le] at e1; obtain ⟨n_0, hn_0, s0⟩ := nd_add (x := a_2) (y := (1 : Int32)) (by (try rw [z0]); omega) (by (try rw [z0]); omega); rw [z0] at s0; obtain ⟨n_1, hn_1, s1⟩ := nd_add (x := a_1) (y := (1 : Int32)) (by (try rw [z0]); omega) (by (try rw [z0]); omega); rw [z0] at s1; rw [hn_0, hn_1, Int32.lt_iff_toInt_lt]; omega)) (ti f q0 28) (ti f q0 42) (ti f_1 q0 42) iv1_1 c_3))), (by show ¬ ((ti f q0 28) < (ti f_4 q0 42)); rw [show ti f_4 q0 42 = ((ti f_1 q0 42) + 1) from ((hE_4.ei (hA_3.m m0) rfl).trans w_15)]; first | done | exact (show ¬ ((ti f q0 28) < ((ti f_1 q0 42) + 1)) from ((fun (a_0 : Int32) (a_1 : Int32) (k_0 : ¬ (a_0 ≤ a_1)) => (show ¬ (a_0 < (a_1 + 1)) from by have z0 : (1 : Int32).toInt = 1 := (by decide +kernel); have r0 := fb_rng (a_0); have r1 := fb_rng (a_1); have e0 := k_0; rw [Int32.le_iff_toInt_le] at e0; obtain ⟨n_0, hn_0, s0⟩ := nd_add (x := a_1) (y := (1 : Int32)) (by (try rw [z0]); omega) (by (try rw [z0]); omega); rw [z0] at s0; rw [hn_0, Int32.lt_iff_toInt_lt]; omega)) (ti f q0 28) (ti f_1 q0 42) c_3))), trivial⟩), hQ⟩, by rw [ht]; exact hP, va_K.moved hW.alike hK, by rw [hAe]; exact hD⟩, by rw [hAe]; exact hS.F ht⟩) (by rw [hAe]; exact hS.2.2) d_Md_advance_311
            · have hQ := hQ.2 c_14
              by_cases c_17 : 57 < x_7
              · have hQ := hQ.1 c_17
                refine hb_ti 0 (by unfold f_Md_isDigit; rw [if_neg c_14, if_pos c_17]; first | done | rfl) ?_
                refine lv_if_eq (tgt := 286) hx hb d_Md_advance_183 (by decide) (fun _ => ?_) (fun h => absurd (by decide +kernel) h)
                refine lv_aload_n hx hb d_Md_advance_286 rfl (lv_at hl 1 rfl) ?_
                refine lv_dup hx hb d_Md_advance_287 rfl ?_
                refine tw_getI (x := (ti f_1 q0 42)) (D := (dC, dI)) (C := R_Md) (T := F_Md) (N := 64) (ci := 7) (kd := 27) (ct := ct) hx hb htb i_Md hown hK hP (hA_2.m m0) rfl rfl 42 ((hE_2.ei (hA_1.m m0) rfl).trans rfl) (by decide) (htb (.fieldLink R_Md 218 "WaterMenModel" "at" "I") tw_336) (fun _ h9 => h9) rfl d_Md_advance_288 ?_
                refine lv_iconst (v := 1) hx hb d_Md_advance_291 (by decide +kernel) ?_
                refine lv_iadd hx hb d_Md_advance_292 ?_
                refine tw_puti (v := ((ti f_1 q0 42) + 1)) (D := (dC, dI)) (C := R_Md) (T := F_Md) (N := 64) (ci := 7) (kd := 27) (ct := ct) (ty := .int) hx hb htb i_Md t_Md t_Md_ok n_Md hown hK hP hD hS hO_2 (hA_2.m m0) rfl rfl 42 (by decide) (htb (.fieldLink R_Md 218 "WaterMenModel" "at" "I") tw_336) (fun _ h9 => h9) rfl (by decide +kernel) rfl rfl rfl ⟨(show ¬ (((ti f_1 q0 42) + 1) < 0) from ((fun (a_0 : Int32) (a_1 : Int32) (k_0 : ¬ (a_1 < 0)) (k_1 : ¬ (a_0 ≤ a_1)) => (show ¬ ((a_1 + 1) < 0) from by have z0 : (0 : Int32).toInt = 0 := (by decide +kernel); have z1 : (1 : Int32).toInt = 1 := (by decide +kernel); have r0 := fb_rng (a_0); have r1 := fb_rng (a_1); have e0 := k_0; rw [Int32.lt_iff_toInt_lt, z0] at e0; have e1 := k_1; rw [Int32.le_iff_toInt_le] at e1; obtain ⟨n_0, hn_0, s0⟩ := nd_add (x := a_1) (y := (1 : Int32)) (by (try rw [z1]); omega) (by (try rw [z1]); omega); rw [z1] at s0; rw [hn_0, Int32.lt_iff_toInt_lt, z0]; omega)) (ti f q0 28) (ti f_1 q0 42) bf_2.1 c_3)), (show ¬ (400 < ((ti f_1 q0 42) + 1)) from ((fun (a_0 : Int32) (a_1 : Int32) (k_0 : ¬ (a_0 ≤ a_1)) (k_1 : ¬ (400 < a_0)) => (show ¬ (400 < (a_1 + 1)) from by have z0 : (1 : Int32).toInt = 1 := (by decide +kernel); have z1 : (400 : Int32).toInt = 400 := (by decide +kernel); have r0 := fb_rng (a_0); have r1 := fb_rng (a_1); have e0 := k_0; rw [Int32.le_iff_toInt_le] at e0; have e1 := k_1; rw [Int32.lt_iff_toInt_lt, z1] at e1; obtain ⟨n_0, hn_0, s0⟩ := nd_add (x := a_1) (y := (1 : Int32)) (by (try rw [z0]); omega) (by (try rw [z0]); omega); rw [z0] at s0; rw [hn_0, Int32.lt_iff_toInt_lt, z1]; omega)) (ti f q0 28) (ti f_1 q0 42) c_3 bp_28.2))⟩ d_Md_advance_293 (fun f_3 H locs hP hD hS hO_3 hE_3 w_18 hF_3 => ?_)
                have hA_3 := hA_2.trans hE_3
                have hQ := hQ f_3 hF_3
                have hQ := hQ hO_3
                refine lv_aload_n hx hb d_Md_advance_296 rfl (lv_at hl 1 rfl) ?_
                refine lv_iload_n hx hb d_Md_advance_297 rfl (lv_at hl 0 rfl) ?_
                refine lv_bipush (v := 59) hx hb d_Md_advance_298 (by decide +kernel) ?_
                refine lv_icmp_ne (tgt := 307) hx hb d_Md_advance_300 (by decide) (fun c_19 => ?_) (fun c_19 => ?_)
                · have hQ := hQ.2 c_19
                  refine lv_iconst (v := 3) hx hb d_Md_advance_307 (by decide +kernel) ?_
                  refine tw_puti (v := 3) (D := (dC, dI)) (C := R_Md) (T := F_Md) (N := 64) (ci := 7) (kd := 27) (ct := ct) (ty := .int) hx hb htb i_Md t_Md t_Md_ok n_Md hown hK hP hD hS hO_3 (hA_3.m m0) rfl rfl 43 (by decide) (htb (.fieldLink R_Md 224 "WaterMenModel" "tk" "I") tw_338) (fun _ h9 => h9) rfl (by decide +kernel) rfl rfl rfl ⟨by decide +kernel, by decide +kernel⟩ d_Md_advance_308 (fun f_4 H locs hP hD hS hO_4 hE_4 w_20 hF_4 => ?_)
                  have hA_4 := hA_3.trans hE_4
                  have hQ := hQ f_4 hF_4
                  have hQ := hQ hO_4
                  refine W.widen (k := 0) (n := 0) (Nat.le_of_ble_eq_true rfl) (Nat.le_of_ble_eq_true rfl) ?_
                  exact W.vret hx hb hr (fun t ht hW => ⟨⟨(L_1, f_4), rfl, ⟨hO_4, hA_4.mono (by decide +kernel), (Or.inr ⟨(by show ¬ ((ti f_4 q0 42) < ((ti f q0 42) + 1)); rw [show ti f_4 q0 42 = ((ti f_1 q0 42) + 1) from ((hE_4.ei (hA_3.m m0) rfl).trans w_18)]; first | done | exact (show ¬ (((ti f_1 q0 42) + 1) < ((ti f q0 42) + 1)) from ((fun (a_0 : Int32) (a_1 : Int32) (a_2 : Int32) (k_0 : ¬ (a_2 < a_1)) (k_1 : ¬ (a_0 ≤ a_2)) => (show ¬ ((a_2 + 1) < (a_1 + 1)) from by have z0 : (1 : Int32).toInt = 1 := (by decide +kernel); have r0 := fb_rng (a_0); have r1 := fb_rng (a_1); have r2 := fb_rng (a_2); have e0 := k_0; rw [Int32.lt_iff_toInt_lt] at e0; have e1 := k_1; rw [Int32.le_iff_toInt_le] at e1; obtain ⟨n_0, hn_0, s0⟩ := nd_add (x := a_2) (y := (1 : Int32)) (by (try rw [z0]); omega) (by (try rw [z0]); omega); rw [z0] at s0; obtain ⟨n_1, hn_1, s1⟩ := nd_add (x := a_1) (y := (1 : Int32)) (by (try rw [z0]); omega) (by (try rw [z0]); omega); rw [z0] at s1; rw [hn_0, hn_1, Int32.lt_iff_toInt_lt]; omega)) (ti f q0 28) (ti f q0 42) (ti f_1 q0 42) iv1_1 c_3))), (by show ¬ ((ti f q0 28) < (ti f_4 q0 42)); rw [show ti f_4 q0 42 = ((ti f_1 q0 42) + 1) from ((hE_4.ei (hA_3.m m0) rfl).trans w_18)]; first | done | exact (show ¬ ((ti f q0 28) < ((ti f_1 q0 42) + 1)) from ((fun (a_0 : Int32) (a_1 : Int32) (k_0 : ¬ (a_0 ≤ a_1)) => (show ¬ (a_0 < (a_1 + 1)) from by have z0 : (1 : Int32).toInt = 1 := (by decide +kernel); have r0 := fb_rng (a_0); have r1 := fb_rng (a_1); have e0 := k_0; rw [Int32.le_iff_toInt_le] at e0; obtain ⟨n_0, hn_0, s0⟩ := nd_add (x := a_1) (y := (1 : Int32)) (by (try rw [z0]); omega) (by (try rw [z0]); omega); rw [z0] at s0; rw [hn_0, Int32.lt_iff_toInt_lt]; omega)) (ti f q0 28) (ti f_1 q0 42) c_3))), trivial⟩), hQ⟩, by rw [ht]; exact hP, va_K.moved hW.alike hK, by rw [hAe]; exact hD⟩, by rw [hAe]; exact hS.F ht⟩) (by rw [hAe]; exact hS.2.2) d_Md_advance_311
                · have hQ := hQ.1 c_19
                  refine lv_iconst (v := 2) hx hb d_Md_advance_303 (by decide +kernel) ?_
                  refine lv_goto (tgt := 308) hx hb d_Md_advance_304 (by decide) ?_
                  refine tw_puti (v := 2) (D := (dC, dI)) (C := R_Md) (T := F_Md) (N := 64) (ci := 7) (kd := 27) (ct := ct) (ty := .int) hx hb htb i_Md t_Md t_Md_ok n_Md hown hK hP hD hS hO_3 (hA_3.m m0) rfl rfl 43 (by decide) (htb (.fieldLink R_Md 224 "WaterMenModel" "tk" "I") tw_338) (fun _ h9 => h9) rfl (by decide +kernel) rfl rfl rfl ⟨by decide +kernel, by decide +kernel⟩ d_Md_advance_308 (fun f_4 H locs hP hD hS hO_4 hE_4 w_21 hF_4 => ?_)
                  have hA_4 := hA_3.trans hE_4
                  have hQ := hQ f_4 hF_4
                  have hQ := hQ hO_4
                  refine W.widen (k := 0) (n := 0) (Nat.le_of_ble_eq_true rfl) (Nat.le_of_ble_eq_true rfl) ?_
                  exact W.vret hx hb hr (fun t ht hW => ⟨⟨(L_1, f_4), rfl, ⟨hO_4, hA_4.mono (by decide +kernel), (Or.inr ⟨(by show ¬ ((ti f_4 q0 42) < ((ti f q0 42) + 1)); rw [show ti f_4 q0 42 = ((ti f_1 q0 42) + 1) from ((hE_4.ei (hA_3.m m0) rfl).trans w_18)]; first | done | exact (show ¬ (((ti f_1 q0 42) + 1) < ((ti f q0 42) + 1)) from ((fun (a_0 : Int32) (a_1 : Int32) (a_2 : Int32) (k_0 : ¬ (a_2 < a_1)) (k_1 : ¬ (a_0 ≤ a_2)) => (show ¬ ((a_2 + 1) < (a_1 + 1)) from by have z0 : (1 : Int32).toInt = 1 := (by decide +kernel); have r0 := fb_rng (a_0); have r1 := fb_rng (a_1); have r2 := fb_rng (a_2); have e0 := k_0; rw [Int32.lt_iff_toInt_lt] at e0; have e1 := k_1; rw [Int32.le_iff_toInt_le] at e1; obtain ⟨n_0, hn_0, s0⟩ := nd_add (x := a_2) (y := (1 : Int32)) (by (try rw [z0]); omega) (by (try rw [z0]); omega); rw [z0] at s0; obtain ⟨n_1, hn_1, s1⟩ := nd_add (x := a_1) (y := (1 : Int32)) (by (try rw [z0]); omega) (by (try rw [z0]); omega); rw [z0] at s1; rw [hn_0, hn_1, Int32.lt_iff_toInt_lt]; omega)) (ti f q0 28) (ti f q0 42) (ti f_1 q0 42) iv1_1 c_3))), (by show ¬ ((ti f q0 28) < (ti f_4 q0 42)); rw [show ti f_4 q0 42 = ((ti f_1 q0 42) + 1) from ((hE_4.ei (hA_3.m m0) rfl).trans w_18)]; first | done | exact (show ¬ ((ti f q0 28) < ((ti f_1 q0 42) + 1)) from ((fun (a_0 : Int32) (a_1 : Int32) (k_0 : ¬ (a_0 ≤ a_1)) => (show ¬ (a_0 < (a_1 + 1)) from by have z0 : (1 : Int32).toInt = 1 := (by decide +kernel); have r0 := fb_rng (a_0); have r1 := fb_rng (a_1); have e0 := k_0; rw [Int32.le_iff_toInt_le] at e0; obtain ⟨n_0, hn_0, s0⟩ := nd_add (x := a_1) (y := (1 : Int32)) (by (try rw [z0]); omega) (by (try rw [z0]); omega); rw [z0] at s0; rw [hn_0, Int32.lt_iff_toInt_lt]; omega)) (ti f q0 28) (ti f_1 q0 42) c_3))), trivial⟩), hQ⟩, by rw [ht]; exact hP, va_K.moved hW.alike hK, by rw [hAe]; exact hD⟩, by rw [hAe]; exact hS.F ht⟩) (by rw [hAe]; exact hS.2.2) d_Md_advance_311
              · have hQ := hQ.2 c_17
                refine hb_ti 1 (by unfold f_Md_isDigit; rw [if_neg c_14, if_neg c_17]; first | done | rfl) ?_
                refine lv_if_eq (tgt := 286) hx hb d_Md_advance_183 (by decide) (fun h => absurd h (by decide +kernel)) (fun _ => ?_)
                refine lv_iconst (v := 0) hx hb d_Md_advance_186 (by decide +kernel) ?_
                refine lv_istore_n (lv' := [(2, .int 0), (1, .int x_7), (0, .ref q0)]) hx hb d_Md_advance_187 rfl hl (by decide) rfl (fun ls hl => ?_)
                refine lv_aload_n hx hb d_Md_advance_188 rfl (lv_at hl 2 rfl) ?_
                refine lv_iconst (v := 0) hx hb d_Md_advance_189 (by decide +kernel) ?_
                refine tw_puti (v := 0) (D := (dC, dI)) (C := R_Md) (T := F_Md) (N := 64) (ci := 7) (kd := 27) (ct := ct) (ty := .int) hx hb htb i_Md t_Md t_Md_ok n_Md hown hK hP hD hS hO_2 (hA_2.m m0) rfl rfl 45 (by decide) (htb (.fieldLink R_Md 241 "WaterMenModel" "tkNumber" "I") tw_345) (fun _ h9 => h9) rfl (by decide +kernel) rfl rfl rfl (i32_full _) d_Md_advance_190 (fun f_3 H locs hP hD hS hO_3 hE_3 w_22 hF_3 => ?_)
                have hA_3 := hA_2.trans hE_3
                have hQ := hQ f_3 hF_3
                have hQ := hQ hO_3
                refine lv_aload_n hx hb d_Md_advance_193 rfl (lv_at hl 2 rfl) ?_
                refine tw_getI (x := (ti f_1 q0 42)) (D := (dC, dI)) (C := R_Md) (T := F_Md) (N := 64) (ci := 7) (kd := 27) (ct := ct) hx hb htb i_Md hown hK hP (hA_3.m m0) rfl rfl 42 ((hE_3.ei (hA_2.m m0) rfl).trans ((hE_2.ei (hA_1.m m0) rfl).trans rfl)) (by decide) (htb (.fieldLink R_Md 218 "WaterMenModel" "at" "I") tw_336) (fun _ h9 => h9) rfl d_Md_advance_194 ?_
                refine lv_aload_n hx hb d_Md_advance_197 rfl (lv_at hl 2 rfl) ?_
                refine tw_getI (x := (ti f q0 28)) (D := (dC, dI)) (C := R_Md) (T := F_Md) (N := 64) (ci := 7) (kd := 27) (ct := ct) hx hb htb i_Md hown hK hP (hA_3.m m0) rfl rfl 28 ((hA_3.ei m0 rfl).trans rfl) (by decide) (htb (.fieldLink R_Md 212 "WaterMenModel" "taped" "I") tw_187) (fun _ h9 => h9) rfl d_Md_advance_198 ?_
                refine lv_icmp_ge (tgt := 271) hx hb d_Md_advance_201 (by decide) (fun h => absurd h c_3) (fun _ => ?_)
                refine lv_aload_n hx hb d_Md_advance_204 rfl (lv_at hl 2 rfl) ?_
                refine tw_getR (D := (dC, dI)) (C := R_Md) (T := F_Md) (N := 64) (ci := 7) (kd := 27) (ct := ct) hx hb htb i_Md hown hK hP (hA_3.m m0) rfl rfl 27 ((hE_3.er (hA_2.m m0) rfl).trans ((hE_2.er (hA_1.m m0) rfl).trans e_6)) (by decide) (htb (.fieldLink R_Md 109 "WaterMenModel" "tape" "[B") tw_188) (fun _ h9 => h9) rfl d_Md_advance_205 ?_
                refine hb_tv (.ref q_6) rfl ?_
                refine lv_aload_n hx hb d_Md_advance_208 rfl (lv_at hl 2 rfl) ?_
                refine tw_getI (x := (ti f_1 q0 42)) (D := (dC, dI)) (C := R_Md) (T := F_Md) (N := 64) (ci := 7) (kd := 27) (ct := ct) hx hb htb i_Md hown hK hP (hA_3.m m0) rfl rfl 42 ((hE_3.ei (hA_2.m m0) rfl).trans ((hE_2.ei (hA_1.m m0) rfl).trans rfl)) (by decide) (htb (.fieldLink R_Md 218 "WaterMenModel" "at" "I") tw_336) (fun _ h9 => h9) rfl d_Md_advance_209 ?_
                refine tw_aldxB (ct := ct) (x := x_7) hx hb hK hP (hE_3.m (hE_2.m m_6)) rfl ((fun (a_0 : Int32) (a_1 : Int32) (k_0 : ¬ (a_1 < 0)) (k_1 : ¬ (a_0 ≤ a_1)) (k_2 : ¬ (400 < a_0)) => (show vp_in (a_1) 400 from by have z0 : (0 : Int32).toInt = 0 := (by decide +kernel); have z1 : (400 : Int32).toInt = 400 := (by decide +kernel); have r0 := fb_rng (a_0); have r1 := fb_rng (a_1); have e0 := k_0; rw [Int32.lt_iff_toInt_lt, z0] at e0; have e1 := k_1; rw [Int32.le_iff_toInt_le] at e1; have e2 := k_2; rw [Int32.lt_iff_toInt_lt, z1] at e2; rw [vp_in_iff]; omega)) (ti f q0 28) (ti f_1 q0 42) bf_2.1 c_3 bp_28.2) ((hE_3.ei (hE_2.m m_6) rfl).trans ((hE_2.ei m_6 rfl).trans e_7)) d_Md_advance_212 ?_
                refine vp_callSi (va_Run.run (va_runS (As := [.int x_7]) (rest := []) ⟨hx, hb, hml, hown, htb⟩ (c_Md_isDigit l x_7) (cwS 1 htb (gd_S tw_343 tw_344 tw_89 tw_342) rfl rfl rfl (by decide +kernel) ⟨Nat.le_of_ble_eq_true rfl, Nat.le_of_ble_eq_true rfl⟩) ⟨fun _ _ _ _ h => h, fun U _ _ => ⟨rfl, trivial⟩⟩ rfl rfl hl.1 rfl (lv_room (Nat.le_of_ble_eq_true rfl)) d_Md_advance_213 ⟨Nat.le_of_ble_eq_true rfl, Nat.le_of_ble_eq_true rfl⟩)) (fun r er => ?_)
                subst er
                refine hb_ti 1 (by unfold f_Md_isDigit; rw [if_neg c_14, if_neg c_17]) ?_
                refine lv_if_eq (tgt := 271) hx hb d_Md_advance_216 (by decide) (fun h => absurd h (by decide +kernel)) (fun _ => ?_)
                refine lv_aload_n hx hb d_Md_advance_219 rfl (lv_at hl 2 rfl) ?_
                refine lv_iload_n hx hb d_Md_advance_220 rfl (lv_at hl 0 rfl) ?_
                refine lv_iconst (v := 5) hx hb d_Md_advance_221 (by decide +kernel) ?_
                refine lv_icmp_ge (tgt := 248) hx hb d_Md_advance_222 (by decide) (fun h => absurd h (by decide +kernel)) (fun _ => ?_)
                refine lv_bipush (v := 10) hx hb d_Md_advance_225 (by decide +kernel) ?_
                refine lv_aload_n hx hb d_Md_advance_227 rfl (lv_at hl 2 rfl) ?_
                refine tw_getI (x := 0) (D := (dC, dI)) (C := R_Md) (T := F_Md) (N := 64) (ci := 7) (kd := 27) (ct := ct) hx hb htb i_Md hown hK hP (hA_3.m m0) rfl rfl 45 w_22 (by decide) (htb (.fieldLink R_Md 241 "WaterMenModel" "tkNumber" "I") tw_345) (fun _ h9 => h9) rfl d_Md_advance_228 ?_
                refine lv_imul hx hb d_Md_advance_231 ?_
                refine hb_ti 0 (by decide +kernel) ?_
                refine lv_aload_n hx hb d_Md_advance_232 rfl (lv_at hl 2 rfl) ?_
                refine tw_getR (D := (dC, dI)) (C := R_Md) (T := F_Md) (N := 64) (ci := 7) (kd := 27) (ct := ct) hx hb htb i_Md hown hK hP (hA_3.m m0) rfl rfl 27 ((hE_3.er (hA_2.m m0) rfl).trans ((hE_2.er (hA_1.m m0) rfl).trans e_6)) (by decide) (htb (.fieldLink R_Md 109 "WaterMenModel" "tape" "[B") tw_188) (fun _ h9 => h9) rfl d_Md_advance_233 ?_
                refine hb_tv (.ref q_6) rfl ?_
                refine lv_aload_n hx hb d_Md_advance_236 rfl (lv_at hl 2 rfl) ?_
                refine tw_getI (x := (ti f_1 q0 42)) (D := (dC, dI)) (C := R_Md) (T := F_Md) (N := 64) (ci := 7) (kd := 27) (ct := ct) hx hb htb i_Md hown hK hP (hA_3.m m0) rfl rfl 42 ((hE_3.ei (hA_2.m m0) rfl).trans ((hE_2.ei (hA_1.m m0) rfl).trans rfl)) (by decide) (htb (.fieldLink R_Md 218 "WaterMenModel" "at" "I") tw_336) (fun _ h9 => h9) rfl d_Md_advance_237 ?_
                refine tw_aldxB (ct := ct) (x := x_7) hx hb hK hP (hE_3.m (hE_2.m m_6)) rfl ((fun (a_0 : Int32) (a_1 : Int32) (k_0 : ¬ (a_1 < 0)) (k_1 : ¬ (a_0 ≤ a_1)) (k_2 : ¬ (400 < a_0)) => (show vp_in (a_1) 400 from by have z0 : (0 : Int32).toInt = 0 := (by decide +kernel); have z1 : (400 : Int32).toInt = 400 := (by decide +kernel); have r0 := fb_rng (a_0); have r1 := fb_rng (a_1); have e0 := k_0; rw [Int32.lt_iff_toInt_lt, z0] at e0; have e1 := k_1; rw [Int32.le_iff_toInt_le] at e1; have e2 := k_2; rw [Int32.lt_iff_toInt_lt, z1] at e2; rw [vp_in_iff]; omega)) (ti f q0 28) (ti f_1 q0 42) bf_2.1 c_3 bp_28.2) ((hE_3.ei (hE_2.m m_6) rfl).trans ((hE_2.ei m_6 rfl).trans e_7)) d_Md_advance_240 ?_
                refine lv_iadd hx hb d_Md_advance_241 ?_
                refine lv_bipush (v := 48) hx hb d_Md_advance_242 (by decide +kernel) ?_
                refine lv_isub hx hb d_Md_advance_244 ?_
                refine lv_goto (tgt := 252) hx hb d_Md_advance_245 (by decide) ?_
                refine tw_puti (v := ((0 + x_7) - 48)) (D := (dC, dI)) (C := R_Md) (T := F_Md) (N := 64) (ci := 7) (kd := 27) (ct := ct) (ty := .int) hx hb htb i_Md t_Md t_Md_ok n_Md hown hK hP hD hS hO_3 (hA_3.m m0) rfl rfl 45 (by decide) (htb (.fieldLink R_Md 241 "WaterMenModel" "tkNumber" "I") tw_345) (fun _ h9 => h9) rfl (by decide +kernel) rfl rfl rfl (i32_full _) d_Md_advance_252 (fun f_4 H locs hP hD hS hO_4 hE_4 w_26 hF_4 => ?_)
                have hA_4 := hA_3.trans hE_4
                have hQ := hQ f_4 hF_4
                have hQ := hQ hO_4
                refine lv_aload_n hx hb d_Md_advance_255 rfl (lv_at hl 2 rfl) ?_
                refine lv_dup hx hb d_Md_advance_256 rfl ?_
                refine tw_getI (x := (ti f_1 q0 42)) (D := (dC, dI)) (C := R_Md) (T := F_Md) (N := 64) (ci := 7) (kd := 27) (ct := ct) hx hb htb i_Md hown hK hP (hA_4.m m0) rfl rfl 42 ((hE_4.ei (hA_3.m m0) rfl).trans ((hE_3.ei (hA_2.m m0) rfl).trans ((hE_2.ei (hA_1.m m0) rfl).trans rfl))) (by decide) (htb (.fieldLink R_Md 218 "WaterMenModel" "at" "I") tw_336) (fun _ h9 => h9) rfl d_Md_advance_257 ?_
                refine lv_iconst (v := 1) hx hb d_Md_advance_260 (by decide +kernel) ?_
                refine lv_iadd hx hb d_Md_advance_261 ?_
                refine tw_puti (v := ((ti f_1 q0 42) + 1)) (D := (dC, dI)) (C := R_Md) (T := F_Md) (N := 64) (ci := 7) (kd := 27) (ct := ct) (ty := .int) hx hb htb i_Md t_Md t_Md_ok n_Md hown hK hP hD hS hO_4 (hA_4.m m0) rfl rfl 42 (by decide) (htb (.fieldLink R_Md 218 "WaterMenModel" "at" "I") tw_336) (fun _ h9 => h9) rfl (by decide +kernel) rfl rfl rfl ⟨(show ¬ (((ti f_1 q0 42) + 1) < 0) from ((fun (a_0 : Int32) (a_1 : Int32) (k_0 : ¬ (a_1 < 0)) (k_1 : ¬ (a_0 ≤ a_1)) => (show ¬ ((a_1 + 1) < 0) from by have z0 : (0 : Int32).toInt = 0 := (by decide +kernel); have z1 : (1 : Int32).toInt = 1 := (by decide +kernel); have r0 := fb_rng (a_0); have r1 := fb_rng (a_1); have e0 := k_0; rw [Int32.lt_iff_toInt_lt, z0] at e0; have e1 := k_1; rw [Int32.le_iff_toInt_le] at e1; obtain ⟨n_0, hn_0, s0⟩ := nd_add (x := a_1) (y := (1 : Int32)) (by (try rw [z1]); omega) (by (try rw [z1]); omega); rw [z1] at s0; rw [hn_0, Int32.lt_iff_toInt_lt, z0]; omega)) (ti f q0 28) (ti f_1 q0 42) bf_2.1 c_3)), (show ¬ (400 < ((ti f_1 q0 42) + 1)) from ((fun (a_0 : Int32) (a_1 : Int32) (k_0 : ¬ (a_0 ≤ a_1)) (k_1 : ¬ (400 < a_0)) => (show ¬ (400 < (a_1 + 1)) from by have z0 : (1 : Int32).toInt = 1 := (by decide +kernel); have z1 : (400 : Int32).toInt = 400 := (by decide +kernel); have r0 := fb_rng (a_0); have r1 := fb_rng (a_1); have e0 := k_0; rw [Int32.le_iff_toInt_le] at e0; have e1 := k_1; rw [Int32.lt_iff_toInt_lt, z1] at e1; obtain ⟨n_0, hn_0, s0⟩ := nd_add (x := a_1) (y := (1 : Int32)) (by (try rw [z0]); omega) (by (try rw [z0]); omega); rw [z0] at s0; rw [hn_0, Int32.lt_iff_toInt_lt, z1]; omega)) (ti f q0 28) (ti f_1 q0 42) c_3 bp_28.2))⟩ d_Md_advance_262 (fun f_5 H locs hP hD hS hO_5 hE_5 w_27 hF_5 => ?_)
                have hA_5 := hA_4.trans hE_5
                have hQ := hQ f_5 hF_5
                have hQ := hQ hO_5
                refine lv_iinc (v := 1) (lv' := [(2, .int 1), (1, .int x_7), (0, .ref q0)]) hx hb d_Md_advance_265 hl (k := 0) rfl (by decide +kernel) (by decide) rfl (fun ls hl => ?_)
                refine lv_goto (tgt := 193) hx hb d_Md_advance_268 (by decide) ?_
                have cut_28 : ∀ (n_28 : Nat) (v2_28 : Int32) (L_6 : List Nat) (f_6 : TF) (H : Heap) (locs : List Loc) (ls : Array Slot), va_P (dC, dI) vwCl (TW ct L_6 f_6) H → va_D A (TW ct L_6 f_6) → va_S A s.heap H locs → Ok L_6 f_6 → Ext WL_Md_advance_w_193_28 L_1 f_5 L_6 f_6 → ¬ ((ti f q0 28) < (ti f_6 q0 42)) → ¬ ((ti f_6 q0 42) < ((ti f q0 42) + 1)) → ((ti f q0 28) : Int32).toInt - ((ti f_6 q0 42) : Int32).toInt ≤ (n_28 : Int) → wpL_Md_advance_w_193_28 L f q0 L_1 f_1 rec_1 q_6 x_7 f_2 f_3 f_4 f_5 Q n_28 v2_28 L_6 f_6 → lv_has ls 5 [(0, .ref q0), (2, .int v2_28)] → W p l e (headSpec (.code y_Md_advance b_Md_advance 5 none :: TB) ({ frames := 1, cells := 0, slots := 0, locals := 21 })).room s m [.ref q0].toArray below meth c H locs 0 0 (MQ below (va_Qv (fun (u : TSt) => Ok u.1 u.2 ∧ Ext W_Md_advance_w L f u.1 u.2 ∧ (((ti u.2 q0 43) = 0 ∧ ¬ ((ti u.2 q0 42) < (ti f q0 42)) ∧ ¬ ((ti f q0 28) < (ti u.2 q0 42)) ∧ True) ∨ (¬ ((ti u.2 q0 42) < ((ti f q0 42) + 1)) ∧ ¬ ((ti f q0 28) < (ti u.2 q0 42)) ∧ True)) ∧ Q u.1 u.2) (fun (u : TSt) t => va_P (dC, dI) vwCl (TW ct u.1 u.2) t.heap ∧ va_K (dC, dI) vwCl (TT ct) t ∧ va_D (va_A (TW ct L f) s.heap.size) (TW ct u.1 u.2)) (va_A (TW ct L f) s.heap.size)) [.ref q0].toArray s 0 0 (va_A (TW ct L f) s.heap.size)) (F0 m 193 ls []) := by
                  intro n_28
                  induction n_28 using Nat.strongRecOn with
                  | _ n_28 ih_28 =>
                    intro v2_28 L_6 f_6 H locs ls hP hD hS hO_6 hE_6 iv0_28 iv1_28 hm_28 hQ hl
                    have hA_6 := hA_5.trans hE_6
                    have bf_29 := hO_6.i (hA_6.m m0) (show slotD 27 42 = some (.inl (0, 400)) from rfl)
                    rw [wpL_Md_advance_w_193_28_eq] at hQ
                    obtain ⟨rec_28, hrec_28⟩ : ∃ g, wpR_Md_advance_w_193_28 L f q0 L_1 f_1 rec_1 q_6 x_7 f_2 f_3 f_4 f_5 Q n_28 = g := ⟨_, rfl⟩
                    rw [hrec_28] at hQ
                    unfold wpB_Md_advance_w_193_28 at hQ
                    have hQ := hQ hO_6 hE_6
                    refine lv_aload_n hx hb d_Md_advance_193 rfl (lv_at hl 0 rfl) ?_
                    refine tw_getI (x := (ti f_6 q0 42)) (D := (dC, dI)) (C := R_Md) (T := F_Md) (N := 64) (ci := 7) (kd := 27) (ct := ct) hx hb htb i_Md hown hK hP (hA_6.m m0) rfl rfl 42 rfl (by decide) (htb (.fieldLink R_Md 218 "WaterMenModel" "at" "I") tw_336) (fun _ h9 => h9) rfl d_Md_advance_194 ?_
                    refine lv_aload_n hx hb d_Md_advance_197 rfl (lv_at hl 0 rfl) ?_
                    refine tw_getI (x := (ti f q0 28)) (D := (dC, dI)) (C := R_Md) (T := F_Md) (N := 64) (ci := 7) (kd := 27) (ct := ct) hx hb htb i_Md hown hK hP (hA_6.m m0) rfl rfl 28 ((hA_6.ei m0 rfl).trans rfl) (by decide) (htb (.fieldLink R_Md 212 "WaterMenModel" "taped" "I") tw_187) (fun _ h9 => h9) rfl d_Md_advance_198 ?_
                    refine lv_icmp_ge (tgt := 271) hx hb d_Md_advance_201 (by decide) (fun c_30 => ?_) (fun c_30 => ?_)
                    · have hQ := hQ.1 c_30
                      refine lv_aload_n hx hb d_Md_advance_271 rfl (lv_at hl 0 rfl) ?_
                      refine lv_iload_n hx hb d_Md_advance_272 rfl (lv_at hl 1 rfl) ?_
                      refine lv_iconst (v := 5) hx hb d_Md_advance_273 (by decide +kernel) ?_
                      refine lv_icmp_le (tgt := 281) hx hb d_Md_advance_274 (by decide) (fun c_31 => ?_) (fun c_31 => ?_)
                      · have hQ := hQ.1 c_31
                        refine lv_iconst (v := 1) hx hb d_Md_advance_281 (by decide +kernel) ?_
                        refine tw_puti (v := 1) (D := (dC, dI)) (C := R_Md) (T := F_Md) (N := 64) (ci := 7) (kd := 27) (ct := ct) (ty := .int) hx hb htb i_Md t_Md t_Md_ok n_Md hown hK hP hD hS hO_6 (hA_6.m m0) rfl rfl 43 (by decide) (htb (.fieldLink R_Md 224 "WaterMenModel" "tk" "I") tw_338) (fun _ h9 => h9) rfl (by decide +kernel) rfl rfl rfl ⟨by decide +kernel, by decide +kernel⟩ d_Md_advance_282 (fun f_7 H locs hP hD hS hO_7 hE_7 w_32 hF_7 => ?_)
                        have hA_7 := hA_6.trans hE_7
                        have hQ := hQ f_7 hF_7
                        have hQ := hQ hO_7
                        refine W.widen (k := 0) (n := 0) (Nat.le_of_ble_eq_true rfl) (Nat.le_of_ble_eq_true rfl) ?_
                        exact W.vret hx hb hr (fun t ht hW => ⟨⟨(L_6, f_7), rfl, ⟨hO_7, hA_7.mono (by decide +kernel), (Or.inr ⟨(by show ¬ ((ti f_7 q0 42) < ((ti f q0 42) + 1)); rw [show ti f_7 q0 42 = (ti f_6 q0 42) from ((hE_7.ei (hA_6.m m0) rfl).trans rfl)]; first | done | exact iv1_28), (by show ¬ ((ti f q0 28) < (ti f_7 q0 42)); rw [show ti f_7 q0 42 = (ti f_6 q0 42) from ((hE_7.ei (hA_6.m m0) rfl).trans rfl)]; first | done | exact iv0_28), trivial⟩), hQ⟩, by rw [ht]; exact hP, va_K.moved hW.alike hK, by rw [hAe]; exact hD⟩, by rw [hAe]; exact hS.F ht⟩) (by rw [hAe]; exact hS.2.2) d_Md_advance_285
                      · have hQ := hQ.2 c_31
                        refine lv_iconst (v := 3) hx hb d_Md_advance_277 (by decide +kernel) ?_
                        refine lv_goto (tgt := 282) hx hb d_Md_advance_278 (by decide) ?_
                        refine tw_puti (v := 3) (D := (dC, dI)) (C := R_Md) (T := F_Md) (N := 64) (ci := 7) (kd := 27) (ct := ct) (ty := .int) hx hb htb i_Md t_Md t_Md_ok n_Md hown hK hP hD hS hO_6 (hA_6.m m0) rfl rfl 43 (by decide) (htb (.fieldLink R_Md 224 "WaterMenModel" "tk" "I") tw_338) (fun _ h9 => h9) rfl (by decide +kernel) rfl rfl rfl ⟨by decide +kernel, by decide +kernel⟩ d_Md_advance_282 (fun f_7 H locs hP hD hS hO_7 hE_7 w_33 hF_7 => ?_)
                        have hA_7 := hA_6.trans hE_7
                        have hQ := hQ f_7 hF_7
                        have hQ := hQ hO_7
                        refine W.widen (k := 0) (n := 0) (Nat.le_of_ble_eq_true rfl) (Nat.le_of_ble_eq_true rfl) ?_
                        exact W.vret hx hb hr (fun t ht hW => ⟨⟨(L_6, f_7), rfl, ⟨hO_7, hA_7.mono (by decide +kernel), (Or.inr ⟨(by show ¬ ((ti f_7 q0 42) < ((ti f q0 42) + 1)); rw [show ti f_7 q0 42 = (ti f_6 q0 42) from ((hE_7.ei (hA_6.m m0) rfl).trans rfl)]; first | done | exact iv1_28), (by show ¬ ((ti f q0 28) < (ti f_7 q0 42)); rw [show ti f_7 q0 42 = (ti f_6 q0 42) from ((hE_7.ei (hA_6.m m0) rfl).trans rfl)]; first | done | exact iv0_28), trivial⟩), hQ⟩, by rw [ht]; exact hP, va_K.moved hW.alike hK, by rw [hAe]; exact hD⟩, by rw [hAe]; exact hS.F ht⟩) (by rw [hAe]; exact hS.2.2) d_Md_advance_285
                    · have hQ := hQ.2 c_30
                      refine lv_aload_n hx hb d_Md_advance_204 rfl (lv_at hl 0 rfl) ?_
                      refine tw_getR (D := (dC, dI)) (C := R_Md) (T := F_Md) (N := 64) (ci := 7) (kd := 27) (ct := ct) hx hb htb i_Md hown hK hP (hA_6.m m0) rfl rfl 27 ((hE_6.er (hA_5.m m0) rfl).trans ((hE_5.er (hA_4.m m0) rfl).trans ((hE_4.er (hA_3.m m0) rfl).trans ((hE_3.er (hA_2.m m0) rfl).trans ((hE_2.er (hA_1.m m0) rfl).trans e_6))))) (by decide) (htb (.fieldLink R_Md 109 "WaterMenModel" "tape" "[B") tw_188) (fun _ h9 => h9) rfl d_Md_advance_205 ?_
                      refine hb_tv (.ref q_6) rfl ?_
                      refine lv_aload_n hx hb d_Md_advance_208 rfl (lv_at hl 0 rfl) ?_
                      refine tw_getI (x := (ti f_6 q0 42)) (D := (dC, dI)) (C := R_Md) (T := F_Md) (N := 64) (ci := 7) (kd := 27) (ct := ct) hx hb htb i_Md hown hK hP (hA_6.m m0) rfl rfl 42 rfl (by decide) (htb (.fieldLink R_Md 218 "WaterMenModel" "at" "I") tw_336) (fun _ h9 => h9) rfl d_Md_advance_209 ?_
                      refine tw_aldB (ct := ct) hx hb hK hP hO_6 (hE_6.m (hE_5.m (hE_4.m (hE_3.m (hE_2.m m_6))))) rfl ((fun (a_0 : Int32) (a_1 : Int32) (k_0 : ¬ (a_1 < 0)) (k_1 : ¬ (a_0 ≤ a_1)) (k_2 : ¬ (400 < a_0)) => (show vp_in (a_1) 400 from by have z0 : (0 : Int32).toInt = 0 := (by decide +kernel); have z1 : (400 : Int32).toInt = 400 := (by decide +kernel); have r0 := fb_rng (a_0); have r1 := fb_rng (a_1); have e0 := k_0; rw [Int32.lt_iff_toInt_lt, z0] at e0; have e1 := k_1; rw [Int32.le_iff_toInt_le] at e1; have e2 := k_2; rw [Int32.lt_iff_toInt_lt, z1] at e2; rw [vp_in_iff]; omega)) (ti f q0 28) (ti f_6 q0 42) bf_29.1 c_30 bp_28.2) d_Md_advance_212 (fun x_34 e_34 b_34 => ?_)
                      have hQ := hQ x_34 e_34
                      refine vp_callSi (va_Run.run (va_runS (As := [.int x_34]) (rest := []) ⟨hx, hb, hml, hown, htb⟩ (c_Md_isDigit l x_34) (cwS 1 htb (gd_S tw_343 tw_344 tw_89 tw_342) rfl rfl rfl (by decide +kernel) ⟨Nat.le_of_ble_eq_true rfl, Nat.le_of_ble_eq_true rfl⟩) ⟨fun _ _ _ _ h => h, fun U _ _ => ⟨rfl, trivial⟩⟩ rfl rfl hl.1 rfl (lv_room (Nat.le_of_ble_eq_true rfl)) d_Md_advance_213 ⟨Nat.le_of_ble_eq_true rfl, Nat.le_of_ble_eq_true rfl⟩)) (fun r er => ?_)
                      subst er
                      by_cases c_36 : x_34 < 48
                      · have hQ := hQ.1 c_36
                        refine hb_ti 0 (by unfold f_Md_isDigit; rw [if_pos c_36]; first | done | rfl) ?_
                        refine lv_if_eq (tgt := 271) hx hb d_Md_advance_216 (by decide) (fun _ => ?_) (fun h => absurd (by decide +kernel) h)
                        refine lv_aload_n hx hb d_Md_advance_271 rfl (lv_at hl 0 rfl) ?_
                        refine lv_iload_n hx hb d_Md_advance_272 rfl (lv_at hl 1 rfl) ?_
                        refine lv_iconst (v := 5) hx hb d_Md_advance_273 (by decide +kernel) ?_
                        refine lv_icmp_le (tgt := 281) hx hb d_Md_advance_274 (by decide) (fun c_37 => ?_) (fun c_37 => ?_)
                        · have hQ := hQ.1 c_37
                          refine lv_iconst (v := 1) hx hb d_Md_advance_281 (by decide +kernel) ?_
                          refine tw_puti (v := 1) (D := (dC, dI)) (C := R_Md) (T := F_Md) (N := 64) (ci := 7) (kd := 27) (ct := ct) (ty := .int) hx hb htb i_Md t_Md t_Md_ok n_Md hown hK hP hD hS hO_6 (hA_6.m m0) rfl rfl 43 (by decide) (htb (.fieldLink R_Md 224 "WaterMenModel" "tk" "I") tw_338) (fun _ h9 => h9) rfl (by decide +kernel) rfl rfl rfl ⟨by decide +kernel, by decide +kernel⟩ d_Md_advance_282 (fun f_7 H locs hP hD hS hO_7 hE_7 w_38 hF_7 => ?_)
                          have hA_7 := hA_6.trans hE_7
                          have hQ := hQ f_7 hF_7
                          have hQ := hQ hO_7
                          refine W.widen (k := 0) (n := 0) (Nat.le_of_ble_eq_true rfl) (Nat.le_of_ble_eq_true rfl) ?_
                          exact W.vret hx hb hr (fun t ht hW => ⟨⟨(L_6, f_7), rfl, ⟨hO_7, hA_7.mono (by decide +kernel), (Or.inr ⟨(by show ¬ ((ti f_7 q0 42) < ((ti f q0 42) + 1)); rw [show ti f_7 q0 42 = (ti f_6 q0 42) from ((hE_7.ei (hA_6.m m0) rfl).trans rfl)]; first | done | exact iv1_28), (by show ¬ ((ti f q0 28) < (ti f_7 q0 42)); rw [show ti f_7 q0 42 = (ti f_6 q0 42) from ((hE_7.ei (hA_6.m m0) rfl).trans rfl)]; first | done | exact iv0_28), trivial⟩), hQ⟩, by rw [ht]; exact hP, va_K.moved hW.alike hK, by rw [hAe]; exact hD⟩, by rw [hAe]; exact hS.F ht⟩) (by rw [hAe]; exact hS.2.2) d_Md_advance_285
                        · have hQ := hQ.2 c_37
                          refine lv_iconst (v := 3) hx hb d_Md_advance_277 (by decide +kernel) ?_
                          refine lv_goto (tgt := 282) hx hb d_Md_advance_278 (by decide) ?_
                          refine tw_puti (v := 3) (D := (dC, dI)) (C := R_Md) (T := F_Md) (N := 64) (ci := 7) (kd := 27) (ct := ct) (ty := .int) hx hb htb i_Md t_Md t_Md_ok n_Md hown hK hP hD hS hO_6 (hA_6.m m0) rfl rfl 43 (by decide) (htb (.fieldLink R_Md 224 "WaterMenModel" "tk" "I") tw_338) (fun _ h9 => h9) rfl (by decide +kernel) rfl rfl rfl ⟨by decide +kernel, by decide +kernel⟩ d_Md_advance_282 (fun f_7 H locs hP hD hS hO_7 hE_7 w_39 hF_7 => ?_)
                          have hA_7 := hA_6.trans hE_7
                          have hQ := hQ f_7 hF_7
                          have hQ := hQ hO_7
                          refine W.widen (k := 0) (n := 0) (Nat.le_of_ble_eq_true rfl) (Nat.le_of_ble_eq_true rfl) ?_
                          exact W.vret hx hb hr (fun t ht hW => ⟨⟨(L_6, f_7), rfl, ⟨hO_7, hA_7.mono (by decide +kernel), (Or.inr ⟨(by show ¬ ((ti f_7 q0 42) < ((ti f q0 42) + 1)); rw [show ti f_7 q0 42 = (ti f_6 q0 42) from ((hE_7.ei (hA_6.m m0) rfl).trans rfl)]; first | done | exact iv1_28), (by show ¬ ((ti f q0 28) < (ti f_7 q0 42)); rw [show ti f_7 q0 42 = (ti f_6 q0 42) from ((hE_7.ei (hA_6.m m0) rfl).trans rfl)]; first | done | exact iv0_28), trivial⟩), hQ⟩, by rw [ht]; exact hP, va_K.moved hW.alike hK, by rw [hAe]; exact hD⟩, by rw [hAe]; exact hS.F ht⟩) (by rw [hAe]; exact hS.2.2) d_Md_advance_285
                      · have hQ := hQ.2 c_36
                        by_cases c_40 : 57 < x_34
                        · have hQ := hQ.1 c_40
                          refine hb_ti 0 (by unfold f_Md_isDigit; rw [if_neg c_36, if_pos c_40]; first | done | rfl) ?_
                          refine lv_if_eq (tgt := 271) hx hb d_Md_advance_216 (by decide) (fun _ => ?_) (fun h => absurd (by decide +kernel) h)
                          refine lv_aload_n hx hb d_Md_advance_271 rfl (lv_at hl 0 rfl) ?_
                          refine lv_iload_n hx hb d_Md_advance_272 rfl (lv_at hl 1 rfl) ?_
                          refine lv_iconst (v := 5) hx hb d_Md_advance_273 (by decide +kernel) ?_
                          refine lv_icmp_le (tgt := 281) hx hb d_Md_advance_274 (by decide) (fun c_41 => ?_) (fun c_41 => ?_)
                          · have hQ := hQ.1 c_41
                            refine lv_iconst (v := 1) hx hb d_Md_advance_281 (by decide +kernel) ?_
                            refine tw_puti (v := 1) (D := (dC, dI)) (C := R_Md) (T := F_Md) (N := 64) (ci := 7) (kd := 27) (ct := ct) (ty := .int) hx hb htb i_Md t_Md t_Md_ok n_Md hown hK hP hD hS hO_6 (hA_6.m m0) rfl rfl 43 (by decide) (htb (.fieldLink R_Md 224 "WaterMenModel" "tk" "I") tw_338) (fun _ h9 => h9) rfl (by decide +kernel) rfl rfl rfl ⟨by decide +kernel, by decide +kernel⟩ d_Md_advance_282 (fun f_7 H locs hP hD hS hO_7 hE_7 w_42 hF_7 => ?_)
                            have hA_7 := hA_6.trans hE_7
                            have hQ := hQ f_7 hF_7
                            have hQ := hQ hO_7
                            refine W.widen (k := 0) (n := 0) (Nat.le_of_ble_eq_true rfl) (Nat.le_of_ble_eq_true rfl) ?_
                            exact W.vret hx hb hr (fun t ht hW => ⟨⟨(L_6, f_7), rfl, ⟨hO_7, hA_7.mono (by decide +kernel), (Or.inr ⟨(by show ¬ ((ti f_7 q0 42) < ((ti f q0 42) + 1)); rw [show ti f_7 q0 42 = (ti f_6 q0 42) from ((hE_7.ei (hA_6.m m0) rfl).trans rfl)]; first | done | exact iv1_28), (by show ¬ ((ti f q0 28) < (ti f_7 q0 42)); rw [show ti f_7 q0 42 = (ti f_6 q0 42) from ((hE_7.ei (hA_6.m m0) rfl).trans rfl)]; first | done | exact iv0_28), trivial⟩), hQ⟩, by rw [ht]; exact hP, va_K.moved hW.alike hK, by rw [hAe]; exact hD⟩, by rw [hAe]; exact hS.F ht⟩) (by rw [hAe]; exact hS.2.2) d_Md_advance_285
                          · have hQ := hQ.2 c_41
                            refine lv_iconst (v := 3) hx hb d_Md_advance_277 (by decide +kernel) ?_
                            refine lv_goto (tgt := 282) hx hb d_Md_advance_278 (by decide) ?_
                            refine tw_puti (v := 3) (D := (dC, dI)) (C := R_Md) (T := F_Md) (N := 64) (ci := 7) (kd := 27) (ct := ct) (ty := .int) hx hb htb i_Md t_Md t_Md_ok n_Md hown hK hP hD hS hO_6 (hA_6.m m0) rfl rfl 43 (by decide) (htb (.fieldLink R_Md 224 "WaterMenModel" "tk" "I") tw_338) (fun _ h9 => h9) rfl (by decide +kernel) rfl rfl rfl ⟨by decide +kernel, by decide +kernel⟩ d_Md_advance_282 (fun f_7 H locs hP hD hS hO_7 hE_7 w_43 hF_7 => ?_)
                            have hA_7 := hA_6.trans hE_7
                            have hQ := hQ f_7 hF_7
                            have hQ := hQ hO_7
                            refine W.widen (k := 0) (n := 0) (Nat.le_of_ble_eq_true rfl) (Nat.le_of_ble_eq_true rfl) ?_
                            exact W.vret hx hb hr (fun t ht hW => ⟨⟨(L_6, f_7), rfl, ⟨hO_7, hA_7.mono (by decide +kernel), (Or.inr ⟨(by show ¬ ((ti f_7 q0 42) < ((ti f q0 42) + 1)); rw [show ti f_7 q0 42 = (ti f_6 q0 42) from ((hE_7.ei (hA_6.m m0) rfl).trans rfl)]; first | done | exact iv1_28), (by show ¬ ((ti f q0 28) < (ti f_7 q0 42)); rw [show ti f_7 q0 42 = (ti f_6 q0 42) from ((hE_7.ei (hA_6.m m0) rfl).trans rfl)]; first | done | exact iv0_28), trivial⟩), hQ⟩, by rw [ht]; exact hP, va_K.moved hW.alike hK, by rw [hAe]; exact hD⟩, by rw [hAe]; exact hS.F ht⟩) (by rw [hAe]; exact hS.2.2) d_Md_advance_285
                        · have hQ := hQ.2 c_40
                          refine hb_ti 1 (by unfold f_Md_isDigit; rw [if_neg c_36, if_neg c_40]; first | done | rfl) ?_
                          refine lv_if_eq (tgt := 271) hx hb d_Md_advance_216 (by decide) (fun h => absurd h (by decide +kernel)) (fun _ => ?_)
                          refine lv_aload_n hx hb d_Md_advance_219 rfl (lv_at hl 0 rfl) ?_
                          refine lv_iload_n hx hb d_Md_advance_220 rfl (lv_at hl 1 rfl) ?_
                          refine lv_iconst (v := 5) hx hb d_Md_advance_221 (by decide +kernel) ?_
                          refine lv_icmp_ge (tgt := 248) hx hb d_Md_advance_222 (by decide) (fun c_44 => ?_) (fun c_44 => ?_)
                          · have hQ := hQ.1 c_44
                            refine lv_aload_n hx hb d_Md_advance_248 rfl (lv_at hl 0 rfl) ?_
                            refine tw_geti (D := (dC, dI)) (C := R_Md) (T := F_Md) (N := 64) (ci := 7) (kd := 27) (ct := ct) hx hb htb i_Md hown hK hP hO_6 (hA_6.m m0) rfl rfl 45 (by decide) (htb (.fieldLink R_Md 241 "WaterMenModel" "tkNumber" "I") tw_345) (fun _ h9 => h9) rfl d_Md_advance_249 (fun x_45 e_45 b_45 => ?_)
                            have hQ := hQ x_45 e_45
                            refine tw_puti (v := x_45) (D := (dC, dI)) (C := R_Md) (T := F_Md) (N := 64) (ci := 7) (kd := 27) (ct := ct) (ty := .int) hx hb htb i_Md t_Md t_Md_ok n_Md hown hK hP hD hS hO_6 (hA_6.m m0) rfl rfl 45 (by decide) (htb (.fieldLink R_Md 241 "WaterMenModel" "tkNumber" "I") tw_345) (fun _ h9 => h9) rfl (by decide +kernel) rfl rfl rfl (i32_full _) d_Md_advance_252 (fun f_7 H locs hP hD hS hO_7 hE_7 w_46 hF_7 => ?_)
                            have hA_7 := hA_6.trans hE_7
                            have hQ := hQ f_7 hF_7
                            have hQ := hQ hO_7
                            refine lv_aload_n hx hb d_Md_advance_255 rfl (lv_at hl 0 rfl) ?_
                            refine lv_dup hx hb d_Md_advance_256 rfl ?_
                            refine tw_getI (x := (ti f_6 q0 42)) (D := (dC, dI)) (C := R_Md) (T := F_Md) (N := 64) (ci := 7) (kd := 27) (ct := ct) hx hb htb i_Md hown hK hP (hA_7.m m0) rfl rfl 42 ((hE_7.ei (hA_6.m m0) rfl).trans rfl) (by decide) (htb (.fieldLink R_Md 218 "WaterMenModel" "at" "I") tw_336) (fun _ h9 => h9) rfl d_Md_advance_257 ?_
                            refine lv_iconst (v := 1) hx hb d_Md_advance_260 (by decide +kernel) ?_
                            refine lv_iadd hx hb d_Md_advance_261 ?_
                            refine tw_puti (v := ((ti f_6 q0 42) + 1)) (D := (dC, dI)) (C := R_Md) (T := F_Md) (N := 64) (ci := 7) (kd := 27) (ct := ct) (ty := .int) hx hb htb i_Md t_Md t_Md_ok n_Md hown hK hP hD hS hO_7 (hA_7.m m0) rfl rfl 42 (by decide) (htb (.fieldLink R_Md 218 "WaterMenModel" "at" "I") tw_336) (fun _ h9 => h9) rfl (by decide +kernel) rfl rfl rfl ⟨(show ¬ (((ti f_6 q0 42) + 1) < 0) from ((fun (a_0 : Int32) (a_1 : Int32) (k_0 : ¬ (a_1 < 0)) (k_1 : ¬ (a_0 ≤ a_1)) => (show ¬ ((a_1 + 1) < 0) from by have z0 : (0 : Int32).toInt = 0 := (by decide +kernel); have z1 : (1 : Int32).toInt = 1 := (by decide +kernel); have r0 := fb_rng (a_0); have r1 := fb_rng (a_1); have e0 := k_0; rw [Int32.lt_iff_toInt_lt, z0] at e0; have e1 := k_1; rw [Int32.le_iff_toInt_le] at e1; obtain ⟨n_0, hn_0, s0⟩ := nd_add (x := a_1) (y := (1 : Int32)) (by (try rw [z1]); omega) (by (try rw [z1]); omega); rw [z1] at s0; rw [hn_0, Int32.lt_iff_toInt_lt, z0]; omega)) (ti f q0 28) (ti f_6 q0 42) bf_29.1 c_30)), (show ¬ (400 < ((ti f_6 q0 42) + 1)) from ((fun (a_0 : Int32) (a_1 : Int32) (k_0 : ¬ (a_0 ≤ a_1)) (k_1 : ¬ (400 < a_0)) => (show ¬ (400 < (a_1 + 1)) from by have z0 : (1 : Int32).toInt = 1 := (by decide +kernel); have z1 : (400 : Int32).toInt = 400 := (by decide +kernel); have r0 := fb_rng (a_0); have r1 := fb_rng (a_1); have e0 := k_0; rw [Int32.le_iff_toInt_le] at e0; have e1 := k_1; rw [Int32.lt_iff_toInt_lt, z1] at e1; obtain ⟨n_0, hn_0, s0⟩ := nd_add (x := a_1) (y := (1 : Int32)) (by (try rw [z0]); omega) (by (try rw [z0]); omega); rw [z0] at s0; rw [hn_0, Int32.lt_iff_toInt_lt, z1]; omega)) (ti f q0 28) (ti f_6 q0 42) c_30 bp_28.2))⟩ d_Md_advance_262 (fun f_8 H locs hP hD hS hO_8 hE_8 w_47 hF_8 => ?_)
                            have hA_8 := hA_7.trans hE_8
                            have hQ := hQ f_8 hF_8
                            have hQ := hQ hO_8
                            refine lv_iinc (v := (v2_28 + 1)) (lv' := [(2, .int (v2_28 + 1)), (0, .ref q0)]) hx hb d_Md_advance_265 hl (k := 1) rfl rfl (by decide) rfl (fun ls hl => ?_)
                            refine lv_goto (tgt := 193) hx hb d_Md_advance_268 (by decide) ?_
                            exact ih_28 (n_28 - 1) (ms_1 ((fun (a_0 : Int32) (a_1 : Int32) (k_0 : ¬ (a_0 ≤ a_1)) => (show 1 ≤ a_0.toInt - a_1.toInt ∧ a_0.toInt - (a_1 + (1 : Int32)).toInt + 1 ≤ a_0.toInt - a_1.toInt from by have z0 : (1 : Int32).toInt = 1 := (by decide +kernel); have r0 := fb_rng (a_0); have r1 := fb_rng (a_1); have e0 := k_0; rw [Int32.le_iff_toInt_le] at e0; obtain ⟨n_0, hn_0, s0⟩ := nd_add (x := a_1) (y := (1 : Int32)) (by (try rw [z0]); omega) (by (try rw [z0]); omega); rw [z0] at s0; rw [hn_0]; omega)) (ti f q0 28) (ti f_6 q0 42) c_30) hm_28) (v2_28 + 1) _ _ _ _ _ hP hD hS hO_8 (((hE_6.trans hE_7).trans hE_8).mono (by decide +kernel)) (by rw [show ti f_8 q0 42 = ((ti f_6 q0 42) + 1) from w_47]; first | done | exact (show ¬ ((ti f q0 28) < ((ti f_6 q0 42) + 1)) from ((fun (a_0 : Int32) (a_1 : Int32) (k_0 : ¬ (a_0 ≤ a_1)) => (show ¬ (a_0 < (a_1 + 1)) from by have z0 : (1 : Int32).toInt = 1 := (by decide +kernel); have r0 := fb_rng (a_0); have r1 := fb_rng (a_1); have e0 := k_0; rw [Int32.le_iff_toInt_le] at e0; obtain ⟨n_0, hn_0, s0⟩ := nd_add (x := a_1) (y := (1 : Int32)) (by (try rw [z0]); omega) (by (try rw [z0]); omega); rw [z0] at s0; rw [hn_0, Int32.lt_iff_toInt_lt]; omega)) (ti f q0 28) (ti f_6 q0 42) c_30))) (by rw [show ti f_8 q0 42 = ((ti f_6 q0 42) + 1) from w_47]; first | done | exact (show ¬ (((ti f_6 q0 42) + 1) < ((ti f q0 42) + 1)) from ((fun (a_0 : Int32) (a_1 : Int32) (a_2 : Int32) (a_3 : Int32) (k_0 : ¬ (a_2 < a_1)) (k_1 : ¬ (a_0 ≤ a_2)) (k_2 : ¬ (a_3 < (a_1 + 1))) (k_3 : ¬ (a_0 ≤ a_3)) => (show ¬ ((a_3 + 1) < (a_1 + 1)) from by have z0 : (1 : Int32).toInt = 1 := (by decide +kernel); have r0 := fb_rng (a_0); have r1 := fb_rng (a_1); have r2 := fb_rng (a_2); have r3 := fb_rng (a_3); have e0 := k_0; rw [Int32.lt_iff_toInt_lt] at e0; have e1 := k_1; rw [Int32.le_iff_toInt_le] at e1; obtain ⟨n_0, hn_0, s0⟩ := nd_add (x := a_1) (y := (1 : Int32)) (by (try rw [z0]); omega) (by (try rw [z0]); omega); rw [z0] at s0; have e2 := k_2; rw [hn_0, Int32.lt_iff_toInt_lt] at e2; have e3 := k_3; rw [Int32.le_iff_toInt_le] at e3; obtain ⟨n_1, hn_1, s1⟩ := nd_add (x := a_3) (y := (1 : Int32)) (by (try rw [z0]); omega) (by (try rw [z0]); omega); rw [z0] at s1; rw [hn_1, hn_0, Int32.lt_iff_toInt_lt]; omega)) (ti f q0 28) (ti f q0 42) (ti f_1 q0 42) (ti f_6 q0 42) iv1_1 c_3 iv1_28 c_30))) (by rw [show ti f_8 q0 42 = ((ti f_6 q0 42) + 1) from w_47]; exact ms_2 ((fun (a_0 : Int32) (a_1 : Int32) (k_0 : ¬ (a_0 ≤ a_1)) => (show 1 ≤ a_0.toInt - a_1.toInt ∧ a_0.toInt - (a_1 + (1 : Int32)).toInt + 1 ≤ a_0.toInt - a_1.toInt from by have z0 : (1 : Int32).toInt = 1 := (by decide +kernel); have r0 := fb_rng (a_0); have r1 := fb_rng (a_1); have e0 := k_0; rw [Int32.le_iff_toInt_le] at e0; obtain ⟨n_0, hn_0, s0⟩ := nd_add (x := a_1) (y := (1 : Int32)) (by (try rw [z0]); omega) (by (try rw [z0]); omega); rw [z0] at s0; rw [hn_0]; omega)) (ti f q0 28) (ti f_6 q0 42) c_30) hm_28) (by rw [← hrec_28, wpR_Md_advance_w_193_28_pos (ms_3 ((fun (a_0 : Int32) (a_1 : Int32) (k_0 : ¬ (a_0 ≤ a_1)) => (show 1 ≤ a_0.toInt - a_1.toInt ∧ a_0.toInt - (a_1 + (1 : Int32)).toInt + 1 ≤ a_0.toInt - a_1.toInt from by have z0 : (1 : Int32).toInt = 1 := (by decide +kernel); have r0 := fb_rng (a_0); have r1 := fb_rng (a_1); have e0 := k_0; rw [Int32.le_iff_toInt_le] at e0; obtain ⟨n_0, hn_0, s0⟩ := nd_add (x := a_1) (y := (1 : Int32)) (by (try rw [z0]); omega) (by (try rw [z0]); omega); rw [z0] at s0; rw [hn_0]; omega)) (ti f q0 28) (ti f_6 q0 42) c_30) hm_28)] at hQ; exact hQ) (lv_sub hl [1, 0] rfl)
                          · have hQ := hQ.2 c_44
                            refine lv_bipush (v := 10) hx hb d_Md_advance_225 (by decide +kernel) ?_
                            refine lv_aload_n hx hb d_Md_advance_227 rfl (lv_at hl 0 rfl) ?_
                            refine tw_geti (D := (dC, dI)) (C := R_Md) (T := F_Md) (N := 64) (ci := 7) (kd := 27) (ct := ct) hx hb htb i_Md hown hK hP hO_6 (hA_6.m m0) rfl rfl 45 (by decide) (htb (.fieldLink R_Md 241 "WaterMenModel" "tkNumber" "I") tw_345) (fun _ h9 => h9) rfl d_Md_advance_228 (fun x_48 e_48 b_48 => ?_)
                            have hQ := hQ x_48 e_48
                            refine lv_imul hx hb d_Md_advance_231 ?_
                            refine lv_aload_n hx hb d_Md_advance_232 rfl (lv_at hl 0 rfl) ?_
                            refine tw_getR (D := (dC, dI)) (C := R_Md) (T := F_Md) (N := 64) (ci := 7) (kd := 27) (ct := ct) hx hb htb i_Md hown hK hP (hA_6.m m0) rfl rfl 27 ((hE_6.er (hA_5.m m0) rfl).trans ((hE_5.er (hA_4.m m0) rfl).trans ((hE_4.er (hA_3.m m0) rfl).trans ((hE_3.er (hA_2.m m0) rfl).trans ((hE_2.er (hA_1.m m0) rfl).trans e_6))))) (by decide) (htb (.fieldLink R_Md 109 "WaterMenModel" "tape" "[B") tw_188) (fun _ h9 => h9) rfl d_Md_advance_233 ?_
                            refine hb_tv (.ref q_6) rfl ?_
                            refine lv_aload_n hx hb d_Md_advance_236 rfl (lv_at hl 0 rfl) ?_
                            refine tw_getI (x := (ti f_6 q0 42)) (D := (dC, dI)) (C := R_Md) (T := F_Md) (N := 64) (ci := 7) (kd := 27) (ct := ct) hx hb htb i_Md hown hK hP (hA_6.m m0) rfl rfl 42 rfl (by decide) (htb (.fieldLink R_Md 218 "WaterMenModel" "at" "I") tw_336) (fun _ h9 => h9) rfl d_Md_advance_237 ?_
                            refine tw_aldxB (ct := ct) (x := x_34) hx hb hK hP (hE_6.m (hE_5.m (hE_4.m (hE_3.m (hE_2.m m_6))))) rfl ((fun (a_0 : Int32) (a_1 : Int32) (k_0 : ¬ (a_1 < 0)) (k_1 : ¬ (a_0 ≤ a_1)) (k_2 : ¬ (400 < a_0)) => (show vp_in (a_1) 400 from by have z0 : (0 : Int32).toInt = 0 := (by decide +kernel); have z1 : (400 : Int32).toInt = 400 := (by decide +kernel); have r0 := fb_rng (a_0); have r1 := fb_rng (a_1); have e0 := k_0; rw [Int32.lt_iff_toInt_lt, z0] at e0; have e1 := k_1; rw [Int32.le_iff_toInt_le] at e1; have e2 := k_2; rw [Int32.lt_iff_toInt_lt, z1] at e2; rw [vp_in_iff]; omega)) (ti f q0 28) (ti f_6 q0 42) bf_29.1 c_30 bp_28.2) e_34 d_Md_advance_240 ?_
                            refine lv_iadd hx hb d_Md_advance_241 ?_
                            refine lv_bipush (v := 48) hx hb d_Md_advance_242 (by decide +kernel) ?_
                            refine lv_isub hx hb d_Md_advance_244 ?_
                            refine lv_goto (tgt := 252) hx hb d_Md_advance_245 (by decide) ?_
                            refine tw_puti (v := (((10 * x_48) + x_34) - 48)) (D := (dC, dI)) (C := R_Md) (T := F_Md) (N := 64) (ci := 7) (kd := 27) (ct := ct) (ty := .int) hx hb htb i_Md t_Md t_Md_ok n_Md hown hK hP hD hS hO_6 (hA_6.m m0) rfl rfl 45 (by decide) (htb (.fieldLink R_Md 241 "WaterMenModel" "tkNumber" "I") tw_345) (fun _ h9 => h9) rfl (by decide +kernel) rfl rfl rfl (i32_full _) d_Md_advance_252 (fun f_7 H locs hP hD hS hO_7 hE_7 w_50 hF_7 => ?_)
                            have hA_7 := hA_6.trans hE_7
                            have hQ := hQ f_7 hF_7
                            have hQ := hQ hO_7
                            refine lv_aload_n hx hb d_Md_advance_255 rfl (lv_at hl 0 rfl) ?_
                            refine lv_dup hx hb d_Md_advance_256 rfl ?_
                            refine tw_getI (x := (ti f_6 q0 42)) (D := (dC, dI)) (C := R_Md) (T := F_Md) (N := 64) (ci := 7) (kd := 27) (ct := ct) hx hb htb i_Md hown hK hP (hA_7.m m0) rfl rfl 42 ((hE_7.ei (hA_6.m m0) rfl).trans rfl) (by decide) (htb (.fieldLink R_Md 218 "WaterMenModel" "at" "I") tw_336) (fun _ h9 => h9) rfl d_Md_advance_257 ?_
                            refine lv_iconst (v := 1) hx hb d_Md_advance_260 (by decide +kernel) ?_
                            refine lv_iadd hx hb d_Md_advance_261 ?_
                            refine tw_puti (v := ((ti f_6 q0 42) + 1)) (D := (dC, dI)) (C := R_Md) (T := F_Md) (N := 64) (ci := 7) (kd := 27) (ct := ct) (ty := .int) hx hb htb i_Md t_Md t_Md_ok n_Md hown hK hP hD hS hO_7 (hA_7.m m0) rfl rfl 42 (by decide) (htb (.fieldLink R_Md 218 "WaterMenModel" "at" "I") tw_336) (fun _ h9 => h9) rfl (by decide +kernel) rfl rfl rfl ⟨(show ¬ (((ti f_6 q0 42) + 1) < 0) from ((fun (a_0 : Int32) (a_1 : Int32) (k_0 : ¬ (a_1 < 0)) (k_1 : ¬ (a_0 ≤ a_1)) => (show ¬ ((a_1 + 1) < 0) from by have z0 : (0 : Int32).toInt = 0 := (by decide +kernel); have z1 : (1 : Int32).toInt = 1 := (by decide +kernel); have r0 := fb_rng (a_0); have r1 := fb_rng (a_1); have e0 := k_0; rw [Int32.lt_iff_toInt_lt, z0] at e0; have e1 := k_1; rw [Int32.le_iff_toInt_le] at e1; obtain ⟨n_0, hn_0, s0⟩ := nd_add (x := a_1) (y := (1 : Int32)) (by (try rw [z1]); omega) (by (try rw [z1]); omega); rw [z1] at s0; rw [hn_0, Int32.lt_iff_toInt_lt, z0]; omega)) (ti f q0 28) (ti f_6 q0 42) bf_29.1 c_30)), (show ¬ (400 < ((ti f_6 q0 42) + 1)) from ((fun (a_0 : Int32) (a_1 : Int32) (k_0 : ¬ (a_0 ≤ a_1)) (k_1 : ¬ (400 < a_0)) => (show ¬ (400 < (a_1 + 1)) from by have z0 : (1 : Int32).toInt = 1 := (by decide +kernel); have z1 : (400 : Int32).toInt = 400 := (by decide +kernel); have r0 := fb_rng (a_0); have r1 := fb_rng (a_1); have e0 := k_0; rw [Int32.le_iff_toInt_le] at e0; have e1 := k_1; rw [Int32.lt_iff_toInt_lt, z1] at e1; obtain ⟨n_0, hn_0, s0⟩ := nd_add (x := a_1) (y := (1 : Int32)) (by (try rw [z0]); omega) (by (try rw [z0]); omega); rw [z0] at s0; rw [hn_0, Int32.lt_iff_toInt_lt, z1]; omega)) (ti f q0 28) (ti f_6 q0 42) c_30 bp_28.2))⟩ d_Md_advance_262 (fun f_8 H locs hP hD hS hO_8 hE_8 w_51 hF_8 => ?_)
                            have hA_8 := hA_7.trans hE_8
                            have hQ := hQ f_8 hF_8
                            have hQ := hQ hO_8
                            refine lv_iinc (v := (v2_28 + 1)) (lv' := [(2, .int (v2_28 + 1)), (0, .ref q0)]) hx hb d_Md_advance_265 hl (k := 1) rfl rfl (by decide) rfl (fun ls hl => ?_)
                            refine lv_goto (tgt := 193) hx hb d_Md_advance_268 (by decide) ?_
                            exact ih_28 (n_28 - 1) (ms_1 ((fun (a_0 : Int32) (a_1 : Int32) (k_0 : ¬ (a_0 ≤ a_1)) => (show 1 ≤ a_0.toInt - a_1.toInt ∧ a_0.toInt - (a_1 + (1 : Int32)).toInt + 1 ≤ a_0.toInt - a_1.toInt from by have z0 : (1 : Int32).toInt = 1 := (by decide +kernel); have r0 := fb_rng (a_0); have r1 := fb_rng (a_1); have e0 := k_0; rw [Int32.le_iff_toInt_le] at e0; obtain ⟨n_0, hn_0, s0⟩ := nd_add (x := a_1) (y := (1 : Int32)) (by (try rw [z0]); omega) (by (try rw [z0]); omega); rw [z0] at s0; rw [hn_0]; omega)) (ti f q0 28) (ti f_6 q0 42) c_30) hm_28) (v2_28 + 1) _ _ _ _ _ hP hD hS hO_8 (((hE_6.trans hE_7).trans hE_8).mono (by decide +kernel)) (by rw [show ti f_8 q0 42 = ((ti f_6 q0 42) + 1) from w_51]; first | done | exact (show ¬ ((ti f q0 28) < ((ti f_6 q0 42) + 1)) from ((fun (a_0 : Int32) (a_1 : Int32) (k_0 : ¬ (a_0 ≤ a_1)) => (show ¬ (a_0 < (a_1 + 1)) from by have z0 : (1 : Int32).toInt = 1 := (by decide +kernel); have r0 := fb_rng (a_0); have r1 := fb_rng (a_1); have e0 := k_0; rw [Int32.le_iff_toInt_le] at e0; obtain ⟨n_0, hn_0, s0⟩ := nd_add (x := a_1) (y := (1 : Int32)) (by (try rw [z0]); omega) (by (try rw [z0]); omega); rw [z0] at s0; rw [hn_0, Int32.lt_iff_toInt_lt]; omega)) (ti f q0 28) (ti f_6 q0 42) c_30))) (by rw [show ti f_8 q0 42 = ((ti f_6 q0 42) + 1) from w_51]; first | done | exact (show ¬ (((ti f_6 q0 42) + 1) < ((ti f q0 42) + 1)) from ((fun (a_0 : Int32) (a_1 : Int32) (a_2 : Int32) (a_3 : Int32) (k_0 : ¬ (a_2 < a_1)) (k_1 : ¬ (a_0 ≤ a_2)) (k_2 : ¬ (a_3 < (a_1 + 1))) (k_3 : ¬ (a_0 ≤ a_3)) => (show ¬ ((a_3 + 1) < (a_1 + 1)) from by have z0 : (1 : Int32).toInt = 1 := (by decide +kernel); have r0 := fb_rng (a_0); have r1 := fb_rng (a_1); have r2 := fb_rng (a_2); have r3 := fb_rng (a_3); have e0 := k_0; rw [Int32.lt_iff_toInt_lt] at e0; have e1 := k_1; rw [Int32.le_iff_toInt_le] at e1; obtain ⟨n_0, hn_0, s0⟩ := nd_add (x := a_1) (y := (1 : Int32)) (by (try rw [z0]); omega) (by (try rw [z0]); omega); rw [z0] at s0; have e2 := k_2; rw [hn_0, Int32.lt_iff_toInt_lt] at e2; have e3 := k_3; rw [Int32.le_iff_toInt_le] at e3; obtain ⟨n_1, hn_1, s1⟩ := nd_add (x := a_3) (y := (1 : Int32)) (by (try rw [z0]); omega) (by (try rw [z0]); omega); rw [z0] at s1; rw [hn_1, hn_0, Int32.lt_iff_toInt_lt]; omega)) (ti f q0 28) (ti f q0 42) (ti f_1 q0 42) (ti f_6 q0 42) iv1_1 c_3 iv1_28 c_30))) (by rw [show ti f_8 q0 42 = ((ti f_6 q0 42) + 1) from w_51]; exact ms_2 ((fun (a_0 : Int32) (a_1 : Int32) (k_0 : ¬ (a_0 ≤ a_1)) => (show 1 ≤ a_0.toInt - a_1.toInt ∧ a_0.toInt - (a_1 + (1 : Int32)).toInt + 1 ≤ a_0.toInt - a_1.toInt from by have z0 : (1 : Int32).toInt = 1 := (by decide +kernel); have r0 := fb_rng (a_0); have r1 := fb_rng (a_1); have e0 := k_0; rw [Int32.le_iff_toInt_le] at e0; obtain ⟨n_0, hn_0, s0⟩ := nd_add (x := a_1) (y := (1 : Int32)) (by (try rw [z0]); omega) (by (try rw [z0]); omega); rw [z0] at s0; rw [hn_0]; omega)) (ti f q0 28) (ti f_6 q0 42) c_30) hm_28) (by rw [← hrec_28, wpR_Md_advance_w_193_28_pos (ms_3 ((fun (a_0 : Int32) (a_1 : Int32) (k_0 : ¬ (a_0 ≤ a_1)) => (show 1 ≤ a_0.toInt - a_1.toInt ∧ a_0.toInt - (a_1 + (1 : Int32)).toInt + 1 ≤ a_0.toInt - a_1.toInt from by have z0 : (1 : Int32).toInt = 1 := (by decide +kernel); have r0 := fb_rng (a_0); have r1 := fb_rng (a_1); have e0 := k_0; rw [Int32.le_iff_toInt_le] at e0; obtain ⟨n_0, hn_0, s0⟩ := nd_add (x := a_1) (y := (1 : Int32)) (by (try rw [z0]); omega) (by (try rw [z0]); omega); rw [z0] at s0; rw [hn_0]; omega)) (ti f q0 28) (ti f_6 q0 42) c_30) hm_28)] at hQ; exact hQ) (lv_sub hl [1, 0] rfl)
                exact cut_28 (((ti f q0 28) : Int32).toInt - (((ti f_1 q0 42) + 1) : Int32).toInt).toNat (1 : Int32) _ _ _ _ _ hP hD hS hO_5 Ext.rf (by rw [show ti f_5 q0 42 = ((ti f_1 q0 42) + 1) from w_27]; first | done | exact (show ¬ ((ti f q0 28) < ((ti f_1 q0 42) + 1)) from ((fun (a_0 : Int32) (a_1 : Int32) (k_0 : ¬ (a_0 ≤ a_1)) => (show ¬ (a_0 < (a_1 + 1)) from by have z0 : (1 : Int32).toInt = 1 := (by decide +kernel); have r0 := fb_rng (a_0); have r1 := fb_rng (a_1); have e0 := k_0; rw [Int32.le_iff_toInt_le] at e0; obtain ⟨n_0, hn_0, s0⟩ := nd_add (x := a_1) (y := (1 : Int32)) (by (try rw [z0]); omega) (by (try rw [z0]); omega); rw [z0] at s0; rw [hn_0, Int32.lt_iff_toInt_lt]; omega)) (ti f q0 28) (ti f_1 q0 42) c_3))) (by rw [show ti f_5 q0 42 = ((ti f_1 q0 42) + 1) from w_27]; first | done | exact (show ¬ (((ti f_1 q0 42) + 1) < ((ti f q0 42) + 1)) from ((fun (a_0 : Int32) (a_1 : Int32) (a_2 : Int32) (k_0 : ¬ (a_2 < a_1)) (k_1 : ¬ (a_0 ≤ a_2)) => (show ¬ ((a_2 + 1) < (a_1 + 1)) from by have z0 : (1 : Int32).toInt = 1 := (by decide +kernel); have r0 := fb_rng (a_0); have r1 := fb_rng (a_1); have r2 := fb_rng (a_2); have e0 := k_0; rw [Int32.lt_iff_toInt_lt] at e0; have e1 := k_1; rw [Int32.le_iff_toInt_le] at e1; obtain ⟨n_0, hn_0, s0⟩ := nd_add (x := a_2) (y := (1 : Int32)) (by (try rw [z0]); omega) (by (try rw [z0]); omega); rw [z0] at s0; obtain ⟨n_1, hn_1, s1⟩ := nd_add (x := a_1) (y := (1 : Int32)) (by (try rw [z0]); omega) (by (try rw [z0]); omega); rw [z0] at s1; rw [hn_0, hn_1, Int32.lt_iff_toInt_lt]; omega)) (ti f q0 28) (ti f q0 42) (ti f_1 q0 42) iv1_1 c_3))) (by rw [show ti f_5 q0 42 = ((ti f_1 q0 42) + 1) from w_27]; exact ms_e _ _) hQ (lv_sub hl [2, 0] rfl)
          · have hQ := hQ.2 c_12
            by_cases c_52 : 122 < x_7
            · have hQ := hQ.1 c_52
              refine hb_ti 0 (by unfold f_Md_isLetter; rw [if_neg c_12, if_pos c_52]; first | done | rfl) ?_
              refine lv_if_eq (tgt := 179) hx hb d_Md_advance_77 (by decide) (fun _ => ?_) (fun h => absurd (by decide +kernel) h)
              refine lv_iload_n hx hb d_Md_advance_179 rfl (lv_at hl 0 rfl) ?_
              refine vp_callSi (va_Run.run (va_runS (As := [.int x_7]) (rest := []) ⟨hx, hb, hml, hown, htb⟩ (c_Md_isDigit l x_7) (cwS 1 htb (gd_S tw_343 tw_344 tw_89 tw_342) rfl rfl rfl (by decide +kernel) ⟨Nat.le_of_ble_eq_true rfl, Nat.le_of_ble_eq_true rfl⟩) ⟨fun _ _ _ _ h => h, fun U _ _ => ⟨rfl, trivial⟩⟩ rfl rfl hl.1 rfl (lv_room (Nat.le_of_ble_eq_true rfl)) d_Md_advance_180 ⟨Nat.le_of_ble_eq_true rfl, Nat.le_of_ble_eq_true rfl⟩)) (fun r er => ?_)
              subst er
              refine hb_ti 0 (by unfold f_Md_isDigit; rw [if_neg (show ¬ (x_7 < 48) from by have e0 := c_52; rw [Int32.lt_iff_toInt_lt] at e0; have z0 : (48 : Int32).toInt = 48 := (by decide +kernel); have z1 : (122 : Int32).toInt = 122 := (by decide +kernel); rw [Int32.lt_iff_toInt_lt]; omega), if_pos (show 57 < x_7 from by have e0 := c_52; rw [Int32.lt_iff_toInt_lt] at e0; have z0 : (57 : Int32).toInt = 57 := (by decide +kernel); have z1 : (122 : Int32).toInt = 122 := (by decide +kernel); rw [Int32.lt_iff_toInt_lt]; omega)]) ?_
              refine lv_if_eq (tgt := 286) hx hb d_Md_advance_183 (by decide) (fun _ => ?_) (fun h => absurd (by decide +kernel) h)
              refine lv_aload_n hx hb d_Md_advance_286 rfl (lv_at hl 1 rfl) ?_
              refine lv_dup hx hb d_Md_advance_287 rfl ?_
              refine tw_getI (x := (ti f_1 q0 42)) (D := (dC, dI)) (C := R_Md) (T := F_Md) (N := 64) (ci := 7) (kd := 27) (ct := ct) hx hb htb i_Md hown hK hP (hA_2.m m0) rfl rfl 42 ((hE_2.ei (hA_1.m m0) rfl).trans rfl) (by decide) (htb (.fieldLink R_Md 218 "WaterMenModel" "at" "I") tw_336) (fun _ h9 => h9) rfl d_Md_advance_288 ?_
              refine lv_iconst (v := 1) hx hb d_Md_advance_291 (by decide +kernel) ?_
              refine lv_iadd hx hb d_Md_advance_292 ?_
              refine tw_puti (v := ((ti f_1 q0 42) + 1)) (D := (dC, dI)) (C := R_Md) (T := F_Md) (N := 64) (ci := 7) (kd := 27) (ct := ct) (ty := .int) hx hb htb i_Md t_Md t_Md_ok n_Md hown hK hP hD hS hO_2 (hA_2.m m0) rfl rfl 42 (by decide) (htb (.fieldLink R_Md 218 "WaterMenModel" "at" "I") tw_336) (fun _ h9 => h9) rfl (by decide +kernel) rfl rfl rfl ⟨(show ¬ (((ti f_1 q0 42) + 1) < 0) from ((fun (a_0 : Int32) (a_1 : Int32) (k_0 : ¬ (a_1 < 0)) (k_1 : ¬ (a_0 ≤ a_1)) => (show ¬ ((a_1 + 1) < 0) from by have z0 : (0 : Int32).toInt = 0 := (by decide +kernel); have z1 : (1 : Int32).toInt = 1 := (by decide +kernel); have r0 := fb_rng (a_0); have r1 := fb_rng (a_1); have e0 := k_0; rw [Int32.lt_iff_toInt_lt, z0] at e0; have e1 := k_1; rw [Int32.le_iff_toInt_le] at e1; obtain ⟨n_0, hn_0, s0⟩ := nd_add (x := a_1) (y := (1 : Int32)) (by (try rw [z1]); omega) (by (try rw [z1]); omega); rw [z1] at s0; rw [hn_0, Int32.lt_iff_toInt_lt, z0]; omega)) (ti f q0 28) (ti f_1 q0 42) bf_2.1 c_3)), (show ¬ (400 < ((ti f_1 q0 42) + 1)) from ((fun (a_0 : Int32) (a_1 : Int32) (k_0 : ¬ (a_0 ≤ a_1)) (k_1 : ¬ (400 < a_0)) => (show ¬ (400 < (a_1 + 1)) from by have z0 : (1 : Int32).toInt = 1 := (by decide +kernel); have z1 : (400 : Int32).toInt = 400 := (by decide +kernel); have r0 := fb_rng (a_0); have r1 := fb_rng (a_1); have e0 := k_0; rw [Int32.le_iff_toInt_le] at e0; have e1 := k_1; rw [Int32.lt_iff_toInt_lt, z1] at e1; obtain ⟨n_0, hn_0, s0⟩ := nd_add (x := a_1) (y := (1 : Int32)) (by (try rw [z0]); omega) (by (try rw [z0]); omega); rw [z0] at s0; rw [hn_0, Int32.lt_iff_toInt_lt, z1]; omega)) (ti f q0 28) (ti f_1 q0 42) c_3 bp_28.2))⟩ d_Md_advance_293 (fun f_3 H locs hP hD hS hO_3 hE_3 w_54 hF_3 => ?_)
              have hA_3 := hA_2.trans hE_3
              have hQ := hQ f_3 hF_3
              have hQ := hQ hO_3
              refine lv_aload_n hx hb d_Md_advance_296 rfl (lv_at hl 1 rfl) ?_
              refine lv_iload_n hx hb d_Md_advance_297 rfl (lv_at hl 0 rfl) ?_
              refine lv_bipush (v := 59) hx hb d_Md_advance_298 (by decide +kernel) ?_
              refine lv_icmp_ne (tgt := 307) hx hb d_Md_advance_300 (by decide) (fun _ => ?_) (fun h => absurd h (show ¬ (x_7 = 59) from by have e0 := c_52; rw [Int32.lt_iff_toInt_lt] at e0; have z0 : (59 : Int32).toInt = 59 := (by decide +kernel); have z1 : (122 : Int32).toInt = 122 := (by decide +kernel); rw [← Int32.toInt_inj]; omega))
              refine lv_iconst (v := 3) hx hb d_Md_advance_307 (by decide +kernel) ?_
              refine tw_puti (v := 3) (D := (dC, dI)) (C := R_Md) (T := F_Md) (N := 64) (ci := 7) (kd := 27) (ct := ct) (ty := .int) hx hb htb i_Md t_Md t_Md_ok n_Md hown hK hP hD hS hO_3 (hA_3.m m0) rfl rfl 43 (by decide) (htb (.fieldLink R_Md 224 "WaterMenModel" "tk" "I") tw_338) (fun _ h9 => h9) rfl (by decide +kernel) rfl rfl rfl ⟨by decide +kernel, by decide +kernel⟩ d_Md_advance_308 (fun f_4 H locs hP hD hS hO_4 hE_4 w_55 hF_4 => ?_)
              have hA_4 := hA_3.trans hE_4
              have hQ := hQ f_4 hF_4
              have hQ := hQ hO_4
              refine W.widen (k := 0) (n := 0) (Nat.le_of_ble_eq_true rfl) (Nat.le_of_ble_eq_true rfl) ?_
              exact W.vret hx hb hr (fun t ht hW => ⟨⟨(L_1, f_4), rfl, ⟨hO_4, hA_4.mono (by decide +kernel), (Or.inr ⟨(by show ¬ ((ti f_4 q0 42) < ((ti f q0 42) + 1)); rw [show ti f_4 q0 42 = ((ti f_1 q0 42) + 1) from ((hE_4.ei (hA_3.m m0) rfl).trans w_54)]; first | done | exact (show ¬ (((ti f_1 q0 42) + 1) < ((ti f q0 42) + 1)) from ((fun (a_0 : Int32) (a_1 : Int32) (a_2 : Int32) (k_0 : ¬ (a_2 < a_1)) (k_1 : ¬ (a_0 ≤ a_2)) => (show ¬ ((a_2 + 1) < (a_1 + 1)) from by have z0 : (1 : Int32).toInt = 1 := (by decide +kernel); have r0 := fb_rng (a_0); have r1 := fb_rng (a_1); have r2 := fb_rng (a_2); have e0 := k_0; rw [Int32.lt_iff_toInt_lt] at e0; have e1 := k_1; rw [Int32.le_iff_toInt_le] at e1; obtain ⟨n_0, hn_0, s0⟩ := nd_add (x := a_2) (y := (1 : Int32)) (by (try rw [z0]); omega) (by (try rw [z0]); omega); rw [z0] at s0; obtain ⟨n_1, hn_1, s1⟩ := nd_add (x := a_1) (y := (1 : Int32)) (by (try rw [z0]); omega) (by (try rw [z0]); omega); rw [z0] at s1; rw [hn_0, hn_1, Int32.lt_iff_toInt_lt]; omega)) (ti f q0 28) (ti f q0 42) (ti f_1 q0 42) iv1_1 c_3))), (by show ¬ ((ti f q0 28) < (ti f_4 q0 42)); rw [show ti f_4 q0 42 = ((ti f_1 q0 42) + 1) from ((hE_4.ei (hA_3.m m0) rfl).trans w_54)]; first | done | exact (show ¬ ((ti f q0 28) < ((ti f_1 q0 42) + 1)) from ((fun (a_0 : Int32) (a_1 : Int32) (k_0 : ¬ (a_0 ≤ a_1)) => (show ¬ (a_0 < (a_1 + 1)) from by have z0 : (1 : Int32).toInt = 1 := (by decide +kernel); have r0 := fb_rng (a_0); have r1 := fb_rng (a_1); have e0 := k_0; rw [Int32.le_iff_toInt_le] at e0; obtain ⟨n_0, hn_0, s0⟩ := nd_add (x := a_1) (y := (1 : Int32)) (by (try rw [z0]); omega) (by (try rw [z0]); omega); rw [z0] at s0; rw [hn_0, Int32.lt_iff_toInt_lt]; omega)) (ti f q0 28) (ti f_1 q0 42) c_3))), trivial⟩), hQ⟩, by rw [ht]; exact hP, va_K.moved hW.alike hK, by rw [hAe]; exact hD⟩, by rw [hAe]; exact hS.F ht⟩) (by rw [hAe]; exact hS.2.2) d_Md_advance_311
            · have hQ := hQ.2 c_52
              refine hb_ti 1 (by unfold f_Md_isLetter; rw [if_neg c_12, if_neg c_52]; first | done | rfl) ?_
              refine lv_if_eq (tgt := 179) hx hb d_Md_advance_77 (by decide) (fun h => absurd h (by decide +kernel)) (fun _ => ?_)
              refine lv_lconst (v := 0) hx hb d_Md_advance_80 (by decide +kernel) ?_
              refine lv_lstore_n (lv' := [(2, .long 0), (1, .int x_7), (0, .ref q0)]) hx hb d_Md_advance_81 rfl hl (by decide) rfl (fun ls hl => ?_)
              refine lv_iconst (v := 0) hx hb d_Md_advance_82 (by decide +kernel) ?_
              refine lv_istore (lv' := [(4, .int 0), (2, .long 0), (1, .int x_7), (0, .ref q0)]) hx hb d_Md_advance_83 hl (by decide) rfl (fun ls hl => ?_)
              refine lv_aload_n hx hb d_Md_advance_85 rfl (lv_at hl 3 rfl) ?_
              refine tw_getI (x := (ti f_1 q0 42)) (D := (dC, dI)) (C := R_Md) (T := F_Md) (N := 64) (ci := 7) (kd := 27) (ct := ct) hx hb htb i_Md hown hK hP (hA_2.m m0) rfl rfl 42 ((hE_2.ei (hA_1.m m0) rfl).trans rfl) (by decide) (htb (.fieldLink R_Md 218 "WaterMenModel" "at" "I") tw_336) (fun _ h9 => h9) rfl d_Md_advance_86 ?_
              refine lv_aload_n hx hb d_Md_advance_89 rfl (lv_at hl 3 rfl) ?_
              refine tw_getI (x := (ti f q0 28)) (D := (dC, dI)) (C := R_Md) (T := F_Md) (N := 64) (ci := 7) (kd := 27) (ct := ct) hx hb htb i_Md hown hK hP (hA_2.m m0) rfl rfl 28 ((hA_2.ei m0 rfl).trans rfl) (by decide) (htb (.fieldLink R_Md 212 "WaterMenModel" "taped" "I") tw_187) (fun _ h9 => h9) rfl d_Md_advance_90 ?_
              refine lv_icmp_ge (tgt := 159) hx hb d_Md_advance_93 (by decide) (fun h => absurd h c_3) (fun _ => ?_)
              refine lv_aload_n hx hb d_Md_advance_96 rfl (lv_at hl 3 rfl) ?_
              refine tw_getR (D := (dC, dI)) (C := R_Md) (T := F_Md) (N := 64) (ci := 7) (kd := 27) (ct := ct) hx hb htb i_Md hown hK hP (hA_2.m m0) rfl rfl 27 ((hE_2.er (hA_1.m m0) rfl).trans e_6) (by decide) (htb (.fieldLink R_Md 109 "WaterMenModel" "tape" "[B") tw_188) (fun _ h9 => h9) rfl d_Md_advance_97 ?_
              refine hb_tv (.ref q_6) rfl ?_
              refine lv_aload_n hx hb d_Md_advance_100 rfl (lv_at hl 3 rfl) ?_
              refine tw_getI (x := (ti f_1 q0 42)) (D := (dC, dI)) (C := R_Md) (T := F_Md) (N := 64) (ci := 7) (kd := 27) (ct := ct) hx hb htb i_Md hown hK hP (hA_2.m m0) rfl rfl 42 ((hE_2.ei (hA_1.m m0) rfl).trans rfl) (by decide) (htb (.fieldLink R_Md 218 "WaterMenModel" "at" "I") tw_336) (fun _ h9 => h9) rfl d_Md_advance_101 ?_
              refine tw_aldxB (ct := ct) (x := x_7) hx hb hK hP (hE_2.m m_6) rfl ((fun (a_0 : Int32) (a_1 : Int32) (k_0 : ¬ (a_1 < 0)) (k_1 : ¬ (a_0 ≤ a_1)) (k_2 : ¬ (400 < a_0)) => (show vp_in (a_1) 400 from by have z0 : (0 : Int32).toInt = 0 := (by decide +kernel); have z1 : (400 : Int32).toInt = 400 := (by decide +kernel); have r0 := fb_rng (a_0); have r1 := fb_rng (a_1); have e0 := k_0; rw [Int32.lt_iff_toInt_lt, z0] at e0; have e1 := k_1; rw [Int32.le_iff_toInt_le] at e1; have e2 := k_2; rw [Int32.lt_iff_toInt_lt, z1] at e2; rw [vp_in_iff]; omega)) (ti f q0 28) (ti f_1 q0 42) bf_2.1 c_3 bp_28.2) ((hE_2.ei m_6 rfl).trans e_7) d_Md_advance_104 ?_
              refine vp_callSi (va_Run.run (va_runS (As := [.int x_7]) (rest := []) ⟨hx, hb, hml, hown, htb⟩ (c_Md_isLetter l x_7) (cwS 1 htb (gd_S tw_340 tw_341 tw_89 tw_339) rfl rfl rfl (by decide +kernel) ⟨Nat.le_of_ble_eq_true rfl, Nat.le_of_ble_eq_true rfl⟩) ⟨fun _ _ _ _ h => h, fun U _ _ => ⟨rfl, trivial⟩⟩ rfl rfl hl.1 rfl (lv_room (Nat.le_of_ble_eq_true rfl)) d_Md_advance_105 ⟨Nat.le_of_ble_eq_true rfl, Nat.le_of_ble_eq_true rfl⟩)) (fun r er => ?_)
              subst er
              refine hb_ti 1 (by unfold f_Md_isLetter; rw [if_neg c_12, if_neg c_52]) ?_
              refine lv_if_eq (tgt := 159) hx hb d_Md_advance_108 (by decide) (fun h => absurd h (by decide +kernel)) (fun _ => ?_)
              refine lv_iload hx hb d_Md_advance_111 (lv_at hl 0 rfl) ?_
              refine lv_bipush (v := 8) hx hb d_Md_advance_113 (by decide +kernel) ?_
              refine lv_icmp_ge (tgt := 141) hx hb d_Md_advance_115 (by decide) (fun h => absurd h (by decide +kernel)) (fun _ => ?_)
              refine lv_lload_n hx hb d_Md_advance_118 rfl (lv_at hl 1 rfl) ?_
              refine lv_ldc2 (v := 27) hx hb hown (htb (.constantLong R_Md 230 27) tw_346) d_Md_advance_119 ?_
              refine lv_lmul hx hb d_Md_advance_122 ?_
              refine hb_eql (fun y_58 hy_58 => ?_)
              have hQ := hQ y_58 hy_58
              refine lv_aload_n hx hb d_Md_advance_123 rfl (lv_at hl 3 rfl) ?_
              refine tw_getR (D := (dC, dI)) (C := R_Md) (T := F_Md) (N := 64) (ci := 7) (kd := 27) (ct := ct) hx hb htb i_Md hown hK hP (hA_2.m m0) rfl rfl 27 ((hE_2.er (hA_1.m m0) rfl).trans e_6) (by decide) (htb (.fieldLink R_Md 109 "WaterMenModel" "tape" "[B") tw_188) (fun _ h9 => h9) rfl d_Md_advance_124 ?_
              refine hb_tv (.ref q_6) rfl ?_
              refine lv_aload_n hx hb d_Md_advance_127 rfl (lv_at hl 3 rfl) ?_
              refine tw_getI (x := (ti f_1 q0 42)) (D := (dC, dI)) (C := R_Md) (T := F_Md) (N := 64) (ci := 7) (kd := 27) (ct := ct) hx hb htb i_Md hown hK hP (hA_2.m m0) rfl rfl 42 ((hE_2.ei (hA_1.m m0) rfl).trans rfl) (by decide) (htb (.fieldLink R_Md 218 "WaterMenModel" "at" "I") tw_336) (fun _ h9 => h9) rfl d_Md_advance_128 ?_
              refine tw_aldxB (ct := ct) (x := x_7) hx hb hK hP (hE_2.m m_6) rfl ((fun (a_0 : Int32) (a_1 : Int32) (k_0 : ¬ (a_1 < 0)) (k_1 : ¬ (a_0 ≤ a_1)) (k_2 : ¬ (400 < a_0)) => (show vp_in (a_1) 400 from by have z0 : (0 : Int32).toInt = 0 := (by decide +kernel); have z1 : (400 : Int32).toInt = 400 := (by decide +kernel); have r0 := fb_rng (a_0); have r1 := fb_rng (a_1); have e0 := k_0; rw [Int32.lt_iff_toInt_lt, z0] at e0; have e1 := k_1; rw [Int32.le_iff_toInt_le] at e1; have e2 := k_2; rw [Int32.lt_iff_toInt_lt, z1] at e2; rw [vp_in_iff]; omega)) (ti f q0 28) (ti f_1 q0 42) bf_2.1 c_3 bp_28.2) ((hE_2.ei m_6 rfl).trans e_7) d_Md_advance_131 ?_
              refine lv_i2l hx hb d_Md_advance_132 rfl ?_
              refine lv_ladd hx hb d_Md_advance_133 ?_
              refine hb_eql (fun y_60 hy_60 => ?_)
              have hQ := hQ y_60 hy_60
              refine lv_ldc2 (v := 96) hx hb hown (htb (.constantLong R_Md 232 96) tw_347) d_Md_advance_134 ?_
              refine lv_lsub hx hb d_Md_advance_137 ?_
              refine hb_eql (fun y_61 hy_61 => ?_)
              have hQ := hQ y_61 hy_61
              refine lv_goto (tgt := 142) hx hb d_Md_advance_138 (by decide) ?_
              refine lv_lstore_n (lv' := [(2, .long y_61), (4, .int 0), (1, .int x_7), (0, .ref q0)]) hx hb d_Md_advance_142 rfl hl (by decide) rfl (fun ls hl => ?_)
              refine lv_aload_n hx hb d_Md_advance_143 rfl (lv_at hl 3 rfl) ?_
              refine lv_dup hx hb d_Md_advance_144 rfl ?_
              refine tw_getI (x := (ti f_1 q0 42)) (D := (dC, dI)) (C := R_Md) (T := F_Md) (N := 64) (ci := 7) (kd := 27) (ct := ct) hx hb htb i_Md hown hK hP (hA_2.m m0) rfl rfl 42 ((hE_2.ei (hA_1.m m0) rfl).trans rfl) (by decide) (htb (.fieldLink R_Md 218 "WaterMenModel" "at" "I") tw_336) (fun _ h9 => h9) rfl d_Md_advance_145 ?_
              refine lv_iconst (v := 1) hx hb d_Md_advance_148 (by decide +kernel) ?_
              refine lv_iadd hx hb d_Md_advance_149 ?_
              refine tw_puti (v := ((ti f_1 q0 42) + 1)) (D := (dC, dI)) (C := R_Md) (T := F_Md) (N := 64) (ci := 7) (kd := 27) (ct := ct) (ty := .int) hx hb htb i_Md t_Md t_Md_ok n_Md hown hK hP hD hS hO_2 (hA_2.m m0) rfl rfl 42 (by decide) (htb (.fieldLink R_Md 218 "WaterMenModel" "at" "I") tw_336) (fun _ h9 => h9) rfl (by decide +kernel) rfl rfl rfl ⟨(show ¬ (((ti f_1 q0 42) + 1) < 0) from ((fun (a_0 : Int32) (a_1 : Int32) (k_0 : ¬ (a_1 < 0)) (k_1 : ¬ (a_0 ≤ a_1)) => (show ¬ ((a_1 + 1) < 0) from by have z0 : (0 : Int32).toInt = 0 := (by decide +kernel); have z1 : (1 : Int32).toInt = 1 := (by decide +kernel); have r0 := fb_rng (a_0); have r1 := fb_rng (a_1); have e0 := k_0; rw [Int32.lt_iff_toInt_lt, z0] at e0; have e1 := k_1; rw [Int32.le_iff_toInt_le] at e1; obtain ⟨n_0, hn_0, s0⟩ := nd_add (x := a_1) (y := (1 : Int32)) (by (try rw [z1]); omega) (by (try rw [z1]); omega); rw [z1] at s0; rw [hn_0, Int32.lt_iff_toInt_lt, z0]; omega)) (ti f q0 28) (ti f_1 q0 42) bf_2.1 c_3)), (show ¬ (400 < ((ti f_1 q0 42) + 1)) from ((fun (a_0 : Int32) (a_1 : Int32) (k_0 : ¬ (a_0 ≤ a_1)) (k_1 : ¬ (400 < a_0)) => (show ¬ (400 < (a_1 + 1)) from by have z0 : (1 : Int32).toInt = 1 := (by decide +kernel); have z1 : (400 : Int32).toInt = 400 := (by decide +kernel); have r0 := fb_rng (a_0); have r1 := fb_rng (a_1); have e0 := k_0; rw [Int32.le_iff_toInt_le] at e0; have e1 := k_1; rw [Int32.lt_iff_toInt_lt, z1] at e1; obtain ⟨n_0, hn_0, s0⟩ := nd_add (x := a_1) (y := (1 : Int32)) (by (try rw [z0]); omega) (by (try rw [z0]); omega); rw [z0] at s0; rw [hn_0, Int32.lt_iff_toInt_lt, z1]; omega)) (ti f q0 28) (ti f_1 q0 42) c_3 bp_28.2))⟩ d_Md_advance_150 (fun f_3 H locs hP hD hS hO_3 hE_3 w_62 hF_3 => ?_)
              have hA_3 := hA_2.trans hE_3
              have hQ := hQ f_3 hF_3
              have hQ := hQ hO_3
              refine lv_iinc (v := 1) (lv' := [(4, .int 1), (2, .long y_61), (1, .int x_7), (0, .ref q0)]) hx hb d_Md_advance_153 hl (k := 1) rfl (by decide +kernel) (by decide) rfl (fun ls hl => ?_)
              refine lv_goto (tgt := 85) hx hb d_Md_advance_156 (by decide) ?_
              have cut_63 : ∀ (n_63 : Nat) (v4_63 : Int32) (v2_63 : Int64) (L_4 : List Nat) (f_4 : TF) (H : Heap) (locs : List Loc) (ls : Array Slot), va_P (dC, dI) vwCl (TW ct L_4 f_4) H → va_D A (TW ct L_4 f_4) → va_S A s.heap H locs → Ok L_4 f_4 → Ext WL_Md_advance_w_85_63 L_1 f_3 L_4 f_4 → ¬ ((ti f q0 28) < (ti f_4 q0 42)) → ¬ ((ti f_4 q0 42) < ((ti f q0 42) + 1)) → ((ti f q0 28) : Int32).toInt - ((ti f_4 q0 42) : Int32).toInt ≤ (n_63 : Int) → wpL_Md_advance_w_85_63 L f q0 L_1 f_1 rec_1 q_6 x_7 f_2 y_58 y_60 y_61 f_3 Q n_63 v4_63 v2_63 L_4 f_4 → lv_has ls 5 [(0, .ref q0), (2, .long v2_63), (4, .int v4_63)] → W p l e (headSpec (.code y_Md_advance b_Md_advance 5 none :: TB) ({ frames := 1, cells := 0, slots := 0, locals := 21 })).room s m [.ref q0].toArray below meth c H locs 0 0 (MQ below (va_Qv (fun (u : TSt) => Ok u.1 u.2 ∧ Ext W_Md_advance_w L f u.1 u.2 ∧ (((ti u.2 q0 43) = 0 ∧ ¬ ((ti u.2 q0 42) < (ti f q0 42)) ∧ ¬ ((ti f q0 28) < (ti u.2 q0 42)) ∧ True) ∨ (¬ ((ti u.2 q0 42) < ((ti f q0 42) + 1)) ∧ ¬ ((ti f q0 28) < (ti u.2 q0 42)) ∧ True)) ∧ Q u.1 u.2) (fun (u : TSt) t => va_P (dC, dI) vwCl (TW ct u.1 u.2) t.heap ∧ va_K (dC, dI) vwCl (TT ct) t ∧ va_D (va_A (TW ct L f) s.heap.size) (TW ct u.1 u.2)) (va_A (TW ct L f) s.heap.size)) [.ref q0].toArray s 0 0 (va_A (TW ct L f) s.heap.size)) (F0 m 85 ls []) := by
                intro n_63
                induction n_63 using Nat.strongRecOn with
                | _ n_63 ih_63 =>
                  intro v4_63 v2_63 L_4 f_4 H locs ls hP hD hS hO_4 hE_4 iv0_63 iv1_63 hm_63 hQ hl
                  have hA_4 := hA_3.trans hE_4
                  have bf_64 := hO_4.i (hA_4.m m0) (show slotD 27 42 = some (.inl (0, 400)) from rfl)
                  rw [wpL_Md_advance_w_85_63_eq] at hQ
                  obtain ⟨rec_63, hrec_63⟩ : ∃ g, wpR_Md_advance_w_85_63 L f q0 L_1 f_1 rec_1 q_6 x_7 f_2 y_58 y_60 y_61 f_3 Q n_63 = g := ⟨_, rfl⟩
                  rw [hrec_63] at hQ
                  unfold wpB_Md_advance_w_85_63 at hQ
                  have hQ := hQ hO_4 hE_4
                  refine lv_aload_n hx hb d_Md_advance_85 rfl (lv_at hl 0 rfl) ?_
                  refine tw_getI (x := (ti f_4 q0 42)) (D := (dC, dI)) (C := R_Md) (T := F_Md) (N := 64) (ci := 7) (kd := 27) (ct := ct) hx hb htb i_Md hown hK hP (hA_4.m m0) rfl rfl 42 rfl (by decide) (htb (.fieldLink R_Md 218 "WaterMenModel" "at" "I") tw_336) (fun _ h9 => h9) rfl d_Md_advance_86 ?_
                  refine lv_aload_n hx hb d_Md_advance_89 rfl (lv_at hl 0 rfl) ?_
                  refine tw_getI (x := (ti f q0 28)) (D := (dC, dI)) (C := R_Md) (T := F_Md) (N := 64) (ci := 7) (kd := 27) (ct := ct) hx hb htb i_Md hown hK hP (hA_4.m m0) rfl rfl 28 ((hA_4.ei m0 rfl).trans rfl) (by decide) (htb (.fieldLink R_Md 212 "WaterMenModel" "taped" "I") tw_187) (fun _ h9 => h9) rfl d_Md_advance_90 ?_
                  refine lv_icmp_ge (tgt := 159) hx hb d_Md_advance_93 (by decide) (fun c_65 => ?_) (fun c_65 => ?_)
                  · have hQ := hQ.1 c_65
                    refine lv_aload_n hx hb d_Md_advance_159 rfl (lv_at hl 0 rfl) ?_
                    refine lv_iload hx hb d_Md_advance_160 (lv_at hl 2 rfl) ?_
                    refine lv_bipush (v := 7) hx hb d_Md_advance_162 (by decide +kernel) ?_
                    refine lv_icmp_le (tgt := 171) hx hb d_Md_advance_164 (by decide) (fun c_66 => ?_) (fun c_66 => ?_)
                    · have hQ := hQ.1 c_66
                      refine lv_lload_n hx hb d_Md_advance_171 rfl (lv_at hl 1 rfl) ?_
                      refine vp_callSi (va_Run.run (va_runS (As := [.long v2_63]) (rest := [.ref q0]) ⟨hx, hb, hml, hown, htb⟩ (c_Md_wordOf_w l dC dI ct L_4 f_4 hO_4 v2_63 _ hQ) (cwS 1 htb (gd_S tw_360 tw_361 tw_89 tw_359) rfl rfl rfl (by decide +kernel) ⟨Nat.le_of_ble_eq_true rfl, Nat.le_of_ble_eq_true rfl⟩) ⟨pr_blind, pr_pre hP hK hN⟩ rfl rfl hl.1 rfl (lv_room (Nat.le_of_ble_eq_true rfl)) d_Md_advance_172 ⟨Nat.le_of_ble_eq_true rfl, Nat.le_of_ble_eq_true rfl⟩)) (fun r_67 er_67 => ?_)
                      obtain ⟨er_67, hQ⟩ := er_67
                      obtain ⟨po_68, po_69, -⟩ := er_67
                      refine tw_puti (v := r_67) (D := (dC, dI)) (C := R_Md) (T := F_Md) (N := 64) (ci := 7) (kd := 27) (ct := ct) (ty := .int) hx hb htb i_Md t_Md t_Md_ok n_Md hown hK hP hD hS hO_4 (hA_4.m m0) rfl rfl 43 (by decide) (htb (.fieldLink R_Md 224 "WaterMenModel" "tk" "I") tw_338) (fun _ h9 => h9) rfl (by decide +kernel) rfl rfl rfl ⟨po_68, po_69⟩ d_Md_advance_175 (fun f_5 H locs hP hD hS hO_5 hE_5 w_70 hF_5 => ?_)
                      have hA_5 := hA_4.trans hE_5
                      have hQ := hQ f_5 hF_5
                      have hQ := hQ hO_5
                      refine W.widen (k := 0) (n := 0) (Nat.le_of_ble_eq_true rfl) (Nat.le_of_ble_eq_true rfl) ?_
                      exact W.vret hx hb hr (fun t ht hW => ⟨⟨(L_4, f_5), rfl, ⟨hO_5, hA_5.mono (by decide +kernel), (Or.inr ⟨(by show ¬ ((ti f_5 q0 42) < ((ti f q0 42) + 1)); rw [show ti f_5 q0 42 = (ti f_4 q0 42) from ((hE_5.ei (hA_4.m m0) rfl).trans rfl)]; first | done | exact iv1_63), (by show ¬ ((ti f q0 28) < (ti f_5 q0 42)); rw [show ti f_5 q0 42 = (ti f_4 q0 42) from ((hE_5.ei (hA_4.m m0) rfl).trans rfl)]; first | done | exact iv0_63), trivial⟩), hQ⟩, by rw [ht]; exact hP, va_K.moved hW.alike hK, by rw [hAe]; exact hD⟩, by rw [hAe]; exact hS.F ht⟩) (by rw [hAe]; exact hS.2.2) d_Md_advance_178
                    · have hQ := hQ.2 c_66
                      refine lv_iconst (v := 3) hx hb d_Md_advance_167 (by decide +kernel) ?_
                      refine lv_goto (tgt := 175) hx hb d_Md_advance_168 (by decide) ?_
                      refine tw_puti (v := 3) (D := (dC, dI)) (C := R_Md) (T := F_Md) (N := 64) (ci := 7) (kd := 27) (ct := ct) (ty := .int) hx hb htb i_Md t_Md t_Md_ok n_Md hown hK hP hD hS hO_4 (hA_4.m m0) rfl rfl 43 (by decide) (htb (.fieldLink R_Md 224 "WaterMenModel" "tk" "I") tw_338) (fun _ h9 => h9) rfl (by decide +kernel) rfl rfl rfl ⟨by decide +kernel, by decide +kernel⟩ d_Md_advance_175 (fun f_5 H locs hP hD hS hO_5 hE_5 w_71 hF_5 => ?_)
                      have hA_5 := hA_4.trans hE_5
                      have hQ := hQ f_5 hF_5
                      have hQ := hQ hO_5
                      refine W.widen (k := 0) (n := 0) (Nat.le_of_ble_eq_true rfl) (Nat.le_of_ble_eq_true rfl) ?_
                      exact W.vret hx hb hr (fun t ht hW => ⟨⟨(L_4, f_5), rfl, ⟨hO_5, hA_5.mono (by decide +kernel), (Or.inr ⟨(by show ¬ ((ti f_5 q0 42) < ((ti f q0 42) + 1)); rw [show ti f_5 q0 42 = (ti f_4 q0 42) from ((hE_5.ei (hA_4.m m0) rfl).trans rfl)]; first | done | exact iv1_63), (by show ¬ ((ti f q0 28) < (ti f_5 q0 42)); rw [show ti f_5 q0 42 = (ti f_4 q0 42) from ((hE_5.ei (hA_4.m m0) rfl).trans rfl)]; first | done | exact iv0_63), trivial⟩), hQ⟩, by rw [ht]; exact hP, va_K.moved hW.alike hK, by rw [hAe]; exact hD⟩, by rw [hAe]; exact hS.F ht⟩) (by rw [hAe]; exact hS.2.2) d_Md_advance_178
                  · have hQ := hQ.2 c_65
                    refine lv_aload_n hx hb d_Md_advance_96 rfl (lv_at hl 0 rfl) ?_
                    refine tw_getR (D := (dC, dI)) (C := R_Md) (T := F_Md) (N := 64) (ci := 7) (kd := 27) (ct := ct) hx hb htb i_Md hown hK hP (hA_4.m m0) rfl rfl 27 ((hE_4.er (hA_3.m m0) rfl).trans ((hE_3.er (hA_2.m m0) rfl).trans ((hE_2.er (hA_1.m m0) rfl).trans e_6))) (by decide) (htb (.fieldLink R_Md 109 "WaterMenModel" "tape" "[B") tw_188) (fun _ h9 => h9) rfl d_Md_advance_97 ?_
                    refine hb_tv (.ref q_6) rfl ?_
                    refine lv_aload_n hx hb d_Md_advance_100 rfl (lv_at hl 0 rfl) ?_
                    refine tw_getI (x := (ti f_4 q0 42)) (D := (dC, dI)) (C := R_Md) (T := F_Md) (N := 64) (ci := 7) (kd := 27) (ct := ct) hx hb htb i_Md hown hK hP (hA_4.m m0) rfl rfl 42 rfl (by decide) (htb (.fieldLink R_Md 218 "WaterMenModel" "at" "I") tw_336) (fun _ h9 => h9) rfl d_Md_advance_101 ?_
                    refine tw_aldB (ct := ct) hx hb hK hP hO_4 (hE_4.m (hE_3.m (hE_2.m m_6))) rfl ((fun (a_0 : Int32) (a_1 : Int32) (k_0 : ¬ (a_1 < 0)) (k_1 : ¬ (a_0 ≤ a_1)) (k_2 : ¬ (400 < a_0)) => (show vp_in (a_1) 400 from by have z0 : (0 : Int32).toInt = 0 := (by decide +kernel); have z1 : (400 : Int32).toInt = 400 := (by decide +kernel); have r0 := fb_rng (a_0); have r1 := fb_rng (a_1); have e0 := k_0; rw [Int32.lt_iff_toInt_lt, z0] at e0; have e1 := k_1; rw [Int32.le_iff_toInt_le] at e1; have e2 := k_2; rw [Int32.lt_iff_toInt_lt, z1] at e2; rw [vp_in_iff]; omega)) (ti f q0 28) (ti f_4 q0 42) bf_64.1 c_65 bp_28.2) d_Md_advance_104 (fun x_72 e_72 b_72 => ?_)
                    have hQ := hQ x_72 e_72
                    refine vp_callSi (va_Run.run (va_runS (As := [.int x_72]) (rest := []) ⟨hx, hb, hml, hown, htb⟩ (c_Md_isLetter l x_72) (cwS 1 htb (gd_S tw_340 tw_341 tw_89 tw_339) rfl rfl rfl (by decide +kernel) ⟨Nat.le_of_ble_eq_true rfl, Nat.le_of_ble_eq_true rfl⟩) ⟨fun _ _ _ _ h => h, fun U _ _ => ⟨rfl, trivial⟩⟩ rfl rfl hl.1 rfl (lv_room (Nat.le_of_ble_eq_true rfl)) d_Md_advance_105 ⟨Nat.le_of_ble_eq_true rfl, Nat.le_of_ble_eq_true rfl⟩)) (fun r er => ?_)
                    subst er
                    by_cases c_74 : x_72 < 97
                    · have hQ := hQ.1 c_74
                      refine hb_ti 0 (by unfold f_Md_isLetter; rw [if_pos c_74]; first | done | rfl) ?_
                      refine lv_if_eq (tgt := 159) hx hb d_Md_advance_108 (by decide) (fun _ => ?_) (fun h => absurd (by decide +kernel) h)
                      refine lv_aload_n hx hb d_Md_advance_159 rfl (lv_at hl 0 rfl) ?_
                      refine lv_iload hx hb d_Md_advance_160 (lv_at hl 2 rfl) ?_
                      refine lv_bipush (v := 7) hx hb d_Md_advance_162 (by decide +kernel) ?_
                      refine lv_icmp_le (tgt := 171) hx hb d_Md_advance_164 (by decide) (fun c_75 => ?_) (fun c_75 => ?_)
                      · have hQ := hQ.1 c_75
                        refine lv_lload_n hx hb d_Md_advance_171 rfl (lv_at hl 1 rfl) ?_
                        refine vp_callSi (va_Run.run (va_runS (As := [.long v2_63]) (rest := [.ref q0]) ⟨hx, hb, hml, hown, htb⟩ (c_Md_wordOf_w l dC dI ct L_4 f_4 hO_4 v2_63 _ hQ) (cwS 1 htb (gd_S tw_360 tw_361 tw_89 tw_359) rfl rfl rfl (by decide +kernel) ⟨Nat.le_of_ble_eq_true rfl, Nat.le_of_ble_eq_true rfl⟩) ⟨pr_blind, pr_pre hP hK hN⟩ rfl rfl hl.1 rfl (lv_room (Nat.le_of_ble_eq_true rfl)) d_Md_advance_172 ⟨Nat.le_of_ble_eq_true rfl, Nat.le_of_ble_eq_true rfl⟩)) (fun r_76 er_76 => ?_)
                        obtain ⟨er_76, hQ⟩ := er_76
                        obtain ⟨po_77, po_78, -⟩ := er_76
                        refine tw_puti (v := r_76) (D := (dC, dI)) (C := R_Md) (T := F_Md) (N := 64) (ci := 7) (kd := 27) (ct := ct) (ty := .int) hx hb htb i_Md t_Md t_Md_ok n_Md hown hK hP hD hS hO_4 (hA_4.m m0) rfl rfl 43 (by decide) (htb (.fieldLink R_Md 224 "WaterMenModel" "tk" "I") tw_338) (fun _ h9 => h9) rfl (by decide +kernel) rfl rfl rfl ⟨po_77, po_78⟩ d_Md_advance_175 (fun f_5 H locs hP hD hS hO_5 hE_5 w_79 hF_5 => ?_)
                        have hA_5 := hA_4.trans hE_5
                        have hQ := hQ f_5 hF_5
                        have hQ := hQ hO_5
                        refine W.widen (k := 0) (n := 0) (Nat.le_of_ble_eq_true rfl) (Nat.le_of_ble_eq_true rfl) ?_
                        exact W.vret hx hb hr (fun t ht hW => ⟨⟨(L_4, f_5), rfl, ⟨hO_5, hA_5.mono (by decide +kernel), (Or.inr ⟨(by show ¬ ((ti f_5 q0 42) < ((ti f q0 42) + 1)); rw [show ti f_5 q0 42 = (ti f_4 q0 42) from ((hE_5.ei (hA_4.m m0) rfl).trans rfl)]; first | done | exact iv1_63), (by show ¬ ((ti f q0 28) < (ti f_5 q0 42)); rw [show ti f_5 q0 42 = (ti f_4 q0 42) from ((hE_5.ei (hA_4.m m0) rfl).trans rfl)]; first | done | exact iv0_63), trivial⟩), hQ⟩, by rw [ht]; exact hP, va_K.moved hW.alike hK, by rw [hAe]; exact hD⟩, by rw [hAe]; exact hS.F ht⟩) (by rw [hAe]; exact hS.2.2) d_Md_advance_178
                      · have hQ := hQ.2 c_75
                        refine lv_iconst (v := 3) hx hb d_Md_advance_167 (by decide +kernel) ?_
                        refine lv_goto (tgt := 175) hx hb d_Md_advance_168 (by decide) ?_
                        refine tw_puti (v := 3) (D := (dC, dI)) (C := R_Md) (T := F_Md) (N := 64) (ci := 7) (kd := 27) (ct := ct) (ty := .int) hx hb htb i_Md t_Md t_Md_ok n_Md hown hK hP hD hS hO_4 (hA_4.m m0) rfl rfl 43 (by decide) (htb (.fieldLink R_Md 224 "WaterMenModel" "tk" "I") tw_338) (fun _ h9 => h9) rfl (by decide +kernel) rfl rfl rfl ⟨by decide +kernel, by decide +kernel⟩ d_Md_advance_175 (fun f_5 H locs hP hD hS hO_5 hE_5 w_80 hF_5 => ?_)
                        have hA_5 := hA_4.trans hE_5
                        have hQ := hQ f_5 hF_5
                        have hQ := hQ hO_5
                        refine W.widen (k := 0) (n := 0) (Nat.le_of_ble_eq_true rfl) (Nat.le_of_ble_eq_true rfl) ?_
                        exact W.vret hx hb hr (fun t ht hW => ⟨⟨(L_4, f_5), rfl, ⟨hO_5, hA_5.mono (by decide +kernel), (Or.inr ⟨(by show ¬ ((ti f_5 q0 42) < ((ti f q0 42) + 1)); rw [show ti f_5 q0 42 = (ti f_4 q0 42) from ((hE_5.ei (hA_4.m m0) rfl).trans rfl)]; first | done | exact iv1_63), (by show ¬ ((ti f q0 28) < (ti f_5 q0 42)); rw [show ti f_5 q0 42 = (ti f_4 q0 42) from ((hE_5.ei (hA_4.m m0) rfl).trans rfl)]; first | done | exact iv0_63), trivial⟩), hQ⟩, by rw [ht]; exact hP, va_K.moved hW.alike hK, by rw [hAe]; exact hD⟩, by rw [hAe]; exact hS.F ht⟩) (by rw [hAe]; exact hS.2.2) d_Md_advance_178
                    · have hQ := hQ.2 c_74
                      by_cases c_81 : 122 < x_72
                      · have hQ := hQ.1 c_81
                        refine hb_ti 0 (by unfold f_Md_isLetter; rw [if_neg c_74, if_pos c_81]; first | done | rfl) ?_
                        refine lv_if_eq (tgt := 159) hx hb d_Md_advance_108 (by decide) (fun _ => ?_) (fun h => absurd (by decide +kernel) h)
                        refine lv_aload_n hx hb d_Md_advance_159 rfl (lv_at hl 0 rfl) ?_
                        refine lv_iload hx hb d_Md_advance_160 (lv_at hl 2 rfl) ?_
                        refine lv_bipush (v := 7) hx hb d_Md_advance_162 (by decide +kernel) ?_
                        refine lv_icmp_le (tgt := 171) hx hb d_Md_advance_164 (by decide) (fun c_82 => ?_) (fun c_82 => ?_)
                        · have hQ := hQ.1 c_82
                          refine lv_lload_n hx hb d_Md_advance_171 rfl (lv_at hl 1 rfl) ?_
                          refine vp_callSi (va_Run.run (va_runS (As := [.long v2_63]) (rest := [.ref q0]) ⟨hx, hb, hml, hown, htb⟩ (c_Md_wordOf_w l dC dI ct L_4 f_4 hO_4 v2_63 _ hQ) (cwS 1 htb (gd_S tw_360 tw_361 tw_89 tw_359) rfl rfl rfl (by decide +kernel) ⟨Nat.le_of_ble_eq_true rfl, Nat.le_of_ble_eq_true rfl⟩) ⟨pr_blind, pr_pre hP hK hN⟩ rfl rfl hl.1 rfl (lv_room (Nat.le_of_ble_eq_true rfl)) d_Md_advance_172 ⟨Nat.le_of_ble_eq_true rfl, Nat.le_of_ble_eq_true rfl⟩)) (fun r_83 er_83 => ?_)
                          obtain ⟨er_83, hQ⟩ := er_83
                          obtain ⟨po_84, po_85, -⟩ := er_83
                          refine tw_puti (v := r_83) (D := (dC, dI)) (C := R_Md) (T := F_Md) (N := 64) (ci := 7) (kd := 27) (ct := ct) (ty := .int) hx hb htb i_Md t_Md t_Md_ok n_Md hown hK hP hD hS hO_4 (hA_4.m m0) rfl rfl 43 (by decide) (htb (.fieldLink R_Md 224 "WaterMenModel" "tk" "I") tw_338) (fun _ h9 => h9) rfl (by decide +kernel) rfl rfl rfl ⟨po_84, po_85⟩ d_Md_advance_175 (fun f_5 H locs hP hD hS hO_5 hE_5 w_86 hF_5 => ?_)
                          have hA_5 := hA_4.trans hE_5
                          have hQ := hQ f_5 hF_5
                          have hQ := hQ hO_5
                          refine W.widen (k := 0) (n := 0) (Nat.le_of_ble_eq_true rfl) (Nat.le_of_ble_eq_true rfl) ?_
                          exact W.vret hx hb hr (fun t ht hW => ⟨⟨(L_4, f_5), rfl, ⟨hO_5, hA_5.mono (by decide +kernel), (Or.inr ⟨(by show ¬ ((ti f_5 q0 42) < ((ti f q0 42) + 1)); rw [show ti f_5 q0 42 = (ti f_4 q0 42) from ((hE_5.ei (hA_4.m m0) rfl).trans rfl)]; first | done | exact iv1_63), (by show ¬ ((ti f q0 28) < (ti f_5 q0 42)); rw [show ti f_5 q0 42 = (ti f_4 q0 42) from ((hE_5.ei (hA_4.m m0) rfl).trans rfl)]; first | done | exact iv0_63), trivial⟩), hQ⟩, by rw [ht]; exact hP, va_K.moved hW.alike hK, by rw [hAe]; exact hD⟩, by rw [hAe]; exact hS.F ht⟩) (by rw [hAe]; exact hS.2.2) d_Md_advance_178
                        · have hQ := hQ.2 c_82
                          refine lv_iconst (v := 3) hx hb d_Md_advance_167 (by decide +kernel) ?_
                          refine lv_goto (tgt := 175) hx hb d_Md_advance_168 (by decide) ?_
                          refine tw_puti (v := 3) (D := (dC, dI)) (C := R_Md) (T := F_Md) (N := 64) (ci := 7) (kd := 27) (ct := ct) (ty := .int) hx hb htb i_Md t_Md t_Md_ok n_Md hown hK hP hD hS hO_4 (hA_4.m m0) rfl rfl 43 (by decide) (htb (.fieldLink R_Md 224 "WaterMenModel" "tk" "I") tw_338) (fun _ h9 => h9) rfl (by decide +kernel) rfl rfl rfl ⟨by decide +kernel, by decide +kernel⟩ d_Md_advance_175 (fun f_5 H locs hP hD hS hO_5 hE_5 w_87 hF_5 => ?_)
                          have hA_5 := hA_4.trans hE_5
                          have hQ := hQ f_5 hF_5
                          have hQ := hQ hO_5
                          refine W.widen (k := 0) (n := 0) (Nat.le_of_ble_eq_true rfl) (Nat.le_of_ble_eq_true rfl) ?_
                          exact W.vret hx hb hr (fun t ht hW => ⟨⟨(L_4, f_5), rfl, ⟨hO_5, hA_5.mono (by decide +kernel), (Or.inr ⟨(by show ¬ ((ti f_5 q0 42) < ((ti f q0 42) + 1)); rw [show ti f_5 q0 42 = (ti f_4 q0 42) from ((hE_5.ei (hA_4.m m0) rfl).trans rfl)]; first | done | exact iv1_63), (by show ¬ ((ti f q0 28) < (ti f_5 q0 42)); rw [show ti f_5 q0 42 = (ti f_4 q0 42) from ((hE_5.ei (hA_4.m m0) rfl).trans rfl)]; first | done | exact iv0_63), trivial⟩), hQ⟩, by rw [ht]; exact hP, va_K.moved hW.alike hK, by rw [hAe]; exact hD⟩, by rw [hAe]; exact hS.F ht⟩) (by rw [hAe]; exact hS.2.2) d_Md_advance_178
                      · have hQ := hQ.2 c_81
                        refine hb_ti 1 (by unfold f_Md_isLetter; rw [if_neg c_74, if_neg c_81]; first | done | rfl) ?_
                        refine lv_if_eq (tgt := 159) hx hb d_Md_advance_108 (by decide) (fun h => absurd h (by decide +kernel)) (fun _ => ?_)
                        refine lv_iload hx hb d_Md_advance_111 (lv_at hl 2 rfl) ?_
                        refine lv_bipush (v := 8) hx hb d_Md_advance_113 (by decide +kernel) ?_
                        refine lv_icmp_ge (tgt := 141) hx hb d_Md_advance_115 (by decide) (fun c_88 => ?_) (fun c_88 => ?_)
                        · have hQ := hQ.1 c_88
                          refine lv_lload_n hx hb d_Md_advance_141 rfl (lv_at hl 1 rfl) ?_
                          refine lv_lstore_n (lv' := [(2, .long v2_63), (0, .ref q0), (4, .int v4_63)]) hx hb d_Md_advance_142 rfl hl (by decide) rfl (fun ls hl => ?_)
                          refine lv_aload_n hx hb d_Md_advance_143 rfl (lv_at hl 1 rfl) ?_
                          refine lv_dup hx hb d_Md_advance_144 rfl ?_
                          refine tw_getI (x := (ti f_4 q0 42)) (D := (dC, dI)) (C := R_Md) (T := F_Md) (N := 64) (ci := 7) (kd := 27) (ct := ct) hx hb htb i_Md hown hK hP (hA_4.m m0) rfl rfl 42 rfl (by decide) (htb (.fieldLink R_Md 218 "WaterMenModel" "at" "I") tw_336) (fun _ h9 => h9) rfl d_Md_advance_145 ?_
                          refine lv_iconst (v := 1) hx hb d_Md_advance_148 (by decide +kernel) ?_
                          refine lv_iadd hx hb d_Md_advance_149 ?_
                          refine tw_puti (v := ((ti f_4 q0 42) + 1)) (D := (dC, dI)) (C := R_Md) (T := F_Md) (N := 64) (ci := 7) (kd := 27) (ct := ct) (ty := .int) hx hb htb i_Md t_Md t_Md_ok n_Md hown hK hP hD hS hO_4 (hA_4.m m0) rfl rfl 42 (by decide) (htb (.fieldLink R_Md 218 "WaterMenModel" "at" "I") tw_336) (fun _ h9 => h9) rfl (by decide +kernel) rfl rfl rfl ⟨(show ¬ (((ti f_4 q0 42) + 1) < 0) from ((fun (a_0 : Int32) (a_1 : Int32) (k_0 : ¬ (a_1 < 0)) (k_1 : ¬ (a_0 ≤ a_1)) => (show ¬ ((a_1 + 1) < 0) from by have z0 : (0 : Int32).toInt = 0 := (by decide +kernel); have z1 : (1 : Int32).toInt = 1 := (by decide +kernel); have r0 := fb_rng (a_0); have r1 := fb_rng (a_1); have e0 := k_0; rw [Int32.lt_iff_toInt_lt, z0] at e0; have e1 := k_1; rw [Int32.le_iff_toInt_le] at e1; obtain ⟨n_0, hn_0, s0⟩ := nd_add (x := a_1) (y := (1 : Int32)) (by (try rw [z1]); omega) (by (try rw [z1]); omega); rw [z1] at s0; rw [hn_0, Int32.lt_iff_toInt_lt, z0]; omega)) (ti f q0 28) (ti f_4 q0 42) bf_64.1 c_65)), (show ¬ (400 < ((ti f_4 q0 42) + 1)) from ((fun (a_0 : Int32) (a_1 : Int32) (k_0 : ¬ (a_0 ≤ a_1)) (k_1 : ¬ (400 < a_0)) => (show ¬ (400 < (a_1 + 1)) from by have z0 : (1 : Int32).toInt = 1 := (by decide +kernel); have z1 : (400 : Int32).toInt = 400 := (by decide +kernel); have r0 := fb_rng (a_0); have r1 := fb_rng (a_1); have e0 := k_0; rw [Int32.le_iff_toInt_le] at e0; have e1 := k_1; rw [Int32.lt_iff_toInt_lt, z1] at e1; obtain ⟨n_0, hn_0, s0⟩ := nd_add (x := a_1) (y := (1 : Int32)) (by (try rw [z0]); omega) (by (try rw [z0]); omega); rw [z0] at s0; rw [hn_0, Int32.lt_iff_toInt_lt, z1]; omega)) (ti f q0 28) (ti f_4 q0 42) c_65 bp_28.2))⟩ d_Md_advance_150 (fun f_5 H locs hP hD hS hO_5 hE_5 w_89 hF_5 => ?_)
                          have hA_5 := hA_4.trans hE_5
                          have hQ := hQ f_5 hF_5
                          have hQ := hQ hO_5
                          refine lv_iinc (v := (v4_63 + 1)) (lv' := [(4, .int (v4_63 + 1)), (2, .long v2_63), (0, .ref q0)]) hx hb d_Md_advance_153 hl (k := 2) rfl rfl (by decide) rfl (fun ls hl => ?_)
                          refine lv_goto (tgt := 85) hx hb d_Md_advance_156 (by decide) ?_
                          exact ih_63 (n_63 - 1) (ms_1 ((fun (a_0 : Int32) (a_1 : Int32) (k_0 : ¬ (a_0 ≤ a_1)) => (show 1 ≤ a_0.toInt - a_1.toInt ∧ a_0.toInt - (a_1 + (1 : Int32)).toInt + 1 ≤ a_0.toInt - a_1.toInt from by have z0 : (1 : Int32).toInt = 1 := (by decide +kernel); have r0 := fb_rng (a_0); have r1 := fb_rng (a_1); have e0 := k_0; rw [Int32.le_iff_toInt_le] at e0; obtain ⟨n_0, hn_0, s0⟩ := nd_add (x := a_1) (y := (1 : Int32)) (by (try rw [z0]); omega) (by (try rw [z0]); omega); rw [z0] at s0; rw [hn_0]; omega)) (ti f q0 28) (ti f_4 q0 42) c_65) hm_63) (v4_63 + 1) v2_63 _ _ _ _ _ hP hD hS hO_5 ((hE_4.trans hE_5).mono (by decide +kernel)) (by rw [show ti f_5 q0 42 = ((ti f_4 q0 42) + 1) from w_89]; first | done | exact (show ¬ ((ti f q0 28) < ((ti f_4 q0 42) + 1)) from ((fun (a_0 : Int32) (a_1 : Int32) (k_0 : ¬ (a_0 ≤ a_1)) => (show ¬ (a_0 < (a_1 + 1)) from by have z0 : (1 : Int32).toInt = 1 := (by decide +kernel); have r0 := fb_rng (a_0); have r1 := fb_rng (a_1); have e0 := k_0; rw [Int32.le_iff_toInt_le] at e0; obtain ⟨n_0, hn_0, s0⟩ := nd_add (x := a_1) (y := (1 : Int32)) (by (try rw [z0]); omega) (by (try rw [z0]); omega); rw [z0] at s0; rw [hn_0, Int32.lt_iff_toInt_lt]; omega)) (ti f q0 28) (ti f_4 q0 42) c_65))) (by rw [show ti f_5 q0 42 = ((ti f_4 q0 42) + 1) from w_89]; first | done | exact (show ¬ (((ti f_4 q0 42) + 1) < ((ti f q0 42) + 1)) from ((fun (a_0 : Int32) (a_1 : Int32) (a_2 : Int32) (a_3 : Int32) (k_0 : ¬ (a_2 < a_1)) (k_1 : ¬ (a_0 ≤ a_2)) (k_2 : ¬ (a_3 < (a_1 + 1))) (k_3 : ¬ (a_0 ≤ a_3)) => (show ¬ ((a_3 + 1) < (a_1 + 1)) from by have z0 : (1 : Int32).toInt = 1 := (by decide +kernel); have r0 := fb_rng (a_0); have r1 := fb_rng (a_1); have r2 := fb_rng (a_2); have r3 := fb_rng (a_3); have e0 := k_0; rw [Int32.lt_iff_toInt_lt] at e0; have e1 := k_1; rw [Int32.le_iff_toInt_le] at e1; obtain ⟨n_0, hn_0, s0⟩ := nd_add (x := a_1) (y := (1 : Int32)) (by (try rw [z0]); omega) (by (try rw [z0]); omega); rw [z0] at s0; have e2 := k_2; rw [hn_0, Int32.lt_iff_toInt_lt] at e2; have e3 := k_3; rw [Int32.le_iff_toInt_le] at e3; obtain ⟨n_1, hn_1, s1⟩ := nd_add (x := a_3) (y := (1 : Int32)) (by (try rw [z0]); omega) (by (try rw [z0]); omega); rw [z0] at s1; rw [hn_1, hn_0, Int32.lt_iff_toInt_lt]; omega)) (ti f q0 28) (ti f q0 42) (ti f_1 q0 42) (ti f_4 q0 42) iv1_1 c_3 iv1_63 c_65))) (by rw [show ti f_5 q0 42 = ((ti f_4 q0 42) + 1) from w_89]; exact ms_2 ((fun (a_0 : Int32) (a_1 : Int32) (k_0 : ¬ (a_0 ≤ a_1)) => (show 1 ≤ a_0.toInt - a_1.toInt ∧ a_0.toInt - (a_1 + (1 : Int32)).toInt + 1 ≤ a_0.toInt - a_1.toInt from by have z0 : (1 : Int32).toInt = 1 := (by decide +kernel); have r0 := fb_rng (a_0); have r1 := fb_rng (a_1); have e0 := k_0; rw [Int32.le_iff_toInt_le] at e0; obtain ⟨n_0, hn_0, s0⟩ := nd_add (x := a_1) (y := (1 : Int32)) (by (try rw [z0]); omega) (by (try rw [z0]); omega); rw [z0] at s0; rw [hn_0]; omega)) (ti f q0 28) (ti f_4 q0 42) c_65) hm_63) (by rw [← hrec_63, wpR_Md_advance_w_85_63_pos (ms_3 ((fun (a_0 : Int32) (a_1 : Int32) (k_0 : ¬ (a_0 ≤ a_1)) => (show 1 ≤ a_0.toInt - a_1.toInt ∧ a_0.toInt - (a_1 + (1 : Int32)).toInt + 1 ≤ a_0.toInt - a_1.toInt from by have z0 : (1 : Int32).toInt = 1 := (by decide +kernel); have r0 := fb_rng (a_0); have r1 := fb_rng (a_1); have e0 := k_0; rw [Int32.le_iff_toInt_le] at e0; obtain ⟨n_0, hn_0, s0⟩ := nd_add (x := a_1) (y := (1 : Int32)) (by (try rw [z0]); omega) (by (try rw [z0]); omega); rw [z0] at s0; rw [hn_0]; omega)) (ti f q0 28) (ti f_4 q0 42) c_65) hm_63)] at hQ; exact hQ) (lv_sub hl [2, 1, 0] rfl)
                        · have hQ := hQ.2 c_88
                          refine lv_lload_n hx hb d_Md_advance_118 rfl (lv_at hl 1 rfl) ?_
                          refine lv_ldc2 (v := 27) hx hb hown (htb (.constantLong R_Md 230 27) tw_346) d_Md_advance_119 ?_
                          refine lv_lmul hx hb d_Md_advance_122 ?_
                          refine hb_eql (fun y_90 hy_90 => ?_)
                          have hQ := hQ y_90 hy_90
                          refine lv_aload_n hx hb d_Md_advance_123 rfl (lv_at hl 0 rfl) ?_
                          refine tw_getR (D := (dC, dI)) (C := R_Md) (T := F_Md) (N := 64) (ci := 7) (kd := 27) (ct := ct) hx hb htb i_Md hown hK hP (hA_4.m m0) rfl rfl 27 ((hE_4.er (hA_3.m m0) rfl).trans ((hE_3.er (hA_2.m m0) rfl).trans ((hE_2.er (hA_1.m m0) rfl).trans e_6))) (by decide) (htb (.fieldLink R_Md 109 "WaterMenModel" "tape" "[B") tw_188) (fun _ h9 => h9) rfl d_Md_advance_124 ?_
                          refine hb_tv (.ref q_6) rfl ?_
                          refine lv_aload_n hx hb d_Md_advance_127 rfl (lv_at hl 0 rfl) ?_
                          refine tw_getI (x := (ti f_4 q0 42)) (D := (dC, dI)) (C := R_Md) (T := F_Md) (N := 64) (ci := 7) (kd := 27) (ct := ct) hx hb htb i_Md hown hK hP (hA_4.m m0) rfl rfl 42 rfl (by decide) (htb (.fieldLink R_Md 218 "WaterMenModel" "at" "I") tw_336) (fun _ h9 => h9) rfl d_Md_advance_128 ?_
                          refine tw_aldxB (ct := ct) (x := x_72) hx hb hK hP (hE_4.m (hE_3.m (hE_2.m m_6))) rfl ((fun (a_0 : Int32) (a_1 : Int32) (k_0 : ¬ (a_1 < 0)) (k_1 : ¬ (a_0 ≤ a_1)) (k_2 : ¬ (400 < a_0)) => (show vp_in (a_1) 400 from by have z0 : (0 : Int32).toInt = 0 := (by decide +kernel); have z1 : (400 : Int32).toInt = 400 := (by decide +kernel); have r0 := fb_rng (a_0); have r1 := fb_rng (a_1); have e0 := k_0; rw [Int32.lt_iff_toInt_lt, z0] at e0; have e1 := k_1; rw [Int32.le_iff_toInt_le] at e1; have e2 := k_2; rw [Int32.lt_iff_toInt_lt, z1] at e2; rw [vp_in_iff]; omega)) (ti f q0 28) (ti f_4 q0 42) bf_64.1 c_65 bp_28.2) e_72 d_Md_advance_131 ?_
                          refine lv_i2l hx hb d_Md_advance_132 rfl ?_
                          refine lv_ladd hx hb d_Md_advance_133 ?_
                          refine hb_eql (fun y_92 hy_92 => ?_)
                          have hQ := hQ y_92 hy_92
                          refine lv_ldc2 (v := 96) hx hb hown (htb (.constantLong R_Md 232 96) tw_347) d_Md_advance_134 ?_
                          refine lv_lsub hx hb d_Md_advance_137 ?_
                          refine hb_eql (fun y_93 hy_93 => ?_)
                          have hQ := hQ y_93 hy_93
                          refine lv_goto (tgt := 142) hx hb d_Md_advance_138 (by decide) ?_
                          refine lv_lstore_n (lv' := [(2, .long y_93), (0, .ref q0), (4, .int v4_63)]) hx hb d_Md_advance_142 rfl hl (by decide) rfl (fun ls hl => ?_)
                          refine lv_aload_n hx hb d_Md_advance_143 rfl (lv_at hl 1 rfl) ?_
                          refine lv_dup hx hb d_Md_advance_144 rfl ?_
                          refine tw_getI (x := (ti f_4 q0 42)) (D := (dC, dI)) (C := R_Md) (T := F_Md) (N := 64) (ci := 7) (kd := 27) (ct := ct) hx hb htb i_Md hown hK hP (hA_4.m m0) rfl rfl 42 rfl (by decide) (htb (.fieldLink R_Md 218 "WaterMenModel" "at" "I") tw_336) (fun _ h9 => h9) rfl d_Md_advance_145 ?_
                          refine lv_iconst (v := 1) hx hb d_Md_advance_148 (by decide +kernel) ?_
                          refine lv_iadd hx hb d_Md_advance_149 ?_
                          refine tw_puti (v := ((ti f_4 q0 42) + 1)) (D := (dC, dI)) (C := R_Md) (T := F_Md) (N := 64) (ci := 7) (kd := 27) (ct := ct) (ty := .int) hx hb htb i_Md t_Md t_Md_ok n_Md hown hK hP hD hS hO_4 (hA_4.m m0) rfl rfl 42 (by decide) (htb (.fieldLink R_Md 218 "WaterMenModel" "at" "I") tw_336) (fun _ h9 => h9) rfl (by decide +kernel) rfl rfl rfl ⟨(show ¬ (((ti f_4 q0 42) + 1) < 0) from ((fun (a_0 : Int32) (a_1 : Int32) (k_0 : ¬ (a_1 < 0)) (k_1 : ¬ (a_0 ≤ a_1)) => (show ¬ ((a_1 + 1) < 0) from by have z0 : (0 : Int32).toInt = 0 := (by decide +kernel); have z1 : (1 : Int32).toInt = 1 := (by decide +kernel); have r0 := fb_rng (a_0); have r1 := fb_rng (a_1); have e0 := k_0; rw [Int32.lt_iff_toInt_lt, z0] at e0; have e1 := k_1; rw [Int32.le_iff_toInt_le] at e1; obtain ⟨n_0, hn_0, s0⟩ := nd_add (x := a_1) (y := (1 : Int32)) (by (try rw [z1]); omega) (by (try rw [z1]); omega); rw [z1] at s0; rw [hn_0, Int32.lt_iff_toInt_lt, z0]; omega)) (ti f q0 28) (ti f_4 q0 42) bf_64.1 c_65)), (show ¬ (400 < ((ti f_4 q0 42) + 1)) from ((fun (a_0 : Int32) (a_1 : Int32) (k_0 : ¬ (a_0 ≤ a_1)) (k_1 : ¬ (400 < a_0)) => (show ¬ (400 < (a_1 + 1)) from by have z0 : (1 : Int32).toInt = 1 := (by decide +kernel); have z1 : (400 : Int32).toInt = 400 := (by decide +kernel); have r0 := fb_rng (a_0); have r1 := fb_rng (a_1); have e0 := k_0; rw [Int32.le_iff_toInt_le] at e0; have e1 := k_1; rw [Int32.lt_iff_toInt_lt, z1] at e1; obtain ⟨n_0, hn_0, s0⟩ := nd_add (x := a_1) (y := (1 : Int32)) (by (try rw [z0]); omega) (by (try rw [z0]); omega); rw [z0] at s0; rw [hn_0, Int32.lt_iff_toInt_lt, z1]; omega)) (ti f q0 28) (ti f_4 q0 42) c_65 bp_28.2))⟩ d_Md_advance_150 (fun f_5 H locs hP hD hS hO_5 hE_5 w_94 hF_5 => ?_)
                          have hA_5 := hA_4.trans hE_5
                          have hQ := hQ f_5 hF_5
                          have hQ := hQ hO_5
                          refine lv_iinc (v := (v4_63 + 1)) (lv' := [(4, .int (v4_63 + 1)), (2, .long y_93), (0, .ref q0)]) hx hb d_Md_advance_153 hl (k := 2) rfl rfl (by decide) rfl (fun ls hl => ?_)
                          refine lv_goto (tgt := 85) hx hb d_Md_advance_156 (by decide) ?_
                          exact ih_63 (n_63 - 1) (ms_1 ((fun (a_0 : Int32) (a_1 : Int32) (k_0 : ¬ (a_0 ≤ a_1)) => (show 1 ≤ a_0.toInt - a_1.toInt ∧ a_0.toInt - (a_1 + (1 : Int32)).toInt + 1 ≤ a_0.toInt - a_1.toInt from by have z0 : (1 : Int32).toInt = 1 := (by decide +kernel); have r0 := fb_rng (a_0); have r1 := fb_rng (a_1); have e0 := k_0; rw [Int32.le_iff_toInt_le] at e0; obtain ⟨n_0, hn_0, s0⟩ := nd_add (x := a_1) (y := (1 : Int32)) (by (try rw [z0]); omega) (by (try rw [z0]); omega); rw [z0] at s0; rw [hn_0]; omega)) (ti f q0 28) (ti f_4 q0 42) c_65) hm_63) (v4_63 + 1) y_93 _ _ _ _ _ hP hD hS hO_5 ((hE_4.trans hE_5).mono (by decide +kernel)) (by rw [show ti f_5 q0 42 = ((ti f_4 q0 42) + 1) from w_94]; first | done | exact (show ¬ ((ti f q0 28) < ((ti f_4 q0 42) + 1)) from ((fun (a_0 : Int32) (a_1 : Int32) (k_0 : ¬ (a_0 ≤ a_1)) => (show ¬ (a_0 < (a_1 + 1)) from by have z0 : (1 : Int32).toInt = 1 := (by decide +kernel); have r0 := fb_rng (a_0); have r1 := fb_rng (a_1); have e0 := k_0; rw [Int32.le_iff_toInt_le] at e0; obtain ⟨n_0, hn_0, s0⟩ := nd_add (x := a_1) (y := (1 : Int32)) (by (try rw [z0]); omega) (by (try rw [z0]); omega); rw [z0] at s0; rw [hn_0, Int32.lt_iff_toInt_lt]; omega)) (ti f q0 28) (ti f_4 q0 42) c_65))) (by rw [show ti f_5 q0 42 = ((ti f_4 q0 42) + 1) from w_94]; first | done | exact (show ¬ (((ti f_4 q0 42) + 1) < ((ti f q0 42) + 1)) from ((fun (a_0 : Int32) (a_1 : Int32) (a_2 : Int32) (a_3 : Int32) (k_0 : ¬ (a_2 < a_1)) (k_1 : ¬ (a_0 ≤ a_2)) (k_2 : ¬ (a_3 < (a_1 + 1))) (k_3 : ¬ (a_0 ≤ a_3)) => (show ¬ ((a_3 + 1) < (a_1 + 1)) from by have z0 : (1 : Int32).toInt = 1 := (by decide +kernel); have r0 := fb_rng (a_0); have r1 := fb_rng (a_1); have r2 := fb_rng (a_2); have r3 := fb_rng (a_3); have e0 := k_0; rw [Int32.lt_iff_toInt_lt] at e0; have e1 := k_1; rw [Int32.le_iff_toInt_le] at e1; obtain ⟨n_0, hn_0, s0⟩ := nd_add (x := a_1) (y := (1 : Int32)) (by (try rw [z0]); omega) (by (try rw [z0]); omega); rw [z0] at s0; have e2 := k_2; rw [hn_0, Int32.lt_iff_toInt_lt] at e2; have e3 := k_3; rw [Int32.le_iff_toInt_le] at e3; obtain ⟨n_1, hn_1, s1⟩ := nd_add (x := a_3) (y := (1 : Int32)) (by (try rw [z0]); omega) (by (try rw [z0]); omega); rw [z0] at s1; rw [hn_1, hn_0, Int32.lt_iff_toInt_lt]; omega)) (ti f q0 28) (ti f q0 42) (ti f_1 q0 42) (ti f_4 q0 42) iv1_1 c_3 iv1_63 c_65))) (by rw [show ti f_5 q0 42 = ((ti f_4 q0 42) + 1) from w_94]; exact ms_2 ((fun (a_0 : Int32) (a_1 : Int32) (k_0 : ¬ (a_0 ≤ a_1)) => (show 1 ≤ a_0.toInt - a_1.toInt ∧ a_0.toInt - (a_1 + (1 : Int32)).toInt + 1 ≤ a_0.toInt - a_1.toInt from by have z0 : (1 : Int32).toInt = 1 := (by decide +kernel); have r0 := fb_rng (a_0); have r1 := fb_rng (a_1); have e0 := k_0; rw [Int32.le_iff_toInt_le] at e0; obtain ⟨n_0, hn_0, s0⟩ := nd_add (x := a_1) (y := (1 : Int32)) (by (try rw [z0]); omega) (by (try rw [z0]); omega); rw [z0] at s0; rw [hn_0]; omega)) (ti f q0 28) (ti f_4 q0 42) c_65) hm_63) (by rw [← hrec_63, wpR_Md_advance_w_85_63_pos (ms_3 ((fun (a_0 : Int32) (a_1 : Int32) (k_0 : ¬ (a_0 ≤ a_1)) => (show 1 ≤ a_0.toInt - a_1.toInt ∧ a_0.toInt - (a_1 + (1 : Int32)).toInt + 1 ≤ a_0.toInt - a_1.toInt from by have z0 : (1 : Int32).toInt = 1 := (by decide +kernel); have r0 := fb_rng (a_0); have r1 := fb_rng (a_1); have e0 := k_0; rw [Int32.le_iff_toInt_le] at e0; obtain ⟨n_0, hn_0, s0⟩ := nd_add (x := a_1) (y := (1 : Int32)) (by (try rw [z0]); omega) (by (try rw [z0]); omega); rw [z0] at s0; rw [hn_0]; omega)) (ti f q0 28) (ti f_4 q0 42) c_65) hm_63)] at hQ; exact hQ) (lv_sub hl [2, 1, 0] rfl)
              exact cut_63 (((ti f q0 28) : Int32).toInt - (((ti f_1 q0 42) + 1) : Int32).toInt).toNat (1 : Int32) y_61 _ _ _ _ _ hP hD hS hO_3 Ext.rf (by rw [show ti f_3 q0 42 = ((ti f_1 q0 42) + 1) from w_62]; first | done | exact (show ¬ ((ti f q0 28) < ((ti f_1 q0 42) + 1)) from ((fun (a_0 : Int32) (a_1 : Int32) (k_0 : ¬ (a_0 ≤ a_1)) => (show ¬ (a_0 < (a_1 + 1)) from by have z0 : (1 : Int32).toInt = 1 := (by decide +kernel); have r0 := fb_rng (a_0); have r1 := fb_rng (a_1); have e0 := k_0; rw [Int32.le_iff_toInt_le] at e0; obtain ⟨n_0, hn_0, s0⟩ := nd_add (x := a_1) (y := (1 : Int32)) (by (try rw [z0]); omega) (by (try rw [z0]); omega); rw [z0] at s0; rw [hn_0, Int32.lt_iff_toInt_lt]; omega)) (ti f q0 28) (ti f_1 q0 42) c_3))) (by rw [show ti f_3 q0 42 = ((ti f_1 q0 42) + 1) from w_62]; first | done | exact (show ¬ (((ti f_1 q0 42) + 1) < ((ti f q0 42) + 1)) from ((fun (a_0 : Int32) (a_1 : Int32) (a_2 : Int32) (k_0 : ¬ (a_2 < a_1)) (k_1 : ¬ (a_0 ≤ a_2)) => (show ¬ ((a_2 + 1) < (a_1 + 1)) from by have z0 : (1 : Int32).toInt = 1 := (by decide +kernel); have r0 := fb_rng (a_0); have r1 := fb_rng (a_1); have r2 := fb_rng (a_2); have e0 := k_0; rw [Int32.lt_iff_toInt_lt] at e0; have e1 := k_1; rw [Int32.le_iff_toInt_le] at e1; obtain ⟨n_0, hn_0, s0⟩ := nd_add (x := a_2) (y := (1 : Int32)) (by (try rw [z0]); omega) (by (try rw [z0]); omega); rw [z0] at s0; obtain ⟨n_1, hn_1, s1⟩ := nd_add (x := a_1) (y := (1 : Int32)) (by (try rw [z0]); omega) (by (try rw [z0]); omega); rw [z0] at s1; rw [hn_0, hn_1, Int32.lt_iff_toInt_lt]; omega)) (ti f q0 28) (ti f q0 42) (ti f_1 q0 42) iv1_1 c_3))) (by rw [show ti f_3 q0 42 = ((ti f_1 q0 42) + 1) from w_62]; exact ms_e _ _) hQ (lv_sub hl [3, 1, 0] rfl)
        · have hQ := hQ.1 c_8
          refine lv_aload_n hx hb d_Md_advance_25 rfl (lv_at hl 0 rfl) ?_
          refine lv_dup hx hb d_Md_advance_26 rfl ?_
          refine tw_getI (x := (ti f_1 q0 42)) (D := (dC, dI)) (C := R_Md) (T := F_Md) (N := 64) (ci := 7) (kd := 27) (ct := ct) hx hb htb i_Md hown hK hP (hA_1.m m0) rfl rfl 42 rfl (by decide) (htb (.fieldLink R_Md 218 "WaterMenModel" "at" "I") tw_336) (fun _ h9 => h9) rfl d_Md_advance_27 ?_
          refine lv_iconst (v := 1) hx hb d_Md_advance_30 (by decide +kernel) ?_
          refine lv_iadd hx hb d_Md_advance_31 ?_
          refine tw_puti (v := ((ti f_1 q0 42) + 1)) (D := (dC, dI)) (C := R_Md) (T := F_Md) (N := 64) (ci := 7) (kd := 27) (ct := ct) (ty := .int) hx hb htb i_Md t_Md t_Md_ok n_Md hown hK hP hD hS hO_1 (hA_1.m m0) rfl rfl 42 (by decide) (htb (.fieldLink R_Md 218 "WaterMenModel" "at" "I") tw_336) (fun _ h9 => h9) rfl (by decide +kernel) rfl rfl rfl ⟨(show ¬ (((ti f_1 q0 42) + 1) < 0) from ((fun (a_0 : Int32) (a_1 : Int32) (k_0 : ¬ (a_1 < 0)) (k_1 : ¬ (a_0 ≤ a_1)) => (show ¬ ((a_1 + 1) < 0) from by have z0 : (0 : Int32).toInt = 0 := (by decide +kernel); have z1 : (1 : Int32).toInt = 1 := (by decide +kernel); have r0 := fb_rng (a_0); have r1 := fb_rng (a_1); have e0 := k_0; rw [Int32.lt_iff_toInt_lt, z0] at e0; have e1 := k_1; rw [Int32.le_iff_toInt_le] at e1; obtain ⟨n_0, hn_0, s0⟩ := nd_add (x := a_1) (y := (1 : Int32)) (by (try rw [z1]); omega) (by (try rw [z1]); omega); rw [z1] at s0; rw [hn_0, Int32.lt_iff_toInt_lt, z0]; omega)) (ti f q0 28) (ti f_1 q0 42) bf_2.1 c_3)), (show ¬ (400 < ((ti f_1 q0 42) + 1)) from ((fun (a_0 : Int32) (a_1 : Int32) (k_0 : ¬ (a_0 ≤ a_1)) (k_1 : ¬ (400 < a_0)) => (show ¬ (400 < (a_1 + 1)) from by have z0 : (1 : Int32).toInt = 1 := (by decide +kernel); have z1 : (400 : Int32).toInt = 400 := (by decide +kernel); have r0 := fb_rng (a_0); have r1 := fb_rng (a_1); have e0 := k_0; rw [Int32.le_iff_toInt_le] at e0; have e1 := k_1; rw [Int32.lt_iff_toInt_lt, z1] at e1; obtain ⟨n_0, hn_0, s0⟩ := nd_add (x := a_1) (y := (1 : Int32)) (by (try rw [z0]); omega) (by (try rw [z0]); omega); rw [z0] at s0; rw [hn_0, Int32.lt_iff_toInt_lt, z1]; omega)) (ti f q0 28) (ti f_1 q0 42) c_3 bp_28.2))⟩ d_Md_advance_32 (fun f_2 H locs hP hD hS hO_2 hE_2 w_95 hF_2 => ?_)
          have hA_2 := hA_1.trans hE_2
          have hQ := hQ f_2 hF_2
          have hQ := hQ hO_2
          refine lv_goto (tgt := 0) hx hb d_Md_advance_35 (by decide) ?_
          exact ih_1 (n_1 - 1) (ms_1 ((fun (a_0 : Int32) (a_1 : Int32) (k_0 : ¬ (a_0 ≤ a_1)) => (show 1 ≤ a_0.toInt - a_1.toInt ∧ a_0.toInt - (a_1 + (1 : Int32)).toInt + 1 ≤ a_0.toInt - a_1.toInt from by have z0 : (1 : Int32).toInt = 1 := (by decide +kernel); have r0 := fb_rng (a_0); have r1 := fb_rng (a_1); have e0 := k_0; rw [Int32.le_iff_toInt_le] at e0; obtain ⟨n_0, hn_0, s0⟩ := nd_add (x := a_1) (y := (1 : Int32)) (by (try rw [z0]); omega) (by (try rw [z0]); omega); rw [z0] at s0; rw [hn_0]; omega)) (ti f q0 28) (ti f_1 q0 42) c_3) hm_1) _ _ _ _ _ hP hD hS hO_2 ((hE_1.trans hE_2).mono (by decide +kernel)) (by rw [show ti f_2 q0 42 = ((ti f_1 q0 42) + 1) from w_95]; first | done | exact (show ¬ ((ti f q0 28) < ((ti f_1 q0 42) + 1)) from ((fun (a_0 : Int32) (a_1 : Int32) (k_0 : ¬ (a_0 ≤ a_1)) => (show ¬ (a_0 < (a_1 + 1)) from by have z0 : (1 : Int32).toInt = 1 := (by decide +kernel); have r0 := fb_rng (a_0); have r1 := fb_rng (a_1); have e0 := k_0; rw [Int32.le_iff_toInt_le] at e0; obtain ⟨n_0, hn_0, s0⟩ := nd_add (x := a_1) (y := (1 : Int32)) (by (try rw [z0]); omega) (by (try rw [z0]); omega); rw [z0] at s0; rw [hn_0, Int32.lt_iff_toInt_lt]; omega)) (ti f q0 28) (ti f_1 q0 42) c_3))) (by rw [show ti f_2 q0 42 = ((ti f_1 q0 42) + 1) from w_95]; first | done | exact (show ¬ (((ti f_1 q0 42) + 1) < (ti f q0 42)) from ((fun (a_0 : Int32) (a_1 : Int32) (a_2 : Int32) (k_0 : ¬ (a_2 < a_1)) (k_1 : ¬ (a_0 ≤ a_2)) => (show ¬ ((a_2 + 1) < a_1) from by have z0 : (1 : Int32).toInt = 1 := (by decide +kernel); have r0 := fb_rng (a_0); have r1 := fb_rng (a_1); have r2 := fb_rng (a_2); have e0 := k_0; rw [Int32.lt_iff_toInt_lt] at e0; have e1 := k_1; rw [Int32.le_iff_toInt_le] at e1; obtain ⟨n_0, hn_0, s0⟩ := nd_add (x := a_2) (y := (1 : Int32)) (by (try rw [z0]); omega) (by (try rw [z0]); omega); rw [z0] at s0; rw [hn_0, Int32.lt_iff_toInt_lt]; omega)) (ti f q0 28) (ti f q0 42) (ti f_1 q0 42) iv1_1 c_3))) (by rw [show ti f_2 q0 42 = ((ti f_1 q0 42) + 1) from w_95]; exact ms_2 ((fun (a_0 : Int32) (a_1 : Int32) (k_0 : ¬ (a_0 ≤ a_1)) => (show 1 ≤ a_0.toInt - a_1.toInt ∧ a_0.toInt - (a_1 + (1 : Int32)).toInt + 1 ≤ a_0.toInt - a_1.toInt from by have z0 : (1 : Int32).toInt = 1 := (by decide +kernel); have r0 := fb_rng (a_0); have r1 := fb_rng (a_1); have e0 := k_0; rw [Int32.le_iff_toInt_le] at e0; obtain ⟨n_0, hn_0, s0⟩ := nd_add (x := a_1) (y := (1 : Int32)) (by (try rw [z0]); omega) (by (try rw [z0]); omega); rw [z0] at s0; rw [hn_0]; omega)) (ti f q0 28) (ti f_1 q0 42) c_3) hm_1) (by rw [← hrec_1, wpR_Md_advance_w_0_1_pos (ms_3 ((fun (a_0 : Int32) (a_1 : Int32) (k_0 : ¬ (a_0 ≤ a_1)) => (show 1 ≤ a_0.toInt - a_1.toInt ∧ a_0.toInt - (a_1 + (1 : Int32)).toInt + 1 ≤ a_0.toInt - a_1.toInt from by have z0 : (1 : Int32).toInt = 1 := (by decide +kernel); have r0 := fb_rng (a_0); have r1 := fb_rng (a_1); have e0 := k_0; rw [Int32.le_iff_toInt_le] at e0; obtain ⟨n_0, hn_0, s0⟩ := nd_add (x := a_1) (y := (1 : Int32)) (by (try rw [z0]); omega) (by (try rw [z0]); omega); rw [z0] at s0; rw [hn_0]; omega)) (ti f q0 28) (ti f_1 q0 42) c_3) hm_1)] at hQ; exact hQ) (lv_sub hl [0] rfl)
  exact cut_1 (((ti f q0 28) : Int32).toInt - ((ti f q0 42) : Int32).toInt).toNat _ _ _ _ _ hP hD hS hO_0 Ext.rf as_0 (show ¬ ((ti f q0 42) < (ti f q0 42)) from ((fun (a_0 : Int32)  => (show ¬ (a_0 < a_0) from by have r0 := fb_rng (a_0); rw [Int32.lt_iff_toInt_lt]; omega)) (ti f q0 42) )) (by exact ms_e _ _) hQ (lv_sub hl [0] rfl)
