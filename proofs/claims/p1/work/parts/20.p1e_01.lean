def u_c_X12_spans : List Cond := .code yX12_spans cX12_spans 4 none :: ([.fieldLink RX12 154 "ShellHeapModel" "notes" "I", .fieldLink RX12 167 "ShellHeapModel" "quarrelNow" "I", .fieldLink RX12 41 "ShellHeapModel" "first" "[I", .fieldLink RX12 44 "ShellHeapModel" "last" "[I", .fieldLink RX12 35 "ShellHeapModel" "later" "[Z"] ++ wsX120)
set_option maxHeartbeats 4000000 in
set_option maxRecDepth 100000 in
theorem c_X12_spans (l : Launch) (dC : Nat → ClassId) (dI : Nat → Nat → Nat) (sz : Nat) (h0 : Nat) (h0_0 : Value) (h0_1 : Value) (h0_2 : Value) (h0_3 : Value) (h0_5 : Value) (h0_6 : Value) (h0_7 : Value) (h0_8 : Value) (h0_9 : Value) (h0_10 : Value) (h0_11 : Value) (hl1 : Nat) (h0_13 : Value) (hf1 : Nat) (hlst : Nat) (h0_17 : Value) (h0_18 : Value) (h0_19 : Value) (h0_20 : Value) (h0_21 : Value) (h0_22 : Value) (h0_23 : Value) (h0_24 : Value) (h0_25 : Value) (h0_26 : Value) (h0_27 : Value) (h0_28 : Value) (h0_29 : Value) (h0_30 : Value) (h0_31 : Value) (h0_32 : Value) (h0_33 : Value) (h0_34 : Value) (h0_35 : Value) (h0_36 : Value) (h0_37 : Value) (h0_38 : Value) (h0_39 : Value) (h0_40 : Value) (h0_41 : Value) (h0_42 : Value) (h0_43 : Value) (h0_44 : Value) (h0_45 : Value) (h0_46 : Value) (h0_47 : Value) (h0_48 : Value) (h0_49 : Value) (h0_50 : Value) (h0_51 : Value) (h0_52 : Value) (h0_53 : Value) (h0_54 : Value) (h0_55 : Value) (h0_56 : Value) (h0_57 : Value) (h0_58 : Value) (h0_59 : Value) (h0_60 : Value) (h0_61 : Value) (h0_62 : Value) (h0_63 : Value) (h0_64 : Value) (h0_65 : Value) (h0_66 : Value) (h0_67 : Value) (h0_68 : Value) (h0_69 : Value) (chl1 : ClassId) (chf1 : ClassId) (chlst : ClassId) (fhlst : Nat → Int32) : Met l yX12_spans u_c_X12_spans ({ frames := 0, cells := 0, slots := 0, locals := 0 }) (va_Pc [.ref h0] (z_C (dC, dI) vwCl [(h0, .inr (12, [h0_0, h0_1, h0_2, h0_3, .int 0, h0_5, h0_6, h0_7, h0_8, h0_9, h0_10, h0_11, .ref hl1, h0_13, .ref hf1, .ref hlst, .int 0, h0_17, h0_18, h0_19, h0_20, h0_21, h0_22, h0_23, h0_24, h0_25, h0_26, h0_27, h0_28, h0_29, h0_30, h0_31, h0_32, h0_33, h0_34, h0_35, h0_36, h0_37, h0_38, h0_39, h0_40, h0_41, h0_42, h0_43, h0_44, h0_45, h0_46, h0_47, h0_48, h0_49, h0_50, h0_51, h0_52, h0_53, h0_54, h0_55, h0_56, h0_57, h0_58, h0_59, h0_60, h0_61, h0_62, h0_63, h0_64, h0_65, h0_66, h0_67, h0_68, h0_69])), (hl1, .inl (chl1, 144, .inl (fun _ => 0))), (hf1, .inl (chf1, 12, .inl (fun _ => 0))), (hlst, .inl (chlst, 12, .inl fhlst))] [(chl1, .boolean), (chf1, .int), (chlst, .int)] sz)) (va_Qv (fun (_ : Unit) => True) (fun (_ : Unit) (t : State) => va_P (dC, dI) vwCl [(h0, .inr (12, [h0_0, h0_1, h0_2, h0_3, .int 0, h0_5, h0_6, h0_7, h0_8, h0_9, h0_10, h0_11, .ref hl1, h0_13, .ref hf1, .ref hlst, .int 0, h0_17, h0_18, h0_19, h0_20, h0_21, h0_22, h0_23, h0_24, h0_25, h0_26, h0_27, h0_28, h0_29, h0_30, h0_31, h0_32, h0_33, h0_34, h0_35, h0_36, h0_37, h0_38, h0_39, h0_40, h0_41, h0_42, h0_43, h0_44, h0_45, h0_46, h0_47, h0_48, h0_49, h0_50, h0_51, h0_52, h0_53, h0_54, h0_55, h0_56, h0_57, h0_58, h0_59, h0_60, h0_61, h0_62, h0_63, h0_64, h0_65, h0_66, h0_67, h0_68, h0_69]))] t.heap ∧ va_K (dC, dI) vwCl [] t ∧ va_D (va_A [(h0, .inr (12, [h0_0, h0_1, h0_2, h0_3, .int 0, h0_5, h0_6, h0_7, h0_8, h0_9, h0_10, h0_11, .ref hl1, h0_13, .ref hf1, .ref hlst, .int 0, h0_17, h0_18, h0_19, h0_20, h0_21, h0_22, h0_23, h0_24, h0_25, h0_26, h0_27, h0_28, h0_29, h0_30, h0_31, h0_32, h0_33, h0_34, h0_35, h0_36, h0_37, h0_38, h0_39, h0_40, h0_41, h0_42, h0_43, h0_44, h0_45, h0_46, h0_47, h0_48, h0_49, h0_50, h0_51, h0_52, h0_53, h0_54, h0_55, h0_56, h0_57, h0_58, h0_59, h0_60, h0_61, h0_62, h0_63, h0_64, h0_65, h0_66, h0_67, h0_68, h0_69])), (hl1, .inl (chl1, 144, .inl (fun _ => 0))), (hf1, .inl (chf1, 12, .inl (fun _ => 0))), (hlst, .inl (chlst, 12, .inl fhlst))] sz) [(h0, .inr (12, [h0_0, h0_1, h0_2, h0_3, .int 0, h0_5, h0_6, h0_7, h0_8, h0_9, h0_10, h0_11, .ref hl1, h0_13, .ref hf1, .ref hlst, .int 0, h0_17, h0_18, h0_19, h0_20, h0_21, h0_22, h0_23, h0_24, h0_25, h0_26, h0_27, h0_28, h0_29, h0_30, h0_31, h0_32, h0_33, h0_34, h0_35, h0_36, h0_37, h0_38, h0_39, h0_40, h0_41, h0_42, h0_43, h0_44, h0_45, h0_46, h0_47, h0_48, h0_49, h0_50, h0_51, h0_52, h0_53, h0_54, h0_55, h0_56, h0_57, h0_58, h0_59, h0_60, h0_61, h0_62, h0_63, h0_64, h0_65, h0_66, h0_67, h0_68, h0_69]))]) (va_A [(h0, .inr (12, [h0_0, h0_1, h0_2, h0_3, .int 0, h0_5, h0_6, h0_7, h0_8, h0_9, h0_10, h0_11, .ref hl1, h0_13, .ref hf1, .ref hlst, .int 0, h0_17, h0_18, h0_19, h0_20, h0_21, h0_22, h0_23, h0_24, h0_25, h0_26, h0_27, h0_28, h0_29, h0_30, h0_31, h0_32, h0_33, h0_34, h0_35, h0_36, h0_37, h0_38, h0_39, h0_40, h0_41, h0_42, h0_43, h0_44, h0_45, h0_46, h0_47, h0_48, h0_49, h0_50, h0_51, h0_52, h0_53, h0_54, h0_55, h0_56, h0_57, h0_58, h0_59, h0_60, h0_61, h0_62, h0_63, h0_64, h0_65, h0_66, h0_67, h0_68, h0_69])), (hl1, .inl (chl1, 144, .inl (fun _ => 0))), (hf1, .inl (chf1, 12, .inl (fun _ => 0))), (hlst, .inl (chlst, 12, .inl fhlst))] sz)) 0 0 (va_A [(h0, .inr (12, [h0_0, h0_1, h0_2, h0_3, .int 0, h0_5, h0_6, h0_7, h0_8, h0_9, h0_10, h0_11, .ref hl1, h0_13, .ref hf1, .ref hlst, .int 0, h0_17, h0_18, h0_19, h0_20, h0_21, h0_22, h0_23, h0_24, h0_25, h0_26, h0_27, h0_28, h0_29, h0_30, h0_31, h0_32, h0_33, h0_34, h0_35, h0_36, h0_37, h0_38, h0_39, h0_40, h0_41, h0_42, h0_43, h0_44, h0_45, h0_46, h0_47, h0_48, h0_49, h0_50, h0_51, h0_52, h0_53, h0_54, h0_55, h0_56, h0_57, h0_58, h0_59, h0_60, h0_61, h0_62, h0_63, h0_64, h0_65, h0_66, h0_67, h0_68, h0_69])), (hl1, .inl (chl1, 144, .inl (fun _ => 0))), (hf1, .inl (chf1, 12, .inl (fun _ => 0))), (hlst, .inl (chlst, 12, .inl fhlst))] sz) := by
  refine Met.ofW (cc := cX12_spans) (maxL := 4) (ret := none) (by decide) rfl ?_
  intro p e s m args below meth c s₁ B hml hv
  obtain ⟨rfl, hsz, hP, hK, hD0⟩ := hv
  have hx := B.exec
  have hb := B.bytes
  have hr := B.returns
  have hts := atoms_spec (ws := u_c_X12_spans) B.pre
  have hown : s.vm.findClass RX12 = some m.cls := findClass_of_methodNamed B.named
  have hlocks := B.notSynchronized
  subst hsz
  have hD := hD0.self (sz := s.heap.size)
  generalize hAe : va_A [(h0, .inr (12, [h0_0, h0_1, h0_2, h0_3, .int 0, h0_5, h0_6, h0_7, h0_8, h0_9, h0_10, h0_11, .ref hl1, h0_13, .ref hf1, .ref hlst, .int 0, h0_17, h0_18, h0_19, h0_20, h0_21, h0_22, h0_23, h0_24, h0_25, h0_26, h0_27, h0_28, h0_29, h0_30, h0_31, h0_32, h0_33, h0_34, h0_35, h0_36, h0_37, h0_38, h0_39, h0_40, h0_41, h0_42, h0_43, h0_44, h0_45, h0_46, h0_47, h0_48, h0_49, h0_50, h0_51, h0_52, h0_53, h0_54, h0_55, h0_56, h0_57, h0_58, h0_59, h0_60, h0_61, h0_62, h0_63, h0_64, h0_65, h0_66, h0_67, h0_68, h0_69])), (hl1, .inl (chl1, 144, .inl (fun _ => 0))), (hf1, .inl (chf1, 12, .inl (fun _ => 0))), (hlst, .inl (chlst, 12, .inl fhlst))] s.heap.size = A at hD ⊢
  have hA : ∀ q : Nat, s.heap.size ≤ q → A q := fun q h => by rw [← hAe]; exact Or.inr h
  have hS : va_S A s.heap s.heap [] := va_S.rf
  have hP : va_P (dC, dI) vwCl [(h0, .inr (12, [h0_0, h0_1, h0_2, h0_3, .int 0, h0_5, h0_6, h0_7, h0_8, h0_9, h0_10, h0_11, .ref hl1, h0_13, .ref hf1, .ref hlst, .int 0, h0_17, h0_18, h0_19, h0_20, h0_21, h0_22, h0_23, h0_24, h0_25, h0_26, h0_27, h0_28, h0_29, h0_30, h0_31, h0_32, h0_33, h0_34, h0_35, h0_36, h0_37, h0_38, h0_39, h0_40, h0_41, h0_42, h0_43, h0_44, h0_45, h0_46, h0_47, h0_48, h0_49, h0_50, h0_51, h0_52, h0_53, h0_54, h0_55, h0_56, h0_57, h0_58, h0_59, h0_60, h0_61, h0_62, h0_63, h0_64, h0_65, h0_66, h0_67, h0_68, h0_69])), (hl1, .inl (chl1, 144, .inl (fun _ => 0))), (hf1, .inl (chf1, 12, .inl (fun _ => 0))), (hlst, .inl (chlst, 12, .inl fhlst))] s.heap := hP
  have w__fieldLink_RX12_154_ShellHeapModel_notes_I_ := hts (.fieldLink RX12 154 "ShellHeapModel" "notes" "I") (by decide +kernel)
  have hiX12 := show ∀ w ∈ u_ws RX12 TX12 70, w ∈ u_c_X12_spans by decide +kernel
  have w__fieldLink_RX12_167_ShellHeapModel_quarrelNow_I_ := hts (.fieldLink RX12 167 "ShellHeapModel" "quarrelNow" "I") (by decide +kernel)
  have w__fieldLink_RX12_41_ShellHeapModel_first_I_ := hts (.fieldLink RX12 41 "ShellHeapModel" "first" "[I") (by decide +kernel)
  have w__fieldLink_RX12_44_ShellHeapModel_last_I_ := hts (.fieldLink RX12 44 "ShellHeapModel" "last" "[I") (by decide +kernel)
  have w__fieldLink_RX12_35_ShellHeapModel_later_Z_ := hts (.fieldLink RX12 35 "ShellHeapModel" "later" "[Z") (by decide +kernel)
  have hl := lv_entry ([.ref h0]) (n := 4) (Nat.le_of_ble_eq_true rfl)
  rw [lg_entry_eq]
  generalize (lg_sl ([.ref h0]) ++ List.replicate (4 - (lg_sl ([.ref h0])).length) Slot.unset).toArray = ls at hl ⊢
  have hl : lv_has ls 4 [(0, .ref h0)] := hl
  refine z_nameQ (fun QQ hQQ => ?_)
  refine lv_iconst (v := 0) hx hb dX12_spans_0 (by decide) ?_
  refine lv_istore_n (lv' := [(1, .int 0), (0, .ref h0)]) hx hb dX12_spans_1 rfl hl (by decide) rfl (fun ls hl => ?_)
  have loop_1 : ∀ (n_3 j_2 : Nat) (f_5 : Nat → Int32) (H : Heap) (locs : List Loc) (ls : Array Slot), j_2 + n_3 = 12 → (∀ i : Nat, i < j_2 → f_5 i = 9999) → va_P (dC, dI) vwCl [(h0, .inr (12, [h0_0, h0_1, h0_2, h0_3, .int 0, h0_5, h0_6, h0_7, h0_8, h0_9, h0_10, h0_11, .ref hl1, h0_13, .ref hf1, .ref hlst, .int 0, h0_17, h0_18, h0_19, h0_20, h0_21, h0_22, h0_23, h0_24, h0_25, h0_26, h0_27, h0_28, h0_29, h0_30, h0_31, h0_32, h0_33, h0_34, h0_35, h0_36, h0_37, h0_38, h0_39, h0_40, h0_41, h0_42, h0_43, h0_44, h0_45, h0_46, h0_47, h0_48, h0_49, h0_50, h0_51, h0_52, h0_53, h0_54, h0_55, h0_56, h0_57, h0_58, h0_59, h0_60, h0_61, h0_62, h0_63, h0_64, h0_65, h0_66, h0_67, h0_68, h0_69])), (hl1, .inl (chl1, 144, .inl (fun _ => 0))), (hf1, .inl (chf1, 12, .inl (fun _ => 0))), (hlst, .inl (chlst, 12, .inl f_5))] H → va_D A [(h0, .inr (12, [h0_0, h0_1, h0_2, h0_3, .int 0, h0_5, h0_6, h0_7, h0_8, h0_9, h0_10, h0_11, .ref hl1, h0_13, .ref hf1, .ref hlst, .int 0, h0_17, h0_18, h0_19, h0_20, h0_21, h0_22, h0_23, h0_24, h0_25, h0_26, h0_27, h0_28, h0_29, h0_30, h0_31, h0_32, h0_33, h0_34, h0_35, h0_36, h0_37, h0_38, h0_39, h0_40, h0_41, h0_42, h0_43, h0_44, h0_45, h0_46, h0_47, h0_48, h0_49, h0_50, h0_51, h0_52, h0_53, h0_54, h0_55, h0_56, h0_57, h0_58, h0_59, h0_60, h0_61, h0_62, h0_63, h0_64, h0_65, h0_66, h0_67, h0_68, h0_69])), (hl1, .inl (chl1, 144, .inl (fun _ => 0))), (hf1, .inl (chf1, 12, .inl (fun _ => 0))), (hlst, .inl (chlst, 12, .inl f_5))] → va_S A s.heap H locs → lv_has ls 4 [(1, .int (nI j_2)), (0, .ref h0)] → W p l e ({ frames := 0, cells := 0, slots := 0, locals := 0 } : Room) s m ([.ref h0] : List Value).toArray below meth c H locs 0 0 QQ (F0 m 2 ls []) := by
    intro n_3
    induction n_3 with
    | zero =>
      intro j_2 f_5 H locs ls hjn hinv hP hD hS hl
      obtain rfl : j_2 = 12 := by omega
      have hl : lv_has ls 4 [(1, .int 12), (0, .ref h0)] := hl
      refine lv_iload_n hx hb dX12_spans_2 rfl (lv_at hl 0 rfl) ?_
      refine lv_bipush (v := 12) hx hb dX12_spans_3 (by decide) ?_
      refine lv_icmp_ge (tgt := 30) hx hb dX12_spans_5 (by decide) (fun _ => ?_) (fun c_6 => absurd (by decide) c_6)
      refine lv_iconst (v := 0) hx hb dX12_spans_30 (by decide) ?_
      refine lv_istore_n (lv' := [(1, .int 0), (0, .ref h0)]) hx hb dX12_spans_31 rfl hl (by decide) rfl (fun ls hl => ?_)
      refine lv_iload_n hx hb dX12_spans_32 rfl (lv_at hl 0 rfl) ?_
      refine lv_aload_n hx hb dX12_spans_33 rfl (lv_at hl 1 rfl) ?_
      refine va_get (D := (dC, dI)) (ci := 12) (v := .int 0) (C := RX12) (T := TX12) (N := 70) hx hb hts hiX12 hown hK hP 0 rfl rfl 4 (by decide) w__fieldLink_RX12_154_ShellHeapModel_notes_I_ (fun _ h9 => h9) rfl dX12_spans_34 ?_
      refine lv_icmp_ge (tgt := 152) hx hb dX12_spans_37 (by decide) (fun _ => ?_) (fun c_7 => absurd (by decide) c_7)
      refine lv_iconst (v := 0) hx hb dX12_spans_152 (by decide) ?_
      refine lv_istore_n (lv' := [(1, .int 0), (0, .ref h0)]) hx hb dX12_spans_153 rfl hl (by decide) rfl (fun ls hl => ?_)
      have loop_8 : ∀ (n_10 j_9 : Nat) (H : Heap) (locs : List Loc) (ls : Array Slot), j_9 + n_10 = 12 → va_P (dC, dI) vwCl [(h0, .inr (12, [h0_0, h0_1, h0_2, h0_3, .int 0, h0_5, h0_6, h0_7, h0_8, h0_9, h0_10, h0_11, .ref hl1, h0_13, .ref hf1, .ref hlst, .int 0, h0_17, h0_18, h0_19, h0_20, h0_21, h0_22, h0_23, h0_24, h0_25, h0_26, h0_27, h0_28, h0_29, h0_30, h0_31, h0_32, h0_33, h0_34, h0_35, h0_36, h0_37, h0_38, h0_39, h0_40, h0_41, h0_42, h0_43, h0_44, h0_45, h0_46, h0_47, h0_48, h0_49, h0_50, h0_51, h0_52, h0_53, h0_54, h0_55, h0_56, h0_57, h0_58, h0_59, h0_60, h0_61, h0_62, h0_63, h0_64, h0_65, h0_66, h0_67, h0_68, h0_69])), (hl1, .inl (chl1, 144, .inl (fun _ => 0))), (hf1, .inl (chf1, 12, .inl (fun _ => 0))), (hlst, .inl (chlst, 12, .inl f_5))] H → va_D A [(h0, .inr (12, [h0_0, h0_1, h0_2, h0_3, .int 0, h0_5, h0_6, h0_7, h0_8, h0_9, h0_10, h0_11, .ref hl1, h0_13, .ref hf1, .ref hlst, .int 0, h0_17, h0_18, h0_19, h0_20, h0_21, h0_22, h0_23, h0_24, h0_25, h0_26, h0_27, h0_28, h0_29, h0_30, h0_31, h0_32, h0_33, h0_34, h0_35, h0_36, h0_37, h0_38, h0_39, h0_40, h0_41, h0_42, h0_43, h0_44, h0_45, h0_46, h0_47, h0_48, h0_49, h0_50, h0_51, h0_52, h0_53, h0_54, h0_55, h0_56, h0_57, h0_58, h0_59, h0_60, h0_61, h0_62, h0_63, h0_64, h0_65, h0_66, h0_67, h0_68, h0_69])), (hl1, .inl (chl1, 144, .inl (fun _ => 0))), (hf1, .inl (chf1, 12, .inl (fun _ => 0))), (hlst, .inl (chlst, 12, .inl f_5))] → va_S A s.heap H locs → lv_has ls 4 [(1, .int (nI j_9)), (0, .ref h0)] → W p l e ({ frames := 0, cells := 0, slots := 0, locals := 0 } : Room) s m ([.ref h0] : List Value).toArray below meth c H locs 0 0 QQ (F0 m 154 ls []) := by
        intro n_10
        induction n_10 with
        | zero =>
          intro j_9  H locs ls hjn  hP hD hS hl
          obtain rfl : j_9 = 12 := by omega
          have hl : lv_has ls 4 [(1, .int 12), (0, .ref h0)] := hl
          refine lv_iload_n hx hb dX12_spans_154 rfl (lv_at hl 0 rfl) ?_
          refine lv_bipush (v := 12) hx hb dX12_spans_155 (by decide) ?_
          refine lv_icmp_ge (tgt := 283) hx hb dX12_spans_157 (by decide) (fun _ => ?_) (fun c_12 => absurd (by decide) c_12)
          refine lv_aload_n hx hb dX12_spans_283 rfl (lv_at hl 1 rfl) ?_
          refine va_get (D := (dC, dI)) (ci := 12) (v := .int 0) (C := RX12) (T := TX12) (N := 70) hx hb hts hiX12 hown hK hP 0 rfl rfl 16 (by decide) w__fieldLink_RX12_167_ShellHeapModel_quarrelNow_I_ (fun _ h9 => h9) rfl dX12_spans_284 ?_
          refine lv_iconst (v := 1) hx hb dX12_spans_287 (by decide) ?_
          refine lv_icmp_ne (tgt := 292) hx hb dX12_spans_288 (by decide) (fun _ => ?_) (fun c_13 => absurd c_13 (by decide))
          refine lv_iconst (v := 0) hx hb dX12_spans_292 (by decide) ?_
          refine lv_istore_n (lv' := [(1, .int 0), (0, .ref h0)]) hx hb dX12_spans_293 rfl hl (by decide) rfl (fun ls hl => ?_)
          have loop_14 : ∀ (n_16 j_15 : Nat) (H : Heap) (locs : List Loc) (ls : Array Slot), j_15 + n_16 = 12 → va_P (dC, dI) vwCl [(h0, .inr (12, [h0_0, h0_1, h0_2, h0_3, .int 0, h0_5, h0_6, h0_7, h0_8, h0_9, h0_10, h0_11, .ref hl1, h0_13, .ref hf1, .ref hlst, .int 0, h0_17, h0_18, h0_19, h0_20, h0_21, h0_22, h0_23, h0_24, h0_25, h0_26, h0_27, h0_28, h0_29, h0_30, h0_31, h0_32, h0_33, h0_34, h0_35, h0_36, h0_37, h0_38, h0_39, h0_40, h0_41, h0_42, h0_43, h0_44, h0_45, h0_46, h0_47, h0_48, h0_49, h0_50, h0_51, h0_52, h0_53, h0_54, h0_55, h0_56, h0_57, h0_58, h0_59, h0_60, h0_61, h0_62, h0_63, h0_64, h0_65, h0_66, h0_67, h0_68, h0_69])), (hl1, .inl (chl1, 144, .inl (fun _ => 0))), (hf1, .inl (chf1, 12, .inl (fun _ => 0))), (hlst, .inl (chlst, 12, .inl f_5))] H → va_D A [(h0, .inr (12, [h0_0, h0_1, h0_2, h0_3, .int 0, h0_5, h0_6, h0_7, h0_8, h0_9, h0_10, h0_11, .ref hl1, h0_13, .ref hf1, .ref hlst, .int 0, h0_17, h0_18, h0_19, h0_20, h0_21, h0_22, h0_23, h0_24, h0_25, h0_26, h0_27, h0_28, h0_29, h0_30, h0_31, h0_32, h0_33, h0_34, h0_35, h0_36, h0_37, h0_38, h0_39, h0_40, h0_41, h0_42, h0_43, h0_44, h0_45, h0_46, h0_47, h0_48, h0_49, h0_50, h0_51, h0_52, h0_53, h0_54, h0_55, h0_56, h0_57, h0_58, h0_59, h0_60, h0_61, h0_62, h0_63, h0_64, h0_65, h0_66, h0_67, h0_68, h0_69])), (hl1, .inl (chl1, 144, .inl (fun _ => 0))), (hf1, .inl (chf1, 12, .inl (fun _ => 0))), (hlst, .inl (chlst, 12, .inl f_5))] → va_S A s.heap H locs → lv_has ls 4 [(1, .int (nI j_15)), (0, .ref h0)] → W p l e ({ frames := 0, cells := 0, slots := 0, locals := 0 } : Room) s m ([.ref h0] : List Value).toArray below meth c H locs 0 0 QQ (F0 m 294 ls []) := by
            intro n_16
            induction n_16 with
            | zero =>
              intro j_15  H locs ls hjn  hP hD hS hl
              obtain rfl : j_15 = 12 := by omega
              have hl : lv_has ls 4 [(1, .int 12), (0, .ref h0)] := hl
              refine lv_iload_n hx hb dX12_spans_294 rfl (lv_at hl 0 rfl) ?_
              refine lv_bipush (v := 12) hx hb dX12_spans_295 (by decide) ?_
              refine lv_icmp_ge (tgt := 333) hx hb dX12_spans_297 (by decide) (fun _ => ?_) (fun c_18 => absurd (by decide) c_18)
              refine z_backQ hQQ ?_
              have hP9 := hP.sub (ws' := [(h0, .inr (12, [h0_0, h0_1, h0_2, h0_3, .int 0, h0_5, h0_6, h0_7, h0_8, h0_9, h0_10, h0_11, .ref hl1, h0_13, .ref hf1, .ref hlst, .int 0, h0_17, h0_18, h0_19, h0_20, h0_21, h0_22, h0_23, h0_24, h0_25, h0_26, h0_27, h0_28, h0_29, h0_30, h0_31, h0_32, h0_33, h0_34, h0_35, h0_36, h0_37, h0_38, h0_39, h0_40, h0_41, h0_42, h0_43, h0_44, h0_45, h0_46, h0_47, h0_48, h0_49, h0_50, h0_51, h0_52, h0_53, h0_54, h0_55, h0_56, h0_57, h0_58, h0_59, h0_60, h0_61, h0_62, h0_63, h0_64, h0_65, h0_66, h0_67, h0_68, h0_69]))]) [0] rfl
              have hD9 := hD.sub (ws' := [(h0, .inr (12, [h0_0, h0_1, h0_2, h0_3, .int 0, h0_5, h0_6, h0_7, h0_8, h0_9, h0_10, h0_11, .ref hl1, h0_13, .ref hf1, .ref hlst, .int 0, h0_17, h0_18, h0_19, h0_20, h0_21, h0_22, h0_23, h0_24, h0_25, h0_26, h0_27, h0_28, h0_29, h0_30, h0_31, h0_32, h0_33, h0_34, h0_35, h0_36, h0_37, h0_38, h0_39, h0_40, h0_41, h0_42, h0_43, h0_44, h0_45, h0_46, h0_47, h0_48, h0_49, h0_50, h0_51, h0_52, h0_53, h0_54, h0_55, h0_56, h0_57, h0_58, h0_59, h0_60, h0_61, h0_62, h0_63, h0_64, h0_65, h0_66, h0_67, h0_68, h0_69]))]) [0] (by decide) rfl
              have hK9 := hK.sub (tys' := []) [] rfl
              refine W.widen (k := 0) (n := 0) (Nat.le_of_ble_eq_true rfl) (Nat.le_of_ble_eq_true rfl) ?_
              exact W.vret hx hb hr (fun t ht hW => ⟨⟨(), rfl, trivial, ⟨by rw [ht]; exact hP9, va_K.moved hW.alike hK9, hD9⟩⟩, hS.F ht⟩) hS.2.2 dX12_spans_333
            | succ n_16 ih_17 =>
              intro j_15  H locs ls hjn  hP hD hS hl
              have hj_19 : j_15 < 12 := by omega
              refine lv_iload_n hx hb dX12_spans_294 rfl (lv_at hl 0 rfl) ?_
              refine lv_bipush (v := 12) hx hb dX12_spans_295 (by decide) ?_
              refine lv_icmp_ge (tgt := 333) hx hb dX12_spans_297 (by decide) (fun c_20 => ?_) (fun c_20 => ?_)
              · exfalso
                have k_21 := z_le c_20
                rw [nI_toInt (show j_15 < 2 ^ 31 by omega)] at k_21
                have k_21 : (12 : Int) ≤ ((j_15 : Nat) : Int) := k_21
                omega
              refine lv_aload_n hx hb dX12_spans_300 rfl (lv_at hl 1 rfl) ?_
              refine lv_aload_n hx hb dX12_spans_301 rfl (lv_at hl 1 rfl) ?_
              refine va_get (D := (dC, dI)) (ci := 12) (v := .ref hf1) (C := RX12) (T := TX12) (N := 70) hx hb hts hiX12 hown hK hP 0 rfl rfl 14 (by decide) w__fieldLink_RX12_41_ShellHeapModel_first_I_ (fun _ h9 => h9) rfl dX12_spans_302 ?_
              refine lv_iload_n hx hb dX12_spans_305 rfl (lv_at hl 0 rfl) ?_
              refine va_iald hx hb hK hP 2 1 rfl rfl (vp_in_nI (show j_15 < 12 by omega) (by decide)) dX12_spans_306 ?_
              refine lv_topi (fun x_22 e_23 => ?_)
              obtain rfl : x_22 = 0 := e_23
              refine lv_aload_n hx hb dX12_spans_307 rfl (lv_at hl 1 rfl) ?_
              refine va_get (D := (dC, dI)) (ci := 12) (v := .ref hlst) (C := RX12) (T := TX12) (N := 70) hx hb hts hiX12 hown hK hP 0 rfl rfl 15 (by decide) w__fieldLink_RX12_44_ShellHeapModel_last_I_ (fun _ h9 => h9) rfl dX12_spans_308 ?_
              refine lv_iload_n hx hb dX12_spans_311 rfl (lv_at hl 0 rfl) ?_
              refine va_iald hx hb hK hP 3 2 rfl rfl (vp_in_nI (show j_15 < 12 by omega) (by decide)) dX12_spans_312 ?_
              refine lv_topi (fun x_24 e_25 => ?_)
              obtain rfl : x_24 = 9999 := e_25.trans (by rw [nI_clamp (show j_15 < 2 ^ 31 by omega)]; exact hinv j_15 (by omega))
              refine lv_icmp_le (tgt := 320) hx hb dX12_spans_313 (by decide) (fun _ => ?_) (fun c_26 => absurd (by decide) c_26)
              refine lv_aload_n hx hb dX12_spans_320 rfl (lv_at hl 1 rfl) ?_
              refine va_get (D := (dC, dI)) (ci := 12) (v := .int 0) (C := RX12) (T := TX12) (N := 70) hx hb hts hiX12 hown hK hP 0 rfl rfl 16 (by decide) w__fieldLink_RX12_167_ShellHeapModel_quarrelNow_I_ (fun _ h9 => h9) rfl dX12_spans_321 ?_
              refine va_put (D := (dC, dI)) (ci := 12) (v := .int 0) (ty := .int) (C := RX12) (T := TX12) (N := 70) hx hb hts hiX12 tyX12 tyX12_ok nmX12 hown hK hP hD hS 0 rfl rfl 16 (by decide) w__fieldLink_RX12_167_ShellHeapModel_quarrelNow_I_ (fun _ h9 => h9) rfl (by decide +kernel) rfl rfl (Nat.le_of_ble_eq_true rfl) dX12_spans_324 (fun H_27 locs hP hD hS => ?_)
              have hP : va_P (dC, dI) vwCl [(h0, .inr (12, [h0_0, h0_1, h0_2, h0_3, .int 0, h0_5, h0_6, h0_7, h0_8, h0_9, h0_10, h0_11, .ref hl1, h0_13, .ref hf1, .ref hlst, .int 0, h0_17, h0_18, h0_19, h0_20, h0_21, h0_22, h0_23, h0_24, h0_25, h0_26, h0_27, h0_28, h0_29, h0_30, h0_31, h0_32, h0_33, h0_34, h0_35, h0_36, h0_37, h0_38, h0_39, h0_40, h0_41, h0_42, h0_43, h0_44, h0_45, h0_46, h0_47, h0_48, h0_49, h0_50, h0_51, h0_52, h0_53, h0_54, h0_55, h0_56, h0_57, h0_58, h0_59, h0_60, h0_61, h0_62, h0_63, h0_64, h0_65, h0_66, h0_67, h0_68, h0_69])), (hl1, .inl (chl1, 144, .inl (fun _ => 0))), (hf1, .inl (chf1, 12, .inl (fun _ => 0))), (hlst, .inl (chlst, 12, .inl f_5))] H_27 := hP
              have hD : va_D A [(h0, .inr (12, [h0_0, h0_1, h0_2, h0_3, .int 0, h0_5, h0_6, h0_7, h0_8, h0_9, h0_10, h0_11, .ref hl1, h0_13, .ref hf1, .ref hlst, .int 0, h0_17, h0_18, h0_19, h0_20, h0_21, h0_22, h0_23, h0_24, h0_25, h0_26, h0_27, h0_28, h0_29, h0_30, h0_31, h0_32, h0_33, h0_34, h0_35, h0_36, h0_37, h0_38, h0_39, h0_40, h0_41, h0_42, h0_43, h0_44, h0_45, h0_46, h0_47, h0_48, h0_49, h0_50, h0_51, h0_52, h0_53, h0_54, h0_55, h0_56, h0_57, h0_58, h0_59, h0_60, h0_61, h0_62, h0_63, h0_64, h0_65, h0_66, h0_67, h0_68, h0_69])), (hl1, .inl (chl1, 144, .inl (fun _ => 0))), (hf1, .inl (chf1, 12, .inl (fun _ => 0))), (hlst, .inl (chlst, 12, .inl f_5))] := hD
              refine lv_iinc (v := (nI (j_15 + 1))) (lv' := [(1, .int (nI (j_15 + 1))), (0, .ref h0)]) hx hb dX12_spans_327 hl (k := 0) rfl (nI_1 j_15) (by decide) rfl (fun ls hl => ?_)
              refine lv_goto (tgt := 294) hx hb dX12_spans_330 (by decide) ?_
              exact ih_17 (j_15 + 1)  _ _ _ (by omega)  hP hD hS (lv_sub hl [0, 1] rfl)
          exact loop_14 12 0  _ _ _ (by omega)  hP hD hS hl
        | succ n_10 ih_11 =>
          intro j_9  H locs ls hjn  hP hD hS hl
          have hj_28 : j_9 < 12 := by omega
          refine lv_iload_n hx hb dX12_spans_154 rfl (lv_at hl 0 rfl) ?_
          refine lv_bipush (v := 12) hx hb dX12_spans_155 (by decide) ?_
          refine lv_icmp_ge (tgt := 283) hx hb dX12_spans_157 (by decide) (fun c_29 => ?_) (fun c_29 => ?_)
          · exfalso
            have k_30 := z_le c_29
            rw [nI_toInt (show j_9 < 2 ^ 31 by omega)] at k_30
            have k_30 : (12 : Int) ≤ ((j_9 : Nat) : Int) := k_30
            omega
          refine lv_iconst (v := 0) hx hb dX12_spans_160 (by decide) ?_
          refine lv_istore_n (lv' := [(2, .int 0), (1, .int (nI j_9)), (0, .ref h0)]) hx hb dX12_spans_161 rfl hl (by decide) rfl (fun ls hl => ?_)
          have loop_31 : ∀ (n_33 j_32 : Nat) (H : Heap) (locs : List Loc) (ls : Array Slot), j_32 + n_33 = 12 → va_P (dC, dI) vwCl [(h0, .inr (12, [h0_0, h0_1, h0_2, h0_3, .int 0, h0_5, h0_6, h0_7, h0_8, h0_9, h0_10, h0_11, .ref hl1, h0_13, .ref hf1, .ref hlst, .int 0, h0_17, h0_18, h0_19, h0_20, h0_21, h0_22, h0_23, h0_24, h0_25, h0_26, h0_27, h0_28, h0_29, h0_30, h0_31, h0_32, h0_33, h0_34, h0_35, h0_36, h0_37, h0_38, h0_39, h0_40, h0_41, h0_42, h0_43, h0_44, h0_45, h0_46, h0_47, h0_48, h0_49, h0_50, h0_51, h0_52, h0_53, h0_54, h0_55, h0_56, h0_57, h0_58, h0_59, h0_60, h0_61, h0_62, h0_63, h0_64, h0_65, h0_66, h0_67, h0_68, h0_69])), (hl1, .inl (chl1, 144, .inl (fun _ => 0))), (hf1, .inl (chf1, 12, .inl (fun _ => 0))), (hlst, .inl (chlst, 12, .inl f_5))] H → va_D A [(h0, .inr (12, [h0_0, h0_1, h0_2, h0_3, .int 0, h0_5, h0_6, h0_7, h0_8, h0_9, h0_10, h0_11, .ref hl1, h0_13, .ref hf1, .ref hlst, .int 0, h0_17, h0_18, h0_19, h0_20, h0_21, h0_22, h0_23, h0_24, h0_25, h0_26, h0_27, h0_28, h0_29, h0_30, h0_31, h0_32, h0_33, h0_34, h0_35, h0_36, h0_37, h0_38, h0_39, h0_40, h0_41, h0_42, h0_43, h0_44, h0_45, h0_46, h0_47, h0_48, h0_49, h0_50, h0_51, h0_52, h0_53, h0_54, h0_55, h0_56, h0_57, h0_58, h0_59, h0_60, h0_61, h0_62, h0_63, h0_64, h0_65, h0_66, h0_67, h0_68, h0_69])), (hl1, .inl (chl1, 144, .inl (fun _ => 0))), (hf1, .inl (chf1, 12, .inl (fun _ => 0))), (hlst, .inl (chlst, 12, .inl f_5))] → va_S A s.heap H locs → lv_has ls 4 [(2, .int (nI j_32)), (1, .int (nI j_9)), (0, .ref h0)] → W p l e ({ frames := 0, cells := 0, slots := 0, locals := 0 } : Room) s m ([.ref h0] : List Value).toArray below meth c H locs 0 0 QQ (F0 m 162 ls []) := by
            intro n_33
            induction n_33 with
            | zero =>
              intro j_32  H locs ls hjn  hP hD hS hl
              obtain rfl : j_32 = 12 := by omega
              have hl : lv_has ls 4 [(2, .int 12), (1, .int (nI j_9)), (0, .ref h0)] := hl
              refine lv_iload_n hx hb dX12_spans_162 rfl (lv_at hl 0 rfl) ?_
              refine lv_bipush (v := 12) hx hb dX12_spans_163 (by decide) ?_
              refine lv_icmp_ge (tgt := 277) hx hb dX12_spans_165 (by decide) (fun _ => ?_) (fun c_35 => absurd (by decide) c_35)
              refine lv_iinc (v := (nI (j_9 + 1))) (lv' := [(1, .int (nI (j_9 + 1))), (2, .int 12), (0, .ref h0)]) hx hb dX12_spans_277 hl (k := 1) rfl (nI_1 j_9) (by decide) rfl (fun ls hl => ?_)
              refine lv_goto (tgt := 154) hx hb dX12_spans_280 (by decide) ?_
              exact ih_11 (j_9 + 1)  _ _ _ (by omega)  hP hD hS (lv_sub hl [0, 2] rfl)
            | succ n_33 ih_34 =>
              intro j_32  H locs ls hjn  hP hD hS hl
              have hj_36 : j_32 < 12 := by omega
              refine lv_iload_n hx hb dX12_spans_162 rfl (lv_at hl 0 rfl) ?_
              refine lv_bipush (v := 12) hx hb dX12_spans_163 (by decide) ?_
              refine lv_icmp_ge (tgt := 277) hx hb dX12_spans_165 (by decide) (fun c_37 => ?_) (fun c_37 => ?_)
              · exfalso
                have k_38 := z_le c_37
                rw [nI_toInt (show j_32 < 2 ^ 31 by omega)] at k_38
                have k_38 : (12 : Int) ≤ ((j_32 : Nat) : Int) := k_38
                omega
              refine lv_iconst (v := 0) hx hb dX12_spans_168 (by decide) ?_
              refine lv_istore_n (lv' := [(3, .int 0), (2, .int (nI j_32)), (1, .int (nI j_9)), (0, .ref h0)]) hx hb dX12_spans_169 rfl hl (by decide) rfl (fun ls hl => ?_)
              have loop_39 : ∀ (n_41 j_40 : Nat) (H : Heap) (locs : List Loc) (ls : Array Slot), j_40 + n_41 = 12 → va_P (dC, dI) vwCl [(h0, .inr (12, [h0_0, h0_1, h0_2, h0_3, .int 0, h0_5, h0_6, h0_7, h0_8, h0_9, h0_10, h0_11, .ref hl1, h0_13, .ref hf1, .ref hlst, .int 0, h0_17, h0_18, h0_19, h0_20, h0_21, h0_22, h0_23, h0_24, h0_25, h0_26, h0_27, h0_28, h0_29, h0_30, h0_31, h0_32, h0_33, h0_34, h0_35, h0_36, h0_37, h0_38, h0_39, h0_40, h0_41, h0_42, h0_43, h0_44, h0_45, h0_46, h0_47, h0_48, h0_49, h0_50, h0_51, h0_52, h0_53, h0_54, h0_55, h0_56, h0_57, h0_58, h0_59, h0_60, h0_61, h0_62, h0_63, h0_64, h0_65, h0_66, h0_67, h0_68, h0_69])), (hl1, .inl (chl1, 144, .inl (fun _ => 0))), (hf1, .inl (chf1, 12, .inl (fun _ => 0))), (hlst, .inl (chlst, 12, .inl f_5))] H → va_D A [(h0, .inr (12, [h0_0, h0_1, h0_2, h0_3, .int 0, h0_5, h0_6, h0_7, h0_8, h0_9, h0_10, h0_11, .ref hl1, h0_13, .ref hf1, .ref hlst, .int 0, h0_17, h0_18, h0_19, h0_20, h0_21, h0_22, h0_23, h0_24, h0_25, h0_26, h0_27, h0_28, h0_29, h0_30, h0_31, h0_32, h0_33, h0_34, h0_35, h0_36, h0_37, h0_38, h0_39, h0_40, h0_41, h0_42, h0_43, h0_44, h0_45, h0_46, h0_47, h0_48, h0_49, h0_50, h0_51, h0_52, h0_53, h0_54, h0_55, h0_56, h0_57, h0_58, h0_59, h0_60, h0_61, h0_62, h0_63, h0_64, h0_65, h0_66, h0_67, h0_68, h0_69])), (hl1, .inl (chl1, 144, .inl (fun _ => 0))), (hf1, .inl (chf1, 12, .inl (fun _ => 0))), (hlst, .inl (chlst, 12, .inl f_5))] → va_S A s.heap H locs → lv_has ls 4 [(3, .int (nI j_40)), (2, .int (nI j_32)), (1, .int (nI j_9)), (0, .ref h0)] → W p l e ({ frames := 0, cells := 0, slots := 0, locals := 0 } : Room) s m ([.ref h0] : List Value).toArray below meth c H locs 0 0 QQ (F0 m 170 ls []) := by
                intro n_41
                induction n_41 with
                | zero =>
                  intro j_40  H locs ls hjn  hP hD hS hl
                  obtain rfl : j_40 = 12 := by omega
                  have hl : lv_has ls 4 [(3, .int 12), (2, .int (nI j_32)), (1, .int (nI j_9)), (0, .ref h0)] := hl
                  refine lv_iload_n hx hb dX12_spans_170 rfl (lv_at hl 0 rfl) ?_
                  refine lv_bipush (v := 12) hx hb dX12_spans_171 (by decide) ?_
                  refine lv_icmp_ge (tgt := 271) hx hb dX12_spans_173 (by decide) (fun _ => ?_) (fun c_43 => absurd (by decide) c_43)
                  refine lv_iinc (v := (nI (j_32 + 1))) (lv' := [(2, .int (nI (j_32 + 1))), (3, .int 12), (1, .int (nI j_9)), (0, .ref h0)]) hx hb dX12_spans_271 hl (k := 1) rfl (nI_1 j_32) (by decide) rfl (fun ls hl => ?_)
                  refine lv_goto (tgt := 162) hx hb dX12_spans_274 (by decide) ?_
                  exact ih_34 (j_32 + 1)  _ _ _ (by omega)  hP hD hS (lv_sub hl [0, 2, 3] rfl)
                | succ n_41 ih_42 =>
                  intro j_40  H locs ls hjn  hP hD hS hl
                  have hj_44 : j_40 < 12 := by omega
                  refine lv_iload_n hx hb dX12_spans_170 rfl (lv_at hl 0 rfl) ?_
                  refine lv_bipush (v := 12) hx hb dX12_spans_171 (by decide) ?_
                  refine lv_icmp_ge (tgt := 271) hx hb dX12_spans_173 (by decide) (fun c_45 => ?_) (fun c_45 => ?_)
                  · exfalso
                    have k_46 := z_le c_45
                    rw [nI_toInt (show j_40 < 2 ^ 31 by omega)] at k_46
                    have k_46 : (12 : Int) ≤ ((j_40 : Nat) : Int) := k_46
                    omega
                  refine lv_aload_n hx hb dX12_spans_176 rfl (lv_at hl 3 rfl) ?_
                  refine va_get (D := (dC, dI)) (ci := 12) (v := .ref hl1) (C := RX12) (T := TX12) (N := 70) hx hb hts hiX12 hown hK hP 0 rfl rfl 12 (by decide) w__fieldLink_RX12_35_ShellHeapModel_later_Z_ (fun _ h9 => h9) rfl dX12_spans_177 ?_
                  refine lv_bipush (v := 12) hx hb dX12_spans_180 (by decide) ?_
                  refine lv_iload_n hx hb dX12_spans_182 rfl (lv_at hl 1 rfl) ?_
                  refine lv_imul hx hb dX12_spans_183 ?_
                  refine lv_topi (fun x_47 e_48 => ?_)
                  obtain rfl : x_47 = (nI (12 * j_32)) := e_48.trans (pk_mul 12 j_32)
                  refine lv_iload_n hx hb dX12_spans_184 rfl (lv_at hl 0 rfl) ?_
                  refine lv_iadd hx hb dX12_spans_185 ?_
                  refine lv_topi (fun x_49 e_50 => ?_)
                  obtain rfl : x_49 = (nI ((12 * j_32) + j_40)) := e_50.trans (nI_add (12 * j_32) j_40)
                  refine va_zald hx hb hK hP 1 0 rfl rfl (vp_in_nI (show (12 * j_32) + j_40 < 144 by omega) (by decide)) dX12_spans_186 ?_
                  refine lv_topi (fun x_51 e_52 => ?_)
                  obtain rfl : x_51 = 0 := e_52
                  refine lv_if_ne (tgt := 193) hx hb dX12_spans_187 (by decide) (fun c_53 => absurd c_53 (by decide)) (fun _ => ?_)
                  refine lv_goto (tgt := 265) hx hb dX12_spans_190 (by decide) ?_
                  refine lv_iinc (v := (nI (j_40 + 1))) (lv' := [(3, .int (nI (j_40 + 1))), (2, .int (nI j_32)), (1, .int (nI j_9)), (0, .ref h0)]) hx hb dX12_spans_265 hl (k := 0) rfl (nI_1 j_40) (by decide) rfl (fun ls hl => ?_)
                  refine lv_goto (tgt := 170) hx hb dX12_spans_268 (by decide) ?_
                  exact ih_42 (j_40 + 1)  _ _ _ (by omega)  hP hD hS (lv_sub hl [0, 1, 2, 3] rfl)
              exact loop_39 12 0  _ _ _ (by omega)  hP hD hS hl
          exact loop_31 12 0  _ _ _ (by omega)  hP hD hS hl
      exact loop_8 12 0  _ _ _ (by omega)  hP hD hS hl
    | succ n_3 ih_4 =>
      intro j_2 f_5 H locs ls hjn hinv hP hD hS hl
      have hj_54 : j_2 < 12 := by omega
      refine lv_iload_n hx hb dX12_spans_2 rfl (lv_at hl 0 rfl) ?_
      refine lv_bipush (v := 12) hx hb dX12_spans_3 (by decide) ?_
      refine lv_icmp_ge (tgt := 30) hx hb dX12_spans_5 (by decide) (fun c_55 => ?_) (fun c_55 => ?_)
      · exfalso
        have k_56 := z_le c_55
        rw [nI_toInt (show j_2 < 2 ^ 31 by omega)] at k_56
        have k_56 : (12 : Int) ≤ ((j_2 : Nat) : Int) := k_56
        omega
      refine lv_aload_n hx hb dX12_spans_8 rfl (lv_at hl 1 rfl) ?_
      refine va_get (D := (dC, dI)) (ci := 12) (v := .ref hf1) (C := RX12) (T := TX12) (N := 70) hx hb hts hiX12 hown hK hP 0 rfl rfl 14 (by decide) w__fieldLink_RX12_41_ShellHeapModel_first_I_ (fun _ h9 => h9) rfl dX12_spans_9 ?_
      refine lv_iload_n hx hb dX12_spans_12 rfl (lv_at hl 0 rfl) ?_
      refine lv_iconst (v := 0) hx hb dX12_spans_13 (by decide) ?_
      refine va_iast hx hb hK hP hD hS 2 1 rfl rfl (vp_in_nI (show j_2 < 12 by omega) (by decide)) dX12_spans_14 (fun H_57 locs hP hD hS => ?_)
      have hP : va_P (dC, dI) vwCl [(h0, .inr (12, [h0_0, h0_1, h0_2, h0_3, .int 0, h0_5, h0_6, h0_7, h0_8, h0_9, h0_10, h0_11, .ref hl1, h0_13, .ref hf1, .ref hlst, .int 0, h0_17, h0_18, h0_19, h0_20, h0_21, h0_22, h0_23, h0_24, h0_25, h0_26, h0_27, h0_28, h0_29, h0_30, h0_31, h0_32, h0_33, h0_34, h0_35, h0_36, h0_37, h0_38, h0_39, h0_40, h0_41, h0_42, h0_43, h0_44, h0_45, h0_46, h0_47, h0_48, h0_49, h0_50, h0_51, h0_52, h0_53, h0_54, h0_55, h0_56, h0_57, h0_58, h0_59, h0_60, h0_61, h0_62, h0_63, h0_64, h0_65, h0_66, h0_67, h0_68, h0_69])), (hl1, .inl (chl1, 144, .inl (fun _ => 0))), (hf1, .inl (chf1, 12, .inl (upd (fun _ => 0) ((nI j_2) : Int32).toNatClampNeg 0))), (hlst, .inl (chlst, 12, .inl f_5))] H_57 := hP
      have hD : va_D A [(h0, .inr (12, [h0_0, h0_1, h0_2, h0_3, .int 0, h0_5, h0_6, h0_7, h0_8, h0_9, h0_10, h0_11, .ref hl1, h0_13, .ref hf1, .ref hlst, .int 0, h0_17, h0_18, h0_19, h0_20, h0_21, h0_22, h0_23, h0_24, h0_25, h0_26, h0_27, h0_28, h0_29, h0_30, h0_31, h0_32, h0_33, h0_34, h0_35, h0_36, h0_37, h0_38, h0_39, h0_40, h0_41, h0_42, h0_43, h0_44, h0_45, h0_46, h0_47, h0_48, h0_49, h0_50, h0_51, h0_52, h0_53, h0_54, h0_55, h0_56, h0_57, h0_58, h0_59, h0_60, h0_61, h0_62, h0_63, h0_64, h0_65, h0_66, h0_67, h0_68, h0_69])), (hl1, .inl (chl1, 144, .inl (fun _ => 0))), (hf1, .inl (chf1, 12, .inl (upd (fun _ => 0) ((nI j_2) : Int32).toNatClampNeg 0))), (hlst, .inl (chlst, 12, .inl f_5))] := hD
      rw [show (upd (fun _ => 0) ((nI j_2) : Int32).toNatClampNeg 0) = (fun _ => 0) from z_upd0 _] at hP hD
      refine lv_aload_n hx hb dX12_spans_15 rfl (lv_at hl 1 rfl) ?_
      refine va_get (D := (dC, dI)) (ci := 12) (v := .ref hlst) (C := RX12) (T := TX12) (N := 70) hx hb hts hiX12 hown hK hP 0 rfl rfl 15 (by decide) w__fieldLink_RX12_44_ShellHeapModel_last_I_ (fun _ h9 => h9) rfl dX12_spans_16 ?_
      refine lv_iload_n hx hb dX12_spans_19 rfl (lv_at hl 0 rfl) ?_
      refine lv_sipush (v := 9999) hx hb dX12_spans_20 (by decide) ?_
      refine va_iast hx hb hK hP hD hS 3 2 rfl rfl (vp_in_nI (show j_2 < 12 by omega) (by decide)) dX12_spans_23 (fun H_58 locs hP hD hS => ?_)
      have hP : va_P (dC, dI) vwCl [(h0, .inr (12, [h0_0, h0_1, h0_2, h0_3, .int 0, h0_5, h0_6, h0_7, h0_8, h0_9, h0_10, h0_11, .ref hl1, h0_13, .ref hf1, .ref hlst, .int 0, h0_17, h0_18, h0_19, h0_20, h0_21, h0_22, h0_23, h0_24, h0_25, h0_26, h0_27, h0_28, h0_29, h0_30, h0_31, h0_32, h0_33, h0_34, h0_35, h0_36, h0_37, h0_38, h0_39, h0_40, h0_41, h0_42, h0_43, h0_44, h0_45, h0_46, h0_47, h0_48, h0_49, h0_50, h0_51, h0_52, h0_53, h0_54, h0_55, h0_56, h0_57, h0_58, h0_59, h0_60, h0_61, h0_62, h0_63, h0_64, h0_65, h0_66, h0_67, h0_68, h0_69])), (hl1, .inl (chl1, 144, .inl (fun _ => 0))), (hf1, .inl (chf1, 12, .inl (fun _ => 0))), (hlst, .inl (chlst, 12, .inl (upd f_5 ((nI j_2) : Int32).toNatClampNeg 9999)))] H_58 := hP
      have hD : va_D A [(h0, .inr (12, [h0_0, h0_1, h0_2, h0_3, .int 0, h0_5, h0_6, h0_7, h0_8, h0_9, h0_10, h0_11, .ref hl1, h0_13, .ref hf1, .ref hlst, .int 0, h0_17, h0_18, h0_19, h0_20, h0_21, h0_22, h0_23, h0_24, h0_25, h0_26, h0_27, h0_28, h0_29, h0_30, h0_31, h0_32, h0_33, h0_34, h0_35, h0_36, h0_37, h0_38, h0_39, h0_40, h0_41, h0_42, h0_43, h0_44, h0_45, h0_46, h0_47, h0_48, h0_49, h0_50, h0_51, h0_52, h0_53, h0_54, h0_55, h0_56, h0_57, h0_58, h0_59, h0_60, h0_61, h0_62, h0_63, h0_64, h0_65, h0_66, h0_67, h0_68, h0_69])), (hl1, .inl (chl1, 144, .inl (fun _ => 0))), (hf1, .inl (chf1, 12, .inl (fun _ => 0))), (hlst, .inl (chlst, 12, .inl (upd f_5 ((nI j_2) : Int32).toNatClampNeg 9999)))] := hD
      obtain ⟨f_59, ef_59⟩ : ∃ f, f = (upd f_5 ((nI j_2) : Int32).toNatClampNeg 9999) := ⟨_, rfl⟩
      rw [← ef_59] at hP hD
      refine lv_iinc (v := (nI (j_2 + 1))) (lv' := [(1, .int (nI (j_2 + 1))), (0, .ref h0)]) hx hb dX12_spans_24 hl (k := 0) rfl (nI_1 j_2) (by decide) rfl (fun ls hl => ?_)
      refine lv_goto (tgt := 2) hx hb dX12_spans_27 (by decide) ?_
      exact ih_4 (j_2 + 1) _ _ _ _ (by omega) (z_inv hinv ef_59 (by omega)) hP hD hS (lv_sub hl [0, 1] rfl)
  exact loop_1 12 0 _ _ _ _ (by omega) (fun i h => absurd h (Nat.not_lt_zero i)) hP hD hS hl
