def u_c_X12_orders : List Cond := .code yX12_orders cX12_orders 4 none :: ([.fieldLink RX12 154 "ShellHeapModel" "notes" "I", .fieldLink RX12 167 "ShellHeapModel" "quarrelNow" "I", .fieldLink RX12 35 "ShellHeapModel" "later" "[Z", .fieldLink RX12 38 "ShellHeapModel" "rank" "[I"] ++ wsX120)
set_option maxHeartbeats 4000000 in
set_option maxRecDepth 100000 in
theorem c_X12_orders (l : Launch) (dC : Nat → ClassId) (dI : Nat → Nat → Nat) (sz : Nat) (h0 : Nat) (h0_0 : Value) (h0_1 : Value) (h0_2 : Value) (h0_3 : Value) (h0_5 : Value) (h0_6 : Value) (h0_7 : Value) (h0_8 : Value) (h0_9 : Value) (h0_10 : Value) (h0_11 : Value) (hl1 : Nat) (hr1 : Nat) (h0_14 : Value) (h0_15 : Value) (h0_16 : Value) (h0_17 : Value) (h0_18 : Value) (h0_19 : Value) (h0_20 : Value) (h0_21 : Value) (h0_22 : Value) (h0_23 : Value) (h0_24 : Value) (h0_25 : Value) (h0_26 : Value) (h0_27 : Value) (h0_28 : Value) (h0_29 : Value) (h0_30 : Value) (h0_31 : Value) (h0_32 : Value) (h0_33 : Value) (h0_34 : Value) (h0_35 : Value) (h0_36 : Value) (h0_37 : Value) (h0_38 : Value) (h0_39 : Value) (h0_40 : Value) (h0_41 : Value) (h0_42 : Value) (h0_43 : Value) (h0_44 : Value) (h0_45 : Value) (h0_46 : Value) (h0_47 : Value) (h0_48 : Value) (h0_49 : Value) (h0_50 : Value) (h0_51 : Value) (h0_52 : Value) (h0_53 : Value) (h0_54 : Value) (h0_55 : Value) (h0_56 : Value) (h0_57 : Value) (h0_58 : Value) (h0_59 : Value) (h0_60 : Value) (h0_61 : Value) (h0_62 : Value) (h0_63 : Value) (h0_64 : Value) (h0_65 : Value) (h0_66 : Value) (h0_67 : Value) (h0_68 : Value) (h0_69 : Value) (chl1 : ClassId) (chr1 : ClassId) : Met l yX12_orders u_c_X12_orders ({ frames := 0, cells := 0, slots := 0, locals := 0 }) (va_Pc [.ref h0] (z_C (dC, dI) vwCl [(h0, .inr (12, [h0_0, h0_1, h0_2, h0_3, .int 0, h0_5, h0_6, h0_7, h0_8, h0_9, h0_10, h0_11, .ref hl1, .ref hr1, h0_14, h0_15, h0_16, h0_17, h0_18, h0_19, h0_20, h0_21, h0_22, h0_23, h0_24, h0_25, h0_26, h0_27, h0_28, h0_29, h0_30, h0_31, h0_32, h0_33, h0_34, h0_35, h0_36, h0_37, h0_38, h0_39, h0_40, h0_41, h0_42, h0_43, h0_44, h0_45, h0_46, h0_47, h0_48, h0_49, h0_50, h0_51, h0_52, h0_53, h0_54, h0_55, h0_56, h0_57, h0_58, h0_59, h0_60, h0_61, h0_62, h0_63, h0_64, h0_65, h0_66, h0_67, h0_68, h0_69])), (hl1, .inl (chl1, 144, .inl (fun _ => 0))), (hr1, .inl (chr1, 12, .inl (fun _ => 0)))] [(chl1, .boolean), (chr1, .int)] sz)) (va_Qv (fun (_ : Unit) => True) (fun (_ : Unit) (t : State) => va_P (dC, dI) vwCl [(h0, .inr (12, [h0_0, h0_1, h0_2, h0_3, .int 0, h0_5, h0_6, h0_7, h0_8, h0_9, h0_10, h0_11, .ref hl1, .ref hr1, h0_14, h0_15, .int 0, h0_17, h0_18, h0_19, h0_20, h0_21, h0_22, h0_23, h0_24, h0_25, h0_26, h0_27, h0_28, h0_29, h0_30, h0_31, h0_32, h0_33, h0_34, h0_35, h0_36, h0_37, h0_38, h0_39, h0_40, h0_41, h0_42, h0_43, h0_44, h0_45, h0_46, h0_47, h0_48, h0_49, h0_50, h0_51, h0_52, h0_53, h0_54, h0_55, h0_56, h0_57, h0_58, h0_59, h0_60, h0_61, h0_62, h0_63, h0_64, h0_65, h0_66, h0_67, h0_68, h0_69])), (hl1, .inl (chl1, 144, .inl (fun _ => 0))), (hr1, .inl (chr1, 12, .inl (fun _ => 0)))] t.heap ∧ va_K (dC, dI) vwCl [] t ∧ va_D (va_A [(h0, .inr (12, [h0_0, h0_1, h0_2, h0_3, .int 0, h0_5, h0_6, h0_7, h0_8, h0_9, h0_10, h0_11, .ref hl1, .ref hr1, h0_14, h0_15, h0_16, h0_17, h0_18, h0_19, h0_20, h0_21, h0_22, h0_23, h0_24, h0_25, h0_26, h0_27, h0_28, h0_29, h0_30, h0_31, h0_32, h0_33, h0_34, h0_35, h0_36, h0_37, h0_38, h0_39, h0_40, h0_41, h0_42, h0_43, h0_44, h0_45, h0_46, h0_47, h0_48, h0_49, h0_50, h0_51, h0_52, h0_53, h0_54, h0_55, h0_56, h0_57, h0_58, h0_59, h0_60, h0_61, h0_62, h0_63, h0_64, h0_65, h0_66, h0_67, h0_68, h0_69])), (hl1, .inl (chl1, 144, .inl (fun _ => 0))), (hr1, .inl (chr1, 12, .inl (fun _ => 0)))] sz) [(h0, .inr (12, [h0_0, h0_1, h0_2, h0_3, .int 0, h0_5, h0_6, h0_7, h0_8, h0_9, h0_10, h0_11, .ref hl1, .ref hr1, h0_14, h0_15, .int 0, h0_17, h0_18, h0_19, h0_20, h0_21, h0_22, h0_23, h0_24, h0_25, h0_26, h0_27, h0_28, h0_29, h0_30, h0_31, h0_32, h0_33, h0_34, h0_35, h0_36, h0_37, h0_38, h0_39, h0_40, h0_41, h0_42, h0_43, h0_44, h0_45, h0_46, h0_47, h0_48, h0_49, h0_50, h0_51, h0_52, h0_53, h0_54, h0_55, h0_56, h0_57, h0_58, h0_59, h0_60, h0_61, h0_62, h0_63, h0_64, h0_65, h0_66, h0_67, h0_68, h0_69])), (hl1, .inl (chl1, 144, .inl (fun _ => 0))), (hr1, .inl (chr1, 12, .inl (fun _ => 0)))]) (va_A [(h0, .inr (12, [h0_0, h0_1, h0_2, h0_3, .int 0, h0_5, h0_6, h0_7, h0_8, h0_9, h0_10, h0_11, .ref hl1, .ref hr1, h0_14, h0_15, h0_16, h0_17, h0_18, h0_19, h0_20, h0_21, h0_22, h0_23, h0_24, h0_25, h0_26, h0_27, h0_28, h0_29, h0_30, h0_31, h0_32, h0_33, h0_34, h0_35, h0_36, h0_37, h0_38, h0_39, h0_40, h0_41, h0_42, h0_43, h0_44, h0_45, h0_46, h0_47, h0_48, h0_49, h0_50, h0_51, h0_52, h0_53, h0_54, h0_55, h0_56, h0_57, h0_58, h0_59, h0_60, h0_61, h0_62, h0_63, h0_64, h0_65, h0_66, h0_67, h0_68, h0_69])), (hl1, .inl (chl1, 144, .inl (fun _ => 0))), (hr1, .inl (chr1, 12, .inl (fun _ => 0)))] sz)) 0 0 (va_A [(h0, .inr (12, [h0_0, h0_1, h0_2, h0_3, .int 0, h0_5, h0_6, h0_7, h0_8, h0_9, h0_10, h0_11, .ref hl1, .ref hr1, h0_14, h0_15, h0_16, h0_17, h0_18, h0_19, h0_20, h0_21, h0_22, h0_23, h0_24, h0_25, h0_26, h0_27, h0_28, h0_29, h0_30, h0_31, h0_32, h0_33, h0_34, h0_35, h0_36, h0_37, h0_38, h0_39, h0_40, h0_41, h0_42, h0_43, h0_44, h0_45, h0_46, h0_47, h0_48, h0_49, h0_50, h0_51, h0_52, h0_53, h0_54, h0_55, h0_56, h0_57, h0_58, h0_59, h0_60, h0_61, h0_62, h0_63, h0_64, h0_65, h0_66, h0_67, h0_68, h0_69])), (hl1, .inl (chl1, 144, .inl (fun _ => 0))), (hr1, .inl (chr1, 12, .inl (fun _ => 0)))] sz) := by
  refine Met.ofW (cc := cX12_orders) (maxL := 4) (ret := none) (by decide) rfl ?_
  intro p e s m args below meth c s₁ B hml hv
  obtain ⟨rfl, hsz, hP, hK, hD0⟩ := hv
  have hx := B.exec
  have hb := B.bytes
  have hr := B.returns
  have hts := atoms_spec (ws := u_c_X12_orders) B.pre
  have hown : s.vm.findClass RX12 = some m.cls := findClass_of_methodNamed B.named
  have hlocks := B.notSynchronized
  subst hsz
  have hD := hD0.self (sz := s.heap.size)
  generalize hAe : va_A [(h0, .inr (12, [h0_0, h0_1, h0_2, h0_3, .int 0, h0_5, h0_6, h0_7, h0_8, h0_9, h0_10, h0_11, .ref hl1, .ref hr1, h0_14, h0_15, h0_16, h0_17, h0_18, h0_19, h0_20, h0_21, h0_22, h0_23, h0_24, h0_25, h0_26, h0_27, h0_28, h0_29, h0_30, h0_31, h0_32, h0_33, h0_34, h0_35, h0_36, h0_37, h0_38, h0_39, h0_40, h0_41, h0_42, h0_43, h0_44, h0_45, h0_46, h0_47, h0_48, h0_49, h0_50, h0_51, h0_52, h0_53, h0_54, h0_55, h0_56, h0_57, h0_58, h0_59, h0_60, h0_61, h0_62, h0_63, h0_64, h0_65, h0_66, h0_67, h0_68, h0_69])), (hl1, .inl (chl1, 144, .inl (fun _ => 0))), (hr1, .inl (chr1, 12, .inl (fun _ => 0)))] s.heap.size = A at hD ⊢
  have hA : ∀ q : Nat, s.heap.size ≤ q → A q := fun q h => by rw [← hAe]; exact Or.inr h
  have hS : va_S A s.heap s.heap [] := va_S.rf
  have hP : va_P (dC, dI) vwCl [(h0, .inr (12, [h0_0, h0_1, h0_2, h0_3, .int 0, h0_5, h0_6, h0_7, h0_8, h0_9, h0_10, h0_11, .ref hl1, .ref hr1, h0_14, h0_15, h0_16, h0_17, h0_18, h0_19, h0_20, h0_21, h0_22, h0_23, h0_24, h0_25, h0_26, h0_27, h0_28, h0_29, h0_30, h0_31, h0_32, h0_33, h0_34, h0_35, h0_36, h0_37, h0_38, h0_39, h0_40, h0_41, h0_42, h0_43, h0_44, h0_45, h0_46, h0_47, h0_48, h0_49, h0_50, h0_51, h0_52, h0_53, h0_54, h0_55, h0_56, h0_57, h0_58, h0_59, h0_60, h0_61, h0_62, h0_63, h0_64, h0_65, h0_66, h0_67, h0_68, h0_69])), (hl1, .inl (chl1, 144, .inl (fun _ => 0))), (hr1, .inl (chr1, 12, .inl (fun _ => 0)))] s.heap := hP
  have w__fieldLink_RX12_154_ShellHeapModel_notes_I_ := hts (.fieldLink RX12 154 "ShellHeapModel" "notes" "I") (by decide +kernel)
  have hiX12 := show ∀ w ∈ u_ws RX12 TX12 70, w ∈ u_c_X12_orders by decide +kernel
  have w__fieldLink_RX12_167_ShellHeapModel_quarrelNow_I_ := hts (.fieldLink RX12 167 "ShellHeapModel" "quarrelNow" "I") (by decide +kernel)
  have w__fieldLink_RX12_35_ShellHeapModel_later_Z_ := hts (.fieldLink RX12 35 "ShellHeapModel" "later" "[Z") (by decide +kernel)
  have w__fieldLink_RX12_38_ShellHeapModel_rank_I_ := hts (.fieldLink RX12 38 "ShellHeapModel" "rank" "[I") (by decide +kernel)
  have hl := lv_entry ([.ref h0]) (n := 4) (Nat.le_of_ble_eq_true rfl)
  rw [lg_entry_eq]
  generalize (lg_sl ([.ref h0]) ++ List.replicate (4 - (lg_sl ([.ref h0])).length) Slot.unset).toArray = ls at hl ⊢
  have hl : lv_has ls 4 [(0, .ref h0)] := hl
  refine z_nameQ (fun QQ hQQ => ?_)
  refine lv_iconst (v := 0) hx hb dX12_orders_0 (by decide) ?_
  refine lv_istore_n (lv' := [(1, .int 0), (0, .ref h0)]) hx hb dX12_orders_1 rfl hl (by decide) rfl (fun ls hl => ?_)
  have loop_1 : ∀ (n_3 j_2 : Nat) (H : Heap) (locs : List Loc) (ls : Array Slot), j_2 + n_3 = 144 → va_P (dC, dI) vwCl [(h0, .inr (12, [h0_0, h0_1, h0_2, h0_3, .int 0, h0_5, h0_6, h0_7, h0_8, h0_9, h0_10, h0_11, .ref hl1, .ref hr1, h0_14, h0_15, h0_16, h0_17, h0_18, h0_19, h0_20, h0_21, h0_22, h0_23, h0_24, h0_25, h0_26, h0_27, h0_28, h0_29, h0_30, h0_31, h0_32, h0_33, h0_34, h0_35, h0_36, h0_37, h0_38, h0_39, h0_40, h0_41, h0_42, h0_43, h0_44, h0_45, h0_46, h0_47, h0_48, h0_49, h0_50, h0_51, h0_52, h0_53, h0_54, h0_55, h0_56, h0_57, h0_58, h0_59, h0_60, h0_61, h0_62, h0_63, h0_64, h0_65, h0_66, h0_67, h0_68, h0_69])), (hl1, .inl (chl1, 144, .inl (fun _ => 0))), (hr1, .inl (chr1, 12, .inl (fun _ => 0)))] H → va_D A [(h0, .inr (12, [h0_0, h0_1, h0_2, h0_3, .int 0, h0_5, h0_6, h0_7, h0_8, h0_9, h0_10, h0_11, .ref hl1, .ref hr1, h0_14, h0_15, h0_16, h0_17, h0_18, h0_19, h0_20, h0_21, h0_22, h0_23, h0_24, h0_25, h0_26, h0_27, h0_28, h0_29, h0_30, h0_31, h0_32, h0_33, h0_34, h0_35, h0_36, h0_37, h0_38, h0_39, h0_40, h0_41, h0_42, h0_43, h0_44, h0_45, h0_46, h0_47, h0_48, h0_49, h0_50, h0_51, h0_52, h0_53, h0_54, h0_55, h0_56, h0_57, h0_58, h0_59, h0_60, h0_61, h0_62, h0_63, h0_64, h0_65, h0_66, h0_67, h0_68, h0_69])), (hl1, .inl (chl1, 144, .inl (fun _ => 0))), (hr1, .inl (chr1, 12, .inl (fun _ => 0)))] → va_S A s.heap H locs → lv_has ls 4 [(1, .int (nI j_2)), (0, .ref h0)] → W p l e ({ frames := 0, cells := 0, slots := 0, locals := 0 } : Room) s m ([.ref h0] : List Value).toArray below meth c H locs 0 0 QQ (F0 m 2 ls []) := by
    intro n_3
    induction n_3 with
    | zero =>
      intro j_2  H locs ls hjn  hP hD hS hl
      obtain rfl : j_2 = 144 := by omega
      have hl : lv_has ls 4 [(1, .int 144), (0, .ref h0)] := hl
      refine lv_iload_n hx hb dX12_orders_2 rfl (lv_at hl 0 rfl) ?_
      refine lv_sipush (v := 144) hx hb dX12_orders_3 (by decide) ?_
      refine lv_icmp_ge (tgt := 22) hx hb dX12_orders_6 (by decide) (fun _ => ?_) (fun c_5 => absurd (by decide) c_5)
      refine lv_iconst (v := 0) hx hb dX12_orders_22 (by decide) ?_
      refine lv_istore_n (lv' := [(1, .int 0), (0, .ref h0)]) hx hb dX12_orders_23 rfl hl (by decide) rfl (fun ls hl => ?_)
      refine lv_iload_n hx hb dX12_orders_24 rfl (lv_at hl 0 rfl) ?_
      refine lv_aload_n hx hb dX12_orders_25 rfl (lv_at hl 1 rfl) ?_
      refine va_get (D := (dC, dI)) (ci := 12) (v := .int 0) (C := RX12) (T := TX12) (N := 70) hx hb hts hiX12 hown hK hP 0 rfl rfl 4 (by decide) w__fieldLink_RX12_154_ShellHeapModel_notes_I_ (fun _ h9 => h9) rfl dX12_orders_26 ?_
      refine lv_icmp_ge (tgt := 89) hx hb dX12_orders_29 (by decide) (fun _ => ?_) (fun c_6 => absurd (by decide) c_6)
      refine lv_iconst (v := 0) hx hb dX12_orders_89 (by decide) ?_
      refine lv_istore_n (lv' := [(1, .int 0), (0, .ref h0)]) hx hb dX12_orders_90 rfl hl (by decide) rfl (fun ls hl => ?_)
      have loop_7 : ∀ (n_9 j_8 : Nat) (H : Heap) (locs : List Loc) (ls : Array Slot), j_8 + n_9 = 12 → va_P (dC, dI) vwCl [(h0, .inr (12, [h0_0, h0_1, h0_2, h0_3, .int 0, h0_5, h0_6, h0_7, h0_8, h0_9, h0_10, h0_11, .ref hl1, .ref hr1, h0_14, h0_15, h0_16, h0_17, h0_18, h0_19, h0_20, h0_21, h0_22, h0_23, h0_24, h0_25, h0_26, h0_27, h0_28, h0_29, h0_30, h0_31, h0_32, h0_33, h0_34, h0_35, h0_36, h0_37, h0_38, h0_39, h0_40, h0_41, h0_42, h0_43, h0_44, h0_45, h0_46, h0_47, h0_48, h0_49, h0_50, h0_51, h0_52, h0_53, h0_54, h0_55, h0_56, h0_57, h0_58, h0_59, h0_60, h0_61, h0_62, h0_63, h0_64, h0_65, h0_66, h0_67, h0_68, h0_69])), (hl1, .inl (chl1, 144, .inl (fun _ => 0))), (hr1, .inl (chr1, 12, .inl (fun _ => 0)))] H → va_D A [(h0, .inr (12, [h0_0, h0_1, h0_2, h0_3, .int 0, h0_5, h0_6, h0_7, h0_8, h0_9, h0_10, h0_11, .ref hl1, .ref hr1, h0_14, h0_15, h0_16, h0_17, h0_18, h0_19, h0_20, h0_21, h0_22, h0_23, h0_24, h0_25, h0_26, h0_27, h0_28, h0_29, h0_30, h0_31, h0_32, h0_33, h0_34, h0_35, h0_36, h0_37, h0_38, h0_39, h0_40, h0_41, h0_42, h0_43, h0_44, h0_45, h0_46, h0_47, h0_48, h0_49, h0_50, h0_51, h0_52, h0_53, h0_54, h0_55, h0_56, h0_57, h0_58, h0_59, h0_60, h0_61, h0_62, h0_63, h0_64, h0_65, h0_66, h0_67, h0_68, h0_69])), (hl1, .inl (chl1, 144, .inl (fun _ => 0))), (hr1, .inl (chr1, 12, .inl (fun _ => 0)))] → va_S A s.heap H locs → lv_has ls 4 [(1, .int (nI j_8)), (0, .ref h0)] → W p l e ({ frames := 0, cells := 0, slots := 0, locals := 0 } : Room) s m ([.ref h0] : List Value).toArray below meth c H locs 0 0 QQ (F0 m 91 ls []) := by
        intro n_9
        induction n_9 with
        | zero =>
          intro j_8  H locs ls hjn  hP hD hS hl
          obtain rfl : j_8 = 12 := by omega
          have hl : lv_has ls 4 [(1, .int 12), (0, .ref h0)] := hl
          refine lv_iload_n hx hb dX12_orders_91 rfl (lv_at hl 0 rfl) ?_
          refine lv_bipush (v := 12) hx hb dX12_orders_92 (by decide) ?_
          refine lv_icmp_ge (tgt := 189) hx hb dX12_orders_94 (by decide) (fun _ => ?_) (fun c_11 => absurd (by decide) c_11)
          refine lv_aload_n hx hb dX12_orders_189 rfl (lv_at hl 1 rfl) ?_
          refine lv_iconst (v := 0) hx hb dX12_orders_190 (by decide) ?_
          refine va_put (D := (dC, dI)) (ci := 12) (v := .int 0) (ty := .int) (C := RX12) (T := TX12) (N := 70) hx hb hts hiX12 tyX12 tyX12_ok nmX12 hown hK hP hD hS 0 rfl rfl 16 (by decide) w__fieldLink_RX12_167_ShellHeapModel_quarrelNow_I_ (fun _ h9 => h9) rfl (by decide +kernel) rfl rfl (Nat.le_of_ble_eq_true rfl) dX12_orders_191 (fun H_12 locs hP hD hS => ?_)
          have hP : va_P (dC, dI) vwCl [(h0, .inr (12, [h0_0, h0_1, h0_2, h0_3, .int 0, h0_5, h0_6, h0_7, h0_8, h0_9, h0_10, h0_11, .ref hl1, .ref hr1, h0_14, h0_15, .int 0, h0_17, h0_18, h0_19, h0_20, h0_21, h0_22, h0_23, h0_24, h0_25, h0_26, h0_27, h0_28, h0_29, h0_30, h0_31, h0_32, h0_33, h0_34, h0_35, h0_36, h0_37, h0_38, h0_39, h0_40, h0_41, h0_42, h0_43, h0_44, h0_45, h0_46, h0_47, h0_48, h0_49, h0_50, h0_51, h0_52, h0_53, h0_54, h0_55, h0_56, h0_57, h0_58, h0_59, h0_60, h0_61, h0_62, h0_63, h0_64, h0_65, h0_66, h0_67, h0_68, h0_69])), (hl1, .inl (chl1, 144, .inl (fun _ => 0))), (hr1, .inl (chr1, 12, .inl (fun _ => 0)))] H_12 := hP
          have hD : va_D A [(h0, .inr (12, [h0_0, h0_1, h0_2, h0_3, .int 0, h0_5, h0_6, h0_7, h0_8, h0_9, h0_10, h0_11, .ref hl1, .ref hr1, h0_14, h0_15, .int 0, h0_17, h0_18, h0_19, h0_20, h0_21, h0_22, h0_23, h0_24, h0_25, h0_26, h0_27, h0_28, h0_29, h0_30, h0_31, h0_32, h0_33, h0_34, h0_35, h0_36, h0_37, h0_38, h0_39, h0_40, h0_41, h0_42, h0_43, h0_44, h0_45, h0_46, h0_47, h0_48, h0_49, h0_50, h0_51, h0_52, h0_53, h0_54, h0_55, h0_56, h0_57, h0_58, h0_59, h0_60, h0_61, h0_62, h0_63, h0_64, h0_65, h0_66, h0_67, h0_68, h0_69])), (hl1, .inl (chl1, 144, .inl (fun _ => 0))), (hr1, .inl (chr1, 12, .inl (fun _ => 0)))] := hD
          refine lv_iconst (v := 0) hx hb dX12_orders_194 (by decide) ?_
          refine lv_istore_n (lv' := [(1, .int 0), (0, .ref h0)]) hx hb dX12_orders_195 rfl hl (by decide) rfl (fun ls hl => ?_)
          have loop_13 : ∀ (n_15 j_14 : Nat) (H : Heap) (locs : List Loc) (ls : Array Slot), j_14 + n_15 = 12 → va_P (dC, dI) vwCl [(h0, .inr (12, [h0_0, h0_1, h0_2, h0_3, .int 0, h0_5, h0_6, h0_7, h0_8, h0_9, h0_10, h0_11, .ref hl1, .ref hr1, h0_14, h0_15, .int 0, h0_17, h0_18, h0_19, h0_20, h0_21, h0_22, h0_23, h0_24, h0_25, h0_26, h0_27, h0_28, h0_29, h0_30, h0_31, h0_32, h0_33, h0_34, h0_35, h0_36, h0_37, h0_38, h0_39, h0_40, h0_41, h0_42, h0_43, h0_44, h0_45, h0_46, h0_47, h0_48, h0_49, h0_50, h0_51, h0_52, h0_53, h0_54, h0_55, h0_56, h0_57, h0_58, h0_59, h0_60, h0_61, h0_62, h0_63, h0_64, h0_65, h0_66, h0_67, h0_68, h0_69])), (hl1, .inl (chl1, 144, .inl (fun _ => 0))), (hr1, .inl (chr1, 12, .inl (fun _ => 0)))] H → va_D A [(h0, .inr (12, [h0_0, h0_1, h0_2, h0_3, .int 0, h0_5, h0_6, h0_7, h0_8, h0_9, h0_10, h0_11, .ref hl1, .ref hr1, h0_14, h0_15, .int 0, h0_17, h0_18, h0_19, h0_20, h0_21, h0_22, h0_23, h0_24, h0_25, h0_26, h0_27, h0_28, h0_29, h0_30, h0_31, h0_32, h0_33, h0_34, h0_35, h0_36, h0_37, h0_38, h0_39, h0_40, h0_41, h0_42, h0_43, h0_44, h0_45, h0_46, h0_47, h0_48, h0_49, h0_50, h0_51, h0_52, h0_53, h0_54, h0_55, h0_56, h0_57, h0_58, h0_59, h0_60, h0_61, h0_62, h0_63, h0_64, h0_65, h0_66, h0_67, h0_68, h0_69])), (hl1, .inl (chl1, 144, .inl (fun _ => 0))), (hr1, .inl (chr1, 12, .inl (fun _ => 0)))] → va_S A s.heap H locs → lv_has ls 4 [(1, .int (nI j_14)), (0, .ref h0)] → W p l e ({ frames := 0, cells := 0, slots := 0, locals := 0 } : Room) s m ([.ref h0] : List Value).toArray below meth c H locs 0 0 QQ (F0 m 196 ls []) := by
            intro n_15
            induction n_15 with
            | zero =>
              intro j_14  H locs ls hjn  hP hD hS hl
              obtain rfl : j_14 = 12 := by omega
              have hl : lv_has ls 4 [(1, .int 12), (0, .ref h0)] := hl
              refine lv_iload_n hx hb dX12_orders_196 rfl (lv_at hl 0 rfl) ?_
              refine lv_bipush (v := 12) hx hb dX12_orders_197 (by decide) ?_
              refine lv_icmp_ge (tgt := 232) hx hb dX12_orders_199 (by decide) (fun _ => ?_) (fun c_17 => absurd (by decide) c_17)
              refine lv_iconst (v := 0) hx hb dX12_orders_232 (by decide) ?_
              refine lv_istore_n (lv' := [(1, .int 0), (0, .ref h0)]) hx hb dX12_orders_233 rfl hl (by decide) rfl (fun ls hl => ?_)
              have loop_18 : ∀ (n_20 j_19 : Nat) (H : Heap) (locs : List Loc) (ls : Array Slot), j_19 + n_20 = 12 → va_P (dC, dI) vwCl [(h0, .inr (12, [h0_0, h0_1, h0_2, h0_3, .int 0, h0_5, h0_6, h0_7, h0_8, h0_9, h0_10, h0_11, .ref hl1, .ref hr1, h0_14, h0_15, .int 0, h0_17, h0_18, h0_19, h0_20, h0_21, h0_22, h0_23, h0_24, h0_25, h0_26, h0_27, h0_28, h0_29, h0_30, h0_31, h0_32, h0_33, h0_34, h0_35, h0_36, h0_37, h0_38, h0_39, h0_40, h0_41, h0_42, h0_43, h0_44, h0_45, h0_46, h0_47, h0_48, h0_49, h0_50, h0_51, h0_52, h0_53, h0_54, h0_55, h0_56, h0_57, h0_58, h0_59, h0_60, h0_61, h0_62, h0_63, h0_64, h0_65, h0_66, h0_67, h0_68, h0_69])), (hl1, .inl (chl1, 144, .inl (fun _ => 0))), (hr1, .inl (chr1, 12, .inl (fun _ => 0)))] H → va_D A [(h0, .inr (12, [h0_0, h0_1, h0_2, h0_3, .int 0, h0_5, h0_6, h0_7, h0_8, h0_9, h0_10, h0_11, .ref hl1, .ref hr1, h0_14, h0_15, .int 0, h0_17, h0_18, h0_19, h0_20, h0_21, h0_22, h0_23, h0_24, h0_25, h0_26, h0_27, h0_28, h0_29, h0_30, h0_31, h0_32, h0_33, h0_34, h0_35, h0_36, h0_37, h0_38, h0_39, h0_40, h0_41, h0_42, h0_43, h0_44, h0_45, h0_46, h0_47, h0_48, h0_49, h0_50, h0_51, h0_52, h0_53, h0_54, h0_55, h0_56, h0_57, h0_58, h0_59, h0_60, h0_61, h0_62, h0_63, h0_64, h0_65, h0_66, h0_67, h0_68, h0_69])), (hl1, .inl (chl1, 144, .inl (fun _ => 0))), (hr1, .inl (chr1, 12, .inl (fun _ => 0)))] → va_S A s.heap H locs → lv_has ls 4 [(1, .int (nI j_19)), (0, .ref h0)] → W p l e ({ frames := 0, cells := 0, slots := 0, locals := 0 } : Room) s m ([.ref h0] : List Value).toArray below meth c H locs 0 0 QQ (F0 m 234 ls []) := by
                intro n_20
                induction n_20 with
                | zero =>
                  intro j_19  H locs ls hjn  hP hD hS hl
                  obtain rfl : j_19 = 12 := by omega
                  have hl : lv_has ls 4 [(1, .int 12), (0, .ref h0)] := hl
                  refine lv_iload_n hx hb dX12_orders_234 rfl (lv_at hl 0 rfl) ?_
                  refine lv_bipush (v := 12) hx hb dX12_orders_235 (by decide) ?_
                  refine lv_icmp_ge (tgt := 253) hx hb dX12_orders_237 (by decide) (fun _ => ?_) (fun c_22 => absurd (by decide) c_22)
                  refine lv_iconst (v := 0) hx hb dX12_orders_253 (by decide) ?_
                  refine lv_istore_n (lv' := [(1, .int 0), (0, .ref h0)]) hx hb dX12_orders_254 rfl hl (by decide) rfl (fun ls hl => ?_)
                  have loop_23 : ∀ (n_25 j_24 : Nat) (H : Heap) (locs : List Loc) (ls : Array Slot), j_24 + n_25 = 12 → va_P (dC, dI) vwCl [(h0, .inr (12, [h0_0, h0_1, h0_2, h0_3, .int 0, h0_5, h0_6, h0_7, h0_8, h0_9, h0_10, h0_11, .ref hl1, .ref hr1, h0_14, h0_15, .int 0, h0_17, h0_18, h0_19, h0_20, h0_21, h0_22, h0_23, h0_24, h0_25, h0_26, h0_27, h0_28, h0_29, h0_30, h0_31, h0_32, h0_33, h0_34, h0_35, h0_36, h0_37, h0_38, h0_39, h0_40, h0_41, h0_42, h0_43, h0_44, h0_45, h0_46, h0_47, h0_48, h0_49, h0_50, h0_51, h0_52, h0_53, h0_54, h0_55, h0_56, h0_57, h0_58, h0_59, h0_60, h0_61, h0_62, h0_63, h0_64, h0_65, h0_66, h0_67, h0_68, h0_69])), (hl1, .inl (chl1, 144, .inl (fun _ => 0))), (hr1, .inl (chr1, 12, .inl (fun _ => 0)))] H → va_D A [(h0, .inr (12, [h0_0, h0_1, h0_2, h0_3, .int 0, h0_5, h0_6, h0_7, h0_8, h0_9, h0_10, h0_11, .ref hl1, .ref hr1, h0_14, h0_15, .int 0, h0_17, h0_18, h0_19, h0_20, h0_21, h0_22, h0_23, h0_24, h0_25, h0_26, h0_27, h0_28, h0_29, h0_30, h0_31, h0_32, h0_33, h0_34, h0_35, h0_36, h0_37, h0_38, h0_39, h0_40, h0_41, h0_42, h0_43, h0_44, h0_45, h0_46, h0_47, h0_48, h0_49, h0_50, h0_51, h0_52, h0_53, h0_54, h0_55, h0_56, h0_57, h0_58, h0_59, h0_60, h0_61, h0_62, h0_63, h0_64, h0_65, h0_66, h0_67, h0_68, h0_69])), (hl1, .inl (chl1, 144, .inl (fun _ => 0))), (hr1, .inl (chr1, 12, .inl (fun _ => 0)))] → va_S A s.heap H locs → lv_has ls 4 [(1, .int (nI j_24)), (0, .ref h0)] → W p l e ({ frames := 0, cells := 0, slots := 0, locals := 0 } : Room) s m ([.ref h0] : List Value).toArray below meth c H locs 0 0 QQ (F0 m 255 ls []) := by
                    intro n_25
                    induction n_25 with
                    | zero =>
                      intro j_24  H locs ls hjn  hP hD hS hl
                      obtain rfl : j_24 = 12 := by omega
                      have hl : lv_has ls 4 [(1, .int 12), (0, .ref h0)] := hl
                      refine lv_iload_n hx hb dX12_orders_255 rfl (lv_at hl 0 rfl) ?_
                      refine lv_bipush (v := 12) hx hb dX12_orders_256 (by decide) ?_
                      refine lv_icmp_ge (tgt := 345) hx hb dX12_orders_258 (by decide) (fun _ => ?_) (fun c_27 => absurd (by decide) c_27)
                      refine z_backQ hQQ ?_
                      have hP9 := hP.sub (ws' := [(h0, .inr (12, [h0_0, h0_1, h0_2, h0_3, .int 0, h0_5, h0_6, h0_7, h0_8, h0_9, h0_10, h0_11, .ref hl1, .ref hr1, h0_14, h0_15, .int 0, h0_17, h0_18, h0_19, h0_20, h0_21, h0_22, h0_23, h0_24, h0_25, h0_26, h0_27, h0_28, h0_29, h0_30, h0_31, h0_32, h0_33, h0_34, h0_35, h0_36, h0_37, h0_38, h0_39, h0_40, h0_41, h0_42, h0_43, h0_44, h0_45, h0_46, h0_47, h0_48, h0_49, h0_50, h0_51, h0_52, h0_53, h0_54, h0_55, h0_56, h0_57, h0_58, h0_59, h0_60, h0_61, h0_62, h0_63, h0_64, h0_65, h0_66, h0_67, h0_68, h0_69])), (hl1, .inl (chl1, 144, .inl (fun _ => 0))), (hr1, .inl (chr1, 12, .inl (fun _ => 0)))]) [0, 1, 2] rfl
                      have hD9 := hD.sub (ws' := [(h0, .inr (12, [h0_0, h0_1, h0_2, h0_3, .int 0, h0_5, h0_6, h0_7, h0_8, h0_9, h0_10, h0_11, .ref hl1, .ref hr1, h0_14, h0_15, .int 0, h0_17, h0_18, h0_19, h0_20, h0_21, h0_22, h0_23, h0_24, h0_25, h0_26, h0_27, h0_28, h0_29, h0_30, h0_31, h0_32, h0_33, h0_34, h0_35, h0_36, h0_37, h0_38, h0_39, h0_40, h0_41, h0_42, h0_43, h0_44, h0_45, h0_46, h0_47, h0_48, h0_49, h0_50, h0_51, h0_52, h0_53, h0_54, h0_55, h0_56, h0_57, h0_58, h0_59, h0_60, h0_61, h0_62, h0_63, h0_64, h0_65, h0_66, h0_67, h0_68, h0_69])), (hl1, .inl (chl1, 144, .inl (fun _ => 0))), (hr1, .inl (chr1, 12, .inl (fun _ => 0)))]) [0, 1, 2] (by decide) rfl
                      have hK9 := hK.sub (tys' := []) [] rfl
                      refine W.widen (k := 0) (n := 0) (Nat.le_of_ble_eq_true rfl) (Nat.le_of_ble_eq_true rfl) ?_
                      exact W.vret hx hb hr (fun t ht hW => ⟨⟨(), rfl, trivial, ⟨by rw [ht]; exact hP9, va_K.moved hW.alike hK9, hD9⟩⟩, hS.F ht⟩) hS.2.2 dX12_orders_345
                    | succ n_25 ih_26 =>
                      intro j_24  H locs ls hjn  hP hD hS hl
                      have hj_28 : j_24 < 12 := by omega
                      refine lv_iload_n hx hb dX12_orders_255 rfl (lv_at hl 0 rfl) ?_
                      refine lv_bipush (v := 12) hx hb dX12_orders_256 (by decide) ?_
                      refine lv_icmp_ge (tgt := 345) hx hb dX12_orders_258 (by decide) (fun c_29 => ?_) (fun c_29 => ?_)
                      · exfalso
                        have k_30 := z_le c_29
                        rw [nI_toInt (show j_24 < 2 ^ 31 by omega)] at k_30
                        have k_30 : (12 : Int) ≤ ((j_24 : Nat) : Int) := k_30
                        omega
                      refine lv_aload_n hx hb dX12_orders_261 rfl (lv_at hl 1 rfl) ?_
                      refine va_get (D := (dC, dI)) (ci := 12) (v := .int 0) (C := RX12) (T := TX12) (N := 70) hx hb hts hiX12 hown hK hP 0 rfl rfl 16 (by decide) w__fieldLink_RX12_167_ShellHeapModel_quarrelNow_I_ (fun _ h9 => h9) rfl dX12_orders_262 ?_
                      refine lv_if_ne (tgt := 345) hx hb dX12_orders_265 (by decide) (fun c_31 => absurd c_31 (by decide)) (fun _ => ?_)
                      refine lv_iconst (v := 0) hx hb dX12_orders_268 (by decide) ?_
                      refine lv_istore_n (lv' := [(2, .int 0), (1, .int (nI j_24)), (0, .ref h0)]) hx hb dX12_orders_269 rfl hl (by decide) rfl (fun ls hl => ?_)
                      have loop_32 : ∀ (n_34 j_33 : Nat) (H : Heap) (locs : List Loc) (ls : Array Slot), j_33 + n_34 = 12 → va_P (dC, dI) vwCl [(h0, .inr (12, [h0_0, h0_1, h0_2, h0_3, .int 0, h0_5, h0_6, h0_7, h0_8, h0_9, h0_10, h0_11, .ref hl1, .ref hr1, h0_14, h0_15, .int 0, h0_17, h0_18, h0_19, h0_20, h0_21, h0_22, h0_23, h0_24, h0_25, h0_26, h0_27, h0_28, h0_29, h0_30, h0_31, h0_32, h0_33, h0_34, h0_35, h0_36, h0_37, h0_38, h0_39, h0_40, h0_41, h0_42, h0_43, h0_44, h0_45, h0_46, h0_47, h0_48, h0_49, h0_50, h0_51, h0_52, h0_53, h0_54, h0_55, h0_56, h0_57, h0_58, h0_59, h0_60, h0_61, h0_62, h0_63, h0_64, h0_65, h0_66, h0_67, h0_68, h0_69])), (hl1, .inl (chl1, 144, .inl (fun _ => 0))), (hr1, .inl (chr1, 12, .inl (fun _ => 0)))] H → va_D A [(h0, .inr (12, [h0_0, h0_1, h0_2, h0_3, .int 0, h0_5, h0_6, h0_7, h0_8, h0_9, h0_10, h0_11, .ref hl1, .ref hr1, h0_14, h0_15, .int 0, h0_17, h0_18, h0_19, h0_20, h0_21, h0_22, h0_23, h0_24, h0_25, h0_26, h0_27, h0_28, h0_29, h0_30, h0_31, h0_32, h0_33, h0_34, h0_35, h0_36, h0_37, h0_38, h0_39, h0_40, h0_41, h0_42, h0_43, h0_44, h0_45, h0_46, h0_47, h0_48, h0_49, h0_50, h0_51, h0_52, h0_53, h0_54, h0_55, h0_56, h0_57, h0_58, h0_59, h0_60, h0_61, h0_62, h0_63, h0_64, h0_65, h0_66, h0_67, h0_68, h0_69])), (hl1, .inl (chl1, 144, .inl (fun _ => 0))), (hr1, .inl (chr1, 12, .inl (fun _ => 0)))] → va_S A s.heap H locs → lv_has ls 4 [(2, .int (nI j_33)), (1, .int (nI j_24)), (0, .ref h0)] → W p l e ({ frames := 0, cells := 0, slots := 0, locals := 0 } : Room) s m ([.ref h0] : List Value).toArray below meth c H locs 0 0 QQ (F0 m 270 ls []) := by
                        intro n_34
                        induction n_34 with
                        | zero =>
                          intro j_33  H locs ls hjn  hP hD hS hl
                          obtain rfl : j_33 = 12 := by omega
                          have hl : lv_has ls 4 [(2, .int 12), (1, .int (nI j_24)), (0, .ref h0)] := hl
                          refine lv_iload_n hx hb dX12_orders_270 rfl (lv_at hl 0 rfl) ?_
                          refine lv_bipush (v := 12) hx hb dX12_orders_271 (by decide) ?_
                          refine lv_icmp_ge (tgt := 339) hx hb dX12_orders_273 (by decide) (fun _ => ?_) (fun c_36 => absurd (by decide) c_36)
                          refine lv_iinc (v := (nI (j_24 + 1))) (lv' := [(1, .int (nI (j_24 + 1))), (2, .int 12), (0, .ref h0)]) hx hb dX12_orders_339 hl (k := 1) rfl (nI_1 j_24) (by decide) rfl (fun ls hl => ?_)
                          refine lv_goto (tgt := 255) hx hb dX12_orders_342 (by decide) ?_
                          exact ih_26 (j_24 + 1)  _ _ _ (by omega)  hP hD hS (lv_sub hl [0, 2] rfl)
                        | succ n_34 ih_35 =>
                          intro j_33  H locs ls hjn  hP hD hS hl
                          have hj_37 : j_33 < 12 := by omega
                          refine lv_iload_n hx hb dX12_orders_270 rfl (lv_at hl 0 rfl) ?_
                          refine lv_bipush (v := 12) hx hb dX12_orders_271 (by decide) ?_
                          refine lv_icmp_ge (tgt := 339) hx hb dX12_orders_273 (by decide) (fun c_38 => ?_) (fun c_38 => ?_)
                          · exfalso
                            have k_39 := z_le c_38
                            rw [nI_toInt (show j_33 < 2 ^ 31 by omega)] at k_39
                            have k_39 : (12 : Int) ≤ ((j_33 : Nat) : Int) := k_39
                            omega
                          refine lv_iconst (v := 0) hx hb dX12_orders_276 (by decide) ?_
                          refine lv_istore_n (lv' := [(3, .int 0), (2, .int (nI j_33)), (1, .int (nI j_24)), (0, .ref h0)]) hx hb dX12_orders_277 rfl hl (by decide) rfl (fun ls hl => ?_)
                          have loop_40 : ∀ (n_42 j_41 : Nat) (H : Heap) (locs : List Loc) (ls : Array Slot), j_41 + n_42 = 12 → va_P (dC, dI) vwCl [(h0, .inr (12, [h0_0, h0_1, h0_2, h0_3, .int 0, h0_5, h0_6, h0_7, h0_8, h0_9, h0_10, h0_11, .ref hl1, .ref hr1, h0_14, h0_15, .int 0, h0_17, h0_18, h0_19, h0_20, h0_21, h0_22, h0_23, h0_24, h0_25, h0_26, h0_27, h0_28, h0_29, h0_30, h0_31, h0_32, h0_33, h0_34, h0_35, h0_36, h0_37, h0_38, h0_39, h0_40, h0_41, h0_42, h0_43, h0_44, h0_45, h0_46, h0_47, h0_48, h0_49, h0_50, h0_51, h0_52, h0_53, h0_54, h0_55, h0_56, h0_57, h0_58, h0_59, h0_60, h0_61, h0_62, h0_63, h0_64, h0_65, h0_66, h0_67, h0_68, h0_69])), (hl1, .inl (chl1, 144, .inl (fun _ => 0))), (hr1, .inl (chr1, 12, .inl (fun _ => 0)))] H → va_D A [(h0, .inr (12, [h0_0, h0_1, h0_2, h0_3, .int 0, h0_5, h0_6, h0_7, h0_8, h0_9, h0_10, h0_11, .ref hl1, .ref hr1, h0_14, h0_15, .int 0, h0_17, h0_18, h0_19, h0_20, h0_21, h0_22, h0_23, h0_24, h0_25, h0_26, h0_27, h0_28, h0_29, h0_30, h0_31, h0_32, h0_33, h0_34, h0_35, h0_36, h0_37, h0_38, h0_39, h0_40, h0_41, h0_42, h0_43, h0_44, h0_45, h0_46, h0_47, h0_48, h0_49, h0_50, h0_51, h0_52, h0_53, h0_54, h0_55, h0_56, h0_57, h0_58, h0_59, h0_60, h0_61, h0_62, h0_63, h0_64, h0_65, h0_66, h0_67, h0_68, h0_69])), (hl1, .inl (chl1, 144, .inl (fun _ => 0))), (hr1, .inl (chr1, 12, .inl (fun _ => 0)))] → va_S A s.heap H locs → lv_has ls 4 [(3, .int (nI j_41)), (2, .int (nI j_33)), (1, .int (nI j_24)), (0, .ref h0)] → W p l e ({ frames := 0, cells := 0, slots := 0, locals := 0 } : Room) s m ([.ref h0] : List Value).toArray below meth c H locs 0 0 QQ (F0 m 278 ls []) := by
                            intro n_42
                            induction n_42 with
                            | zero =>
                              intro j_41  H locs ls hjn  hP hD hS hl
                              obtain rfl : j_41 = 12 := by omega
                              have hl : lv_has ls 4 [(3, .int 12), (2, .int (nI j_33)), (1, .int (nI j_24)), (0, .ref h0)] := hl
                              refine lv_iload_n hx hb dX12_orders_278 rfl (lv_at hl 0 rfl) ?_
                              refine lv_bipush (v := 12) hx hb dX12_orders_279 (by decide) ?_
                              refine lv_icmp_ge (tgt := 333) hx hb dX12_orders_281 (by decide) (fun _ => ?_) (fun c_44 => absurd (by decide) c_44)
                              refine lv_iinc (v := (nI (j_33 + 1))) (lv' := [(2, .int (nI (j_33 + 1))), (3, .int 12), (1, .int (nI j_24)), (0, .ref h0)]) hx hb dX12_orders_333 hl (k := 1) rfl (nI_1 j_33) (by decide) rfl (fun ls hl => ?_)
                              refine lv_goto (tgt := 270) hx hb dX12_orders_336 (by decide) ?_
                              exact ih_35 (j_33 + 1)  _ _ _ (by omega)  hP hD hS (lv_sub hl [0, 2, 3] rfl)
                            | succ n_42 ih_43 =>
                              intro j_41  H locs ls hjn  hP hD hS hl
                              have hj_45 : j_41 < 12 := by omega
                              refine lv_iload_n hx hb dX12_orders_278 rfl (lv_at hl 0 rfl) ?_
                              refine lv_bipush (v := 12) hx hb dX12_orders_279 (by decide) ?_
                              refine lv_icmp_ge (tgt := 333) hx hb dX12_orders_281 (by decide) (fun c_46 => ?_) (fun c_46 => ?_)
                              · exfalso
                                have k_47 := z_le c_46
                                rw [nI_toInt (show j_41 < 2 ^ 31 by omega)] at k_47
                                have k_47 : (12 : Int) ≤ ((j_41 : Nat) : Int) := k_47
                                omega
                              refine lv_aload_n hx hb dX12_orders_284 rfl (lv_at hl 3 rfl) ?_
                              refine va_get (D := (dC, dI)) (ci := 12) (v := .ref hl1) (C := RX12) (T := TX12) (N := 70) hx hb hts hiX12 hown hK hP 0 rfl rfl 12 (by decide) w__fieldLink_RX12_35_ShellHeapModel_later_Z_ (fun _ h9 => h9) rfl dX12_orders_285 ?_
                              refine lv_bipush (v := 12) hx hb dX12_orders_288 (by decide) ?_
                              refine lv_iload_n hx hb dX12_orders_290 rfl (lv_at hl 1 rfl) ?_
                              refine lv_imul hx hb dX12_orders_291 ?_
                              refine lv_topi (fun x_48 e_49 => ?_)
                              obtain rfl : x_48 = (nI (12 * j_33)) := e_49.trans (pk_mul 12 j_33)
                              refine lv_iload_n hx hb dX12_orders_292 rfl (lv_at hl 0 rfl) ?_
                              refine lv_iadd hx hb dX12_orders_293 ?_
                              refine lv_topi (fun x_50 e_51 => ?_)
                              obtain rfl : x_50 = (nI ((12 * j_33) + j_41)) := e_51.trans (nI_add (12 * j_33) j_41)
                              refine va_zald hx hb hK hP 1 0 rfl rfl (vp_in_nI (show (12 * j_33) + j_41 < 144 by omega) (by decide)) dX12_orders_294 ?_
                              refine lv_topi (fun x_52 e_53 => ?_)
                              obtain rfl : x_52 = 0 := e_53
                              refine lv_if_eq (tgt := 327) hx hb dX12_orders_295 (by decide) (fun _ => ?_) (fun c_54 => absurd (by decide) c_54)
                              refine lv_iinc (v := (nI (j_41 + 1))) (lv' := [(3, .int (nI (j_41 + 1))), (2, .int (nI j_33)), (1, .int (nI j_24)), (0, .ref h0)]) hx hb dX12_orders_327 hl (k := 0) rfl (nI_1 j_41) (by decide) rfl (fun ls hl => ?_)
                              refine lv_goto (tgt := 278) hx hb dX12_orders_330 (by decide) ?_
                              exact ih_43 (j_41 + 1)  _ _ _ (by omega)  hP hD hS (lv_sub hl [0, 1, 2, 3] rfl)
                          exact loop_40 12 0  _ _ _ (by omega)  hP hD hS hl
                      exact loop_32 12 0  _ _ _ (by omega)  hP hD hS hl
                  exact loop_23 12 0  _ _ _ (by omega)  hP hD hS hl
                | succ n_20 ih_21 =>
                  intro j_19  H locs ls hjn  hP hD hS hl
                  have hj_55 : j_19 < 12 := by omega
                  refine lv_iload_n hx hb dX12_orders_234 rfl (lv_at hl 0 rfl) ?_
                  refine lv_bipush (v := 12) hx hb dX12_orders_235 (by decide) ?_
                  refine lv_icmp_ge (tgt := 253) hx hb dX12_orders_237 (by decide) (fun c_56 => ?_) (fun c_56 => ?_)
                  · exfalso
                    have k_57 := z_le c_56
                    rw [nI_toInt (show j_19 < 2 ^ 31 by omega)] at k_57
                    have k_57 : (12 : Int) ≤ ((j_19 : Nat) : Int) := k_57
                    omega
                  refine lv_aload_n hx hb dX12_orders_240 rfl (lv_at hl 1 rfl) ?_
                  refine va_get (D := (dC, dI)) (ci := 12) (v := .ref hr1) (C := RX12) (T := TX12) (N := 70) hx hb hts hiX12 hown hK hP 0 rfl rfl 13 (by decide) w__fieldLink_RX12_38_ShellHeapModel_rank_I_ (fun _ h9 => h9) rfl dX12_orders_241 ?_
                  refine lv_iload_n hx hb dX12_orders_244 rfl (lv_at hl 0 rfl) ?_
                  refine lv_iconst (v := 0) hx hb dX12_orders_245 (by decide) ?_
                  refine va_iast hx hb hK hP hD hS 2 1 rfl rfl (vp_in_nI (show j_19 < 12 by omega) (by decide)) dX12_orders_246 (fun H_58 locs hP hD hS => ?_)
                  have hP : va_P (dC, dI) vwCl [(h0, .inr (12, [h0_0, h0_1, h0_2, h0_3, .int 0, h0_5, h0_6, h0_7, h0_8, h0_9, h0_10, h0_11, .ref hl1, .ref hr1, h0_14, h0_15, .int 0, h0_17, h0_18, h0_19, h0_20, h0_21, h0_22, h0_23, h0_24, h0_25, h0_26, h0_27, h0_28, h0_29, h0_30, h0_31, h0_32, h0_33, h0_34, h0_35, h0_36, h0_37, h0_38, h0_39, h0_40, h0_41, h0_42, h0_43, h0_44, h0_45, h0_46, h0_47, h0_48, h0_49, h0_50, h0_51, h0_52, h0_53, h0_54, h0_55, h0_56, h0_57, h0_58, h0_59, h0_60, h0_61, h0_62, h0_63, h0_64, h0_65, h0_66, h0_67, h0_68, h0_69])), (hl1, .inl (chl1, 144, .inl (fun _ => 0))), (hr1, .inl (chr1, 12, .inl (upd (fun _ => 0) ((nI j_19) : Int32).toNatClampNeg 0)))] H_58 := hP
                  have hD : va_D A [(h0, .inr (12, [h0_0, h0_1, h0_2, h0_3, .int 0, h0_5, h0_6, h0_7, h0_8, h0_9, h0_10, h0_11, .ref hl1, .ref hr1, h0_14, h0_15, .int 0, h0_17, h0_18, h0_19, h0_20, h0_21, h0_22, h0_23, h0_24, h0_25, h0_26, h0_27, h0_28, h0_29, h0_30, h0_31, h0_32, h0_33, h0_34, h0_35, h0_36, h0_37, h0_38, h0_39, h0_40, h0_41, h0_42, h0_43, h0_44, h0_45, h0_46, h0_47, h0_48, h0_49, h0_50, h0_51, h0_52, h0_53, h0_54, h0_55, h0_56, h0_57, h0_58, h0_59, h0_60, h0_61, h0_62, h0_63, h0_64, h0_65, h0_66, h0_67, h0_68, h0_69])), (hl1, .inl (chl1, 144, .inl (fun _ => 0))), (hr1, .inl (chr1, 12, .inl (upd (fun _ => 0) ((nI j_19) : Int32).toNatClampNeg 0)))] := hD
                  rw [show (upd (fun _ => 0) ((nI j_19) : Int32).toNatClampNeg 0) = (fun _ => 0) from z_upd0 _] at hP hD
                  refine lv_iinc (v := (nI (j_19 + 1))) (lv' := [(1, .int (nI (j_19 + 1))), (0, .ref h0)]) hx hb dX12_orders_247 hl (k := 0) rfl (nI_1 j_19) (by decide) rfl (fun ls hl => ?_)
                  refine lv_goto (tgt := 234) hx hb dX12_orders_250 (by decide) ?_
                  exact ih_21 (j_19 + 1)  _ _ _ (by omega)  hP hD hS (lv_sub hl [0, 1] rfl)
              exact loop_18 12 0  _ _ _ (by omega)  hP hD hS hl
            | succ n_15 ih_16 =>
              intro j_14  H locs ls hjn  hP hD hS hl
              have hj_59 : j_14 < 12 := by omega
              refine lv_iload_n hx hb dX12_orders_196 rfl (lv_at hl 0 rfl) ?_
              refine lv_bipush (v := 12) hx hb dX12_orders_197 (by decide) ?_
              refine lv_icmp_ge (tgt := 232) hx hb dX12_orders_199 (by decide) (fun c_60 => ?_) (fun c_60 => ?_)
              · exfalso
                have k_61 := z_le c_60
                rw [nI_toInt (show j_14 < 2 ^ 31 by omega)] at k_61
                have k_61 : (12 : Int) ≤ ((j_14 : Nat) : Int) := k_61
                omega
              refine lv_aload_n hx hb dX12_orders_202 rfl (lv_at hl 1 rfl) ?_
              refine lv_aload_n hx hb dX12_orders_203 rfl (lv_at hl 1 rfl) ?_
              refine va_get (D := (dC, dI)) (ci := 12) (v := .ref hl1) (C := RX12) (T := TX12) (N := 70) hx hb hts hiX12 hown hK hP 0 rfl rfl 12 (by decide) w__fieldLink_RX12_35_ShellHeapModel_later_Z_ (fun _ h9 => h9) rfl dX12_orders_204 ?_
              refine lv_bipush (v := 13) hx hb dX12_orders_207 (by decide) ?_
              refine lv_iload_n hx hb dX12_orders_209 rfl (lv_at hl 0 rfl) ?_
              refine lv_imul hx hb dX12_orders_210 ?_
              refine lv_topi (fun x_62 e_63 => ?_)
              obtain rfl : x_62 = (nI (13 * j_14)) := e_63.trans (pk_mul 13 j_14)
              refine va_zald hx hb hK hP 1 0 rfl rfl (vp_in_nI (show 13 * j_14 < 144 by omega) (by decide)) dX12_orders_211 ?_
              refine lv_topi (fun x_64 e_65 => ?_)
              obtain rfl : x_64 = 0 := e_65
              refine lv_if_eq (tgt := 219) hx hb dX12_orders_212 (by decide) (fun _ => ?_) (fun c_66 => absurd (by decide) c_66)
              refine lv_aload_n hx hb dX12_orders_219 rfl (lv_at hl 1 rfl) ?_
              refine va_get (D := (dC, dI)) (ci := 12) (v := .int 0) (C := RX12) (T := TX12) (N := 70) hx hb hts hiX12 hown hK hP 0 rfl rfl 16 (by decide) w__fieldLink_RX12_167_ShellHeapModel_quarrelNow_I_ (fun _ h9 => h9) rfl dX12_orders_220 ?_
              refine va_put (D := (dC, dI)) (ci := 12) (v := .int 0) (ty := .int) (C := RX12) (T := TX12) (N := 70) hx hb hts hiX12 tyX12 tyX12_ok nmX12 hown hK hP hD hS 0 rfl rfl 16 (by decide) w__fieldLink_RX12_167_ShellHeapModel_quarrelNow_I_ (fun _ h9 => h9) rfl (by decide +kernel) rfl rfl (Nat.le_of_ble_eq_true rfl) dX12_orders_223 (fun H_67 locs hP hD hS => ?_)
              have hP : va_P (dC, dI) vwCl [(h0, .inr (12, [h0_0, h0_1, h0_2, h0_3, .int 0, h0_5, h0_6, h0_7, h0_8, h0_9, h0_10, h0_11, .ref hl1, .ref hr1, h0_14, h0_15, .int 0, h0_17, h0_18, h0_19, h0_20, h0_21, h0_22, h0_23, h0_24, h0_25, h0_26, h0_27, h0_28, h0_29, h0_30, h0_31, h0_32, h0_33, h0_34, h0_35, h0_36, h0_37, h0_38, h0_39, h0_40, h0_41, h0_42, h0_43, h0_44, h0_45, h0_46, h0_47, h0_48, h0_49, h0_50, h0_51, h0_52, h0_53, h0_54, h0_55, h0_56, h0_57, h0_58, h0_59, h0_60, h0_61, h0_62, h0_63, h0_64, h0_65, h0_66, h0_67, h0_68, h0_69])), (hl1, .inl (chl1, 144, .inl (fun _ => 0))), (hr1, .inl (chr1, 12, .inl (fun _ => 0)))] H_67 := hP
              have hD : va_D A [(h0, .inr (12, [h0_0, h0_1, h0_2, h0_3, .int 0, h0_5, h0_6, h0_7, h0_8, h0_9, h0_10, h0_11, .ref hl1, .ref hr1, h0_14, h0_15, .int 0, h0_17, h0_18, h0_19, h0_20, h0_21, h0_22, h0_23, h0_24, h0_25, h0_26, h0_27, h0_28, h0_29, h0_30, h0_31, h0_32, h0_33, h0_34, h0_35, h0_36, h0_37, h0_38, h0_39, h0_40, h0_41, h0_42, h0_43, h0_44, h0_45, h0_46, h0_47, h0_48, h0_49, h0_50, h0_51, h0_52, h0_53, h0_54, h0_55, h0_56, h0_57, h0_58, h0_59, h0_60, h0_61, h0_62, h0_63, h0_64, h0_65, h0_66, h0_67, h0_68, h0_69])), (hl1, .inl (chl1, 144, .inl (fun _ => 0))), (hr1, .inl (chr1, 12, .inl (fun _ => 0)))] := hD
              refine lv_iinc (v := (nI (j_14 + 1))) (lv' := [(1, .int (nI (j_14 + 1))), (0, .ref h0)]) hx hb dX12_orders_226 hl (k := 0) rfl (nI_1 j_14) (by decide) rfl (fun ls hl => ?_)
              refine lv_goto (tgt := 196) hx hb dX12_orders_229 (by decide) ?_
              exact ih_16 (j_14 + 1)  _ _ _ (by omega)  hP hD hS (lv_sub hl [0, 1] rfl)
          exact loop_13 12 0  _ _ _ (by omega)  hP hD hS hl
        | succ n_9 ih_10 =>
          intro j_8  H locs ls hjn  hP hD hS hl
          have hj_68 : j_8 < 12 := by omega
          refine lv_iload_n hx hb dX12_orders_91 rfl (lv_at hl 0 rfl) ?_
          refine lv_bipush (v := 12) hx hb dX12_orders_92 (by decide) ?_
          refine lv_icmp_ge (tgt := 189) hx hb dX12_orders_94 (by decide) (fun c_69 => ?_) (fun c_69 => ?_)
          · exfalso
            have k_70 := z_le c_69
            rw [nI_toInt (show j_8 < 2 ^ 31 by omega)] at k_70
            have k_70 : (12 : Int) ≤ ((j_8 : Nat) : Int) := k_70
            omega
          refine lv_iconst (v := 0) hx hb dX12_orders_97 (by decide) ?_
          refine lv_istore_n (lv' := [(2, .int 0), (1, .int (nI j_8)), (0, .ref h0)]) hx hb dX12_orders_98 rfl hl (by decide) rfl (fun ls hl => ?_)
          have loop_71 : ∀ (n_73 j_72 : Nat) (H : Heap) (locs : List Loc) (ls : Array Slot), j_72 + n_73 = 12 → va_P (dC, dI) vwCl [(h0, .inr (12, [h0_0, h0_1, h0_2, h0_3, .int 0, h0_5, h0_6, h0_7, h0_8, h0_9, h0_10, h0_11, .ref hl1, .ref hr1, h0_14, h0_15, h0_16, h0_17, h0_18, h0_19, h0_20, h0_21, h0_22, h0_23, h0_24, h0_25, h0_26, h0_27, h0_28, h0_29, h0_30, h0_31, h0_32, h0_33, h0_34, h0_35, h0_36, h0_37, h0_38, h0_39, h0_40, h0_41, h0_42, h0_43, h0_44, h0_45, h0_46, h0_47, h0_48, h0_49, h0_50, h0_51, h0_52, h0_53, h0_54, h0_55, h0_56, h0_57, h0_58, h0_59, h0_60, h0_61, h0_62, h0_63, h0_64, h0_65, h0_66, h0_67, h0_68, h0_69])), (hl1, .inl (chl1, 144, .inl (fun _ => 0))), (hr1, .inl (chr1, 12, .inl (fun _ => 0)))] H → va_D A [(h0, .inr (12, [h0_0, h0_1, h0_2, h0_3, .int 0, h0_5, h0_6, h0_7, h0_8, h0_9, h0_10, h0_11, .ref hl1, .ref hr1, h0_14, h0_15, h0_16, h0_17, h0_18, h0_19, h0_20, h0_21, h0_22, h0_23, h0_24, h0_25, h0_26, h0_27, h0_28, h0_29, h0_30, h0_31, h0_32, h0_33, h0_34, h0_35, h0_36, h0_37, h0_38, h0_39, h0_40, h0_41, h0_42, h0_43, h0_44, h0_45, h0_46, h0_47, h0_48, h0_49, h0_50, h0_51, h0_52, h0_53, h0_54, h0_55, h0_56, h0_57, h0_58, h0_59, h0_60, h0_61, h0_62, h0_63, h0_64, h0_65, h0_66, h0_67, h0_68, h0_69])), (hl1, .inl (chl1, 144, .inl (fun _ => 0))), (hr1, .inl (chr1, 12, .inl (fun _ => 0)))] → va_S A s.heap H locs → lv_has ls 4 [(2, .int (nI j_72)), (1, .int (nI j_8)), (0, .ref h0)] → W p l e ({ frames := 0, cells := 0, slots := 0, locals := 0 } : Room) s m ([.ref h0] : List Value).toArray below meth c H locs 0 0 QQ (F0 m 99 ls []) := by
            intro n_73
            induction n_73 with
            | zero =>
              intro j_72  H locs ls hjn  hP hD hS hl
              obtain rfl : j_72 = 12 := by omega
              have hl : lv_has ls 4 [(2, .int 12), (1, .int (nI j_8)), (0, .ref h0)] := hl
              refine lv_iload_n hx hb dX12_orders_99 rfl (lv_at hl 0 rfl) ?_
              refine lv_bipush (v := 12) hx hb dX12_orders_100 (by decide) ?_
              refine lv_icmp_ge (tgt := 183) hx hb dX12_orders_102 (by decide) (fun _ => ?_) (fun c_75 => absurd (by decide) c_75)
              refine lv_iinc (v := (nI (j_8 + 1))) (lv' := [(1, .int (nI (j_8 + 1))), (2, .int 12), (0, .ref h0)]) hx hb dX12_orders_183 hl (k := 1) rfl (nI_1 j_8) (by decide) rfl (fun ls hl => ?_)
              refine lv_goto (tgt := 91) hx hb dX12_orders_186 (by decide) ?_
              exact ih_10 (j_8 + 1)  _ _ _ (by omega)  hP hD hS (lv_sub hl [0, 2] rfl)
            | succ n_73 ih_74 =>
              intro j_72  H locs ls hjn  hP hD hS hl
              have hj_76 : j_72 < 12 := by omega
              refine lv_iload_n hx hb dX12_orders_99 rfl (lv_at hl 0 rfl) ?_
              refine lv_bipush (v := 12) hx hb dX12_orders_100 (by decide) ?_
              refine lv_icmp_ge (tgt := 183) hx hb dX12_orders_102 (by decide) (fun c_77 => ?_) (fun c_77 => ?_)
              · exfalso
                have k_78 := z_le c_77
                rw [nI_toInt (show j_72 < 2 ^ 31 by omega)] at k_78
                have k_78 : (12 : Int) ≤ ((j_72 : Nat) : Int) := k_78
                omega
              refine lv_iconst (v := 0) hx hb dX12_orders_105 (by decide) ?_
              refine lv_istore_n (lv' := [(3, .int 0), (2, .int (nI j_72)), (1, .int (nI j_8)), (0, .ref h0)]) hx hb dX12_orders_106 rfl hl (by decide) rfl (fun ls hl => ?_)
              have loop_79 : ∀ (n_81 j_80 : Nat) (H : Heap) (locs : List Loc) (ls : Array Slot), j_80 + n_81 = 12 → va_P (dC, dI) vwCl [(h0, .inr (12, [h0_0, h0_1, h0_2, h0_3, .int 0, h0_5, h0_6, h0_7, h0_8, h0_9, h0_10, h0_11, .ref hl1, .ref hr1, h0_14, h0_15, h0_16, h0_17, h0_18, h0_19, h0_20, h0_21, h0_22, h0_23, h0_24, h0_25, h0_26, h0_27, h0_28, h0_29, h0_30, h0_31, h0_32, h0_33, h0_34, h0_35, h0_36, h0_37, h0_38, h0_39, h0_40, h0_41, h0_42, h0_43, h0_44, h0_45, h0_46, h0_47, h0_48, h0_49, h0_50, h0_51, h0_52, h0_53, h0_54, h0_55, h0_56, h0_57, h0_58, h0_59, h0_60, h0_61, h0_62, h0_63, h0_64, h0_65, h0_66, h0_67, h0_68, h0_69])), (hl1, .inl (chl1, 144, .inl (fun _ => 0))), (hr1, .inl (chr1, 12, .inl (fun _ => 0)))] H → va_D A [(h0, .inr (12, [h0_0, h0_1, h0_2, h0_3, .int 0, h0_5, h0_6, h0_7, h0_8, h0_9, h0_10, h0_11, .ref hl1, .ref hr1, h0_14, h0_15, h0_16, h0_17, h0_18, h0_19, h0_20, h0_21, h0_22, h0_23, h0_24, h0_25, h0_26, h0_27, h0_28, h0_29, h0_30, h0_31, h0_32, h0_33, h0_34, h0_35, h0_36, h0_37, h0_38, h0_39, h0_40, h0_41, h0_42, h0_43, h0_44, h0_45, h0_46, h0_47, h0_48, h0_49, h0_50, h0_51, h0_52, h0_53, h0_54, h0_55, h0_56, h0_57, h0_58, h0_59, h0_60, h0_61, h0_62, h0_63, h0_64, h0_65, h0_66, h0_67, h0_68, h0_69])), (hl1, .inl (chl1, 144, .inl (fun _ => 0))), (hr1, .inl (chr1, 12, .inl (fun _ => 0)))] → va_S A s.heap H locs → lv_has ls 4 [(3, .int (nI j_80)), (2, .int (nI j_72)), (1, .int (nI j_8)), (0, .ref h0)] → W p l e ({ frames := 0, cells := 0, slots := 0, locals := 0 } : Room) s m ([.ref h0] : List Value).toArray below meth c H locs 0 0 QQ (F0 m 107 ls []) := by
                intro n_81
                induction n_81 with
                | zero =>
                  intro j_80  H locs ls hjn  hP hD hS hl
                  obtain rfl : j_80 = 12 := by omega
                  have hl : lv_has ls 4 [(3, .int 12), (2, .int (nI j_72)), (1, .int (nI j_8)), (0, .ref h0)] := hl
                  refine lv_iload_n hx hb dX12_orders_107 rfl (lv_at hl 0 rfl) ?_
                  refine lv_bipush (v := 12) hx hb dX12_orders_108 (by decide) ?_
                  refine lv_icmp_ge (tgt := 177) hx hb dX12_orders_110 (by decide) (fun _ => ?_) (fun c_83 => absurd (by decide) c_83)
                  refine lv_iinc (v := (nI (j_72 + 1))) (lv' := [(2, .int (nI (j_72 + 1))), (3, .int 12), (1, .int (nI j_8)), (0, .ref h0)]) hx hb dX12_orders_177 hl (k := 1) rfl (nI_1 j_72) (by decide) rfl (fun ls hl => ?_)
                  refine lv_goto (tgt := 99) hx hb dX12_orders_180 (by decide) ?_
                  exact ih_74 (j_72 + 1)  _ _ _ (by omega)  hP hD hS (lv_sub hl [0, 2, 3] rfl)
                | succ n_81 ih_82 =>
                  intro j_80  H locs ls hjn  hP hD hS hl
                  have hj_84 : j_80 < 12 := by omega
                  refine lv_iload_n hx hb dX12_orders_107 rfl (lv_at hl 0 rfl) ?_
                  refine lv_bipush (v := 12) hx hb dX12_orders_108 (by decide) ?_
                  refine lv_icmp_ge (tgt := 177) hx hb dX12_orders_110 (by decide) (fun c_85 => ?_) (fun c_85 => ?_)
                  · exfalso
                    have k_86 := z_le c_85
                    rw [nI_toInt (show j_80 < 2 ^ 31 by omega)] at k_86
                    have k_86 : (12 : Int) ≤ ((j_80 : Nat) : Int) := k_86
                    omega
                  refine lv_aload_n hx hb dX12_orders_113 rfl (lv_at hl 3 rfl) ?_
                  refine va_get (D := (dC, dI)) (ci := 12) (v := .ref hl1) (C := RX12) (T := TX12) (N := 70) hx hb hts hiX12 hown hK hP 0 rfl rfl 12 (by decide) w__fieldLink_RX12_35_ShellHeapModel_later_Z_ (fun _ h9 => h9) rfl dX12_orders_114 ?_
                  refine lv_bipush (v := 12) hx hb dX12_orders_117 (by decide) ?_
                  refine lv_iload_n hx hb dX12_orders_119 rfl (lv_at hl 1 rfl) ?_
                  refine lv_imul hx hb dX12_orders_120 ?_
                  refine lv_topi (fun x_87 e_88 => ?_)
                  obtain rfl : x_87 = (nI (12 * j_72)) := e_88.trans (pk_mul 12 j_72)
                  refine lv_iload_n hx hb dX12_orders_121 rfl (lv_at hl 0 rfl) ?_
                  refine lv_iadd hx hb dX12_orders_122 ?_
                  refine lv_topi (fun x_89 e_90 => ?_)
                  obtain rfl : x_89 = (nI ((12 * j_72) + j_80)) := e_90.trans (nI_add (12 * j_72) j_80)
                  refine lv_aload_n hx hb dX12_orders_123 rfl (lv_at hl 3 rfl) ?_
                  refine va_get (D := (dC, dI)) (ci := 12) (v := .ref hl1) (C := RX12) (T := TX12) (N := 70) hx hb hts hiX12 hown hK hP 0 rfl rfl 12 (by decide) w__fieldLink_RX12_35_ShellHeapModel_later_Z_ (fun _ h9 => h9) rfl dX12_orders_124 ?_
                  refine lv_bipush (v := 12) hx hb dX12_orders_127 (by decide) ?_
                  refine lv_iload_n hx hb dX12_orders_129 rfl (lv_at hl 1 rfl) ?_
                  refine lv_imul hx hb dX12_orders_130 ?_
                  refine lv_topi (fun x_91 e_92 => ?_)
                  obtain rfl : x_91 = (nI (12 * j_72)) := e_92.trans (pk_mul 12 j_72)
                  refine lv_iload_n hx hb dX12_orders_131 rfl (lv_at hl 0 rfl) ?_
                  refine lv_iadd hx hb dX12_orders_132 ?_
                  refine lv_topi (fun x_93 e_94 => ?_)
                  obtain rfl : x_93 = (nI ((12 * j_72) + j_80)) := e_94.trans (nI_add (12 * j_72) j_80)
                  refine va_zald hx hb hK hP 1 0 rfl rfl (vp_in_nI (show (12 * j_72) + j_80 < 144 by omega) (by decide)) dX12_orders_133 ?_
                  refine lv_topi (fun x_95 e_96 => ?_)
                  obtain rfl : x_95 = 0 := e_96
                  refine lv_if_ne (tgt := 165) hx hb dX12_orders_134 (by decide) (fun c_97 => absurd c_97 (by decide)) (fun _ => ?_)
                  refine lv_aload_n hx hb dX12_orders_137 rfl (lv_at hl 3 rfl) ?_
                  refine va_get (D := (dC, dI)) (ci := 12) (v := .ref hl1) (C := RX12) (T := TX12) (N := 70) hx hb hts hiX12 hown hK hP 0 rfl rfl 12 (by decide) w__fieldLink_RX12_35_ShellHeapModel_later_Z_ (fun _ h9 => h9) rfl dX12_orders_138 ?_
                  refine lv_bipush (v := 12) hx hb dX12_orders_141 (by decide) ?_
                  refine lv_iload_n hx hb dX12_orders_143 rfl (lv_at hl 1 rfl) ?_
                  refine lv_imul hx hb dX12_orders_144 ?_
                  refine lv_topi (fun x_98 e_99 => ?_)
                  obtain rfl : x_98 = (nI (12 * j_72)) := e_99.trans (pk_mul 12 j_72)
                  refine lv_iload_n hx hb dX12_orders_145 rfl (lv_at hl 2 rfl) ?_
                  refine lv_iadd hx hb dX12_orders_146 ?_
                  refine lv_topi (fun x_100 e_101 => ?_)
                  obtain rfl : x_100 = (nI ((12 * j_72) + j_8)) := e_101.trans (nI_add (12 * j_72) j_8)
                  refine va_zald hx hb hK hP 1 0 rfl rfl (vp_in_nI (show (12 * j_72) + j_8 < 144 by omega) (by decide)) dX12_orders_147 ?_
                  refine lv_topi (fun x_102 e_103 => ?_)
                  obtain rfl : x_102 = 0 := e_103
                  refine lv_if_eq (tgt := 169) hx hb dX12_orders_148 (by decide) (fun _ => ?_) (fun c_104 => absurd (by decide) c_104)
                  refine lv_iconst (v := 0) hx hb dX12_orders_169 (by decide) ?_
                  refine va_zast hx hb hK hP hD hS 1 0 rfl rfl (vp_in_nI (show (12 * j_72) + j_80 < 144 by omega) (by decide)) dX12_orders_170 (fun H_105 locs hP hD hS => ?_)
                  have hP : va_P (dC, dI) vwCl [(h0, .inr (12, [h0_0, h0_1, h0_2, h0_3, .int 0, h0_5, h0_6, h0_7, h0_8, h0_9, h0_10, h0_11, .ref hl1, .ref hr1, h0_14, h0_15, h0_16, h0_17, h0_18, h0_19, h0_20, h0_21, h0_22, h0_23, h0_24, h0_25, h0_26, h0_27, h0_28, h0_29, h0_30, h0_31, h0_32, h0_33, h0_34, h0_35, h0_36, h0_37, h0_38, h0_39, h0_40, h0_41, h0_42, h0_43, h0_44, h0_45, h0_46, h0_47, h0_48, h0_49, h0_50, h0_51, h0_52, h0_53, h0_54, h0_55, h0_56, h0_57, h0_58, h0_59, h0_60, h0_61, h0_62, h0_63, h0_64, h0_65, h0_66, h0_67, h0_68, h0_69])), (hl1, .inl (chl1, 144, .inl (upd (fun _ => 0) ((nI ((12 * j_72) + j_80)) : Int32).toNatClampNeg (vp_nar .boolean 0)))), (hr1, .inl (chr1, 12, .inl (fun _ => 0)))] H_105 := hP
                  have hD : va_D A [(h0, .inr (12, [h0_0, h0_1, h0_2, h0_3, .int 0, h0_5, h0_6, h0_7, h0_8, h0_9, h0_10, h0_11, .ref hl1, .ref hr1, h0_14, h0_15, h0_16, h0_17, h0_18, h0_19, h0_20, h0_21, h0_22, h0_23, h0_24, h0_25, h0_26, h0_27, h0_28, h0_29, h0_30, h0_31, h0_32, h0_33, h0_34, h0_35, h0_36, h0_37, h0_38, h0_39, h0_40, h0_41, h0_42, h0_43, h0_44, h0_45, h0_46, h0_47, h0_48, h0_49, h0_50, h0_51, h0_52, h0_53, h0_54, h0_55, h0_56, h0_57, h0_58, h0_59, h0_60, h0_61, h0_62, h0_63, h0_64, h0_65, h0_66, h0_67, h0_68, h0_69])), (hl1, .inl (chl1, 144, .inl (upd (fun _ => 0) ((nI ((12 * j_72) + j_80)) : Int32).toNatClampNeg (vp_nar .boolean 0)))), (hr1, .inl (chr1, 12, .inl (fun _ => 0)))] := hD
                  rw [show (upd (fun _ => 0) ((nI ((12 * j_72) + j_80)) : Int32).toNatClampNeg (vp_nar .boolean 0)) = (fun _ => 0) from z_upd0b _] at hP hD
                  refine lv_iinc (v := (nI (j_80 + 1))) (lv' := [(3, .int (nI (j_80 + 1))), (2, .int (nI j_72)), (1, .int (nI j_8)), (0, .ref h0)]) hx hb dX12_orders_171 hl (k := 0) rfl (nI_1 j_80) (by decide) rfl (fun ls hl => ?_)
                  refine lv_goto (tgt := 107) hx hb dX12_orders_174 (by decide) ?_
                  exact ih_82 (j_80 + 1)  _ _ _ (by omega)  hP hD hS (lv_sub hl [0, 1, 2, 3] rfl)
              exact loop_79 12 0  _ _ _ (by omega)  hP hD hS hl
          exact loop_71 12 0  _ _ _ (by omega)  hP hD hS hl
      exact loop_7 12 0  _ _ _ (by omega)  hP hD hS hl
    | succ n_3 ih_4 =>
      intro j_2  H locs ls hjn  hP hD hS hl
      have hj_106 : j_2 < 144 := by omega
      refine lv_iload_n hx hb dX12_orders_2 rfl (lv_at hl 0 rfl) ?_
      refine lv_sipush (v := 144) hx hb dX12_orders_3 (by decide) ?_
      refine lv_icmp_ge (tgt := 22) hx hb dX12_orders_6 (by decide) (fun c_107 => ?_) (fun c_107 => ?_)
      · exfalso
        have k_108 := z_le c_107
        rw [nI_toInt (show j_2 < 2 ^ 31 by omega)] at k_108
        have k_108 : (144 : Int) ≤ ((j_2 : Nat) : Int) := k_108
        omega
      refine lv_aload_n hx hb dX12_orders_9 rfl (lv_at hl 1 rfl) ?_
      refine va_get (D := (dC, dI)) (ci := 12) (v := .ref hl1) (C := RX12) (T := TX12) (N := 70) hx hb hts hiX12 hown hK hP 0 rfl rfl 12 (by decide) w__fieldLink_RX12_35_ShellHeapModel_later_Z_ (fun _ h9 => h9) rfl dX12_orders_10 ?_
      refine lv_iload_n hx hb dX12_orders_13 rfl (lv_at hl 0 rfl) ?_
      refine lv_iconst (v := 0) hx hb dX12_orders_14 (by decide) ?_
      refine va_zast hx hb hK hP hD hS 1 0 rfl rfl (vp_in_nI (show j_2 < 144 by omega) (by decide)) dX12_orders_15 (fun H_109 locs hP hD hS => ?_)
      have hP : va_P (dC, dI) vwCl [(h0, .inr (12, [h0_0, h0_1, h0_2, h0_3, .int 0, h0_5, h0_6, h0_7, h0_8, h0_9, h0_10, h0_11, .ref hl1, .ref hr1, h0_14, h0_15, h0_16, h0_17, h0_18, h0_19, h0_20, h0_21, h0_22, h0_23, h0_24, h0_25, h0_26, h0_27, h0_28, h0_29, h0_30, h0_31, h0_32, h0_33, h0_34, h0_35, h0_36, h0_37, h0_38, h0_39, h0_40, h0_41, h0_42, h0_43, h0_44, h0_45, h0_46, h0_47, h0_48, h0_49, h0_50, h0_51, h0_52, h0_53, h0_54, h0_55, h0_56, h0_57, h0_58, h0_59, h0_60, h0_61, h0_62, h0_63, h0_64, h0_65, h0_66, h0_67, h0_68, h0_69])), (hl1, .inl (chl1, 144, .inl (upd (fun _ => 0) ((nI j_2) : Int32).toNatClampNeg (vp_nar .boolean 0)))), (hr1, .inl (chr1, 12, .inl (fun _ => 0)))] H_109 := hP
      have hD : va_D A [(h0, .inr (12, [h0_0, h0_1, h0_2, h0_3, .int 0, h0_5, h0_6, h0_7, h0_8, h0_9, h0_10, h0_11, .ref hl1, .ref hr1, h0_14, h0_15, h0_16, h0_17, h0_18, h0_19, h0_20, h0_21, h0_22, h0_23, h0_24, h0_25, h0_26, h0_27, h0_28, h0_29, h0_30, h0_31, h0_32, h0_33, h0_34, h0_35, h0_36, h0_37, h0_38, h0_39, h0_40, h0_41, h0_42, h0_43, h0_44, h0_45, h0_46, h0_47, h0_48, h0_49, h0_50, h0_51, h0_52, h0_53, h0_54, h0_55, h0_56, h0_57, h0_58, h0_59, h0_60, h0_61, h0_62, h0_63, h0_64, h0_65, h0_66, h0_67, h0_68, h0_69])), (hl1, .inl (chl1, 144, .inl (upd (fun _ => 0) ((nI j_2) : Int32).toNatClampNeg (vp_nar .boolean 0)))), (hr1, .inl (chr1, 12, .inl (fun _ => 0)))] := hD
      rw [show (upd (fun _ => 0) ((nI j_2) : Int32).toNatClampNeg (vp_nar .boolean 0)) = (fun _ => 0) from z_upd0b _] at hP hD
      refine lv_iinc (v := (nI (j_2 + 1))) (lv' := [(1, .int (nI (j_2 + 1))), (0, .ref h0)]) hx hb dX12_orders_16 hl (k := 0) rfl (nI_1 j_2) (by decide) rfl (fun ls hl => ?_)
      refine lv_goto (tgt := 2) hx hb dX12_orders_19 (by decide) ?_
      exact ih_4 (j_2 + 1)  _ _ _ (by omega)  hP hD hS (lv_sub hl [0, 1] rfl)
  exact loop_1 144 0  _ _ _ (by omega)  hP hD hS hl
def u_c_X12_spans : List Cond := .code yX12_spans cX12_spans 4 none :: ([.fieldLink RX12 154 "ShellHeapModel" "notes" "I", .fieldLink RX12 167 "ShellHeapModel" "quarrelNow" "I", .fieldLink RX12 41 "ShellHeapModel" "first" "[I", .fieldLink RX12 44 "ShellHeapModel" "last" "[I", .fieldLink RX12 35 "ShellHeapModel" "later" "[Z"] ++ wsX120)
set_option maxHeartbeats 4000000 in
set_option maxRecDepth 100000 in
theorem c_X12_spans (l : Launch) (dC : Nat → ClassId) (dI : Nat → Nat → Nat) (sz : Nat) (h0 : Nat) (h0_0 : Value) (h0_1 : Value) (h0_2 : Value) (h0_3 : Value) (h0_5 : Value) (h0_6 : Value) (h0_7 : Value) (h0_8 : Value) (h0_9 : Value) (h0_10 : Value) (h0_11 : Value) (hl1 : Nat) (h0_13 : Value) (hf1 : Nat) (hz1 : Nat) (h0_17 : Value) (h0_18 : Value) (h0_19 : Value) (h0_20 : Value) (h0_21 : Value) (h0_22 : Value) (h0_23 : Value) (h0_24 : Value) (h0_25 : Value) (h0_26 : Value) (h0_27 : Value) (h0_28 : Value) (h0_29 : Value) (h0_30 : Value) (h0_31 : Value) (h0_32 : Value) (h0_33 : Value) (h0_34 : Value) (h0_35 : Value) (h0_36 : Value) (h0_37 : Value) (h0_38 : Value) (h0_39 : Value) (h0_40 : Value) (h0_41 : Value) (h0_42 : Value) (h0_43 : Value) (h0_44 : Value) (h0_45 : Value) (h0_46 : Value) (h0_47 : Value) (h0_48 : Value) (h0_49 : Value) (h0_50 : Value) (h0_51 : Value) (h0_52 : Value) (h0_53 : Value) (h0_54 : Value) (h0_55 : Value) (h0_56 : Value) (h0_57 : Value) (h0_58 : Value) (h0_59 : Value) (h0_60 : Value) (h0_61 : Value) (h0_62 : Value) (h0_63 : Value) (h0_64 : Value) (h0_65 : Value) (h0_66 : Value) (h0_67 : Value) (h0_68 : Value) (h0_69 : Value) (chl1 : ClassId) (chf1 : ClassId) (chz1 : ClassId) (fhz1 : Nat → Int32) : Met l yX12_spans u_c_X12_spans ({ frames := 0, cells := 0, slots := 0, locals := 0 }) (va_Pc [.ref h0] (z_C (dC, dI) vwCl [(h0, .inr (12, [h0_0, h0_1, h0_2, h0_3, .int 0, h0_5, h0_6, h0_7, h0_8, h0_9, h0_10, h0_11, .ref hl1, h0_13, .ref hf1, .ref hz1, .int 0, h0_17, h0_18, h0_19, h0_20, h0_21, h0_22, h0_23, h0_24, h0_25, h0_26, h0_27, h0_28, h0_29, h0_30, h0_31, h0_32, h0_33, h0_34, h0_35, h0_36, h0_37, h0_38, h0_39, h0_40, h0_41, h0_42, h0_43, h0_44, h0_45, h0_46, h0_47, h0_48, h0_49, h0_50, h0_51, h0_52, h0_53, h0_54, h0_55, h0_56, h0_57, h0_58, h0_59, h0_60, h0_61, h0_62, h0_63, h0_64, h0_65, h0_66, h0_67, h0_68, h0_69])), (hl1, .inl (chl1, 144, .inl (fun _ => 0))), (hf1, .inl (chf1, 12, .inl (fun _ => 0))), (hz1, .inl (chz1, 12, .inl fhz1))] [(chl1, .boolean), (chf1, .int), (chz1, .int)] sz)) (va_Qv (fun (_ : Unit) => True) (fun (_ : Unit) (t : State) => va_P (dC, dI) vwCl [(h0, .inr (12, [h0_0, h0_1, h0_2, h0_3, .int 0, h0_5, h0_6, h0_7, h0_8, h0_9, h0_10, h0_11, .ref hl1, h0_13, .ref hf1, .ref hz1, .int 0, h0_17, h0_18, h0_19, h0_20, h0_21, h0_22, h0_23, h0_24, h0_25, h0_26, h0_27, h0_28, h0_29, h0_30, h0_31, h0_32, h0_33, h0_34, h0_35, h0_36, h0_37, h0_38, h0_39, h0_40, h0_41, h0_42, h0_43, h0_44, h0_45, h0_46, h0_47, h0_48, h0_49, h0_50, h0_51, h0_52, h0_53, h0_54, h0_55, h0_56, h0_57, h0_58, h0_59, h0_60, h0_61, h0_62, h0_63, h0_64, h0_65, h0_66, h0_67, h0_68, h0_69]))] t.heap ∧ va_K (dC, dI) vwCl [] t ∧ va_D (va_A [(h0, .inr (12, [h0_0, h0_1, h0_2, h0_3, .int 0, h0_5, h0_6, h0_7, h0_8, h0_9, h0_10, h0_11, .ref hl1, h0_13, .ref hf1, .ref hz1, .int 0, h0_17, h0_18, h0_19, h0_20, h0_21, h0_22, h0_23, h0_24, h0_25, h0_26, h0_27, h0_28, h0_29, h0_30, h0_31, h0_32, h0_33, h0_34, h0_35, h0_36, h0_37, h0_38, h0_39, h0_40, h0_41, h0_42, h0_43, h0_44, h0_45, h0_46, h0_47, h0_48, h0_49, h0_50, h0_51, h0_52, h0_53, h0_54, h0_55, h0_56, h0_57, h0_58, h0_59, h0_60, h0_61, h0_62, h0_63, h0_64, h0_65, h0_66, h0_67, h0_68, h0_69])), (hl1, .inl (chl1, 144, .inl (fun _ => 0))), (hf1, .inl (chf1, 12, .inl (fun _ => 0))), (hz1, .inl (chz1, 12, .inl fhz1))] sz) [(h0, .inr (12, [h0_0, h0_1, h0_2, h0_3, .int 0, h0_5, h0_6, h0_7, h0_8, h0_9, h0_10, h0_11, .ref hl1, h0_13, .ref hf1, .ref hz1, .int 0, h0_17, h0_18, h0_19, h0_20, h0_21, h0_22, h0_23, h0_24, h0_25, h0_26, h0_27, h0_28, h0_29, h0_30, h0_31, h0_32, h0_33, h0_34, h0_35, h0_36, h0_37, h0_38, h0_39, h0_40, h0_41, h0_42, h0_43, h0_44, h0_45, h0_46, h0_47, h0_48, h0_49, h0_50, h0_51, h0_52, h0_53, h0_54, h0_55, h0_56, h0_57, h0_58, h0_59, h0_60, h0_61, h0_62, h0_63, h0_64, h0_65, h0_66, h0_67, h0_68, h0_69]))]) (va_A [(h0, .inr (12, [h0_0, h0_1, h0_2, h0_3, .int 0, h0_5, h0_6, h0_7, h0_8, h0_9, h0_10, h0_11, .ref hl1, h0_13, .ref hf1, .ref hz1, .int 0, h0_17, h0_18, h0_19, h0_20, h0_21, h0_22, h0_23, h0_24, h0_25, h0_26, h0_27, h0_28, h0_29, h0_30, h0_31, h0_32, h0_33, h0_34, h0_35, h0_36, h0_37, h0_38, h0_39, h0_40, h0_41, h0_42, h0_43, h0_44, h0_45, h0_46, h0_47, h0_48, h0_49, h0_50, h0_51, h0_52, h0_53, h0_54, h0_55, h0_56, h0_57, h0_58, h0_59, h0_60, h0_61, h0_62, h0_63, h0_64, h0_65, h0_66, h0_67, h0_68, h0_69])), (hl1, .inl (chl1, 144, .inl (fun _ => 0))), (hf1, .inl (chf1, 12, .inl (fun _ => 0))), (hz1, .inl (chz1, 12, .inl fhz1))] sz)) 0 0 (va_A [(h0, .inr (12, [h0_0, h0_1, h0_2, h0_3, .int 0, h0_5, h0_6, h0_7, h0_8, h0_9, h0_10, h0_11, .ref hl1, h0_13, .ref hf1, .ref hz1, .int 0, h0_17, h0_18, h0_19, h0_20, h0_21, h0_22, h0_23, h0_24, h0_25, h0_26, h0_27, h0_28, h0_29, h0_30, h0_31, h0_32, h0_33, h0_34, h0_35, h0_36, h0_37, h0_38, h0_39, h0_40, h0_41, h0_42, h0_43, h0_44, h0_45, h0_46, h0_47, h0_48, h0_49, h0_50, h0_51, h0_52, h0_53, h0_54, h0_55, h0_56, h0_57, h0_58, h0_59, h0_60, h0_61, h0_62, h0_63, h0_64, h0_65, h0_66, h0_67, h0_68, h0_69])), (hl1, .inl (chl1, 144, .inl (fun _ => 0))), (hf1, .inl (chf1, 12, .inl (fun _ => 0))), (hz1, .inl (chz1, 12, .inl fhz1))] sz) := by
  refine Met.ofW (cc := cX12_spans) (maxL := 4) (ret := none) (by decide) rfl ?_
  intro p e s m args below meth c s₁ B hml hv
  obtain ⟨rfl, hsz, hP, hK, hD0⟩ := hv
  have hx := B.exec
  have hb := B.bytes
  have hr := B.returns
  have hts := atoms_spec (ws := u_c_X12_spans) B.pre
  have hown : s.vm.findClass RX12 = some m.cls := findClass_of_methodNamed B.named
  have hlocks := B.notSynchronized
  subst hsz
  have hD := hD0.self (sz := s.heap.size)
  generalize hAe : va_A [(h0, .inr (12, [h0_0, h0_1, h0_2, h0_3, .int 0, h0_5, h0_6, h0_7, h0_8, h0_9, h0_10, h0_11, .ref hl1, h0_13, .ref hf1, .ref hz1, .int 0, h0_17, h0_18, h0_19, h0_20, h0_21, h0_22, h0_23, h0_24, h0_25, h0_26, h0_27, h0_28, h0_29, h0_30, h0_31, h0_32, h0_33, h0_34, h0_35, h0_36, h0_37, h0_38, h0_39, h0_40, h0_41, h0_42, h0_43, h0_44, h0_45, h0_46, h0_47, h0_48, h0_49, h0_50, h0_51, h0_52, h0_53, h0_54, h0_55, h0_56, h0_57, h0_58, h0_59, h0_60, h0_61, h0_62, h0_63, h0_64, h0_65, h0_66, h0_67, h0_68, h0_69])), (hl1, .inl (chl1, 144, .inl (fun _ => 0))), (hf1, .inl (chf1, 12, .inl (fun _ => 0))), (hz1, .inl (chz1, 12, .inl fhz1))] s.heap.size = A at hD ⊢
  have hA : ∀ q : Nat, s.heap.size ≤ q → A q := fun q h => by rw [← hAe]; exact Or.inr h
  have hS : va_S A s.heap s.heap [] := va_S.rf
  have hP : va_P (dC, dI) vwCl [(h0, .inr (12, [h0_0, h0_1, h0_2, h0_3, .int 0, h0_5, h0_6, h0_7, h0_8, h0_9, h0_10, h0_11, .ref hl1, h0_13, .ref hf1, .ref hz1, .int 0, h0_17, h0_18, h0_19, h0_20, h0_21, h0_22, h0_23, h0_24, h0_25, h0_26, h0_27, h0_28, h0_29, h0_30, h0_31, h0_32, h0_33, h0_34, h0_35, h0_36, h0_37, h0_38, h0_39, h0_40, h0_41, h0_42, h0_43, h0_44, h0_45, h0_46, h0_47, h0_48, h0_49, h0_50, h0_51, h0_52, h0_53, h0_54, h0_55, h0_56, h0_57, h0_58, h0_59, h0_60, h0_61, h0_62, h0_63, h0_64, h0_65, h0_66, h0_67, h0_68, h0_69])), (hl1, .inl (chl1, 144, .inl (fun _ => 0))), (hf1, .inl (chf1, 12, .inl (fun _ => 0))), (hz1, .inl (chz1, 12, .inl fhz1))] s.heap := hP
  have w__fieldLink_RX12_154_ShellHeapModel_notes_I_ := hts (.fieldLink RX12 154 "ShellHeapModel" "notes" "I") (by decide +kernel)
  have hiX12 := show ∀ w ∈ u_ws RX12 TX12 70, w ∈ u_c_X12_spans by decide +kernel
  have w__fieldLink_RX12_167_ShellHeapModel_quarrelNow_I_ := hts (.fieldLink RX12 167 "ShellHeapModel" "quarrelNow" "I") (by decide +kernel)
  have w__fieldLink_RX12_41_ShellHeapModel_first_I_ := hts (.fieldLink RX12 41 "ShellHeapModel" "first" "[I") (by decide +kernel)
  have w__fieldLink_RX12_44_ShellHeapModel_last_I_ := hts (.fieldLink RX12 44 "ShellHeapModel" "last" "[I") (by decide +kernel)
  have w__fieldLink_RX12_35_ShellHeapModel_later_Z_ := hts (.fieldLink RX12 35 "ShellHeapModel" "later" "[Z") (by decide +kernel)
  have hl := lv_entry ([.ref h0]) (n := 4) (Nat.le_of_ble_eq_true rfl)
  rw [lg_entry_eq]
  generalize (lg_sl ([.ref h0]) ++ List.replicate (4 - (lg_sl ([.ref h0])).length) Slot.unset).toArray = ls at hl ⊢
  have hl : lv_has ls 4 [(0, .ref h0)] := hl
  refine z_nameQ (fun QQ hQQ => ?_)
  refine lv_iconst (v := 0) hx hb dX12_spans_0 (by decide) ?_
  refine lv_istore_n (lv' := [(1, .int 0), (0, .ref h0)]) hx hb dX12_spans_1 rfl hl (by decide) rfl (fun ls hl => ?_)
  have loop_1 : ∀ (n_3 j_2 : Nat) (f_5 : Nat → Int32) (H : Heap) (locs : List Loc) (ls : Array Slot), j_2 + n_3 = 12 → (∀ i : Nat, i < j_2 → f_5 i = 9999) → va_P (dC, dI) vwCl [(h0, .inr (12, [h0_0, h0_1, h0_2, h0_3, .int 0, h0_5, h0_6, h0_7, h0_8, h0_9, h0_10, h0_11, .ref hl1, h0_13, .ref hf1, .ref hz1, .int 0, h0_17, h0_18, h0_19, h0_20, h0_21, h0_22, h0_23, h0_24, h0_25, h0_26, h0_27, h0_28, h0_29, h0_30, h0_31, h0_32, h0_33, h0_34, h0_35, h0_36, h0_37, h0_38, h0_39, h0_40, h0_41, h0_42, h0_43, h0_44, h0_45, h0_46, h0_47, h0_48, h0_49, h0_50, h0_51, h0_52, h0_53, h0_54, h0_55, h0_56, h0_57, h0_58, h0_59, h0_60, h0_61, h0_62, h0_63, h0_64, h0_65, h0_66, h0_67, h0_68, h0_69])), (hl1, .inl (chl1, 144, .inl (fun _ => 0))), (hf1, .inl (chf1, 12, .inl (fun _ => 0))), (hz1, .inl (chz1, 12, .inl f_5))] H → va_D A [(h0, .inr (12, [h0_0, h0_1, h0_2, h0_3, .int 0, h0_5, h0_6, h0_7, h0_8, h0_9, h0_10, h0_11, .ref hl1, h0_13, .ref hf1, .ref hz1, .int 0, h0_17, h0_18, h0_19, h0_20, h0_21, h0_22, h0_23, h0_24, h0_25, h0_26, h0_27, h0_28, h0_29, h0_30, h0_31, h0_32, h0_33, h0_34, h0_35, h0_36, h0_37, h0_38, h0_39, h0_40, h0_41, h0_42, h0_43, h0_44, h0_45, h0_46, h0_47, h0_48, h0_49, h0_50, h0_51, h0_52, h0_53, h0_54, h0_55, h0_56, h0_57, h0_58, h0_59, h0_60, h0_61, h0_62, h0_63, h0_64, h0_65, h0_66, h0_67, h0_68, h0_69])), (hl1, .inl (chl1, 144, .inl (fun _ => 0))), (hf1, .inl (chf1, 12, .inl (fun _ => 0))), (hz1, .inl (chz1, 12, .inl f_5))] → va_S A s.heap H locs → lv_has ls 4 [(1, .int (nI j_2)), (0, .ref h0)] → W p l e ({ frames := 0, cells := 0, slots := 0, locals := 0 } : Room) s m ([.ref h0] : List Value).toArray below meth c H locs 0 0 QQ (F0 m 2 ls []) := by
    intro n_3
    induction n_3 with
    | zero =>
      intro j_2 f_5 H locs ls hjn hinv hP hD hS hl
      obtain rfl : j_2 = 12 := by omega
      have hl : lv_has ls 4 [(1, .int 12), (0, .ref h0)] := hl
      refine lv_iload_n hx hb dX12_spans_2 rfl (lv_at hl 0 rfl) ?_
      refine lv_bipush (v := 12) hx hb dX12_spans_3 (by decide) ?_
      refine lv_icmp_ge (tgt := 30) hx hb dX12_spans_5 (by decide) (fun _ => ?_) (fun c_6 => absurd (by decide) c_6)
      refine lv_iconst (v := 0) hx hb dX12_spans_30 (by decide) ?_
      refine lv_istore_n (lv' := [(1, .int 0), (0, .ref h0)]) hx hb dX12_spans_31 rfl hl (by decide) rfl (fun ls hl => ?_)
      refine lv_iload_n hx hb dX12_spans_32 rfl (lv_at hl 0 rfl) ?_
      refine lv_aload_n hx hb dX12_spans_33 rfl (lv_at hl 1 rfl) ?_
      refine va_get (D := (dC, dI)) (ci := 12) (v := .int 0) (C := RX12) (T := TX12) (N := 70) hx hb hts hiX12 hown hK hP 0 rfl rfl 4 (by decide) w__fieldLink_RX12_154_ShellHeapModel_notes_I_ (fun _ h9 => h9) rfl dX12_spans_34 ?_
      refine lv_icmp_ge (tgt := 152) hx hb dX12_spans_37 (by decide) (fun _ => ?_) (fun c_7 => absurd (by decide) c_7)
      refine lv_iconst (v := 0) hx hb dX12_spans_152 (by decide) ?_
      refine lv_istore_n (lv' := [(1, .int 0), (0, .ref h0)]) hx hb dX12_spans_153 rfl hl (by decide) rfl (fun ls hl => ?_)
      have loop_8 : ∀ (n_10 j_9 : Nat) (H : Heap) (locs : List Loc) (ls : Array Slot), j_9 + n_10 = 12 → va_P (dC, dI) vwCl [(h0, .inr (12, [h0_0, h0_1, h0_2, h0_3, .int 0, h0_5, h0_6, h0_7, h0_8, h0_9, h0_10, h0_11, .ref hl1, h0_13, .ref hf1, .ref hz1, .int 0, h0_17, h0_18, h0_19, h0_20, h0_21, h0_22, h0_23, h0_24, h0_25, h0_26, h0_27, h0_28, h0_29, h0_30, h0_31, h0_32, h0_33, h0_34, h0_35, h0_36, h0_37, h0_38, h0_39, h0_40, h0_41, h0_42, h0_43, h0_44, h0_45, h0_46, h0_47, h0_48, h0_49, h0_50, h0_51, h0_52, h0_53, h0_54, h0_55, h0_56, h0_57, h0_58, h0_59, h0_60, h0_61, h0_62, h0_63, h0_64, h0_65, h0_66, h0_67, h0_68, h0_69])), (hl1, .inl (chl1, 144, .inl (fun _ => 0))), (hf1, .inl (chf1, 12, .inl (fun _ => 0))), (hz1, .inl (chz1, 12, .inl f_5))] H → va_D A [(h0, .inr (12, [h0_0, h0_1, h0_2, h0_3, .int 0, h0_5, h0_6, h0_7, h0_8, h0_9, h0_10, h0_11, .ref hl1, h0_13, .ref hf1, .ref hz1, .int 0, h0_17, h0_18, h0_19, h0_20, h0_21, h0_22, h0_23, h0_24, h0_25, h0_26, h0_27, h0_28, h0_29, h0_30, h0_31, h0_32, h0_33, h0_34, h0_35, h0_36, h0_37, h0_38, h0_39, h0_40, h0_41, h0_42, h0_43, h0_44, h0_45, h0_46, h0_47, h0_48, h0_49, h0_50, h0_51, h0_52, h0_53, h0_54, h0_55, h0_56, h0_57, h0_58, h0_59, h0_60, h0_61, h0_62, h0_63, h0_64, h0_65, h0_66, h0_67, h0_68, h0_69])), (hl1, .inl (chl1, 144, .inl (fun _ => 0))), (hf1, .inl (chf1, 12, .inl (fun _ => 0))), (hz1, .inl (chz1, 12, .inl f_5))] → va_S A s.heap H locs → lv_has ls 4 [(1, .int (nI j_9)), (0, .ref h0)] → W p l e ({ frames := 0, cells := 0, slots := 0, locals := 0 } : Room) s m ([.ref h0] : List Value).toArray below meth c H locs 0 0 QQ (F0 m 154 ls []) := by
        intro n_10
        induction n_10 with
        | zero =>
          intro j_9  H locs ls hjn  hP hD hS hl
          obtain rfl : j_9 = 12 := by omega
          have hl : lv_has ls 4 [(1, .int 12), (0, .ref h0)] := hl
          refine lv_iload_n hx hb dX12_spans_154 rfl (lv_at hl 0 rfl) ?_
          refine lv_bipush (v := 12) hx hb dX12_spans_155 (by decide) ?_
          refine lv_icmp_ge (tgt := 283) hx hb dX12_spans_157 (by decide) (fun _ => ?_) (fun c_12 => absurd (by decide) c_12)
          refine lv_aload_n hx hb dX12_spans_283 rfl (lv_at hl 1 rfl) ?_
          refine va_get (D := (dC, dI)) (ci := 12) (v := .int 0) (C := RX12) (T := TX12) (N := 70) hx hb hts hiX12 hown hK hP 0 rfl rfl 16 (by decide) w__fieldLink_RX12_167_ShellHeapModel_quarrelNow_I_ (fun _ h9 => h9) rfl dX12_spans_284 ?_
          refine lv_iconst (v := 1) hx hb dX12_spans_287 (by decide) ?_
          refine lv_icmp_ne (tgt := 292) hx hb dX12_spans_288 (by decide) (fun _ => ?_) (fun c_13 => absurd c_13 (by decide))
          refine lv_iconst (v := 0) hx hb dX12_spans_292 (by decide) ?_
          refine lv_istore_n (lv' := [(1, .int 0), (0, .ref h0)]) hx hb dX12_spans_293 rfl hl (by decide) rfl (fun ls hl => ?_)
          have loop_14 : ∀ (n_16 j_15 : Nat) (H : Heap) (locs : List Loc) (ls : Array Slot), j_15 + n_16 = 12 → va_P (dC, dI) vwCl [(h0, .inr (12, [h0_0, h0_1, h0_2, h0_3, .int 0, h0_5, h0_6, h0_7, h0_8, h0_9, h0_10, h0_11, .ref hl1, h0_13, .ref hf1, .ref hz1, .int 0, h0_17, h0_18, h0_19, h0_20, h0_21, h0_22, h0_23, h0_24, h0_25, h0_26, h0_27, h0_28, h0_29, h0_30, h0_31, h0_32, h0_33, h0_34, h0_35, h0_36, h0_37, h0_38, h0_39, h0_40, h0_41, h0_42, h0_43, h0_44, h0_45, h0_46, h0_47, h0_48, h0_49, h0_50, h0_51, h0_52, h0_53, h0_54, h0_55, h0_56, h0_57, h0_58, h0_59, h0_60, h0_61, h0_62, h0_63, h0_64, h0_65, h0_66, h0_67, h0_68, h0_69])), (hl1, .inl (chl1, 144, .inl (fun _ => 0))), (hf1, .inl (chf1, 12, .inl (fun _ => 0))), (hz1, .inl (chz1, 12, .inl f_5))] H → va_D A [(h0, .inr (12, [h0_0, h0_1, h0_2, h0_3, .int 0, h0_5, h0_6, h0_7, h0_8, h0_9, h0_10, h0_11, .ref hl1, h0_13, .ref hf1, .ref hz1, .int 0, h0_17, h0_18, h0_19, h0_20, h0_21, h0_22, h0_23, h0_24, h0_25, h0_26, h0_27, h0_28, h0_29, h0_30, h0_31, h0_32, h0_33, h0_34, h0_35, h0_36, h0_37, h0_38, h0_39, h0_40, h0_41, h0_42, h0_43, h0_44, h0_45, h0_46, h0_47, h0_48, h0_49, h0_50, h0_51, h0_52, h0_53, h0_54, h0_55, h0_56, h0_57, h0_58, h0_59, h0_60, h0_61, h0_62, h0_63, h0_64, h0_65, h0_66, h0_67, h0_68, h0_69])), (hl1, .inl (chl1, 144, .inl (fun _ => 0))), (hf1, .inl (chf1, 12, .inl (fun _ => 0))), (hz1, .inl (chz1, 12, .inl f_5))] → va_S A s.heap H locs → lv_has ls 4 [(1, .int (nI j_15)), (0, .ref h0)] → W p l e ({ frames := 0, cells := 0, slots := 0, locals := 0 } : Room) s m ([.ref h0] : List Value).toArray below meth c H locs 0 0 QQ (F0 m 294 ls []) := by
            intro n_16
            induction n_16 with
            | zero =>
              intro j_15  H locs ls hjn  hP hD hS hl
              obtain rfl : j_15 = 12 := by omega
              have hl : lv_has ls 4 [(1, .int 12), (0, .ref h0)] := hl
              refine lv_iload_n hx hb dX12_spans_294 rfl (lv_at hl 0 rfl) ?_
              refine lv_bipush (v := 12) hx hb dX12_spans_295 (by decide) ?_
              refine lv_icmp_ge (tgt := 333) hx hb dX12_spans_297 (by decide) (fun _ => ?_) (fun c_18 => absurd (by decide) c_18)
              refine z_backQ hQQ ?_
              have hP9 := hP.sub (ws' := [(h0, .inr (12, [h0_0, h0_1, h0_2, h0_3, .int 0, h0_5, h0_6, h0_7, h0_8, h0_9, h0_10, h0_11, .ref hl1, h0_13, .ref hf1, .ref hz1, .int 0, h0_17, h0_18, h0_19, h0_20, h0_21, h0_22, h0_23, h0_24, h0_25, h0_26, h0_27, h0_28, h0_29, h0_30, h0_31, h0_32, h0_33, h0_34, h0_35, h0_36, h0_37, h0_38, h0_39, h0_40, h0_41, h0_42, h0_43, h0_44, h0_45, h0_46, h0_47, h0_48, h0_49, h0_50, h0_51, h0_52, h0_53, h0_54, h0_55, h0_56, h0_57, h0_58, h0_59, h0_60, h0_61, h0_62, h0_63, h0_64, h0_65, h0_66, h0_67, h0_68, h0_69]))]) [0] rfl
              have hD9 := hD.sub (ws' := [(h0, .inr (12, [h0_0, h0_1, h0_2, h0_3, .int 0, h0_5, h0_6, h0_7, h0_8, h0_9, h0_10, h0_11, .ref hl1, h0_13, .ref hf1, .ref hz1, .int 0, h0_17, h0_18, h0_19, h0_20, h0_21, h0_22, h0_23, h0_24, h0_25, h0_26, h0_27, h0_28, h0_29, h0_30, h0_31, h0_32, h0_33, h0_34, h0_35, h0_36, h0_37, h0_38, h0_39, h0_40, h0_41, h0_42, h0_43, h0_44, h0_45, h0_46, h0_47, h0_48, h0_49, h0_50, h0_51, h0_52, h0_53, h0_54, h0_55, h0_56, h0_57, h0_58, h0_59, h0_60, h0_61, h0_62, h0_63, h0_64, h0_65, h0_66, h0_67, h0_68, h0_69]))]) [0] (by decide) rfl
              have hK9 := hK.sub (tys' := []) [] rfl
              refine W.widen (k := 0) (n := 0) (Nat.le_of_ble_eq_true rfl) (Nat.le_of_ble_eq_true rfl) ?_
              exact W.vret hx hb hr (fun t ht hW => ⟨⟨(), rfl, trivial, ⟨by rw [ht]; exact hP9, va_K.moved hW.alike hK9, hD9⟩⟩, hS.F ht⟩) hS.2.2 dX12_spans_333
            | succ n_16 ih_17 =>
              intro j_15  H locs ls hjn  hP hD hS hl
              have hj_19 : j_15 < 12 := by omega
              refine lv_iload_n hx hb dX12_spans_294 rfl (lv_at hl 0 rfl) ?_
              refine lv_bipush (v := 12) hx hb dX12_spans_295 (by decide) ?_
              refine lv_icmp_ge (tgt := 333) hx hb dX12_spans_297 (by decide) (fun c_20 => ?_) (fun c_20 => ?_)
              · exfalso
                have k_21 := z_le c_20
                rw [nI_toInt (show j_15 < 2 ^ 31 by omega)] at k_21
                have k_21 : (12 : Int) ≤ ((j_15 : Nat) : Int) := k_21
                omega
              refine lv_aload_n hx hb dX12_spans_300 rfl (lv_at hl 1 rfl) ?_
              refine lv_aload_n hx hb dX12_spans_301 rfl (lv_at hl 1 rfl) ?_
              refine va_get (D := (dC, dI)) (ci := 12) (v := .ref hf1) (C := RX12) (T := TX12) (N := 70) hx hb hts hiX12 hown hK hP 0 rfl rfl 14 (by decide) w__fieldLink_RX12_41_ShellHeapModel_first_I_ (fun _ h9 => h9) rfl dX12_spans_302 ?_
              refine lv_iload_n hx hb dX12_spans_305 rfl (lv_at hl 0 rfl) ?_
              refine va_iald hx hb hK hP 2 1 rfl rfl (vp_in_nI (show j_15 < 12 by omega) (by decide)) dX12_spans_306 ?_
              refine lv_topi (fun x_22 e_23 => ?_)
              obtain rfl : x_22 = 0 := e_23
              refine lv_aload_n hx hb dX12_spans_307 rfl (lv_at hl 1 rfl) ?_
              refine va_get (D := (dC, dI)) (ci := 12) (v := .ref hz1) (C := RX12) (T := TX12) (N := 70) hx hb hts hiX12 hown hK hP 0 rfl rfl 15 (by decide) w__fieldLink_RX12_44_ShellHeapModel_last_I_ (fun _ h9 => h9) rfl dX12_spans_308 ?_
              refine lv_iload_n hx hb dX12_spans_311 rfl (lv_at hl 0 rfl) ?_
              refine va_iald hx hb hK hP 3 2 rfl rfl (vp_in_nI (show j_15 < 12 by omega) (by decide)) dX12_spans_312 ?_
              refine lv_topi (fun x_24 e_25 => ?_)
              obtain rfl : x_24 = 9999 := e_25.trans (by rw [nI_clamp (show j_15 < 2 ^ 31 by omega)]; exact hinv j_15 (by omega))
              refine lv_icmp_le (tgt := 320) hx hb dX12_spans_313 (by decide) (fun _ => ?_) (fun c_26 => absurd (by decide) c_26)
              refine lv_aload_n hx hb dX12_spans_320 rfl (lv_at hl 1 rfl) ?_
              refine va_get (D := (dC, dI)) (ci := 12) (v := .int 0) (C := RX12) (T := TX12) (N := 70) hx hb hts hiX12 hown hK hP 0 rfl rfl 16 (by decide) w__fieldLink_RX12_167_ShellHeapModel_quarrelNow_I_ (fun _ h9 => h9) rfl dX12_spans_321 ?_
              refine va_put (D := (dC, dI)) (ci := 12) (v := .int 0) (ty := .int) (C := RX12) (T := TX12) (N := 70) hx hb hts hiX12 tyX12 tyX12_ok nmX12 hown hK hP hD hS 0 rfl rfl 16 (by decide) w__fieldLink_RX12_167_ShellHeapModel_quarrelNow_I_ (fun _ h9 => h9) rfl (by decide +kernel) rfl rfl (Nat.le_of_ble_eq_true rfl) dX12_spans_324 (fun H_27 locs hP hD hS => ?_)
              have hP : va_P (dC, dI) vwCl [(h0, .inr (12, [h0_0, h0_1, h0_2, h0_3, .int 0, h0_5, h0_6, h0_7, h0_8, h0_9, h0_10, h0_11, .ref hl1, h0_13, .ref hf1, .ref hz1, .int 0, h0_17, h0_18, h0_19, h0_20, h0_21, h0_22, h0_23, h0_24, h0_25, h0_26, h0_27, h0_28, h0_29, h0_30, h0_31, h0_32, h0_33, h0_34, h0_35, h0_36, h0_37, h0_38, h0_39, h0_40, h0_41, h0_42, h0_43, h0_44, h0_45, h0_46, h0_47, h0_48, h0_49, h0_50, h0_51, h0_52, h0_53, h0_54, h0_55, h0_56, h0_57, h0_58, h0_59, h0_60, h0_61, h0_62, h0_63, h0_64, h0_65, h0_66, h0_67, h0_68, h0_69])), (hl1, .inl (chl1, 144, .inl (fun _ => 0))), (hf1, .inl (chf1, 12, .inl (fun _ => 0))), (hz1, .inl (chz1, 12, .inl f_5))] H_27 := hP
              have hD : va_D A [(h0, .inr (12, [h0_0, h0_1, h0_2, h0_3, .int 0, h0_5, h0_6, h0_7, h0_8, h0_9, h0_10, h0_11, .ref hl1, h0_13, .ref hf1, .ref hz1, .int 0, h0_17, h0_18, h0_19, h0_20, h0_21, h0_22, h0_23, h0_24, h0_25, h0_26, h0_27, h0_28, h0_29, h0_30, h0_31, h0_32, h0_33, h0_34, h0_35, h0_36, h0_37, h0_38, h0_39, h0_40, h0_41, h0_42, h0_43, h0_44, h0_45, h0_46, h0_47, h0_48, h0_49, h0_50, h0_51, h0_52, h0_53, h0_54, h0_55, h0_56, h0_57, h0_58, h0_59, h0_60, h0_61, h0_62, h0_63, h0_64, h0_65, h0_66, h0_67, h0_68, h0_69])), (hl1, .inl (chl1, 144, .inl (fun _ => 0))), (hf1, .inl (chf1, 12, .inl (fun _ => 0))), (hz1, .inl (chz1, 12, .inl f_5))] := hD
              refine lv_iinc (v := (nI (j_15 + 1))) (lv' := [(1, .int (nI (j_15 + 1))), (0, .ref h0)]) hx hb dX12_spans_327 hl (k := 0) rfl (nI_1 j_15) (by decide) rfl (fun ls hl => ?_)
              refine lv_goto (tgt := 294) hx hb dX12_spans_330 (by decide) ?_
              exact ih_17 (j_15 + 1)  _ _ _ (by omega)  hP hD hS (lv_sub hl [0, 1] rfl)
          exact loop_14 12 0  _ _ _ (by omega)  hP hD hS hl
        | succ n_10 ih_11 =>
          intro j_9  H locs ls hjn  hP hD hS hl
          have hj_28 : j_9 < 12 := by omega
          refine lv_iload_n hx hb dX12_spans_154 rfl (lv_at hl 0 rfl) ?_
          refine lv_bipush (v := 12) hx hb dX12_spans_155 (by decide) ?_
          refine lv_icmp_ge (tgt := 283) hx hb dX12_spans_157 (by decide) (fun c_29 => ?_) (fun c_29 => ?_)
          · exfalso
            have k_30 := z_le c_29
            rw [nI_toInt (show j_9 < 2 ^ 31 by omega)] at k_30
            have k_30 : (12 : Int) ≤ ((j_9 : Nat) : Int) := k_30
            omega
          refine lv_iconst (v := 0) hx hb dX12_spans_160 (by decide) ?_
          refine lv_istore_n (lv' := [(2, .int 0), (1, .int (nI j_9)), (0, .ref h0)]) hx hb dX12_spans_161 rfl hl (by decide) rfl (fun ls hl => ?_)
          have loop_31 : ∀ (n_33 j_32 : Nat) (H : Heap) (locs : List Loc) (ls : Array Slot), j_32 + n_33 = 12 → va_P (dC, dI) vwCl [(h0, .inr (12, [h0_0, h0_1, h0_2, h0_3, .int 0, h0_5, h0_6, h0_7, h0_8, h0_9, h0_10, h0_11, .ref hl1, h0_13, .ref hf1, .ref hz1, .int 0, h0_17, h0_18, h0_19, h0_20, h0_21, h0_22, h0_23, h0_24, h0_25, h0_26, h0_27, h0_28, h0_29, h0_30, h0_31, h0_32, h0_33, h0_34, h0_35, h0_36, h0_37, h0_38, h0_39, h0_40, h0_41, h0_42, h0_43, h0_44, h0_45, h0_46, h0_47, h0_48, h0_49, h0_50, h0_51, h0_52, h0_53, h0_54, h0_55, h0_56, h0_57, h0_58, h0_59, h0_60, h0_61, h0_62, h0_63, h0_64, h0_65, h0_66, h0_67, h0_68, h0_69])), (hl1, .inl (chl1, 144, .inl (fun _ => 0))), (hf1, .inl (chf1, 12, .inl (fun _ => 0))), (hz1, .inl (chz1, 12, .inl f_5))] H → va_D A [(h0, .inr (12, [h0_0, h0_1, h0_2, h0_3, .int 0, h0_5, h0_6, h0_7, h0_8, h0_9, h0_10, h0_11, .ref hl1, h0_13, .ref hf1, .ref hz1, .int 0, h0_17, h0_18, h0_19, h0_20, h0_21, h0_22, h0_23, h0_24, h0_25, h0_26, h0_27, h0_28, h0_29, h0_30, h0_31, h0_32, h0_33, h0_34, h0_35, h0_36, h0_37, h0_38, h0_39, h0_40, h0_41, h0_42, h0_43, h0_44, h0_45, h0_46, h0_47, h0_48, h0_49, h0_50, h0_51, h0_52, h0_53, h0_54, h0_55, h0_56, h0_57, h0_58, h0_59, h0_60, h0_61, h0_62, h0_63, h0_64, h0_65, h0_66, h0_67, h0_68, h0_69])), (hl1, .inl (chl1, 144, .inl (fun _ => 0))), (hf1, .inl (chf1, 12, .inl (fun _ => 0))), (hz1, .inl (chz1, 12, .inl f_5))] → va_S A s.heap H locs → lv_has ls 4 [(2, .int (nI j_32)), (1, .int (nI j_9)), (0, .ref h0)] → W p l e ({ frames := 0, cells := 0, slots := 0, locals := 0 } : Room) s m ([.ref h0] : List Value).toArray below meth c H locs 0 0 QQ (F0 m 162 ls []) := by
            intro n_33
            induction n_33 with
            | zero =>
              intro j_32  H locs ls hjn  hP hD hS hl
              obtain rfl : j_32 = 12 := by omega
              have hl : lv_has ls 4 [(2, .int 12), (1, .int (nI j_9)), (0, .ref h0)] := hl
              refine lv_iload_n hx hb dX12_spans_162 rfl (lv_at hl 0 rfl) ?_
              refine lv_bipush (v := 12) hx hb dX12_spans_163 (by decide) ?_
              refine lv_icmp_ge (tgt := 277) hx hb dX12_spans_165 (by decide) (fun _ => ?_) (fun c_35 => absurd (by decide) c_35)
              refine lv_iinc (v := (nI (j_9 + 1))) (lv' := [(1, .int (nI (j_9 + 1))), (2, .int 12), (0, .ref h0)]) hx hb dX12_spans_277 hl (k := 1) rfl (nI_1 j_9) (by decide) rfl (fun ls hl => ?_)
              refine lv_goto (tgt := 154) hx hb dX12_spans_280 (by decide) ?_
              exact ih_11 (j_9 + 1)  _ _ _ (by omega)  hP hD hS (lv_sub hl [0, 2] rfl)
            | succ n_33 ih_34 =>
              intro j_32  H locs ls hjn  hP hD hS hl
              have hj_36 : j_32 < 12 := by omega
              refine lv_iload_n hx hb dX12_spans_162 rfl (lv_at hl 0 rfl) ?_
              refine lv_bipush (v := 12) hx hb dX12_spans_163 (by decide) ?_
              refine lv_icmp_ge (tgt := 277) hx hb dX12_spans_165 (by decide) (fun c_37 => ?_) (fun c_37 => ?_)
              · exfalso
                have k_38 := z_le c_37
                rw [nI_toInt (show j_32 < 2 ^ 31 by omega)] at k_38
                have k_38 : (12 : Int) ≤ ((j_32 : Nat) : Int) := k_38
                omega
              refine lv_iconst (v := 0) hx hb dX12_spans_168 (by decide) ?_
              refine lv_istore_n (lv' := [(3, .int 0), (2, .int (nI j_32)), (1, .int (nI j_9)), (0, .ref h0)]) hx hb dX12_spans_169 rfl hl (by decide) rfl (fun ls hl => ?_)
              have loop_39 : ∀ (n_41 j_40 : Nat) (H : Heap) (locs : List Loc) (ls : Array Slot), j_40 + n_41 = 12 → va_P (dC, dI) vwCl [(h0, .inr (12, [h0_0, h0_1, h0_2, h0_3, .int 0, h0_5, h0_6, h0_7, h0_8, h0_9, h0_10, h0_11, .ref hl1, h0_13, .ref hf1, .ref hz1, .int 0, h0_17, h0_18, h0_19, h0_20, h0_21, h0_22, h0_23, h0_24, h0_25, h0_26, h0_27, h0_28, h0_29, h0_30, h0_31, h0_32, h0_33, h0_34, h0_35, h0_36, h0_37, h0_38, h0_39, h0_40, h0_41, h0_42, h0_43, h0_44, h0_45, h0_46, h0_47, h0_48, h0_49, h0_50, h0_51, h0_52, h0_53, h0_54, h0_55, h0_56, h0_57, h0_58, h0_59, h0_60, h0_61, h0_62, h0_63, h0_64, h0_65, h0_66, h0_67, h0_68, h0_69])), (hl1, .inl (chl1, 144, .inl (fun _ => 0))), (hf1, .inl (chf1, 12, .inl (fun _ => 0))), (hz1, .inl (chz1, 12, .inl f_5))] H → va_D A [(h0, .inr (12, [h0_0, h0_1, h0_2, h0_3, .int 0, h0_5, h0_6, h0_7, h0_8, h0_9, h0_10, h0_11, .ref hl1, h0_13, .ref hf1, .ref hz1, .int 0, h0_17, h0_18, h0_19, h0_20, h0_21, h0_22, h0_23, h0_24, h0_25, h0_26, h0_27, h0_28, h0_29, h0_30, h0_31, h0_32, h0_33, h0_34, h0_35, h0_36, h0_37, h0_38, h0_39, h0_40, h0_41, h0_42, h0_43, h0_44, h0_45, h0_46, h0_47, h0_48, h0_49, h0_50, h0_51, h0_52, h0_53, h0_54, h0_55, h0_56, h0_57, h0_58, h0_59, h0_60, h0_61, h0_62, h0_63, h0_64, h0_65, h0_66, h0_67, h0_68, h0_69])), (hl1, .inl (chl1, 144, .inl (fun _ => 0))), (hf1, .inl (chf1, 12, .inl (fun _ => 0))), (hz1, .inl (chz1, 12, .inl f_5))] → va_S A s.heap H locs → lv_has ls 4 [(3, .int (nI j_40)), (2, .int (nI j_32)), (1, .int (nI j_9)), (0, .ref h0)] → W p l e ({ frames := 0, cells := 0, slots := 0, locals := 0 } : Room) s m ([.ref h0] : List Value).toArray below meth c H locs 0 0 QQ (F0 m 170 ls []) := by
                intro n_41
                induction n_41 with
                | zero =>
                  intro j_40  H locs ls hjn  hP hD hS hl
                  obtain rfl : j_40 = 12 := by omega
                  have hl : lv_has ls 4 [(3, .int 12), (2, .int (nI j_32)), (1, .int (nI j_9)), (0, .ref h0)] := hl
                  refine lv_iload_n hx hb dX12_spans_170 rfl (lv_at hl 0 rfl) ?_
                  refine lv_bipush (v := 12) hx hb dX12_spans_171 (by decide) ?_
                  refine lv_icmp_ge (tgt := 271) hx hb dX12_spans_173 (by decide) (fun _ => ?_) (fun c_43 => absurd (by decide) c_43)
                  refine lv_iinc (v := (nI (j_32 + 1))) (lv' := [(2, .int (nI (j_32 + 1))), (3, .int 12), (1, .int (nI j_9)), (0, .ref h0)]) hx hb dX12_spans_271 hl (k := 1) rfl (nI_1 j_32) (by decide) rfl (fun ls hl => ?_)
                  refine lv_goto (tgt := 162) hx hb dX12_spans_274 (by decide) ?_
                  exact ih_34 (j_32 + 1)  _ _ _ (by omega)  hP hD hS (lv_sub hl [0, 2, 3] rfl)
                | succ n_41 ih_42 =>
                  intro j_40  H locs ls hjn  hP hD hS hl
                  have hj_44 : j_40 < 12 := by omega
                  refine lv_iload_n hx hb dX12_spans_170 rfl (lv_at hl 0 rfl) ?_
                  refine lv_bipush (v := 12) hx hb dX12_spans_171 (by decide) ?_
                  refine lv_icmp_ge (tgt := 271) hx hb dX12_spans_173 (by decide) (fun c_45 => ?_) (fun c_45 => ?_)
                  · exfalso
                    have k_46 := z_le c_45
                    rw [nI_toInt (show j_40 < 2 ^ 31 by omega)] at k_46
                    have k_46 : (12 : Int) ≤ ((j_40 : Nat) : Int) := k_46
                    omega
                  refine lv_aload_n hx hb dX12_spans_176 rfl (lv_at hl 3 rfl) ?_
                  refine va_get (D := (dC, dI)) (ci := 12) (v := .ref hl1) (C := RX12) (T := TX12) (N := 70) hx hb hts hiX12 hown hK hP 0 rfl rfl 12 (by decide) w__fieldLink_RX12_35_ShellHeapModel_later_Z_ (fun _ h9 => h9) rfl dX12_spans_177 ?_
                  refine lv_bipush (v := 12) hx hb dX12_spans_180 (by decide) ?_
                  refine lv_iload_n hx hb dX12_spans_182 rfl (lv_at hl 1 rfl) ?_
                  refine lv_imul hx hb dX12_spans_183 ?_
                  refine lv_topi (fun x_47 e_48 => ?_)
                  obtain rfl : x_47 = (nI (12 * j_32)) := e_48.trans (pk_mul 12 j_32)
                  refine lv_iload_n hx hb dX12_spans_184 rfl (lv_at hl 0 rfl) ?_
                  refine lv_iadd hx hb dX12_spans_185 ?_
                  refine lv_topi (fun x_49 e_50 => ?_)
                  obtain rfl : x_49 = (nI ((12 * j_32) + j_40)) := e_50.trans (nI_add (12 * j_32) j_40)
                  refine va_zald hx hb hK hP 1 0 rfl rfl (vp_in_nI (show (12 * j_32) + j_40 < 144 by omega) (by decide)) dX12_spans_186 ?_
                  refine lv_topi (fun x_51 e_52 => ?_)
                  obtain rfl : x_51 = 0 := e_52
                  refine lv_if_ne (tgt := 193) hx hb dX12_spans_187 (by decide) (fun c_53 => absurd c_53 (by decide)) (fun _ => ?_)
                  refine lv_goto (tgt := 265) hx hb dX12_spans_190 (by decide) ?_
                  refine lv_iinc (v := (nI (j_40 + 1))) (lv' := [(3, .int (nI (j_40 + 1))), (2, .int (nI j_32)), (1, .int (nI j_9)), (0, .ref h0)]) hx hb dX12_spans_265 hl (k := 0) rfl (nI_1 j_40) (by decide) rfl (fun ls hl => ?_)
                  refine lv_goto (tgt := 170) hx hb dX12_spans_268 (by decide) ?_
                  exact ih_42 (j_40 + 1)  _ _ _ (by omega)  hP hD hS (lv_sub hl [0, 1, 2, 3] rfl)
              exact loop_39 12 0  _ _ _ (by omega)  hP hD hS hl
          exact loop_31 12 0  _ _ _ (by omega)  hP hD hS hl
      exact loop_8 12 0  _ _ _ (by omega)  hP hD hS hl
    | succ n_3 ih_4 =>
      intro j_2 f_5 H locs ls hjn hinv hP hD hS hl
      have hj_54 : j_2 < 12 := by omega
      refine lv_iload_n hx hb dX12_spans_2 rfl (lv_at hl 0 rfl) ?_
      refine lv_bipush (v := 12) hx hb dX12_spans_3 (by decide) ?_
      refine lv_icmp_ge (tgt := 30) hx hb dX12_spans_5 (by decide) (fun c_55 => ?_) (fun c_55 => ?_)
      · exfalso
        have k_56 := z_le c_55
        rw [nI_toInt (show j_2 < 2 ^ 31 by omega)] at k_56
        have k_56 : (12 : Int) ≤ ((j_2 : Nat) : Int) := k_56
        omega
      refine lv_aload_n hx hb dX12_spans_8 rfl (lv_at hl 1 rfl) ?_
      refine va_get (D := (dC, dI)) (ci := 12) (v := .ref hf1) (C := RX12) (T := TX12) (N := 70) hx hb hts hiX12 hown hK hP 0 rfl rfl 14 (by decide) w__fieldLink_RX12_41_ShellHeapModel_first_I_ (fun _ h9 => h9) rfl dX12_spans_9 ?_
      refine lv_iload_n hx hb dX12_spans_12 rfl (lv_at hl 0 rfl) ?_
      refine lv_iconst (v := 0) hx hb dX12_spans_13 (by decide) ?_
      refine va_iast hx hb hK hP hD hS 2 1 rfl rfl (vp_in_nI (show j_2 < 12 by omega) (by decide)) dX12_spans_14 (fun H_57 locs hP hD hS => ?_)
      have hP : va_P (dC, dI) vwCl [(h0, .inr (12, [h0_0, h0_1, h0_2, h0_3, .int 0, h0_5, h0_6, h0_7, h0_8, h0_9, h0_10, h0_11, .ref hl1, h0_13, .ref hf1, .ref hz1, .int 0, h0_17, h0_18, h0_19, h0_20, h0_21, h0_22, h0_23, h0_24, h0_25, h0_26, h0_27, h0_28, h0_29, h0_30, h0_31, h0_32, h0_33, h0_34, h0_35, h0_36, h0_37, h0_38, h0_39, h0_40, h0_41, h0_42, h0_43, h0_44, h0_45, h0_46, h0_47, h0_48, h0_49, h0_50, h0_51, h0_52, h0_53, h0_54, h0_55, h0_56, h0_57, h0_58, h0_59, h0_60, h0_61, h0_62, h0_63, h0_64, h0_65, h0_66, h0_67, h0_68, h0_69])), (hl1, .inl (chl1, 144, .inl (fun _ => 0))), (hf1, .inl (chf1, 12, .inl (upd (fun _ => 0) ((nI j_2) : Int32).toNatClampNeg 0))), (hz1, .inl (chz1, 12, .inl f_5))] H_57 := hP
      have hD : va_D A [(h0, .inr (12, [h0_0, h0_1, h0_2, h0_3, .int 0, h0_5, h0_6, h0_7, h0_8, h0_9, h0_10, h0_11, .ref hl1, h0_13, .ref hf1, .ref hz1, .int 0, h0_17, h0_18, h0_19, h0_20, h0_21, h0_22, h0_23, h0_24, h0_25, h0_26, h0_27, h0_28, h0_29, h0_30, h0_31, h0_32, h0_33, h0_34, h0_35, h0_36, h0_37, h0_38, h0_39, h0_40, h0_41, h0_42, h0_43, h0_44, h0_45, h0_46, h0_47, h0_48, h0_49, h0_50, h0_51, h0_52, h0_53, h0_54, h0_55, h0_56, h0_57, h0_58, h0_59, h0_60, h0_61, h0_62, h0_63, h0_64, h0_65, h0_66, h0_67, h0_68, h0_69])), (hl1, .inl (chl1, 144, .inl (fun _ => 0))), (hf1, .inl (chf1, 12, .inl (upd (fun _ => 0) ((nI j_2) : Int32).toNatClampNeg 0))), (hz1, .inl (chz1, 12, .inl f_5))] := hD
      rw [show (upd (fun _ => 0) ((nI j_2) : Int32).toNatClampNeg 0) = (fun _ => 0) from z_upd0 _] at hP hD
      refine lv_aload_n hx hb dX12_spans_15 rfl (lv_at hl 1 rfl) ?_
      refine va_get (D := (dC, dI)) (ci := 12) (v := .ref hz1) (C := RX12) (T := TX12) (N := 70) hx hb hts hiX12 hown hK hP 0 rfl rfl 15 (by decide) w__fieldLink_RX12_44_ShellHeapModel_last_I_ (fun _ h9 => h9) rfl dX12_spans_16 ?_
      refine lv_iload_n hx hb dX12_spans_19 rfl (lv_at hl 0 rfl) ?_
      refine lv_sipush (v := 9999) hx hb dX12_spans_20 (by decide) ?_
      refine va_iast hx hb hK hP hD hS 3 2 rfl rfl (vp_in_nI (show j_2 < 12 by omega) (by decide)) dX12_spans_23 (fun H_58 locs hP hD hS => ?_)
      have hP : va_P (dC, dI) vwCl [(h0, .inr (12, [h0_0, h0_1, h0_2, h0_3, .int 0, h0_5, h0_6, h0_7, h0_8, h0_9, h0_10, h0_11, .ref hl1, h0_13, .ref hf1, .ref hz1, .int 0, h0_17, h0_18, h0_19, h0_20, h0_21, h0_22, h0_23, h0_24, h0_25, h0_26, h0_27, h0_28, h0_29, h0_30, h0_31, h0_32, h0_33, h0_34, h0_35, h0_36, h0_37, h0_38, h0_39, h0_40, h0_41, h0_42, h0_43, h0_44, h0_45, h0_46, h0_47, h0_48, h0_49, h0_50, h0_51, h0_52, h0_53, h0_54, h0_55, h0_56, h0_57, h0_58, h0_59, h0_60, h0_61, h0_62, h0_63, h0_64, h0_65, h0_66, h0_67, h0_68, h0_69])), (hl1, .inl (chl1, 144, .inl (fun _ => 0))), (hf1, .inl (chf1, 12, .inl (fun _ => 0))), (hz1, .inl (chz1, 12, .inl (upd f_5 ((nI j_2) : Int32).toNatClampNeg 9999)))] H_58 := hP
      have hD : va_D A [(h0, .inr (12, [h0_0, h0_1, h0_2, h0_3, .int 0, h0_5, h0_6, h0_7, h0_8, h0_9, h0_10, h0_11, .ref hl1, h0_13, .ref hf1, .ref hz1, .int 0, h0_17, h0_18, h0_19, h0_20, h0_21, h0_22, h0_23, h0_24, h0_25, h0_26, h0_27, h0_28, h0_29, h0_30, h0_31, h0_32, h0_33, h0_34, h0_35, h0_36, h0_37, h0_38, h0_39, h0_40, h0_41, h0_42, h0_43, h0_44, h0_45, h0_46, h0_47, h0_48, h0_49, h0_50, h0_51, h0_52, h0_53, h0_54, h0_55, h0_56, h0_57, h0_58, h0_59, h0_60, h0_61, h0_62, h0_63, h0_64, h0_65, h0_66, h0_67, h0_68, h0_69])), (hl1, .inl (chl1, 144, .inl (fun _ => 0))), (hf1, .inl (chf1, 12, .inl (fun _ => 0))), (hz1, .inl (chz1, 12, .inl (upd f_5 ((nI j_2) : Int32).toNatClampNeg 9999)))] := hD
      obtain ⟨f_59, ef_59⟩ : ∃ f, f = (upd f_5 ((nI j_2) : Int32).toNatClampNeg 9999) := ⟨_, rfl⟩
      rw [← ef_59] at hP hD
      refine lv_iinc (v := (nI (j_2 + 1))) (lv' := [(1, .int (nI (j_2 + 1))), (0, .ref h0)]) hx hb dX12_spans_24 hl (k := 0) rfl (nI_1 j_2) (by decide) rfl (fun ls hl => ?_)
      refine lv_goto (tgt := 2) hx hb dX12_spans_27 (by decide) ?_
      exact ih_4 (j_2 + 1) _ _ _ _ (by omega) (z_inv hinv ef_59 (by omega)) hP hD hS (lv_sub hl [0, 1] rfl)
  exact loop_1 12 0 _ _ _ _ (by omega) (fun i h => absurd h (Nat.not_lt_zero i)) hP hD hS hl
def u_c_X12_know : List Cond := .code yX12_know cX12_know 5 none :: ([.fieldLink RX12 154 "ShellHeapModel" "notes" "I", .methodLink RX12 161 yX12_orders, .instanceMethod yX12_orders, .selects RX12 yX12_orders yX12_orders, .initialized RX12, .code yX12_orders cX12_orders 4 none, .fieldLink RX12 167 "ShellHeapModel" "quarrelNow" "I", .fieldLink RX12 35 "ShellHeapModel" "later" "[Z", .fieldLink RX12 38 "ShellHeapModel" "rank" "[I", .methodLink RX12 164 yX12_spans, .instanceMethod yX12_spans, .selects RX12 yX12_spans yX12_spans, .code yX12_spans cX12_spans 4 none, .fieldLink RX12 41 "ShellHeapModel" "first" "[I", .fieldLink RX12 44 "ShellHeapModel" "last" "[I", .fieldLink RX12 32 "ShellHeapModel" "bedOf" "[I", .fieldLink RX12 25 "ShellHeapModel" "counts" "[Z"] ++ wsX120)
set_option maxRecDepth 20000 in
theorem gw_c_X12_know_c_X12_orders_161 : GoodIn u_c_X12_know (wsV RX12 161 RX12 yX12_orders u_c_X12_orders) := goodIn_r _ [2, 3, 4, 5, 6, 1, 7, 8, 9, 18, 19, 20, 21, 22, 23, 24, 25, 26, 27, 28, 29, 30, 31, 32, 33, 34, 35, 36, 37, 38, 39, 40, 41, 42, 43, 44, 45, 46, 47, 48, 49, 50, 51, 52, 53, 54, 55, 56, 57, 58, 59, 60, 61, 62, 63, 64, 65, 66, 67, 68, 69, 70, 71, 72, 73, 74, 75, 76, 77, 78, 79, 80, 81, 82, 83, 84, 85, 86, 87] (by decide +kernel) (by decide +kernel)
set_option maxRecDepth 20000 in
theorem gw_c_X12_know_c_X12_spans_164 : GoodIn u_c_X12_know (wsV RX12 164 RX12 yX12_spans u_c_X12_spans) := goodIn_r _ [10, 11, 12, 5, 13, 1, 7, 14, 15, 8, 18, 19, 20, 21, 22, 23, 24, 25, 26, 27, 28, 29, 30, 31, 32, 33, 34, 35, 36, 37, 38, 39, 40, 41, 42, 43, 44, 45, 46, 47, 48, 49, 50, 51, 52, 53, 54, 55, 56, 57, 58, 59, 60, 61, 62, 63, 64, 65, 66, 67, 68, 69, 70, 71, 72, 73, 74, 75, 76, 77, 78, 79, 80, 81, 82, 83, 84, 85, 86, 87] (by decide +kernel) (by decide +kernel)
set_option maxHeartbeats 4000000 in
set_option maxRecDepth 100000 in
theorem c_X12_know (l : Launch) (dC : Nat → ClassId) (dI : Nat → Nat → Nat) (sz : Nat) (h0 : Nat) (h0_0 : Value) (h0_1 : Value) (h0_2 : Value) (h0_5 : Value) (h0_6 : Value) (h0_7 : Value) (h0_8 : Value) (hc : Nat) (h0_10 : Value) (hb1 : Nat) (hl1 : Nat) (hr1 : Nat) (hf1 : Nat) (hz1 : Nat) (h0_16 : Value) (h0_17 : Value) (h0_18 : Value) (h0_19 : Value) (h0_20 : Value) (h0_21 : Value) (h0_22 : Value) (h0_23 : Value) (h0_24 : Value) (h0_25 : Value) (h0_26 : Value) (h0_27 : Value) (h0_28 : Value) (h0_29 : Value) (h0_30 : Value) (h0_31 : Value) (h0_32 : Value) (h0_33 : Value) (h0_34 : Value) (h0_35 : Value) (h0_36 : Value) (h0_37 : Value) (h0_38 : Value) (h0_39 : Value) (h0_40 : Value) (h0_41 : Value) (h0_42 : Value) (h0_43 : Value) (h0_44 : Value) (h0_45 : Value) (h0_46 : Value) (h0_47 : Value) (h0_48 : Value) (h0_49 : Value) (h0_50 : Value) (h0_51 : Value) (h0_52 : Value) (h0_53 : Value) (h0_54 : Value) (h0_55 : Value) (h0_56 : Value) (h0_57 : Value) (h0_58 : Value) (h0_59 : Value) (h0_60 : Value) (h0_61 : Value) (h0_62 : Value) (h0_63 : Value) (h0_64 : Value) (h0_65 : Value) (h0_66 : Value) (h0_67 : Value) (h0_68 : Value) (h0_69 : Value) (chc : ClassId) (chb1 : ClassId) (fhb1 : Nat → Int32) (chl1 : ClassId) (chr1 : ClassId) (chf1 : ClassId) (chz1 : ClassId) (fhz1 : Nat → Int32) : Met l yX12_know u_c_X12_know ({ frames := 1, cells := 0, slots := 0, locals := 23 }) (va_Pc [.ref h0, .int 0] (z_C (dC, dI) vwCl [(h0, .inr (12, [h0_0, h0_1, h0_2, .int 0, .int 0, h0_5, h0_6, h0_7, h0_8, .ref hc, h0_10, .ref hb1, .ref hl1, .ref hr1, .ref hf1, .ref hz1, h0_16, h0_17, h0_18, h0_19, h0_20, h0_21, h0_22, h0_23, h0_24, h0_25, h0_26, h0_27, h0_28, h0_29, h0_30, h0_31, h0_32, h0_33, h0_34, h0_35, h0_36, h0_37, h0_38, h0_39, h0_40, h0_41, h0_42, h0_43, h0_44, h0_45, h0_46, h0_47, h0_48, h0_49, h0_50, h0_51, h0_52, h0_53, h0_54, h0_55, h0_56, h0_57, h0_58, h0_59, h0_60, h0_61, h0_62, h0_63, h0_64, h0_65, h0_66, h0_67, h0_68, h0_69])), (hc, .inl (chc, 80, .inl (fun _ => 0))), (hb1, .inl (chb1, 12, .inl fhb1)), (hl1, .inl (chl1, 144, .inl (fun _ => 0))), (hr1, .inl (chr1, 12, .inl (fun _ => 0))), (hf1, .inl (chf1, 12, .inl (fun _ => 0))), (hz1, .inl (chz1, 12, .inl fhz1))] [(chc, .boolean), (chb1, .int), (chl1, .boolean), (chr1, .int), (chf1, .int), (chz1, .int)] sz)) (va_Qv (fun (_ : Unit) => True) (fun (_ : Unit) (t : State) => va_P (dC, dI) vwCl [(h0, .inr (12, [h0_0, h0_1, h0_2, .int 0, .int 0, h0_5, h0_6, h0_7, h0_8, .ref hc, h0_10, .ref hb1, .ref hl1, .ref hr1, .ref hf1, .ref hz1, .int 0, h0_17, h0_18, h0_19, h0_20, h0_21, h0_22, h0_23, h0_24, h0_25, h0_26, h0_27, h0_28, h0_29, h0_30, h0_31, h0_32, h0_33, h0_34, h0_35, h0_36, h0_37, h0_38, h0_39, h0_40, h0_41, h0_42, h0_43, h0_44, h0_45, h0_46, h0_47, h0_48, h0_49, h0_50, h0_51, h0_52, h0_53, h0_54, h0_55, h0_56, h0_57, h0_58, h0_59, h0_60, h0_61, h0_62, h0_63, h0_64, h0_65, h0_66, h0_67, h0_68, h0_69]))] t.heap ∧ va_K (dC, dI) vwCl [] t ∧ va_D (va_A [(h0, .inr (12, [h0_0, h0_1, h0_2, .int 0, .int 0, h0_5, h0_6, h0_7, h0_8, .ref hc, h0_10, .ref hb1, .ref hl1, .ref hr1, .ref hf1, .ref hz1, h0_16, h0_17, h0_18, h0_19, h0_20, h0_21, h0_22, h0_23, h0_24, h0_25, h0_26, h0_27, h0_28, h0_29, h0_30, h0_31, h0_32, h0_33, h0_34, h0_35, h0_36, h0_37, h0_38, h0_39, h0_40, h0_41, h0_42, h0_43, h0_44, h0_45, h0_46, h0_47, h0_48, h0_49, h0_50, h0_51, h0_52, h0_53, h0_54, h0_55, h0_56, h0_57, h0_58, h0_59, h0_60, h0_61, h0_62, h0_63, h0_64, h0_65, h0_66, h0_67, h0_68, h0_69])), (hc, .inl (chc, 80, .inl (fun _ => 0))), (hb1, .inl (chb1, 12, .inl fhb1)), (hl1, .inl (chl1, 144, .inl (fun _ => 0))), (hr1, .inl (chr1, 12, .inl (fun _ => 0))), (hf1, .inl (chf1, 12, .inl (fun _ => 0))), (hz1, .inl (chz1, 12, .inl fhz1))] sz) [(h0, .inr (12, [h0_0, h0_1, h0_2, .int 0, .int 0, h0_5, h0_6, h0_7, h0_8, .ref hc, h0_10, .ref hb1, .ref hl1, .ref hr1, .ref hf1, .ref hz1, .int 0, h0_17, h0_18, h0_19, h0_20, h0_21, h0_22, h0_23, h0_24, h0_25, h0_26, h0_27, h0_28, h0_29, h0_30, h0_31, h0_32, h0_33, h0_34, h0_35, h0_36, h0_37, h0_38, h0_39, h0_40, h0_41, h0_42, h0_43, h0_44, h0_45, h0_46, h0_47, h0_48, h0_49, h0_50, h0_51, h0_52, h0_53, h0_54, h0_55, h0_56, h0_57, h0_58, h0_59, h0_60, h0_61, h0_62, h0_63, h0_64, h0_65, h0_66, h0_67, h0_68, h0_69]))]) (va_A [(h0, .inr (12, [h0_0, h0_1, h0_2, .int 0, .int 0, h0_5, h0_6, h0_7, h0_8, .ref hc, h0_10, .ref hb1, .ref hl1, .ref hr1, .ref hf1, .ref hz1, h0_16, h0_17, h0_18, h0_19, h0_20, h0_21, h0_22, h0_23, h0_24, h0_25, h0_26, h0_27, h0_28, h0_29, h0_30, h0_31, h0_32, h0_33, h0_34, h0_35, h0_36, h0_37, h0_38, h0_39, h0_40, h0_41, h0_42, h0_43, h0_44, h0_45, h0_46, h0_47, h0_48, h0_49, h0_50, h0_51, h0_52, h0_53, h0_54, h0_55, h0_56, h0_57, h0_58, h0_59, h0_60, h0_61, h0_62, h0_63, h0_64, h0_65, h0_66, h0_67, h0_68, h0_69])), (hc, .inl (chc, 80, .inl (fun _ => 0))), (hb1, .inl (chb1, 12, .inl fhb1)), (hl1, .inl (chl1, 144, .inl (fun _ => 0))), (hr1, .inl (chr1, 12, .inl (fun _ => 0))), (hf1, .inl (chf1, 12, .inl (fun _ => 0))), (hz1, .inl (chz1, 12, .inl fhz1))] sz)) 0 0 (va_A [(h0, .inr (12, [h0_0, h0_1, h0_2, .int 0, .int 0, h0_5, h0_6, h0_7, h0_8, .ref hc, h0_10, .ref hb1, .ref hl1, .ref hr1, .ref hf1, .ref hz1, h0_16, h0_17, h0_18, h0_19, h0_20, h0_21, h0_22, h0_23, h0_24, h0_25, h0_26, h0_27, h0_28, h0_29, h0_30, h0_31, h0_32, h0_33, h0_34, h0_35, h0_36, h0_37, h0_38, h0_39, h0_40, h0_41, h0_42, h0_43, h0_44, h0_45, h0_46, h0_47, h0_48, h0_49, h0_50, h0_51, h0_52, h0_53, h0_54, h0_55, h0_56, h0_57, h0_58, h0_59, h0_60, h0_61, h0_62, h0_63, h0_64, h0_65, h0_66, h0_67, h0_68, h0_69])), (hc, .inl (chc, 80, .inl (fun _ => 0))), (hb1, .inl (chb1, 12, .inl fhb1)), (hl1, .inl (chl1, 144, .inl (fun _ => 0))), (hr1, .inl (chr1, 12, .inl (fun _ => 0))), (hf1, .inl (chf1, 12, .inl (fun _ => 0))), (hz1, .inl (chz1, 12, .inl fhz1))] sz) := by
  refine Met.ofW (cc := cX12_know) (maxL := 5) (ret := none) (by decide) rfl ?_
  intro p e s m args below meth c s₁ B hml hv
  obtain ⟨rfl, hsz, hP, hK, hD0⟩ := hv
  have hx := B.exec
  have hb := B.bytes
  have hr := B.returns
  have hts := atoms_spec (ws := u_c_X12_know) B.pre
  have hown : s.vm.findClass RX12 = some m.cls := findClass_of_methodNamed B.named
  have hlocks := B.notSynchronized
  subst hsz
  have hD := hD0.self (sz := s.heap.size)
  generalize hAe : va_A [(h0, .inr (12, [h0_0, h0_1, h0_2, .int 0, .int 0, h0_5, h0_6, h0_7, h0_8, .ref hc, h0_10, .ref hb1, .ref hl1, .ref hr1, .ref hf1, .ref hz1, h0_16, h0_17, h0_18, h0_19, h0_20, h0_21, h0_22, h0_23, h0_24, h0_25, h0_26, h0_27, h0_28, h0_29, h0_30, h0_31, h0_32, h0_33, h0_34, h0_35, h0_36, h0_37, h0_38, h0_39, h0_40, h0_41, h0_42, h0_43, h0_44, h0_45, h0_46, h0_47, h0_48, h0_49, h0_50, h0_51, h0_52, h0_53, h0_54, h0_55, h0_56, h0_57, h0_58, h0_59, h0_60, h0_61, h0_62, h0_63, h0_64, h0_65, h0_66, h0_67, h0_68, h0_69])), (hc, .inl (chc, 80, .inl (fun _ => 0))), (hb1, .inl (chb1, 12, .inl fhb1)), (hl1, .inl (chl1, 144, .inl (fun _ => 0))), (hr1, .inl (chr1, 12, .inl (fun _ => 0))), (hf1, .inl (chf1, 12, .inl (fun _ => 0))), (hz1, .inl (chz1, 12, .inl fhz1))] s.heap.size = A at hD ⊢
  have hA : ∀ q : Nat, s.heap.size ≤ q → A q := fun q h => by rw [← hAe]; exact Or.inr h
  have hS : va_S A s.heap s.heap [] := va_S.rf
  have hP : va_P (dC, dI) vwCl [(h0, .inr (12, [h0_0, h0_1, h0_2, .int 0, .int 0, h0_5, h0_6, h0_7, h0_8, .ref hc, h0_10, .ref hb1, .ref hl1, .ref hr1, .ref hf1, .ref hz1, h0_16, h0_17, h0_18, h0_19, h0_20, h0_21, h0_22, h0_23, h0_24, h0_25, h0_26, h0_27, h0_28, h0_29, h0_30, h0_31, h0_32, h0_33, h0_34, h0_35, h0_36, h0_37, h0_38, h0_39, h0_40, h0_41, h0_42, h0_43, h0_44, h0_45, h0_46, h0_47, h0_48, h0_49, h0_50, h0_51, h0_52, h0_53, h0_54, h0_55, h0_56, h0_57, h0_58, h0_59, h0_60, h0_61, h0_62, h0_63, h0_64, h0_65, h0_66, h0_67, h0_68, h0_69])), (hc, .inl (chc, 80, .inl (fun _ => 0))), (hb1, .inl (chb1, 12, .inl fhb1)), (hl1, .inl (chl1, 144, .inl (fun _ => 0))), (hr1, .inl (chr1, 12, .inl (fun _ => 0))), (hf1, .inl (chf1, 12, .inl (fun _ => 0))), (hz1, .inl (chz1, 12, .inl fhz1))] s.heap := hP
  have w__fieldLink_RX12_154_ShellHeapModel_notes_I_ := hts (.fieldLink RX12 154 "ShellHeapModel" "notes" "I") (by decide +kernel)
  have hiX12 := show ∀ w ∈ u_ws RX12 TX12 70, w ∈ u_c_X12_know by decide +kernel
  have w__fieldLink_RX12_32_ShellHeapModel_bedOf_I_ := hts (.fieldLink RX12 32 "ShellHeapModel" "bedOf" "[I") (by decide +kernel)
  have w__fieldLink_RX12_25_ShellHeapModel_counts_Z_ := hts (.fieldLink RX12 25 "ShellHeapModel" "counts" "[Z") (by decide +kernel)
  have hl := lv_entry ([.ref h0, .int 0]) (n := 5) (Nat.le_of_ble_eq_true rfl)
  rw [lg_entry_eq]
  generalize (lg_sl ([.ref h0, .int 0]) ++ List.replicate (5 - (lg_sl ([.ref h0, .int 0])).length) Slot.unset).toArray = ls at hl ⊢
  have hl : lv_has ls 5 [(0, .ref h0), (1, .int 0)] := hl
  refine z_nameQ (fun QQ hQQ => ?_)
  refine lv_iconst (v := 0) hx hb dX12_know_0 (by decide) ?_
  refine lv_istore_n (lv' := [(2, .int 0), (0, .ref h0), (1, .int 0)]) hx hb dX12_know_1 rfl hl (by decide) rfl (fun ls hl => ?_)
  have loop_1 : ∀ (n_3 j_2 : Nat) (H : Heap) (locs : List Loc) (ls : Array Slot), j_2 + n_3 = 80 → va_P (dC, dI) vwCl [(h0, .inr (12, [h0_0, h0_1, h0_2, .int 0, .int 0, h0_5, h0_6, h0_7, h0_8, .ref hc, h0_10, .ref hb1, .ref hl1, .ref hr1, .ref hf1, .ref hz1, h0_16, h0_17, h0_18, h0_19, h0_20, h0_21, h0_22, h0_23, h0_24, h0_25, h0_26, h0_27, h0_28, h0_29, h0_30, h0_31, h0_32, h0_33, h0_34, h0_35, h0_36, h0_37, h0_38, h0_39, h0_40, h0_41, h0_42, h0_43, h0_44, h0_45, h0_46, h0_47, h0_48, h0_49, h0_50, h0_51, h0_52, h0_53, h0_54, h0_55, h0_56, h0_57, h0_58, h0_59, h0_60, h0_61, h0_62, h0_63, h0_64, h0_65, h0_66, h0_67, h0_68, h0_69])), (hc, .inl (chc, 80, .inl (fun _ => 0))), (hb1, .inl (chb1, 12, .inl fhb1)), (hl1, .inl (chl1, 144, .inl (fun _ => 0))), (hr1, .inl (chr1, 12, .inl (fun _ => 0))), (hf1, .inl (chf1, 12, .inl (fun _ => 0))), (hz1, .inl (chz1, 12, .inl fhz1))] H → va_D A [(h0, .inr (12, [h0_0, h0_1, h0_2, .int 0, .int 0, h0_5, h0_6, h0_7, h0_8, .ref hc, h0_10, .ref hb1, .ref hl1, .ref hr1, .ref hf1, .ref hz1, h0_16, h0_17, h0_18, h0_19, h0_20, h0_21, h0_22, h0_23, h0_24, h0_25, h0_26, h0_27, h0_28, h0_29, h0_30, h0_31, h0_32, h0_33, h0_34, h0_35, h0_36, h0_37, h0_38, h0_39, h0_40, h0_41, h0_42, h0_43, h0_44, h0_45, h0_46, h0_47, h0_48, h0_49, h0_50, h0_51, h0_52, h0_53, h0_54, h0_55, h0_56, h0_57, h0_58, h0_59, h0_60, h0_61, h0_62, h0_63, h0_64, h0_65, h0_66, h0_67, h0_68, h0_69])), (hc, .inl (chc, 80, .inl (fun _ => 0))), (hb1, .inl (chb1, 12, .inl fhb1)), (hl1, .inl (chl1, 144, .inl (fun _ => 0))), (hr1, .inl (chr1, 12, .inl (fun _ => 0))), (hf1, .inl (chf1, 12, .inl (fun _ => 0))), (hz1, .inl (chz1, 12, .inl fhz1))] → va_S A s.heap H locs → lv_has ls 5 [(2, .int (nI j_2)), (0, .ref h0), (1, .int 0)] → W p l e ({ frames := 1, cells := 0, slots := 0, locals := 23 } : Room) s m ([.ref h0, .int 0] : List Value).toArray below meth c H locs 0 0 QQ (F0 m 2 ls []) := by
    intro n_3
    induction n_3 with
    | zero =>
      intro j_2  H locs ls hjn  hP hD hS hl
      obtain rfl : j_2 = 80 := by omega
      have hl : lv_has ls 5 [(2, .int 80), (0, .ref h0), (1, .int 0)] := hl
      refine lv_iload_n hx hb dX12_know_2 rfl (lv_at hl 0 rfl) ?_
      refine lv_bipush (v := 80) hx hb dX12_know_3 (by decide) ?_
      refine lv_icmp_ge (tgt := 30) hx hb dX12_know_5 (by decide) (fun _ => ?_) (fun c_5 => absurd (by decide) c_5)
      refine lv_iload_n hx hb dX12_know_30 rfl (lv_at hl 2 rfl) ?_
      refine lv_iconst (v := 1) hx hb dX12_know_31 (by decide) ?_
      refine lv_isub hx hb dX12_know_32 ?_
      refine lv_topi (fun x_6 e_7 => ?_)
      obtain rfl : x_6 = (-1) := e_7.trans (by decide)
      refine lv_istore_n (lv' := [(2, .int (-1)), (0, .ref h0), (1, .int 0)]) hx hb dX12_know_33 rfl hl (by decide) rfl (fun ls hl => ?_)
      refine lv_iload_n hx hb dX12_know_34 rfl (lv_at hl 0 rfl) ?_
      refine lv_if_lt (tgt := 76) hx hb dX12_know_35 (by decide) (fun _ => ?_) (fun c_8 => absurd (by decide) c_8)
      refine lv_iconst (v := 0) hx hb dX12_know_76 (by decide) ?_
      refine lv_istore_n (lv' := [(2, .int 0), (0, .ref h0), (1, .int 0)]) hx hb dX12_know_77 rfl hl (by decide) rfl (fun ls hl => ?_)
      have loop_9 : ∀ (n_11 j_10 : Nat) (f_13 : Nat → Int32) (H : Heap) (locs : List Loc) (ls : Array Slot), j_10 + n_11 = 12 → va_P (dC, dI) vwCl [(h0, .inr (12, [h0_0, h0_1, h0_2, .int 0, .int 0, h0_5, h0_6, h0_7, h0_8, .ref hc, h0_10, .ref hb1, .ref hl1, .ref hr1, .ref hf1, .ref hz1, h0_16, h0_17, h0_18, h0_19, h0_20, h0_21, h0_22, h0_23, h0_24, h0_25, h0_26, h0_27, h0_28, h0_29, h0_30, h0_31, h0_32, h0_33, h0_34, h0_35, h0_36, h0_37, h0_38, h0_39, h0_40, h0_41, h0_42, h0_43, h0_44, h0_45, h0_46, h0_47, h0_48, h0_49, h0_50, h0_51, h0_52, h0_53, h0_54, h0_55, h0_56, h0_57, h0_58, h0_59, h0_60, h0_61, h0_62, h0_63, h0_64, h0_65, h0_66, h0_67, h0_68, h0_69])), (hc, .inl (chc, 80, .inl (fun _ => 0))), (hb1, .inl (chb1, 12, .inl f_13)), (hl1, .inl (chl1, 144, .inl (fun _ => 0))), (hr1, .inl (chr1, 12, .inl (fun _ => 0))), (hf1, .inl (chf1, 12, .inl (fun _ => 0))), (hz1, .inl (chz1, 12, .inl fhz1))] H → va_D A [(h0, .inr (12, [h0_0, h0_1, h0_2, .int 0, .int 0, h0_5, h0_6, h0_7, h0_8, .ref hc, h0_10, .ref hb1, .ref hl1, .ref hr1, .ref hf1, .ref hz1, h0_16, h0_17, h0_18, h0_19, h0_20, h0_21, h0_22, h0_23, h0_24, h0_25, h0_26, h0_27, h0_28, h0_29, h0_30, h0_31, h0_32, h0_33, h0_34, h0_35, h0_36, h0_37, h0_38, h0_39, h0_40, h0_41, h0_42, h0_43, h0_44, h0_45, h0_46, h0_47, h0_48, h0_49, h0_50, h0_51, h0_52, h0_53, h0_54, h0_55, h0_56, h0_57, h0_58, h0_59, h0_60, h0_61, h0_62, h0_63, h0_64, h0_65, h0_66, h0_67, h0_68, h0_69])), (hc, .inl (chc, 80, .inl (fun _ => 0))), (hb1, .inl (chb1, 12, .inl f_13)), (hl1, .inl (chl1, 144, .inl (fun _ => 0))), (hr1, .inl (chr1, 12, .inl (fun _ => 0))), (hf1, .inl (chf1, 12, .inl (fun _ => 0))), (hz1, .inl (chz1, 12, .inl fhz1))] → va_S A s.heap H locs → lv_has ls 5 [(2, .int (nI j_10)), (0, .ref h0), (1, .int 0)] → W p l e ({ frames := 1, cells := 0, slots := 0, locals := 23 } : Room) s m ([.ref h0, .int 0] : List Value).toArray below meth c H locs 0 0 QQ (F0 m 78 ls []) := by
        intro n_11
        induction n_11 with
        | zero =>
          intro j_10 f_13 H locs ls hjn  hP hD hS hl
          obtain rfl : j_10 = 12 := by omega
          have hl : lv_has ls 5 [(2, .int 12), (0, .ref h0), (1, .int 0)] := hl
          refine lv_iload_n hx hb dX12_know_78 rfl (lv_at hl 0 rfl) ?_
          refine lv_bipush (v := 12) hx hb dX12_know_79 (by decide) ?_
          refine lv_icmp_ge (tgt := 97) hx hb dX12_know_81 (by decide) (fun _ => ?_) (fun c_14 => absurd (by decide) c_14)
          refine lv_iconst (v := 1) hx hb dX12_know_97 (by decide) ?_
          refine lv_istore_n (lv' := [(2, .int 1), (0, .ref h0), (1, .int 0)]) hx hb dX12_know_98 rfl hl (by decide) rfl (fun ls hl => ?_)
          refine lv_iload_n hx hb dX12_know_99 rfl (lv_at hl 0 rfl) ?_
          refine lv_if_eq (tgt := 251) hx hb dX12_know_100 (by decide) (fun c_15 => absurd c_15 (by decide)) (fun _ => ?_)
          refine lv_iconst (v := 0) hx hb dX12_know_103 (by decide) ?_
          refine lv_istore_n (lv' := [(2, .int 0), (0, .ref h0), (1, .int 0)]) hx hb dX12_know_104 rfl hl (by decide) rfl (fun ls hl => ?_)
          refine lv_iconst (v := 0) hx hb dX12_know_105 (by decide) ?_
          refine lv_istore_n (lv' := [(3, .int 0), (2, .int 0), (0, .ref h0), (1, .int 0)]) hx hb dX12_know_106 rfl hl (by decide) rfl (fun ls hl => ?_)
          refine lv_iload_n hx hb dX12_know_107 rfl (lv_at hl 0 rfl) ?_
          refine lv_aload_n hx hb dX12_know_108 rfl (lv_at hl 2 rfl) ?_
          refine va_get (D := (dC, dI)) (ci := 12) (v := .int 0) (C := RX12) (T := TX12) (N := 70) hx hb hts hiX12 hown hK hP 0 rfl rfl 4 (by decide) w__fieldLink_RX12_154_ShellHeapModel_notes_I_ (fun _ h9 => h9) rfl dX12_know_109 ?_
          refine lv_icmp_ge (tgt := 248) hx hb dX12_know_112 (by decide) (fun _ => ?_) (fun c_16 => absurd (by decide) c_16)
          refine lv_goto (tgt := 99) hx hb dX12_know_248 (by decide) ?_
          refine lv_iload_n hx hb dX12_know_99 rfl (lv_at hl 1 rfl) ?_
          refine lv_if_eq (tgt := 251) hx hb dX12_know_100 (by decide) (fun _ => ?_) (fun c_17 => absurd (by decide) c_17)
          refine lv_aload_n hx hb dX12_know_251 rfl (lv_at hl 2 rfl) ?_
          have hPc := hP.sub (ws' := [(h0, .inr (12, [h0_0, h0_1, h0_2, .int 0, .int 0, h0_5, h0_6, h0_7, h0_8, .ref hc, h0_10, .ref hb1, .ref hl1, .ref hr1, .ref hf1, .ref hz1, h0_16, h0_17, h0_18, h0_19, h0_20, h0_21, h0_22, h0_23, h0_24, h0_25, h0_26, h0_27, h0_28, h0_29, h0_30, h0_31, h0_32, h0_33, h0_34, h0_35, h0_36, h0_37, h0_38, h0_39, h0_40, h0_41, h0_42, h0_43, h0_44, h0_45, h0_46, h0_47, h0_48, h0_49, h0_50, h0_51, h0_52, h0_53, h0_54, h0_55, h0_56, h0_57, h0_58, h0_59, h0_60, h0_61, h0_62, h0_63, h0_64, h0_65, h0_66, h0_67, h0_68, h0_69])), (hl1, .inl (chl1, 144, .inl (fun _ => 0))), (hr1, .inl (chr1, 12, .inl (fun _ => 0)))]) [0, 3, 4] rfl
          have hDc := hD.sub (ws' := [(h0, .inr (12, [h0_0, h0_1, h0_2, .int 0, .int 0, h0_5, h0_6, h0_7, h0_8, .ref hc, h0_10, .ref hb1, .ref hl1, .ref hr1, .ref hf1, .ref hz1, h0_16, h0_17, h0_18, h0_19, h0_20, h0_21, h0_22, h0_23, h0_24, h0_25, h0_26, h0_27, h0_28, h0_29, h0_30, h0_31, h0_32, h0_33, h0_34, h0_35, h0_36, h0_37, h0_38, h0_39, h0_40, h0_41, h0_42, h0_43, h0_44, h0_45, h0_46, h0_47, h0_48, h0_49, h0_50, h0_51, h0_52, h0_53, h0_54, h0_55, h0_56, h0_57, h0_58, h0_59, h0_60, h0_61, h0_62, h0_63, h0_64, h0_65, h0_66, h0_67, h0_68, h0_69])), (hl1, .inl (chl1, 144, .inl (fun _ => 0))), (hr1, .inl (chr1, 12, .inl (fun _ => 0)))]) [0, 3, 4] (by decide) rfl
          have hKc := hK.sub (tys' := [(chl1, .boolean), (chr1, .int)]) [2, 3] rfl
          have hFc := va_free (wc := [(h0, .inr (12, [h0_0, h0_1, h0_2, .int 0, .int 0, h0_5, h0_6, h0_7, h0_8, .ref hc, h0_10, .ref hb1, .ref hl1, .ref hr1, .ref hf1, .ref hz1, h0_16, h0_17, h0_18, h0_19, h0_20, h0_21, h0_22, h0_23, h0_24, h0_25, h0_26, h0_27, h0_28, h0_29, h0_30, h0_31, h0_32, h0_33, h0_34, h0_35, h0_36, h0_37, h0_38, h0_39, h0_40, h0_41, h0_42, h0_43, h0_44, h0_45, h0_46, h0_47, h0_48, h0_49, h0_50, h0_51, h0_52, h0_53, h0_54, h0_55, h0_56, h0_57, h0_58, h0_59, h0_60, h0_61, h0_62, h0_63, h0_64, h0_65, h0_66, h0_67, h0_68, h0_69])), (hl1, .inl (chl1, 144, .inl (fun _ => 0))), (hr1, .inl (chr1, 12, .inl (fun _ => 0)))]) hD hS hA [0, 3, 4] rfl
          refine va_callv (va_runV (As := []) (rest := []) ⟨hx, hb, hml, hown, hts⟩ (c_X12_orders l dC dI H.size h0 h0_0 h0_1 h0_2 (.int 0) h0_5 h0_6 h0_7 h0_8 (.ref hc) h0_10 (.ref hb1) hl1 hr1 (.ref hf1) (.ref hz1) h0_16 h0_17 h0_18 h0_19 h0_20 h0_21 h0_22 h0_23 h0_24 h0_25 h0_26 h0_27 h0_28 h0_29 h0_30 h0_31 h0_32 h0_33 h0_34 h0_35 h0_36 h0_37 h0_38 h0_39 h0_40 h0_41 h0_42 h0_43 h0_44 h0_45 h0_46 h0_47 h0_48 h0_49 h0_50 h0_51 h0_52 h0_53 h0_54 h0_55 h0_56 h0_57 h0_58 h0_59 h0_60 h0_61 h0_62 h0_63 h0_64 h0_65 h0_66 h0_67 h0_68 h0_69 chl1 chr1) (cwV 0 hts gw_c_X12_know_c_X12_orders_161 rfl rfl rfl (by decide +kernel) ⟨Nat.le_of_ble_eq_true rfl, Nat.le_of_ble_eq_true rfl⟩) ⟨z_blind, va_recv hKc hPc (ci := 12) (q0 := 0) rfl rfl, z_pre hPc hKc hDc⟩ rfl rfl hl.1 rfl (lv_room (Nat.le_of_ble_eq_true rfl)) dX12_know_252 ⟨Nat.le_of_ble_eq_true rfl, Nat.le_of_ble_eq_true rfl⟩) hS (fun q _ h => hFc q h) hFc (fun u t H_18 locs ht hvm hw_20 hB hz1 hk1 hS => ?_)
          obtain ⟨hP1, hK1, hD1⟩ := hB
          rw [ht] at hP1
          have hK1 := va_K.moved hvm.symm hK1
          obtain ⟨hP, hD⟩ := va_join (wr := [(hc, .inl (chc, 80, .inl (fun _ => 0))), (hb1, .inl (chb1, 12, .inl f_13)), (hf1, .inl (chf1, 12, .inl (fun _ => 0))), (hz1, .inl (chz1, 12, .inl fhz1))]) (w1 := [(h0, .inr (12, [h0_0, h0_1, h0_2, .int 0, .int 0, h0_5, h0_6, h0_7, h0_8, .ref hc, h0_10, .ref hb1, .ref hl1, .ref hr1, .ref hf1, .ref hz1, .int 0, h0_17, h0_18, h0_19, h0_20, h0_21, h0_22, h0_23, h0_24, h0_25, h0_26, h0_27, h0_28, h0_29, h0_30, h0_31, h0_32, h0_33, h0_34, h0_35, h0_36, h0_37, h0_38, h0_39, h0_40, h0_41, h0_42, h0_43, h0_44, h0_45, h0_46, h0_47, h0_48, h0_49, h0_50, h0_51, h0_52, h0_53, h0_54, h0_55, h0_56, h0_57, h0_58, h0_59, h0_60, h0_61, h0_62, h0_63, h0_64, h0_65, h0_66, h0_67, h0_68, h0_69])), (hl1, .inl (chl1, 144, .inl (fun _ => 0))), (hr1, .inl (chr1, 12, .inl (fun _ => 0)))]) hP hD [0, 3, 4] [1, 2, 5, 6] rfl rfl (by decide) (by decide) hk1 hFc hP1 hD1
          have hP : va_P (dC, dI) vwCl [(hc, .inl (chc, 80, .inl (fun _ => 0))), (hb1, .inl (chb1, 12, .inl f_13)), (hf1, .inl (chf1, 12, .inl (fun _ => 0))), (hz1, .inl (chz1, 12, .inl fhz1)), (h0, .inr (12, [h0_0, h0_1, h0_2, .int 0, .int 0, h0_5, h0_6, h0_7, h0_8, .ref hc, h0_10, .ref hb1, .ref hl1, .ref hr1, .ref hf1, .ref hz1, .int 0, h0_17, h0_18, h0_19, h0_20, h0_21, h0_22, h0_23, h0_24, h0_25, h0_26, h0_27, h0_28, h0_29, h0_30, h0_31, h0_32, h0_33, h0_34, h0_35, h0_36, h0_37, h0_38, h0_39, h0_40, h0_41, h0_42, h0_43, h0_44, h0_45, h0_46, h0_47, h0_48, h0_49, h0_50, h0_51, h0_52, h0_53, h0_54, h0_55, h0_56, h0_57, h0_58, h0_59, h0_60, h0_61, h0_62, h0_63, h0_64, h0_65, h0_66, h0_67, h0_68, h0_69])), (hl1, .inl (chl1, 144, .inl (fun _ => 0))), (hr1, .inl (chr1, 12, .inl (fun _ => 0)))] H_18 := hP
          have hD : va_D A [(hc, .inl (chc, 80, .inl (fun _ => 0))), (hb1, .inl (chb1, 12, .inl f_13)), (hf1, .inl (chf1, 12, .inl (fun _ => 0))), (hz1, .inl (chz1, 12, .inl fhz1)), (h0, .inr (12, [h0_0, h0_1, h0_2, .int 0, .int 0, h0_5, h0_6, h0_7, h0_8, .ref hc, h0_10, .ref hb1, .ref hl1, .ref hr1, .ref hf1, .ref hz1, .int 0, h0_17, h0_18, h0_19, h0_20, h0_21, h0_22, h0_23, h0_24, h0_25, h0_26, h0_27, h0_28, h0_29, h0_30, h0_31, h0_32, h0_33, h0_34, h0_35, h0_36, h0_37, h0_38, h0_39, h0_40, h0_41, h0_42, h0_43, h0_44, h0_45, h0_46, h0_47, h0_48, h0_49, h0_50, h0_51, h0_52, h0_53, h0_54, h0_55, h0_56, h0_57, h0_58, h0_59, h0_60, h0_61, h0_62, h0_63, h0_64, h0_65, h0_66, h0_67, h0_68, h0_69])), (hl1, .inl (chl1, 144, .inl (fun _ => 0))), (hr1, .inl (chr1, 12, .inl (fun _ => 0)))] := hD
          clear hPc hDc hKc
          refine lv_aload_n hx hb dX12_know_255 rfl (lv_at hl 2 rfl) ?_
          have hPc := hP.sub (ws' := [(h0, .inr (12, [h0_0, h0_1, h0_2, .int 0, .int 0, h0_5, h0_6, h0_7, h0_8, .ref hc, h0_10, .ref hb1, .ref hl1, .ref hr1, .ref hf1, .ref hz1, .int 0, h0_17, h0_18, h0_19, h0_20, h0_21, h0_22, h0_23, h0_24, h0_25, h0_26, h0_27, h0_28, h0_29, h0_30, h0_31, h0_32, h0_33, h0_34, h0_35, h0_36, h0_37, h0_38, h0_39, h0_40, h0_41, h0_42, h0_43, h0_44, h0_45, h0_46, h0_47, h0_48, h0_49, h0_50, h0_51, h0_52, h0_53, h0_54, h0_55, h0_56, h0_57, h0_58, h0_59, h0_60, h0_61, h0_62, h0_63, h0_64, h0_65, h0_66, h0_67, h0_68, h0_69])), (hl1, .inl (chl1, 144, .inl (fun _ => 0))), (hf1, .inl (chf1, 12, .inl (fun _ => 0))), (hz1, .inl (chz1, 12, .inl fhz1))]) [4, 5, 2, 3] rfl
          have hDc := hD.sub (ws' := [(h0, .inr (12, [h0_0, h0_1, h0_2, .int 0, .int 0, h0_5, h0_6, h0_7, h0_8, .ref hc, h0_10, .ref hb1, .ref hl1, .ref hr1, .ref hf1, .ref hz1, .int 0, h0_17, h0_18, h0_19, h0_20, h0_21, h0_22, h0_23, h0_24, h0_25, h0_26, h0_27, h0_28, h0_29, h0_30, h0_31, h0_32, h0_33, h0_34, h0_35, h0_36, h0_37, h0_38, h0_39, h0_40, h0_41, h0_42, h0_43, h0_44, h0_45, h0_46, h0_47, h0_48, h0_49, h0_50, h0_51, h0_52, h0_53, h0_54, h0_55, h0_56, h0_57, h0_58, h0_59, h0_60, h0_61, h0_62, h0_63, h0_64, h0_65, h0_66, h0_67, h0_68, h0_69])), (hl1, .inl (chl1, 144, .inl (fun _ => 0))), (hf1, .inl (chf1, 12, .inl (fun _ => 0))), (hz1, .inl (chz1, 12, .inl fhz1))]) [4, 5, 2, 3] (by decide) rfl
          have hKc := hK.sub (tys' := [(chl1, .boolean), (chf1, .int), (chz1, .int)]) [2, 4, 5] rfl
          have hFc := va_free (wc := [(h0, .inr (12, [h0_0, h0_1, h0_2, .int 0, .int 0, h0_5, h0_6, h0_7, h0_8, .ref hc, h0_10, .ref hb1, .ref hl1, .ref hr1, .ref hf1, .ref hz1, .int 0, h0_17, h0_18, h0_19, h0_20, h0_21, h0_22, h0_23, h0_24, h0_25, h0_26, h0_27, h0_28, h0_29, h0_30, h0_31, h0_32, h0_33, h0_34, h0_35, h0_36, h0_37, h0_38, h0_39, h0_40, h0_41, h0_42, h0_43, h0_44, h0_45, h0_46, h0_47, h0_48, h0_49, h0_50, h0_51, h0_52, h0_53, h0_54, h0_55, h0_56, h0_57, h0_58, h0_59, h0_60, h0_61, h0_62, h0_63, h0_64, h0_65, h0_66, h0_67, h0_68, h0_69])), (hl1, .inl (chl1, 144, .inl (fun _ => 0))), (hf1, .inl (chf1, 12, .inl (fun _ => 0))), (hz1, .inl (chz1, 12, .inl fhz1))]) hD hS hA [4, 5, 2, 3] rfl
          refine va_callv (va_runV (As := []) (rest := []) ⟨hx, hb, hml, hown, hts⟩ (c_X12_spans l dC dI H_18.size h0 h0_0 h0_1 h0_2 (.int 0) h0_5 h0_6 h0_7 h0_8 (.ref hc) h0_10 (.ref hb1) hl1 (.ref hr1) hf1 hz1 h0_17 h0_18 h0_19 h0_20 h0_21 h0_22 h0_23 h0_24 h0_25 h0_26 h0_27 h0_28 h0_29 h0_30 h0_31 h0_32 h0_33 h0_34 h0_35 h0_36 h0_37 h0_38 h0_39 h0_40 h0_41 h0_42 h0_43 h0_44 h0_45 h0_46 h0_47 h0_48 h0_49 h0_50 h0_51 h0_52 h0_53 h0_54 h0_55 h0_56 h0_57 h0_58 h0_59 h0_60 h0_61 h0_62 h0_63 h0_64 h0_65 h0_66 h0_67 h0_68 h0_69 chl1 chf1 chz1 fhz1) (cwV 0 hts gw_c_X12_know_c_X12_spans_164 rfl rfl rfl (by decide +kernel) ⟨Nat.le_of_ble_eq_true rfl, Nat.le_of_ble_eq_true rfl⟩) ⟨z_blind, va_recv hKc hPc (ci := 12) (q0 := 0) rfl rfl, z_pre hPc hKc hDc⟩ rfl rfl hl.1 rfl (lv_room (Nat.le_of_ble_eq_true rfl)) dX12_know_256 ⟨Nat.le_of_ble_eq_true rfl, Nat.le_of_ble_eq_true rfl⟩) hS (fun q _ h => hFc q h) hFc (fun u t H_21 locs ht hvm hw_23 hB hz1 hk1 hS => ?_)
          obtain ⟨hP1, hK1, hD1⟩ := hB
          rw [ht] at hP1
          have hK1 := va_K.moved hvm.symm hK1
          obtain ⟨hP, hD⟩ := va_join (wr := [(hc, .inl (chc, 80, .inl (fun _ => 0))), (hb1, .inl (chb1, 12, .inl f_13)), (hr1, .inl (chr1, 12, .inl (fun _ => 0)))]) (w1 := [(h0, .inr (12, [h0_0, h0_1, h0_2, .int 0, .int 0, h0_5, h0_6, h0_7, h0_8, .ref hc, h0_10, .ref hb1, .ref hl1, .ref hr1, .ref hf1, .ref hz1, .int 0, h0_17, h0_18, h0_19, h0_20, h0_21, h0_22, h0_23, h0_24, h0_25, h0_26, h0_27, h0_28, h0_29, h0_30, h0_31, h0_32, h0_33, h0_34, h0_35, h0_36, h0_37, h0_38, h0_39, h0_40, h0_41, h0_42, h0_43, h0_44, h0_45, h0_46, h0_47, h0_48, h0_49, h0_50, h0_51, h0_52, h0_53, h0_54, h0_55, h0_56, h0_57, h0_58, h0_59, h0_60, h0_61, h0_62, h0_63, h0_64, h0_65, h0_66, h0_67, h0_68, h0_69]))]) hP hD [4, 5, 2, 3] [0, 1, 6] rfl rfl (by decide) (by decide) hk1 hFc hP1 hD1
          have hP : va_P (dC, dI) vwCl [(hc, .inl (chc, 80, .inl (fun _ => 0))), (hb1, .inl (chb1, 12, .inl f_13)), (hr1, .inl (chr1, 12, .inl (fun _ => 0))), (h0, .inr (12, [h0_0, h0_1, h0_2, .int 0, .int 0, h0_5, h0_6, h0_7, h0_8, .ref hc, h0_10, .ref hb1, .ref hl1, .ref hr1, .ref hf1, .ref hz1, .int 0, h0_17, h0_18, h0_19, h0_20, h0_21, h0_22, h0_23, h0_24, h0_25, h0_26, h0_27, h0_28, h0_29, h0_30, h0_31, h0_32, h0_33, h0_34, h0_35, h0_36, h0_37, h0_38, h0_39, h0_40, h0_41, h0_42, h0_43, h0_44, h0_45, h0_46, h0_47, h0_48, h0_49, h0_50, h0_51, h0_52, h0_53, h0_54, h0_55, h0_56, h0_57, h0_58, h0_59, h0_60, h0_61, h0_62, h0_63, h0_64, h0_65, h0_66, h0_67, h0_68, h0_69]))] H_21 := hP
          have hD : va_D A [(hc, .inl (chc, 80, .inl (fun _ => 0))), (hb1, .inl (chb1, 12, .inl f_13)), (hr1, .inl (chr1, 12, .inl (fun _ => 0))), (h0, .inr (12, [h0_0, h0_1, h0_2, .int 0, .int 0, h0_5, h0_6, h0_7, h0_8, .ref hc, h0_10, .ref hb1, .ref hl1, .ref hr1, .ref hf1, .ref hz1, .int 0, h0_17, h0_18, h0_19, h0_20, h0_21, h0_22, h0_23, h0_24, h0_25, h0_26, h0_27, h0_28, h0_29, h0_30, h0_31, h0_32, h0_33, h0_34, h0_35, h0_36, h0_37, h0_38, h0_39, h0_40, h0_41, h0_42, h0_43, h0_44, h0_45, h0_46, h0_47, h0_48, h0_49, h0_50, h0_51, h0_52, h0_53, h0_54, h0_55, h0_56, h0_57, h0_58, h0_59, h0_60, h0_61, h0_62, h0_63, h0_64, h0_65, h0_66, h0_67, h0_68, h0_69]))] := hD
          clear hPc hDc hKc
          refine z_backQ hQQ ?_
          have hP9 := hP.sub (ws' := [(h0, .inr (12, [h0_0, h0_1, h0_2, .int 0, .int 0, h0_5, h0_6, h0_7, h0_8, .ref hc, h0_10, .ref hb1, .ref hl1, .ref hr1, .ref hf1, .ref hz1, .int 0, h0_17, h0_18, h0_19, h0_20, h0_21, h0_22, h0_23, h0_24, h0_25, h0_26, h0_27, h0_28, h0_29, h0_30, h0_31, h0_32, h0_33, h0_34, h0_35, h0_36, h0_37, h0_38, h0_39, h0_40, h0_41, h0_42, h0_43, h0_44, h0_45, h0_46, h0_47, h0_48, h0_49, h0_50, h0_51, h0_52, h0_53, h0_54, h0_55, h0_56, h0_57, h0_58, h0_59, h0_60, h0_61, h0_62, h0_63, h0_64, h0_65, h0_66, h0_67, h0_68, h0_69]))]) [3] rfl
          have hD9 := hD.sub (ws' := [(h0, .inr (12, [h0_0, h0_1, h0_2, .int 0, .int 0, h0_5, h0_6, h0_7, h0_8, .ref hc, h0_10, .ref hb1, .ref hl1, .ref hr1, .ref hf1, .ref hz1, .int 0, h0_17, h0_18, h0_19, h0_20, h0_21, h0_22, h0_23, h0_24, h0_25, h0_26, h0_27, h0_28, h0_29, h0_30, h0_31, h0_32, h0_33, h0_34, h0_35, h0_36, h0_37, h0_38, h0_39, h0_40, h0_41, h0_42, h0_43, h0_44, h0_45, h0_46, h0_47, h0_48, h0_49, h0_50, h0_51, h0_52, h0_53, h0_54, h0_55, h0_56, h0_57, h0_58, h0_59, h0_60, h0_61, h0_62, h0_63, h0_64, h0_65, h0_66, h0_67, h0_68, h0_69]))]) [3] (by decide) rfl
          have hK9 := hK.sub (tys' := []) [] rfl
          refine W.widen (k := 0) (n := 0) (Nat.le_of_ble_eq_true rfl) (Nat.le_of_ble_eq_true rfl) ?_
          exact W.vret hx hb hr (fun t ht hW => ⟨⟨(), rfl, trivial, ⟨by rw [ht]; exact hP9, va_K.moved hW.alike hK9, hD9⟩⟩, hS.F ht⟩) hS.2.2 dX12_know_259
        | succ n_11 ih_12 =>
          intro j_10 f_13 H locs ls hjn  hP hD hS hl
          have hj_24 : j_10 < 12 := by omega
          refine lv_iload_n hx hb dX12_know_78 rfl (lv_at hl 0 rfl) ?_
          refine lv_bipush (v := 12) hx hb dX12_know_79 (by decide) ?_
          refine lv_icmp_ge (tgt := 97) hx hb dX12_know_81 (by decide) (fun c_25 => ?_) (fun c_25 => ?_)
          · exfalso
            have k_26 := z_le c_25
            rw [nI_toInt (show j_10 < 2 ^ 31 by omega)] at k_26
            have k_26 : (12 : Int) ≤ ((j_10 : Nat) : Int) := k_26
            omega
          refine lv_aload_n hx hb dX12_know_84 rfl (lv_at hl 1 rfl) ?_
          refine va_get (D := (dC, dI)) (ci := 12) (v := .ref hb1) (C := RX12) (T := TX12) (N := 70) hx hb hts hiX12 hown hK hP 0 rfl rfl 11 (by decide) w__fieldLink_RX12_32_ShellHeapModel_bedOf_I_ (fun _ h9 => h9) rfl dX12_know_85 ?_
          refine lv_iload_n hx hb dX12_know_88 rfl (lv_at hl 0 rfl) ?_
          refine lv_iload_n hx hb dX12_know_89 rfl (lv_at hl 0 rfl) ?_
          refine va_iast hx hb hK hP hD hS 2 1 rfl rfl (vp_in_nI (show j_10 < 12 by omega) (by decide)) dX12_know_90 (fun H_27 locs hP hD hS => ?_)
          have hP : va_P (dC, dI) vwCl [(h0, .inr (12, [h0_0, h0_1, h0_2, .int 0, .int 0, h0_5, h0_6, h0_7, h0_8, .ref hc, h0_10, .ref hb1, .ref hl1, .ref hr1, .ref hf1, .ref hz1, h0_16, h0_17, h0_18, h0_19, h0_20, h0_21, h0_22, h0_23, h0_24, h0_25, h0_26, h0_27, h0_28, h0_29, h0_30, h0_31, h0_32, h0_33, h0_34, h0_35, h0_36, h0_37, h0_38, h0_39, h0_40, h0_41, h0_42, h0_43, h0_44, h0_45, h0_46, h0_47, h0_48, h0_49, h0_50, h0_51, h0_52, h0_53, h0_54, h0_55, h0_56, h0_57, h0_58, h0_59, h0_60, h0_61, h0_62, h0_63, h0_64, h0_65, h0_66, h0_67, h0_68, h0_69])), (hc, .inl (chc, 80, .inl (fun _ => 0))), (hb1, .inl (chb1, 12, .inl (upd f_13 ((nI j_10) : Int32).toNatClampNeg (nI j_10)))), (hl1, .inl (chl1, 144, .inl (fun _ => 0))), (hr1, .inl (chr1, 12, .inl (fun _ => 0))), (hf1, .inl (chf1, 12, .inl (fun _ => 0))), (hz1, .inl (chz1, 12, .inl fhz1))] H_27 := hP
          have hD : va_D A [(h0, .inr (12, [h0_0, h0_1, h0_2, .int 0, .int 0, h0_5, h0_6, h0_7, h0_8, .ref hc, h0_10, .ref hb1, .ref hl1, .ref hr1, .ref hf1, .ref hz1, h0_16, h0_17, h0_18, h0_19, h0_20, h0_21, h0_22, h0_23, h0_24, h0_25, h0_26, h0_27, h0_28, h0_29, h0_30, h0_31, h0_32, h0_33, h0_34, h0_35, h0_36, h0_37, h0_38, h0_39, h0_40, h0_41, h0_42, h0_43, h0_44, h0_45, h0_46, h0_47, h0_48, h0_49, h0_50, h0_51, h0_52, h0_53, h0_54, h0_55, h0_56, h0_57, h0_58, h0_59, h0_60, h0_61, h0_62, h0_63, h0_64, h0_65, h0_66, h0_67, h0_68, h0_69])), (hc, .inl (chc, 80, .inl (fun _ => 0))), (hb1, .inl (chb1, 12, .inl (upd f_13 ((nI j_10) : Int32).toNatClampNeg (nI j_10)))), (hl1, .inl (chl1, 144, .inl (fun _ => 0))), (hr1, .inl (chr1, 12, .inl (fun _ => 0))), (hf1, .inl (chf1, 12, .inl (fun _ => 0))), (hz1, .inl (chz1, 12, .inl fhz1))] := hD
          generalize (upd f_13 ((nI j_10) : Int32).toNatClampNeg (nI j_10)) = f_28 at hP hD
          refine lv_iinc (v := (nI (j_10 + 1))) (lv' := [(2, .int (nI (j_10 + 1))), (0, .ref h0), (1, .int 0)]) hx hb dX12_know_91 hl (k := 0) rfl (nI_1 j_10) (by decide) rfl (fun ls hl => ?_)
          refine lv_goto (tgt := 78) hx hb dX12_know_94 (by decide) ?_
          exact ih_12 (j_10 + 1) _ _ _ _ (by omega)  hP hD hS (lv_sub hl [0, 1, 2] rfl)
      exact loop_9 12 0 _ _ _ _ (by omega)  hP hD hS hl
    | succ n_3 ih_4 =>
      intro j_2  H locs ls hjn  hP hD hS hl
      have hj_29 : j_2 < 80 := by omega
      refine lv_iload_n hx hb dX12_know_2 rfl (lv_at hl 0 rfl) ?_
      refine lv_bipush (v := 80) hx hb dX12_know_3 (by decide) ?_
      refine lv_icmp_ge (tgt := 30) hx hb dX12_know_5 (by decide) (fun c_30 => ?_) (fun c_30 => ?_)
      · exfalso
        have k_31 := z_le c_30
        rw [nI_toInt (show j_2 < 2 ^ 31 by omega)] at k_31
        have k_31 : (80 : Int) ≤ ((j_2 : Nat) : Int) := k_31
        omega
      refine lv_aload_n hx hb dX12_know_8 rfl (lv_at hl 1 rfl) ?_
      refine va_get (D := (dC, dI)) (ci := 12) (v := .ref hc) (C := RX12) (T := TX12) (N := 70) hx hb hts hiX12 hown hK hP 0 rfl rfl 9 (by decide) w__fieldLink_RX12_25_ShellHeapModel_counts_Z_ (fun _ h9 => h9) rfl dX12_know_9 ?_
      refine lv_iload_n hx hb dX12_know_12 rfl (lv_at hl 0 rfl) ?_
      refine lv_iload_n hx hb dX12_know_13 rfl (lv_at hl 0 rfl) ?_
      refine lv_iload_n hx hb dX12_know_14 rfl (lv_at hl 2 rfl) ?_
      refine lv_icmp_ge (tgt := 22) hx hb dX12_know_15 (by decide) (fun _ => ?_) (fun c_32 => ?_)
      rotate_left
      · exfalso
        have k_33 := z_nle c_32
        rw [nI_toInt (show j_2 < 2 ^ 31 by omega)] at k_33
        have k_33 : (0 : Int) > ((j_2 : Nat) : Int) := k_33
        omega
      refine lv_iconst (v := 0) hx hb dX12_know_22 (by decide) ?_
      refine va_zast hx hb hK hP hD hS 1 0 rfl rfl (vp_in_nI (show j_2 < 80 by omega) (by decide)) dX12_know_23 (fun H_34 locs hP hD hS => ?_)
      have hP : va_P (dC, dI) vwCl [(h0, .inr (12, [h0_0, h0_1, h0_2, .int 0, .int 0, h0_5, h0_6, h0_7, h0_8, .ref hc, h0_10, .ref hb1, .ref hl1, .ref hr1, .ref hf1, .ref hz1, h0_16, h0_17, h0_18, h0_19, h0_20, h0_21, h0_22, h0_23, h0_24, h0_25, h0_26, h0_27, h0_28, h0_29, h0_30, h0_31, h0_32, h0_33, h0_34, h0_35, h0_36, h0_37, h0_38, h0_39, h0_40, h0_41, h0_42, h0_43, h0_44, h0_45, h0_46, h0_47, h0_48, h0_49, h0_50, h0_51, h0_52, h0_53, h0_54, h0_55, h0_56, h0_57, h0_58, h0_59, h0_60, h0_61, h0_62, h0_63, h0_64, h0_65, h0_66, h0_67, h0_68, h0_69])), (hc, .inl (chc, 80, .inl (upd (fun _ => 0) ((nI j_2) : Int32).toNatClampNeg (vp_nar .boolean 0)))), (hb1, .inl (chb1, 12, .inl fhb1)), (hl1, .inl (chl1, 144, .inl (fun _ => 0))), (hr1, .inl (chr1, 12, .inl (fun _ => 0))), (hf1, .inl (chf1, 12, .inl (fun _ => 0))), (hz1, .inl (chz1, 12, .inl fhz1))] H_34 := hP
      have hD : va_D A [(h0, .inr (12, [h0_0, h0_1, h0_2, .int 0, .int 0, h0_5, h0_6, h0_7, h0_8, .ref hc, h0_10, .ref hb1, .ref hl1, .ref hr1, .ref hf1, .ref hz1, h0_16, h0_17, h0_18, h0_19, h0_20, h0_21, h0_22, h0_23, h0_24, h0_25, h0_26, h0_27, h0_28, h0_29, h0_30, h0_31, h0_32, h0_33, h0_34, h0_35, h0_36, h0_37, h0_38, h0_39, h0_40, h0_41, h0_42, h0_43, h0_44, h0_45, h0_46, h0_47, h0_48, h0_49, h0_50, h0_51, h0_52, h0_53, h0_54, h0_55, h0_56, h0_57, h0_58, h0_59, h0_60, h0_61, h0_62, h0_63, h0_64, h0_65, h0_66, h0_67, h0_68, h0_69])), (hc, .inl (chc, 80, .inl (upd (fun _ => 0) ((nI j_2) : Int32).toNatClampNeg (vp_nar .boolean 0)))), (hb1, .inl (chb1, 12, .inl fhb1)), (hl1, .inl (chl1, 144, .inl (fun _ => 0))), (hr1, .inl (chr1, 12, .inl (fun _ => 0))), (hf1, .inl (chf1, 12, .inl (fun _ => 0))), (hz1, .inl (chz1, 12, .inl fhz1))] := hD
      rw [show (upd (fun _ => 0) ((nI j_2) : Int32).toNatClampNeg (vp_nar .boolean 0)) = (fun _ => 0) from z_upd0b _] at hP hD
      refine lv_iinc (v := (nI (j_2 + 1))) (lv' := [(2, .int (nI (j_2 + 1))), (0, .ref h0), (1, .int 0)]) hx hb dX12_know_24 hl (k := 0) rfl (nI_1 j_2) (by decide) rfl (fun ls hl => ?_)
      refine lv_goto (tgt := 2) hx hb dX12_know_27 (by decide) ?_
      exact ih_4 (j_2 + 1)  _ _ _ (by omega)  hP hD hS (lv_sub hl [0, 1, 2] rfl)
  exact loop_1 80 0  _ _ _ (by omega)  hP hD hS hl
def u_c_X12_quarrel : List Cond := .code yX12_quarrel cX12_quarrel 2 (some .int) :: ([.fieldLink RX12 145 "ShellHeapModel" "thrown" "I", .methodLink RX12 170 yX12_isKnown, .instanceMethod yX12_isKnown, .selects RX12 yX12_isKnown yX12_isKnown, .initialized RX12, .code yX12_isKnown cX12_isKnown 2 (some .boolean), .fieldLink RX12 154 "ShellHeapModel" "notes" "I", .methodLink RX12 173 yX12_know, .instanceMethod yX12_know, .selects RX12 yX12_know yX12_know, .code yX12_know cX12_know 5 none, .methodLink RX12 161 yX12_orders, .instanceMethod yX12_orders, .selects RX12 yX12_orders yX12_orders, .code yX12_orders cX12_orders 4 none, .fieldLink RX12 167 "ShellHeapModel" "quarrelNow" "I", .fieldLink RX12 35 "ShellHeapModel" "later" "[Z", .fieldLink RX12 38 "ShellHeapModel" "rank" "[I", .methodLink RX12 164 yX12_spans, .instanceMethod yX12_spans, .selects RX12 yX12_spans yX12_spans, .code yX12_spans cX12_spans 4 none, .fieldLink RX12 41 "ShellHeapModel" "first" "[I", .fieldLink RX12 44 "ShellHeapModel" "last" "[I", .fieldLink RX12 32 "ShellHeapModel" "bedOf" "[I", .fieldLink RX12 25 "ShellHeapModel" "counts" "[Z"] ++ wsX120)
set_option maxRecDepth 20000 in
theorem gw_c_X12_quarrel_c_X12_isKnown_170 : GoodIn u_c_X12_quarrel (wsV RX12 170 RX12 yX12_isKnown u_c_X12_isKnown) := goodIn_r _ [2, 3, 4, 5, 6, 7, 27, 28, 29, 30, 31, 32, 33, 34, 35, 36, 37, 38, 39, 40, 41, 42, 43, 44, 45, 46, 47, 48, 49, 50, 51, 52, 53, 54, 55, 56, 57, 58, 59, 60, 61, 62, 63, 64, 65, 66, 67, 68, 69, 70, 71, 72, 73, 74, 75, 76, 77, 78, 79, 80, 81, 82, 83, 84, 85, 86, 87, 88, 89, 90, 91, 92, 93, 94, 95, 96] (by decide +kernel) (by decide +kernel)
set_option maxRecDepth 20000 in
theorem gw_c_X12_quarrel_c_X12_know_173 : GoodIn u_c_X12_quarrel (wsV RX12 173 RX12 yX12_know u_c_X12_know) := goodIn_r _ [8, 9, 10, 5, 11, 7, 12, 13, 14, 5, 15, 16, 17, 18, 19, 20, 21, 22, 23, 24, 25, 26, 27, 28, 29, 30, 31, 32, 33, 34, 35, 36, 37, 38, 39, 40, 41, 42, 43, 44, 45, 46, 47, 48, 49, 50, 51, 52, 53, 54, 55, 56, 57, 58, 59, 60, 61, 62, 63, 64, 65, 66, 67, 68, 69, 70, 71, 72, 73, 74, 75, 76, 77, 78, 79, 80, 81, 82, 83, 84, 85, 86, 87, 88, 89, 90, 91, 92, 93, 94, 95, 96] (by decide +kernel) (by decide +kernel)
set_option maxHeartbeats 4000000 in
set_option maxRecDepth 100000 in
theorem c_X12_quarrel (l : Launch) (dC : Nat → ClassId) (dI : Nat → Nat → Nat) (sz : Nat) (h0 : Nat) (p1 : Int32) (h0_0 : Value) (h0_1 : Value) (h0_2 : Value) (h0_5 : Value) (h0_6 : Value) (h0_7 : Value) (h0_8 : Value) (hc : Nat) (h0_10 : Value) (hb1 : Nat) (hl1 : Nat) (hr1 : Nat) (hf1 : Nat) (hz1 : Nat) (h0_16 : Value) (h0_17 : Value) (h0_18 : Value) (h0_19 : Value) (h0_20 : Value) (h0_21 : Value) (h0_22 : Value) (h0_23 : Value) (h0_24 : Value) (h0_25 : Value) (h0_26 : Value) (h0_27 : Value) (h0_28 : Value) (h0_29 : Value) (h0_30 : Value) (h0_31 : Value) (h0_32 : Value) (h0_33 : Value) (h0_34 : Value) (h0_35 : Value) (h0_36 : Value) (h0_37 : Value) (h0_38 : Value) (h0_39 : Value) (h0_40 : Value) (h0_41 : Value) (h0_42 : Value) (h0_43 : Value) (h0_44 : Value) (h0_45 : Value) (h0_46 : Value) (h0_47 : Value) (h0_48 : Value) (h0_49 : Value) (h0_50 : Value) (h0_51 : Value) (h0_52 : Value) (h0_53 : Value) (h0_54 : Value) (h0_55 : Value) (h0_56 : Value) (h0_57 : Value) (h0_58 : Value) (h0_59 : Value) (h0_60 : Value) (h0_61 : Value) (h0_62 : Value) (h0_63 : Value) (h0_64 : Value) (h0_65 : Value) (h0_66 : Value) (h0_67 : Value) (h0_68 : Value) (h0_69 : Value) (chc : ClassId) (chb1 : ClassId) (fhb1 : Nat → Int32) (chl1 : ClassId) (chr1 : ClassId) (chf1 : ClassId) (chz1 : ClassId) (fhz1 : Nat → Int32) : Met l yX12_quarrel u_c_X12_quarrel ({ frames := 2, cells := 0, slots := 0, locals := 47 }) (va_Pc [.ref h0, .int p1] (z_C (dC, dI) vwCl [(h0, .inr (12, [h0_0, h0_1, h0_2, .int 0, .int 0, h0_5, h0_6, h0_7, h0_8, .ref hc, h0_10, .ref hb1, .ref hl1, .ref hr1, .ref hf1, .ref hz1, h0_16, h0_17, h0_18, h0_19, h0_20, h0_21, h0_22, h0_23, h0_24, h0_25, h0_26, h0_27, h0_28, h0_29, h0_30, h0_31, h0_32, h0_33, h0_34, h0_35, h0_36, h0_37, h0_38, h0_39, h0_40, h0_41, h0_42, h0_43, h0_44, h0_45, h0_46, h0_47, h0_48, h0_49, h0_50, h0_51, h0_52, h0_53, h0_54, h0_55, h0_56, h0_57, h0_58, h0_59, h0_60, h0_61, h0_62, h0_63, h0_64, h0_65, h0_66, h0_67, h0_68, h0_69])), (hc, .inl (chc, 80, .inl (fun _ => 0))), (hb1, .inl (chb1, 12, .inl fhb1)), (hl1, .inl (chl1, 144, .inl (fun _ => 0))), (hr1, .inl (chr1, 12, .inl (fun _ => 0))), (hf1, .inl (chf1, 12, .inl (fun _ => 0))), (hz1, .inl (chz1, 12, .inl fhz1))] [(chc, .boolean), (chb1, .int), (chl1, .boolean), (chr1, .int), (chf1, .int), (chz1, .int)] sz)) (va_Qi (fun (r : Int32) (_ : Unit) => r = v_quarrel p1) (fun (_ : Unit) (_ : State) => True) (va_A [(h0, .inr (12, [h0_0, h0_1, h0_2, .int 0, .int 0, h0_5, h0_6, h0_7, h0_8, .ref hc, h0_10, .ref hb1, .ref hl1, .ref hr1, .ref hf1, .ref hz1, h0_16, h0_17, h0_18, h0_19, h0_20, h0_21, h0_22, h0_23, h0_24, h0_25, h0_26, h0_27, h0_28, h0_29, h0_30, h0_31, h0_32, h0_33, h0_34, h0_35, h0_36, h0_37, h0_38, h0_39, h0_40, h0_41, h0_42, h0_43, h0_44, h0_45, h0_46, h0_47, h0_48, h0_49, h0_50, h0_51, h0_52, h0_53, h0_54, h0_55, h0_56, h0_57, h0_58, h0_59, h0_60, h0_61, h0_62, h0_63, h0_64, h0_65, h0_66, h0_67, h0_68, h0_69])), (hc, .inl (chc, 80, .inl (fun _ => 0))), (hb1, .inl (chb1, 12, .inl fhb1)), (hl1, .inl (chl1, 144, .inl (fun _ => 0))), (hr1, .inl (chr1, 12, .inl (fun _ => 0))), (hf1, .inl (chf1, 12, .inl (fun _ => 0))), (hz1, .inl (chz1, 12, .inl fhz1))] sz)) 0 0 (va_A [(h0, .inr (12, [h0_0, h0_1, h0_2, .int 0, .int 0, h0_5, h0_6, h0_7, h0_8, .ref hc, h0_10, .ref hb1, .ref hl1, .ref hr1, .ref hf1, .ref hz1, h0_16, h0_17, h0_18, h0_19, h0_20, h0_21, h0_22, h0_23, h0_24, h0_25, h0_26, h0_27, h0_28, h0_29, h0_30, h0_31, h0_32, h0_33, h0_34, h0_35, h0_36, h0_37, h0_38, h0_39, h0_40, h0_41, h0_42, h0_43, h0_44, h0_45, h0_46, h0_47, h0_48, h0_49, h0_50, h0_51, h0_52, h0_53, h0_54, h0_55, h0_56, h0_57, h0_58, h0_59, h0_60, h0_61, h0_62, h0_63, h0_64, h0_65, h0_66, h0_67, h0_68, h0_69])), (hc, .inl (chc, 80, .inl (fun _ => 0))), (hb1, .inl (chb1, 12, .inl fhb1)), (hl1, .inl (chl1, 144, .inl (fun _ => 0))), (hr1, .inl (chr1, 12, .inl (fun _ => 0))), (hf1, .inl (chf1, 12, .inl (fun _ => 0))), (hz1, .inl (chz1, 12, .inl fhz1))] sz) := by
  refine Met.ofW (cc := cX12_quarrel) (maxL := 2) (ret := (some .int)) (by decide) rfl ?_
  intro p e s m args below meth c s₁ B hml hv
  obtain ⟨rfl, hsz, hP, hK, hD0⟩ := hv
  have hx := B.exec
  have hb := B.bytes
  have hr := B.returns
  have hts := atoms_spec (ws := u_c_X12_quarrel) B.pre
  have hown : s.vm.findClass RX12 = some m.cls := findClass_of_methodNamed B.named
  have hlocks := B.notSynchronized
  subst hsz
  have hD := hD0.self (sz := s.heap.size)
  generalize hAe : va_A [(h0, .inr (12, [h0_0, h0_1, h0_2, .int 0, .int 0, h0_5, h0_6, h0_7, h0_8, .ref hc, h0_10, .ref hb1, .ref hl1, .ref hr1, .ref hf1, .ref hz1, h0_16, h0_17, h0_18, h0_19, h0_20, h0_21, h0_22, h0_23, h0_24, h0_25, h0_26, h0_27, h0_28, h0_29, h0_30, h0_31, h0_32, h0_33, h0_34, h0_35, h0_36, h0_37, h0_38, h0_39, h0_40, h0_41, h0_42, h0_43, h0_44, h0_45, h0_46, h0_47, h0_48, h0_49, h0_50, h0_51, h0_52, h0_53, h0_54, h0_55, h0_56, h0_57, h0_58, h0_59, h0_60, h0_61, h0_62, h0_63, h0_64, h0_65, h0_66, h0_67, h0_68, h0_69])), (hc, .inl (chc, 80, .inl (fun _ => 0))), (hb1, .inl (chb1, 12, .inl fhb1)), (hl1, .inl (chl1, 144, .inl (fun _ => 0))), (hr1, .inl (chr1, 12, .inl (fun _ => 0))), (hf1, .inl (chf1, 12, .inl (fun _ => 0))), (hz1, .inl (chz1, 12, .inl fhz1))] s.heap.size = A at hD ⊢
  have hA : ∀ q : Nat, s.heap.size ≤ q → A q := fun q h => by rw [← hAe]; exact Or.inr h
  have hS : va_S A s.heap s.heap [] := va_S.rf
  have hP : va_P (dC, dI) vwCl [(h0, .inr (12, [h0_0, h0_1, h0_2, .int 0, .int 0, h0_5, h0_6, h0_7, h0_8, .ref hc, h0_10, .ref hb1, .ref hl1, .ref hr1, .ref hf1, .ref hz1, h0_16, h0_17, h0_18, h0_19, h0_20, h0_21, h0_22, h0_23, h0_24, h0_25, h0_26, h0_27, h0_28, h0_29, h0_30, h0_31, h0_32, h0_33, h0_34, h0_35, h0_36, h0_37, h0_38, h0_39, h0_40, h0_41, h0_42, h0_43, h0_44, h0_45, h0_46, h0_47, h0_48, h0_49, h0_50, h0_51, h0_52, h0_53, h0_54, h0_55, h0_56, h0_57, h0_58, h0_59, h0_60, h0_61, h0_62, h0_63, h0_64, h0_65, h0_66, h0_67, h0_68, h0_69])), (hc, .inl (chc, 80, .inl (fun _ => 0))), (hb1, .inl (chb1, 12, .inl fhb1)), (hl1, .inl (chl1, 144, .inl (fun _ => 0))), (hr1, .inl (chr1, 12, .inl (fun _ => 0))), (hf1, .inl (chf1, 12, .inl (fun _ => 0))), (hz1, .inl (chz1, 12, .inl fhz1))] s.heap := hP
  have w__fieldLink_RX12_145_ShellHeapModel_thrown_I_ := hts (.fieldLink RX12 145 "ShellHeapModel" "thrown" "I") (by decide +kernel)
  have hiX12 := show ∀ w ∈ u_ws RX12 TX12 70, w ∈ u_c_X12_quarrel by decide +kernel
  have w__fieldLink_RX12_167_ShellHeapModel_quarrelNow_I_ := hts (.fieldLink RX12 167 "ShellHeapModel" "quarrelNow" "I") (by decide +kernel)
  have hl := lv_entry ([.ref h0, .int p1]) (n := 2) (Nat.le_of_ble_eq_true rfl)
  rw [lg_entry_eq]
  generalize (lg_sl ([.ref h0, .int p1]) ++ List.replicate (2 - (lg_sl ([.ref h0, .int p1])).length) Slot.unset).toArray = ls at hl ⊢
  have hl : lv_has ls 2 [(0, .ref h0), (1, .int p1)] := hl
  refine lv_aload_n hx hb dX12_quarrel_0 rfl (lv_at hl 0 rfl) ?_
  refine lv_iconst (v := 0) hx hb dX12_quarrel_1 (by decide) ?_
  refine va_put (D := (dC, dI)) (ci := 12) (v := .int 0) (ty := .int) (C := RX12) (T := TX12) (N := 70) hx hb hts hiX12 tyX12 tyX12_ok nmX12 hown hK hP hD hS 0 rfl rfl 2 (by decide) w__fieldLink_RX12_145_ShellHeapModel_thrown_I_ (fun _ h9 => h9) rfl (by decide +kernel) rfl rfl (Nat.le_of_ble_eq_true rfl) dX12_quarrel_2 (fun H_1 locs hP hD hS => ?_)
  have hP : va_P (dC, dI) vwCl [(h0, .inr (12, [h0_0, h0_1, .int 0, .int 0, .int 0, h0_5, h0_6, h0_7, h0_8, .ref hc, h0_10, .ref hb1, .ref hl1, .ref hr1, .ref hf1, .ref hz1, h0_16, h0_17, h0_18, h0_19, h0_20, h0_21, h0_22, h0_23, h0_24, h0_25, h0_26, h0_27, h0_28, h0_29, h0_30, h0_31, h0_32, h0_33, h0_34, h0_35, h0_36, h0_37, h0_38, h0_39, h0_40, h0_41, h0_42, h0_43, h0_44, h0_45, h0_46, h0_47, h0_48, h0_49, h0_50, h0_51, h0_52, h0_53, h0_54, h0_55, h0_56, h0_57, h0_58, h0_59, h0_60, h0_61, h0_62, h0_63, h0_64, h0_65, h0_66, h0_67, h0_68, h0_69])), (hc, .inl (chc, 80, .inl (fun _ => 0))), (hb1, .inl (chb1, 12, .inl fhb1)), (hl1, .inl (chl1, 144, .inl (fun _ => 0))), (hr1, .inl (chr1, 12, .inl (fun _ => 0))), (hf1, .inl (chf1, 12, .inl (fun _ => 0))), (hz1, .inl (chz1, 12, .inl fhz1))] H_1 := hP
  have hD : va_D A [(h0, .inr (12, [h0_0, h0_1, .int 0, .int 0, .int 0, h0_5, h0_6, h0_7, h0_8, .ref hc, h0_10, .ref hb1, .ref hl1, .ref hr1, .ref hf1, .ref hz1, h0_16, h0_17, h0_18, h0_19, h0_20, h0_21, h0_22, h0_23, h0_24, h0_25, h0_26, h0_27, h0_28, h0_29, h0_30, h0_31, h0_32, h0_33, h0_34, h0_35, h0_36, h0_37, h0_38, h0_39, h0_40, h0_41, h0_42, h0_43, h0_44, h0_45, h0_46, h0_47, h0_48, h0_49, h0_50, h0_51, h0_52, h0_53, h0_54, h0_55, h0_56, h0_57, h0_58, h0_59, h0_60, h0_61, h0_62, h0_63, h0_64, h0_65, h0_66, h0_67, h0_68, h0_69])), (hc, .inl (chc, 80, .inl (fun _ => 0))), (hb1, .inl (chb1, 12, .inl fhb1)), (hl1, .inl (chl1, 144, .inl (fun _ => 0))), (hr1, .inl (chr1, 12, .inl (fun _ => 0))), (hf1, .inl (chf1, 12, .inl (fun _ => 0))), (hz1, .inl (chz1, 12, .inl fhz1))] := hD
  refine lv_aload_n hx hb dX12_quarrel_5 rfl (lv_at hl 0 rfl) ?_
  refine lv_iload_n hx hb dX12_quarrel_6 rfl (lv_at hl 1 rfl) ?_
  have hPc := hP.sub (ws' := [(h0, .inr (12, [h0_0, h0_1, .int 0, .int 0, .int 0, h0_5, h0_6, h0_7, h0_8, .ref hc, h0_10, .ref hb1, .ref hl1, .ref hr1, .ref hf1, .ref hz1, h0_16, h0_17, h0_18, h0_19, h0_20, h0_21, h0_22, h0_23, h0_24, h0_25, h0_26, h0_27, h0_28, h0_29, h0_30, h0_31, h0_32, h0_33, h0_34, h0_35, h0_36, h0_37, h0_38, h0_39, h0_40, h0_41, h0_42, h0_43, h0_44, h0_45, h0_46, h0_47, h0_48, h0_49, h0_50, h0_51, h0_52, h0_53, h0_54, h0_55, h0_56, h0_57, h0_58, h0_59, h0_60, h0_61, h0_62, h0_63, h0_64, h0_65, h0_66, h0_67, h0_68, h0_69]))]) [0] rfl
  have hDc := hD.sub (ws' := [(h0, .inr (12, [h0_0, h0_1, .int 0, .int 0, .int 0, h0_5, h0_6, h0_7, h0_8, .ref hc, h0_10, .ref hb1, .ref hl1, .ref hr1, .ref hf1, .ref hz1, h0_16, h0_17, h0_18, h0_19, h0_20, h0_21, h0_22, h0_23, h0_24, h0_25, h0_26, h0_27, h0_28, h0_29, h0_30, h0_31, h0_32, h0_33, h0_34, h0_35, h0_36, h0_37, h0_38, h0_39, h0_40, h0_41, h0_42, h0_43, h0_44, h0_45, h0_46, h0_47, h0_48, h0_49, h0_50, h0_51, h0_52, h0_53, h0_54, h0_55, h0_56, h0_57, h0_58, h0_59, h0_60, h0_61, h0_62, h0_63, h0_64, h0_65, h0_66, h0_67, h0_68, h0_69]))]) [0] (by decide) rfl
  have hKc := hK.sub (tys' := []) [] rfl
  have hFc := va_free (ws := []) (wc := []) (z_D0 _) hS hA [] rfl
  refine va_calli (va_runV (As := [.int p1]) (rest := []) ⟨hx, hb, hml, hown, hts⟩ (c_X12_isKnown l dC dI H_1.size h0 p1 h0_0 h0_1 (.int 0) (.int 0) h0_5 h0_6 h0_7 h0_8 (.ref hc) h0_10 (.ref hb1) (.ref hl1) (.ref hr1) (.ref hf1) (.ref hz1) h0_16 h0_17 h0_18 h0_19 h0_20 h0_21 h0_22 h0_23 h0_24 h0_25 h0_26 h0_27 h0_28 h0_29 h0_30 h0_31 h0_32 h0_33 h0_34 h0_35 h0_36 h0_37 h0_38 h0_39 h0_40 h0_41 h0_42 h0_43 h0_44 h0_45 h0_46 h0_47 h0_48 h0_49 h0_50 h0_51 h0_52 h0_53 h0_54 h0_55 h0_56 h0_57 h0_58 h0_59 h0_60 h0_61 h0_62 h0_63 h0_64 h0_65 h0_66 h0_67 h0_68 h0_69) (cwV 1 hts gw_c_X12_quarrel_c_X12_isKnown_170 rfl rfl rfl (by decide +kernel) ⟨Nat.le_of_ble_eq_true rfl, Nat.le_of_ble_eq_true rfl⟩) ⟨z_blind, va_recv hKc hPc (ci := 12) (q0 := 0) rfl rfl, z_pre hPc hKc hDc⟩ rfl rfl hl.1 rfl (lv_room (Nat.le_of_ble_eq_true rfl)) dX12_quarrel_7 ⟨Nat.le_of_ble_eq_true rfl, Nat.le_of_ble_eq_true rfl⟩) hS (fun q _ h => hFc q h) hFc (fun r_3 u t H_2 locs ht hvm hw_4 hB hz1 hk1 hS => ?_)
  have hP := z_pure hP hk1
  have hP : va_P (dC, dI) vwCl [(h0, .inr (12, [h0_0, h0_1, .int 0, .int 0, .int 0, h0_5, h0_6, h0_7, h0_8, .ref hc, h0_10, .ref hb1, .ref hl1, .ref hr1, .ref hf1, .ref hz1, h0_16, h0_17, h0_18, h0_19, h0_20, h0_21, h0_22, h0_23, h0_24, h0_25, h0_26, h0_27, h0_28, h0_29, h0_30, h0_31, h0_32, h0_33, h0_34, h0_35, h0_36, h0_37, h0_38, h0_39, h0_40, h0_41, h0_42, h0_43, h0_44, h0_45, h0_46, h0_47, h0_48, h0_49, h0_50, h0_51, h0_52, h0_53, h0_54, h0_55, h0_56, h0_57, h0_58, h0_59, h0_60, h0_61, h0_62, h0_63, h0_64, h0_65, h0_66, h0_67, h0_68, h0_69])), (hc, .inl (chc, 80, .inl (fun _ => 0))), (hb1, .inl (chb1, 12, .inl fhb1)), (hl1, .inl (chl1, 144, .inl (fun _ => 0))), (hr1, .inl (chr1, 12, .inl (fun _ => 0))), (hf1, .inl (chf1, 12, .inl (fun _ => 0))), (hz1, .inl (chz1, 12, .inl fhz1))] H_2 := hP
  have hD : va_D A [(h0, .inr (12, [h0_0, h0_1, .int 0, .int 0, .int 0, h0_5, h0_6, h0_7, h0_8, .ref hc, h0_10, .ref hb1, .ref hl1, .ref hr1, .ref hf1, .ref hz1, h0_16, h0_17, h0_18, h0_19, h0_20, h0_21, h0_22, h0_23, h0_24, h0_25, h0_26, h0_27, h0_28, h0_29, h0_30, h0_31, h0_32, h0_33, h0_34, h0_35, h0_36, h0_37, h0_38, h0_39, h0_40, h0_41, h0_42, h0_43, h0_44, h0_45, h0_46, h0_47, h0_48, h0_49, h0_50, h0_51, h0_52, h0_53, h0_54, h0_55, h0_56, h0_57, h0_58, h0_59, h0_60, h0_61, h0_62, h0_63, h0_64, h0_65, h0_66, h0_67, h0_68, h0_69])), (hc, .inl (chc, 80, .inl (fun _ => 0))), (hb1, .inl (chb1, 12, .inl fhb1)), (hl1, .inl (chl1, 144, .inl (fun _ => 0))), (hr1, .inl (chr1, 12, .inl (fun _ => 0))), (hf1, .inl (chf1, 12, .inl (fun _ => 0))), (hz1, .inl (chz1, 12, .inl fhz1))] := hD
  clear hPc hDc hKc
  rcases hw_4 with ⟨rfl, hw_4⟩ | ⟨rfl, hw_4⟩
  · have hw_4 : p1.toInt = 0 := hw_4
    obtain rfl : p1 = 0 := z_eq' hw_4
    refine lv_if_ne (tgt := 15) hx hb dX12_quarrel_10 (by decide) (fun _ => ?_) (fun c_5 => absurd c_5 (by decide))
    refine lv_aload_n hx hb dX12_quarrel_15 rfl (lv_at hl 0 rfl) ?_
    refine lv_iload_n hx hb dX12_quarrel_16 rfl (lv_at hl 1 rfl) ?_
    have hPc := hP.sub (ws' := [(h0, .inr (12, [h0_0, h0_1, .int 0, .int 0, .int 0, h0_5, h0_6, h0_7, h0_8, .ref hc, h0_10, .ref hb1, .ref hl1, .ref hr1, .ref hf1, .ref hz1, h0_16, h0_17, h0_18, h0_19, h0_20, h0_21, h0_22, h0_23, h0_24, h0_25, h0_26, h0_27, h0_28, h0_29, h0_30, h0_31, h0_32, h0_33, h0_34, h0_35, h0_36, h0_37, h0_38, h0_39, h0_40, h0_41, h0_42, h0_43, h0_44, h0_45, h0_46, h0_47, h0_48, h0_49, h0_50, h0_51, h0_52, h0_53, h0_54, h0_55, h0_56, h0_57, h0_58, h0_59, h0_60, h0_61, h0_62, h0_63, h0_64, h0_65, h0_66, h0_67, h0_68, h0_69])), (hc, .inl (chc, 80, .inl (fun _ => 0))), (hb1, .inl (chb1, 12, .inl fhb1)), (hl1, .inl (chl1, 144, .inl (fun _ => 0))), (hr1, .inl (chr1, 12, .inl (fun _ => 0))), (hf1, .inl (chf1, 12, .inl (fun _ => 0))), (hz1, .inl (chz1, 12, .inl fhz1))]) [0, 1, 2, 3, 4, 5, 6] rfl
    have hDc := hD.sub (ws' := [(h0, .inr (12, [h0_0, h0_1, .int 0, .int 0, .int 0, h0_5, h0_6, h0_7, h0_8, .ref hc, h0_10, .ref hb1, .ref hl1, .ref hr1, .ref hf1, .ref hz1, h0_16, h0_17, h0_18, h0_19, h0_20, h0_21, h0_22, h0_23, h0_24, h0_25, h0_26, h0_27, h0_28, h0_29, h0_30, h0_31, h0_32, h0_33, h0_34, h0_35, h0_36, h0_37, h0_38, h0_39, h0_40, h0_41, h0_42, h0_43, h0_44, h0_45, h0_46, h0_47, h0_48, h0_49, h0_50, h0_51, h0_52, h0_53, h0_54, h0_55, h0_56, h0_57, h0_58, h0_59, h0_60, h0_61, h0_62, h0_63, h0_64, h0_65, h0_66, h0_67, h0_68, h0_69])), (hc, .inl (chc, 80, .inl (fun _ => 0))), (hb1, .inl (chb1, 12, .inl fhb1)), (hl1, .inl (chl1, 144, .inl (fun _ => 0))), (hr1, .inl (chr1, 12, .inl (fun _ => 0))), (hf1, .inl (chf1, 12, .inl (fun _ => 0))), (hz1, .inl (chz1, 12, .inl fhz1))]) [0, 1, 2, 3, 4, 5, 6] (by decide) rfl
    have hKc := hK.sub (tys' := [(chc, .boolean), (chb1, .int), (chl1, .boolean), (chr1, .int), (chf1, .int), (chz1, .int)]) [0, 1, 2, 3, 4, 5] rfl
    have hFc := va_free (wc := [(h0, .inr (12, [h0_0, h0_1, .int 0, .int 0, .int 0, h0_5, h0_6, h0_7, h0_8, .ref hc, h0_10, .ref hb1, .ref hl1, .ref hr1, .ref hf1, .ref hz1, h0_16, h0_17, h0_18, h0_19, h0_20, h0_21, h0_22, h0_23, h0_24, h0_25, h0_26, h0_27, h0_28, h0_29, h0_30, h0_31, h0_32, h0_33, h0_34, h0_35, h0_36, h0_37, h0_38, h0_39, h0_40, h0_41, h0_42, h0_43, h0_44, h0_45, h0_46, h0_47, h0_48, h0_49, h0_50, h0_51, h0_52, h0_53, h0_54, h0_55, h0_56, h0_57, h0_58, h0_59, h0_60, h0_61, h0_62, h0_63, h0_64, h0_65, h0_66, h0_67, h0_68, h0_69])), (hc, .inl (chc, 80, .inl (fun _ => 0))), (hb1, .inl (chb1, 12, .inl fhb1)), (hl1, .inl (chl1, 144, .inl (fun _ => 0))), (hr1, .inl (chr1, 12, .inl (fun _ => 0))), (hf1, .inl (chf1, 12, .inl (fun _ => 0))), (hz1, .inl (chz1, 12, .inl fhz1))]) hD hS hA [0, 1, 2, 3, 4, 5, 6] rfl
    refine va_callv (va_runV (As := [.int 0]) (rest := []) ⟨hx, hb, hml, hown, hts⟩ (c_X12_know l dC dI H_2.size h0 h0_0 h0_1 (.int 0) h0_5 h0_6 h0_7 h0_8 hc h0_10 hb1 hl1 hr1 hf1 hz1 h0_16 h0_17 h0_18 h0_19 h0_20 h0_21 h0_22 h0_23 h0_24 h0_25 h0_26 h0_27 h0_28 h0_29 h0_30 h0_31 h0_32 h0_33 h0_34 h0_35 h0_36 h0_37 h0_38 h0_39 h0_40 h0_41 h0_42 h0_43 h0_44 h0_45 h0_46 h0_47 h0_48 h0_49 h0_50 h0_51 h0_52 h0_53 h0_54 h0_55 h0_56 h0_57 h0_58 h0_59 h0_60 h0_61 h0_62 h0_63 h0_64 h0_65 h0_66 h0_67 h0_68 h0_69 chc chb1 fhb1 chl1 chr1 chf1 chz1 fhz1) (cwV 1 hts gw_c_X12_quarrel_c_X12_know_173 rfl rfl rfl (by decide +kernel) ⟨Nat.le_of_ble_eq_true rfl, Nat.le_of_ble_eq_true rfl⟩) ⟨z_blind, va_recv hKc hPc (ci := 12) (q0 := 0) rfl rfl, z_pre hPc hKc hDc⟩ rfl rfl hl.1 rfl (lv_room (Nat.le_of_ble_eq_true rfl)) dX12_quarrel_17 ⟨Nat.le_of_ble_eq_true rfl, Nat.le_of_ble_eq_true rfl⟩) hS (fun q _ h => hFc q h) hFc (fun u t H_6 locs ht hvm hw_8 hB hz1 hk1 hS => ?_)
    obtain ⟨hP1, hK1, hD1⟩ := hB
    rw [ht] at hP1
    have hK1 := va_K.moved hvm.symm hK1
    obtain ⟨hP, hD⟩ := va_join (wr := []) (w1 := [(h0, .inr (12, [h0_0, h0_1, .int 0, .int 0, .int 0, h0_5, h0_6, h0_7, h0_8, .ref hc, h0_10, .ref hb1, .ref hl1, .ref hr1, .ref hf1, .ref hz1, .int 0, h0_17, h0_18, h0_19, h0_20, h0_21, h0_22, h0_23, h0_24, h0_25, h0_26, h0_27, h0_28, h0_29, h0_30, h0_31, h0_32, h0_33, h0_34, h0_35, h0_36, h0_37, h0_38, h0_39, h0_40, h0_41, h0_42, h0_43, h0_44, h0_45, h0_46, h0_47, h0_48, h0_49, h0_50, h0_51, h0_52, h0_53, h0_54, h0_55, h0_56, h0_57, h0_58, h0_59, h0_60, h0_61, h0_62, h0_63, h0_64, h0_65, h0_66, h0_67, h0_68, h0_69]))]) hP hD [0, 1, 2, 3, 4, 5, 6] [] rfl rfl (by decide) (by decide) hk1 hFc hP1 hD1
    have hP : va_P (dC, dI) vwCl [(h0, .inr (12, [h0_0, h0_1, .int 0, .int 0, .int 0, h0_5, h0_6, h0_7, h0_8, .ref hc, h0_10, .ref hb1, .ref hl1, .ref hr1, .ref hf1, .ref hz1, .int 0, h0_17, h0_18, h0_19, h0_20, h0_21, h0_22, h0_23, h0_24, h0_25, h0_26, h0_27, h0_28, h0_29, h0_30, h0_31, h0_32, h0_33, h0_34, h0_35, h0_36, h0_37, h0_38, h0_39, h0_40, h0_41, h0_42, h0_43, h0_44, h0_45, h0_46, h0_47, h0_48, h0_49, h0_50, h0_51, h0_52, h0_53, h0_54, h0_55, h0_56, h0_57, h0_58, h0_59, h0_60, h0_61, h0_62, h0_63, h0_64, h0_65, h0_66, h0_67, h0_68, h0_69]))] H_6 := hP
    have hD : va_D A [(h0, .inr (12, [h0_0, h0_1, .int 0, .int 0, .int 0, h0_5, h0_6, h0_7, h0_8, .ref hc, h0_10, .ref hb1, .ref hl1, .ref hr1, .ref hf1, .ref hz1, .int 0, h0_17, h0_18, h0_19, h0_20, h0_21, h0_22, h0_23, h0_24, h0_25, h0_26, h0_27, h0_28, h0_29, h0_30, h0_31, h0_32, h0_33, h0_34, h0_35, h0_36, h0_37, h0_38, h0_39, h0_40, h0_41, h0_42, h0_43, h0_44, h0_45, h0_46, h0_47, h0_48, h0_49, h0_50, h0_51, h0_52, h0_53, h0_54, h0_55, h0_56, h0_57, h0_58, h0_59, h0_60, h0_61, h0_62, h0_63, h0_64, h0_65, h0_66, h0_67, h0_68, h0_69]))] := hD
    clear hPc hDc hKc
    refine lv_aload_n hx hb dX12_quarrel_20 rfl (lv_at hl 0 rfl) ?_
    refine va_get (D := (dC, dI)) (ci := 12) (v := .int 0) (C := RX12) (T := TX12) (N := 70) hx hb hts hiX12 hown hK hP 0 rfl rfl 16 (by decide) w__fieldLink_RX12_167_ShellHeapModel_quarrelNow_I_ (fun _ h9 => h9) rfl dX12_quarrel_21 ?_
    refine W.widen (k := 0) (n := 0) (Nat.le_of_ble_eq_true rfl) (Nat.le_of_ble_eq_true rfl) ?_
    exact W.iret (v := 0) hx hb hr (fun t ht hW => ⟨⟨0, (), rfl, (by first | (unfold v_quarrel; rw [if_pos (by omega)]) | (unfold v_quarrel; rw [if_neg (by omega)]) | decide), trivial⟩, hS.F ht⟩) hS.2.2 dX12_quarrel_24
  · have hw_4 : ¬ p1.toInt = 0 := hw_4
    refine lv_if_ne (tgt := 15) hx hb dX12_quarrel_10 (by decide) (fun c_9 => absurd c_9 (by decide)) (fun _ => ?_)
    refine lv_iconst (v := (-1)) hx hb dX12_quarrel_13 (by decide) ?_
    refine W.widen (k := 0) (n := 0) (Nat.le_of_ble_eq_true rfl) (Nat.le_of_ble_eq_true rfl) ?_
    exact W.iret (v := (-1)) hx hb hr (fun t ht hW => ⟨⟨(-1), (), rfl, (by first | (unfold v_quarrel; rw [if_pos (by omega)]) | (unfold v_quarrel; rw [if_neg (by omega)]) | decide), trivial⟩, hS.F ht⟩) hS.2.2 dX12_quarrel_14
