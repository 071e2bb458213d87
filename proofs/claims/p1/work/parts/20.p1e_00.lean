def u_c_X12_orders : List Cond := .code yX12_orders cX12_orders 4 none :: ([.fieldLink RX12 154 "ShellHeapModel" "notes" "I", .fieldLink RX12 167 "ShellHeapModel" "quarrelNow" "I", .fieldLink RX12 35 "ShellHeapModel" "later" "[Z", .fieldLink RX12 38 "ShellHeapModel" "rank" "[I"] ++ wsX120)
set_option maxHeartbeats 4000000 in
set_option maxRecDepth 100000 in
theorem c_X12_orders (l : Launch) (dC : Nat → ClassId) (dI : Nat → Nat → Nat) (sz : Nat) (h0 : Nat) (h0_0 : Value) (h0_1 : Value) (h0_2 : Value) (h0_3 : Value) (h0_5 : Value) (h0_6 : Value) (h0_7 : Value) (h0_8 : Value) (h0_9 : Value) (h0_10 : Value) (h0_11 : Value) (hl1 : Nat) (hr1 : Nat) (h0_14 : Value) (h0_15 : Value) (h0_16 : Value) (h0_17 : Value) (h0_18 : Value) (h0_19 : Value) (h0_20 : Value) (h0_21 : Value) (h0_22 : Value) (h0_23 : Value) (h0_24 : Value) (h0_25 : Value) (h0_26 : Value) (h0_27 : Value) (h0_28 : Value) (h0_29 : Value) (h0_30 : Value) (h0_31 : Value) (h0_32 : Value) (h0_33 : Value) (h0_34 : Value) (h0_35 : Value) (h0_36 : Value) (h0_37 : Value) (h0_38 : Value) (h0_39 : Value) (h0_40 : Value) (h0_41 : Value) (h0_42 : Value) (h0_43 : Value) (h0_44 : Value) (h0_45 : Value) (h0_46 : Value) (h0_47 : Value) (h0_48 : Value) (h0_49 : Value) (h0_50 : Value) (h0_51 : Value) (h0_52 : Value) (h0_53 : Value) (h0_54 : Value) (h0_55 : Value) (h0_56 : Value) (h0_57 : Value) (h0_58 : Value) (h0_59 : Value) (h0_60 : Value) (h0_61 : Value) (h0_62 : Value) (h0_63 : Value) (h0_64 : Value) (h0_65 : Value) (h0_66 : Value) (h0_67 : Value) (h0_68 : Value) (h0_69 : Value) (chl1 : ClassId) (chr1 : ClassId) : Met l yX12_orders u_c_X12_orders ({ frames := 0, cells := 0, slots := 0, locals := 0 }) (va_Pc [.ref h0] (z_C (dC, dI) vwCl [(h0, .inr (12, [h0_0, h0_1, h0_2, h0_3, .int 0, h0_5, h0_6, h0_7, h0_8, h0_9, h0_10, h0_11, .ref hl1, .ref hr1, h0_14, h0_15, h0_16, h0_17, h0_18, h0_19, h0_20, h0_21, h0_22, h0_23, h0_24, h0_25, h0_26, h0_27, h0_28, h0_29, h0_30, h0_31, h0_32, h0_33, h0_34, h0_35, h0_36, h0_37, h0_38, h0_39, h0_40, h0_41, h0_42, h0_43, h0_44, h0_45, h0_46, h0_47, h0_48, h0_49, h0_50, h0_51, h0_52, h0_53, h0_54, h0_55, h0_56, h0_57, h0_58, h0_59, h0_60, h0_61, h0_62, h0_63, h0_64, h0_65, h0_66, h0_67, h0_68, h0_69])), (hl1, .inl (chl1, 144, .inl (fun _ => 0))), (hr1, .inl (chr1, 12, .inl (fun _ => 0)))] [(chl1, .boolean), (chr1, .int)] sz)) (va_Qv (fun (_ : Unit) => True) (fun (_ : Unit) (t : State) => va_P (dC, dI) vwCl [(h0, .inr (12, [h0_0, h0_1, h0_2, h0_3, .int 0, h0_5, h0_6, h0_7, h0_8, h0_9, h0_10, h0_11, .ref hl1, .ref hr1, h0_14, h0_15, .int 0, h0_17, h0_18, h0_19, h0_20, h0_21, h0_22, h0_23, h0_24, h0_25, h0_26, h0_27, h0_28, h0_29, h0_30, h0_31, h0_32, h0_33, h0_34, h0_35, h0_36, h0_37, h0_38, h0_39, h0_40, h0_41, h0_42, h0_43, h0_44, h0_45, h0_46, h0_47, h0_48, h0_49, h0_50, h0_51, h0_52, h0_53, h0_54, h0_55, h0_56, h0_57, h0_58, h0_59, h0_60, h0_61, h0_62, h0_63, h0_64, h0_65, h0_66, h0_67, h0_68, h0_69])), (hl1, .inl (chl1, 144, .inl (fun _ => 0))), (hr1, .inl (chr1, 12, .inl (fun _ => 0)))] t.heap ∧ va_K (dC, dI) vwCl [] t ∧ va_D (va_A [(h0, .inr (12, [h0_0, h0_1, h0_2, h0_3, .int 0, h0_5, h0_6, h0_7, h0_8, h0_9, h0_10, h0_11, .ref hl1, .ref hr1, h0_14, h0_15, h0_16, h0_17, h0_18, h0_19, h0_20, h0_21, h0_22, h0_23, h0_24, h0_25, h0_26, h0_27, h0_28, h0_29, h0_30, h0_31, h0_32, h0_33, h0_34, h0_35, h0_36, h0_37, h0_38, h0_39, h0_40, h0_41, h0_42, h0_43, h0_44, h0_45, h0_46, h0_47, h0_48, h0_49, h0_50, h0_51, h0_52, h0_53, h0_54, h0_55, h0_56, h0_57, h0_58, h0_59, h0_60, h0_61, h0_62, h0_63, h0_64, h0_65, h0_66, h0_67, h0_68, h0_69])), (hl1, .inl (chl1, 144, .inl (fun _ => 0))), (hr1, .inl (chr1, 12, .inl (fun _ => 0)))] sz) [(h0, .inr (12, [h0_0, h0_1, h0_2, h0_3, .int 0, h0_5, h0_6, h0_7, h0_8, h0_9, h0_10, h0_11, .ref hl1, .ref hr1, h0_14, h0_15, .int 0, h0_17, h0_18, h0_19, h0_20, h0_21, h0_22, h0_23, h0_24, h0_25, h0_26, h0_27, h0_28, h0_29, h0_30, h0_31, h0_32, h0_33, h0_34, h0_35, h0_36, h0_37, h0_38, h0_39, h0_40, h0_41, h0_42, h0_43, h0_44, h0_45, h0_46, h0_47, h0_48, h0_49, h0_50, h0_51, h0_52, h0_53, h0_54, h0_55, h0_56, h0_57, h0_58, h0_59, h0_60, h0_61, h0_62, h0_63, h0_64, h0_65, h0_66, h0_67, h0_68, h0_69])), (hl1, .inl (chl1, 144, .inl (fun _ => 0))), (hr1, .inl (chr1, 12, .inl (fun _ => 0)))]) (va_A [(h0, .inr (12, [h0_0, h0_1, h0_2, h0_3, .int 0, h0_5, h0_6, h0_7, h0_8, h0_9, h0_10, h0_11, .ref hl1, .ref hr1, h0_14, h0_15, h0_16, h0_17, h0_18, h0_19, h0_20, h0_21, h0_22, h0_23, h0_24, h0_25, h0_26, h0_27, h0_28, h0_29, h0_30, h0_31, h0_32, h0_33, h0_34, h0_35, h0_36, h0_37, h0_38, h0_39, h0_40, h0_41, h0_42, h0_43, h0_44, h0_45, h0_46, h0_47, h0_48, h0_49, h0_50, h0_51, h0_52, h0_53, h0_54, h0_55, h0_56, h0_57, h0_58, h0_59, h0_60, h0_61, h0_62, h0_63, h0_64, h0_65, h0_66, h0_67, h0_68, h0_69])), (hl1, .inl (chl1, 144, .inl (fun _ => 0))), (hr1, .inl (chr1, 12, .inl (fun _ => 0)))] sz)) 0 0 (va_A [(h0, .inr (12, [h0_0, h0_1, h0_2, h0_3, .int 0, h0_5, h0_6, h0_7, h0_8, h0_9, h0_10, h0_11, .ref hl1, .ref hr1, h0_14, h0_15, h0_16, h0_17, h0_18, h0_19, h0_20, h0_21, h0_22, h0_23, h0_24, h0_25, h0_26, h0_27, h0_28, h0_29, h0_30, h0_31, h0_32, h0_33, h0_34, h0_35, h0_36, h0_37, h0_38, h0_39, h0_40, h0_41, h0_42, h0_43, h0_44, h0_45, h0_46, h0_47, h0_48, h0_49, h0_50, h0_51, h0_52, h0_53, h0_54, h0_55, h0_56, h0_57, h0_58, h0_59, h0_60, h0_61, h0_62, h0_63, h0_64, h0_65, h0_66, h0_67, h0_68, h0_69])), (hl1, .inl (chl1, 144, .inl (fun _ => 0))), (hr1, .inl (chr1, 12, .inl (fun _ => 0)))] sz) := by
  refine Met.ofW (cc := cX12_orders) (maxL := 4) (ret := none) (by decide) rfl ?_
  intro p e s m args below meth c s₁ B hml hv
  obtain ⟨rfl, hsz, hP, hK, hD0⟩ := hv
  have hx := B.exec
  have hb := B.bytes
  have hr := B.returns
  have hts := atoms_spec (ws := u_c_X12_orders) B.pre
  have hown : s.vm.findClass RX12 = some m.cls := findClass_of_methodNamed B.named
  have hlocks := B.notSynchronized
  subst hsz
  have hD := hD0.self (sz := s.heap.size)
  generalize hAe : va_A [(h0, .inr (12, [h0_0, h0_1, h0_2, h0_3, .int 0, h0_5, h0_6, h0_7, h0_8, h0_9, h0_10, h0_11, .ref hl1, .ref hr1, h0_14, h0_15, h0_16, h0_17, h0_18, h0_19, h0_20, h0_21, h0_22, h0_23, h0_24, h0_25, h0_26, h0_27, h0_28, h0_29, h0_30, h0_31, h0_32, h0_33, h0_34, h0_35, h0_36, h0_37, h0_38, h0_39, h0_40, h0_41, h0_42, h0_43, h0_44, h0_45, h0_46, h0_47, h0_48, h0_49, h0_50, h0_51, h0_52, h0_53, h0_54, h0_55, h0_56, h0_57, h0_58, h0_59, h0_60, h0_61, h0_62, h0_63, h0_64, h0_65, h0_66, h0_67, h0_68, h0_69])), (hl1, .inl (chl1, 144, .inl (fun _ => 0))), (hr1, .inl (chr1, 12, .inl (fun _ => 0)))] s.heap.size = A at hD ⊢
  have hA : ∀ q : Nat, s.heap.size ≤ q → A q := fun q h => by rw [← hAe]; exact Or.inr h
  have hS : va_S A s.heap s.heap [] := va_S.rf
  have hP : va_P (dC, dI) vwCl [(h0, .inr (12, [h0_0, h0_1, h0_2, h0_3, .int 0, h0_5, h0_6, h0_7, h0_8, h0_9, h0_10, h0_11, .ref hl1, .ref hr1, h0_14, h0_15, h0_16, h0_17, h0_18, h0_19, h0_20, h0_21, h0_22, h0_23, h0_24, h0_25, h0_26, h0_27, h0_28, h0_29, h0_30, h0_31, h0_32, h0_33, h0_34, h0_35, h0_36, h0_37, h0_38, h0_39, h0_40, h0_41, h0_42, h0_43, h0_44, h0_45, h0_46, h0_47, h0_48, h0_49, h0_50, h0_51, h0_52, h0_53, h0_54, h0_55, h0_56, h0_57, h0_58, h0_59, h0_60, h0_61, h0_62, h0_63, h0_64, h0_65, h0_66, h0_67, h0_68, h0_69])), (hl1, .inl (chl1, 144, .inl (fun _ => 0))), (hr1, .inl (chr1, 12, .inl (fun _ => 0)))] s.heap := hP
  have w__fieldLink_RX12_154_ShellHeapModel_notes_I_ := hts (.fieldLink RX12 154 "ShellHeapModel" "notes" "I") (by decide +kernel)
  have hiX12 := show ∀ w ∈ u_ws RX12 TX12 70, w ∈ u_c_X12_orders by decide +kernel
  have w__fieldLink_RX12_167_ShellHeapModel_quarrelNow_I_ := hts (.fieldLink RX12 167 "ShellHeapModel" "quarrelNow" "I") (by decide +kernel)
  have w__fieldLink_RX12_35_ShellHeapModel_later_Z_ := hts (.fieldLink RX12 35 "ShellHeapModel" "later" "[Z") (by decide +kernel)
  have w__fieldLink_RX12_38_ShellHeapModel_rank_I_ := hts (.fieldLink RX12 38 "ShellHeapModel" "rank" "[I") (by decide +kernel)
  have hl := lv_entry ([.ref h0]) (n := 4) (Nat.le_of_ble_eq_true rfl)
  rw [lg_entry_eq]
  generalize (lg_sl ([.ref h0]) ++ List.replicate (4 - (lg_sl ([.ref h0])).length) Slot.unset).toArray = ls at hl ⊢
  have hl : lv_has ls 4 [(0, .ref h0)] := hl
  refine z_nameQ (fun QQ hQQ => ?_)
  refine lv_iconst (v := 0) hx hb dX12_orders_0 (by decide) ?_
  refine lv_istore_n (lv' := [(1, .int 0), (0, .ref h0)]) hx hb dX12_orders_1 rfl hl (by decide) rfl (fun ls hl => ?_)
  have loop_1 : ∀ (n_3 j_2 : Nat) (H : Heap) (locs : List Loc) (ls : Array Slot), j_2 + n_3 = 144 → va_P (dC, dI) vwCl [(h0, .inr (12, [h0_0, h0_1, h0_2, h0_3, .int 0, h0_5, h0_6, h0_7, h0_8, h0_9, h0_10, h0_11, .ref hl1, .ref hr1, h0_14, h0_15, h0_16, h0_17, h0_18, h0_19, h0_20, h0_21, h0_22, h0_23, h0_24, h0_25, h0_26, h0_27, h0_28, h0_29, h0_30, h0_31, h0_32, h0_33, h0_34, h0_35, h0_36, h0_37, h0_38, h0_39, h0_40, h0_41, h0_42, h0_43, h0_44, h0_45, h0_46, h0_47, h0_48, h0_49, h0_50, h0_51, h0_52, h0_53, h0_54, h0_55, h0_56, h0_57, h0_58, h0_59, h0_60, h0_61, h0_62, h0_63, h0_64, h0_65, h0_66, h0_67, h0_68, h0_69])), (hl1, .inl (chl1, 144, .inl (fun _ => 0))), (hr1, .inl (chr1, 12, .inl (fun _ => 0)))] H → va_D A [(h0, .inr (12, [h0_0, h0_1, h0_2, h0_3, .int 0, h0_5, h0_6, h0_7, h0_8, h0_9, h0_10, h0_11, .ref hl1, .ref hr1, h0_14, h0_15, h0_16, h0_17, h0_18, h0_19, h0_20, h0_21, h0_22, h0_23, h0_24, h0_25, h0_26, h0_27, h0_28, h0_29, h0_30, h0_31, h0_32, h0_33, h0_34, h0_35, h0_36, h0_37, h0_38, h0_39, h0_40, h0_41, h0_42, h0_43, h0_44, h0_45, h0_46, h0_47, h0_48, h0_49, h0_50, h0_51, h0_52, h0_53, h0_54, h0_55, h0_56, h0_57, h0_58, h0_59, h0_60, h0_61, h0_62, h0_63, h0_64, h0_65, h0_66, h0_67, h0_68, h0_69])), (hl1, .inl (chl1, 144, .inl (fun _ => 0))), (hr1, .inl (chr1, 12, .inl (fun _ => 0)))] → va_S A s.heap H locs → lv_has ls 4 [(1, .int (nI j_2)), (0, .ref h0)] → W p l e ({ frames := 0, cells := 0, slots := 0, locals := 0 } : Room) s m ([.ref h0] : List Value).toArray below meth c H locs 0 0 QQ (F0 m 2 ls []) := by
    intro n_3
    induction n_3 with
    | zero =>
      intro j_2  H locs ls hjn  hP hD hS hl
      obtain rfl : j_2 = 144 := by omega
      have hl : lv_has ls 4 [(1, .int 144), (0, .ref h0)] := hl
      refine lv_iload_n hx hb dX12_orders_2 rfl (lv_at hl 0 rfl) ?_
      refine lv_sipush (v := 144) hx hb dX12_orders_3 (by decide) ?_
      refine lv_icmp_ge (tgt := 22) hx hb dX12_orders_6 (by decide) (fun _ => ?_) (fun c_5 => absurd (by decide) c_5)
      refine lv_iconst (v := 0) hx hb dX12_orders_22 (by decide) ?_
      refine lv_istore_n (lv' := [(1, .int 0), (0, .ref h0)]) hx hb dX12_orders_23 rfl hl (by decide) rfl (fun ls hl => ?_)
      refine lv_iload_n hx hb dX12_orders_24 rfl (lv_at hl 0 rfl) ?_
      refine lv_aload_n hx hb dX12_orders_25 rfl (lv_at hl 1 rfl) ?_
      refine va_get (D := (dC, dI)) (ci := 12) (v := .int 0) (C := RX12) (T := TX12) (N := 70) hx hb hts hiX12 hown hK hP 0 rfl rfl 4 (by decide) w__fieldLink_RX12_154_ShellHeapModel_notes_I_ (fun _ h9 => h9) rfl dX12_orders_26 ?_
      refine lv_icmp_ge (tgt := 89) hx hb dX12_orders_29 (by decide) (fun _ => ?_) (fun c_6 => absurd (by decide) c_6)
      refine lv_iconst (v := 0) hx hb dX12_orders_89 (by decide) ?_
      refine lv_istore_n (lv' := [(1, .int 0), (0, .ref h0)]) hx hb dX12_orders_90 rfl hl (by decide) rfl (fun ls hl => ?_)
      have loop_7 : ∀ (n_9 j_8 : Nat) (H : Heap) (locs : List Loc) (ls : Array Slot), j_8 + n_9 = 12 → va_P (dC, dI) vwCl [(h0, .inr (12, [h0_0, h0_1, h0_2, h0_3, .int 0, h0_5, h0_6, h0_7, h0_8, h0_9, h0_10, h0_11, .ref hl1, .ref hr1, h0_14, h0_15, h0_16, h0_17, h0_18, h0_19, h0_20, h0_21, h0_22, h0_23, h0_24, h0_25, h0_26, h0_27, h0_28, h0_29, h0_30, h0_31, h0_32, h0_33, h0_34, h0_35, h0_36, h0_37, h0_38, h0_39, h0_40, h0_41, h0_42, h0_43, h0_44, h0_45, h0_46, h0_47, h0_48, h0_49, h0_50, h0_51, h0_52, h0_53, h0_54, h0_55, h0_56, h0_57, h0_58, h0_59, h0_60, h0_61, h0_62, h0_63, h0_64, h0_65, h0_66, h0_67, h0_68, h0_69])), (hl1, .inl (chl1, 144, .inl (fun _ => 0))), (hr1, .inl (chr1, 12, .inl (fun _ => 0)))] H → va_D A [(h0, .inr (12, [h0_0, h0_1, h0_2, h0_3, .int 0, h0_5, h0_6, h0_7, h0_8, h0_9, h0_10, h0_11, .ref hl1, .ref hr1, h0_14, h0_15, h0_16, h0_17, h0_18, h0_19, h0_20, h0_21, h0_22, h0_23, h0_24, h0_25, h0_26, h0_27, h0_28, h0_29, h0_30, h0_31, h0_32, h0_33, h0_34, h0_35, h0_36, h0_37, h0_38, h0_39, h0_40, h0_41, h0_42, h0_43, h0_44, h0_45, h0_46, h0_47, h0_48, h0_49, h0_50, h0_51, h0_52, h0_53, h0_54, h0_55, h0_56, h0_57, h0_58, h0_59, h0_60, h0_61, h0_62, h0_63, h0_64, h0_65, h0_66, h0_67, h0_68, h0_69])), (hl1, .inl (chl1, 144, .inl (fun _ => 0))), (hr1, .inl (chr1, 12, .inl (fun _ => 0)))] → va_S A s.heap H locs → lv_has ls 4 [(1, .int (nI j_8)), (0, .ref h0)] → W p l e ({ frames := 0, cells := 0, slots := 0, locals := 0 } : Room) s m ([.ref h0] : List Value).toArray below meth c H locs 0 0 QQ (F0 m 91 ls []) := by
        intro n_9
        induction n_9 with
        | zero =>
          intro j_8  H locs ls hjn  hP hD hS hl
          obtain rfl : j_8 = 12 := by omega
          have hl : lv_has ls 4 [(1, .int 12), (0, .ref h0)] := hl
          refine lv_iload_n hx hb dX12_orders_91 rfl (lv_at hl 0 rfl) ?_
          refine lv_bipush (v := 12) hx hb dX12_orders_92 (by decide) ?_
          refine lv_icmp_ge (tgt := 189) hx hb dX12_orders_94 (by decide) (fun _ => ?_) (fun c_11 => absurd (by decide) c_11)
          refine lv_aload_n hx hb dX12_orders_189 rfl (lv_at hl 1 rfl) ?_
          refine lv_iconst (v := 0) hx hb dX12_orders_190 (by decide) ?_
          refine va_put (D := (dC, dI)) (ci := 12) (v := .int 0) (ty := .int) (C := RX12) (T := TX12) (N := 70) hx hb hts hiX12 tyX12 tyX12_ok nmX12 hown hK hP hD hS 0 rfl rfl 16 (by decide) w__fieldLink_RX12_167_ShellHeapModel_quarrelNow_I_ (fun _ h9 => h9) rfl (by decide +kernel) rfl rfl (Nat.le_of_ble_eq_true rfl) dX12_orders_191 (fun H_12 locs hP hD hS => ?_)
          have hP : va_P (dC, dI) vwCl [(h0, .inr (12, [h0_0, h0_1, h0_2, h0_3, .int 0, h0_5, h0_6, h0_7, h0_8, h0_9, h0_10, h0_11, .ref hl1, .ref hr1, h0_14, h0_15, .int 0, h0_17, h0_18, h0_19, h0_20, h0_21, h0_22, h0_23, h0_24, h0_25, h0_26, h0_27, h0_28, h0_29, h0_30, h0_31, h0_32, h0_33, h0_34, h0_35, h0_36, h0_37, h0_38, h0_39, h0_40, h0_41, h0_42, h0_43, h0_44, h0_45, h0_46, h0_47, h0_48, h0_49, h0_50, h0_51, h0_52, h0_53, h0_54, h0_55, h0_56, h0_57, h0_58, h0_59, h0_60, h0_61, h0_62, h0_63, h0_64, h0_65, h0_66, h0_67, h0_68, h0_69])), (hl1, .inl (chl1, 144, .inl (fun _ => 0))), (hr1, .inl (chr1, 12, .inl (fun _ => 0)))] H_12 := hP
          have hD : va_D A [(h0, .inr (12, [h0_0, h0_1, h0_2, h0_3, .int 0, h0_5, h0_6, h0_7, h0_8, h0_9, h0_10, h0_11, .ref hl1, .ref hr1, h0_14, h0_15, .int 0, h0_17, h0_18, h0_19, h0_20, h0_21, h0_22, h0_23, h0_24, h0_25, h0_26, h0_27, h0_28, h0_29, h0_30, h0_31, h0_32, h0_33, h0_34, h0_35, h0_36, h0_37, h0_38, h0_39, h0_40, h0_41, h0_42, h0_43, h0_44, h0_45, h0_46, h0_47, h0_48, h0_49, h0_50, h0_51, h0_52, h0_53, h0_54, h0_55, h0_56, h0_57, h0_58, h0_59, h0_60, h0_61, h0_62, h0_63, h0_64, h0_65, h0_66, h0_67, h0_68, h0_69])), (hl1, .inl (chl1, 144, .inl (fun _ => 0))), (hr1, .inl (chr1, 12, .inl (fun _ => 0)))] := hD
          refine lv_iconst (v := 0) hx hb dX12_orders_194 (by decide) ?_
          refine lv_istore_n (lv' := [(1, .int 0), (0, .ref h0)]) hx hb dX12_orders_195 rfl hl (by decide) rfl (fun ls hl => ?_)
          have loop_13 : ∀ (n_15 j_14 : Nat) (H : Heap) (locs : List Loc) (ls : Array Slot), j_14 + n_15 = 12 → va_P (dC, dI) vwCl [(h0, .inr (12, [h0_0, h0_1, h0_2, h0_3, .int 0, h0_5, h0_6, h0_7, h0_8, h0_9, h0_10, h0_11, .ref hl1, .ref hr1, h0_14, h0_15, .int 0, h0_17, h0_18, h0_19, h0_20, h0_21, h0_22, h0_23, h0_24, h0_25, h0_26, h0_27, h0_28, h0_29, h0_30, h0_31, h0_32, h0_33, h0_34, h0_35, h0_36, h0_37, h0_38, h0_39, h0_40, h0_41, h0_42, h0_43, h0_44, h0_45, h0_46, h0_47, h0_48, h0_49, h0_50, h0_51, h0_52, h0_53, h0_54, h0_55, h0_56, h0_57, h0_58, h0_59, h0_60, h0_61, h0_62, h0_63, h0_64, h0_65, h0_66, h0_67, h0_68, h0_69])), (hl1, .inl (chl1, 144, .inl (fun _ => 0))), (hr1, .inl (chr1, 12, .inl (fun _ => 0)))] H → va_D A [(h0, .inr (12, [h0_0, h0_1, h0_2, h0_3, .int 0, h0_5, h0_6, h0_7, h0_8, h0_9, h0_10, h0_11, .ref hl1, .ref hr1, h0_14, h0_15, .int 0, h0_17, h0_18, h0_19, h0_20, h0_21, h0_22, h0_23, h0_24, h0_25, h0_26, h0_27, h0_28, h0_29, h0_30, h0_31, h0_32, h0_33, h0_34, h0_35, h0_36, h0_37, h0_38, h0_39, h0_40, h0_41, h0_42, h0_43, h0_44, h0_45, h0_46, h0_47, h0_48, h0_49, h0_50, h0_51, h0_52, h0_53, h0_54, h0_55, h0_56, h0_57, h0_58, h0_59, h0_60, h0_61, h0_62, h0_63, h0_64, h0_65, h0_66, h0_67, h0_68, h0_69])), (hl1, .inl (chl1, 144, .inl (fun _ => 0))), (hr1, .inl (chr1, 12, .inl (fun _ => 0)))] → va_S A s.heap H locs → lv_has ls 4 [(1, .int (nI j_14)), (0, .ref h0)] → W p l e ({ frames := 0, cells := 0, slots := 0, locals := 0 } : Room) s m ([.ref h0] : List Value).toArray below meth c H locs 0 0 QQ (F0 m 196 ls []) := by
            intro n_15
            induction n_15 with
            | zero =>
              intro j_14  H locs ls hjn  hP hD hS hl
              obtain rfl : j_14 = 12 := by omega
              have hl : lv_has ls 4 [(1, .int 12), (0, .ref h0)] := hl
              refine lv_iload_n hx hb dX12_orders_196 rfl (lv_at hl 0 rfl) ?_
              refine lv_bipush (v := 12) hx hb dX12_orders_197 (by decide) ?_
              refine lv_icmp_ge (tgt := 232) hx hb dX12_orders_199 (by decide) (fun _ => ?_) (fun c_17 => absurd (by decide) c_17)
              refine lv_iconst (v := 0) hx hb dX12_orders_232 (by decide) ?_
              refine lv_istore_n (lv' := [(1, .int 0), (0, .ref h0)]) hx hb dX12_orders_233 rfl hl (by decide) rfl (fun ls hl => ?_)
              have loop_18 : ∀ (n_20 j_19 : Nat) (H : Heap) (locs : List Loc) (ls : Array Slot), j_19 + n_20 = 12 → va_P (dC, dI) vwCl [(h0, .inr (12, [h0_0, h0_1, h0_2, h0_3, .int 0, h0_5, h0_6, h0_7, h0_8, h0_9, h0_10, h0_11, .ref hl1, .ref hr1, h0_14, h0_15, .int 0, h0_17, h0_18, h0_19, h0_20, h0_21, h0_22, h0_23, h0_24, h0_25, h0_26, h0_27, h0_28, h0_29, h0_30, h0_31, h0_32, h0_33, h0_34, h0_35, h0_36, h0_37, h0_38, h0_39, h0_40, h0_41, h0_42, h0_43, h0_44, h0_45, h0_46, h0_47, h0_48, h0_49, h0_50, h0_51, h0_52, h0_53, h0_54, h0_55, h0_56, h0_57, h0_58, h0_59, h0_60, h0_61, h0_62, h0_63, h0_64, h0_65, h0_66, h0_67, h0_68, h0_69])), (hl1, .inl (chl1, 144, .inl (fun _ => 0))), (hr1, .inl (chr1, 12, .inl (fun _ => 0)))] H → va_D A [(h0, .inr (12, [h0_0, h0_1, h0_2, h0_3, .int 0, h0_5, h0_6, h0_7, h0_8, h0_9, h0_10, h0_11, .ref hl1, .ref hr1, h0_14, h0_15, .int 0, h0_17, h0_18, h0_19, h0_20, h0_21, h0_22, h0_23, h0_24, h0_25, h0_26, h0_27, h0_28, h0_29, h0_30, h0_31, h0_32, h0_33, h0_34, h0_35, h0_36, h0_37, h0_38, h0_39, h0_40, h0_41, h0_42, h0_43, h0_44, h0_45, h0_46, h0_47, h0_48, h0_49, h0_50, h0_51, h0_52, h0_53, h0_54, h0_55, h0_56, h0_57, h0_58, h0_59, h0_60, h0_61, h0_62, h0_63, h0_64, h0_65, h0_66, h0_67, h0_68, h0_69])), (hl1, .inl (chl1, 144, .inl (fun _ => 0))), (hr1, .inl (chr1, 12, .inl (fun _ => 0)))] → va_S A s.heap H locs → lv_has ls 4 [(1, .int (nI j_19)), (0, .ref h0)] → W p l e ({ frames := 0, cells := 0, slots := 0, locals := 0 } : Room) s m ([.ref h0] : List Value).toArray below meth c H locs 0 0 QQ (F0 m 234 ls []) := by
                intro n_20
                induction n_20 with
                | zero =>
                  intro j_19  H locs ls hjn  hP hD hS hl
                  obtain rfl : j_19 = 12 := by omega
                  have hl : lv_has ls 4 [(1, .int 12), (0, .ref h0)] := hl
                  refine lv_iload_n hx hb dX12_orders_234 rfl (lv_at hl 0 rfl) ?_
                  refine lv_bipush (v := 12) hx hb dX12_orders_235 (by decide) ?_
                  refine lv_icmp_ge (tgt := 253) hx hb dX12_orders_237 (by decide) (fun _ => ?_) (fun c_22 => absurd (by decide) c_22)
                  refine lv_iconst (v := 0) hx hb dX12_orders_253 (by decide) ?_
                  refine lv_istore_n (lv' := [(1, .int 0), (0, .ref h0)]) hx hb dX12_orders_254 rfl hl (by decide) rfl (fun ls hl => ?_)
                  have loop_23 : ∀ (n_25 j_24 : Nat) (H : Heap) (locs : List Loc) (ls : Array Slot), j_24 + n_25 = 12 → va_P (dC, dI) vwCl [(h0, .inr (12, [h0_0, h0_1, h0_2, h0_3, .int 0, h0_5, h0_6, h0_7, h0_8, h0_9, h0_10, h0_11, .ref hl1, .ref hr1, h0_14, h0_15, .int 0, h0_17, h0_18, h0_19, h0_20, h0_21, h0_22, h0_23, h0_24, h0_25, h0_26, h0_27, h0_28, h0_29, h0_30, h0_31, h0_32, h0_33, h0_34, h0_35, h0_36, h0_37, h0_38, h0_39, h0_40, h0_41, h0_42, h0_43, h0_44, h0_45, h0_46, h0_47, h0_48, h0_49, h0_50, h0_51, h0_52, h0_53, h0_54, h0_55, h0_56, h0_57, h0_58, h0_59, h0_60, h0_61, h0_62, h0_63, h0_64, h0_65, h0_66, h0_67, h0_68, h0_69])), (hl1, .inl (chl1, 144, .inl (fun _ => 0))), (hr1, .inl (chr1, 12, .inl (fun _ => 0)))] H → va_D A [(h0, .inr (12, [h0_0, h0_1, h0_2, h0_3, .int 0, h0_5, h0_6, h0_7, h0_8, h0_9, h0_10, h0_11, .ref hl1, .ref hr1, h0_14, h0_15, .int 0, h0_17, h0_18, h0_19, h0_20, h0_21, h0_22, h0_23, h0_24, h0_25, h0_26, h0_27, h0_28, h0_29, h0_30, h0_31, h0_32, h0_33, h0_34, h0_35, h0_36, h0_37, h0_38, h0_39, h0_40, h0_41, h0_42, h0_43, h0_44, h0_45, h0_46, h0_47, h0_48, h0_49, h0_50, h0_51, h0_52, h0_53, h0_54, h0_55, h0_56, h0_57, h0_58, h0_59, h0_60, h0_61, h0_62, h0_63, h0_64, h0_65, h0_66, h0_67, h0_68, h0_69])), (hl1, .inl (chl1, 144, .inl (fun _ => 0))), (hr1, .inl (chr1, 12, .inl (fun _ => 0)))] → va_S A s.heap H locs → lv_has ls 4 [(1, .int (nI j_24)), (0, .ref h0)] → W p l e ({ frames := 0, cells := 0, slots := 0, locals := 0 } : Room) s m ([.ref h0] : List Value).toArray below meth c H locs 0 0 QQ (F0 m 255 ls []) := by
                    intro n_25
                    induction n_25 with
                    | zero =>
                      intro j_24  H locs ls hjn  hP hD hS hl
                      obtain rfl : j_24 = 12 := by omega
                      have hl : lv_has ls 4 [(1, .int 12), (0, .ref h0)] := hl
                      refine lv_iload_n hx hb dX12_orders_255 rfl (lv_at hl 0 rfl) ?_
                      refine lv_bipush (v := 12) hx hb dX12_orders_256 (by decide) ?_
                      refine lv_icmp_ge (tgt := 345) hx hb dX12_orders_258 (by decide) (fun _ => ?_) (fun c_27 => absurd (by decide) c_27)
                      refine z_backQ hQQ ?_
                      have hP9 := hP.sub (ws' := [(h0, .inr (12, [h0_0, h0_1, h0_2, h0_3, .int 0, h0_5, h0_6, h0_7, h0_8, h0_9, h0_10, h0_11, .ref hl1, .ref hr1, h0_14, h0_15, .int 0, h0_17, h0_18, h0_19, h0_20, h0_21, h0_22, h0_23, h0_24, h0_25, h0_26, h0_27, h0_28, h0_29, h0_30, h0_31, h0_32, h0_33, h0_34, h0_35, h0_36, h0_37, h0_38, h0_39, h0_40, h0_41, h0_42, h0_43, h0_44, h0_45, h0_46, h0_47, h0_48, h0_49, h0_50, h0_51, h0_52, h0_53, h0_54, h0_55, h0_56, h0_57, h0_58, h0_59, h0_60, h0_61, h0_62, h0_63, h0_64, h0_65, h0_66, h0_67, h0_68, h0_69])), (hl1, .inl (chl1, 144, .inl (fun _ => 0))), (hr1, .inl (chr1, 12, .inl (fun _ => 0)))]) [0, 1, 2] rfl
                      have hD9 := hD.sub (ws' := [(h0, .inr (12, [h0_0, h0_1, h0_2, h0_3, .int 0, h0_5, h0_6, h0_7, h0_8, h0_9, h0_10, h0_11, .ref hl1, .ref hr1, h0_14, h0_15, .int 0, h0_17, h0_18, h0_19, h0_20, h0_21, h0_22, h0_23, h0_24, h0_25, h0_26, h0_27, h0_28, h0_29, h0_30, h0_31, h0_32, h0_33, h0_34, h0_35, h0_36, h0_37, h0_38, h0_39, h0_40, h0_41, h0_42, h0_43, h0_44, h0_45, h0_46, h0_47, h0_48, h0_49, h0_50, h0_51, h0_52, h0_53, h0_54, h0_55, h0_56, h0_57, h0_58, h0_59, h0_60, h0_61, h0_62, h0_63, h0_64, h0_65, h0_66, h0_67, h0_68, h0_69])), (hl1, .inl (chl1, 144, .inl (fun _ => 0))), (hr1, .inl (chr1, 12, .inl (fun _ => 0)))]) [0, 1, 2] (by decide) rfl
                      have hK9 := hK.sub (tys' := []) [] rfl
                      refine W.widen (k := 0) (n := 0) (Nat.le_of_ble_eq_true rfl) (Nat.le_of_ble_eq_true rfl) ?_
                      exact W.vret hx hb hr (fun t ht hW => ⟨⟨(), rfl, trivial, ⟨by rw [ht]; exact hP9, va_K.moved hW.alike hK9, hD9⟩⟩, hS.F ht⟩) hS.2.2 dX12_orders_345
                    | succ n_25 ih_26 =>
                      intro j_24  H locs ls hjn  hP hD hS hl
                      have hj_28 : j_24 < 12 := by omega
                      refine lv_iload_n hx hb dX12_orders_255 rfl (lv_at hl 0 rfl) ?_
                      refine lv_bipush (v := 12) hx hb dX12_orders_256 (by decide) ?_
                      refine lv_icmp_ge (tgt := 345) hx hb dX12_orders_258 (by decide) (fun c_29 => ?_) (fun c_29 => ?_)
                      · exfalso
                        have k_30 := z_le c_29
                        rw [nI_toInt (show j_24 < 2 ^ 31 by omega)] at k_30
                        have k_30 : (12 : Int) ≤ ((j_24 : Nat) : Int) := k_30
                        omega
                      refine lv_aload_n hx hb dX12_orders_261 rfl (lv_at hl 1 rfl) ?_
                      refine va_get (D := (dC, dI)) (ci := 12) (v := .int 0) (C := RX12) (T := TX12) (N := 70) hx hb hts hiX12 hown hK hP 0 rfl rfl 16 (by decide) w__fieldLink_RX12_167_ShellHeapModel_quarrelNow_I_ (fun _ h9 => h9) rfl dX12_orders_262 ?_
                      refine lv_if_ne (tgt := 345) hx hb dX12_orders_265 (by decide) (fun c_31 => absurd c_31 (by decide)) (fun _ => ?_)
                      refine lv_iconst (v := 0) hx hb dX12_orders_268 (by decide) ?_
                      refine lv_istore_n (lv' := [(2, .int 0), (1, .int (nI j_24)), (0, .ref h0)]) hx hb dX12_orders_269 rfl hl (by decide) rfl (fun ls hl => ?_)
                      have loop_32 : ∀ (n_34 j_33 : Nat) (H : Heap) (locs : List Loc) (ls : Array Slot), j_33 + n_34 = 12 → va_P (dC, dI) vwCl [(h0, .inr (12, [h0_0, h0_1, h0_2, h0_3, .int 0, h0_5, h0_6, h0_7, h0_8, h0_9, h0_10, h0_11, .ref hl1, .ref hr1, h0_14, h0_15, .int 0, h0_17, h0_18, h0_19, h0_20, h0_21, h0_22, h0_23, h0_24, h0_25, h0_26, h0_27, h0_28, h0_29, h0_30, h0_31, h0_32, h0_33, h0_34, h0_35, h0_36, h0_37, h0_38, h0_39, h0_40, h0_41, h0_42, h0_43, h0_44, h0_45, h0_46, h0_47, h0_48, h0_49, h0_50, h0_51, h0_52, h0_53, h0_54, h0_55, h0_56, h0_57, h0_58, h0_59, h0_60, h0_61, h0_62, h0_63, h0_64, h0_65, h0_66, h0_67, h0_68, h0_69])), (hl1, .inl (chl1, 144, .inl (fun _ => 0))), (hr1, .inl (chr1, 12, .inl (fun _ => 0)))] H → va_D A [(h0, .inr (12, [h0_0, h0_1, h0_2, h0_3, .int 0, h0_5, h0_6, h0_7, h0_8, h0_9, h0_10, h0_11, .ref hl1, .ref hr1, h0_14, h0_15, .int 0, h0_17, h0_18, h0_19, h0_20, h0_21, h0_22, h0_23, h0_24, h0_25, h0_26, h0_27, h0_28, h0_29, h0_30, h0_31, h0_32, h0_33, h0_34, h0_35, h0_36, h0_37, h0_38, h0_39, h0_40, h0_41, h0_42, h0_43, h0_44, h0_45, h0_46, h0_47, h0_48, h0_49, h0_50, h0_51, h0_52, h0_53, h0_54, h0_55, h0_56, h0_57, h0_58, h0_59, h0_60, h0_61, h0_62, h0_63, h0_64, h0_65, h0_66, h0_67, h0_68, h0_69])), (hl1, .inl (chl1, 144, .inl (fun _ => 0))), (hr1, .inl (chr1, 12, .inl (fun _ => 0)))] → va_S A s.heap H locs → lv_has ls 4 [(2, .int (nI j_33)), (1, .int (nI j_24)), (0, .ref h0)] → W p l e ({ frames := 0, cells := 0, slots := 0, locals := 0 } : Room) s m ([.ref h0] : List Value).toArray below meth c H locs 0 0 QQ (F0 m 270 ls []) := by
                        intro n_34
                        induction n_34 with
                        | zero =>
                          intro j_33  H locs ls hjn  hP hD hS hl
                          obtain rfl : j_33 = 12 := by omega
                          have hl : lv_has ls 4 [(2, .int 12), (1, .int (nI j_24)), (0, .ref h0)] := hl
                          refine lv_iload_n hx hb dX12_orders_270 rfl (lv_at hl 0 rfl) ?_
                          refine lv_bipush (v := 12) hx hb dX12_orders_271 (by decide) ?_
                          refine lv_icmp_ge (tgt := 339) hx hb dX12_orders_273 (by decide) (fun _ => ?_) (fun c_36 => absurd (by decide) c_36)
                          refine lv_iinc (v := (nI (j_24 + 1))) (lv' := [(1, .int (nI (j_24 + 1))), (2, .int 12), (0, .ref h0)]) hx hb dX12_orders_339 hl (k := 1) rfl (nI_1 j_24) (by decide) rfl (fun ls hl => ?_)
                          refine lv_goto (tgt := 255) hx hb dX12_orders_342 (by decide) ?_
                          exact ih_26 (j_24 + 1)  _ _ _ (by omega)  hP hD hS (lv_sub hl [0, 2] rfl)
                        | succ n_34 ih_35 =>
                          intro j_33  H locs ls hjn  hP hD hS hl
                          have hj_37 : j_33 < 12 := by omega
                          refine lv_iload_n hx hb dX12_orders_270 rfl (lv_at hl 0 rfl) ?_
                          refine lv_bipush (v := 12) hx hb dX12_orders_271 (by decide) ?_
                          refine lv_icmp_ge (tgt := 339) hx hb dX12_orders_273 (by decide) (fun c_38 => ?_) (fun c_38 => ?_)
                          · exfalso
                            have k_39 := z_le c_38
                            rw [nI_toInt (show j_33 < 2 ^ 31 by omega)] at k_39
                            have k_39 : (12 : Int) ≤ ((j_33 : Nat) : Int) := k_39
                            omega
                          refine lv_iconst (v := 0) hx hb dX12_orders_276 (by decide) ?_
                          refine lv_istore_n (lv' := [(3, .int 0), (2, .int (nI j_33)), (1, .int (nI j_24)), (0, .ref h0)]) hx hb dX12_orders_277 rfl hl (by decide) rfl (fun ls hl => ?_)
                          have loop_40 : ∀ (n_42 j_41 : Nat) (H : Heap) (locs : List Loc) (ls : Array Slot), j_41 + n_42 = 12 → va_P (dC, dI) vwCl [(h0, .inr (12, [h0_0, h0_1, h0_2, h0_3, .int 0, h0_5, h0_6, h0_7, h0_8, h0_9, h0_10, h0_11, .ref hl1, .ref hr1, h0_14, h0_15, .int 0, h0_17, h0_18, h0_19, h0_20, h0_21, h0_22, h0_23, h0_24, h0_25, h0_26, h0_27, h0_28, h0_29, h0_30, h0_31, h0_32, h0_33, h0_34, h0_35, h0_36, h0_37, h0_38, h0_39, h0_40, h0_41, h0_42, h0_43, h0_44, h0_45, h0_46, h0_47, h0_48, h0_49, h0_50, h0_51, h0_52, h0_53, h0_54, h0_55, h0_56, h0_57, h0_58, h0_59, h0_60, h0_61, h0_62, h0_63, h0_64, h0_65, h0_66, h0_67, h0_68, h0_69])), (hl1, .inl (chl1, 144, .inl (fun _ => 0))), (hr1, .inl (chr1, 12, .inl (fun _ => 0)))] H → va_D A [(h0, .inr (12, [h0_0, h0_1, h0_2, h0_3, .int 0, h0_5, h0_6, h0_7, h0_8, h0_9, h0_10, h0_11, .ref hl1, .ref hr1, h0_14, h0_15, .int 0, h0_17, h0_18, h0_19, h0_20, h0_21, h0_22, h0_23, h0_24, h0_25, h0_26, h0_27, h0_28, h0_29, h0_30, h0_31, h0_32, h0_33, h0_34, h0_35, h0_36, h0_37, h0_38, h0_39, h0_40, h0_41, h0_42, h0_43, h0_44, h0_45, h0_46, h0_47, h0_48, h0_49, h0_50, h0_51, h0_52, h0_53, h0_54, h0_55, h0_56, h0_57, h0_58, h0_59, h0_60, h0_61, h0_62, h0_63, h0_64, h0_65, h0_66, h0_67, h0_68, h0_69])), (hl1, .inl (chl1, 144, .inl (fun _ => 0))), (hr1, .inl (chr1, 12, .inl (fun _ => 0)))] → va_S A s.heap H locs → lv_has ls 4 [(3, .int (nI j_41)), (2, .int (nI j_33)), (1, .int (nI j_24)), (0, .ref h0)] → W p l e ({ frames := 0, cells := 0, slots := 0, locals := 0 } : Room) s m ([.ref h0] : List Value).toArray below meth c H locs 0 0 QQ (F0 m 278 ls []) := by
                            intro n_42
                            induction n_42 with
                            | zero =>
                              intro j_41  H locs ls hjn  hP hD hS hl
                              obtain rfl : j_41 = 12 := by omega
                              have hl : lv_has ls 4 [(3, .int 12), (2, .int (nI j_33)), (1, .int (nI j_24)), (0, .ref h0)] := hl
                              refine lv_iload_n hx hb dX12_orders_278 rfl (lv_at hl 0 rfl) ?_
                              refine lv_bipush (v := 12) hx hb dX12_orders_279 (by decide) ?_
                              refine lv_icmp_ge (tgt := 333) hx hb dX12_orders_281 (by decide) (fun _ => ?_) (fun c_44 => absurd (by decide) c_44)
                              refine lv_iinc (v := (nI (j_33 + 1))) (lv' := [(2, .int (nI (j_33 + 1))), (3, .int 12), (1, .int (nI j_24)), (0, .ref h0)]) hx hb dX12_orders_333 hl (k := 1) rfl (nI_1 j_33) (by decide) rfl (fun ls hl => ?_)
                              refine lv_goto (tgt := 270) hx hb dX12_orders_336 (by decide) ?_
                              exact ih_35 (j_33 + 1)  _ _ _ (by omega)  hP hD hS (lv_sub hl [0, 2, 3] rfl)
                            | succ n_42 ih_43 =>
                              intro j_41  H locs ls hjn  hP hD hS hl
                              have hj_45 : j_41 < 12 := by omega
                              refine lv_iload_n hx hb dX12_orders_278 rfl (lv_at hl 0 rfl) ?_
                              refine lv_bipush (v := 12) hx hb dX12_orders_279 (by decide) ?_
                              refine lv_icmp_ge (tgt := 333) hx hb dX12_orders_281 (by decide) (fun c_46 => ?_) (fun c_46 => ?_)
                              · exfalso
                                have k_47 := z_le c_46
                                rw [nI_toInt (show j_41 < 2 ^ 31 by omega)] at k_47
                                have k_47 : (12 : Int) ≤ ((j_41 : Nat) : Int) := k_47
                                omega
                              refine lv_aload_n hx hb dX12_orders_284 rfl (lv_at hl 3 rfl) ?_
                              refine va_get (D := (dC, dI)) (ci := 12) (v := .ref hl1) (C := RX12) (T := TX12) (N := 70) hx hb hts hiX12 hown hK hP 0 rfl rfl 12 (by decide) w__fieldLink_RX12_35_ShellHeapModel_later_Z_ (fun _ h9 => h9) rfl dX12_orders_285 ?_
                              refine lv_bipush (v := 12) hx hb dX12_orders_288 (by decide) ?_
                              refine lv_iload_n hx hb dX12_orders_290 rfl (lv_at hl 1 rfl) ?_
                              refine lv_imul hx hb dX12_orders_291 ?_
                              refine lv_topi (fun x_48 e_49 => ?_)
                              obtain rfl : x_48 = (nI (12 * j_33)) := e_49.trans (pk_mul 12 j_33)
                              refine lv_iload_n hx hb dX12_orders_292 rfl (lv_at hl 0 rfl) ?_
                              refine lv_iadd hx hb dX12_orders_293 ?_
                              refine lv_topi (fun x_50 e_51 => ?_)
                              obtain rfl : x_50 = (nI ((12 * j_33) + j_41)) := e_51.trans (nI_add (12 * j_33) j_41)
                              refine va_zald hx hb hK hP 1 0 rfl rfl (vp_in_nI (show (12 * j_33) + j_41 < 144 by omega) (by decide)) dX12_orders_294 ?_
                              refine lv_topi (fun x_52 e_53 => ?_)
                              obtain rfl : x_52 = 0 := e_53
                              refine lv_if_eq (tgt := 327) hx hb dX12_orders_295 (by decide) (fun _ => ?_) (fun c_54 => absurd (by decide) c_54)
                              refine lv_iinc (v := (nI (j_41 + 1))) (lv' := [(3, .int (nI (j_41 + 1))), (2, .int (nI j_33)), (1, .int (nI j_24)), (0, .ref h0)]) hx hb dX12_orders_327 hl (k := 0) rfl (nI_1 j_41) (by decide) rfl (fun ls hl => ?_)
                              refine lv_goto (tgt := 278) hx hb dX12_orders_330 (by decide) ?_
                              exact ih_43 (j_41 + 1)  _ _ _ (by omega)  hP hD hS (lv_sub hl [0, 1, 2, 3] rfl)
                          exact loop_40 12 0  _ _ _ (by omega)  hP hD hS hl
                      exact loop_32 12 0  _ _ _ (by omega)  hP hD hS hl
                  exact loop_23 12 0  _ _ _ (by omega)  hP hD hS hl
                | succ n_20 ih_21 =>
                  intro j_19  H locs ls hjn  hP hD hS hl
                  have hj_55 : j_19 < 12 := by omega
                  refine lv_iload_n hx hb dX12_orders_234 rfl (lv_at hl 0 rfl) ?_
                  refine lv_bipush (v := 12) hx hb dX12_orders_235 (by decide) ?_
                  refine lv_icmp_ge (tgt := 253) hx hb dX12_orders_237 (by decide) (fun c_56 => ?_) (fun c_56 => ?_)
                  · exfalso
                    have k_57 := z_le c_56
                    rw [nI_toInt (show j_19 < 2 ^ 31 by omega)] at k_57
                    have k_57 : (12 : Int) ≤ ((j_19 : Nat) : Int) := k_57
                    omega
                  refine lv_aload_n hx hb dX12_orders_240 rfl (lv_at hl 1 rfl) ?_
                  refine va_get (D := (dC, dI)) (ci := 12) (v := .ref hr1) (C := RX12) (T := TX12) (N := 70) hx hb hts hiX12 hown hK hP 0 rfl rfl 13 (by decide) w__fieldLink_RX12_38_ShellHeapModel_rank_I_ (fun _ h9 => h9) rfl dX12_orders_241 ?_
                  refine lv_iload_n hx hb dX12_orders_244 rfl (lv_at hl 0 rfl) ?_
                  refine lv_iconst (v := 0) hx hb dX12_orders_245 (by decide) ?_
                  refine va_iast hx hb hK hP hD hS 2 1 rfl rfl (vp_in_nI (show j_19 < 12 by omega) (by decide)) dX12_orders_246 (fun H_58 locs hP hD hS => ?_)
                  have hP : va_P (dC, dI) vwCl [(h0, .inr (12, [h0_0, h0_1, h0_2, h0_3, .int 0, h0_5, h0_6, h0_7, h0_8, h0_9, h0_10, h0_11, .ref hl1, .ref hr1, h0_14, h0_15, .int 0, h0_17, h0_18, h0_19, h0_20, h0_21, h0_22, h0_23, h0_24, h0_25, h0_26, h0_27, h0_28, h0_29, h0_30, h0_31, h0_32, h0_33, h0_34, h0_35, h0_36, h0_37, h0_38, h0_39, h0_40, h0_41, h0_42, h0_43, h0_44, h0_45, h0_46, h0_47, h0_48, h0_49, h0_50, h0_51, h0_52, h0_53, h0_54, h0_55, h0_56, h0_57, h0_58, h0_59, h0_60, h0_61, h0_62, h0_63, h0_64, h0_65, h0_66, h0_67, h0_68, h0_69])), (hl1, .inl (chl1, 144, .inl (fun _ => 0))), (hr1, .inl (chr1, 12, .inl (upd (fun _ => 0) ((nI j_19) : Int32).toNatClampNeg 0)))] H_58 := hP
                  have hD : va_D A [(h0, .inr (12, [h0_0, h0_1, h0_2, h0_3, .int 0, h0_5, h0_6, h0_7, h0_8, h0_9, h0_10, h0_11, .ref hl1, .ref hr1, h0_14, h0_15, .int 0, h0_17, h0_18, h0_19, h0_20, h0_21, h0_22, h0_23, h0_24, h0_25, h0_26, h0_27, h0_28, h0_29, h0_30, h0_31, h0_32, h0_33, h0_34, h0_35, h0_36, h0_37, h0_38, h0_39, h0_40, h0_41, h0_42, h0_43, h0_44, h0_45, h0_46, h0_47, h0_48, h0_49, h0_50, h0_51, h0_52, h0_53, h0_54, h0_55, h0_56, h0_57, h0_58, h0_59, h0_60, h0_61, h0_62, h0_63, h0_64, h0_65, h0_66, h0_67, h0_68, h0_69])), (hl1, .inl (chl1, 144, .inl (fun _ => 0))), (hr1, .inl (chr1, 12, .inl (upd (fun _ => 0) ((nI j_19) : Int32).toNatClampNeg 0)))] := hD
                  rw [show (upd (fun _ => 0) ((nI j_19) : Int32).toNatClampNeg 0) = (fun _ => 0) from z_upd0 _] at hP hD
                  refine lv_iinc (v := (nI (j_19 + 1))) (lv' := [(1, .int (nI (j_19 + 1))), (0, .ref h0)]) hx hb dX12_orders_247 hl (k := 0) rfl (nI_1 j_19) (by decide) rfl (fun ls hl => ?_)
                  refine lv_goto (tgt := 234) hx hb dX12_orders_250 (by decide) ?_
                  exact ih_21 (j_19 + 1)  _ _ _ (by omega)  hP hD hS (lv_sub hl [0, 1] rfl)
              exact loop_18 12 0  _ _ _ (by omega)  hP hD hS hl
            | succ n_15 ih_16 =>
              intro j_14  H locs ls hjn  hP hD hS hl
              have hj_59 : j_14 < 12 := by omega
              refine lv_iload_n hx hb dX12_orders_196 rfl (lv_at hl 0 rfl) ?_
              refine lv_bipush (v := 12) hx hb dX12_orders_197 (by decide) ?_
              refine lv_icmp_ge (tgt := 232) hx hb dX12_orders_199 (by decide) (fun c_60 => ?_) (fun c_60 => ?_)
              · exfalso
                have k_61 := z_le c_60
                rw [nI_toInt (show j_14 < 2 ^ 31 by omega)] at k_61
                have k_61 : (12 : Int) ≤ ((j_14 : Nat) : Int) := k_61
                omega
              refine lv_aload_n hx hb dX12_orders_202 rfl (lv_at hl 1 rfl) ?_
              refine lv_aload_n hx hb dX12_orders_203 rfl (lv_at hl 1 rfl) ?_
              refine va_get (D := (dC, dI)) (ci := 12) (v := .ref hl1) (C := RX12) (T := TX12) (N := 70) hx hb hts hiX12 hown hK hP 0 rfl rfl 12 (by decide) w__fieldLink_RX12_35_ShellHeapModel_later_Z_ (fun _ h9 => h9) rfl dX12_orders_204 ?_
              refine lv_bipush (v := 13) hx hb dX12_orders_207 (by decide) ?_
              refine lv_iload_n hx hb dX12_orders_209 rfl (lv_at hl 0 rfl) ?_
              refine lv_imul hx hb dX12_orders_210 ?_
              refine lv_topi (fun x_62 e_63 => ?_)
              obtain rfl : x_62 = (nI (13 * j_14)) := e_63.trans (pk_mul 13 j_14)
              refine va_zald hx hb hK hP 1 0 rfl rfl (vp_in_nI (show 13 * j_14 < 144 by omega) (by decide)) dX12_orders_211 ?_
              refine lv_topi (fun x_64 e_65 => ?_)
              obtain rfl : x_64 = 0 := e_65
              refine lv_if_eq (tgt := 219) hx hb dX12_orders_212 (by decide) (fun _ => ?_) (fun c_66 => absurd (by decide) c_66)
              refine lv_aload_n hx hb dX12_orders_219 rfl (lv_at hl 1 rfl) ?_
              refine va_get (D := (dC, dI)) (ci := 12) (v := .int 0) (C := RX12) (T := TX12) (N := 70) hx hb hts hiX12 hown hK hP 0 rfl rfl 16 (by decide) w__fieldLink_RX12_167_ShellHeapModel_quarrelNow_I_ (fun _ h9 => h9) rfl dX12_orders_220 ?_
              refine va_put (D := (dC, dI)) (ci := 12) (v := .int 0) (ty := .int) (C := RX12) (T := TX12) (N := 70) hx hb hts hiX12 tyX12 tyX12_ok nmX12 hown hK hP hD hS 0 rfl rfl 16 (by decide) w__fieldLink_RX12_167_ShellHeapModel_quarrelNow_I_ (fun _ h9 => h9) rfl (by decide +kernel) rfl rfl (Nat.le_of_ble_eq_true rfl) dX12_orders_223 (fun H_67 locs hP hD hS => ?_)
              have hP : va_P (dC, dI) vwCl [(h0, .inr (12, [h0_0, h0_1, h0_2, h0_3, .int 0, h0_5, h0_6, h0_7, h0_8, h0_9, h0_10, h0_11, .ref hl1, .ref hr1, h0_14, h0_15, .int 0, h0_17, h0_18, h0_19, h0_20, h0_21, h0_22, h0_23, h0_24, h0_25, h0_26, h0_27, h0_28, h0_29, h0_30, h0_31, h0_32, h0_33, h0_34, h0_35, h0_36, h0_37, h0_38, h0_39, h0_40, h0_41, h0_42, h0_43, h0_44, h0_45, h0_46, h0_47, h0_48, h0_49, h0_50, h0_51, h0_52, h0_53, h0_54, h0_55, h0_56, h0_57, h0_58, h0_59, h0_60, h0_61, h0_62, h0_63, h0_64, h0_65, h0_66, h0_67, h0_68, h0_69])), (hl1, .inl (chl1, 144, .inl (fun _ => 0))), (hr1, .inl (chr1, 12, .inl (fun _ => 0)))] H_67 := hP
              have hD : va_D A [(h0, .inr (12, [h0_0, h0_1, h0_2, h0_3, .int 0, h0_5, h0_6, h0_7, h0_8, h0_9, h0_10, h0_11, .ref hl1, .ref hr1, h0_14, h0_15, .int 0, h0_17, h0_18, h0_19, h0_20, h0_21, h0_22, h0_23, h0_24, h0_25, h0_26, h0_27, h0_28, h0_29, h0_30, h0_31, h0_32, h0_33, h0_34, h0_35, h0_36, h0_37, h0_38, h0_39, h0_40, h0_41, h0_42, h0_43, h0_44, h0_45, h0_46, h0_47, h0_48, h0_49, h0_50, h0_51, h0_52, h0_53, h0_54, h0_55, h0_56, h0_57, h0_58, h0_59, h0_60, h0_61, h0_62, h0_63, h0_64, h0_65, h0_66, h0_67, h0_68, h0_69])), (hl1, .inl (chl1, 144, .inl (fun _ => 0))), (hr1, .inl (chr1, 12, .inl (fun _ => 0)))] := hD
              refine lv_iinc (v := (nI (j_14 + 1))) (lv' := [(1, .int (nI (j_14 + 1))), (0, .ref h0)]) hx hb dX12_orders_226 hl (k := 0) rfl (nI_1 j_14) (by decide) rfl (fun ls hl => ?_)
              refine lv_goto (tgt := 196) hx hb dX12_orders_229 (by decide) ?_
              exact ih_16 (j_14 + 1)  _ _ _ (by omega)  hP hD hS (lv_sub hl [0, 1] rfl)
          exact loop_13 12 0  _ _ _ (by omega)  hP hD hS hl
        | succ n_9 ih_10 =>
          intro j_8  H locs ls hjn  hP hD hS hl
          have hj_68 : j_8 < 12 := by omega
          refine lv_iload_n hx hb dX12_orders_91 rfl (lv_at hl 0 rfl) ?_
          refine lv_bipush (v := 12) hx hb dX12_orders_92 (by decide) ?_
          refine lv_icmp_ge (tgt := 189) hx hb dX12_orders_94 (by decide) (fun c_69 => ?_) (fun c_69 => ?_)
          · exfalso
            have k_70 := z_le c_69
            rw [nI_toInt (show j_8 < 2 ^ 31 by omega)] at k_70
            have k_70 : (12 : Int) ≤ ((j_8 : Nat) : Int) := k_70
            omega
          refine lv_iconst (v := 0) hx hb dX12_orders_97 (by decide) ?_
          refine lv_istore_n (lv' := [(2, .int 0), (1, .int (nI j_8)), (0, .ref h0)]) hx hb dX12_orders_98 rfl hl (by decide) rfl (fun ls hl => ?_)
          have loop_71 : ∀ (n_73 j_72 : Nat) (H : Heap) (locs : List Loc) (ls : Array Slot), j_72 + n_73 = 12 → va_P (dC, dI) vwCl [(h0, .inr (12, [h0_0, h0_1, h0_2, h0_3, .int 0, h0_5, h0_6, h0_7, h0_8, h0_9, h0_10, h0_11, .ref hl1, .ref hr1, h0_14, h0_15, h0_16, h0_17, h0_18, h0_19, h0_20, h0_21, h0_22, h0_23, h0_24, h0_25, h0_26, h0_27, h0_28, h0_29, h0_30, h0_31, h0_32, h0_33, h0_34, h0_35, h0_36, h0_37, h0_38, h0_39, h0_40, h0_41, h0_42, h0_43, h0_44, h0_45, h0_46, h0_47, h0_48, h0_49, h0_50, h0_51, h0_52, h0_53, h0_54, h0_55, h0_56, h0_57, h0_58, h0_59, h0_60, h0_61, h0_62, h0_63, h0_64, h0_65, h0_66, h0_67, h0_68, h0_69])), (hl1, .inl (chl1, 144, .inl (fun _ => 0))), (hr1, .inl (chr1, 12, .inl (fun _ => 0)))] H → va_D A [(h0, .inr (12, [h0_0, h0_1, h0_2, h0_3, .int 0, h0_5, h0_6, h0_7, h0_8, h0_9, h0_10, h0_11, .ref hl1, .ref hr1, h0_14, h0_15, h0_16, h0_17, h0_18, h0_19, h0_20, h0_21, h0_22, h0_23, h0_24, h0_25, h0_26, h0_27, h0_28, h0_29, h0_30, h0_31, h0_32, h0_33, h0_34, h0_35, h0_36, h0_37, h0_38, h0_39, h0_40, h0_41, h0_42, h0_43, h0_44, h0_45, h0_46, h0_47, h0_48, h0_49, h0_50, h0_51, h0_52, h0_53, h0_54, h0_55, h0_56, h0_57, h0_58, h0_59, h0_60, h0_61, h0_62, h0_63, h0_64, h0_65, h0_66, h0_67, h0_68, h0_69])), (hl1, .inl (chl1, 144, .inl (fun _ => 0))), (hr1, .inl (chr1, 12, .inl (fun _ => 0)))] → va_S A s.heap H locs → lv_has ls 4 [(2, .int (nI j_72)), (1, .int (nI j_8)), (0, .ref h0)] → W p l e ({ frames := 0, cells := 0, slots := 0, locals := 0 } : Room) s m ([.ref h0] : List Value).toArray below meth c H locs 0 0 QQ (F0 m 99 ls []) := by
            intro n_73
            induction n_73 with
            | zero =>
              intro j_72  H locs ls hjn  hP hD hS hl
              obtain rfl : j_72 = 12 := by omega
              have hl : lv_has ls 4 [(2, .int 12), (1, .int (nI j_8)), (0, .ref h0)] := hl
              refine lv_iload_n hx hb dX12_orders_99 rfl (lv_at hl 0 rfl) ?_
              refine lv_bipush (v := 12) hx hb dX12_orders_100 (by decide) ?_
              refine lv_icmp_ge (tgt := 183) hx hb dX12_orders_102 (by decide) (fun _ => ?_) (fun c_75 => absurd (by decide) c_75)
              refine lv_iinc (v := (nI (j_8 + 1))) (lv' := [(1, .int (nI (j_8 + 1))), (2, .int 12), (0, .ref h0)]) hx hb dX12_orders_183 hl (k := 1) rfl (nI_1 j_8) (by decide) rfl (fun ls hl => ?_)
              refine lv_goto (tgt := 91) hx hb dX12_orders_186 (by decide) ?_
              exact ih_10 (j_8 + 1)  _ _ _ (by omega)  hP hD hS (lv_sub hl [0, 2] rfl)
            | succ n_73 ih_74 =>
              intro j_72  H locs ls hjn  hP hD hS hl
              have hj_76 : j_72 < 12 := by omega
              refine lv_iload_n hx hb dX12_orders_99 rfl (lv_at hl 0 rfl) ?_
              refine lv_bipush (v := 12) hx hb dX12_orders_100 (by decide) ?_
              refine lv_icmp_ge (tgt := 183) hx hb dX12_orders_102 (by decide) (fun c_77 => ?_) (fun c_77 => ?_)
              · exfalso
                have k_78 := z_le c_77
                rw [nI_toInt (show j_72 < 2 ^ 31 by omega)] at k_78
                have k_78 : (12 : Int) ≤ ((j_72 : Nat) : Int) := k_78
                omega
              refine lv_iconst (v := 0) hx hb dX12_orders_105 (by decide) ?_
              refine lv_istore_n (lv' := [(3, .int 0), (2, .int (nI j_72)), (1, .int (nI j_8)), (0, .ref h0)]) hx hb dX12_orders_106 rfl hl (by decide) rfl (fun ls hl => ?_)
              have loop_79 : ∀ (n_81 j_80 : Nat) (H : Heap) (locs : List Loc) (ls : Array Slot), j_80 + n_81 = 12 → va_P (dC, dI) vwCl [(h0, .inr (12, [h0_0, h0_1, h0_2, h0_3, .int 0, h0_5, h0_6, h0_7, h0_8, h0_9, h0_10, h0_11, .ref hl1, .ref hr1, h0_14, h0_15, h0_16, h0_17, h0_18, h0_19, h0_20, h0_21, h0_22, h0_23, h0_24, h0_25, h0_26, h0_27, h0_28, h0_29, h0_30, h0_31, h0_32, h0_33, h0_34, h0_35, h0_36, h0_37, h0_38, h0_39, h0_40, h0_41, h0_42, h0_43, h0_44, h0_45, h0_46, h0_47, h0_48, h0_49, h0_50, h0_51, h0_52, h0_53, h0_54, h0_55, h0_56, h0_57, h0_58, h0_59, h0_60, h0_61, h0_62, h0_63, h0_64, h0_65, h0_66, h0_67, h0_68, h0_69])), (hl1, .inl (chl1, 144, .inl (fun _ => 0))), (hr1, .inl (chr1, 12, .inl (fun _ => 0)))] H → va_D A [(h0, .inr (12, [h0_0, h0_1, h0_2, h0_3, .int 0, h0_5, h0_6, h0_7, h0_8, h0_9, h0_10, h0_11, .ref hl1, .ref hr1, h0_14, h0_15, h0_16, h0_17, h0_18, h0_19, h0_20, h0_21, h0_22, h0_23, h0_24, h0_25, h0_26, h0_27, h0_28, h0_29, h0_30, h0_31, h0_32, h0_33, h0_34, h0_35, h0_36, h0_37, h0_38, h0_39, h0_40, h0_41, h0_42, h0_43, h0_44, h0_45, h0_46, h0_47, h0_48, h0_49, h0_50, h0_51, h0_52, h0_53, h0_54, h0_55, h0_56, h0_57, h0_58, h0_59, h0_60, h0_61, h0_62, h0_63, h0_64, h0_65, h0_66, h0_67, h0_68, h0_69])), (hl1, .inl (chl1, 144, .inl (fun _ => 0))), (hr1, .inl (chr1, 12, .inl (fun _ => 0)))] → va_S A s.heap H locs → lv_has ls 4 [(3, .int (nI j_80)), (2, .int (nI j_72)), (1, .int (nI j_8)), (0, .ref h0)] → W p l e ({ frames := 0, cells := 0, slots := 0, locals := 0 } : Room) s m ([.ref h0] : List Value).toArray below meth c H locs 0 0 QQ (F0 m 107 ls []) := by
                intro n_81
                induction n_81 with
                | zero =>
                  intro j_80  H locs ls hjn  hP hD hS hl
                  obtain rfl : j_80 = 12 := by omega
                  have hl : lv_has ls 4 [(3, .int 12), (2, .int (nI j_72)), (1, .int (nI j_8)), (0, .ref h0)] := hl
                  refine lv_iload_n hx hb dX12_orders_107 rfl (lv_at hl 0 rfl) ?_
                  refine lv_bipush (v := 12) hx hb dX12_orders_108 (by decide) ?_
                  refine lv_icmp_ge (tgt := 177) hx hb dX12_orders_110 (by decide) (fun _ => ?_) (fun c_83 => absurd (by decide) c_83)
                  refine lv_iinc (v := (nI (j_72 + 1))) (lv' := [(2, .int (nI (j_72 + 1))), (3, .int 12), (1, .int (nI j_8)), (0, .ref h0)]) hx hb dX12_orders_177 hl (k := 1) rfl (nI_1 j_72) (by decide) rfl (fun ls hl => ?_)
                  refine lv_goto (tgt := 99) hx hb dX12_orders_180 (by decide) ?_
                  exact ih_74 (j_72 + 1)  _ _ _ (by omega)  hP hD hS (lv_sub hl [0, 2, 3] rfl)
                | succ n_81 ih_82 =>
                  intro j_80  H locs ls hjn  hP hD hS hl
                  have hj_84 : j_80 < 12 := by omega
                  refine lv_iload_n hx hb dX12_orders_107 rfl (lv_at hl 0 rfl) ?_
                  refine lv_bipush (v := 12) hx hb dX12_orders_108 (by decide) ?_
                  refine lv_icmp_ge (tgt := 177) hx hb dX12_orders_110 (by decide) (fun c_85 => ?_) (fun c_85 => ?_)
                  · exfalso
                    have k_86 := z_le c_85
                    rw [nI_toInt (show j_80 < 2 ^ 31 by omega)] at k_86
                    have k_86 : (12 : Int) ≤ ((j_80 : Nat) : Int) := k_86
                    omega
                  refine lv_aload_n hx hb dX12_orders_113 rfl (lv_at hl 3 rfl) ?_
                  refine va_get (D := (dC, dI)) (ci := 12) (v := .ref hl1) (C := RX12) (T := TX12) (N := 70) hx hb hts hiX12 hown hK hP 0 rfl rfl 12 (by decide) w__fieldLink_RX12_35_ShellHeapModel_later_Z_ (fun _ h9 => h9) rfl dX12_orders_114 ?_
                  refine lv_bipush (v := 12) hx hb dX12_orders_117 (by decide) ?_
                  refine lv_iload_n hx hb dX12_orders_119 rfl (lv_at hl 1 rfl) ?_
                  refine lv_imul hx hb dX12_orders_120 ?_
                  refine lv_topi (fun x_87 e_88 => ?_)
                  obtain rfl : x_87 = (nI (12 * j_72)) := e_88.trans (pk_mul 12 j_72)
                  refine lv_iload_n hx hb dX12_orders_121 rfl (lv_at hl 0 rfl) ?_
                  refine lv_iadd hx hb dX12_orders_122 ?_
                  refine lv_topi (fun x_89 e_90 => ?_)
                  obtain rfl : x_89 = (nI ((12 * j_72) + j_80)) := e_90.trans (nI_add (12 * j_72) j_80)
                  refine lv_aload_n hx hb dX12_orders_123 rfl (lv_at hl 3 rfl) ?_
                  refine va_get (D := (dC, dI)) (ci := 12) (v := .ref hl1) (C := RX12) (T := TX12) (N := 70) hx hb hts hiX12 hown hK hP 0 rfl rfl 12 (by decide) w__fieldLink_RX12_35_ShellHeapModel_later_Z_ (fun _ h9 => h9) rfl dX12_orders_124 ?_
                  refine lv_bipush (v := 12) hx hb dX12_orders_127 (by decide) ?_
                  refine lv_iload_n hx hb dX12_orders_129 rfl (lv_at hl 1 rfl) ?_
                  refine lv_imul hx hb dX12_orders_130 ?_
                  refine lv_topi (fun x_91 e_92 => ?_)
                  obtain rfl : x_91 = (nI (12 * j_72)) := e_92.trans (pk_mul 12 j_72)
                  refine lv_iload_n hx hb dX12_orders_131 rfl (lv_at hl 0 rfl) ?_
                  refine lv_iadd hx hb dX12_orders_132 ?_
                  refine lv_topi (fun x_93 e_94 => ?_)
                  obtain rfl : x_93 = (nI ((12 * j_72) + j_80)) := e_94.trans (nI_add (12 * j_72) j_80)
                  refine va_zald hx hb hK hP 1 0 rfl rfl (vp_in_nI (show (12 * j_72) + j_80 < 144 by omega) (by decide)) dX12_orders_133 ?_
                  refine lv_topi (fun x_95 e_96 => ?_)
                  obtain rfl : x_95 = 0 := e_96
                  refine lv_if_ne (tgt := 165) hx hb dX12_orders_134 (by decide) (fun c_97 => absurd c_97 (by decide)) (fun _ => ?_)
                  refine lv_aload_n hx hb dX12_orders_137 rfl (lv_at hl 3 rfl) ?_
                  refine va_get (D := (dC, dI)) (ci := 12) (v := .ref hl1) (C := RX12) (T := TX12) (N := 70) hx hb hts hiX12 hown hK hP 0 rfl rfl 12 (by decide) w__fieldLink_RX12_35_ShellHeapModel_later_Z_ (fun _ h9 => h9) rfl dX12_orders_138 ?_
                  refine lv_bipush (v := 12) hx hb dX12_orders_141 (by decide) ?_
                  refine lv_iload_n hx hb dX12_orders_143 rfl (lv_at hl 1 rfl) ?_
                  refine lv_imul hx hb dX12_orders_144 ?_
                  refine lv_topi (fun x_98 e_99 => ?_)
                  obtain rfl : x_98 = (nI (12 * j_72)) := e_99.trans (pk_mul 12 j_72)
                  refine lv_iload_n hx hb dX12_orders_145 rfl (lv_at hl 2 rfl) ?_
                  refine lv_iadd hx hb dX12_orders_146 ?_
                  refine lv_topi (fun x_100 e_101 => ?_)
                  obtain rfl : x_100 = (nI ((12 * j_72) + j_8)) := e_101.trans (nI_add (12 * j_72) j_8)
                  refine va_zald hx hb hK hP 1 0 rfl rfl (vp_in_nI (show (12 * j_72) + j_8 < 144 by omega) (by decide)) dX12_orders_147 ?_
                  refine lv_topi (fun x_102 e_103 => ?_)
                  obtain rfl : x_102 = 0 := e_103
                  refine lv_if_eq (tgt := 169) hx hb dX12_orders_148 (by decide) (fun _ => ?_) (fun c_104 => absurd (by decide) c_104)
                  refine lv_iconst (v := 0) hx hb dX12_orders_169 (by decide) ?_
                  refine va_zast hx hb hK hP hD hS 1 0 rfl rfl (vp_in_nI (show (12 * j_72) + j_80 < 144 by omega) (by decide)) dX12_orders_170 (fun H_105 locs hP hD hS => ?_)
                  have hP : va_P (dC, dI) vwCl [(h0, .inr (12, [h0_0, h0_1, h0_2, h0_3, .int 0, h0_5, h0_6, h0_7, h0_8, h0_9, h0_10, h0_11, .ref hl1, .ref hr1, h0_14, h0_15, h0_16, h0_17, h0_18, h0_19, h0_20, h0_21, h0_22, h0_23, h0_24, h0_25, h0_26, h0_27, h0_28, h0_29, h0_30, h0_31, h0_32, h0_33, h0_34, h0_35, h0_36, h0_37, h0_38, h0_39, h0_40, h0_41, h0_42, h0_43, h0_44, h0_45, h0_46, h0_47, h0_48, h0_49, h0_50, h0_51, h0_52, h0_53, h0_54, h0_55, h0_56, h0_57, h0_58, h0_59, h0_60, h0_61, h0_62, h0_63, h0_64, h0_65, h0_66, h0_67, h0_68, h0_69])), (hl1, .inl (chl1, 144, .inl (upd (fun _ => 0) ((nI ((12 * j_72) + j_80)) : Int32).toNatClampNeg (vp_nar .boolean 0)))), (hr1, .inl (chr1, 12, .inl (fun _ => 0)))] H_105 := hP
                  have hD : va_D A [(h0, .inr (12, [h0_0, h0_1, h0_2, h0_3, .int 0, h0_5, h0_6, h0_7, h0_8, h0_9, h0_10, h0_11, .ref hl1, .ref hr1, h0_14, h0_15, h0_16, h0_17, h0_18, h0_19, h0_20, h0_21, h0_22, h0_23, h0_24, h0_25, h0_26, h0_27, h0_28, h0_29, h0_30, h0_31, h0_32, h0_33, h0_34, h0_35, h0_36, h0_37, h0_38, h0_39, h0_40, h0_41, h0_42, h0_43, h0_44, h0_45, h0_46, h0_47, h0_48, h0_49, h0_50, h0_51, h0_52, h0_53, h0_54, h0_55, h0_56, h0_57, h0_58, h0_59, h0_60, h0_61, h0_62, h0_63, h0_64, h0_65, h0_66, h0_67, h0_68, h0_69])), (hl1, .inl (chl1, 144, .inl (upd (fun _ => 0) ((nI ((12 * j_72) + j_80)) : Int32).toNatClampNeg (vp_nar .boolean 0)))), (hr1, .inl (chr1, 12, .inl (fun _ => 0)))] := hD
                  rw [show (upd (fun _ => 0) ((nI ((12 * j_72) + j_80)) : Int32).toNatClampNeg (vp_nar .boolean 0)) = (fun _ => 0) from z_upd0b _] at hP hD
                  refine lv_iinc (v := (nI (j_80 + 1))) (lv' := [(3, .int (nI (j_80 + 1))), (2, .int (nI j_72)), (1, .int (nI j_8)), (0, .ref h0)]) hx hb dX12_orders_171 hl (k := 0) rfl (nI_1 j_80) (by decide) rfl (fun ls hl => ?_)
                  refine lv_goto (tgt := 107) hx hb dX12_orders_174 (by decide) ?_
                  exact ih_82 (j_80 + 1)  _ _ _ (by omega)  hP hD hS (lv_sub hl [0, 1, 2, 3] rfl)
              exact loop_79 12 0  _ _ _ (by omega)  hP hD hS hl
          exact loop_71 12 0  _ _ _ (by omega)  hP hD hS hl
      exact loop_7 12 0  _ _ _ (by omega)  hP hD hS hl
    | succ n_3 ih_4 =>
      intro j_2  H locs ls hjn  hP hD hS hl
      have hj_106 : j_2 < 144 := by omega
      refine lv_iload_n hx hb dX12_orders_2 rfl (lv_at hl 0 rfl) ?_
      refine lv_sipush (v := 144) hx hb dX12_orders_3 (by decide) ?_
      refine lv_icmp_ge (tgt := 22) hx hb dX12_orders_6 (by decide) (fun c_107 => ?_) (fun c_107 => ?_)
      · exfalso
        have k_108 := z_le c_107
        rw [nI_toInt (show j_2 < 2 ^ 31 by omega)] at k_108
        have k_108 : (144 : Int) ≤ ((j_2 : Nat) : Int) := k_108
        omega
      refine lv_aload_n hx hb dX12_orders_9 rfl (lv_at hl 1 rfl) ?_
      refine va_get (D := (dC, dI)) (ci := 12) (v := .ref hl1) (C := RX12) (T := TX12) (N := 70) hx hb hts hiX12 hown hK hP 0 rfl rfl 12 (by decide) w__fieldLink_RX12_35_ShellHeapModel_later_Z_ (fun _ h9 => h9) rfl dX12_orders_10 ?_
      refine lv_iload_n hx hb dX12_orders_13 rfl (lv_at hl 0 rfl) ?_
      refine lv_iconst (v := 0) hx hb dX12_orders_14 (by decide) ?_
      refine va_zast hx hb hK hP hD hS 1 0 rfl rfl (vp_in_nI (show j_2 < 144 by omega) (by decide)) dX12_orders_15 (fun H_109 locs hP hD hS => ?_)
      have hP : va_P (dC, dI) vwCl [(h0, .inr (12, [h0_0, h0_1, h0_2, h0_3, .int 0, h0_5, h0_6, h0_7, h0_8, h0_9, h0_10, h0_11, .ref hl1, .ref hr1, h0_14, h0_15, h0_16, h0_17, h0_18, h0_19, h0_20, h0_21, h0_22, h0_23, h0_24, h0_25, h0_26, h0_27, h0_28, h0_29, h0_30, h0_31, h0_32, h0_33, h0_34, h0_35, h0_36, h0_37, h0_38, h0_39, h0_40, h0_41, h0_42, h0_43, h0_44, h0_45, h0_46, h0_47, h0_48, h0_49, h0_50, h0_51, h0_52, h0_53, h0_54, h0_55, h0_56, h0_57, h0_58, h0_59, h0_60, h0_61, h0_62, h0_63, h0_64, h0_65, h0_66, h0_67, h0_68, h0_69])), (hl1, .inl (chl1, 144, .inl (upd (fun _ => 0) ((nI j_2) : Int32).toNatClampNeg (vp_nar .boolean 0)))), (hr1, .inl (chr1, 12, .inl (fun _ => 0)))] H_109 := hP
      have hD : va_D A [(h0, .inr (12, [h0_0, h0_1, h0_2, h0_3, .int 0, h0_5, h0_6, h0_7, h0_8, h0_9, h0_10, h0_11, .ref hl1, .ref hr1, h0_14, h0_15, h0_16, h0_17, h0_18, h0_19, h0_20, h0_21, h0_22, h0_23, h0_24, h0_25, h0_26, h0_27, h0_28, h0_29, h0_30, h0_31, h0_32, h0_33, h0_34, h0_35, h0_36, h0_37, h0_38, h0_39, h0_40, h0_41, h0_42, h0_43, h0_44, h0_45, h0_46, h0_47, h0_48, h0_49, h0_50, h0_51, h0_52, h0_53, h0_54, h0_55, h0_56, h0_57, h0_58, h0_59, h0_60, h0_61, h0_62, h0_63, h0_64, h0_65, h0_66, h0_67, h0_68, h0_69])), (hl1, .inl (chl1, 144, .inl (upd (fun _ => 0) ((nI j_2) : Int32).toNatClampNeg (vp_nar .boolean 0)))), (hr1, .inl (chr1, 12, .inl (fun _ => 0)))] := hD
      rw [show (upd (fun _ => 0) ((nI j_2) : Int32).toNatClampNeg (vp_nar .boolean 0)) = (fun _ => 0) from z_upd0b _] at hP hD
      refine lv_iinc (v := (nI (j_2 + 1))) (lv' := [(1, .int (nI (j_2 + 1))), (0, .ref h0)]) hx hb dX12_orders_16 hl (k := 0) rfl (nI_1 j_2) (by decide) rfl (fun ls hl => ?_)
      refine lv_goto (tgt := 2) hx hb dX12_orders_19 (by decide) ?_
      exact ih_4 (j_2 + 1)  _ _ _ (by omega)  hP hD hS (lv_sub hl [0, 1] rfl)
  exact loop_1 144 0  _ _ _ (by omega)  hP hD hS hl
