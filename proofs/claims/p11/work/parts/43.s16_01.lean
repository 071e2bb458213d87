def u_s_X12_wordAt : List Cond := .code yX12_wordAt cX12_wordAt 8 (some .int) :: ([.fieldLink RX12 72 "ShellHeapModel" "words" "[I", .fieldLink RX12 7 "ShellHeapModel" "tape" "[I"] ++ (wsX120 ++ []))
theorem gd_s_X12_wordAt : z_gd u_s_X12_wordAt := z_gdc (by decide +kernel) (z_gda gdX12 (z_gd0))
set_option maxHeartbeats 4000000 in
set_option maxRecDepth 100000 in
theorem s_X12_wordAt (l : Launch) (dC : Nat → ClassId) (dI : Nat → Nat → Nat) (sz : Nat) (h0 : Nat) (p1 : Int32) (p2 : Int32) (a_te : Nat) (h0_1 : Value) (h0_2 : Value) (h0_3 : Value) (h0_4 : Value) (h0_5 : Value) (h0_6 : Value) (h0_7 : Value) (h0_8 : Value) (h0_9 : Value) (h0_10 : Value) (h0_11 : Value) (h0_12 : Value) (h0_13 : Value) (h0_14 : Value) (h0_15 : Value) (h0_16 : Value) (h0_17 : Value) (h0_18 : Value) (h0_19 : Value) (h0_20 : Value) (h0_21 : Value) (h0_22 : Value) (h0_23 : Value) (h0_24 : Value) (h0_25 : Value) (h0_26 : Value) (a_wd : Nat) (mf : Int32) (mfp : Int32) (mst : Int32) (mnx : Int32) (mkd : Int32) (mwh : Int32) (mpl : Int32) (h0_35 : Value) (h0_36 : Value) (h0_37 : Value) (h0_38 : Value) (h0_39 : Value) (h0_40 : Value) (h0_41 : Value) (h0_42 : Value) (h0_43 : Value) (h0_44 : Value) (h0_45 : Value) (h0_46 : Value) (h0_47 : Value) (h0_48 : Value) (h0_49 : Value) (h0_50 : Value) (h0_51 : Value) (h0_52 : Value) (h0_53 : Value) (h0_54 : Value) (h0_55 : Value) (h0_56 : Value) (h0_57 : Value) (h0_58 : Value) (h0_59 : Value) (h0_60 : Value) (h0_61 : Value) (h0_62 : Value) (h0_63 : Value) (h0_64 : Value) (h0_65 : Value) (h0_66 : Value) (h0_67 : Value) (h0_68 : Value) (h0_69 : Value) (ca_te : ClassId) (fa_te : Nat → Int32) (ca_wd : ClassId) (fa_wd : Nat → Int32) (hB_p1 : ((0 : Int) ≤ (p1).toInt ∧ (p1).toInt ≤ (700 : Int))) (hB_p2 : ((0 : Int) ≤ (p2).toInt ∧ (p2).toInt ≤ (700 : Int))) (hI_a_te : ∀ j : Nat, ((0 : Int) ≤ (fa_te j).toInt ∧ (fa_te j).toInt ≤ (255 : Int))) (hWD : z_wd fa_wd) (hpp : p1.toInt ≤ p2.toInt) : Met l yX12_wordAt u_s_X12_wordAt ({ frames := 0, cells := 0, slots := 0, locals := 0 }) (va_Pc [.ref h0, .int p1, .int p2] (z_C (dC, dI) vwCl [(h0, .inr (12, [.ref a_te, h0_1, h0_2, h0_3, h0_4, h0_5, h0_6, h0_7, h0_8, h0_9, h0_10, h0_11, h0_12, h0_13, h0_14, h0_15, h0_16, h0_17, h0_18, h0_19, h0_20, h0_21, h0_22, h0_23, h0_24, h0_25, h0_26, .ref a_wd, .int mf, .int mfp, .int mst, .int mnx, .int mkd, .int mwh, .int mpl, h0_35, h0_36, h0_37, h0_38, h0_39, h0_40, h0_41, h0_42, h0_43, h0_44, h0_45, h0_46, h0_47, h0_48, h0_49, h0_50, h0_51, h0_52, h0_53, h0_54, h0_55, h0_56, h0_57, h0_58, h0_59, h0_60, h0_61, h0_62, h0_63, h0_64, h0_65, h0_66, h0_67, h0_68, h0_69])), (a_te, .inl (ca_te, 700, .inl fa_te)), (a_wd, .inl (ca_wd, 115, .inl fa_wd))] [(ca_te, .int), (ca_wd, .int)] sz)) (va_Qi (fun (r : Int32) (_ : Unit) => (r.toInt = (-1 : Int)) ∨ ((0 : Int) ≤ r.toInt ∧ p2.toInt - p1.toInt ≤ (6 : Int))) (fun (_ : Unit) (_ : State) => True) (va_A [] sz)) 0 0 (va_A [] sz) := by
  refine Met.ofW (cc := cX12_wordAt) (maxL := 8) (ret := (some .int)) (by decide) rfl ?_
  intro p e s m args below meth c s₁ B hml hv
  obtain ⟨rfl, hsz, hP, hK, hD0⟩ := hv
  have hx := B.exec
  have hb := B.bytes
  have hr := B.returns
  have hts := atoms_spec (ws := u_s_X12_wordAt) B.pre
  have hown : s.vm.findClass RX12 = some m.cls := findClass_of_methodNamed B.named
  have hlocks := B.notSynchronized
  subst hsz
  have hD := hD0
  generalize hAe : va_A [] s.heap.size = A
  have hA : ∀ q : Nat, s.heap.size ≤ q → A q := fun q h => by rw [← hAe]; exact Or.inr h
  have hS : va_S A s.heap s.heap [] := va_S.rf
  have hP : va_P (dC, dI) vwCl [(h0, .inr (12, [.ref a_te, h0_1, h0_2, h0_3, h0_4, h0_5, h0_6, h0_7, h0_8, h0_9, h0_10, h0_11, h0_12, h0_13, h0_14, h0_15, h0_16, h0_17, h0_18, h0_19, h0_20, h0_21, h0_22, h0_23, h0_24, h0_25, h0_26, .ref a_wd, .int mf, .int mfp, .int mst, .int mnx, .int mkd, .int mwh, .int mpl, h0_35, h0_36, h0_37, h0_38, h0_39, h0_40, h0_41, h0_42, h0_43, h0_44, h0_45, h0_46, h0_47, h0_48, h0_49, h0_50, h0_51, h0_52, h0_53, h0_54, h0_55, h0_56, h0_57, h0_58, h0_59, h0_60, h0_61, h0_62, h0_63, h0_64, h0_65, h0_66, h0_67, h0_68, h0_69])), (a_te, .inl (ca_te, 700, .inl fa_te)), (a_wd, .inl (ca_wd, 115, .inl fa_wd))] s.heap := hP
  have w__fieldLink_RX12_72_ShellHeapModel_words_I_ := hts (.fieldLink RX12 72 "ShellHeapModel" "words" "[I") (z_mc (z_ml z_m0))
  have hiX12 := show ∀ w ∈ u_ws RX12 TX12 70, w ∈ u_s_X12_wordAt from fun w h => z_mc (z_mr (z_ml h))
  have w__fieldLink_RX12_7_ShellHeapModel_tape_I_ := hts (.fieldLink RX12 7 "ShellHeapModel" "tape" "[I") (z_mc (z_ml z_m1))
  have hl := lv_entry ([.ref h0, .int p1, .int p2]) (n := 8) (Nat.le_of_ble_eq_true rfl)
  rw [lg_entry_eq]
  generalize (lg_sl ([.ref h0, .int p1, .int p2]) ++ List.replicate (8 - (lg_sl ([.ref h0, .int p1, .int p2])).length) Slot.unset).toArray = ls at hl ⊢
  have hl : lv_has ls 8 [(0, .ref h0), (1, .int p1), (2, .int p2)] := hl
  refine z_nameQ (fun QQ hQQ => ?_)
  obtain ⟨dd, hd6, hWD⟩ := hWD
  refine lv_iconst (v := 0) hx hb dX12_wordAt_0 (by decide) ?_
  refine lv_istore_n (lv' := [(3, .int 0), (0, .ref h0), (1, .int p1), (2, .int p2)]) hx hb dX12_wordAt_1 rfl hl (by decide) rfl (fun ls hl => ?_)
  refine lv_iconst (v := 0) hx hb dX12_wordAt_2 (by decide) ?_
  refine lv_istore (lv' := [(4, .int 0), (3, .int 0), (0, .ref h0), (1, .int p1), (2, .int p2)]) hx hb dX12_wordAt_3 hl (by decide) rfl (fun ls hl => ?_)
  have loop_1 : ∀ (n_2 : Nat) (k_4 : Int32) (at_5 : Int32) (H : Heap) (locs : List Loc) (ls : Array Slot), (116 - (at_5).toInt).toNat < n_2 → (((0 : Int) ≤ (k_4).toInt ∧ (k_4).toInt ≤ (115 : Int))) → (((0 : Int) ≤ (at_5).toInt ∧ (at_5).toInt ≤ (115 : Int))) → ((k_4).toInt ≤ (at_5).toInt) → va_P (dC, dI) vwCl [(h0, .inr (12, [.ref a_te, h0_1, h0_2, h0_3, h0_4, h0_5, h0_6, h0_7, h0_8, h0_9, h0_10, h0_11, h0_12, h0_13, h0_14, h0_15, h0_16, h0_17, h0_18, h0_19, h0_20, h0_21, h0_22, h0_23, h0_24, h0_25, h0_26, .ref a_wd, .int mf, .int mfp, .int mst, .int mnx, .int mkd, .int mwh, .int mpl, h0_35, h0_36, h0_37, h0_38, h0_39, h0_40, h0_41, h0_42, h0_43, h0_44, h0_45, h0_46, h0_47, h0_48, h0_49, h0_50, h0_51, h0_52, h0_53, h0_54, h0_55, h0_56, h0_57, h0_58, h0_59, h0_60, h0_61, h0_62, h0_63, h0_64, h0_65, h0_66, h0_67, h0_68, h0_69])), (a_te, .inl (ca_te, 700, .inl fa_te)), (a_wd, .inl (ca_wd, 115, .inl fa_wd))] H → va_D (fun _ => True) [(h0, .inr (12, [.ref a_te, h0_1, h0_2, h0_3, h0_4, h0_5, h0_6, h0_7, h0_8, h0_9, h0_10, h0_11, h0_12, h0_13, h0_14, h0_15, h0_16, h0_17, h0_18, h0_19, h0_20, h0_21, h0_22, h0_23, h0_24, h0_25, h0_26, .ref a_wd, .int mf, .int mfp, .int mst, .int mnx, .int mkd, .int mwh, .int mpl, h0_35, h0_36, h0_37, h0_38, h0_39, h0_40, h0_41, h0_42, h0_43, h0_44, h0_45, h0_46, h0_47, h0_48, h0_49, h0_50, h0_51, h0_52, h0_53, h0_54, h0_55, h0_56, h0_57, h0_58, h0_59, h0_60, h0_61, h0_62, h0_63, h0_64, h0_65, h0_66, h0_67, h0_68, h0_69])), (a_te, .inl (ca_te, 700, .inl fa_te)), (a_wd, .inl (ca_wd, 115, .inl fa_wd))] → va_S A s.heap H locs → lv_has ls 8 [(4, .int at_5), (3, .int k_4), (0, .ref h0), (1, .int p1), (2, .int p2)] → W p l e ({ frames := 0, cells := 0, slots := 0, locals := 0 } : Room) s m ([.ref h0, .int p1, .int p2] : List Value).toArray below meth c H locs 0 0 QQ (F0 m 5 ls []) := by
    intro n_2
    induction n_2 with
    | zero => intro k_4 at_5 H locs ls hm; exact absurd hm (Nat.not_lt_zero _)
    | succ n_2 ih_3 =>
      intro k_4 at_5 H locs ls hm hF_6 hF_7 hF_8 hP hD hS hl
      refine lv_iload hx hb dX12_wordAt_5 (lv_at hl 0 rfl) ?_
      refine lv_aload_n hx hb dX12_wordAt_7 rfl (lv_at hl 2 rfl) ?_
      refine va_get (D := (dC, dI)) (ci := 12) (v := .ref a_wd) (C := RX12) (T := TX12) (N := 70) hx hb hts hiX12 hown hK hP 0 rfl rfl 27 (by decide) w__fieldLink_RX12_72_ShellHeapModel_words_I_ (fun _ h9 => h9) rfl dX12_wordAt_8 ?_
      refine va_alen (v := 115) hx hb hK hP 2 1 rfl rfl (show Int32.ofNat 115 = 115 by decide) dX12_wordAt_11 ?_
      refine lv_icmp_ge (tgt := 126) hx hb dX12_wordAt_12 (by decide) (fun c_9 => ?_) (fun c_9 => ?_)
      · have k_10 : (115 : Int) ≤ (at_5).toInt := z_le c_9
        obtain rfl : at_5 = 115 := z_eq' (show (at_5).toInt = (115 : Int) by omega)
        refine lv_iconst (v := (-1)) hx hb dX12_wordAt_126 (by decide) ?_
        refine z_backQ hQQ ?_
        refine W.widen (k := 0) (n := 0) (Nat.le_of_ble_eq_true rfl) (Nat.le_of_ble_eq_true rfl) ?_
        exact W.iret (v := (-1)) hx hb hr (fun t ht hW => ⟨⟨(-1), (), rfl, (show ((-1 : Int) = (-1 : Int)) ∨ ((0 : Int) ≤ (-1 : Int) ∧ p2.toInt - p1.toInt ≤ (6 : Int)) by omega), trivial⟩, hS.F ht⟩) hS.2.2 dX12_wordAt_127
      · have k_12 : (115 : Int) > (at_5).toInt := z_nle c_9
        refine lv_iconst (v := 0) hx hb dX12_wordAt_15 (by decide) ?_
        refine lv_istore (lv' := [(5, .int 0), (4, .int at_5), (3, .int k_4), (0, .ref h0), (1, .int p1), (2, .int p2)]) hx hb dX12_wordAt_16 hl (by decide) rfl (fun ls hl => ?_)
        have loop_13 : ∀ (n_14 : Nat) (n_16 : Int32) (H : Heap) (locs : List Loc) (ls : Array Slot), (7 - (n_16).toInt).toNat < n_14 → (((0 : Int) ≤ (n_16).toInt ∧ (n_16).toInt ≤ (6 : Int))) → ((n_16).toInt + ((dd ((at_5).toInt + (n_16).toInt).toNat : Nat) : Int) ≤ 6) → ((at_5).toInt + (n_16).toInt < 115) → va_P (dC, dI) vwCl [(h0, .inr (12, [.ref a_te, h0_1, h0_2, h0_3, h0_4, h0_5, h0_6, h0_7, h0_8, h0_9, h0_10, h0_11, h0_12, h0_13, h0_14, h0_15, h0_16, h0_17, h0_18, h0_19, h0_20, h0_21, h0_22, h0_23, h0_24, h0_25, h0_26, .ref a_wd, .int mf, .int mfp, .int mst, .int mnx, .int mkd, .int mwh, .int mpl, h0_35, h0_36, h0_37, h0_38, h0_39, h0_40, h0_41, h0_42, h0_43, h0_44, h0_45, h0_46, h0_47, h0_48, h0_49, h0_50, h0_51, h0_52, h0_53, h0_54, h0_55, h0_56, h0_57, h0_58, h0_59, h0_60, h0_61, h0_62, h0_63, h0_64, h0_65, h0_66, h0_67, h0_68, h0_69])), (a_te, .inl (ca_te, 700, .inl fa_te)), (a_wd, .inl (ca_wd, 115, .inl fa_wd))] H → va_D (fun _ => True) [(h0, .inr (12, [.ref a_te, h0_1, h0_2, h0_3, h0_4, h0_5, h0_6, h0_7, h0_8, h0_9, h0_10, h0_11, h0_12, h0_13, h0_14, h0_15, h0_16, h0_17, h0_18, h0_19, h0_20, h0_21, h0_22, h0_23, h0_24, h0_25, h0_26, .ref a_wd, .int mf, .int mfp, .int mst, .int mnx, .int mkd, .int mwh, .int mpl, h0_35, h0_36, h0_37, h0_38, h0_39, h0_40, h0_41, h0_42, h0_43, h0_44, h0_45, h0_46, h0_47, h0_48, h0_49, h0_50, h0_51, h0_52, h0_53, h0_54, h0_55, h0_56, h0_57, h0_58, h0_59, h0_60, h0_61, h0_62, h0_63, h0_64, h0_65, h0_66, h0_67, h0_68, h0_69])), (a_te, .inl (ca_te, 700, .inl fa_te)), (a_wd, .inl (ca_wd, 115, .inl fa_wd))] → va_S A s.heap H locs → lv_has ls 8 [(5, .int n_16), (4, .int at_5), (3, .int k_4), (0, .ref h0), (1, .int p1), (2, .int p2)] → W p l e ({ frames := 0, cells := 0, slots := 0, locals := 0 } : Room) s m ([.ref h0, .int p1, .int p2] : List Value).toArray below meth c H locs 0 0 QQ (F0 m 18 ls []) := by
          intro n_14
          induction n_14 with
          | zero => intro n_16 H locs ls hm; exact absurd hm (Nat.not_lt_zero _)
          | succ n_14 ih_15 =>
            intro n_16 H locs ls hm hF_17 hF_18 hF_19 hP hD hS hl
            refine lv_aload_n hx hb dX12_wordAt_18 rfl (lv_at hl 3 rfl) ?_
            refine va_get (D := (dC, dI)) (ci := 12) (v := .ref a_wd) (C := RX12) (T := TX12) (N := 70) hx hb hts hiX12 hown hK hP 0 rfl rfl 27 (by decide) w__fieldLink_RX12_72_ShellHeapModel_words_I_ (fun _ h9 => h9) rfl dX12_wordAt_19 ?_
            refine lv_iload hx hb dX12_wordAt_22 (lv_at hl 1 rfl) ?_
            refine lv_iload hx hb dX12_wordAt_24 (lv_at hl 0 rfl) ?_
            refine lv_iadd hx hb dX12_wordAt_26 ?_
            refine lv_topi (fun z_20 ez_20 => ?_)
            have kz_20 : (z_20).toInt = (at_5).toInt + (n_16).toInt := by rw [ez_20]; exact z_add (a := (at_5).toInt) (b := (n_16).toInt) rfl rfl (by omega) (by omega)
            refine va_iald hx hb hK hP 2 1 rfl rfl (z_vpin (by omega) (by omega)) dX12_wordAt_27 ?_
            refine lv_topi (fun z_21 ez_21 => ?_)
            refine lv_bipush (v := 32) hx hb dX12_wordAt_28 (by decide) ?_
            refine lv_icmp_eq (tgt := 39) hx hb dX12_wordAt_30 (by decide) (fun c_22 => ?_) (fun c_22 => ?_)
            · have k_23 : (z_21).toInt = (32 : Int) := z_eq c_22
              obtain rfl : z_21 = 32 := z_eq' (show (z_21).toInt = (32 : Int) by omega)
              refine lv_iload hx hb dX12_wordAt_39 (lv_at hl 0 rfl) ?_
              refine lv_iload_n hx hb dX12_wordAt_41 rfl (lv_at hl 5 rfl) ?_
              refine lv_iload_n hx hb dX12_wordAt_42 rfl (lv_at hl 4 rfl) ?_
              refine lv_isub hx hb dX12_wordAt_43 ?_
              refine lv_topi (fun z_25 ez_25 => ?_)
              have kz_25 : (z_25).toInt = (p2).toInt - (p1).toInt := by rw [ez_25]; exact z_sub (a := (p2).toInt) (b := (p1).toInt) rfl rfl (by omega) (by omega)
              refine lv_icmp_ne (tgt := 51) hx hb dX12_wordAt_44 (by decide) (fun c_26 => ?_) (fun c_26 => ?_)
              · have k_27 : (n_16).toInt ≠ (z_25).toInt := z_ne c_26
                refine lv_iconst (v := 0) hx hb dX12_wordAt_51 (by decide) ?_
                refine lv_istore (lv' := [(6, .int 0), (5, .int n_16), (4, .int at_5), (3, .int k_4), (0, .ref h0), (1, .int p1), (2, .int p2)]) hx hb dX12_wordAt_52 hl (by decide) rfl (fun ls hl => ?_)
                refine lv_iconst (v := 0) hx hb dX12_wordAt_54 (by decide) ?_
                refine lv_istore (lv' := [(7, .int 0), (6, .int 0), (5, .int n_16), (4, .int at_5), (3, .int k_4), (0, .ref h0), (1, .int p1), (2, .int p2)]) hx hb dX12_wordAt_55 hl (by decide) rfl (fun ls hl => ?_)
                have loop_28 : ∀ (n_29 : Nat) (sm_31 : Int32) (i_32 : Int32) (H : Heap) (locs : List Loc) (ls : Array Slot), (7 - (i_32).toInt).toNat < n_29 → (((0 : Int) ≤ (sm_31).toInt ∧ (sm_31).toInt ≤ (1 : Int))) → (((0 : Int) ≤ (i_32).toInt ∧ (i_32).toInt ≤ (6 : Int))) → ((sm_31).toInt = 0 ∨ (n_16).toInt = (p2).toInt - (p1).toInt) → va_P (dC, dI) vwCl [(h0, .inr (12, [.ref a_te, h0_1, h0_2, h0_3, h0_4, h0_5, h0_6, h0_7, h0_8, h0_9, h0_10, h0_11, h0_12, h0_13, h0_14, h0_15, h0_16, h0_17, h0_18, h0_19, h0_20, h0_21, h0_22, h0_23, h0_24, h0_25, h0_26, .ref a_wd, .int mf, .int mfp, .int mst, .int mnx, .int mkd, .int mwh, .int mpl, h0_35, h0_36, h0_37, h0_38, h0_39, h0_40, h0_41, h0_42, h0_43, h0_44, h0_45, h0_46, h0_47, h0_48, h0_49, h0_50, h0_51, h0_52, h0_53, h0_54, h0_55, h0_56, h0_57, h0_58, h0_59, h0_60, h0_61, h0_62, h0_63, h0_64, h0_65, h0_66, h0_67, h0_68, h0_69])), (a_te, .inl (ca_te, 700, .inl fa_te)), (a_wd, .inl (ca_wd, 115, .inl fa_wd))] H → va_D (fun _ => True) [(h0, .inr (12, [.ref a_te, h0_1, h0_2, h0_3, h0_4, h0_5, h0_6, h0_7, h0_8, h0_9, h0_10, h0_11, h0_12, h0_13, h0_14, h0_15, h0_16, h0_17, h0_18, h0_19, h0_20, h0_21, h0_22, h0_23, h0_24, h0_25, h0_26, .ref a_wd, .int mf, .int mfp, .int mst, .int mnx, .int mkd, .int mwh, .int mpl, h0_35, h0_36, h0_37, h0_38, h0_39, h0_40, h0_41, h0_42, h0_43, h0_44, h0_45, h0_46, h0_47, h0_48, h0_49, h0_50, h0_51, h0_52, h0_53, h0_54, h0_55, h0_56, h0_57, h0_58, h0_59, h0_60, h0_61, h0_62, h0_63, h0_64, h0_65, h0_66, h0_67, h0_68, h0_69])), (a_te, .inl (ca_te, 700, .inl fa_te)), (a_wd, .inl (ca_wd, 115, .inl fa_wd))] → va_S A s.heap H locs → lv_has ls 8 [(7, .int i_32), (6, .int sm_31), (5, .int n_16), (4, .int at_5), (3, .int k_4), (0, .ref h0), (1, .int p1), (2, .int p2)] → W p l e ({ frames := 0, cells := 0, slots := 0, locals := 0 } : Room) s m ([.ref h0, .int p1, .int p2] : List Value).toArray below meth c H locs 0 0 QQ (F0 m 57 ls []) := by
                  intro n_29
                  induction n_29 with
                  | zero => intro sm_31 i_32 H locs ls hm; exact absurd hm (Nat.not_lt_zero _)
                  | succ n_29 ih_30 =>
                    intro sm_31 i_32 H locs ls hm hF_33 hF_34 hF_35 hP hD hS hl
                    refine lv_iload hx hb dX12_wordAt_57 (lv_at hl 0 rfl) ?_
                    refine lv_iload hx hb dX12_wordAt_59 (lv_at hl 2 rfl) ?_
                    refine lv_icmp_ge (tgt := 104) hx hb dX12_wordAt_61 (by decide) (fun c_36 => ?_) (fun c_36 => ?_)
                    · have k_37 : (n_16).toInt ≤ (i_32).toInt := z_le c_36
                      refine lv_iload hx hb dX12_wordAt_104 (lv_at hl 1 rfl) ?_
                      refine lv_if_eq (tgt := 111) hx hb dX12_wordAt_106 (by decide) (fun c_38 => ?_) (fun c_38 => ?_)
                      · have k_39 : (sm_31).toInt = (0 : Int) := z_eq c_38
                        obtain rfl : sm_31 = 0 := z_eq' (show (sm_31).toInt = (0 : Int) by omega)
                        refine lv_iload hx hb dX12_wordAt_111 (lv_at hl 3 rfl) ?_
                        refine lv_iload hx hb dX12_wordAt_113 (lv_at hl 2 rfl) ?_
                        refine lv_iconst (v := 1) hx hb dX12_wordAt_115 (by decide) ?_
                        refine lv_iadd hx hb dX12_wordAt_116 ?_
                        refine lv_topi (fun z_41 ez_41 => ?_)
                        have kz_41 : (z_41).toInt = (n_16).toInt + (1 : Int) := by rw [ez_41]; exact z_add (a := (n_16).toInt) (b := (1 : Int)) rfl rfl (z_al hF_17.1 (by decide)) (z_ah hF_17.2 (by decide))
                        refine lv_iadd hx hb dX12_wordAt_117 ?_
                        refine lv_topi (fun z_42 ez_42 => ?_)
                        have kz_42 : (z_42).toInt = (at_5).toInt + (z_41).toInt := by rw [ez_42]; exact z_add (a := (at_5).toInt) (b := (z_41).toInt) rfl rfl (by omega) (by omega)
                        refine lv_istore (lv' := [(4, .int z_42), (7, .int i_32), (6, .int 0), (5, .int n_16), (3, .int k_4), (0, .ref h0), (1, .int p1), (2, .int p2)]) hx hb dX12_wordAt_118 hl (by decide) rfl (fun ls hl => ?_)
                        obtain ⟨z_43, ez_43⟩ : ∃ y : Int32, y = k_4 + 1 := ⟨_, rfl⟩
                        have kz_43 : (z_43).toInt = (k_4).toInt + (1 : Int) := by rw [ez_43]; exact z_add (b := 1) rfl rfl (z_al hF_6.1 (by decide)) (z_ah hF_6.2 (by decide))
                        refine lv_iinc (v := z_43) (lv' := [(3, .int z_43), (4, .int z_42), (7, .int i_32), (6, .int 0), (5, .int n_16), (0, .ref h0), (1, .int p1), (2, .int p2)]) hx hb dX12_wordAt_120 hl (k := 4) rfl (by rw [ez_43]; rfl) (by decide) rfl (fun ls hl => ?_)
                        refine lv_goto (tgt := 5) hx hb dX12_wordAt_123 (by decide) ?_
                        exact ih_3 z_43 z_42 _ _ _ (show (116 - (z_42).toInt).toNat < n_2 by omega) (show ((0 : Int) ≤ (z_43).toInt ∧ (z_43).toInt ≤ (115 : Int)) by omega) (show ((0 : Int) ≤ (z_42).toInt ∧ (z_42).toInt ≤ (115 : Int)) by omega) (show (z_43).toInt ≤ (z_42).toInt by omega) hP hD hS (lv_sub hl [1, 0, 5, 6, 7] rfl)
                      · have k_44 : (sm_31).toInt ≠ (0 : Int) := z_ne c_38
                        obtain rfl : sm_31 = 1 := z_eq' (show (sm_31).toInt = (1 : Int) by omega)
                        refine lv_iload_n hx hb dX12_wordAt_109 rfl (lv_at hl 4 rfl) ?_
                        refine z_backQ hQQ ?_
                        refine W.widen (k := 0) (n := 0) (Nat.le_of_ble_eq_true rfl) (Nat.le_of_ble_eq_true rfl) ?_
                        exact W.iret (v := k_4) hx hb hr (fun t ht hW => ⟨⟨k_4, (), rfl, (show ((k_4).toInt = (-1 : Int)) ∨ ((0 : Int) ≤ (k_4).toInt ∧ p2.toInt - p1.toInt ≤ (6 : Int)) by omega), trivial⟩, hS.F ht⟩) hS.2.2 dX12_wordAt_110
                    · have k_46 : (n_16).toInt > (i_32).toInt := z_nle c_36
                      refine lv_iload hx hb dX12_wordAt_64 (lv_at hl 1 rfl) ?_
                      refine lv_if_eq (tgt := 104) hx hb dX12_wordAt_66 (by decide) (fun c_47 => ?_) (fun c_47 => ?_)
                      · have k_48 : (sm_31).toInt = (0 : Int) := z_eq c_47
                        obtain rfl : sm_31 = 0 := z_eq' (show (sm_31).toInt = (0 : Int) by omega)
                        refine lv_iload hx hb dX12_wordAt_104 (lv_at hl 1 rfl) ?_
                        refine lv_if_eq (tgt := 111) hx hb dX12_wordAt_106 (by decide) (fun _ => ?_) (fun c_50 => absurd (by decide) c_50)
                        refine lv_iload hx hb dX12_wordAt_111 (lv_at hl 3 rfl) ?_
                        refine lv_iload hx hb dX12_wordAt_113 (lv_at hl 2 rfl) ?_
                        refine lv_iconst (v := 1) hx hb dX12_wordAt_115 (by decide) ?_
                        refine lv_iadd hx hb dX12_wordAt_116 ?_
                        refine lv_topi (fun z_51 ez_51 => ?_)
                        have kz_51 : (z_51).toInt = (n_16).toInt + (1 : Int) := by rw [ez_51]; exact z_add (a := (n_16).toInt) (b := (1 : Int)) rfl rfl (z_al hF_17.1 (by decide)) (z_ah hF_17.2 (by decide))
                        refine lv_iadd hx hb dX12_wordAt_117 ?_
                        refine lv_topi (fun z_52 ez_52 => ?_)
                        have kz_52 : (z_52).toInt = (at_5).toInt + (z_51).toInt := by rw [ez_52]; exact z_add (a := (at_5).toInt) (b := (z_51).toInt) rfl rfl (by omega) (by omega)
                        refine lv_istore (lv' := [(4, .int z_52), (7, .int i_32), (6, .int 0), (5, .int n_16), (3, .int k_4), (0, .ref h0), (1, .int p1), (2, .int p2)]) hx hb dX12_wordAt_118 hl (by decide) rfl (fun ls hl => ?_)
                        obtain ⟨z_53, ez_53⟩ : ∃ y : Int32, y = k_4 + 1 := ⟨_, rfl⟩
                        have kz_53 : (z_53).toInt = (k_4).toInt + (1 : Int) := by rw [ez_53]; exact z_add (b := 1) rfl rfl (z_al hF_6.1 (by decide)) (z_ah hF_6.2 (by decide))
                        refine lv_iinc (v := z_53) (lv' := [(3, .int z_53), (4, .int z_52), (7, .int i_32), (6, .int 0), (5, .int n_16), (0, .ref h0), (1, .int p1), (2, .int p2)]) hx hb dX12_wordAt_120 hl (k := 4) rfl (by rw [ez_53]; rfl) (by decide) rfl (fun ls hl => ?_)
                        refine lv_goto (tgt := 5) hx hb dX12_wordAt_123 (by decide) ?_
                        exact ih_3 z_53 z_52 _ _ _ (show (116 - (z_52).toInt).toNat < n_2 by omega) (show ((0 : Int) ≤ (z_53).toInt ∧ (z_53).toInt ≤ (115 : Int)) by omega) (show ((0 : Int) ≤ (z_52).toInt ∧ (z_52).toInt ≤ (115 : Int)) by omega) (show (z_53).toInt ≤ (z_52).toInt by omega) hP hD hS (lv_sub hl [1, 0, 5, 6, 7] rfl)
                      · have k_54 : (sm_31).toInt ≠ (0 : Int) := z_ne c_47
                        obtain rfl : sm_31 = 1 := z_eq' (show (sm_31).toInt = (1 : Int) by omega)
                        refine lv_aload_n hx hb dX12_wordAt_69 rfl (lv_at hl 5 rfl) ?_
                        refine va_get (D := (dC, dI)) (ci := 12) (v := .ref a_wd) (C := RX12) (T := TX12) (N := 70) hx hb hts hiX12 hown hK hP 0 rfl rfl 27 (by decide) w__fieldLink_RX12_72_ShellHeapModel_words_I_ (fun _ h9 => h9) rfl dX12_wordAt_70 ?_
                        refine lv_iload hx hb dX12_wordAt_73 (lv_at hl 3 rfl) ?_
                        refine lv_iload hx hb dX12_wordAt_75 (lv_at hl 0 rfl) ?_
                        refine lv_iadd hx hb dX12_wordAt_77 ?_
                        refine lv_topi (fun z_56 ez_56 => ?_)
                        have kz_56 : (z_56).toInt = (at_5).toInt + (i_32).toInt := by rw [ez_56]; exact z_add (a := (at_5).toInt) (b := (i_32).toInt) rfl rfl (by omega) (by omega)
                        refine va_iald hx hb hK hP 2 1 rfl rfl (z_vpin (by omega) (by omega)) dX12_wordAt_78 ?_
                        refine lv_topi (fun z_57 ez_57 => ?_)
                        refine lv_aload_n hx hb dX12_wordAt_79 rfl (lv_at hl 5 rfl) ?_
                        refine va_get (D := (dC, dI)) (ci := 12) (v := .ref a_te) (C := RX12) (T := TX12) (N := 70) hx hb hts hiX12 hown hK hP 0 rfl rfl 0 (by decide) w__fieldLink_RX12_7_ShellHeapModel_tape_I_ (fun _ h9 => h9) rfl dX12_wordAt_80 ?_
                        refine lv_iload_n hx hb dX12_wordAt_83 rfl (lv_at hl 6 rfl) ?_
                        refine lv_iload hx hb dX12_wordAt_84 (lv_at hl 0 rfl) ?_
                        refine lv_iadd hx hb dX12_wordAt_86 ?_
                        refine lv_topi (fun z_58 ez_58 => ?_)
                        have kz_58 : (z_58).toInt = (p1).toInt + (i_32).toInt := by rw [ez_58]; exact z_add (a := (p1).toInt) (b := (i_32).toInt) rfl rfl (by omega) (by omega)
                        refine va_iald hx hb hK hP 1 0 rfl rfl (z_vpin (by omega) (by omega)) dX12_wordAt_87 ?_
                        refine lv_topi (fun z_59 ez_59 => ?_)
                        have kz_59 : ((0 : Int) ≤ (z_59).toInt ∧ (z_59).toInt ≤ (255 : Int)) := by rw [ez_59]; exact hI_a_te _
                        refine lv_icmp_ne (tgt := 95) hx hb dX12_wordAt_88 (by decide) (fun c_60 => ?_) (fun c_60 => ?_)
                        · have k_61 : (z_57).toInt ≠ (z_59).toInt := z_ne c_60
                          refine lv_iconst (v := 0) hx hb dX12_wordAt_95 (by decide) ?_
                          refine lv_istore (lv' := [(6, .int 0), (7, .int i_32), (5, .int n_16), (4, .int at_5), (3, .int k_4), (0, .ref h0), (1, .int p1), (2, .int p2)]) hx hb dX12_wordAt_96 hl (by decide) rfl (fun ls hl => ?_)
                          obtain ⟨z_62, ez_62⟩ : ∃ y : Int32, y = i_32 + 1 := ⟨_, rfl⟩
                          have kz_62 : (z_62).toInt = (i_32).toInt + (1 : Int) := by rw [ez_62]; exact z_add (b := 1) rfl rfl (z_al hF_34.1 (by decide)) (z_ah hF_34.2 (by decide))
                          refine lv_iinc (v := z_62) (lv' := [(7, .int z_62), (6, .int 0), (5, .int n_16), (4, .int at_5), (3, .int k_4), (0, .ref h0), (1, .int p1), (2, .int p2)]) hx hb dX12_wordAt_98 hl (k := 1) rfl (by rw [ez_62]; rfl) (by decide) rfl (fun ls hl => ?_)
                          refine lv_goto (tgt := 57) hx hb dX12_wordAt_101 (by decide) ?_
                          exact ih_30 0 z_62 _ _ _ (show (7 - (z_62).toInt).toNat < n_29 by omega) (show ((0 : Int) ≤ (0 : Int) ∧ (0 : Int) ≤ (1 : Int)) by omega) (show ((0 : Int) ≤ (z_62).toInt ∧ (z_62).toInt ≤ (6 : Int)) by omega) (show (0 : Int) = 0 ∨ (n_16).toInt = (p2).toInt - (p1).toInt by omega) hP hD hS (lv_sub hl [0, 1, 2, 3, 4, 5, 6, 7] rfl)
                        · have k_63 : (z_57).toInt = (z_59).toInt := z_eq c_60
                          refine lv_iconst (v := 1) hx hb dX12_wordAt_91 (by decide) ?_
                          refine lv_goto (tgt := 96) hx hb dX12_wordAt_92 (by decide) ?_
                          refine lv_istore (lv' := [(6, .int 1), (7, .int i_32), (5, .int n_16), (4, .int at_5), (3, .int k_4), (0, .ref h0), (1, .int p1), (2, .int p2)]) hx hb dX12_wordAt_96 hl (by decide) rfl (fun ls hl => ?_)
                          obtain ⟨z_64, ez_64⟩ : ∃ y : Int32, y = i_32 + 1 := ⟨_, rfl⟩
                          have kz_64 : (z_64).toInt = (i_32).toInt + (1 : Int) := by rw [ez_64]; exact z_add (b := 1) rfl rfl (z_al hF_34.1 (by decide)) (z_ah hF_34.2 (by decide))
                          refine lv_iinc (v := z_64) (lv' := [(7, .int z_64), (6, .int 1), (5, .int n_16), (4, .int at_5), (3, .int k_4), (0, .ref h0), (1, .int p1), (2, .int p2)]) hx hb dX12_wordAt_98 hl (k := 1) rfl (by rw [ez_64]; rfl) (by decide) rfl (fun ls hl => ?_)
                          refine lv_goto (tgt := 57) hx hb dX12_wordAt_101 (by decide) ?_
                          exact ih_30 1 z_64 _ _ _ (show (7 - (z_64).toInt).toNat < n_29 by omega) (show ((0 : Int) ≤ (1 : Int) ∧ (1 : Int) ≤ (1 : Int)) by omega) (show ((0 : Int) ≤ (z_64).toInt ∧ (z_64).toInt ≤ (6 : Int)) by omega) (show (1 : Int) = 0 ∨ (n_16).toInt = (p2).toInt - (p1).toInt by omega) hP hD hS (lv_sub hl [0, 1, 2, 3, 4, 5, 6, 7] rfl)
                exact loop_28 _ 0 0 _ _ _ (Nat.lt_succ_self _) (show ((0 : Int) ≤ (0 : Int) ∧ (0 : Int) ≤ (1 : Int)) by omega) (show ((0 : Int) ≤ (0 : Int) ∧ (0 : Int) ≤ (6 : Int)) by omega) (show (0 : Int) = 0 ∨ (n_16).toInt = (p2).toInt - (p1).toInt by omega) hP hD hS hl
              · have k_65 : (n_16).toInt = (z_25).toInt := z_eq c_26
                refine lv_iconst (v := 1) hx hb dX12_wordAt_47 (by decide) ?_
                refine lv_goto (tgt := 52) hx hb dX12_wordAt_48 (by decide) ?_
                refine lv_istore (lv' := [(6, .int 1), (5, .int n_16), (4, .int at_5), (3, .int k_4), (0, .ref h0), (1, .int p1), (2, .int p2)]) hx hb dX12_wordAt_52 hl (by decide) rfl (fun ls hl => ?_)
                refine lv_iconst (v := 0) hx hb dX12_wordAt_54 (by decide) ?_
                refine lv_istore (lv' := [(7, .int 0), (6, .int 1), (5, .int n_16), (4, .int at_5), (3, .int k_4), (0, .ref h0), (1, .int p1), (2, .int p2)]) hx hb dX12_wordAt_55 hl (by decide) rfl (fun ls hl => ?_)
                have loop_66 : ∀ (n_67 : Nat) (sm_69 : Int32) (i_70 : Int32) (H : Heap) (locs : List Loc) (ls : Array Slot), (7 - (i_70).toInt).toNat < n_67 → (((0 : Int) ≤ (sm_69).toInt ∧ (sm_69).toInt ≤ (1 : Int))) → (((0 : Int) ≤ (i_70).toInt ∧ (i_70).toInt ≤ (6 : Int))) → ((sm_69).toInt = 0 ∨ (n_16).toInt = (p2).toInt - (p1).toInt) → va_P (dC, dI) vwCl [(h0, .inr (12, [.ref a_te, h0_1, h0_2, h0_3, h0_4, h0_5, h0_6, h0_7, h0_8, h0_9, h0_10, h0_11, h0_12, h0_13, h0_14, h0_15, h0_16, h0_17, h0_18, h0_19, h0_20, h0_21, h0_22, h0_23, h0_24, h0_25, h0_26, .ref a_wd, .int mf, .int mfp, .int mst, .int mnx, .int mkd, .int mwh, .int mpl, h0_35, h0_36, h0_37, h0_38, h0_39, h0_40, h0_41, h0_42, h0_43, h0_44, h0_45, h0_46, h0_47, h0_48, h0_49, h0_50, h0_51, h0_52, h0_53, h0_54, h0_55, h0_56, h0_57, h0_58, h0_59, h0_60, h0_61, h0_62, h0_63, h0_64, h0_65, h0_66, h0_67, h0_68, h0_69])), (a_te, .inl (ca_te, 700, .inl fa_te)), (a_wd, .inl (ca_wd, 115, .inl fa_wd))] H → va_D (fun _ => True) [(h0, .inr (12, [.ref a_te, h0_1, h0_2, h0_3, h0_4, h0_5, h0_6, h0_7, h0_8, h0_9, h0_10, h0_11, h0_12, h0_13, h0_14, h0_15, h0_16, h0_17, h0_18, h0_19, h0_20, h0_21, h0_22, h0_23, h0_24, h0_25, h0_26, .ref a_wd, .int mf, .int mfp, .int mst, .int mnx, .int mkd, .int mwh, .int mpl, h0_35, h0_36, h0_37, h0_38, h0_39, h0_40, h0_41, h0_42, h0_43, h0_44, h0_45, h0_46, h0_47, h0_48, h0_49, h0_50, h0_51, h0_52, h0_53, h0_54, h0_55, h0_56, h0_57, h0_58, h0_59, h0_60, h0_61, h0_62, h0_63, h0_64, h0_65, h0_66, h0_67, h0_68, h0_69])), (a_te, .inl (ca_te, 700, .inl fa_te)), (a_wd, .inl (ca_wd, 115, .inl fa_wd))] → va_S A s.heap H locs → lv_has ls 8 [(7, .int i_70), (6, .int sm_69), (5, .int n_16), (4, .int at_5), (3, .int k_4), (0, .ref h0), (1, .int p1), (2, .int p2)] → W p l e ({ frames := 0, cells := 0, slots := 0, locals := 0 } : Room) s m ([.ref h0, .int p1, .int p2] : List Value).toArray below meth c H locs 0 0 QQ (F0 m 57 ls []) := by
                  intro n_67
                  induction n_67 with
                  | zero => intro sm_69 i_70 H locs ls hm; exact absurd hm (Nat.not_lt_zero _)
                  | succ n_67 ih_68 =>
                    intro sm_69 i_70 H locs ls hm hF_71 hF_72 hF_73 hP hD hS hl
                    refine lv_iload hx hb dX12_wordAt_57 (lv_at hl 0 rfl) ?_
                    refine lv_iload hx hb dX12_wordAt_59 (lv_at hl 2 rfl) ?_
                    refine lv_icmp_ge (tgt := 104) hx hb dX12_wordAt_61 (by decide) (fun c_74 => ?_) (fun c_74 => ?_)
                    · have k_75 : (n_16).toInt ≤ (i_70).toInt := z_le c_74
                      refine lv_iload hx hb dX12_wordAt_104 (lv_at hl 1 rfl) ?_
                      refine lv_if_eq (tgt := 111) hx hb dX12_wordAt_106 (by decide) (fun c_76 => ?_) (fun c_76 => ?_)
                      · have k_77 : (sm_69).toInt = (0 : Int) := z_eq c_76
                        obtain rfl : sm_69 = 0 := z_eq' (show (sm_69).toInt = (0 : Int) by omega)
                        refine lv_iload hx hb dX12_wordAt_111 (lv_at hl 3 rfl) ?_
                        refine lv_iload hx hb dX12_wordAt_113 (lv_at hl 2 rfl) ?_
                        refine lv_iconst (v := 1) hx hb dX12_wordAt_115 (by decide) ?_
                        refine lv_iadd hx hb dX12_wordAt_116 ?_
                        refine lv_topi (fun z_79 ez_79 => ?_)
                        have kz_79 : (z_79).toInt = (n_16).toInt + (1 : Int) := by rw [ez_79]; exact z_add (a := (n_16).toInt) (b := (1 : Int)) rfl rfl (z_al hF_17.1 (by decide)) (z_ah hF_17.2 (by decide))
                        refine lv_iadd hx hb dX12_wordAt_117 ?_
                        refine lv_topi (fun z_80 ez_80 => ?_)
                        have kz_80 : (z_80).toInt = (at_5).toInt + (z_79).toInt := by rw [ez_80]; exact z_add (a := (at_5).toInt) (b := (z_79).toInt) rfl rfl (by omega) (by omega)
                        refine lv_istore (lv' := [(4, .int z_80), (7, .int i_70), (6, .int 0), (5, .int n_16), (3, .int k_4), (0, .ref h0), (1, .int p1), (2, .int p2)]) hx hb dX12_wordAt_118 hl (by decide) rfl (fun ls hl => ?_)
                        obtain ⟨z_81, ez_81⟩ : ∃ y : Int32, y = k_4 + 1 := ⟨_, rfl⟩
                        have kz_81 : (z_81).toInt = (k_4).toInt + (1 : Int) := by rw [ez_81]; exact z_add (b := 1) rfl rfl (z_al hF_6.1 (by decide)) (z_ah hF_6.2 (by decide))
                        refine lv_iinc (v := z_81) (lv' := [(3, .int z_81), (4, .int z_80), (7, .int i_70), (6, .int 0), (5, .int n_16), (0, .ref h0), (1, .int p1), (2, .int p2)]) hx hb dX12_wordAt_120 hl (k := 4) rfl (by rw [ez_81]; rfl) (by decide) rfl (fun ls hl => ?_)
                        refine lv_goto (tgt := 5) hx hb dX12_wordAt_123 (by decide) ?_
                        exact ih_3 z_81 z_80 _ _ _ (show (116 - (z_80).toInt).toNat < n_2 by omega) (show ((0 : Int) ≤ (z_81).toInt ∧ (z_81).toInt ≤ (115 : Int)) by omega) (show ((0 : Int) ≤ (z_80).toInt ∧ (z_80).toInt ≤ (115 : Int)) by omega) (show (z_81).toInt ≤ (z_80).toInt by omega) hP hD hS (lv_sub hl [1, 0, 5, 6, 7] rfl)
                      · have k_82 : (sm_69).toInt ≠ (0 : Int) := z_ne c_76
                        obtain rfl : sm_69 = 1 := z_eq' (show (sm_69).toInt = (1 : Int) by omega)
                        refine lv_iload_n hx hb dX12_wordAt_109 rfl (lv_at hl 4 rfl) ?_
                        refine z_backQ hQQ ?_
                        refine W.widen (k := 0) (n := 0) (Nat.le_of_ble_eq_true rfl) (Nat.le_of_ble_eq_true rfl) ?_
                        exact W.iret (v := k_4) hx hb hr (fun t ht hW => ⟨⟨k_4, (), rfl, (show ((k_4).toInt = (-1 : Int)) ∨ ((0 : Int) ≤ (k_4).toInt ∧ p2.toInt - p1.toInt ≤ (6 : Int)) by omega), trivial⟩, hS.F ht⟩) hS.2.2 dX12_wordAt_110
                    · have k_84 : (n_16).toInt > (i_70).toInt := z_nle c_74
                      refine lv_iload hx hb dX12_wordAt_64 (lv_at hl 1 rfl) ?_
                      refine lv_if_eq (tgt := 104) hx hb dX12_wordAt_66 (by decide) (fun c_85 => ?_) (fun c_85 => ?_)
                      · have k_86 : (sm_69).toInt = (0 : Int) := z_eq c_85
                        obtain rfl : sm_69 = 0 := z_eq' (show (sm_69).toInt = (0 : Int) by omega)
                        refine lv_iload hx hb dX12_wordAt_104 (lv_at hl 1 rfl) ?_
                        refine lv_if_eq (tgt := 111) hx hb dX12_wordAt_106 (by decide) (fun _ => ?_) (fun c_88 => absurd (by decide) c_88)
                        refine lv_iload hx hb dX12_wordAt_111 (lv_at hl 3 rfl) ?_
                        refine lv_iload hx hb dX12_wordAt_113 (lv_at hl 2 rfl) ?_
                        refine lv_iconst (v := 1) hx hb dX12_wordAt_115 (by decide) ?_
                        refine lv_iadd hx hb dX12_wordAt_116 ?_
                        refine lv_topi (fun z_89 ez_89 => ?_)
                        have kz_89 : (z_89).toInt = (n_16).toInt + (1 : Int) := by rw [ez_89]; exact z_add (a := (n_16).toInt) (b := (1 : Int)) rfl rfl (z_al hF_17.1 (by decide)) (z_ah hF_17.2 (by decide))
                        refine lv_iadd hx hb dX12_wordAt_117 ?_
                        refine lv_topi (fun z_90 ez_90 => ?_)
                        have kz_90 : (z_90).toInt = (at_5).toInt + (z_89).toInt := by rw [ez_90]; exact z_add (a := (at_5).toInt) (b := (z_89).toInt) rfl rfl (by omega) (by omega)
                        refine lv_istore (lv' := [(4, .int z_90), (7, .int i_70), (6, .int 0), (5, .int n_16), (3, .int k_4), (0, .ref h0), (1, .int p1), (2, .int p2)]) hx hb dX12_wordAt_118 hl (by decide) rfl (fun ls hl => ?_)
                        obtain ⟨z_91, ez_91⟩ : ∃ y : Int32, y = k_4 + 1 := ⟨_, rfl⟩
                        have kz_91 : (z_91).toInt = (k_4).toInt + (1 : Int) := by rw [ez_91]; exact z_add (b := 1) rfl rfl (z_al hF_6.1 (by decide)) (z_ah hF_6.2 (by decide))
                        refine lv_iinc (v := z_91) (lv' := [(3, .int z_91), (4, .int z_90), (7, .int i_70), (6, .int 0), (5, .int n_16), (0, .ref h0), (1, .int p1), (2, .int p2)]) hx hb dX12_wordAt_120 hl (k := 4) rfl (by rw [ez_91]; rfl) (by decide) rfl (fun ls hl => ?_)
                        refine lv_goto (tgt := 5) hx hb dX12_wordAt_123 (by decide) ?_
                        exact ih_3 z_91 z_90 _ _ _ (show (116 - (z_90).toInt).toNat < n_2 by omega) (show ((0 : Int) ≤ (z_91).toInt ∧ (z_91).toInt ≤ (115 : Int)) by omega) (show ((0 : Int) ≤ (z_90).toInt ∧ (z_90).toInt ≤ (115 : Int)) by omega) (show (z_91).toInt ≤ (z_90).toInt by omega) hP hD hS (lv_sub hl [1, 0, 5, 6, 7] rfl)
                      · have k_92 : (sm_69).toInt ≠ (0 : Int) := z_ne c_85
                        obtain rfl : sm_69 = 1 := z_eq' (show (sm_69).toInt = (1 : Int) by omega)
                        refine lv_aload_n hx hb dX12_wordAt_69 rfl (lv_at hl 5 rfl) ?_
                        refine va_get (D := (dC, dI)) (ci := 12) (v := .ref a_wd) (C := RX12) (T := TX12) (N := 70) hx hb hts hiX12 hown hK hP 0 rfl rfl 27 (by decide) w__fieldLink_RX12_72_ShellHeapModel_words_I_ (fun _ h9 => h9) rfl dX12_wordAt_70 ?_
                        refine lv_iload hx hb dX12_wordAt_73 (lv_at hl 3 rfl) ?_
                        refine lv_iload hx hb dX12_wordAt_75 (lv_at hl 0 rfl) ?_
                        refine lv_iadd hx hb dX12_wordAt_77 ?_
                        refine lv_topi (fun z_94 ez_94 => ?_)
                        have kz_94 : (z_94).toInt = (at_5).toInt + (i_70).toInt := by rw [ez_94]; exact z_add (a := (at_5).toInt) (b := (i_70).toInt) rfl rfl (by omega) (by omega)
                        refine va_iald hx hb hK hP 2 1 rfl rfl (z_vpin (by omega) (by omega)) dX12_wordAt_78 ?_
                        refine lv_topi (fun z_95 ez_95 => ?_)
                        refine lv_aload_n hx hb dX12_wordAt_79 rfl (lv_at hl 5 rfl) ?_
                        refine va_get (D := (dC, dI)) (ci := 12) (v := .ref a_te) (C := RX12) (T := TX12) (N := 70) hx hb hts hiX12 hown hK hP 0 rfl rfl 0 (by decide) w__fieldLink_RX12_7_ShellHeapModel_tape_I_ (fun _ h9 => h9) rfl dX12_wordAt_80 ?_
                        refine lv_iload_n hx hb dX12_wordAt_83 rfl (lv_at hl 6 rfl) ?_
                        refine lv_iload hx hb dX12_wordAt_84 (lv_at hl 0 rfl) ?_
                        refine lv_iadd hx hb dX12_wordAt_86 ?_
                        refine lv_topi (fun z_96 ez_96 => ?_)
                        have kz_96 : (z_96).toInt = (p1).toInt + (i_70).toInt := by rw [ez_96]; exact z_add (a := (p1).toInt) (b := (i_70).toInt) rfl rfl (by omega) (by omega)
                        refine va_iald hx hb hK hP 1 0 rfl rfl (z_vpin (by omega) (by omega)) dX12_wordAt_87 ?_
                        refine lv_topi (fun z_97 ez_97 => ?_)
                        have kz_97 : ((0 : Int) ≤ (z_97).toInt ∧ (z_97).toInt ≤ (255 : Int)) := by rw [ez_97]; exact hI_a_te _
                        refine lv_icmp_ne (tgt := 95) hx hb dX12_wordAt_88 (by decide) (fun c_98 => ?_) (fun c_98 => ?_)
                        · have k_99 : (z_95).toInt ≠ (z_97).toInt := z_ne c_98
                          refine lv_iconst (v := 0) hx hb dX12_wordAt_95 (by decide) ?_
                          refine lv_istore (lv' := [(6, .int 0), (7, .int i_70), (5, .int n_16), (4, .int at_5), (3, .int k_4), (0, .ref h0), (1, .int p1), (2, .int p2)]) hx hb dX12_wordAt_96 hl (by decide) rfl (fun ls hl => ?_)
                          obtain ⟨z_100, ez_100⟩ : ∃ y : Int32, y = i_70 + 1 := ⟨_, rfl⟩
                          have kz_100 : (z_100).toInt = (i_70).toInt + (1 : Int) := by rw [ez_100]; exact z_add (b := 1) rfl rfl (z_al hF_72.1 (by decide)) (z_ah hF_72.2 (by decide))
                          refine lv_iinc (v := z_100) (lv' := [(7, .int z_100), (6, .int 0), (5, .int n_16), (4, .int at_5), (3, .int k_4), (0, .ref h0), (1, .int p1), (2, .int p2)]) hx hb dX12_wordAt_98 hl (k := 1) rfl (by rw [ez_100]; rfl) (by decide) rfl (fun ls hl => ?_)
                          refine lv_goto (tgt := 57) hx hb dX12_wordAt_101 (by decide) ?_
                          exact ih_68 0 z_100 _ _ _ (show (7 - (z_100).toInt).toNat < n_67 by omega) (show ((0 : Int) ≤ (0 : Int) ∧ (0 : Int) ≤ (1 : Int)) by omega) (show ((0 : Int) ≤ (z_100).toInt ∧ (z_100).toInt ≤ (6 : Int)) by omega) (show (0 : Int) = 0 ∨ (n_16).toInt = (p2).toInt - (p1).toInt by omega) hP hD hS (lv_sub hl [0, 1, 2, 3, 4, 5, 6, 7] rfl)
                        · have k_101 : (z_95).toInt = (z_97).toInt := z_eq c_98
                          refine lv_iconst (v := 1) hx hb dX12_wordAt_91 (by decide) ?_
                          refine lv_goto (tgt := 96) hx hb dX12_wordAt_92 (by decide) ?_
                          refine lv_istore (lv' := [(6, .int 1), (7, .int i_70), (5, .int n_16), (4, .int at_5), (3, .int k_4), (0, .ref h0), (1, .int p1), (2, .int p2)]) hx hb dX12_wordAt_96 hl (by decide) rfl (fun ls hl => ?_)
                          obtain ⟨z_102, ez_102⟩ : ∃ y : Int32, y = i_70 + 1 := ⟨_, rfl⟩
                          have kz_102 : (z_102).toInt = (i_70).toInt + (1 : Int) := by rw [ez_102]; exact z_add (b := 1) rfl rfl (z_al hF_72.1 (by decide)) (z_ah hF_72.2 (by decide))
                          refine lv_iinc (v := z_102) (lv' := [(7, .int z_102), (6, .int 1), (5, .int n_16), (4, .int at_5), (3, .int k_4), (0, .ref h0), (1, .int p1), (2, .int p2)]) hx hb dX12_wordAt_98 hl (k := 1) rfl (by rw [ez_102]; rfl) (by decide) rfl (fun ls hl => ?_)
                          refine lv_goto (tgt := 57) hx hb dX12_wordAt_101 (by decide) ?_
                          exact ih_68 1 z_102 _ _ _ (show (7 - (z_102).toInt).toNat < n_67 by omega) (show ((0 : Int) ≤ (1 : Int) ∧ (1 : Int) ≤ (1 : Int)) by omega) (show ((0 : Int) ≤ (z_102).toInt ∧ (z_102).toInt ≤ (6 : Int)) by omega) (show (1 : Int) = 0 ∨ (n_16).toInt = (p2).toInt - (p1).toInt by omega) hP hD hS (lv_sub hl [0, 1, 2, 3, 4, 5, 6, 7] rfl)
                exact loop_66 _ 1 0 _ _ _ (Nat.lt_succ_self _) (show ((0 : Int) ≤ (1 : Int) ∧ (1 : Int) ≤ (1 : Int)) by omega) (show ((0 : Int) ≤ (0 : Int) ∧ (0 : Int) ≤ (6 : Int)) by omega) (show (1 : Int) = 0 ∨ (n_16).toInt = (p2).toInt - (p1).toInt by omega) hP hD hS hl
            · have k_103 : (z_21).toInt ≠ (32 : Int) := z_ne c_22
              have hdd_104 := z_dd_s hWD ez_21 (by omega) (by omega) (by omega) (A := (at_5).toInt) (n := (n_16).toInt) (by omega) hF_18
              obtain ⟨z_105, ez_105⟩ : ∃ y : Int32, y = n_16 + 1 := ⟨_, rfl⟩
              have kz_105 : (z_105).toInt = (n_16).toInt + (1 : Int) := by rw [ez_105]; exact z_add (b := 1) rfl rfl (z_al hF_17.1 (by decide)) (z_ah hF_17.2 (by decide))
              refine lv_iinc (v := z_105) (lv' := [(5, .int z_105), (4, .int at_5), (3, .int k_4), (0, .ref h0), (1, .int p1), (2, .int p2)]) hx hb dX12_wordAt_33 hl (k := 0) rfl (by rw [ez_105]; rfl) (by decide) rfl (fun ls hl => ?_)
              refine lv_goto (tgt := 18) hx hb dX12_wordAt_36 (by decide) ?_
              exact ih_15 z_105 _ _ _ (show (7 - (z_105).toInt).toNat < n_14 by omega) (show ((0 : Int) ≤ (z_105).toInt ∧ (z_105).toInt ≤ (6 : Int)) by omega) (show (z_105).toInt + ((dd ((at_5).toInt + (z_105).toInt).toNat : Nat) : Int) ≤ 6 from by rw [show (z_105).toInt = (n_16).toInt + 1 by omega]; exact hdd_104.2.2) (show (at_5).toInt + (z_105).toInt < 115 by omega) hP hD hS (lv_sub hl [0, 1, 2, 3, 4, 5] rfl)
        exact loop_13 _ 0 _ _ _ (Nat.lt_succ_self _) (show ((0 : Int) ≤ (0 : Int) ∧ (0 : Int) ≤ (6 : Int)) by omega) (show (0 : Int) + ((dd ((at_5).toInt + (0 : Int)).toNat : Nat) : Int) ≤ 6 from by have h9 := hd6 ((at_5).toInt + 0).toNat; omega) (show (at_5).toInt + (0 : Int) < 115 by omega) hP hD hS hl
  exact loop_1 _ 0 0 _ _ _ (Nat.lt_succ_self _) (show ((0 : Int) ≤ (0 : Int) ∧ (0 : Int) ≤ (115 : Int)) by omega) (show ((0 : Int) ≤ (0 : Int) ∧ (0 : Int) ≤ (115 : Int)) by omega) (show (0 : Int) ≤ (0 : Int) by omega) hP hD hS hl
