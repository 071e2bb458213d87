def u_s_X12_wordAt3 : List Cond := .code yX12_wordAt cX12_wordAt 8 (some .int) :: ([.fieldLink RX12 72 "ShellHeapModel" "words" "[I", .fieldLink RX12 7 "ShellHeapModel" "tape" "[I"] ++ (wsX120 ++ []))
theorem gd_s_X12_wordAt3 : z_gd u_s_X12_wordAt3 := z_gdc (by decide +kernel) (z_gda gdX12 (z_gd0))
set_option maxHeartbeats 4000000 in
set_option maxRecDepth 100000 in
theorem s_X12_wordAt3 (l : Launch) (dC : Nat → ClassId) (dI : Nat → Nat → Nat) (sz : Nat) (h0 : Nat) (p1 : Int32) (p2 : Int32) (a_te : Nat) (h0_1 : Value) (h0_2 : Value) (h0_3 : Value) (h0_4 : Value) (h0_5 : Value) (h0_6 : Value) (h0_7 : Value) (h0_8 : Value) (h0_9 : Value) (h0_10 : Value) (h0_11 : Value) (h0_12 : Value) (h0_13 : Value) (h0_14 : Value) (h0_15 : Value) (h0_16 : Value) (h0_17 : Value) (h0_18 : Value) (h0_19 : Value) (h0_20 : Value) (h0_21 : Value) (h0_22 : Value) (h0_23 : Value) (h0_24 : Value) (h0_25 : Value) (h0_26 : Value) (a_wd : Nat) (mf : Int32) (mfp : Int32) (mst : Int32) (mnx : Int32) (mkd : Int32) (mwh : Int32) (mpl : Int32) (h0_35 : Value) (h0_36 : Value) (h0_37 : Value) (h0_38 : Value) (h0_39 : Value) (h0_40 : Value) (h0_41 : Value) (h0_42 : Value) (h0_43 : Value) (h0_44 : Value) (h0_45 : Value) (h0_46 : Value) (h0_47 : Value) (h0_48 : Value) (h0_49 : Value) (h0_50 : Value) (h0_51 : Value) (h0_52 : Value) (h0_53 : Value) (h0_54 : Value) (h0_55 : Value) (h0_56 : Value) (h0_57 : Value) (h0_58 : Value) (h0_59 : Value) (h0_60 : Value) (h0_61 : Value) (h0_62 : Value) (h0_63 : Value) (h0_64 : Value) (h0_65 : Value) (h0_66 : Value) (h0_67 : Value) (h0_68 : Value) (h0_69 : Value) (ca_te : ClassId) (fa_te : Nat → Int32) (ca_wd : ClassId) (fa_wd : Nat → Int32) (hB_p1 : ((0 : Int) ≤ (p1).toInt ∧ (p1).toInt ≤ (700 : Int))) (hB_p2 : ((0 : Int) ≤ (p2).toInt ∧ (p2).toInt ≤ (700 : Int))) (hI_a_te : ∀ j : Nat, ((0 : Int) ≤ (fa_te j).toInt ∧ (fa_te j).toInt ≤ (255 : Int))) (hWX : ∀ j : Nat, j < 115 → fa_wd j = z_words j) (hpp : p1.toInt ≤ p2.toInt) : Met l yX12_wordAt u_s_X12_wordAt3 ({ frames := 0, cells := 0, slots := 0, locals := 0 }) (va_Pc [.ref h0, .int p1, .int p2] (z_C (dC, dI) vwCl [(h0, .inr (12, [.ref a_te, h0_1, h0_2, h0_3, h0_4, h0_5, h0_6, h0_7, h0_8, h0_9, h0_10, h0_11, h0_12, h0_13, h0_14, h0_15, h0_16, h0_17, h0_18, h0_19, h0_20, h0_21, h0_22, h0_23, h0_24, h0_25, h0_26, .ref a_wd, .int mf, .int mfp, .int mst, .int mnx, .int mkd, .int mwh, .int mpl, h0_35, h0_36, h0_37, h0_38, h0_39, h0_40, h0_41, h0_42, h0_43, h0_44, h0_45, h0_46, h0_47, h0_48, h0_49, h0_50, h0_51, h0_52, h0_53, h0_54, h0_55, h0_56, h0_57, h0_58, h0_59, h0_60, h0_61, h0_62, h0_63, h0_64, h0_65, h0_66, h0_67, h0_68, h0_69])), (a_te, .inl (ca_te, 700, .inl fa_te)), (a_wd, .inl (ca_wd, 115, .inl fa_wd))] [(ca_te, .int), (ca_wd, .int)] sz)) (va_Qi (fun (r : Int32) (_ : Unit) => ((r.toInt = (-1 : Int)) ∨ ((0 : Int) ≤ r.toInt ∧ p2.toInt - p1.toInt ≤ (6 : Int))) ∧ f_wA fa_te p1.toInt p2.toInt r.toInt) (fun (_ : Unit) (_ : State) => True) (va_A [] sz)) 0 0 (va_A [] sz) := by
  refine Met.ofW (cc := cX12_wordAt) (maxL := 8) (ret := (some .int)) (by decide) rfl ?_
  intro p e s m args below meth c s₁ B hml hv
  obtain ⟨rfl, hsz, hP, hK, hD0⟩ := hv
  have hx := B.exec
  have hb := B.bytes
  have hr := B.returns
  have hts := atoms_spec (ws := u_s_X12_wordAt3) B.pre
  have hown : s.vm.findClass RX12 = some m.cls := findClass_of_methodNamed B.named
  have hlocks := B.notSynchronized
  subst hsz
  have hD := hD0
  generalize hAe : va_A [] s.heap.size = A
  have hA : ∀ q : Nat, s.heap.size ≤ q → A q := fun q h => by rw [← hAe]; exact Or.inr h
  have hS : va_S A s.heap s.heap [] := va_S.rf
  have hP : va_P (dC, dI) vwCl [(h0, .inr (12, [.ref a_te, h0_1, h0_2, h0_3, h0_4, h0_5, h0_6, h0_7, h0_8, h0_9, h0_10, h0_11, h0_12, h0_13, h0_14, h0_15, h0_16, h0_17, h0_18, h0_19, h0_20, h0_21, h0_22, h0_23, h0_24, h0_25, h0_26, .ref a_wd, .int mf, .int mfp, .int mst, .int mnx, .int mkd, .int mwh, .int mpl, h0_35, h0_36, h0_37, h0_38, h0_39, h0_40, h0_41, h0_42, h0_43, h0_44, h0_45, h0_46, h0_47, h0_48, h0_49, h0_50, h0_51, h0_52, h0_53, h0_54, h0_55, h0_56, h0_57, h0_58, h0_59, h0_60, h0_61, h0_62, h0_63, h0_64, h0_65, h0_66, h0_67, h0_68, h0_69])), (a_te, .inl (ca_te, 700, .inl fa_te)), (a_wd, .inl (ca_wd, 115, .inl fa_wd))] s.heap := hP
  have w__fieldLink_RX12_72_ShellHeapModel_words_I_ := hts (.fieldLink RX12 72 "ShellHeapModel" "words" "[I") (z_mc (z_ml z_m0))
  have hiX12 := show ∀ w ∈ u_ws RX12 TX12 70, w ∈ u_s_X12_wordAt3 from fun w h => z_mc (z_mr (z_ml h))
  have w__fieldLink_RX12_7_ShellHeapModel_tape_I_ := hts (.fieldLink RX12 7 "ShellHeapModel" "tape" "[I") (z_mc (z_ml z_m1))
  have hl := lv_entry ([.ref h0, .int p1, .int p2]) (n := 8) (Nat.le_of_ble_eq_true rfl)
  rw [lg_entry_eq]
  generalize (lg_sl ([.ref h0, .int p1, .int p2]) ++ List.replicate (8 - (lg_sl ([.ref h0, .int p1, .int p2])).length) Slot.unset).toArray = ls at hl ⊢
  have hl : lv_has ls 8 [(0, .ref h0), (1, .int p1), (2, .int p2)] := hl
  refine z_nameQ (fun QQ hQQ => ?_)
  refine lv_iconst (v := 0) hx hb dX12_wordAt_0 (by decide) ?_
  refine lv_istore_n (lv' := [(3, .int 0), (0, .ref h0), (1, .int p1), (2, .int p2)]) hx hb dX12_wordAt_1 rfl hl (by decide) rfl (fun ls hl => ?_)
  refine lv_iconst (v := 0) hx hb dX12_wordAt_2 (by decide) ?_
  refine lv_istore (lv' := [(4, .int 0), (3, .int 0), (0, .ref h0), (1, .int p1), (2, .int p2)]) hx hb dX12_wordAt_3 hl (by decide) rfl (fun ls hl => ?_)
  have loop_1 : ∀ (n_2 : Nat) (k_4 : Int32) (at_5 : Int32) (H : Heap) (locs : List Loc) (ls : Array Slot), (116 - (at_5).toInt).toNat < n_2 → (((0 : Int) ≤ (k_4).toInt ∧ (k_4).toInt ≤ (115 : Int))) → (((0 : Int) ≤ (at_5).toInt ∧ (at_5).toInt ≤ (115 : Int))) → (f_wO fa_te (p1).toInt (p2).toInt (k_4).toInt (at_5).toInt) → ((k_4).toInt ≤ (at_5).toInt) → va_P (dC, dI) vwCl [(h0, .inr (12, [.ref a_te, h0_1, h0_2, h0_3, h0_4, h0_5, h0_6, h0_7, h0_8, h0_9, h0_10, h0_11, h0_12, h0_13, h0_14, h0_15, h0_16, h0_17, h0_18, h0_19, h0_20, h0_21, h0_22, h0_23, h0_24, h0_25, h0_26, .ref a_wd, .int mf, .int mfp, .int mst, .int mnx, .int mkd, .int mwh, .int mpl, h0_35, h0_36, h0_37, h0_38, h0_39, h0_40, h0_41, h0_42, h0_43, h0_44, h0_45, h0_46, h0_47, h0_48, h0_49, h0_50, h0_51, h0_52, h0_53, h0_54, h0_55, h0_56, h0_57, h0_58, h0_59, h0_60, h0_61, h0_62, h0_63, h0_64, h0_65, h0_66, h0_67, h0_68, h0_69])), (a_te, .inl (ca_te, 700, .inl fa_te)), (a_wd, .inl (ca_wd, 115, .inl fa_wd))] H → va_D (fun _ => True) [(h0, .inr (12, [.ref a_te, h0_1, h0_2, h0_3, h0_4, h0_5, h0_6, h0_7, h0_8, h0_9, h0_10, h0_11, h0_12, h0_13, h0_14, h0_15, h0_16, h0_17, h0_18, h0_19, h0_20, h0_21, h0_22, h0_23, h0_24, h0_25, h0_26, .ref a_wd, .int mf, .int mfp, .int mst, .int mnx, .int mkd, .int mwh, .int mpl, h0_35, h0_36, h0_37, h0_38, h0_39, h0_40, h0_41, h0_42, h0_43, h0_44, h0_45, h0_46, h0_47, h0_48, h0_49, h0_50, h0_51, h0_52, h0_53, h0_54, h0_55, h0_56, h0_57, h0_58, h0_59, h0_60, h0_61, h0_62, h0_63, h0_64, h0_65, h0_66, h0_67, h0_68, h0_69])), (a_te, .inl (ca_te, 700, .inl fa_te)), (a_wd, .inl (ca_wd, 115, .inl fa_wd))] → va_S A s.heap H locs → lv_has ls 8 [(4, .int at_5), (3, .int k_4), (0, .ref h0), (1, .int p1), (2, .int p2)] → W p l e ({ frames := 0, cells := 0, slots := 0, locals := 0 } : Room) s m ([.ref h0, .int p1, .int p2] : List Value).toArray below meth c H locs 0 0 QQ (F0 m 5 ls []) := by
    intro n_2
    induction n_2 with
    | zero => intro k_4 at_5 H locs ls hm; exact absurd hm (Nat.not_lt_zero _)
    | succ n_2 ih_3 =>
      intro k_4 at_5 H locs ls hm hF_6 hF_7 hF_8 hF_9 hP hD hS hl
      refine lv_iload hx hb dX12_wordAt_5 (lv_at hl 0 rfl) ?_
      refine lv_aload_n hx hb dX12_wordAt_7 rfl (lv_at hl 2 rfl) ?_
      refine va_get (D := (dC, dI)) (ci := 12) (v := .ref a_wd) (C := RX12) (T := TX12) (N := 70) hx hb hts hiX12 hown hK hP 0 rfl rfl 27 (by decide) w__fieldLink_RX12_72_ShellHeapModel_words_I_ (fun _ h9 => h9) rfl dX12_wordAt_8 ?_
      refine va_alen (v := 115) hx hb hK hP 2 1 rfl rfl (show Int32.ofNat 115 = 115 by decide) dX12_wordAt_11 ?_
      refine lv_icmp_ge (tgt := 126) hx hb dX12_wordAt_12 (by decide) (fun c_10 => ?_) (fun c_10 => ?_)
      · have k_11 : (115 : Int) ≤ (at_5).toInt := z_le c_10
        obtain rfl : at_5 = 115 := z_eq' (show (at_5).toInt = (115 : Int) by omega)
        refine lv_iconst (v := (-1)) hx hb dX12_wordAt_126 (by decide) ?_
        refine z_backQ hQQ ?_
        refine W.widen (k := 0) (n := 0) (Nat.le_of_ble_eq_true rfl) (Nat.le_of_ble_eq_true rfl) ?_
        exact W.iret (v := (-1)) hx hb hr (fun t ht hW => ⟨⟨(-1), (), rfl, (show (((-1 : Int) = (-1 : Int)) ∨ ((0 : Int) ≤ (-1 : Int) ∧ p2.toInt - p1.toInt ≤ (6 : Int))) ∧ f_wA fa_te p1.toInt p2.toInt (-1 : Int) from ⟨by first | omega | decide, f_wO_end hF_8 (by omega)⟩), trivial⟩, hS.F ht⟩) hS.2.2 dX12_wordAt_127
      · have k_13 : (115 : Int) > (at_5).toInt := z_nle c_10
        have hk_14 := (f_wO_lt hF_8 (by omega)).1
        refine lv_iconst (v := 0) hx hb dX12_wordAt_15 (by decide) ?_
        refine lv_istore (lv' := [(5, .int 0), (4, .int at_5), (3, .int k_4), (0, .ref h0), (1, .int p1), (2, .int p2)]) hx hb dX12_wordAt_16 hl (by decide) rfl (fun ls hl => ?_)
        have loop_15 : ∀ (n_16 : Nat) (n_18 : Int32) (H : Heap) (locs : List Loc) (ls : Array Slot), (7 - (n_18).toInt).toNat < n_16 → (((0 : Int) ≤ (n_18).toInt ∧ (n_18).toInt ≤ (6 : Int))) → (f_wN (k_4).toInt (n_18).toInt) → va_P (dC, dI) vwCl [(h0, .inr (12, [.ref a_te, h0_1, h0_2, h0_3, h0_4, h0_5, h0_6, h0_7, h0_8, h0_9, h0_10, h0_11, h0_12, h0_13, h0_14, h0_15, h0_16, h0_17, h0_18, h0_19, h0_20, h0_21, h0_22, h0_23, h0_24, h0_25, h0_26, .ref a_wd, .int mf, .int mfp, .int mst, .int mnx, .int mkd, .int mwh, .int mpl, h0_35, h0_36, h0_37, h0_38, h0_39, h0_40, h0_41, h0_42, h0_43, h0_44, h0_45, h0_46, h0_47, h0_48, h0_49, h0_50, h0_51, h0_52, h0_53, h0_54, h0_55, h0_56, h0_57, h0_58, h0_59, h0_60, h0_61, h0_62, h0_63, h0_64, h0_65, h0_66, h0_67, h0_68, h0_69])), (a_te, .inl (ca_te, 700, .inl fa_te)), (a_wd, .inl (ca_wd, 115, .inl fa_wd))] H → va_D (fun _ => True) [(h0, .inr (12, [.ref a_te, h0_1, h0_2, h0_3, h0_4, h0_5, h0_6, h0_7, h0_8, h0_9, h0_10, h0_11, h0_12, h0_13, h0_14, h0_15, h0_16, h0_17, h0_18, h0_19, h0_20, h0_21, h0_22, h0_23, h0_24, h0_25, h0_26, .ref a_wd, .int mf, .int mfp, .int mst, .int mnx, .int mkd, .int mwh, .int mpl, h0_35, h0_36, h0_37, h0_38, h0_39, h0_40, h0_41, h0_42, h0_43, h0_44, h0_45, h0_46, h0_47, h0_48, h0_49, h0_50, h0_51, h0_52, h0_53, h0_54, h0_55, h0_56, h0_57, h0_58, h0_59, h0_60, h0_61, h0_62, h0_63, h0_64, h0_65, h0_66, h0_67, h0_68, h0_69])), (a_te, .inl (ca_te, 700, .inl fa_te)), (a_wd, .inl (ca_wd, 115, .inl fa_wd))] → va_S A s.heap H locs → lv_has ls 8 [(5, .int n_18), (4, .int at_5), (3, .int k_4), (0, .ref h0), (1, .int p1), (2, .int p2)] → W p l e ({ frames := 0, cells := 0, slots := 0, locals := 0 } : Room) s m ([.ref h0, .int p1, .int p2] : List Value).toArray below meth c H locs 0 0 QQ (F0 m 18 ls []) := by
          intro n_16
          induction n_16 with
          | zero => intro n_18 H locs ls hm; exact absurd hm (Nat.not_lt_zero _)
          | succ n_16 ih_17 =>
            intro n_18 H locs ls hm hF_19 hF_20 hP hD hS hl
            have hb6_21 := f_wN_b hF_8 hk_14 hF_20
            refine lv_aload_n hx hb dX12_wordAt_18 rfl (lv_at hl 3 rfl) ?_
            refine va_get (D := (dC, dI)) (ci := 12) (v := .ref a_wd) (C := RX12) (T := TX12) (N := 70) hx hb hts hiX12 hown hK hP 0 rfl rfl 27 (by decide) w__fieldLink_RX12_72_ShellHeapModel_words_I_ (fun _ h9 => h9) rfl dX12_wordAt_19 ?_
            refine lv_iload hx hb dX12_wordAt_22 (lv_at hl 1 rfl) ?_
            refine lv_iload hx hb dX12_wordAt_24 (lv_at hl 0 rfl) ?_
            refine lv_iadd hx hb dX12_wordAt_26 ?_
            refine lv_topi (fun z_22 ez_22 => ?_)
            have kz_22 : (z_22).toInt = (at_5).toInt + (n_18).toInt := by rw [ez_22]; exact z_add (a := (at_5).toInt) (b := (n_18).toInt) rfl rfl (by omega) (by omega)
            refine va_iald hx hb hK hP 2 1 rfl rfl (z_vpin (by omega) (by omega)) dX12_wordAt_27 ?_
            refine lv_topi (fun z_23 ez_23 => ?_)
            refine lv_bipush (v := 32) hx hb dX12_wordAt_28 (by decide) ?_
            refine lv_icmp_eq (tgt := 39) hx hb dX12_wordAt_30 (by decide) (fun c_24 => ?_) (fun c_24 => ?_)
            · have k_25 : (z_23).toInt = (32 : Int) := z_eq c_24
              obtain rfl : z_23 = 32 := z_eq' (show (z_23).toInt = (32 : Int) by omega)
              have hln_27 := f_wN_e hWX hF_8 hk_14 hF_20 (i := z_22) (by omega) ez_23 (by first | omega | decide)
              refine lv_iload hx hb dX12_wordAt_39 (lv_at hl 0 rfl) ?_
              refine lv_iload_n hx hb dX12_wordAt_41 rfl (lv_at hl 5 rfl) ?_
              refine lv_iload_n hx hb dX12_wordAt_42 rfl (lv_at hl 4 rfl) ?_
              refine lv_isub hx hb dX12_wordAt_43 ?_
              refine lv_topi (fun z_28 ez_28 => ?_)
              have kz_28 : (z_28).toInt = (p2).toInt - (p1).toInt := by rw [ez_28]; exact z_sub (a := (p2).toInt) (b := (p1).toInt) rfl rfl (by omega) (by omega)
              refine lv_icmp_ne (tgt := 51) hx hb dX12_wordAt_44 (by decide) (fun c_29 => ?_) (fun c_29 => ?_)
              · have k_30 : (n_18).toInt ≠ (z_28).toInt := z_ne c_29
                refine lv_iconst (v := 0) hx hb dX12_wordAt_51 (by decide) ?_
                refine lv_istore (lv' := [(6, .int 0), (5, .int n_18), (4, .int at_5), (3, .int k_4), (0, .ref h0), (1, .int p1), (2, .int p2)]) hx hb dX12_wordAt_52 hl (by decide) rfl (fun ls hl => ?_)
                refine lv_iconst (v := 0) hx hb dX12_wordAt_54 (by decide) ?_
                refine lv_istore (lv' := [(7, .int 0), (6, .int 0), (5, .int n_18), (4, .int at_5), (3, .int k_4), (0, .ref h0), (1, .int p1), (2, .int p2)]) hx hb dX12_wordAt_55 hl (by decide) rfl (fun ls hl => ?_)
                have loop_31 : ∀ (n_32 : Nat) (sm_34 : Int32) (i_35 : Int32) (H : Heap) (locs : List Loc) (ls : Array Slot), (7 - (i_35).toInt).toNat < n_32 → (((0 : Int) ≤ (sm_34).toInt ∧ (sm_34).toInt ≤ (1 : Int))) → (((0 : Int) ≤ (i_35).toInt ∧ (i_35).toInt ≤ (6 : Int))) → (f_wS fa_te fa_wd (p1).toInt (p2).toInt (at_5).toInt (n_18).toInt (i_35).toInt (sm_34).toInt) → ((sm_34).toInt = 0 ∨ (n_18).toInt = (p2).toInt - (p1).toInt) → ((i_35).toInt ≤ (n_18).toInt) → va_P (dC, dI) vwCl [(h0, .inr (12, [.ref a_te, h0_1, h0_2, h0_3, h0_4, h0_5, h0_6, h0_7, h0_8, h0_9, h0_10, h0_11, h0_12, h0_13, h0_14, h0_15, h0_16, h0_17, h0_18, h0_19, h0_20, h0_21, h0_22, h0_23, h0_24, h0_25, h0_26, .ref a_wd, .int mf, .int mfp, .int mst, .int mnx, .int mkd, .int mwh, .int mpl, h0_35, h0_36, h0_37, h0_38, h0_39, h0_40, h0_41, h0_42, h0_43, h0_44, h0_45, h0_46, h0_47, h0_48, h0_49, h0_50, h0_51, h0_52, h0_53, h0_54, h0_55, h0_56, h0_57, h0_58, h0_59, h0_60, h0_61, h0_62, h0_63, h0_64, h0_65, h0_66, h0_67, h0_68, h0_69])), (a_te, .inl (ca_te, 700, .inl fa_te)), (a_wd, .inl (ca_wd, 115, .inl fa_wd))] H → va_D (fun _ => True) [(h0, .inr (12, [.ref a_te, h0_1, h0_2, h0_3, h0_4, h0_5, h0_6, h0_7, h0_8, h0_9, h0_10, h0_11, h0_12, h0_13, h0_14, h0_15, h0_16, h0_17, h0_18, h0_19, h0_20, h0_21, h0_22, h0_23, h0_24, h0_25, h0_26, .ref a_wd, .int mf, .int mfp, .int mst, .int mnx, .int mkd, .int mwh, .int mpl, h0_35, h0_36, h0_37, h0_38, h0_39, h0_40, h0_41, h0_42, h0_43, h0_44, h0_45, h0_46, h0_47, h0_48, h0_49, h0_50, h0_51, h0_52, h0_53, h0_54, h0_55, h0_56, h0_57, h0_58, h0_59, h0_60, h0_61, h0_62, h0_63, h0_64, h0_65, h0_66, h0_67, h0_68, h0_69])), (a_te, .inl (ca_te, 700, .inl fa_te)), (a_wd, .inl (ca_wd, 115, .inl fa_wd))] → va_S A s.heap H locs → lv_has ls 8 [(7, .int i_35), (6, .int sm_34), (5, .int n_18), (4, .int at_5), (3, .int k_4), (0, .ref h0), (1, .int p1), (2, .int p2)] → W p l e ({ frames := 0, cells := 0, slots := 0, locals := 0 } : Room) s m ([.ref h0, .int p1, .int p2] : List Value).toArray below meth c H locs 0 0 QQ (F0 m 57 ls []) := by
                  intro n_32
                  induction n_32 with
                  | zero => intro sm_34 i_35 H locs ls hm; exact absurd hm (Nat.not_lt_zero _)
                  | succ n_32 ih_33 =>
                    intro sm_34 i_35 H locs ls hm hF_36 hF_37 hF_38 hF_39 hF_40 hP hD hS hl
                    refine lv_iload hx hb dX12_wordAt_57 (lv_at hl 0 rfl) ?_
                    refine lv_iload hx hb dX12_wordAt_59 (lv_at hl 2 rfl) ?_
                    refine lv_icmp_ge (tgt := 104) hx hb dX12_wordAt_61 (by decide) (fun c_41 => ?_) (fun c_41 => ?_)
                    · have k_42 : (n_18).toInt ≤ (i_35).toInt := z_le c_41
                      refine lv_iload hx hb dX12_wordAt_104 (lv_at hl 1 rfl) ?_
                      refine lv_if_eq (tgt := 111) hx hb dX12_wordAt_106 (by decide) (fun c_43 => ?_) (fun c_43 => ?_)
                      · have k_44 : (sm_34).toInt = (0 : Int) := z_eq c_43
                        obtain rfl : sm_34 = 0 := z_eq' (show (sm_34).toInt = (0 : Int) by omega)
                        refine lv_iload hx hb dX12_wordAt_111 (lv_at hl 3 rfl) ?_
                        refine lv_iload hx hb dX12_wordAt_113 (lv_at hl 2 rfl) ?_
                        refine lv_iconst (v := 1) hx hb dX12_wordAt_115 (by decide) ?_
                        refine lv_iadd hx hb dX12_wordAt_116 ?_
                        refine lv_topi (fun z_46 ez_46 => ?_)
                        have kz_46 : (z_46).toInt = (n_18).toInt + (1 : Int) := by rw [ez_46]; exact z_add (a := (n_18).toInt) (b := (1 : Int)) rfl rfl (z_al hF_19.1 (by decide)) (z_ah hF_19.2 (by decide))
                        refine lv_iadd hx hb dX12_wordAt_117 ?_
                        refine lv_topi (fun z_47 ez_47 => ?_)
                        have kz_47 : (z_47).toInt = (at_5).toInt + (z_46).toInt := by rw [ez_47]; exact z_add (a := (at_5).toInt) (b := (z_46).toInt) rfl rfl (by omega) (by omega)
                        refine lv_istore (lv' := [(4, .int z_47), (7, .int i_35), (6, .int 0), (5, .int n_18), (3, .int k_4), (0, .ref h0), (1, .int p1), (2, .int p2)]) hx hb dX12_wordAt_118 hl (by decide) rfl (fun ls hl => ?_)
                        obtain ⟨z_48, ez_48⟩ : ∃ y : Int32, y = k_4 + 1 := ⟨_, rfl⟩
                        have kz_48 : (z_48).toInt = (k_4).toInt + (1 : Int) := by rw [ez_48]; exact z_add (b := 1) rfl rfl (z_al hF_6.1 (by decide)) (z_ah hF_6.2 (by decide))
                        refine lv_iinc (v := z_48) (lv' := [(3, .int z_48), (4, .int z_47), (7, .int i_35), (6, .int 0), (5, .int n_18), (0, .ref h0), (1, .int p1), (2, .int p2)]) hx hb dX12_wordAt_120 hl (k := 4) rfl (by rw [ez_48]; rfl) (by decide) rfl (fun ls hl => ?_)
                        refine lv_goto (tgt := 5) hx hb dX12_wordAt_123 (by decide) ?_
                        exact ih_3 z_48 z_47 _ _ _ (show (116 - (z_47).toInt).toNat < n_2 by omega) (show ((0 : Int) ≤ (z_48).toInt ∧ (z_48).toInt ≤ (115 : Int)) by omega) (show ((0 : Int) ≤ (z_47).toInt ∧ (z_47).toInt ≤ (115 : Int)) by omega) (show f_wO fa_te (p1).toInt (p2).toInt (z_48).toInt (z_47).toInt from f_wS_no hWX hF_8 hk_14 hln_27 hF_38 (by first | omega | decide) (by omega) (by omega)) (show (z_48).toInt ≤ (z_47).toInt by omega) hP hD hS (lv_sub hl [1, 0, 5, 6, 7] rfl)
                      · have k_49 : (sm_34).toInt ≠ (0 : Int) := z_ne c_43
                        obtain rfl : sm_34 = 1 := z_eq' (show (sm_34).toInt = (1 : Int) by omega)
                        refine lv_iload_n hx hb dX12_wordAt_109 rfl (lv_at hl 4 rfl) ?_
                        refine z_backQ hQQ ?_
                        refine W.widen (k := 0) (n := 0) (Nat.le_of_ble_eq_true rfl) (Nat.le_of_ble_eq_true rfl) ?_
                        exact W.iret (v := k_4) hx hb hr (fun t ht hW => ⟨⟨k_4, (), rfl, (show (((k_4).toInt = (-1 : Int)) ∨ ((0 : Int) ≤ (k_4).toInt ∧ p2.toInt - p1.toInt ≤ (6 : Int))) ∧ f_wA fa_te p1.toInt p2.toInt (k_4).toInt from ⟨by first | omega | exact Or.inr ⟨by omega, by have h9 := (hF_38.1 (by first | omega | decide)).1; omega⟩, f_wS_hit hWX hF_8 hk_14 hln_27 hF_38 (by first | omega | decide) (by omega)⟩), trivial⟩, hS.F ht⟩) hS.2.2 dX12_wordAt_110
                    · have k_51 : (n_18).toInt > (i_35).toInt := z_nle c_41
                      refine lv_iload hx hb dX12_wordAt_64 (lv_at hl 1 rfl) ?_
                      refine lv_if_eq (tgt := 104) hx hb dX12_wordAt_66 (by decide) (fun c_52 => ?_) (fun c_52 => ?_)
                      · have k_53 : (sm_34).toInt = (0 : Int) := z_eq c_52
                        obtain rfl : sm_34 = 0 := z_eq' (show (sm_34).toInt = (0 : Int) by omega)
                        refine lv_iload hx hb dX12_wordAt_104 (lv_at hl 1 rfl) ?_
                        refine lv_if_eq (tgt := 111) hx hb dX12_wordAt_106 (by decide) (fun _ => ?_) (fun c_55 => absurd (by decide) c_55)
                        refine lv_iload hx hb dX12_wordAt_111 (lv_at hl 3 rfl) ?_
                        refine lv_iload hx hb dX12_wordAt_113 (lv_at hl 2 rfl) ?_
                        refine lv_iconst (v := 1) hx hb dX12_wordAt_115 (by decide) ?_
                        refine lv_iadd hx hb dX12_wordAt_116 ?_
                        refine lv_topi (fun z_56 ez_56 => ?_)
                        have kz_56 : (z_56).toInt = (n_18).toInt + (1 : Int) := by rw [ez_56]; exact z_add (a := (n_18).toInt) (b := (1 : Int)) rfl rfl (z_al hF_19.1 (by decide)) (z_ah hF_19.2 (by decide))
                        refine lv_iadd hx hb dX12_wordAt_117 ?_
                        refine lv_topi (fun z_57 ez_57 => ?_)
                        have kz_57 : (z_57).toInt = (at_5).toInt + (z_56).toInt := by rw [ez_57]; exact z_add (a := (at_5).toInt) (b := (z_56).toInt) rfl rfl (by omega) (by omega)
                        refine lv_istore (lv' := [(4, .int z_57), (7, .int i_35), (6, .int 0), (5, .int n_18), (3, .int k_4), (0, .ref h0), (1, .int p1), (2, .int p2)]) hx hb dX12_wordAt_118 hl (by decide) rfl (fun ls hl => ?_)
                        obtain ⟨z_58, ez_58⟩ : ∃ y : Int32, y = k_4 + 1 := ⟨_, rfl⟩
                        have kz_58 : (z_58).toInt = (k_4).toInt + (1 : Int) := by rw [ez_58]; exact z_add (b := 1) rfl rfl (z_al hF_6.1 (by decide)) (z_ah hF_6.2 (by decide))
                        refine lv_iinc (v := z_58) (lv' := [(3, .int z_58), (4, .int z_57), (7, .int i_35), (6, .int 0), (5, .int n_18), (0, .ref h0), (1, .int p1), (2, .int p2)]) hx hb dX12_wordAt_120 hl (k := 4) rfl (by rw [ez_58]; rfl) (by decide) rfl (fun ls hl => ?_)
                        refine lv_goto (tgt := 5) hx hb dX12_wordAt_123 (by decide) ?_
                        exact ih_3 z_58 z_57 _ _ _ (show (116 - (z_57).toInt).toNat < n_2 by omega) (show ((0 : Int) ≤ (z_58).toInt ∧ (z_58).toInt ≤ (115 : Int)) by omega) (show ((0 : Int) ≤ (z_57).toInt ∧ (z_57).toInt ≤ (115 : Int)) by omega) (show f_wO fa_te (p1).toInt (p2).toInt (z_58).toInt (z_57).toInt from f_wS_no hWX hF_8 hk_14 hln_27 hF_38 (by first | omega | decide) (by omega) (by omega)) (show (z_58).toInt ≤ (z_57).toInt by omega) hP hD hS (lv_sub hl [1, 0, 5, 6, 7] rfl)
                      · have k_59 : (sm_34).toInt ≠ (0 : Int) := z_ne c_52
                        obtain rfl : sm_34 = 1 := z_eq' (show (sm_34).toInt = (1 : Int) by omega)
                        refine lv_aload_n hx hb dX12_wordAt_69 rfl (lv_at hl 5 rfl) ?_
                        refine va_get (D := (dC, dI)) (ci := 12) (v := .ref a_wd) (C := RX12) (T := TX12) (N := 70) hx hb hts hiX12 hown hK hP 0 rfl rfl 27 (by decide) w__fieldLink_RX12_72_ShellHeapModel_words_I_ (fun _ h9 => h9) rfl dX12_wordAt_70 ?_
                        refine lv_iload hx hb dX12_wordAt_73 (lv_at hl 3 rfl) ?_
                        refine lv_iload hx hb dX12_wordAt_75 (lv_at hl 0 rfl) ?_
                        refine lv_iadd hx hb dX12_wordAt_77 ?_
                        refine lv_topi (fun z_61 ez_61 => ?_)
                        have kz_61 : (z_61).toInt = (at_5).toInt + (i_35).toInt := by rw [ez_61]; exact z_add (a := (at_5).toInt) (b := (i_35).toInt) rfl rfl (by omega) (by omega)
                        refine va_iald hx hb hK hP 2 1 rfl rfl (z_vpin (by omega) (by omega)) dX12_wordAt_78 ?_
                        refine lv_topi (fun z_62 ez_62 => ?_)
                        refine lv_aload_n hx hb dX12_wordAt_79 rfl (lv_at hl 5 rfl) ?_
                        refine va_get (D := (dC, dI)) (ci := 12) (v := .ref a_te) (C := RX12) (T := TX12) (N := 70) hx hb hts hiX12 hown hK hP 0 rfl rfl 0 (by decide) w__fieldLink_RX12_7_ShellHeapModel_tape_I_ (fun _ h9 => h9) rfl dX12_wordAt_80 ?_
                        refine lv_iload_n hx hb dX12_wordAt_83 rfl (lv_at hl 6 rfl) ?_
                        refine lv_iload hx hb dX12_wordAt_84 (lv_at hl 0 rfl) ?_
                        refine lv_iadd hx hb dX12_wordAt_86 ?_
                        refine lv_topi (fun z_63 ez_63 => ?_)
                        have kz_63 : (z_63).toInt = (p1).toInt + (i_35).toInt := by rw [ez_63]; exact z_add (a := (p1).toInt) (b := (i_35).toInt) rfl rfl (by omega) (by omega)
                        refine va_iald hx hb hK hP 1 0 rfl rfl (z_vpin (by omega) (by omega)) dX12_wordAt_87 ?_
                        refine lv_topi (fun z_64 ez_64 => ?_)
                        have kz_64 : ((0 : Int) ≤ (z_64).toInt ∧ (z_64).toInt ≤ (255 : Int)) := by rw [ez_64]; exact hI_a_te _
                        refine lv_icmp_ne (tgt := 95) hx hb dX12_wordAt_88 (by decide) (fun c_65 => ?_) (fun c_65 => ?_)
                        · have k_66 : (z_62).toInt ≠ (z_64).toInt := z_ne c_65
                          refine lv_iconst (v := 0) hx hb dX12_wordAt_95 (by decide) ?_
                          refine lv_istore (lv' := [(6, .int 0), (7, .int i_35), (5, .int n_18), (4, .int at_5), (3, .int k_4), (0, .ref h0), (1, .int p1), (2, .int p2)]) hx hb dX12_wordAt_96 hl (by decide) rfl (fun ls hl => ?_)
                          obtain ⟨z_67, ez_67⟩ : ∃ y : Int32, y = i_35 + 1 := ⟨_, rfl⟩
                          have kz_67 : (z_67).toInt = (i_35).toInt + (1 : Int) := by rw [ez_67]; exact z_add (b := 1) rfl rfl (z_al hF_37.1 (by decide)) (z_ah hF_37.2 (by decide))
                          refine lv_iinc (v := z_67) (lv' := [(7, .int z_67), (6, .int 0), (5, .int n_18), (4, .int at_5), (3, .int k_4), (0, .ref h0), (1, .int p1), (2, .int p2)]) hx hb dX12_wordAt_98 hl (k := 1) rfl (by rw [ez_67]; rfl) (by decide) rfl (fun ls hl => ?_)
                          refine lv_goto (tgt := 57) hx hb dX12_wordAt_101 (by decide) ?_
                          exact ih_33 0 z_67 _ _ _ (show (7 - (z_67).toInt).toNat < n_32 by omega) (show ((0 : Int) ≤ (0 : Int) ∧ (0 : Int) ≤ (1 : Int)) by omega) (show ((0 : Int) ≤ (z_67).toInt ∧ (z_67).toInt ≤ (6 : Int)) by omega) (show f_wS fa_te fa_wd (p1).toInt (p2).toInt (at_5).toInt (n_18).toInt (z_67).toInt (0 : Int) from f_wS_n (i := i_35) (ia := z_61) (ib := z_63) hF_38 (by omega) (by omega) (by omega) (by omega) (by omega) (by omega) ez_62 ez_64 (by omega)) (show (0 : Int) = 0 ∨ (n_18).toInt = (p2).toInt - (p1).toInt by omega) (show (z_67).toInt ≤ (n_18).toInt by omega) hP hD hS (lv_sub hl [0, 1, 2, 3, 4, 5, 6, 7] rfl)
                        · have k_68 : (z_62).toInt = (z_64).toInt := z_eq c_65
                          refine lv_iconst (v := 1) hx hb dX12_wordAt_91 (by decide) ?_
                          refine lv_goto (tgt := 96) hx hb dX12_wordAt_92 (by decide) ?_
                          refine lv_istore (lv' := [(6, .int 1), (7, .int i_35), (5, .int n_18), (4, .int at_5), (3, .int k_4), (0, .ref h0), (1, .int p1), (2, .int p2)]) hx hb dX12_wordAt_96 hl (by decide) rfl (fun ls hl => ?_)
                          obtain ⟨z_69, ez_69⟩ : ∃ y : Int32, y = i_35 + 1 := ⟨_, rfl⟩
                          have kz_69 : (z_69).toInt = (i_35).toInt + (1 : Int) := by rw [ez_69]; exact z_add (b := 1) rfl rfl (z_al hF_37.1 (by decide)) (z_ah hF_37.2 (by decide))
                          refine lv_iinc (v := z_69) (lv' := [(7, .int z_69), (6, .int 1), (5, .int n_18), (4, .int at_5), (3, .int k_4), (0, .ref h0), (1, .int p1), (2, .int p2)]) hx hb dX12_wordAt_98 hl (k := 1) rfl (by rw [ez_69]; rfl) (by decide) rfl (fun ls hl => ?_)
                          refine lv_goto (tgt := 57) hx hb dX12_wordAt_101 (by decide) ?_
                          exact ih_33 1 z_69 _ _ _ (show (7 - (z_69).toInt).toNat < n_32 by omega) (show ((0 : Int) ≤ (1 : Int) ∧ (1 : Int) ≤ (1 : Int)) by omega) (show ((0 : Int) ≤ (z_69).toInt ∧ (z_69).toInt ≤ (6 : Int)) by omega) (show f_wS fa_te fa_wd (p1).toInt (p2).toInt (at_5).toInt (n_18).toInt (z_69).toInt (1 : Int) from f_wS_y (i := i_35) (ia := z_61) (ib := z_63) hF_38 (by first | omega | decide) (by omega) (by omega) (by omega) (by omega) (by omega) ez_62 ez_64 (by omega) (by omega)) (show (1 : Int) = 0 ∨ (n_18).toInt = (p2).toInt - (p1).toInt by omega) (show (z_69).toInt ≤ (n_18).toInt by omega) hP hD hS (lv_sub hl [0, 1, 2, 3, 4, 5, 6, 7] rfl)
                exact loop_31 _ 0 0 _ _ _ (Nat.lt_succ_self _) (show ((0 : Int) ≤ (0 : Int) ∧ (0 : Int) ≤ (1 : Int)) by omega) (show ((0 : Int) ≤ (0 : Int) ∧ (0 : Int) ≤ (6 : Int)) by omega) (show f_wS fa_te fa_wd (p1).toInt (p2).toInt (at_5).toInt (n_18).toInt (0 : Int) (0 : Int) from f_wS_0 (fun h9 => absurd h9 (by decide)) (fun h9 => by omega)) (show (0 : Int) = 0 ∨ (n_18).toInt = (p2).toInt - (p1).toInt by omega) (show (0 : Int) ≤ (n_18).toInt by omega) hP hD hS hl
              · have k_70 : (n_18).toInt = (z_28).toInt := z_eq c_29
                refine lv_iconst (v := 1) hx hb dX12_wordAt_47 (by decide) ?_
                refine lv_goto (tgt := 52) hx hb dX12_wordAt_48 (by decide) ?_
                refine lv_istore (lv' := [(6, .int 1), (5, .int n_18), (4, .int at_5), (3, .int k_4), (0, .ref h0), (1, .int p1), (2, .int p2)]) hx hb dX12_wordAt_52 hl (by decide) rfl (fun ls hl => ?_)
                refine lv_iconst (v := 0) hx hb dX12_wordAt_54 (by decide) ?_
                refine lv_istore (lv' := [(7, .int 0), (6, .int 1), (5, .int n_18), (4, .int at_5), (3, .int k_4), (0, .ref h0), (1, .int p1), (2, .int p2)]) hx hb dX12_wordAt_55 hl (by decide) rfl (fun ls hl => ?_)
                have loop_71 : ∀ (n_72 : Nat) (sm_74 : Int32) (i_75 : Int32) (H : Heap) (locs : List Loc) (ls : Array Slot), (7 - (i_75).toInt).toNat < n_72 → (((0 : Int) ≤ (sm_74).toInt ∧ (sm_74).toInt ≤ (1 : Int))) → (((0 : Int) ≤ (i_75).toInt ∧ (i_75).toInt ≤ (6 : Int))) → (f_wS fa_te fa_wd (p1).toInt (p2).toInt (at_5).toInt (n_18).toInt (i_75).toInt (sm_74).toInt) → ((sm_74).toInt = 0 ∨ (n_18).toInt = (p2).toInt - (p1).toInt) → ((i_75).toInt ≤ (n_18).toInt) → va_P (dC, dI) vwCl [(h0, .inr (12, [.ref a_te, h0_1, h0_2, h0_3, h0_4, h0_5, h0_6, h0_7, h0_8, h0_9, h0_10, h0_11, h0_12, h0_13, h0_14, h0_15, h0_16, h0_17, h0_18, h0_19, h0_20, h0_21, h0_22, h0_23, h0_24, h0_25, h0_26, .ref a_wd, .int mf, .int mfp, .int mst, .int mnx, .int mkd, .int mwh, .int mpl, h0_35, h0_36, h0_37, h0_38, h0_39, h0_40, h0_41, h0_42, h0_43, h0_44, h0_45, h0_46, h0_47, h0_48, h0_49, h0_50, h0_51, h0_52, h0_53, h0_54, h0_55, h0_56, h0_57, h0_58, h0_59, h0_60, h0_61, h0_62, h0_63, h0_64, h0_65, h0_66, h0_67, h0_68, h0_69])), (a_te, .inl (ca_te, 700, .inl fa_te)), (a_wd, .inl (ca_wd, 115, .inl fa_wd))] H → va_D (fun _ => True) [(h0, .inr (12, [.ref a_te, h0_1, h0_2, h0_3, h0_4, h0_5, h0_6, h0_7, h0_8, h0_9, h0_10, h0_11, h0_12, h0_13, h0_14, h0_15, h0_16, h0_17, h0_18, h0_19, h0_20, h0_21, h0_22, h0_23, h0_24, h0_25, h0_26, .ref a_wd, .int mf, .int mfp, .int mst, .int mnx, .int mkd, .int mwh, .int mpl, h0_35, h0_36, h0_37, h0_38, h0_39, h0_40, h0_41, h0_42, h0_43, h0_44, h0_45, h0_46, h0_47, h0_48, h0_49, h0_50, h0_51, h0_52, h0_53, h0_54, h0_55, h0_56, h0_57, h0_58, h0_59, h0_60, h0_61, h0_62, h0_63, h0_64, h0_65, h0_66, h0_67, h0_68, h0_69])), (a_te, .inl (ca_te, 700, .inl fa_te)), (a_wd, .inl (ca_wd, 115, .inl fa_wd))] → va_S A s.heap H locs → lv_has ls 8 [(7, .int i_75), (6, .int sm_74), (5, .int n_18), (4, .int at_5), (3, .int k_4), (0, .ref h0), (1, .int p1), (2, .int p2)] → W p l e ({ frames := 0, cells := 0, slots := 0, locals := 0 } : Room) s m ([.ref h0, .int p1, .int p2] : List Value).toArray below meth c H locs 0 0 QQ (F0 m 57 ls []) := by
                  intro n_72
                  induction n_72 with
                  | zero => intro sm_74 i_75 H locs ls hm; exact absurd hm (Nat.not_lt_zero _)
                  | succ n_72 ih_73 =>
                    intro sm_74 i_75 H locs ls hm hF_76 hF_77 hF_78 hF_79 hF_80 hP hD hS hl
                    refine lv_iload hx hb dX12_wordAt_57 (lv_at hl 0 rfl) ?_
                    refine lv_iload hx hb dX12_wordAt_59 (lv_at hl 2 rfl) ?_
                    refine lv_icmp_ge (tgt := 104) hx hb dX12_wordAt_61 (by decide) (fun c_81 => ?_) (fun c_81 => ?_)
                    · have k_82 : (n_18).toInt ≤ (i_75).toInt := z_le c_81
                      refine lv_iload hx hb dX12_wordAt_104 (lv_at hl 1 rfl) ?_
                      refine lv_if_eq (tgt := 111) hx hb dX12_wordAt_106 (by decide) (fun c_83 => ?_) (fun c_83 => ?_)
                      · have k_84 : (sm_74).toInt = (0 : Int) := z_eq c_83
                        obtain rfl : sm_74 = 0 := z_eq' (show (sm_74).toInt = (0 : Int) by omega)
                        refine lv_iload hx hb dX12_wordAt_111 (lv_at hl 3 rfl) ?_
                        refine lv_iload hx hb dX12_wordAt_113 (lv_at hl 2 rfl) ?_
                        refine lv_iconst (v := 1) hx hb dX12_wordAt_115 (by decide) ?_
                        refine lv_iadd hx hb dX12_wordAt_116 ?_
                        refine lv_topi (fun z_86 ez_86 => ?_)
                        have kz_86 : (z_86).toInt = (n_18).toInt + (1 : Int) := by rw [ez_86]; exact z_add (a := (n_18).toInt) (b := (1 : Int)) rfl rfl (z_al hF_19.1 (by decide)) (z_ah hF_19.2 (by decide))
                        refine lv_iadd hx hb dX12_wordAt_117 ?_
                        refine lv_topi (fun z_87 ez_87 => ?_)
                        have kz_87 : (z_87).toInt = (at_5).toInt + (z_86).toInt := by rw [ez_87]; exact z_add (a := (at_5).toInt) (b := (z_86).toInt) rfl rfl (by omega) (by omega)
                        refine lv_istore (lv' := [(4, .int z_87), (7, .int i_75), (6, .int 0), (5, .int n_18), (3, .int k_4), (0, .ref h0), (1, .int p1), (2, .int p2)]) hx hb dX12_wordAt_118 hl (by decide) rfl (fun ls hl => ?_)
                        obtain ⟨z_88, ez_88⟩ : ∃ y : Int32, y = k_4 + 1 := ⟨_, rfl⟩
                        have kz_88 : (z_88).toInt = (k_4).toInt + (1 : Int) := by rw [ez_88]; exact z_add (b := 1) rfl rfl (z_al hF_6.1 (by decide)) (z_ah hF_6.2 (by decide))
                        refine lv_iinc (v := z_88) (lv' := [(3, .int z_88), (4, .int z_87), (7, .int i_75), (6, .int 0), (5, .int n_18), (0, .ref h0), (1, .int p1), (2, .int p2)]) hx hb dX12_wordAt_120 hl (k := 4) rfl (by rw [ez_88]; rfl) (by decide) rfl (fun ls hl => ?_)
                        refine lv_goto (tgt := 5) hx hb dX12_wordAt_123 (by decide) ?_
                        exact ih_3 z_88 z_87 _ _ _ (show (116 - (z_87).toInt).toNat < n_2 by omega) (show ((0 : Int) ≤ (z_88).toInt ∧ (z_88).toInt ≤ (115 : Int)) by omega) (show ((0 : Int) ≤ (z_87).toInt ∧ (z_87).toInt ≤ (115 : Int)) by omega) (show f_wO fa_te (p1).toInt (p2).toInt (z_88).toInt (z_87).toInt from f_wS_no hWX hF_8 hk_14 hln_27 hF_78 (by first | omega | decide) (by omega) (by omega)) (show (z_88).toInt ≤ (z_87).toInt by omega) hP hD hS (lv_sub hl [1, 0, 5, 6, 7] rfl)
                      · have k_89 : (sm_74).toInt ≠ (0 : Int) := z_ne c_83
                        obtain rfl : sm_74 = 1 := z_eq' (show (sm_74).toInt = (1 : Int) by omega)
                        refine lv_iload_n hx hb dX12_wordAt_109 rfl (lv_at hl 4 rfl) ?_
                        refine z_backQ hQQ ?_
                        refine W.widen (k := 0) (n := 0) (Nat.le_of_ble_eq_true rfl) (Nat.le_of_ble_eq_true rfl) ?_
                        exact W.iret (v := k_4) hx hb hr (fun t ht hW => ⟨⟨k_4, (), rfl, (show (((k_4).toInt = (-1 : Int)) ∨ ((0 : Int) ≤ (k_4).toInt ∧ p2.toInt - p1.toInt ≤ (6 : Int))) ∧ f_wA fa_te p1.toInt p2.toInt (k_4).toInt from ⟨by first | omega | exact Or.inr ⟨by omega, by have h9 := (hF_78.1 (by first | omega | decide)).1; omega⟩, f_wS_hit hWX hF_8 hk_14 hln_27 hF_78 (by first | omega | decide) (by omega)⟩), trivial⟩, hS.F ht⟩) hS.2.2 dX12_wordAt_110
                    · have k_91 : (n_18).toInt > (i_75).toInt := z_nle c_81
                      refine lv_iload hx hb dX12_wordAt_64 (lv_at hl 1 rfl) ?_
                      refine lv_if_eq (tgt := 104) hx hb dX12_wordAt_66 (by decide) (fun c_92 => ?_) (fun c_92 => ?_)
                      · have k_93 : (sm_74).toInt = (0 : Int) := z_eq c_92
                        obtain rfl : sm_74 = 0 := z_eq' (show (sm_74).toInt = (0 : Int) by omega)
                        refine lv_iload hx hb dX12_wordAt_104 (lv_at hl 1 rfl) ?_
                        refine lv_if_eq (tgt := 111) hx hb dX12_wordAt_106 (by decide) (fun _ => ?_) (fun c_95 => absurd (by decide) c_95)
                        refine lv_iload hx hb dX12_wordAt_111 (lv_at hl 3 rfl) ?_
                        refine lv_iload hx hb dX12_wordAt_113 (lv_at hl 2 rfl) ?_
                        refine lv_iconst (v := 1) hx hb dX12_wordAt_115 (by decide) ?_
                        refine lv_iadd hx hb dX12_wordAt_116 ?_
                        refine lv_topi (fun z_96 ez_96 => ?_)
                        have kz_96 : (z_96).toInt = (n_18).toInt + (1 : Int) := by rw [ez_96]; exact z_add (a := (n_18).toInt) (b := (1 : Int)) rfl rfl (z_al hF_19.1 (by decide)) (z_ah hF_19.2 (by decide))
                        refine lv_iadd hx hb dX12_wordAt_117 ?_
                        refine lv_topi (fun z_97 ez_97 => ?_)
                        have kz_97 : (z_97).toInt = (at_5).toInt + (z_96).toInt := by rw [ez_97]; exact z_add (a := (at_5).toInt) (b := (z_96).toInt) rfl rfl (by omega) (by omega)
                        refine lv_istore (lv' := [(4, .int z_97), (7, .int i_75), (6, .int 0), (5, .int n_18), (3, .int k_4), (0, .ref h0), (1, .int p1), (2, .int p2)]) hx hb dX12_wordAt_118 hl (by decide) rfl (fun ls hl => ?_)
                        obtain ⟨z_98, ez_98⟩ : ∃ y : Int32, y = k_4 + 1 := ⟨_, rfl⟩
                        have kz_98 : (z_98).toInt = (k_4).toInt + (1 : Int) := by rw [ez_98]; exact z_add (b := 1) rfl rfl (z_al hF_6.1 (by decide)) (z_ah hF_6.2 (by decide))
                        refine lv_iinc (v := z_98) (lv' := [(3, .int z_98), (4, .int z_97), (7, .int i_75), (6, .int 0), (5, .int n_18), (0, .ref h0), (1, .int p1), (2, .int p2)]) hx hb dX12_wordAt_120 hl (k := 4) rfl (by rw [ez_98]; rfl) (by decide) rfl (fun ls hl => ?_)
                        refine lv_goto (tgt := 5) hx hb dX12_wordAt_123 (by decide) ?_
                        exact ih_3 z_98 z_97 _ _ _ (show (116 - (z_97).toInt).toNat < n_2 by omega) (show ((0 : Int) ≤ (z_98).toInt ∧ (z_98).toInt ≤ (115 : Int)) by omega) (show ((0 : Int) ≤ (z_97).toInt ∧ (z_97).toInt ≤ (115 : Int)) by omega) (show f_wO fa_te (p1).toInt (p2).toInt (z_98).toInt (z_97).toInt from f_wS_no hWX hF_8 hk_14 hln_27 hF_78 (by first | omega | decide) (by omega) (by omega)) (show (z_98).toInt ≤ (z_97).toInt by omega) hP hD hS (lv_sub hl [1, 0, 5, 6, 7] rfl)
                      · have k_99 : (sm_74).toInt ≠ (0 : Int) := z_ne c_92
                        obtain rfl : sm_74 = 1 := z_eq' (show (sm_74).toInt = (1 : Int) by omega)
                        refine lv_aload_n hx hb dX12_wordAt_69 rfl (lv_at hl 5 rfl) ?_
                        refine va_get (D := (dC, dI)) (ci := 12) (v := .ref a_wd) (C := RX12) (T := TX12) (N := 70) hx hb hts hiX12 hown hK hP 0 rfl rfl 27 (by decide) w__fieldLink_RX12_72_ShellHeapModel_words_I_ (fun _ h9 => h9) rfl dX12_wordAt_70 ?_
                        refine lv_iload hx hb dX12_wordAt_73 (lv_at hl 3 rfl) ?_
                        refine lv_iload hx hb dX12_wordAt_75 (lv_at hl 0 rfl) ?_
                        refine lv_iadd hx hb dX12_wordAt_77 ?_
                        refine lv_topi (fun z_101 ez_101 => ?_)
                        have kz_101 : (z_101).toInt = (at_5).toInt + (i_75).toInt := by rw [ez_101]; exact z_add (a := (at_5).toInt) (b := (i_75).toInt) rfl rfl (by omega) (by omega)
                        refine va_iald hx hb hK hP 2 1 rfl rfl (z_vpin (by omega) (by omega)) dX12_wordAt_78 ?_
                        refine lv_topi (fun z_102 ez_102 => ?_)
                        refine lv_aload_n hx hb dX12_wordAt_79 rfl (lv_at hl 5 rfl) ?_
                        refine va_get (D := (dC, dI)) (ci := 12) (v := .ref a_te) (C := RX12) (T := TX12) (N := 70) hx hb hts hiX12 hown hK hP 0 rfl rfl 0 (by decide) w__fieldLink_RX12_7_ShellHeapModel_tape_I_ (fun _ h9 => h9) rfl dX12_wordAt_80 ?_
                        refine lv_iload_n hx hb dX12_wordAt_83 rfl (lv_at hl 6 rfl) ?_
                        refine lv_iload hx hb dX12_wordAt_84 (lv_at hl 0 rfl) ?_
                        refine lv_iadd hx hb dX12_wordAt_86 ?_
                        refine lv_topi (fun z_103 ez_103 => ?_)
                        have kz_103 : (z_103).toInt = (p1).toInt + (i_75).toInt := by rw [ez_103]; exact z_add (a := (p1).toInt) (b := (i_75).toInt) rfl rfl (by omega) (by omega)
                        refine va_iald hx hb hK hP 1 0 rfl rfl (z_vpin (by omega) (by omega)) dX12_wordAt_87 ?_
                        refine lv_topi (fun z_104 ez_104 => ?_)
                        have kz_104 : ((0 : Int) ≤ (z_104).toInt ∧ (z_104).toInt ≤ (255 : Int)) := by rw [ez_104]; exact hI_a_te _
                        refine lv_icmp_ne (tgt := 95) hx hb dX12_wordAt_88 (by decide) (fun c_105 => ?_) (fun c_105 => ?_)
                        · have k_106 : (z_102).toInt ≠ (z_104).toInt := z_ne c_105
                          refine lv_iconst (v := 0) hx hb dX12_wordAt_95 (by decide) ?_
                          refine lv_istore (lv' := [(6, .int 0), (7, .int i_75), (5, .int n_18), (4, .int at_5), (3, .int k_4), (0, .ref h0), (1, .int p1), (2, .int p2)]) hx hb dX12_wordAt_96 hl (by decide) rfl (fun ls hl => ?_)
                          obtain ⟨z_107, ez_107⟩ : ∃ y : Int32, y = i_75 + 1 := ⟨_, rfl⟩
                          have kz_107 : (z_107).toInt = (i_75).toInt + (1 : Int) := by rw [ez_107]; exact z_add (b := 1) rfl rfl (z_al hF_77.1 (by decide)) (z_ah hF_77.2 (by decide))
                          refine lv_iinc (v := z_107) (lv' := [(7, .int z_107), (6, .int 0), (5, .int n_18), (4, .int at_5), (3, .int k_4), (0, .ref h0), (1, .int p1), (2, .int p2)]) hx hb dX12_wordAt_98 hl (k := 1) rfl (by rw [ez_107]; rfl) (by decide) rfl (fun ls hl => ?_)
                          refine lv_goto (tgt := 57) hx hb dX12_wordAt_101 (by decide) ?_
                          exact ih_73 0 z_107 _ _ _ (show (7 - (z_107).toInt).toNat < n_72 by omega) (show ((0 : Int) ≤ (0 : Int) ∧ (0 : Int) ≤ (1 : Int)) by omega) (show ((0 : Int) ≤ (z_107).toInt ∧ (z_107).toInt ≤ (6 : Int)) by omega) (show f_wS fa_te fa_wd (p1).toInt (p2).toInt (at_5).toInt (n_18).toInt (z_107).toInt (0 : Int) from f_wS_n (i := i_75) (ia := z_101) (ib := z_103) hF_78 (by omega) (by omega) (by omega) (by omega) (by omega) (by omega) ez_102 ez_104 (by omega)) (show (0 : Int) = 0 ∨ (n_18).toInt = (p2).toInt - (p1).toInt by omega) (show (z_107).toInt ≤ (n_18).toInt by omega) hP hD hS (lv_sub hl [0, 1, 2, 3, 4, 5, 6, 7] rfl)
                        · have k_108 : (z_102).toInt = (z_104).toInt := z_eq c_105
                          refine lv_iconst (v := 1) hx hb dX12_wordAt_91 (by decide) ?_
                          refine lv_goto (tgt := 96) hx hb dX12_wordAt_92 (by decide) ?_
                          refine lv_istore (lv' := [(6, .int 1), (7, .int i_75), (5, .int n_18), (4, .int at_5), (3, .int k_4), (0, .ref h0), (1, .int p1), (2, .int p2)]) hx hb dX12_wordAt_96 hl (by decide) rfl (fun ls hl => ?_)
                          obtain ⟨z_109, ez_109⟩ : ∃ y : Int32, y = i_75 + 1 := ⟨_, rfl⟩
                          have kz_109 : (z_109).toInt = (i_75).toInt + (1 : Int) := by rw [ez_109]; exact z_add (b := 1) rfl rfl (z_al hF_77.1 (by decide)) (z_ah hF_77.2 (by decide))
                          refine lv_iinc (v := z_109) (lv' := [(7, .int z_109), (6, .int 1), (5, .int n_18), (4, .int at_5), (3, .int k_4), (0, .ref h0), (1, .int p1), (2, .int p2)]) hx hb dX12_wordAt_98 hl (k := 1) rfl (by rw [ez_109]; rfl) (by decide) rfl (fun ls hl => ?_)
                          refine lv_goto (tgt := 57) hx hb dX12_wordAt_101 (by decide) ?_
                          exact ih_73 1 z_109 _ _ _ (show (7 - (z_109).toInt).toNat < n_72 by omega) (show ((0 : Int) ≤ (1 : Int) ∧ (1 : Int) ≤ (1 : Int)) by omega) (show ((0 : Int) ≤ (z_109).toInt ∧ (z_109).toInt ≤ (6 : Int)) by omega) (show f_wS fa_te fa_wd (p1).toInt (p2).toInt (at_5).toInt (n_18).toInt (z_109).toInt (1 : Int) from f_wS_y (i := i_75) (ia := z_101) (ib := z_103) hF_78 (by first | omega | decide) (by omega) (by omega) (by omega) (by omega) (by omega) ez_102 ez_104 (by omega) (by omega)) (show (1 : Int) = 0 ∨ (n_18).toInt = (p2).toInt - (p1).toInt by omega) (show (z_109).toInt ≤ (n_18).toInt by omega) hP hD hS (lv_sub hl [0, 1, 2, 3, 4, 5, 6, 7] rfl)
                exact loop_71 _ 1 0 _ _ _ (Nat.lt_succ_self _) (show ((0 : Int) ≤ (1 : Int) ∧ (1 : Int) ≤ (1 : Int)) by omega) (show ((0 : Int) ≤ (0 : Int) ∧ (0 : Int) ≤ (6 : Int)) by omega) (show f_wS fa_te fa_wd (p1).toInt (p2).toInt (at_5).toInt (n_18).toInt (0 : Int) (1 : Int) from f_wS_0 (fun h9 => by omega) (fun h9 => absurd h9 (by decide))) (show (1 : Int) = 0 ∨ (n_18).toInt = (p2).toInt - (p1).toInt by omega) (show (0 : Int) ≤ (n_18).toInt by omega) hP hD hS hl
            · have k_110 : (z_23).toInt ≠ (32 : Int) := z_ne c_24
              have hNs_111 : f_wN (k_4).toInt ((n_18).toInt + 1) := f_wN_s hWX hF_8 hk_14 hF_20 (i := z_22) (by omega) ez_23 (by omega) rfl
              have hb6_112 := f_wN_b hF_8 hk_14 hNs_111
              obtain ⟨z_113, ez_113⟩ : ∃ y : Int32, y = n_18 + 1 := ⟨_, rfl⟩
              have kz_113 : (z_113).toInt = (n_18).toInt + (1 : Int) := by rw [ez_113]; exact z_add (b := 1) rfl rfl (z_al hF_19.1 (by decide)) (z_ah hF_19.2 (by decide))
              refine lv_iinc (v := z_113) (lv' := [(5, .int z_113), (4, .int at_5), (3, .int k_4), (0, .ref h0), (1, .int p1), (2, .int p2)]) hx hb dX12_wordAt_33 hl (k := 0) rfl (by rw [ez_113]; rfl) (by decide) rfl (fun ls hl => ?_)
              refine lv_goto (tgt := 18) hx hb dX12_wordAt_36 (by decide) ?_
              exact ih_17 z_113 _ _ _ (show (7 - (z_113).toInt).toNat < n_16 by omega) (show ((0 : Int) ≤ (z_113).toInt ∧ (z_113).toInt ≤ (6 : Int)) by omega) (show f_wN (k_4).toInt (z_113).toInt from by rw [show (z_113).toInt = (n_18).toInt + 1 by omega]; exact hNs_111) hP hD hS (lv_sub hl [0, 1, 2, 3, 4, 5] rfl)
        exact loop_15 _ 0 _ _ _ (Nat.lt_succ_self _) (show ((0 : Int) ≤ (0 : Int) ∧ (0 : Int) ≤ (6 : Int)) by omega) (show f_wN (k_4).toInt (0 : Int) from f_wN_0) hP hD hS hl
  exact loop_1 _ 0 0 _ _ _ (Nat.lt_succ_self _) (show ((0 : Int) ≤ (0 : Int) ∧ (0 : Int) ≤ (115 : Int)) by omega) (show ((0 : Int) ≤ (0 : Int) ∧ (0 : Int) ≤ (115 : Int)) by omega) (show f_wO fa_te (p1).toInt (p2).toInt (0 : Int) (0 : Int) from f_wO_0) (show (0 : Int) ≤ (0 : Int) by omega) hP hD hS hl
