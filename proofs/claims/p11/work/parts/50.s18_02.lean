def u_s_X12_isTold : List Cond := .code yX12_isTold cX12_isTold 4 (some .boolean) :: ([.fieldLink RX12 378 "ShellHeapModel" "causesRead" "I", .fieldLink RX12 102 "ShellHeapModel" "nameSize" "[I", .fieldLink RX12 207 "ShellHeapModel" "next" "I", .fieldLink RX12 201 "ShellHeapModel" "place" "I", .fieldLink RX12 99 "ShellHeapModel" "name" "[I", .fieldLink RX12 7 "ShellHeapModel" "tape" "[I"] ++ (wsX120 ++ []))
theorem gd_s_X12_isTold : z_gd u_s_X12_isTold := z_gdc (by decide +kernel) (z_gda gdX12 (z_gd0))
set_option maxHeartbeats 4000000 in
set_option maxRecDepth 100000 in
theorem s_X12_isTold (l : Launch) (dC : Nat → ClassId) (dI : Nat → Nat → Nat) (sz : Nat) (h0 : Nat) (a_te : Nat) (h0_1 : Value) (h0_2 : Value) (h0_3 : Value) (h0_4 : Value) (h0_5 : Value) (h0_6 : Value) (h0_7 : Value) (h0_8 : Value) (h0_9 : Value) (h0_10 : Value) (h0_11 : Value) (h0_12 : Value) (h0_13 : Value) (h0_14 : Value) (h0_15 : Value) (h0_16 : Value) (h0_17 : Value) (h0_18 : Value) (h0_19 : Value) (h0_20 : Value) (h0_21 : Value) (h0_22 : Value) (h0_23 : Value) (h0_24 : Value) (h0_25 : Value) (h0_26 : Value) (a_wd : Nat) (mf : Int32) (mfp : Int32) (mst : Int32) (mnx : Int32) (mkd : Int32) (mwh : Int32) (mpl : Int32) (h0_35 : Value) (h0_36 : Value) (h0_37 : Value) (h0_38 : Value) (h0_39 : Value) (h0_40 : Value) (h0_41 : Value) (h0_42 : Value) (h0_43 : Value) (h0_44 : Value) (mcr : Int32) (h0_46 : Value) (mkr : Int32) (a_nm : Nat) (a_ns : Nat) (a_cf : Nat) (a_cm : Nat) (a_kt : Nat) (a_lf : Nat) (a_rt : Nat) (a_am : Nat) (a_ah : Nat) (a_gb : Nat) (mom : Int32) (a_w : Nat) (a_o : Nat) (mws : Int32) (a_h : Nat) (mhs : Int32) (a_cp : Nat) (mop : Int32) (mhc : Int32) (mwv : Int32) (mmn : Int32) (h0_69 : Value) (ca_te : ClassId) (fa_te : Nat → Int32) (ca_ns : ClassId) (fa_ns : Nat → Int32) (ca_nm : ClassId) (fa_nm : Nat → Int32) (hB_mst : ((0 : Int) ≤ (mst).toInt ∧ (mst).toInt ≤ (700 : Int))) (hB_mnx : ((0 : Int) ≤ (mnx).toInt ∧ (mnx).toInt ≤ (700 : Int))) (hB_mkd : ((0 : Int) ≤ (mkd).toInt ∧ (mkd).toInt ≤ (7 : Int))) (hB_mpl : ((0 : Int) ≤ (mpl).toInt ∧ (mpl).toInt ≤ (700 : Int))) (hB_mcr : ((0 : Int) ≤ (mcr).toInt ∧ (mcr).toInt ≤ (6 : Int))) (hI_a_te : ∀ j : Nat, ((0 : Int) ≤ (fa_te j).toInt ∧ (fa_te j).toInt ≤ (255 : Int))) (hI_a_ns : ∀ j : Nat, ((0 : Int) ≤ (fa_ns j).toInt ∧ (fa_ns j).toInt ≤ (8 : Int))) (hpn : mpl.toInt ≤ mnx.toInt) : Met l yX12_isTold u_s_X12_isTold ({ frames := 0, cells := 0, slots := 0, locals := 0 }) (va_Pc [.ref h0] (z_C (dC, dI) vwCl [(h0, .inr (12, [.ref a_te, h0_1, h0_2, h0_3, h0_4, h0_5, h0_6, h0_7, h0_8, h0_9, h0_10, h0_11, h0_12, h0_13, h0_14, h0_15, h0_16, h0_17, h0_18, h0_19, h0_20, h0_21, h0_22, h0_23, h0_24, h0_25, h0_26, .ref a_wd, .int mf, .int mfp, .int mst, .int mnx, .int mkd, .int mwh, .int mpl, h0_35, h0_36, h0_37, h0_38, h0_39, h0_40, h0_41, h0_42, h0_43, h0_44, .int mcr, h0_46, .int mkr, .ref a_nm, .ref a_ns, .ref a_cf, .ref a_cm, .ref a_kt, .ref a_lf, .ref a_rt, .ref a_am, .ref a_ah, .ref a_gb, .int mom, .ref a_w, .ref a_o, .int mws, .ref a_h, .int mhs, .ref a_cp, .int mop, .int mhc, .int mwv, .int mmn, h0_69])), (a_te, .inl (ca_te, 700, .inl fa_te)), (a_ns, .inl (ca_ns, 6, .inl fa_ns)), (a_nm, .inl (ca_nm, 48, .inl fa_nm))] [(ca_te, .int), (ca_ns, .int), (ca_nm, .int)] sz)) (va_Qi (fun (r : Int32) (_ : Unit) => ((0 : Int) ≤ (r).toInt ∧ (r).toInt ≤ (1 : Int))) (fun (_ : Unit) (_ : State) => True) (va_A [] sz)) 0 0 (va_A [] sz) := by
  refine Met.ofW (cc := cX12_isTold) (maxL := 4) (ret := (some .boolean)) (by decide) rfl ?_
  intro p e s m args below meth c s₁ B hml hv
  obtain ⟨rfl, hsz, hP, hK, hD0⟩ := hv
  have hx := B.exec
  have hb := B.bytes
  have hr := B.returns
  have hts := atoms_spec (ws := u_s_X12_isTold) B.pre
  have hown : s.vm.findClass RX12 = some m.cls := findClass_of_methodNamed B.named
  have hlocks := B.notSynchronized
  subst hsz
  have hD := hD0
  generalize hAe : va_A [] s.heap.size = A
  have hA : ∀ q : Nat, s.heap.size ≤ q → A q := fun q h => by rw [← hAe]; exact Or.inr h
  have hS : va_S A s.heap s.heap [] := va_S.rf
  have hP : va_P (dC, dI) vwCl [(h0, .inr (12, [.ref a_te, h0_1, h0_2, h0_3, h0_4, h0_5, h0_6, h0_7, h0_8, h0_9, h0_10, h0_11, h0_12, h0_13, h0_14, h0_15, h0_16, h0_17, h0_18, h0_19, h0_20, h0_21, h0_22, h0_23, h0_24, h0_25, h0_26, .ref a_wd, .int mf, .int mfp, .int mst, .int mnx, .int mkd, .int mwh, .int mpl, h0_35, h0_36, h0_37, h0_38, h0_39, h0_40, h0_41, h0_42, h0_43, h0_44, .int mcr, h0_46, .int mkr, .ref a_nm, .ref a_ns, .ref a_cf, .ref a_cm, .ref a_kt, .ref a_lf, .ref a_rt, .ref a_am, .ref a_ah, .ref a_gb, .int mom, .ref a_w, .ref a_o, .int mws, .ref a_h, .int mhs, .ref a_cp, .int mop, .int mhc, .int mwv, .int mmn, h0_69])), (a_te, .inl (ca_te, 700, .inl fa_te)), (a_ns, .inl (ca_ns, 6, .inl fa_ns)), (a_nm, .inl (ca_nm, 48, .inl fa_nm))] s.heap := hP
  have w__fieldLink_RX12_378_ShellHeapModel_causesRead_I_ := hts (.fieldLink RX12 378 "ShellHeapModel" "causesRead" "I") (z_mc (z_ml z_m0))
  have hiX12 := show ∀ w ∈ u_ws RX12 TX12 70, w ∈ u_s_X12_isTold from fun w h => z_mc (z_mr (z_ml h))
  have w__fieldLink_RX12_102_ShellHeapModel_nameSize_I_ := hts (.fieldLink RX12 102 "ShellHeapModel" "nameSize" "[I") (z_mc (z_ml z_m1))
  have w__fieldLink_RX12_207_ShellHeapModel_next_I_ := hts (.fieldLink RX12 207 "ShellHeapModel" "next" "I") (z_mc (z_ml z_m2))
  have w__fieldLink_RX12_201_ShellHeapModel_place_I_ := hts (.fieldLink RX12 201 "ShellHeapModel" "place" "I") (z_mc (z_ml z_m3))
  have w__fieldLink_RX12_99_ShellHeapModel_name_I_ := hts (.fieldLink RX12 99 "ShellHeapModel" "name" "[I") (z_mc (z_ml z_m4))
  have w__fieldLink_RX12_7_ShellHeapModel_tape_I_ := hts (.fieldLink RX12 7 "ShellHeapModel" "tape" "[I") (z_mc (z_ml z_m5))
  have hl := lv_entry ([.ref h0]) (n := 4) (Nat.le_of_ble_eq_true rfl)
  rw [lg_entry_eq]
  generalize (lg_sl ([.ref h0]) ++ List.replicate (4 - (lg_sl ([.ref h0])).length) Slot.unset).toArray = ls at hl ⊢
  have hl : lv_has ls 4 [(0, .ref h0)] := hl
  refine z_nameQ (fun QQ hQQ => ?_)
  refine lv_iconst (v := 0) hx hb dX12_isTold_0 (by decide) ?_
  refine lv_istore_n (lv' := [(1, .int 0), (0, .ref h0)]) hx hb dX12_isTold_1 rfl hl (by decide) rfl (fun ls hl => ?_)
  have loop_1 : ∀ (n_2 : Nat) (k_4 : Int32) (H : Heap) (locs : List Loc) (ls : Array Slot), (7 - (k_4).toInt).toNat < n_2 → (((0 : Int) ≤ (k_4).toInt ∧ (k_4).toInt ≤ (6 : Int))) → va_P (dC, dI) vwCl [(h0, .inr (12, [.ref a_te, h0_1, h0_2, h0_3, h0_4, h0_5, h0_6, h0_7, h0_8, h0_9, h0_10, h0_11, h0_12, h0_13, h0_14, h0_15, h0_16, h0_17, h0_18, h0_19, h0_20, h0_21, h0_22, h0_23, h0_24, h0_25, h0_26, .ref a_wd, .int mf, .int mfp, .int mst, .int mnx, .int mkd, .int mwh, .int mpl, h0_35, h0_36, h0_37, h0_38, h0_39, h0_40, h0_41, h0_42, h0_43, h0_44, .int mcr, h0_46, .int mkr, .ref a_nm, .ref a_ns, .ref a_cf, .ref a_cm, .ref a_kt, .ref a_lf, .ref a_rt, .ref a_am, .ref a_ah, .ref a_gb, .int mom, .ref a_w, .ref a_o, .int mws, .ref a_h, .int mhs, .ref a_cp, .int mop, .int mhc, .int mwv, .int mmn, h0_69])), (a_te, .inl (ca_te, 700, .inl fa_te)), (a_ns, .inl (ca_ns, 6, .inl fa_ns)), (a_nm, .inl (ca_nm, 48, .inl fa_nm))] H → va_D (fun _ => True) [(h0, .inr (12, [.ref a_te, h0_1, h0_2, h0_3, h0_4, h0_5, h0_6, h0_7, h0_8, h0_9, h0_10, h0_11, h0_12, h0_13, h0_14, h0_15, h0_16, h0_17, h0_18, h0_19, h0_20, h0_21, h0_22, h0_23, h0_24, h0_25, h0_26, .ref a_wd, .int mf, .int mfp, .int mst, .int mnx, .int mkd, .int mwh, .int mpl, h0_35, h0_36, h0_37, h0_38, h0_39, h0_40, h0_41, h0_42, h0_43, h0_44, .int mcr, h0_46, .int mkr, .ref a_nm, .ref a_ns, .ref a_cf, .ref a_cm, .ref a_kt, .ref a_lf, .ref a_rt, .ref a_am, .ref a_ah, .ref a_gb, .int mom, .ref a_w, .ref a_o, .int mws, .ref a_h, .int mhs, .ref a_cp, .int mop, .int mhc, .int mwv, .int mmn, h0_69])), (a_te, .inl (ca_te, 700, .inl fa_te)), (a_ns, .inl (ca_ns, 6, .inl fa_ns)), (a_nm, .inl (ca_nm, 48, .inl fa_nm))] → va_S A s.heap H locs → lv_has ls 4 [(1, .int k_4), (0, .ref h0)] → W p l e ({ frames := 0, cells := 0, slots := 0, locals := 0 } : Room) s m ([.ref h0] : List Value).toArray below meth c H locs 0 0 QQ (F0 m 2 ls []) := by
    intro n_2
    induction n_2 with
    | zero => intro k_4 H locs ls hm; exact absurd hm (Nat.not_lt_zero _)
    | succ n_2 ih_3 =>
      intro k_4 H locs ls hm hF_5 hP hD hS hl
      refine lv_iload_n hx hb dX12_isTold_2 rfl (lv_at hl 0 rfl) ?_
      refine lv_aload_n hx hb dX12_isTold_3 rfl (lv_at hl 1 rfl) ?_
      refine va_get (D := (dC, dI)) (ci := 12) (v := .int mcr) (C := RX12) (T := TX12) (N := 70) hx hb hts hiX12 hown hK hP 0 rfl rfl 45 (by decide) w__fieldLink_RX12_378_ShellHeapModel_causesRead_I_ (fun _ h9 => h9) rfl dX12_isTold_4 ?_
      refine lv_icmp_ge (tgt := 99) hx hb dX12_isTold_7 (by decide) (fun c_6 => ?_) (fun c_6 => ?_)
      · have k_7 : (mcr).toInt ≤ (k_4).toInt := z_le c_6
        refine lv_iconst (v := 0) hx hb dX12_isTold_99 (by decide) ?_
        refine z_backQ hQQ ?_
        refine W.widen (k := 0) (n := 0) (Nat.le_of_ble_eq_true rfl) (Nat.le_of_ble_eq_true rfl) ?_
        exact W.zret (v := 0) hx hb hr (by rfl) (fun t ht hW => ⟨⟨0, (), rfl, (show ((0 : Int) ≤ (0 : Int) ∧ (0 : Int) ≤ (1 : Int)) by decide), trivial⟩, hS.F ht⟩) hS.2.2 dX12_isTold_100
      · have k_8 : (mcr).toInt > (k_4).toInt := z_nle c_6
        refine lv_aload_n hx hb dX12_isTold_10 rfl (lv_at hl 1 rfl) ?_
        refine va_get (D := (dC, dI)) (ci := 12) (v := .ref a_ns) (C := RX12) (T := TX12) (N := 70) hx hb hts hiX12 hown hK hP 0 rfl rfl 49 (by decide) w__fieldLink_RX12_102_ShellHeapModel_nameSize_I_ (fun _ h9 => h9) rfl dX12_isTold_11 ?_
        refine lv_iload_n hx hb dX12_isTold_14 rfl (lv_at hl 0 rfl) ?_
        refine va_iald hx hb hK hP 2 1 rfl rfl (z_vpin (by omega) (by omega)) dX12_isTold_15 ?_
        refine lv_topi (fun z_9 ez_9 => ?_)
        have kz_9 : ((0 : Int) ≤ (z_9).toInt ∧ (z_9).toInt ≤ (8 : Int)) := by rw [ez_9]; exact hI_a_ns _
        have kxz_9 : (z_9).toInt = (fa_ns (k_4 : Int32).toNatClampNeg).toInt := by rw [ez_9]
        refine lv_aload_n hx hb dX12_isTold_16 rfl (lv_at hl 1 rfl) ?_
        refine va_get (D := (dC, dI)) (ci := 12) (v := .int mnx) (C := RX12) (T := TX12) (N := 70) hx hb hts hiX12 hown hK hP 0 rfl rfl 31 (by decide) w__fieldLink_RX12_207_ShellHeapModel_next_I_ (fun _ h9 => h9) rfl dX12_isTold_17 ?_
        refine lv_aload_n hx hb dX12_isTold_20 rfl (lv_at hl 1 rfl) ?_
        refine va_get (D := (dC, dI)) (ci := 12) (v := .int mpl) (C := RX12) (T := TX12) (N := 70) hx hb hts hiX12 hown hK hP 0 rfl rfl 34 (by decide) w__fieldLink_RX12_201_ShellHeapModel_place_I_ (fun _ h9 => h9) rfl dX12_isTold_21 ?_
        refine lv_isub hx hb dX12_isTold_24 ?_
        refine lv_topi (fun z_10 ez_10 => ?_)
        have kz_10 : (z_10).toInt = (mnx).toInt - (mpl).toInt := by rw [ez_10]; exact z_sub (a := (mnx).toInt) (b := (mpl).toInt) rfl rfl (by omega) (by omega)
        refine lv_icmp_ne (tgt := 32) hx hb dX12_isTold_25 (by decide) (fun c_11 => ?_) (fun c_11 => ?_)
        · have k_12 : (z_9).toInt ≠ (z_10).toInt := z_ne c_11
          refine lv_iconst (v := 0) hx hb dX12_isTold_32 (by decide) ?_
          refine lv_istore_n (lv' := [(2, .int 0), (1, .int k_4), (0, .ref h0)]) hx hb dX12_isTold_33 rfl hl (by decide) rfl (fun ls hl => ?_)
          refine lv_iconst (v := 0) hx hb dX12_isTold_34 (by decide) ?_
          refine lv_istore_n (lv' := [(3, .int 0), (2, .int 0), (1, .int k_4), (0, .ref h0)]) hx hb dX12_isTold_35 rfl hl (by decide) rfl (fun ls hl => ?_)
          have loop_13 : ∀ (n_14 : Nat) (sm_16 : Int32) (i_17 : Int32) (H : Heap) (locs : List Loc) (ls : Array Slot), (9 - (i_17).toInt).toNat < n_14 → (((0 : Int) ≤ (sm_16).toInt ∧ (sm_16).toInt ≤ (1 : Int))) → (((0 : Int) ≤ (i_17).toInt ∧ (i_17).toInt ≤ (8 : Int))) → ((sm_16).toInt = 0 ∨ (fa_ns (k_4 : Int32).toNatClampNeg).toInt = (mnx).toInt - (mpl).toInt) → va_P (dC, dI) vwCl [(h0, .inr (12, [.ref a_te, h0_1, h0_2, h0_3, h0_4, h0_5, h0_6, h0_7, h0_8, h0_9, h0_10, h0_11, h0_12, h0_13, h0_14, h0_15, h0_16, h0_17, h0_18, h0_19, h0_20, h0_21, h0_22, h0_23, h0_24, h0_25, h0_26, .ref a_wd, .int mf, .int mfp, .int mst, .int mnx, .int mkd, .int mwh, .int mpl, h0_35, h0_36, h0_37, h0_38, h0_39, h0_40, h0_41, h0_42, h0_43, h0_44, .int mcr, h0_46, .int mkr, .ref a_nm, .ref a_ns, .ref a_cf, .ref a_cm, .ref a_kt, .ref a_lf, .ref a_rt, .ref a_am, .ref a_ah, .ref a_gb, .int mom, .ref a_w, .ref a_o, .int mws, .ref a_h, .int mhs, .ref a_cp, .int mop, .int mhc, .int mwv, .int mmn, h0_69])), (a_te, .inl (ca_te, 700, .inl fa_te)), (a_ns, .inl (ca_ns, 6, .inl fa_ns)), (a_nm, .inl (ca_nm, 48, .inl fa_nm))] H → va_D (fun _ => True) [(h0, .inr (12, [.ref a_te, h0_1, h0_2, h0_3, h0_4, h0_5, h0_6, h0_7, h0_8, h0_9, h0_10, h0_11, h0_12, h0_13, h0_14, h0_15, h0_16, h0_17, h0_18, h0_19, h0_20, h0_21, h0_22, h0_23, h0_24, h0_25, h0_26, .ref a_wd, .int mf, .int mfp, .int mst, .int mnx, .int mkd, .int mwh, .int mpl, h0_35, h0_36, h0_37, h0_38, h0_39, h0_40, h0_41, h0_42, h0_43, h0_44, .int mcr, h0_46, .int mkr, .ref a_nm, .ref a_ns, .ref a_cf, .ref a_cm, .ref a_kt, .ref a_lf, .ref a_rt, .ref a_am, .ref a_ah, .ref a_gb, .int mom, .ref a_w, .ref a_o, .int mws, .ref a_h, .int mhs, .ref a_cp, .int mop, .int mhc, .int mwv, .int mmn, h0_69])), (a_te, .inl (ca_te, 700, .inl fa_te)), (a_ns, .inl (ca_ns, 6, .inl fa_ns)), (a_nm, .inl (ca_nm, 48, .inl fa_nm))] → va_S A s.heap H locs → lv_has ls 4 [(3, .int i_17), (2, .int sm_16), (1, .int k_4), (0, .ref h0)] → W p l e ({ frames := 0, cells := 0, slots := 0, locals := 0 } : Room) s m ([.ref h0] : List Value).toArray below meth c H locs 0 0 QQ (F0 m 36 ls []) := by
            intro n_14
            induction n_14 with
            | zero => intro sm_16 i_17 H locs ls hm; exact absurd hm (Nat.not_lt_zero _)
            | succ n_14 ih_15 =>
              intro sm_16 i_17 H locs ls hm hF_18 hF_19 hF_20 hP hD hS hl
              refine lv_iload_n hx hb dX12_isTold_36 rfl (lv_at hl 0 rfl) ?_
              refine lv_aload_n hx hb dX12_isTold_37 rfl (lv_at hl 3 rfl) ?_
              refine va_get (D := (dC, dI)) (ci := 12) (v := .ref a_ns) (C := RX12) (T := TX12) (N := 70) hx hb hts hiX12 hown hK hP 0 rfl rfl 49 (by decide) w__fieldLink_RX12_102_ShellHeapModel_nameSize_I_ (fun _ h9 => h9) rfl dX12_isTold_38 ?_
              refine lv_iload_n hx hb dX12_isTold_41 rfl (lv_at hl 2 rfl) ?_
              refine va_iald hx hb hK hP 2 1 rfl rfl (z_vpin (by omega) (by omega)) dX12_isTold_42 ?_
              refine lv_topi (fun z_21 ez_21 => ?_)
              have kz_21 : ((0 : Int) ≤ (z_21).toInt ∧ (z_21).toInt ≤ (8 : Int)) := by rw [ez_21]; exact hI_a_ns _
              have kxz_21 : (z_21).toInt = (fa_ns (k_4 : Int32).toNatClampNeg).toInt := by rw [ez_21]
              refine lv_icmp_ge (tgt := 87) hx hb dX12_isTold_43 (by decide) (fun c_22 => ?_) (fun c_22 => ?_)
              · have k_23 : (z_21).toInt ≤ (i_17).toInt := z_le c_22
                refine lv_iload_n hx hb dX12_isTold_87 rfl (lv_at hl 1 rfl) ?_
                refine lv_if_eq (tgt := 93) hx hb dX12_isTold_88 (by decide) (fun c_24 => ?_) (fun c_24 => ?_)
                · have k_25 : (sm_16).toInt = (0 : Int) := z_eq c_24
                  obtain rfl : sm_16 = 0 := z_eq' (show (sm_16).toInt = (0 : Int) by omega)
                  obtain ⟨z_27, ez_27⟩ : ∃ y : Int32, y = k_4 + 1 := ⟨_, rfl⟩
                  have kz_27 : (z_27).toInt = (k_4).toInt + (1 : Int) := by rw [ez_27]; exact z_add (b := 1) rfl rfl (z_al hF_5.1 (by decide)) (z_ah hF_5.2 (by decide))
                  refine lv_iinc (v := z_27) (lv' := [(1, .int z_27), (3, .int i_17), (2, .int 0), (0, .ref h0)]) hx hb dX12_isTold_93 hl (k := 2) rfl (by rw [ez_27]; rfl) (by decide) rfl (fun ls hl => ?_)
                  refine lv_goto (tgt := 2) hx hb dX12_isTold_96 (by decide) ?_
                  exact ih_3 z_27 _ _ _ (show (7 - (z_27).toInt).toNat < n_2 by omega) (show ((0 : Int) ≤ (z_27).toInt ∧ (z_27).toInt ≤ (6 : Int)) by omega) hP hD hS (lv_sub hl [0, 3] rfl)
                · have k_28 : (sm_16).toInt ≠ (0 : Int) := z_ne c_24
                  obtain rfl : sm_16 = 1 := z_eq' (show (sm_16).toInt = (1 : Int) by omega)
                  refine lv_iconst (v := 1) hx hb dX12_isTold_91 (by decide) ?_
                  refine z_backQ hQQ ?_
                  refine W.widen (k := 0) (n := 0) (Nat.le_of_ble_eq_true rfl) (Nat.le_of_ble_eq_true rfl) ?_
                  exact W.zret (v := 1) hx hb hr (by rfl) (fun t ht hW => ⟨⟨1, (), rfl, (show ((0 : Int) ≤ (1 : Int) ∧ (1 : Int) ≤ (1 : Int)) by decide), trivial⟩, hS.F ht⟩) hS.2.2 dX12_isTold_92
              · have k_30 : (z_21).toInt > (i_17).toInt := z_nle c_22
                refine lv_iload_n hx hb dX12_isTold_46 rfl (lv_at hl 1 rfl) ?_
                refine lv_if_eq (tgt := 87) hx hb dX12_isTold_47 (by decide) (fun c_31 => ?_) (fun c_31 => ?_)
                · have k_32 : (sm_16).toInt = (0 : Int) := z_eq c_31
                  obtain rfl : sm_16 = 0 := z_eq' (show (sm_16).toInt = (0 : Int) by omega)
                  refine lv_iload_n hx hb dX12_isTold_87 rfl (lv_at hl 1 rfl) ?_
                  refine lv_if_eq (tgt := 93) hx hb dX12_isTold_88 (by decide) (fun _ => ?_) (fun c_34 => absurd (by decide) c_34)
                  obtain ⟨z_35, ez_35⟩ : ∃ y : Int32, y = k_4 + 1 := ⟨_, rfl⟩
                  have kz_35 : (z_35).toInt = (k_4).toInt + (1 : Int) := by rw [ez_35]; exact z_add (b := 1) rfl rfl (z_al hF_5.1 (by decide)) (z_ah hF_5.2 (by decide))
                  refine lv_iinc (v := z_35) (lv' := [(1, .int z_35), (3, .int i_17), (2, .int 0), (0, .ref h0)]) hx hb dX12_isTold_93 hl (k := 2) rfl (by rw [ez_35]; rfl) (by decide) rfl (fun ls hl => ?_)
                  refine lv_goto (tgt := 2) hx hb dX12_isTold_96 (by decide) ?_
                  exact ih_3 z_35 _ _ _ (show (7 - (z_35).toInt).toNat < n_2 by omega) (show ((0 : Int) ≤ (z_35).toInt ∧ (z_35).toInt ≤ (6 : Int)) by omega) hP hD hS (lv_sub hl [0, 3] rfl)
                · have k_36 : (sm_16).toInt ≠ (0 : Int) := z_ne c_31
                  obtain rfl : sm_16 = 1 := z_eq' (show (sm_16).toInt = (1 : Int) by omega)
                  refine lv_aload_n hx hb dX12_isTold_50 rfl (lv_at hl 3 rfl) ?_
                  refine va_get (D := (dC, dI)) (ci := 12) (v := .ref a_nm) (C := RX12) (T := TX12) (N := 70) hx hb hts hiX12 hown hK hP 0 rfl rfl 48 (by decide) w__fieldLink_RX12_99_ShellHeapModel_name_I_ (fun _ h9 => h9) rfl dX12_isTold_51 ?_
                  refine lv_bipush (v := 8) hx hb dX12_isTold_54 (by decide) ?_
                  refine lv_iload_n hx hb dX12_isTold_56 rfl (lv_at hl 2 rfl) ?_
                  refine lv_imul hx hb dX12_isTold_57 ?_
                  refine lv_topi (fun z_38 ez_38 => ?_)
                  have kz_38 : (z_38).toInt = (8 : Int) * (k_4).toInt := by rw [ez_38]; exact z_mul (a := (8 : Int)) (b := (k_4).toInt) rfl rfl (by omega) (by omega)
                  refine lv_iload_n hx hb dX12_isTold_58 rfl (lv_at hl 0 rfl) ?_
                  refine lv_iadd hx hb dX12_isTold_59 ?_
                  refine lv_topi (fun z_39 ez_39 => ?_)
                  have kz_39 : (z_39).toInt = (z_38).toInt + (i_17).toInt := by rw [ez_39]; exact z_add (a := (z_38).toInt) (b := (i_17).toInt) rfl rfl (by omega) (by omega)
                  refine va_iald hx hb hK hP 3 2 rfl rfl (z_vpin (by omega) (by omega)) dX12_isTold_60 ?_
                  refine lv_topi (fun z_40 ez_40 => ?_)
                  refine lv_aload_n hx hb dX12_isTold_61 rfl (lv_at hl 3 rfl) ?_
                  refine va_get (D := (dC, dI)) (ci := 12) (v := .ref a_te) (C := RX12) (T := TX12) (N := 70) hx hb hts hiX12 hown hK hP 0 rfl rfl 0 (by decide) w__fieldLink_RX12_7_ShellHeapModel_tape_I_ (fun _ h9 => h9) rfl dX12_isTold_62 ?_
                  refine lv_aload_n hx hb dX12_isTold_65 rfl (lv_at hl 3 rfl) ?_
                  refine va_get (D := (dC, dI)) (ci := 12) (v := .int mpl) (C := RX12) (T := TX12) (N := 70) hx hb hts hiX12 hown hK hP 0 rfl rfl 34 (by decide) w__fieldLink_RX12_201_ShellHeapModel_place_I_ (fun _ h9 => h9) rfl dX12_isTold_66 ?_
                  refine lv_iload_n hx hb dX12_isTold_69 rfl (lv_at hl 0 rfl) ?_
                  refine lv_iadd hx hb dX12_isTold_70 ?_
                  refine lv_topi (fun z_41 ez_41 => ?_)
                  have kz_41 : (z_41).toInt = (mpl).toInt + (i_17).toInt := by rw [ez_41]; exact z_add (a := (mpl).toInt) (b := (i_17).toInt) rfl rfl (by omega) (by omega)
                  refine va_iald hx hb hK hP 1 0 rfl rfl (z_vpin (by omega) (by omega)) dX12_isTold_71 ?_
                  refine lv_topi (fun z_42 ez_42 => ?_)
                  have kz_42 : ((0 : Int) ≤ (z_42).toInt ∧ (z_42).toInt ≤ (255 : Int)) := by rw [ez_42]; exact hI_a_te _
                  refine lv_icmp_ne (tgt := 79) hx hb dX12_isTold_72 (by decide) (fun c_43 => ?_) (fun c_43 => ?_)
                  · have k_44 : (z_40).toInt ≠ (z_42).toInt := z_ne c_43
                    refine lv_iconst (v := 0) hx hb dX12_isTold_79 (by decide) ?_
                    refine lv_istore_n (lv' := [(2, .int 0), (3, .int i_17), (1, .int k_4), (0, .ref h0)]) hx hb dX12_isTold_80 rfl hl (by decide) rfl (fun ls hl => ?_)
                    obtain ⟨z_45, ez_45⟩ : ∃ y : Int32, y = i_17 + 1 := ⟨_, rfl⟩
                    have kz_45 : (z_45).toInt = (i_17).toInt + (1 : Int) := by rw [ez_45]; exact z_add (b := 1) rfl rfl (z_al hF_19.1 (by decide)) (z_ah hF_19.2 (by decide))
                    refine lv_iinc (v := z_45) (lv' := [(3, .int z_45), (2, .int 0), (1, .int k_4), (0, .ref h0)]) hx hb dX12_isTold_81 hl (k := 1) rfl (by rw [ez_45]; rfl) (by decide) rfl (fun ls hl => ?_)
                    refine lv_goto (tgt := 36) hx hb dX12_isTold_84 (by decide) ?_
                    exact ih_15 0 z_45 _ _ _ (show (9 - (z_45).toInt).toNat < n_14 by omega) (show ((0 : Int) ≤ (0 : Int) ∧ (0 : Int) ≤ (1 : Int)) by omega) (show ((0 : Int) ≤ (z_45).toInt ∧ (z_45).toInt ≤ (8 : Int)) by omega) (show (0 : Int) = 0 ∨ (fa_ns (k_4 : Int32).toNatClampNeg).toInt = (mnx).toInt - (mpl).toInt by omega) hP hD hS (lv_sub hl [0, 1, 2, 3] rfl)
                  · have k_46 : (z_40).toInt = (z_42).toInt := z_eq c_43
                    refine lv_iconst (v := 1) hx hb dX12_isTold_75 (by decide) ?_
                    refine lv_goto (tgt := 80) hx hb dX12_isTold_76 (by decide) ?_
                    refine lv_istore_n (lv' := [(2, .int 1), (3, .int i_17), (1, .int k_4), (0, .ref h0)]) hx hb dX12_isTold_80 rfl hl (by decide) rfl (fun ls hl => ?_)
                    obtain ⟨z_47, ez_47⟩ : ∃ y : Int32, y = i_17 + 1 := ⟨_, rfl⟩
                    have kz_47 : (z_47).toInt = (i_17).toInt + (1 : Int) := by rw [ez_47]; exact z_add (b := 1) rfl rfl (z_al hF_19.1 (by decide)) (z_ah hF_19.2 (by decide))
                    refine lv_iinc (v := z_47) (lv' := [(3, .int z_47), (2, .int 1), (1, .int k_4), (0, .ref h0)]) hx hb dX12_isTold_81 hl (k := 1) rfl (by rw [ez_47]; rfl) (by decide) rfl (fun ls hl => ?_)
                    refine lv_goto (tgt := 36) hx hb dX12_isTold_84 (by decide) ?_
                    exact ih_15 1 z_47 _ _ _ (show (9 - (z_47).toInt).toNat < n_14 by omega) (show ((0 : Int) ≤ (1 : Int) ∧ (1 : Int) ≤ (1 : Int)) by omega) (show ((0 : Int) ≤ (z_47).toInt ∧ (z_47).toInt ≤ (8 : Int)) by omega) (show (1 : Int) = 0 ∨ (fa_ns (k_4 : Int32).toNatClampNeg).toInt = (mnx).toInt - (mpl).toInt by omega) hP hD hS (lv_sub hl [0, 1, 2, 3] rfl)
          exact loop_13 _ 0 0 _ _ _ (Nat.lt_succ_self _) (show ((0 : Int) ≤ (0 : Int) ∧ (0 : Int) ≤ (1 : Int)) by omega) (show ((0 : Int) ≤ (0 : Int) ∧ (0 : Int) ≤ (8 : Int)) by omega) (show (0 : Int) = 0 ∨ (fa_ns (k_4 : Int32).toNatClampNeg).toInt = (mnx).toInt - (mpl).toInt by omega) hP hD hS hl
        · have k_48 : (z_9).toInt = (z_10).toInt := z_eq c_11
          refine lv_iconst (v := 1) hx hb dX12_isTold_28 (by decide) ?_
          refine lv_goto (tgt := 33) hx hb dX12_isTold_29 (by decide) ?_
          refine lv_istore_n (lv' := [(2, .int 1), (1, .int k_4), (0, .ref h0)]) hx hb dX12_isTold_33 rfl hl (by decide) rfl (fun ls hl => ?_)
          refine lv_iconst (v := 0) hx hb dX12_isTold_34 (by decide) ?_
          refine lv_istore_n (lv' := [(3, .int 0), (2, .int 1), (1, .int k_4), (0, .ref h0)]) hx hb dX12_isTold_35 rfl hl (by decide) rfl (fun ls hl => ?_)
          have loop_49 : ∀ (n_50 : Nat) (sm_52 : Int32) (i_53 : Int32) (H : Heap) (locs : List Loc) (ls : Array Slot), (9 - (i_53).toInt).toNat < n_50 → (((0 : Int) ≤ (sm_52).toInt ∧ (sm_52).toInt ≤ (1 : Int))) → (((0 : Int) ≤ (i_53).toInt ∧ (i_53).toInt ≤ (8 : Int))) → ((sm_52).toInt = 0 ∨ (fa_ns (k_4 : Int32).toNatClampNeg).toInt = (mnx).toInt - (mpl).toInt) → va_P (dC, dI) vwCl [(h0, .inr (12, [.ref a_te, h0_1, h0_2, h0_3, h0_4, h0_5, h0_6, h0_7, h0_8, h0_9, h0_10, h0_11, h0_12, h0_13, h0_14, h0_15, h0_16, h0_17, h0_18, h0_19, h0_20, h0_21, h0_22, h0_23, h0_24, h0_25, h0_26, .ref a_wd, .int mf, .int mfp, .int mst, .int mnx, .int mkd, .int mwh, .int mpl, h0_35, h0_36, h0_37, h0_38, h0_39, h0_40, h0_41, h0_42, h0_43, h0_44, .int mcr, h0_46, .int mkr, .ref a_nm, .ref a_ns, .ref a_cf, .ref a_cm, .ref a_kt, .ref a_lf, .ref a_rt, .ref a_am, .ref a_ah, .ref a_gb, .int mom, .ref a_w, .ref a_o, .int mws, .ref a_h, .int mhs, .ref a_cp, .int mop, .int mhc, .int mwv, .int mmn, h0_69])), (a_te, .inl (ca_te, 700, .inl fa_te)), (a_ns, .inl (ca_ns, 6, .inl fa_ns)), (a_nm, .inl (ca_nm, 48, .inl fa_nm))] H → va_D (fun _ => True) [(h0, .inr (12, [.ref a_te, h0_1, h0_2, h0_3, h0_4, h0_5, h0_6, h0_7, h0_8, h0_9, h0_10, h0_11, h0_12, h0_13, h0_14, h0_15, h0_16, h0_17, h0_18, h0_19, h0_20, h0_21, h0_22, h0_23, h0_24, h0_25, h0_26, .ref a_wd, .int mf, .int mfp, .int mst, .int mnx, .int mkd, .int mwh, .int mpl, h0_35, h0_36, h0_37, h0_38, h0_39, h0_40, h0_41, h0_42, h0_43, h0_44, .int mcr, h0_46, .int mkr, .ref a_nm, .ref a_ns, .ref a_cf, .ref a_cm, .ref a_kt, .ref a_lf, .ref a_rt, .ref a_am, .ref a_ah, .ref a_gb, .int mom, .ref a_w, .ref a_o, .int mws, .ref a_h, .int mhs, .ref a_cp, .int mop, .int mhc, .int mwv, .int mmn, h0_69])), (a_te, .inl (ca_te, 700, .inl fa_te)), (a_ns, .inl (ca_ns, 6, .inl fa_ns)), (a_nm, .inl (ca_nm, 48, .inl fa_nm))] → va_S A s.heap H locs → lv_has ls 4 [(3, .int i_53), (2, .int sm_52), (1, .int k_4), (0, .ref h0)] → W p l e ({ frames := 0, cells := 0, slots := 0, locals := 0 } : Room) s m ([.ref h0] : List Value).toArray below meth c H locs 0 0 QQ (F0 m 36 ls []) := by
            intro n_50
            induction n_50 with
            | zero => intro sm_52 i_53 H locs ls hm; exact absurd hm (Nat.not_lt_zero _)
            | succ n_50 ih_51 =>
              intro sm_52 i_53 H locs ls hm hF_54 hF_55 hF_56 hP hD hS hl
              refine lv_iload_n hx hb dX12_isTold_36 rfl (lv_at hl 0 rfl) ?_
              refine lv_aload_n hx hb dX12_isTold_37 rfl (lv_at hl 3 rfl) ?_
              refine va_get (D := (dC, dI)) (ci := 12) (v := .ref a_ns) (C := RX12) (T := TX12) (N := 70) hx hb hts hiX12 hown hK hP 0 rfl rfl 49 (by decide) w__fieldLink_RX12_102_ShellHeapModel_nameSize_I_ (fun _ h9 => h9) rfl dX12_isTold_38 ?_
              refine lv_iload_n hx hb dX12_isTold_41 rfl (lv_at hl 2 rfl) ?_
              refine va_iald hx hb hK hP 2 1 rfl rfl (z_vpin (by omega) (by omega)) dX12_isTold_42 ?_
              refine lv_topi (fun z_57 ez_57 => ?_)
              have kz_57 : ((0 : Int) ≤ (z_57).toInt ∧ (z_57).toInt ≤ (8 : Int)) := by rw [ez_57]; exact hI_a_ns _
              have kxz_57 : (z_57).toInt = (fa_ns (k_4 : Int32).toNatClampNeg).toInt := by rw [ez_57]
              refine lv_icmp_ge (tgt := 87) hx hb dX12_isTold_43 (by decide) (fun c_58 => ?_) (fun c_58 => ?_)
              · have k_59 : (z_57).toInt ≤ (i_53).toInt := z_le c_58
                refine lv_iload_n hx hb dX12_isTold_87 rfl (lv_at hl 1 rfl) ?_
                refine lv_if_eq (tgt := 93) hx hb dX12_isTold_88 (by decide) (fun c_60 => ?_) (fun c_60 => ?_)
                · have k_61 : (sm_52).toInt = (0 : Int) := z_eq c_60
                  obtain rfl : sm_52 = 0 := z_eq' (show (sm_52).toInt = (0 : Int) by omega)
                  obtain ⟨z_63, ez_63⟩ : ∃ y : Int32, y = k_4 + 1 := ⟨_, rfl⟩
                  have kz_63 : (z_63).toInt = (k_4).toInt + (1 : Int) := by rw [ez_63]; exact z_add (b := 1) rfl rfl (z_al hF_5.1 (by decide)) (z_ah hF_5.2 (by decide))
                  refine lv_iinc (v := z_63) (lv' := [(1, .int z_63), (3, .int i_53), (2, .int 0), (0, .ref h0)]) hx hb dX12_isTold_93 hl (k := 2) rfl (by rw [ez_63]; rfl) (by decide) rfl (fun ls hl => ?_)
                  refine lv_goto (tgt := 2) hx hb dX12_isTold_96 (by decide) ?_
                  exact ih_3 z_63 _ _ _ (show (7 - (z_63).toInt).toNat < n_2 by omega) (show ((0 : Int) ≤ (z_63).toInt ∧ (z_63).toInt ≤ (6 : Int)) by omega) hP hD hS (lv_sub hl [0, 3] rfl)
                · have k_64 : (sm_52).toInt ≠ (0 : Int) := z_ne c_60
                  obtain rfl : sm_52 = 1 := z_eq' (show (sm_52).toInt = (1 : Int) by omega)
                  refine lv_iconst (v := 1) hx hb dX12_isTold_91 (by decide) ?_
                  refine z_backQ hQQ ?_
                  refine W.widen (k := 0) (n := 0) (Nat.le_of_ble_eq_true rfl) (Nat.le_of_ble_eq_true rfl) ?_
                  exact W.zret (v := 1) hx hb hr (by rfl) (fun t ht hW => ⟨⟨1, (), rfl, (show ((0 : Int) ≤ (1 : Int) ∧ (1 : Int) ≤ (1 : Int)) by decide), trivial⟩, hS.F ht⟩) hS.2.2 dX12_isTold_92
              · have k_66 : (z_57).toInt > (i_53).toInt := z_nle c_58
                refine lv_iload_n hx hb dX12_isTold_46 rfl (lv_at hl 1 rfl) ?_
                refine lv_if_eq (tgt := 87) hx hb dX12_isTold_47 (by decide) (fun c_67 => ?_) (fun c_67 => ?_)
                · have k_68 : (sm_52).toInt = (0 : Int) := z_eq c_67
                  obtain rfl : sm_52 = 0 := z_eq' (show (sm_52).toInt = (0 : Int) by omega)
                  refine lv_iload_n hx hb dX12_isTold_87 rfl (lv_at hl 1 rfl) ?_
                  refine lv_if_eq (tgt := 93) hx hb dX12_isTold_88 (by decide) (fun _ => ?_) (fun c_70 => absurd (by decide) c_70)
                  obtain ⟨z_71, ez_71⟩ : ∃ y : Int32, y = k_4 + 1 := ⟨_, rfl⟩
                  have kz_71 : (z_71).toInt = (k_4).toInt + (1 : Int) := by rw [ez_71]; exact z_add (b := 1) rfl rfl (z_al hF_5.1 (by decide)) (z_ah hF_5.2 (by decide))
                  refine lv_iinc (v := z_71) (lv' := [(1, .int z_71), (3, .int i_53), (2, .int 0), (0, .ref h0)]) hx hb dX12_isTold_93 hl (k := 2) rfl (by rw [ez_71]; rfl) (by decide) rfl (fun ls hl => ?_)
                  refine lv_goto (tgt := 2) hx hb dX12_isTold_96 (by decide) ?_
                  exact ih_3 z_71 _ _ _ (show (7 - (z_71).toInt).toNat < n_2 by omega) (show ((0 : Int) ≤ (z_71).toInt ∧ (z_71).toInt ≤ (6 : Int)) by omega) hP hD hS (lv_sub hl [0, 3] rfl)
                · have k_72 : (sm_52).toInt ≠ (0 : Int) := z_ne c_67
                  obtain rfl : sm_52 = 1 := z_eq' (show (sm_52).toInt = (1 : Int) by omega)
                  refine lv_aload_n hx hb dX12_isTold_50 rfl (lv_at hl 3 rfl) ?_
                  refine va_get (D := (dC, dI)) (ci := 12) (v := .ref a_nm) (C := RX12) (T := TX12) (N := 70) hx hb hts hiX12 hown hK hP 0 rfl rfl 48 (by decide) w__fieldLink_RX12_99_ShellHeapModel_name_I_ (fun _ h9 => h9) rfl dX12_isTold_51 ?_
                  refine lv_bipush (v := 8) hx hb dX12_isTold_54 (by decide) ?_
                  refine lv_iload_n hx hb dX12_isTold_56 rfl (lv_at hl 2 rfl) ?_
                  refine lv_imul hx hb dX12_isTold_57 ?_
                  refine lv_topi (fun z_74 ez_74 => ?_)
                  have kz_74 : (z_74).toInt = (8 : Int) * (k_4).toInt := by rw [ez_74]; exact z_mul (a := (8 : Int)) (b := (k_4).toInt) rfl rfl (by omega) (by omega)
                  refine lv_iload_n hx hb dX12_isTold_58 rfl (lv_at hl 0 rfl) ?_
                  refine lv_iadd hx hb dX12_isTold_59 ?_
                  refine lv_topi (fun z_75 ez_75 => ?_)
                  have kz_75 : (z_75).toInt = (z_74).toInt + (i_53).toInt := by rw [ez_75]; exact z_add (a := (z_74).toInt) (b := (i_53).toInt) rfl rfl (by omega) (by omega)
                  refine va_iald hx hb hK hP 3 2 rfl rfl (z_vpin (by omega) (by omega)) dX12_isTold_60 ?_
                  refine lv_topi (fun z_76 ez_76 => ?_)
                  refine lv_aload_n hx hb dX12_isTold_61 rfl (lv_at hl 3 rfl) ?_
                  refine va_get (D := (dC, dI)) (ci := 12) (v := .ref a_te) (C := RX12) (T := TX12) (N := 70) hx hb hts hiX12 hown hK hP 0 rfl rfl 0 (by decide) w__fieldLink_RX12_7_ShellHeapModel_tape_I_ (fun _ h9 => h9) rfl dX12_isTold_62 ?_
                  refine lv_aload_n hx hb dX12_isTold_65 rfl (lv_at hl 3 rfl) ?_
                  refine va_get (D := (dC, dI)) (ci := 12) (v := .int mpl) (C := RX12) (T := TX12) (N := 70) hx hb hts hiX12 hown hK hP 0 rfl rfl 34 (by decide) w__fieldLink_RX12_201_ShellHeapModel_place_I_ (fun _ h9 => h9) rfl dX12_isTold_66 ?_
                  refine lv_iload_n hx hb dX12_isTold_69 rfl (lv_at hl 0 rfl) ?_
                  refine lv_iadd hx hb dX12_isTold_70 ?_
                  refine lv_topi (fun z_77 ez_77 => ?_)
                  have kz_77 : (z_77).toInt = (mpl).toInt + (i_53).toInt := by rw [ez_77]; exact z_add (a := (mpl).toInt) (b := (i_53).toInt) rfl rfl (by omega) (by omega)
                  refine va_iald hx hb hK hP 1 0 rfl rfl (z_vpin (by omega) (by omega)) dX12_isTold_71 ?_
                  refine lv_topi (fun z_78 ez_78 => ?_)
                  have kz_78 : ((0 : Int) ≤ (z_78).toInt ∧ (z_78).toInt ≤ (255 : Int)) := by rw [ez_78]; exact hI_a_te _
                  refine lv_icmp_ne (tgt := 79) hx hb dX12_isTold_72 (by decide) (fun c_79 => ?_) (fun c_79 => ?_)
                  · have k_80 : (z_76).toInt ≠ (z_78).toInt := z_ne c_79
                    refine lv_iconst (v := 0) hx hb dX12_isTold_79 (by decide) ?_
                    refine lv_istore_n (lv' := [(2, .int 0), (3, .int i_53), (1, .int k_4), (0, .ref h0)]) hx hb dX12_isTold_80 rfl hl (by decide) rfl (fun ls hl => ?_)
                    obtain ⟨z_81, ez_81⟩ : ∃ y : Int32, y = i_53 + 1 := ⟨_, rfl⟩
                    have kz_81 : (z_81).toInt = (i_53).toInt + (1 : Int) := by rw [ez_81]; exact z_add (b := 1) rfl rfl (z_al hF_55.1 (by decide)) (z_ah hF_55.2 (by decide))
                    refine lv_iinc (v := z_81) (lv' := [(3, .int z_81), (2, .int 0), (1, .int k_4), (0, .ref h0)]) hx hb dX12_isTold_81 hl (k := 1) rfl (by rw [ez_81]; rfl) (by decide) rfl (fun ls hl => ?_)
                    refine lv_goto (tgt := 36) hx hb dX12_isTold_84 (by decide) ?_
                    exact ih_51 0 z_81 _ _ _ (show (9 - (z_81).toInt).toNat < n_50 by omega) (show ((0 : Int) ≤ (0 : Int) ∧ (0 : Int) ≤ (1 : Int)) by omega) (show ((0 : Int) ≤ (z_81).toInt ∧ (z_81).toInt ≤ (8 : Int)) by omega) (show (0 : Int) = 0 ∨ (fa_ns (k_4 : Int32).toNatClampNeg).toInt = (mnx).toInt - (mpl).toInt by omega) hP hD hS (lv_sub hl [0, 1, 2, 3] rfl)
                  · have k_82 : (z_76).toInt = (z_78).toInt := z_eq c_79
                    refine lv_iconst (v := 1) hx hb dX12_isTold_75 (by decide) ?_
                    refine lv_goto (tgt := 80) hx hb dX12_isTold_76 (by decide) ?_
                    refine lv_istore_n (lv' := [(2, .int 1), (3, .int i_53), (1, .int k_4), (0, .ref h0)]) hx hb dX12_isTold_80 rfl hl (by decide) rfl (fun ls hl => ?_)
                    obtain ⟨z_83, ez_83⟩ : ∃ y : Int32, y = i_53 + 1 := ⟨_, rfl⟩
                    have kz_83 : (z_83).toInt = (i_53).toInt + (1 : Int) := by rw [ez_83]; exact z_add (b := 1) rfl rfl (z_al hF_55.1 (by decide)) (z_ah hF_55.2 (by decide))
                    refine lv_iinc (v := z_83) (lv' := [(3, .int z_83), (2, .int 1), (1, .int k_4), (0, .ref h0)]) hx hb dX12_isTold_81 hl (k := 1) rfl (by rw [ez_83]; rfl) (by decide) rfl (fun ls hl => ?_)
                    refine lv_goto (tgt := 36) hx hb dX12_isTold_84 (by decide) ?_
                    exact ih_51 1 z_83 _ _ _ (show (9 - (z_83).toInt).toNat < n_50 by omega) (show ((0 : Int) ≤ (1 : Int) ∧ (1 : Int) ≤ (1 : Int)) by omega) (show ((0 : Int) ≤ (z_83).toInt ∧ (z_83).toInt ≤ (8 : Int)) by omega) (show (1 : Int) = 0 ∨ (fa_ns (k_4 : Int32).toNatClampNeg).toInt = (mnx).toInt - (mpl).toInt by omega) hP hD hS (lv_sub hl [0, 1, 2, 3] rfl)
          exact loop_49 _ 1 0 _ _ _ (Nat.lt_succ_self _) (show ((0 : Int) ≤ (1 : Int) ∧ (1 : Int) ≤ (1 : Int)) by omega) (show ((0 : Int) ≤ (0 : Int) ∧ (0 : Int) ≤ (8 : Int)) by omega) (show (1 : Int) = 0 ∨ (fa_ns (k_4 : Int32).toNatClampNeg).toInt = (mnx).toInt - (mpl).toInt by omega) hP hD hS hl
  exact loop_1 _ 0 _ _ _ (Nat.lt_succ_self _) (show ((0 : Int) ≤ (0 : Int) ∧ (0 : Int) ≤ (6 : Int)) by omega) hP hD hS hl
