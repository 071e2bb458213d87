def u_s_X10_wordIn3 : List Cond := .code yX10_wordIn cX10_wordIn 7 (some .int) :: ([.fieldLink RX10 35 "ShellHeap$Tape" "sort" "I", .fieldLink RX10 29 "ShellHeap$Tape" "start" "I", .methodLink RX10 70 yJ0_length_8abf5, .instanceMethod yJ0_length_8abf5, .selects RJ0 yJ0_length_8abf5 yJ0_length_8abf5, .initialized RJ0, .fieldLink RX10 32 "ShellHeap$Tape" "end" "I", .methodLink RX10 76 yJ0_charAt_5068e, .instanceMethod yJ0_charAt_5068e, .selects RJ0 yJ0_charAt_5068e yJ0_charAt_5068e, .methodLink RX10 50 yX10_byteAt, .instanceMethod yX10_byteAt, .selects RX10 yX10_byteAt yX10_byteAt, .initialized RX10] ++ (wsX100 ++ (u_s_J0_length_8abf5 ++ (u_s_J0_charAt_5068e ++ (u_s_X10_byteAt4 ++ [])))))
theorem gd_s_X10_wordIn3 : z_gd u_s_X10_wordIn3 := z_gdc (by decide +kernel) (z_gda gdX10 (z_gda gd_s_J0_length_8abf5 (z_gda gd_s_J0_charAt_5068e (z_gda gd_s_X10_byteAt4 (z_gd0)))))
set_option maxRecDepth 20000 in
theorem gw_s_X10_wordIn3_s_J0_length_8abf5_70 : GoodIn u_s_X10_wordIn3 (wsV RX10 70 RJ0 yJ0_length_8abf5 u_s_J0_length_8abf5) := z_gV (z_gr _ [3, 4, 5, 6] rfl (by decide +kernel)) (fun w h => ⟨z_mc (z_mr (z_mr (z_ml h))), gd_s_J0_length_8abf5 w h⟩)
set_option maxRecDepth 20000 in
theorem gw_s_X10_wordIn3_s_J0_charAt_5068e_76 : GoodIn u_s_X10_wordIn3 (wsV RX10 76 RJ0 yJ0_charAt_5068e u_s_J0_charAt_5068e) := z_gV (z_gr _ [8, 9, 10, 6] rfl (by decide +kernel)) (fun w h => ⟨z_mc (z_mr (z_mr (z_mr (z_ml h)))), gd_s_J0_charAt_5068e w h⟩)
set_option maxRecDepth 20000 in
theorem gw_s_X10_wordIn3_s_X10_byteAt4_50 : GoodIn u_s_X10_wordIn3 (wsV RX10 50 RX10 yX10_byteAt u_s_X10_byteAt4) := z_gV (z_gr _ [11, 12, 13, 14] rfl (by decide +kernel)) (fun w h => ⟨z_mc (z_mr (z_mr (z_mr (z_mr (z_ml h))))), gd_s_X10_byteAt4 w h⟩)
set_option maxHeartbeats 4000000 in
set_option maxRecDepth 100000 in
theorem s_X10_wordIn3 (l : Launch) (dC : Nat → ClassId) (dI : Nat → Nat → Nat) (sz : Nat) (sd : Nat → Nat) (sv : Nat → Nat) (sf : Value) (sx : Nat) (h0 : Nat) (h1 : Nat) (tt : Int32) (h0_2 : Value) (h0_3 : Value) (h0_4 : Value) (ts : Int32) (te : Int32) (to : Int32) (tg : Int32) (h0_9 : Value) (h0_10 : Value) (ch1 : ClassId) (fh1 : Nat → Int32) (hB_tt : ((0 : Int) ≤ (tt).toInt ∧ (tt).toInt ≤ (700 : Int))) (hB_ts : ((0 : Int) ≤ (ts).toInt ∧ (ts).toInt ≤ (700 : Int))) (hB_te : ((0 : Int) ≤ (te).toInt ∧ (te).toInt ≤ (700 : Int))) (hI_h1 : ∀ j : Nat, ((0 : Int) ≤ (fh1 j).toInt ∧ (fh1 j).toInt ≤ (255 : Int))) (hsx : sx < 7) (hs0 : sx = 0) (hC : f_C fh1 tt.toInt to.toInt tg.toInt ts.toInt te.toInt) (het : te.toInt ≤ tt.toInt) : Met l yX10_wordIn u_s_X10_wordIn3 ({ frames := 4, cells := 0, slots := 0, locals := 85 }) (va_Pc [.ref h0, .ref (sd sx)] (z_CS (dC, dI) vwCl [(h0, .inr (10, [.ref h1, .int tt, h0_2, h0_3, h0_4, .int ts, .int te, .int to, .int tg, h0_9, h0_10])), (h1, .inl (ch1, 700, .inl fh1))] [(ch1, .int)] sz sd sv sf [])) (va_Qi (fun (r : Int32) (_ : Unit) => ((-1 : Int) ≤ (r).toInt ∧ (r).toInt ≤ (5 : Int)) ∧ f_wiA fh1 tt.toInt ts.toInt te.toInt (r).toInt) (fun (_ : Unit) (_ : State) => True) (va_A [] sz)) 0 0 (va_A [] sz) := by
  refine Met.ofW (cc := cX10_wordIn) (maxL := 7) (ret := (some .int)) (by decide) rfl ?_
  intro p e s m args below meth c s₁ B hml hv
  obtain ⟨rfl, ⟨hsz, hP, hK, hD0⟩, hST⟩ := hv
  have hx := B.exec
  have hb := B.bytes
  have hr := B.returns
  have hts := atoms_spec (ws := u_s_X10_wordIn3) B.pre
  have hown : s.vm.findClass RX10 = some m.cls := findClass_of_methodNamed B.named
  have hlocks := B.notSynchronized
  subst hsz
  have hD := hD0
  generalize hAe : va_A [] s.heap.size = A at hST ⊢
  have hA : ∀ q : Nat, s.heap.size ≤ q → A q := fun q h => by rw [← hAe]; exact Or.inr h
  have hS : va_S A s.heap s.heap [] := va_S.rf
  have hP : va_P (dC, dI) vwCl [(h0, .inr (10, [.ref h1, .int tt, h0_2, h0_3, h0_4, .int ts, .int te, .int to, .int tg, h0_9, h0_10])), (h1, .inl (ch1, 700, .inl fh1))] s.heap := hP
  have w__fieldLink_RX10_35_ShellHeap_Tape_sort_I_ := hts (.fieldLink RX10 35 "ShellHeap$Tape" "sort" "I") (z_mc (z_ml z_m0))
  have hiX10 := show ∀ w ∈ u_ws RX10 TX10 11, w ∈ u_s_X10_wordIn3 from fun w h => z_mc (z_mr (z_ml h))
  have w__fieldLink_RX10_29_ShellHeap_Tape_start_I_ := hts (.fieldLink RX10 29 "ShellHeap$Tape" "start" "I") (z_mc (z_ml z_m1))
  have w__fieldLink_RX10_32_ShellHeap_Tape_end_I_ := hts (.fieldLink RX10 32 "ShellHeap$Tape" "end" "I") (z_mc (z_ml z_m6))
  have hl := lv_entry ([.ref h0, .ref (sd sx)]) (n := 7) (Nat.le_of_ble_eq_true rfl)
  rw [lg_entry_eq]
  generalize (lg_sl ([.ref h0, .ref (sd sx)]) ++ List.replicate (7 - (lg_sl ([.ref h0, .ref (sd sx)])).length) Slot.unset).toArray = ls at hl ⊢
  have hl : lv_has ls 7 [(0, .ref h0), (1, .ref (sd sx))] := hl
  refine z_nameQ (fun QQ hQQ => ?_)
  have hlen := z_len_le hsx
  have hnw := z_nw_le hsx
  refine lv_aload_n hx hb dX10_wordIn_0 rfl (lv_at hl 0 rfl) ?_
  refine va_get (D := (dC, dI)) (ci := 10) (v := .int to) (C := RX10) (T := TX10) (N := 11) hx hb hts hiX10 hown hK hP 0 rfl rfl 7 (by decide) w__fieldLink_RX10_35_ShellHeap_Tape_sort_I_ (fun _ h9 => h9) rfl dX10_wordIn_1 ?_
  refine lv_iconst (v := 1) hx hb dX10_wordIn_4 (by decide) ?_
  refine lv_icmp_eq (tgt := 10) hx hb dX10_wordIn_5 (by decide) (fun c_1 => ?_) (fun c_1 => ?_)
  · have k_2 : (to).toInt = (1 : Int) := z_eq c_1
    refine lv_iconst (v := 0) hx hb dX10_wordIn_10 (by decide) ?_
    refine lv_istore_n (lv' := [(2, .int 0), (0, .ref h0), (1, .ref (sd sx))]) hx hb dX10_wordIn_11 rfl hl (by decide) rfl (fun ls hl => ?_)
    refine lv_aload_n hx hb dX10_wordIn_12 rfl (lv_at hl 1 rfl) ?_
    refine va_get (D := (dC, dI)) (ci := 10) (v := .int ts) (C := RX10) (T := TX10) (N := 11) hx hb hts hiX10 hown hK hP 0 rfl rfl 5 (by decide) w__fieldLink_RX10_29_ShellHeap_Tape_start_I_ (fun _ h9 => h9) rfl dX10_wordIn_13 ?_
    refine lv_istore_n (lv' := [(3, .int ts), (2, .int 0), (0, .ref h0), (1, .ref (sd sx))]) hx hb dX10_wordIn_16 rfl hl (by decide) rfl (fun ls hl => ?_)
    refine lv_iconst (v := 1) hx hb dX10_wordIn_17 (by decide) ?_
    refine lv_istore (lv' := [(4, .int 1), (3, .int ts), (2, .int 0), (0, .ref h0), (1, .ref (sd sx))]) hx hb dX10_wordIn_18 hl (by decide) rfl (fun ls hl => ?_)
    refine lv_iconst (v := 0) hx hb dX10_wordIn_20 (by decide) ?_
    refine lv_istore (lv' := [(5, .int 0), (4, .int 1), (3, .int ts), (2, .int 0), (0, .ref h0), (1, .ref (sd sx))]) hx hb dX10_wordIn_21 hl (by decide) rfl (fun ls hl => ?_)
    have loop_3 : ∀ (n_4 : Nat) (w_6 : Int32) (pl_7 : Int32) (sm_8 : Int32) (i_9 : Int32) (H : Heap) (locs : List Loc) (ls : Array Slot), (59 - (i_9).toInt).toNat < n_4 → (((0 : Int) ≤ (w_6).toInt ∧ (w_6).toInt ≤ (60 : Int))) → (((0 : Int) ≤ (pl_7).toInt ∧ (pl_7).toInt ≤ (800 : Int))) → (((0 : Int) ≤ (sm_8).toInt ∧ (sm_8).toInt ≤ (1 : Int))) → (((0 : Int) ≤ (i_9).toInt ∧ (i_9).toInt ≤ (58 : Int))) → (f_wI fh1 (ts).toInt (te).toInt (i_9 : Int32).toNatClampNeg (w_6).toInt (pl_7).toInt (sm_8).toInt) → ((w_6).toInt ≤ (i_9).toInt) → ((pl_7).toInt ≤ 700 + (i_9).toInt) → ((i_9).toInt ≤ ((z_len.getD sx 0 : Nat) : Int) + 1) → va_P (dC, dI) vwCl [(h0, .inr (10, [.ref h1, .int tt, h0_2, h0_3, h0_4, .int ts, .int te, .int to, .int tg, h0_9, h0_10])), (h1, .inl (ch1, 700, .inl fh1))] H → va_D (fun _ => True) [(h0, .inr (10, [.ref h1, .int tt, h0_2, h0_3, h0_4, .int ts, .int te, .int to, .int tg, h0_9, h0_10])), (h1, .inl (ch1, 700, .inl fh1))] → va_S A s.heap H locs → lv_has ls 7 [(5, .int i_9), (4, .int sm_8), (3, .int pl_7), (2, .int w_6), (0, .ref h0), (1, .ref (sd sx))] → W p l e ({ frames := 4, cells := 0, slots := 0, locals := 85 } : Room) s m ([.ref h0, .ref (sd sx)] : List Value).toArray below meth c H locs 0 0 QQ (F0 m 23 ls []) := by
      intro n_4
      induction n_4 with
      | zero => intro w_6 pl_7 sm_8 i_9 H locs ls hm; exact absurd hm (Nat.not_lt_zero _)
      | succ n_4 ih_5 =>
        intro w_6 pl_7 sm_8 i_9 H locs ls hm hF_10 hF_11 hF_12 hF_13 hF_14 hF_15 hF_16 hF_17 hP hD hS hl
        refine lv_iload hx hb dX10_wordIn_23 (lv_at hl 0 rfl) ?_
        refine lv_aload_n hx hb dX10_wordIn_25 rfl (lv_at hl 5 rfl) ?_
        obtain ⟨hPc, hDc⟩ := z_sub2 (ws' := []) hP hD [] (by decide) rfl
        have hKc := hK.sub (tys' := []) [] rfl
        have hFc := va_free (ws := []) (wc := []) (z_D0 _) hS hA [] rfl
        refine va_calli (va_runV (As := []) (rest := [.int i_9]) ⟨hx, hb, hml, hown, hts⟩ (s_J0_length_8abf5 l dC dI H.size sd sv sf sx hsx) (cwV 0 hts gw_s_X10_wordIn3_s_J0_length_8abf5_70 rfl rfl rfl (by decide +kernel) ⟨Nat.le_of_ble_eq_true rfl, Nat.le_of_ble_eq_true rfl⟩) ⟨z_blindS, vk_recv hST.1 hsx hS, z_preS hPc hKc hDc ((hST.kept hS.2.1).narrow hFc)⟩ rfl rfl hl.1 rfl (lv_room (Nat.le_of_ble_eq_true rfl)) dX10_wordIn_26 ⟨Nat.le_of_ble_eq_true rfl, Nat.le_of_ble_eq_true rfl⟩) hS (fun q _ h => hFc q h) hFc (fun r_19 u t H_18 locs ht hvm hw_20 hB hz1 hk1 hS => ?_)
        replace hP := z_pure hP hk1
        clear hPc hDc hKc
        refine lv_icmp_gt (tgt := 129) hx hb dX10_wordIn_29 (by decide) (fun c_21 => ?_) (fun c_21 => ?_)
        · have k_22 : (r_19).toInt < (i_9).toInt := z_lt c_21
          refine lv_iconst (v := (-1)) hx hb dX10_wordIn_129 (by decide) ?_
          refine z_backQ hQQ ?_
          refine W.widen (k := 0) (n := 0) (Nat.le_of_ble_eq_true rfl) (Nat.le_of_ble_eq_true rfl) ?_
          exact W.iret (v := (-1)) hx hb hr (fun t ht hW => ⟨⟨(-1), (), rfl, (show ((-1 : Int) ≤ (-1 : Int) ∧ (-1 : Int) ≤ (5 : Int)) ∧ f_wiA fh1 tt.toInt ts.toInt te.toInt (-1 : Int) from ⟨by decide, f_wi_n hC (Or.inr (f_wI_end hs0 (by omega) (by omega) hF_14)) rfl⟩), trivial⟩, hS.F ht⟩) hS.2.2 dX10_wordIn_130
        · have k_23 : (r_19).toInt ≥ (i_9).toInt := z_nlt c_21
          refine lv_iload hx hb dX10_wordIn_32 (lv_at hl 0 rfl) ?_
          refine lv_aload_n hx hb dX10_wordIn_34 rfl (lv_at hl 5 rfl) ?_
          obtain ⟨hPc, hDc⟩ := z_sub2 (ws' := []) hP hD [] (by decide) rfl
          have hKc := hK.sub (tys' := []) [] rfl
          have hFc := va_free (ws := []) (wc := []) (z_D0 _) hS hA [] rfl
          refine va_calli (va_runV (As := []) (rest := [.int i_9]) ⟨hx, hb, hml, hown, hts⟩ (s_J0_length_8abf5 l dC dI H_18.size sd sv sf sx hsx) (cwV 0 hts gw_s_X10_wordIn3_s_J0_length_8abf5_70 rfl rfl rfl (by decide +kernel) ⟨Nat.le_of_ble_eq_true rfl, Nat.le_of_ble_eq_true rfl⟩) ⟨z_blindS, vk_recv hST.1 hsx hS, z_preS hPc hKc hDc ((hST.kept hS.2.1).narrow hFc)⟩ rfl rfl hl.1 rfl (lv_room (Nat.le_of_ble_eq_true rfl)) dX10_wordIn_35 ⟨Nat.le_of_ble_eq_true rfl, Nat.le_of_ble_eq_true rfl⟩) hS (fun q _ h => hFc q h) hFc (fun r_25 u t H_24 locs ht hvm hw_26 hB hz1 hk1 hS => ?_)
          replace hP := z_pure hP hk1
          clear hPc hDc hKc
          refine lv_icmp_ge (tgt := 50) hx hb dX10_wordIn_38 (by decide) (fun c_27 => ?_) (fun c_27 => ?_)
          · have k_28 : (r_25).toInt ≤ (i_9).toInt := z_le c_27
            refine lv_bipush (v := 32) hx hb dX10_wordIn_50 (by decide) ?_
            refine lv_istore (lv' := [(6, .int 32), (5, .int i_9), (4, .int sm_8), (3, .int pl_7), (2, .int w_6), (0, .ref h0), (1, .ref (sd sx))]) hx hb dX10_wordIn_52 hl (by decide) rfl (fun ls hl => ?_)
            refine lv_iload hx hb dX10_wordIn_54 (lv_at hl 0 rfl) ?_
            refine lv_bipush (v := 32) hx hb dX10_wordIn_56 (by decide) ?_
            refine lv_icmp_eq (tgt := 97) hx hb dX10_wordIn_58 (by decide) (fun _ => ?_) (fun c_29 => absurd (by decide) c_29)
            refine lv_iload hx hb dX10_wordIn_97 (lv_at hl 2 rfl) ?_
            refine lv_if_eq (tgt := 112) hx hb dX10_wordIn_99 (by decide) (fun c_30 => ?_) (fun c_30 => ?_)
            · have k_31 : (sm_8).toInt = (0 : Int) := z_eq c_30
              obtain rfl : sm_8 = 0 := z_eq' (show (sm_8).toInt = (0 : Int) by omega)
              obtain ⟨z_33, ez_33⟩ : ∃ y : Int32, y = w_6 + 1 := ⟨_, rfl⟩
              have kz_33 : (z_33).toInt = (w_6).toInt + (1 : Int) := by rw [ez_33]; exact z_add (b := 1) rfl rfl (z_al hF_10.1 (by decide)) (z_ah hF_10.2 (by decide))
              refine lv_iinc (v := z_33) (lv' := [(2, .int z_33), (6, .int 32), (5, .int i_9), (4, .int 0), (3, .int pl_7), (0, .ref h0), (1, .ref (sd sx))]) hx hb dX10_wordIn_112 hl (k := 4) rfl (by rw [ez_33]; rfl) (by decide) rfl (fun ls hl => ?_)
              refine lv_aload_n hx hb dX10_wordIn_115 rfl (lv_at hl 5 rfl) ?_
              refine va_get (D := (dC, dI)) (ci := 10) (v := .int ts) (C := RX10) (T := TX10) (N := 11) hx hb hts hiX10 hown hK hP 0 rfl rfl 5 (by decide) w__fieldLink_RX10_29_ShellHeap_Tape_start_I_ (fun _ h9 => h9) rfl dX10_wordIn_116 ?_
              refine lv_istore_n (lv' := [(3, .int ts), (2, .int z_33), (6, .int 32), (5, .int i_9), (4, .int 0), (0, .ref h0), (1, .ref (sd sx))]) hx hb dX10_wordIn_119 rfl hl (by decide) rfl (fun ls hl => ?_)
              refine lv_iconst (v := 1) hx hb dX10_wordIn_120 (by decide) ?_
              refine lv_istore (lv' := [(4, .int 1), (3, .int ts), (2, .int z_33), (6, .int 32), (5, .int i_9), (0, .ref h0), (1, .ref (sd sx))]) hx hb dX10_wordIn_121 hl (by decide) rfl (fun ls hl => ?_)
              obtain ⟨z_34, ez_34⟩ : ∃ y : Int32, y = i_9 + 1 := ⟨_, rfl⟩
              have kz_34 : (z_34).toInt = (i_9).toInt + (1 : Int) := by rw [ez_34]; exact z_add (b := 1) rfl rfl (z_al hF_13.1 (by decide)) (z_ah hF_13.2 (by decide))
              refine lv_iinc (v := z_34) (lv' := [(5, .int z_34), (4, .int 1), (3, .int ts), (2, .int z_33), (6, .int 32), (0, .ref h0), (1, .ref (sd sx))]) hx hb dX10_wordIn_123 hl (k := 4) rfl (by rw [ez_34]; rfl) (by decide) rfl (fun ls hl => ?_)
              refine lv_goto (tgt := 23) hx hb dX10_wordIn_126 (by decide) ?_
              exact ih_5 z_33 ts 1 z_34 _ _ _ (show (59 - (z_34).toInt).toNat < n_4 by omega) (show ((0 : Int) ≤ (z_33).toInt ∧ (z_33).toInt ≤ (60 : Int)) by omega) (show ((0 : Int) ≤ (ts).toInt ∧ (ts).toInt ≤ (800 : Int)) by omega) (show ((0 : Int) ≤ (1 : Int) ∧ (1 : Int) ≤ (1 : Int)) by omega) (show ((0 : Int) ≤ (z_34).toInt ∧ (z_34).toInt ≤ (58 : Int)) by omega) (show f_wI fh1 (ts).toInt (te).toInt (z_34 : Int32).toNatClampNeg (z_33).toInt (ts).toInt (1 : Int) from f_wI_b hs0 ez_34 (by omega) (by omega) (by first | exact Or.inl (z_ncn (by omega))) hF_14 (by omega) (by first | exact Or.inl (by first | omega | decide) | exact Or.inr (by omega))) (show (z_33).toInt ≤ (z_34).toInt by omega) (show (ts).toInt ≤ 700 + (z_34).toInt by omega) (show (z_34).toInt ≤ ((z_len.getD sx 0 : Nat) : Int) + 1 by omega) hP hD hS (lv_sub hl [0, 1, 2, 3, 5, 6] rfl)
            · have k_35 : (sm_8).toInt ≠ (0 : Int) := z_ne c_30
              obtain rfl : sm_8 = 1 := z_eq' (show (sm_8).toInt = (1 : Int) by omega)
              refine lv_iload_n hx hb dX10_wordIn_102 rfl (lv_at hl 3 rfl) ?_
              refine lv_aload_n hx hb dX10_wordIn_103 rfl (lv_at hl 5 rfl) ?_
              refine va_get (D := (dC, dI)) (ci := 10) (v := .int te) (C := RX10) (T := TX10) (N := 11) hx hb hts hiX10 hown hK hP 0 rfl rfl 6 (by decide) w__fieldLink_RX10_32_ShellHeap_Tape_end_I_ (fun _ h9 => h9) rfl dX10_wordIn_104 ?_
              refine lv_icmp_ne (tgt := 112) hx hb dX10_wordIn_107 (by decide) (fun c_37 => ?_) (fun c_37 => ?_)
              · have k_38 : (pl_7).toInt ≠ (te).toInt := z_ne c_37
                obtain ⟨z_39, ez_39⟩ : ∃ y : Int32, y = w_6 + 1 := ⟨_, rfl⟩
                have kz_39 : (z_39).toInt = (w_6).toInt + (1 : Int) := by rw [ez_39]; exact z_add (b := 1) rfl rfl (z_al hF_10.1 (by decide)) (z_ah hF_10.2 (by decide))
                refine lv_iinc (v := z_39) (lv' := [(2, .int z_39), (6, .int 32), (5, .int i_9), (4, .int 1), (3, .int pl_7), (0, .ref h0), (1, .ref (sd sx))]) hx hb dX10_wordIn_112 hl (k := 4) rfl (by rw [ez_39]; rfl) (by decide) rfl (fun ls hl => ?_)
                refine lv_aload_n hx hb dX10_wordIn_115 rfl (lv_at hl 5 rfl) ?_
                refine va_get (D := (dC, dI)) (ci := 10) (v := .int ts) (C := RX10) (T := TX10) (N := 11) hx hb hts hiX10 hown hK hP 0 rfl rfl 5 (by decide) w__fieldLink_RX10_29_ShellHeap_Tape_start_I_ (fun _ h9 => h9) rfl dX10_wordIn_116 ?_
                refine lv_istore_n (lv' := [(3, .int ts), (2, .int z_39), (6, .int 32), (5, .int i_9), (4, .int 1), (0, .ref h0), (1, .ref (sd sx))]) hx hb dX10_wordIn_119 rfl hl (by decide) rfl (fun ls hl => ?_)
                refine lv_iconst (v := 1) hx hb dX10_wordIn_120 (by decide) ?_
                refine lv_istore (lv' := [(4, .int 1), (3, .int ts), (2, .int z_39), (6, .int 32), (5, .int i_9), (0, .ref h0), (1, .ref (sd sx))]) hx hb dX10_wordIn_121 hl (by decide) rfl (fun ls hl => ?_)
                obtain ⟨z_40, ez_40⟩ : ∃ y : Int32, y = i_9 + 1 := ⟨_, rfl⟩
                have kz_40 : (z_40).toInt = (i_9).toInt + (1 : Int) := by rw [ez_40]; exact z_add (b := 1) rfl rfl (z_al hF_13.1 (by decide)) (z_ah hF_13.2 (by decide))
                refine lv_iinc (v := z_40) (lv' := [(5, .int z_40), (4, .int 1), (3, .int ts), (2, .int z_39), (6, .int 32), (0, .ref h0), (1, .ref (sd sx))]) hx hb dX10_wordIn_123 hl (k := 4) rfl (by rw [ez_40]; rfl) (by decide) rfl (fun ls hl => ?_)
                refine lv_goto (tgt := 23) hx hb dX10_wordIn_126 (by decide) ?_
                exact ih_5 z_39 ts 1 z_40 _ _ _ (show (59 - (z_40).toInt).toNat < n_4 by omega) (show ((0 : Int) ≤ (z_39).toInt ∧ (z_39).toInt ≤ (60 : Int)) by omega) (show ((0 : Int) ≤ (ts).toInt ∧ (ts).toInt ≤ (800 : Int)) by omega) (show ((0 : Int) ≤ (1 : Int) ∧ (1 : Int) ≤ (1 : Int)) by omega) (show ((0 : Int) ≤ (z_40).toInt ∧ (z_40).toInt ≤ (58 : Int)) by omega) (show f_wI fh1 (ts).toInt (te).toInt (z_40 : Int32).toNatClampNeg (z_39).toInt (ts).toInt (1 : Int) from f_wI_b hs0 ez_40 (by omega) (by omega) (by first | exact Or.inl (z_ncn (by omega))) hF_14 (by omega) (by first | exact Or.inl (by first | omega | decide) | exact Or.inr (by omega))) (show (z_39).toInt ≤ (z_40).toInt by omega) (show (ts).toInt ≤ 700 + (z_40).toInt by omega) (show (z_40).toInt ≤ ((z_len.getD sx 0 : Nat) : Int) + 1 by omega) hP hD hS (lv_sub hl [0, 1, 2, 3, 5, 6] rfl)
              · have k_41 : (pl_7).toInt = (te).toInt := z_eq c_37
                refine lv_iload_n hx hb dX10_wordIn_110 rfl (lv_at hl 4 rfl) ?_
                refine z_backQ hQQ ?_
                refine W.widen (k := 0) (n := 0) (Nat.le_of_ble_eq_true rfl) (Nat.le_of_ble_eq_true rfl) ?_
                exact W.iret (v := w_6) hx hb hr (fun t ht hW => ⟨⟨w_6, (), rfl, (show ((-1 : Int) ≤ (w_6).toInt ∧ (w_6).toInt ≤ (5 : Int)) ∧ f_wiA fh1 tt.toInt ts.toInt te.toInt (w_6).toInt by obtain ⟨v9, hv9, hm9, hw9⟩ := f_wI_hit hs0 (by omega) (by omega) (by first | exact Or.inl (z_ncn (by omega))) hF_14 (by first | omega | decide) (by omega); exact ⟨⟨by omega, by omega⟩, f_wi_y hC (by first | omega | decide) hv9 hm9 hw9⟩), trivial⟩, hS.F ht⟩) hS.2.2 dX10_wordIn_111
          · have k_42 : (r_25).toInt > (i_9).toInt := z_nle c_27
            refine lv_aload_n hx hb dX10_wordIn_41 rfl (lv_at hl 5 rfl) ?_
            refine lv_iload hx hb dX10_wordIn_42 (lv_at hl 0 rfl) ?_
            obtain ⟨hPc, hDc⟩ := z_sub2 (ws' := []) hP hD [] (by decide) rfl
            have hKc := hK.sub (tys' := []) [] rfl
            have hFc := va_free (ws := []) (wc := []) (z_D0 _) hS hA [] rfl
            refine va_calli (va_runV (As := [.int i_9]) (rest := []) ⟨hx, hb, hml, hown, hts⟩ (s_J0_charAt_5068e l dC dI H_24.size sd sv sf sx i_9 (by first | omega | decide) hsx (by first | omega | decide)) (cwV 1 hts gw_s_X10_wordIn3_s_J0_charAt_5068e_76 rfl rfl rfl (by decide +kernel) ⟨Nat.le_of_ble_eq_true rfl, Nat.le_of_ble_eq_true rfl⟩) ⟨z_blindS, vk_recv hST.1 hsx hS, z_preS hPc hKc hDc ((hST.kept hS.2.1).narrow hFc)⟩ rfl rfl hl.1 rfl (lv_room (Nat.le_of_ble_eq_true rfl)) dX10_wordIn_44 ⟨Nat.le_of_ble_eq_true rfl, Nat.le_of_ble_eq_true rfl⟩) hS (fun q _ h => hFc q h) hFc (fun r_44 u t H_43 locs ht hvm hw_45 hB hz1 hk1 hS => ?_)
            replace hP := z_pure hP hk1
            clear hPc hDc hKc
            refine lv_goto (tgt := 52) hx hb dX10_wordIn_47 (by decide) ?_
            refine lv_istore (lv' := [(6, .int r_44), (5, .int i_9), (4, .int sm_8), (3, .int pl_7), (2, .int w_6), (0, .ref h0), (1, .ref (sd sx))]) hx hb dX10_wordIn_52 hl (by decide) rfl (fun ls hl => ?_)
            refine lv_iload hx hb dX10_wordIn_54 (lv_at hl 0 rfl) ?_
            refine lv_bipush (v := 32) hx hb dX10_wordIn_56 (by decide) ?_
            refine lv_icmp_eq (tgt := 97) hx hb dX10_wordIn_58 (by decide) (fun c_46 => ?_) (fun c_46 => ?_)
            · have k_47 : (r_44).toInt = (32 : Int) := z_eq c_46
              obtain rfl : r_44 = 32 := z_eq' (show (r_44).toInt = (32 : Int) by omega)
              refine lv_iload hx hb dX10_wordIn_97 (lv_at hl 2 rfl) ?_
              refine lv_if_eq (tgt := 112) hx hb dX10_wordIn_99 (by decide) (fun c_49 => ?_) (fun c_49 => ?_)
              · have k_50 : (sm_8).toInt = (0 : Int) := z_eq c_49
                obtain rfl : sm_8 = 0 := z_eq' (show (sm_8).toInt = (0 : Int) by omega)
                obtain ⟨z_52, ez_52⟩ : ∃ y : Int32, y = w_6 + 1 := ⟨_, rfl⟩
                have kz_52 : (z_52).toInt = (w_6).toInt + (1 : Int) := by rw [ez_52]; exact z_add (b := 1) rfl rfl (z_al hF_10.1 (by decide)) (z_ah hF_10.2 (by decide))
                refine lv_iinc (v := z_52) (lv' := [(2, .int z_52), (6, .int 32), (5, .int i_9), (4, .int 0), (3, .int pl_7), (0, .ref h0), (1, .ref (sd sx))]) hx hb dX10_wordIn_112 hl (k := 4) rfl (by rw [ez_52]; rfl) (by decide) rfl (fun ls hl => ?_)
                refine lv_aload_n hx hb dX10_wordIn_115 rfl (lv_at hl 5 rfl) ?_
                refine va_get (D := (dC, dI)) (ci := 10) (v := .int ts) (C := RX10) (T := TX10) (N := 11) hx hb hts hiX10 hown hK hP 0 rfl rfl 5 (by decide) w__fieldLink_RX10_29_ShellHeap_Tape_start_I_ (fun _ h9 => h9) rfl dX10_wordIn_116 ?_
                refine lv_istore_n (lv' := [(3, .int ts), (2, .int z_52), (6, .int 32), (5, .int i_9), (4, .int 0), (0, .ref h0), (1, .ref (sd sx))]) hx hb dX10_wordIn_119 rfl hl (by decide) rfl (fun ls hl => ?_)
                refine lv_iconst (v := 1) hx hb dX10_wordIn_120 (by decide) ?_
                refine lv_istore (lv' := [(4, .int 1), (3, .int ts), (2, .int z_52), (6, .int 32), (5, .int i_9), (0, .ref h0), (1, .ref (sd sx))]) hx hb dX10_wordIn_121 hl (by decide) rfl (fun ls hl => ?_)
                obtain ⟨z_53, ez_53⟩ : ∃ y : Int32, y = i_9 + 1 := ⟨_, rfl⟩
                have kz_53 : (z_53).toInt = (i_9).toInt + (1 : Int) := by rw [ez_53]; exact z_add (b := 1) rfl rfl (z_al hF_13.1 (by decide)) (z_ah hF_13.2 (by decide))
                refine lv_iinc (v := z_53) (lv' := [(5, .int z_53), (4, .int 1), (3, .int ts), (2, .int z_52), (6, .int 32), (0, .ref h0), (1, .ref (sd sx))]) hx hb dX10_wordIn_123 hl (k := 4) rfl (by rw [ez_53]; rfl) (by decide) rfl (fun ls hl => ?_)
                refine lv_goto (tgt := 23) hx hb dX10_wordIn_126 (by decide) ?_
                exact ih_5 z_52 ts 1 z_53 _ _ _ (show (59 - (z_53).toInt).toNat < n_4 by omega) (show ((0 : Int) ≤ (z_52).toInt ∧ (z_52).toInt ≤ (60 : Int)) by omega) (show ((0 : Int) ≤ (ts).toInt ∧ (ts).toInt ≤ (800 : Int)) by omega) (show ((0 : Int) ≤ (1 : Int) ∧ (1 : Int) ≤ (1 : Int)) by omega) (show ((0 : Int) ≤ (z_53).toInt ∧ (z_53).toInt ≤ (58 : Int)) by omega) (show f_wI fh1 (ts).toInt (te).toInt (z_53 : Int32).toNatClampNeg (z_52).toInt (ts).toInt (1 : Int) from f_wI_b hs0 ez_53 (by omega) (by omega) (by first | exact Or.inl (z_ncn (by omega)) | exact Or.inr (by rw [← hw_45]; first | decide | omega)) hF_14 (by omega) (by first | exact Or.inl (by first | omega | decide) | exact Or.inr (by omega))) (show (z_52).toInt ≤ (z_53).toInt by omega) (show (ts).toInt ≤ 700 + (z_53).toInt by omega) (show (z_53).toInt ≤ ((z_len.getD sx 0 : Nat) : Int) + 1 by omega) hP hD hS (lv_sub hl [0, 1, 2, 3, 5, 6] rfl)
              · have k_54 : (sm_8).toInt ≠ (0 : Int) := z_ne c_49
                obtain rfl : sm_8 = 1 := z_eq' (show (sm_8).toInt = (1 : Int) by omega)
                refine lv_iload_n hx hb dX10_wordIn_102 rfl (lv_at hl 3 rfl) ?_
                refine lv_aload_n hx hb dX10_wordIn_103 rfl (lv_at hl 5 rfl) ?_
                refine va_get (D := (dC, dI)) (ci := 10) (v := .int te) (C := RX10) (T := TX10) (N := 11) hx hb hts hiX10 hown hK hP 0 rfl rfl 6 (by decide) w__fieldLink_RX10_32_ShellHeap_Tape_end_I_ (fun _ h9 => h9) rfl dX10_wordIn_104 ?_
                refine lv_icmp_ne (tgt := 112) hx hb dX10_wordIn_107 (by decide) (fun c_56 => ?_) (fun c_56 => ?_)
                · have k_57 : (pl_7).toInt ≠ (te).toInt := z_ne c_56
                  obtain ⟨z_58, ez_58⟩ : ∃ y : Int32, y = w_6 + 1 := ⟨_, rfl⟩
                  have kz_58 : (z_58).toInt = (w_6).toInt + (1 : Int) := by rw [ez_58]; exact z_add (b := 1) rfl rfl (z_al hF_10.1 (by decide)) (z_ah hF_10.2 (by decide))
                  refine lv_iinc (v := z_58) (lv' := [(2, .int z_58), (6, .int 32), (5, .int i_9), (4, .int 1), (3, .int pl_7), (0, .ref h0), (1, .ref (sd sx))]) hx hb dX10_wordIn_112 hl (k := 4) rfl (by rw [ez_58]; rfl) (by decide) rfl (fun ls hl => ?_)
                  refine lv_aload_n hx hb dX10_wordIn_115 rfl (lv_at hl 5 rfl) ?_
                  refine va_get (D := (dC, dI)) (ci := 10) (v := .int ts) (C := RX10) (T := TX10) (N := 11) hx hb hts hiX10 hown hK hP 0 rfl rfl 5 (by decide) w__fieldLink_RX10_29_ShellHeap_Tape_start_I_ (fun _ h9 => h9) rfl dX10_wordIn_116 ?_
                  refine lv_istore_n (lv' := [(3, .int ts), (2, .int z_58), (6, .int 32), (5, .int i_9), (4, .int 1), (0, .ref h0), (1, .ref (sd sx))]) hx hb dX10_wordIn_119 rfl hl (by decide) rfl (fun ls hl => ?_)
                  refine lv_iconst (v := 1) hx hb dX10_wordIn_120 (by decide) ?_
                  refine lv_istore (lv' := [(4, .int 1), (3, .int ts), (2, .int z_58), (6, .int 32), (5, .int i_9), (0, .ref h0), (1, .ref (sd sx))]) hx hb dX10_wordIn_121 hl (by decide) rfl (fun ls hl => ?_)
                  obtain ⟨z_59, ez_59⟩ : ∃ y : Int32, y = i_9 + 1 := ⟨_, rfl⟩
                  have kz_59 : (z_59).toInt = (i_9).toInt + (1 : Int) := by rw [ez_59]; exact z_add (b := 1) rfl rfl (z_al hF_13.1 (by decide)) (z_ah hF_13.2 (by decide))
                  refine lv_iinc (v := z_59) (lv' := [(5, .int z_59), (4, .int 1), (3, .int ts), (2, .int z_58), (6, .int 32), (0, .ref h0), (1, .ref (sd sx))]) hx hb dX10_wordIn_123 hl (k := 4) rfl (by rw [ez_59]; rfl) (by decide) rfl (fun ls hl => ?_)
                  refine lv_goto (tgt := 23) hx hb dX10_wordIn_126 (by decide) ?_
                  exact ih_5 z_58 ts 1 z_59 _ _ _ (show (59 - (z_59).toInt).toNat < n_4 by omega) (show ((0 : Int) ≤ (z_58).toInt ∧ (z_58).toInt ≤ (60 : Int)) by omega) (show ((0 : Int) ≤ (ts).toInt ∧ (ts).toInt ≤ (800 : Int)) by omega) (show ((0 : Int) ≤ (1 : Int) ∧ (1 : Int) ≤ (1 : Int)) by omega) (show ((0 : Int) ≤ (z_59).toInt ∧ (z_59).toInt ≤ (58 : Int)) by omega) (show f_wI fh1 (ts).toInt (te).toInt (z_59 : Int32).toNatClampNeg (z_58).toInt (ts).toInt (1 : Int) from f_wI_b hs0 ez_59 (by omega) (by omega) (by first | exact Or.inl (z_ncn (by omega)) | exact Or.inr (by rw [← hw_45]; first | decide | omega)) hF_14 (by omega) (by first | exact Or.inl (by first | omega | decide) | exact Or.inr (by omega))) (show (z_58).toInt ≤ (z_59).toInt by omega) (show (ts).toInt ≤ 700 + (z_59).toInt by omega) (show (z_59).toInt ≤ ((z_len.getD sx 0 : Nat) : Int) + 1 by omega) hP hD hS (lv_sub hl [0, 1, 2, 3, 5, 6] rfl)
                · have k_60 : (pl_7).toInt = (te).toInt := z_eq c_56
                  refine lv_iload_n hx hb dX10_wordIn_110 rfl (lv_at hl 4 rfl) ?_
                  refine z_backQ hQQ ?_
                  refine W.widen (k := 0) (n := 0) (Nat.le_of_ble_eq_true rfl) (Nat.le_of_ble_eq_true rfl) ?_
                  exact W.iret (v := w_6) hx hb hr (fun t ht hW => ⟨⟨w_6, (), rfl, (show ((-1 : Int) ≤ (w_6).toInt ∧ (w_6).toInt ≤ (5 : Int)) ∧ f_wiA fh1 tt.toInt ts.toInt te.toInt (w_6).toInt by obtain ⟨v9, hv9, hm9, hw9⟩ := f_wI_hit hs0 (by omega) (by omega) (by first | exact Or.inl (z_ncn (by omega)) | exact Or.inr (by rw [← hw_45]; first | decide | omega)) hF_14 (by first | omega | decide) (by omega); exact ⟨⟨by omega, by omega⟩, f_wi_y hC (by first | omega | decide) hv9 hm9 hw9⟩), trivial⟩, hS.F ht⟩) hS.2.2 dX10_wordIn_111
            · have k_61 : (r_44).toInt ≠ (32 : Int) := z_ne c_46
              refine lv_iload hx hb dX10_wordIn_61 (lv_at hl 2 rfl) ?_
              refine lv_if_eq (tgt := 88) hx hb dX10_wordIn_63 (by decide) (fun c_62 => ?_) (fun c_62 => ?_)
              · have k_63 : (sm_8).toInt = (0 : Int) := z_eq c_62
                obtain rfl : sm_8 = 0 := z_eq' (show (sm_8).toInt = (0 : Int) by omega)
                refine lv_iconst (v := 0) hx hb dX10_wordIn_88 (by decide) ?_
                refine lv_istore (lv' := [(4, .int 0), (6, .int r_44), (5, .int i_9), (3, .int pl_7), (2, .int w_6), (0, .ref h0), (1, .ref (sd sx))]) hx hb dX10_wordIn_89 hl (by decide) rfl (fun ls hl => ?_)
                obtain ⟨z_65, ez_65⟩ : ∃ y : Int32, y = pl_7 + 1 := ⟨_, rfl⟩
                have kz_65 : (z_65).toInt = (pl_7).toInt + (1 : Int) := by rw [ez_65]; exact z_add (b := 1) rfl rfl (z_al hF_11.1 (by decide)) (z_ah hF_11.2 (by decide))
                refine lv_iinc (v := z_65) (lv' := [(3, .int z_65), (4, .int 0), (6, .int r_44), (5, .int i_9), (2, .int w_6), (0, .ref h0), (1, .ref (sd sx))]) hx hb dX10_wordIn_91 hl (k := 3) rfl (by rw [ez_65]; rfl) (by decide) rfl (fun ls hl => ?_)
                refine lv_goto (tgt := 123) hx hb dX10_wordIn_94 (by decide) ?_
                obtain ⟨z_66, ez_66⟩ : ∃ y : Int32, y = i_9 + 1 := ⟨_, rfl⟩
                have kz_66 : (z_66).toInt = (i_9).toInt + (1 : Int) := by rw [ez_66]; exact z_add (b := 1) rfl rfl (z_al hF_13.1 (by decide)) (z_ah hF_13.2 (by decide))
                refine lv_iinc (v := z_66) (lv' := [(5, .int z_66), (3, .int z_65), (4, .int 0), (6, .int r_44), (2, .int w_6), (0, .ref h0), (1, .ref (sd sx))]) hx hb dX10_wordIn_123 hl (k := 3) rfl (by rw [ez_66]; rfl) (by decide) rfl (fun ls hl => ?_)
                refine lv_goto (tgt := 23) hx hb dX10_wordIn_126 (by decide) ?_
                exact ih_5 w_6 z_65 0 z_66 _ _ _ (show (59 - (z_66).toInt).toNat < n_4 by omega) (show ((0 : Int) ≤ (w_6).toInt ∧ (w_6).toInt ≤ (60 : Int)) by omega) (show ((0 : Int) ≤ (z_65).toInt ∧ (z_65).toInt ≤ (800 : Int)) by omega) (show ((0 : Int) ≤ (0 : Int) ∧ (0 : Int) ≤ (1 : Int)) by omega) (show ((0 : Int) ≤ (z_66).toInt ∧ (z_66).toInt ≤ (58 : Int)) by omega) (show f_wI fh1 (ts).toInt (te).toInt (z_66 : Int32).toNatClampNeg (w_6).toInt (z_65).toInt (0 : Int) from f_wI_n hs0 ez_66 (by omega) (by omega) hw_45 (by first | omega | decide) hF_14 (by omega) (by omega) (by first | exact Or.inl (by first | omega | decide) | exact Or.inr (Or.inl (by omega)))) (show (w_6).toInt ≤ (z_66).toInt by omega) (show (z_65).toInt ≤ 700 + (z_66).toInt by omega) (show (z_66).toInt ≤ ((z_len.getD sx 0 : Nat) : Int) + 1 by omega) hP hD hS (lv_sub hl [0, 2, 1, 4, 5, 6] rfl)
              · have k_67 : (sm_8).toInt ≠ (0 : Int) := z_ne c_62
                obtain rfl : sm_8 = 1 := z_eq' (show (sm_8).toInt = (1 : Int) by omega)
                refine lv_iload_n hx hb dX10_wordIn_66 rfl (lv_at hl 3 rfl) ?_
                refine lv_aload_n hx hb dX10_wordIn_67 rfl (lv_at hl 5 rfl) ?_
                refine va_get (D := (dC, dI)) (ci := 10) (v := .int te) (C := RX10) (T := TX10) (N := 11) hx hb hts hiX10 hown hK hP 0 rfl rfl 6 (by decide) w__fieldLink_RX10_32_ShellHeap_Tape_end_I_ (fun _ h9 => h9) rfl dX10_wordIn_68 ?_
                refine lv_icmp_ge (tgt := 88) hx hb dX10_wordIn_71 (by decide) (fun c_69 => ?_) (fun c_69 => ?_)
                · have k_70 : (te).toInt ≤ (pl_7).toInt := z_le c_69
                  refine lv_iconst (v := 0) hx hb dX10_wordIn_88 (by decide) ?_
                  refine lv_istore (lv' := [(4, .int 0), (6, .int r_44), (5, .int i_9), (3, .int pl_7), (2, .int w_6), (0, .ref h0), (1, .ref (sd sx))]) hx hb dX10_wordIn_89 hl (by decide) rfl (fun ls hl => ?_)
                  obtain ⟨z_71, ez_71⟩ : ∃ y : Int32, y = pl_7 + 1 := ⟨_, rfl⟩
                  have kz_71 : (z_71).toInt = (pl_7).toInt + (1 : Int) := by rw [ez_71]; exact z_add (b := 1) rfl rfl (z_al hF_11.1 (by decide)) (z_ah hF_11.2 (by decide))
                  refine lv_iinc (v := z_71) (lv' := [(3, .int z_71), (4, .int 0), (6, .int r_44), (5, .int i_9), (2, .int w_6), (0, .ref h0), (1, .ref (sd sx))]) hx hb dX10_wordIn_91 hl (k := 3) rfl (by rw [ez_71]; rfl) (by decide) rfl (fun ls hl => ?_)
                  refine lv_goto (tgt := 123) hx hb dX10_wordIn_94 (by decide) ?_
                  obtain ⟨z_72, ez_72⟩ : ∃ y : Int32, y = i_9 + 1 := ⟨_, rfl⟩
                  have kz_72 : (z_72).toInt = (i_9).toInt + (1 : Int) := by rw [ez_72]; exact z_add (b := 1) rfl rfl (z_al hF_13.1 (by decide)) (z_ah hF_13.2 (by decide))
                  refine lv_iinc (v := z_72) (lv' := [(5, .int z_72), (3, .int z_71), (4, .int 0), (6, .int r_44), (2, .int w_6), (0, .ref h0), (1, .ref (sd sx))]) hx hb dX10_wordIn_123 hl (k := 3) rfl (by rw [ez_72]; rfl) (by decide) rfl (fun ls hl => ?_)
                  refine lv_goto (tgt := 23) hx hb dX10_wordIn_126 (by decide) ?_
                  exact ih_5 w_6 z_71 0 z_72 _ _ _ (show (59 - (z_72).toInt).toNat < n_4 by omega) (show ((0 : Int) ≤ (w_6).toInt ∧ (w_6).toInt ≤ (60 : Int)) by omega) (show ((0 : Int) ≤ (z_71).toInt ∧ (z_71).toInt ≤ (800 : Int)) by omega) (show ((0 : Int) ≤ (0 : Int) ∧ (0 : Int) ≤ (1 : Int)) by omega) (show ((0 : Int) ≤ (z_72).toInt ∧ (z_72).toInt ≤ (58 : Int)) by omega) (show f_wI fh1 (ts).toInt (te).toInt (z_72 : Int32).toNatClampNeg (w_6).toInt (z_71).toInt (0 : Int) from f_wI_n hs0 ez_72 (by omega) (by omega) hw_45 (by first | omega | decide) hF_14 (by omega) (by omega) (by first | exact Or.inl (by first | omega | decide) | exact Or.inr (Or.inl (by omega)))) (show (w_6).toInt ≤ (z_72).toInt by omega) (show (z_71).toInt ≤ 700 + (z_72).toInt by omega) (show (z_72).toInt ≤ ((z_len.getD sx 0 : Nat) : Int) + 1 by omega) hP hD hS (lv_sub hl [0, 2, 1, 4, 5, 6] rfl)
                · have k_73 : (te).toInt > (pl_7).toInt := z_nle c_69
                  refine lv_aload_n hx hb dX10_wordIn_74 rfl (lv_at hl 5 rfl) ?_
                  refine lv_iload_n hx hb dX10_wordIn_75 rfl (lv_at hl 3 rfl) ?_
                  have hPc := hP
                  have hDc := hD
                  have hKc := hK
                  have hFc := va_free (ws := []) (wc := []) (z_D0 _) hS hA [] rfl
                  refine va_calli (va_runV (As := [.int pl_7]) (rest := []) ⟨hx, hb, hml, hown, hts⟩ (s_X10_byteAt4 l dC dI H_43.size h0 pl_7 h1 tt h0_2 h0_3 h0_4 (.int ts) (.int te) (.int to) (.int tg) h0_9 h0_10 ch1 fh1 hB_tt hI_h1) (cwV 1 hts gw_s_X10_wordIn3_s_X10_byteAt4_50 rfl rfl rfl (by decide +kernel) ⟨Nat.le_of_ble_eq_true rfl, Nat.le_of_ble_eq_true rfl⟩) ⟨z_blind, va_recv hKc hPc (ci := 10) (q0 := 0) rfl rfl, z_pre hPc hKc hDc⟩ rfl rfl hl.1 rfl (lv_room (Nat.le_of_ble_eq_true rfl)) dX10_wordIn_76 ⟨Nat.le_of_ble_eq_true rfl, Nat.le_of_ble_eq_true rfl⟩) hS (fun q _ h => hFc q h) hFc (fun r_75 u t H_74 locs ht hvm hw_76 hB hz1 hk1 hS => ?_)
                  replace hP := z_pure hP hk1
                  clear hPc hDc hKc
                  refine lv_iload hx hb dX10_wordIn_79 (lv_at hl 0 rfl) ?_
                  refine lv_icmp_ne (tgt := 88) hx hb dX10_wordIn_81 (by decide) (fun c_77 => ?_) (fun c_77 => ?_)
                  · have k_78 : (r_75).toInt ≠ (r_44).toInt := z_ne c_77
                    refine lv_iconst (v := 0) hx hb dX10_wordIn_88 (by decide) ?_
                    refine lv_istore (lv' := [(4, .int 0), (6, .int r_44), (5, .int i_9), (3, .int pl_7), (2, .int w_6), (0, .ref h0), (1, .ref (sd sx))]) hx hb dX10_wordIn_89 hl (by decide) rfl (fun ls hl => ?_)
                    obtain ⟨z_79, ez_79⟩ : ∃ y : Int32, y = pl_7 + 1 := ⟨_, rfl⟩
                    have kz_79 : (z_79).toInt = (pl_7).toInt + (1 : Int) := by rw [ez_79]; exact z_add (b := 1) rfl rfl (z_al hF_11.1 (by decide)) (z_ah hF_11.2 (by decide))
                    refine lv_iinc (v := z_79) (lv' := [(3, .int z_79), (4, .int 0), (6, .int r_44), (5, .int i_9), (2, .int w_6), (0, .ref h0), (1, .ref (sd sx))]) hx hb dX10_wordIn_91 hl (k := 3) rfl (by rw [ez_79]; rfl) (by decide) rfl (fun ls hl => ?_)
                    refine lv_goto (tgt := 123) hx hb dX10_wordIn_94 (by decide) ?_
                    obtain ⟨z_80, ez_80⟩ : ∃ y : Int32, y = i_9 + 1 := ⟨_, rfl⟩
                    have kz_80 : (z_80).toInt = (i_9).toInt + (1 : Int) := by rw [ez_80]; exact z_add (b := 1) rfl rfl (z_al hF_13.1 (by decide)) (z_ah hF_13.2 (by decide))
                    refine lv_iinc (v := z_80) (lv' := [(5, .int z_80), (3, .int z_79), (4, .int 0), (6, .int r_44), (2, .int w_6), (0, .ref h0), (1, .ref (sd sx))]) hx hb dX10_wordIn_123 hl (k := 3) rfl (by rw [ez_80]; rfl) (by decide) rfl (fun ls hl => ?_)
                    refine lv_goto (tgt := 23) hx hb dX10_wordIn_126 (by decide) ?_
                    exact ih_5 w_6 z_79 0 z_80 _ _ _ (show (59 - (z_80).toInt).toNat < n_4 by omega) (show ((0 : Int) ≤ (w_6).toInt ∧ (w_6).toInt ≤ (60 : Int)) by omega) (show ((0 : Int) ≤ (z_79).toInt ∧ (z_79).toInt ≤ (800 : Int)) by omega) (show ((0 : Int) ≤ (0 : Int) ∧ (0 : Int) ≤ (1 : Int)) by omega) (show ((0 : Int) ≤ (z_80).toInt ∧ (z_80).toInt ≤ (58 : Int)) by omega) (show f_wI fh1 (ts).toInt (te).toInt (z_80 : Int32).toNatClampNeg (w_6).toInt (z_79).toInt (0 : Int) from f_wI_n hs0 ez_80 (by omega) (by omega) hw_45 (by first | omega | decide) hF_14 (by omega) (by omega) (by first | exact Or.inl (by first | omega | decide) | exact Or.inr (Or.inl (by omega)) | exact Or.inr (Or.inr ⟨_, (hw_76.2.1 (by omega) (by omega)), by omega⟩))) (show (w_6).toInt ≤ (z_80).toInt by omega) (show (z_79).toInt ≤ 700 + (z_80).toInt by omega) (show (z_80).toInt ≤ ((z_len.getD sx 0 : Nat) : Int) + 1 by omega) hP hD hS (lv_sub hl [0, 2, 1, 4, 5, 6] rfl)
                  · have k_81 : (r_75).toInt = (r_44).toInt := z_eq c_77
                    refine lv_iconst (v := 1) hx hb dX10_wordIn_84 (by decide) ?_
                    refine lv_goto (tgt := 89) hx hb dX10_wordIn_85 (by decide) ?_
                    refine lv_istore (lv' := [(4, .int 1), (6, .int r_44), (5, .int i_9), (3, .int pl_7), (2, .int w_6), (0, .ref h0), (1, .ref (sd sx))]) hx hb dX10_wordIn_89 hl (by decide) rfl (fun ls hl => ?_)
                    obtain ⟨z_82, ez_82⟩ : ∃ y : Int32, y = pl_7 + 1 := ⟨_, rfl⟩
                    have kz_82 : (z_82).toInt = (pl_7).toInt + (1 : Int) := by rw [ez_82]; exact z_add (b := 1) rfl rfl (z_al hF_11.1 (by decide)) (z_ah hF_11.2 (by decide))
                    refine lv_iinc (v := z_82) (lv' := [(3, .int z_82), (4, .int 1), (6, .int r_44), (5, .int i_9), (2, .int w_6), (0, .ref h0), (1, .ref (sd sx))]) hx hb dX10_wordIn_91 hl (k := 3) rfl (by rw [ez_82]; rfl) (by decide) rfl (fun ls hl => ?_)
                    refine lv_goto (tgt := 123) hx hb dX10_wordIn_94 (by decide) ?_
                    obtain ⟨z_83, ez_83⟩ : ∃ y : Int32, y = i_9 + 1 := ⟨_, rfl⟩
                    have kz_83 : (z_83).toInt = (i_9).toInt + (1 : Int) := by rw [ez_83]; exact z_add (b := 1) rfl rfl (z_al hF_13.1 (by decide)) (z_ah hF_13.2 (by decide))
                    refine lv_iinc (v := z_83) (lv' := [(5, .int z_83), (3, .int z_82), (4, .int 1), (6, .int r_44), (2, .int w_6), (0, .ref h0), (1, .ref (sd sx))]) hx hb dX10_wordIn_123 hl (k := 3) rfl (by rw [ez_83]; rfl) (by decide) rfl (fun ls hl => ?_)
                    refine lv_goto (tgt := 23) hx hb dX10_wordIn_126 (by decide) ?_
                    exact ih_5 w_6 z_82 1 z_83 _ _ _ (show (59 - (z_83).toInt).toNat < n_4 by omega) (show ((0 : Int) ≤ (w_6).toInt ∧ (w_6).toInt ≤ (60 : Int)) by omega) (show ((0 : Int) ≤ (z_82).toInt ∧ (z_82).toInt ≤ (800 : Int)) by omega) (show ((0 : Int) ≤ (1 : Int) ∧ (1 : Int) ≤ (1 : Int)) by omega) (show ((0 : Int) ≤ (z_83).toInt ∧ (z_83).toInt ≤ (58 : Int)) by omega) (show f_wI fh1 (ts).toInt (te).toInt (z_83 : Int32).toNatClampNeg (w_6).toInt (z_82).toInt (1 : Int) from f_wI_y hs0 ez_83 (by omega) (by omega) hw_45 (by first | omega | decide) hF_14 (by first | omega | decide) (by omega) (by omega) (hw_76.2.1 (by omega) (by omega)) (by omega) (by omega)) (show (w_6).toInt ≤ (z_83).toInt by omega) (show (z_82).toInt ≤ 700 + (z_83).toInt by omega) (show (z_83).toInt ≤ ((z_len.getD sx 0 : Nat) : Int) + 1 by omega) hP hD hS (lv_sub hl [0, 2, 1, 4, 5, 6] rfl)
    exact loop_3 _ 0 ts 1 0 _ _ _ (Nat.lt_succ_self _) (show ((0 : Int) ≤ (0 : Int) ∧ (0 : Int) ≤ (60 : Int)) by omega) (show ((0 : Int) ≤ (ts).toInt ∧ (ts).toInt ≤ (800 : Int)) by omega) (show ((0 : Int) ≤ (1 : Int) ∧ (1 : Int) ≤ (1 : Int)) by omega) (show ((0 : Int) ≤ (0 : Int) ∧ (0 : Int) ≤ (58 : Int)) by omega) (show f_wI fh1 (ts).toInt (te).toInt (0 : Int32).toNatClampNeg (0 : Int) (ts).toInt (1 : Int) from f_wI_0) (show (0 : Int) ≤ (0 : Int) by omega) (show (ts).toInt ≤ 700 + (0 : Int) by omega) (show (0 : Int) ≤ ((z_len.getD sx 0 : Nat) : Int) + 1 by omega) hP hD hS hl
  · have k_84 : (to).toInt ≠ (1 : Int) := z_ne c_1
    refine lv_iconst (v := (-1)) hx hb dX10_wordIn_8 (by decide) ?_
    refine z_backQ hQQ ?_
    refine W.widen (k := 0) (n := 0) (Nat.le_of_ble_eq_true rfl) (Nat.le_of_ble_eq_true rfl) ?_
    exact W.iret (v := (-1)) hx hb hr (fun t ht hW => ⟨⟨(-1), (), rfl, (show ((-1 : Int) ≤ (-1 : Int) ∧ (-1 : Int) ≤ (5 : Int)) ∧ f_wiA fh1 tt.toInt ts.toInt te.toInt (-1 : Int) from ⟨by decide, f_wi_n hC (Or.inl (by omega)) rfl⟩), trivial⟩, hS.F ht⟩) hS.2.2 dX10_wordIn_9
def u_s_X5_hasKindA : List Cond := .code yX5_hasKind cX5_hasKind 2 (some .boolean) :: ([.fieldLink RX5 41 "ShellHeap$Pantry" "kinds" "I"] ++ (wsX50 ++ []))
theorem gd_s_X5_hasKindA : z_gd u_s_X5_hasKindA := z_gdc (by decide +kernel) (z_gda gdX5 (z_gd0))
set_option maxHeartbeats 4000000 in
set_option maxRecDepth 100000 in
theorem s_X5_hasKindA (l : Launch) (dC : Nat → ClassId) (dI : Nat → Nat → Nat) (sz : Nat) (h0 : Nat) (p1 : Int32) (h0_0 : Value) (h0_1 : Value) (h0_2 : Value) (h0_3 : Value) (h0_4 : Value) (h0_5 : Value) (h0_6 : Value) (h0_7 : Value) (h0_8 : Value) (pk : Int32) (hB_pk : ((0 : Int) ≤ (pk).toInt ∧ (pk).toInt ≤ (6 : Int))) : Met l yX5_hasKind u_s_X5_hasKindA ({ frames := 0, cells := 0, slots := 0, locals := 0 }) (va_Pc [.ref h0, .int p1] (z_C (dC, dI) vwCl [(h0, .inr (5, [h0_0, h0_1, h0_2, h0_3, h0_4, h0_5, h0_6, h0_7, h0_8, .int pk]))] [] sz)) (va_Qi (fun (r : Int32) (_ : Unit) => (r = 1 ∧ (0 ≤ p1.toInt ∧ p1.toInt < pk.toInt)) ∨ (r = 0 ∧ ¬ (0 ≤ p1.toInt ∧ p1.toInt < pk.toInt))) (fun (_ : Unit) (_ : State) => True) (va_A [] sz)) 0 0 (va_A [] sz) := by
  refine Met.ofW (cc := cX5_hasKind) (maxL := 2) (ret := (some .boolean)) (by decide) rfl ?_
  intro p e s m args below meth c s₁ B hml hv
  obtain ⟨rfl, hsz, hP, hK, hD0⟩ := hv
  have hx := B.exec
  have hb := B.bytes
  have hr := B.returns
  have hts := atoms_spec (ws := u_s_X5_hasKindA) B.pre
  have hown : s.vm.findClass RX5 = some m.cls := findClass_of_methodNamed B.named
  have hlocks := B.notSynchronized
  subst hsz
  have hD := hD0
  generalize hAe : va_A [] s.heap.size = A
  have hA : ∀ q : Nat, s.heap.size ≤ q → A q := fun q h => by rw [← hAe]; exact Or.inr h
  have hS : va_S A s.heap s.heap [] := va_S.rf
  have hP : va_P (dC, dI) vwCl [(h0, .inr (5, [h0_0, h0_1, h0_2, h0_3, h0_4, h0_5, h0_6, h0_7, h0_8, .int pk]))] s.heap := hP
  have w__fieldLink_RX5_41_ShellHeap_Pantry_kinds_I_ := hts (.fieldLink RX5 41 "ShellHeap$Pantry" "kinds" "I") (z_mc (z_ml z_m0))
  have hiX5 := show ∀ w ∈ u_ws RX5 TX5 10, w ∈ u_s_X5_hasKindA from fun w h => z_mc (z_mr (z_ml h))
  have krr_p1 := z_rng p1
  have hl := lv_entry ([.ref h0, .int p1]) (n := 2) (Nat.le_of_ble_eq_true rfl)
  rw [lg_entry_eq]
  generalize (lg_sl ([.ref h0, .int p1]) ++ List.replicate (2 - (lg_sl ([.ref h0, .int p1])).length) Slot.unset).toArray = ls at hl ⊢
  have hl : lv_has ls 2 [(0, .ref h0), (1, .int p1)] := hl
  refine lv_iload_n hx hb dX5_hasKind_0 rfl (lv_at hl 1 rfl) ?_
  refine lv_if_lt (tgt := 16) hx hb dX5_hasKind_1 (by decide) (fun c_1 => ?_) (fun c_1 => ?_)
  · have k_2 : (p1).toInt < (0 : Int) := z_lt c_1
    refine lv_iconst (v := 0) hx hb dX5_hasKind_16 (by decide) ?_
    refine W.widen (k := 0) (n := 0) (Nat.le_of_ble_eq_true rfl) (Nat.le_of_ble_eq_true rfl) ?_
    exact W.zret (v := 0) hx hb hr (by rfl) (fun t ht hW => ⟨⟨0, (), rfl, (Or.inr (⟨rfl, by first | omega | decide⟩)), trivial⟩, hS.F ht⟩) hS.2.2 dX5_hasKind_17
  · have k_3 : (p1).toInt ≥ (0 : Int) := z_nlt c_1
    refine lv_iload_n hx hb dX5_hasKind_4 rfl (lv_at hl 1 rfl) ?_
    refine lv_aload_n hx hb dX5_hasKind_5 rfl (lv_at hl 0 rfl) ?_
    refine va_get (D := (dC, dI)) (ci := 5) (v := .int pk) (C := RX5) (T := TX5) (N := 10) hx hb hts hiX5 hown hK hP 0 rfl rfl 9 (by decide) w__fieldLink_RX5_41_ShellHeap_Pantry_kinds_I_ (fun _ h9 => h9) rfl dX5_hasKind_6 ?_
    refine lv_icmp_ge (tgt := 16) hx hb dX5_hasKind_9 (by decide) (fun c_4 => ?_) (fun c_4 => ?_)
    · have k_5 : (pk).toInt ≤ (p1).toInt := z_le c_4
      refine lv_iconst (v := 0) hx hb dX5_hasKind_16 (by decide) ?_
      refine W.widen (k := 0) (n := 0) (Nat.le_of_ble_eq_true rfl) (Nat.le_of_ble_eq_true rfl) ?_
      exact W.zret (v := 0) hx hb hr (by rfl) (fun t ht hW => ⟨⟨0, (), rfl, (Or.inr (⟨rfl, by first | omega | decide⟩)), trivial⟩, hS.F ht⟩) hS.2.2 dX5_hasKind_17
    · have k_6 : (pk).toInt > (p1).toInt := z_nle c_4
      refine lv_iconst (v := 1) hx hb dX5_hasKind_12 (by decide) ?_
      refine lv_goto (tgt := 17) hx hb dX5_hasKind_13 (by decide) ?_
      refine W.widen (k := 0) (n := 0) (Nat.le_of_ble_eq_true rfl) (Nat.le_of_ble_eq_true rfl) ?_
      exact W.zret (v := 1) hx hb hr (by rfl) (fun t ht hW => ⟨⟨1, (), rfl, (Or.inl (⟨rfl, by first | omega | decide⟩)), trivial⟩, hS.F ht⟩) hS.2.2 dX5_hasKind_17
def u_s_X1_readKind3 : List Cond := .code yX1_readKind cX1_readKind 1 (some .boolean) :: ([.fieldLink RX1 24 "ShellHeap$FindsReader" "tape" "LShellHeap$Tape;", .methodLink RX1 74 yX10_numberBehind, .instanceMethod yX10_numberBehind, .selects RX10 yX10_numberBehind yX10_numberBehind, .initialized RX10, .fieldLink RX1 15 "ShellHeap$FindsReader" "kind" "I", .fieldLink RX1 28 "ShellHeap$FindsReader" "pantry" "LShellHeap$Pantry;", .methodLink RX1 78 yX5_hasKind, .instanceMethod yX5_hasKind, .selects RX5 yX5_hasKind yX5_hasKind, .initialized RX5, .methodLink RX1 62 yX10_next, .instanceMethod yX10_next, .selects RX10 yX10_next yX10_next, .methodLink RX1 55 yX10_fail, .instanceMethod yX10_fail, .selects RX10 yX10_fail yX10_fail] ++ (wsX10 ++ (u_s_X10_numberBehind_1 ++ (u_s_X5_hasKindA ++ (u_s_X10_next3 ++ (u_s_X10_fail ++ []))))))
theorem gd_s_X1_readKind3 : z_gd u_s_X1_readKind3 := z_gdc (by decide +kernel) (z_gda gdX1 (z_gda gd_s_X10_numberBehind_1 (z_gda gd_s_X5_hasKindA (z_gda gd_s_X10_next3 (z_gda gd_s_X10_fail (z_gd0))))))
set_option maxRecDepth 20000 in
theorem gw_s_X1_readKind3_s_X10_numberBehind_1_74 : GoodIn u_s_X1_readKind3 (wsV RX1 74 RX10 yX10_numberBehind u_s_X10_numberBehind_1) := z_gV (z_gr _ [2, 3, 4, 5] rfl (by decide +kernel)) (fun w h => ⟨z_mc (z_mr (z_mr (z_ml h))), gd_s_X10_numberBehind_1 w h⟩)
set_option maxRecDepth 20000 in
theorem gw_s_X1_readKind3_s_X5_hasKindA_78 : GoodIn u_s_X1_readKind3 (wsV RX1 78 RX5 yX5_hasKind u_s_X5_hasKindA) := z_gV (z_gr _ [8, 9, 10, 11] rfl (by decide +kernel)) (fun w h => ⟨z_mc (z_mr (z_mr (z_mr (z_ml h)))), gd_s_X5_hasKindA w h⟩)
set_option maxRecDepth 20000 in
theorem gw_s_X1_readKind3_s_X10_next3_62 : GoodIn u_s_X1_readKind3 (wsV RX1 62 RX10 yX10_next u_s_X10_next3) := z_gV (z_gr _ [12, 13, 14, 5] rfl (by decide +kernel)) (fun w h => ⟨z_mc (z_mr (z_mr (z_mr (z_mr (z_ml h))))), gd_s_X10_next3 w h⟩)
set_option maxRecDepth 20000 in
theorem gw_s_X1_readKind3_s_X10_fail_55 : GoodIn u_s_X1_readKind3 (wsV RX1 55 RX10 yX10_fail u_s_X10_fail) := z_gV (z_gr _ [15, 16, 17, 5] rfl (by decide +kernel)) (fun w h => ⟨z_mc (z_mr (z_mr (z_mr (z_mr (z_mr (z_ml h)))))), gd_s_X10_fail w h⟩)
set_option maxHeartbeats 4000000 in
set_option maxRecDepth 100000 in
theorem s_X1_readKind3 (l : Launch) (dC : Nat → ClassId) (dI : Nat → Nat → Nat) (sz : Nat) (sd : Nat → Nat) (sv : Nat → Nat) (sf : Value) (h0 : Nat) (a_tp : Nat) (a_pa : Nat) (fn : Int32) (fk : Int32) (fs : Int32) (fp : Int32) (a_tb : Nat) (tt : Int32) (ta : Int32) (tf : Int32) (ts : Int32) (te : Int32) (to : Int32) (tg : Int32) (tx : Int32) (ty : Int32) (ca_tb : ClassId) (fa_tb : Nat → Int32) (a_pa_0 : Value) (a_pa_1 : Value) (a_fo : Nat) (a_pa_3 : Value) (a_pa_4 : Value) (a_pa_5 : Value) (a_pa_6 : Value) (a_pa_7 : Value) (a_pa_8 : Value) (pk : Int32) (hB_tt : ((0 : Int) ≤ (tt).toInt ∧ (tt).toInt ≤ (700 : Int))) (hB_ta : ((0 : Int) ≤ (ta).toInt ∧ (ta).toInt ≤ (700 : Int))) (hB_tf : ((0 : Int) ≤ (tf).toInt ∧ (tf).toInt ≤ (700 : Int))) (hB_ts : ((0 : Int) ≤ (ts).toInt ∧ (ts).toInt ≤ (700 : Int))) (hB_te : ((0 : Int) ≤ (te).toInt ∧ (te).toInt ≤ (700 : Int))) (hB_pk : ((0 : Int) ≤ (pk).toInt ∧ (pk).toInt ≤ (6 : Int))) (hI_a_tb : ∀ j : Nat, ((0 : Int) ≤ (fa_tb j).toInt ∧ (fa_tb j).toInt ≤ (255 : Int))) (hC : f_C fa_tb tt.toInt to.toInt tg.toInt ts.toInt te.toInt) (hpg : f_pg to.toInt ts.toInt te.toInt) (hat : ta.toInt = te.toInt ∧ te.toInt ≤ tt.toInt ∧ ts.toInt ≤ te.toInt) : Met l yX1_readKind u_s_X1_readKind3 ({ frames := 3, cells := 0, slots := 0, locals := 65 }) (va_Pc [.ref h0] (z_CS (dC, dI) vwCl [(h0, .inr (1, [.ref a_tp, .ref a_pa, .int fn, .int fk, .int fs, .int fp])), (a_tp, .inr (10, [.ref a_tb, .int tt, .int ta, .int 1, .int tf, .int ts, .int te, .int to, .int tg, .int tx, .int ty])), (a_tb, .inl (ca_tb, 700, .inl fa_tb)), (a_pa, .inr (5, [a_pa_0, a_pa_1, .ref a_fo, a_pa_3, a_pa_4, a_pa_5, a_pa_6, a_pa_7, a_pa_8, .int pk]))] [(ca_tb, .int)] sz sd sv sf [(h0, .inr (1, [.ref a_tp, .ref a_pa, .int fn, .int fk, .int fs, .int fp])), (a_tp, .inr (10, [.ref a_tb, .int tt, .int ta, .int 1, .int tf, .int ts, .int te, .int to, .int tg, .int tx, .int ty])), (a_tb, .inl (ca_tb, 700, .inl fa_tb)), (a_pa, .inr (5, [a_pa_0, a_pa_1, .ref a_fo, a_pa_3, a_pa_4, a_pa_5, a_pa_6, a_pa_7, a_pa_8, .int pk]))])) (va_Qi (fun (r : Int32) (u : Int32) => r = u ∧ ((r = 1 ∧ True) ∨ (r = 0 ∧ True))) (fun (u : Int32) (t : State) => ∃ (n_h0_kind : Int32), ∃ (n_a_tp_at : Int32), ∃ (n_a_tp_start : Int32), ∃ (n_a_tp_end : Int32), ∃ (n_a_tp_sort : Int32), ∃ (n_a_tp_sign : Int32), ∃ (n_a_tp_faultSort : Int32), ∃ (n_a_tp_faultPlace : Int32), ((0 : Int) ≤ (n_a_tp_at).toInt ∧ (n_a_tp_at).toInt ≤ (700 : Int)) ∧ ((0 : Int) ≤ (n_a_tp_start).toInt ∧ (n_a_tp_start).toInt ≤ (700 : Int)) ∧ ((0 : Int) ≤ (n_a_tp_end).toInt ∧ (n_a_tp_end).toInt ≤ (700 : Int)) ∧ (u = 1 → ((0 : Int) ≤ n_h0_kind.toInt ∧ n_h0_kind.toInt ≤ (5 : Int))) ∧ (u = 1 → (n_a_tp_at.toInt = n_a_tp_end.toInt ∧ n_a_tp_end.toInt ≤ tt.toInt ∧ n_a_tp_start.toInt ≤ n_a_tp_end.toInt ∧ ts.toInt + 1 ≤ n_a_tp_start.toInt)) ∧ (u = 1 → f_C fa_tb tt.toInt n_a_tp_sort.toInt n_a_tp_sign.toInt n_a_tp_start.toInt n_a_tp_end.toInt) ∧ (u = 1 → f_pg n_a_tp_sort.toInt n_a_tp_start.toInt n_a_tp_end.toInt) ∧ (u = 1 → (f_E fa_tb tt.toInt pk.toInt 0 0 ts.toInt ↔ f_E fa_tb tt.toInt pk.toInt 1 0 n_a_tp_start.toInt)) ∧ (u = 0 → ¬ f_E fa_tb tt.toInt pk.toInt 0 0 ts.toInt) ∧ va_P (dC, dI) vwCl [(h0, .inr (1, [.ref a_tp, .ref a_pa, .int fn, .int n_h0_kind, .int fs, .int fp])), (a_tp, .inr (10, [.ref a_tb, .int tt, .int n_a_tp_at, .int 1, .int tf, .int n_a_tp_start, .int n_a_tp_end, .int n_a_tp_sort, .int n_a_tp_sign, .int n_a_tp_faultSort, .int n_a_tp_faultPlace])), (a_tb, .inl (ca_tb, 700, .inl fa_tb)), (a_pa, .inr (5, [a_pa_0, a_pa_1, .ref a_fo, a_pa_3, a_pa_4, a_pa_5, a_pa_6, a_pa_7, a_pa_8, .int pk]))] t.heap ∧ va_K (dC, dI) vwCl [] t ∧ va_D (va_A [(h0, .inr (1, [.ref a_tp, .ref a_pa, .int fn, .int fk, .int fs, .int fp])), (a_tp, .inr (10, [.ref a_tb, .int tt, .int ta, .int 1, .int tf, .int ts, .int te, .int to, .int tg, .int tx, .int ty])), (a_tb, .inl (ca_tb, 700, .inl fa_tb)), (a_pa, .inr (5, [a_pa_0, a_pa_1, .ref a_fo, a_pa_3, a_pa_4, a_pa_5, a_pa_6, a_pa_7, a_pa_8, .int pk]))] sz) [(h0, .inr (1, [.ref a_tp, .ref a_pa, .int fn, .int n_h0_kind, .int fs, .int fp])), (a_tp, .inr (10, [.ref a_tb, .int tt, .int n_a_tp_at, .int 1, .int tf, .int n_a_tp_start, .int n_a_tp_end, .int n_a_tp_sort, .int n_a_tp_sign, .int n_a_tp_faultSort, .int n_a_tp_faultPlace])), (a_tb, .inl (ca_tb, 700, .inl fa_tb)), (a_pa, .inr (5, [a_pa_0, a_pa_1, .ref a_fo, a_pa_3, a_pa_4, a_pa_5, a_pa_6, a_pa_7, a_pa_8, .int pk]))]) (va_A [(h0, .inr (1, [.ref a_tp, .ref a_pa, .int fn, .int fk, .int fs, .int fp])), (a_tp, .inr (10, [.ref a_tb, .int tt, .int ta, .int 1, .int tf, .int ts, .int te, .int to, .int tg, .int tx, .int ty])), (a_tb, .inl (ca_tb, 700, .inl fa_tb)), (a_pa, .inr (5, [a_pa_0, a_pa_1, .ref a_fo, a_pa_3, a_pa_4, a_pa_5, a_pa_6, a_pa_7, a_pa_8, .int pk]))] sz)) 0 0 (va_A [(h0, .inr (1, [.ref a_tp, .ref a_pa, .int fn, .int fk, .int fs, .int fp])), (a_tp, .inr (10, [.ref a_tb, .int tt, .int ta, .int 1, .int tf, .int ts, .int te, .int to, .int tg, .int tx, .int ty])), (a_tb, .inl (ca_tb, 700, .inl fa_tb)), (a_pa, .inr (5, [a_pa_0, a_pa_1, .ref a_fo, a_pa_3, a_pa_4, a_pa_5, a_pa_6, a_pa_7, a_pa_8, .int pk]))] sz) := by
  refine Met.ofW (cc := cX1_readKind) (maxL := 1) (ret := (some .boolean)) (by decide) rfl ?_
  intro p e s m args below meth c s₁ B hml hv
  obtain ⟨rfl, ⟨hsz, hP, hK, hD0⟩, hST⟩ := hv
  have hx := B.exec
  have hb := B.bytes
  have hr := B.returns
  have hts := atoms_spec (ws := u_s_X1_readKind3) B.pre
  have hown : s.vm.findClass RX1 = some m.cls := findClass_of_methodNamed B.named
  have hlocks := B.notSynchronized
  subst hsz
  have hD := hD0.self (sz := s.heap.size)
  generalize hAe : va_A [(h0, .inr (1, [.ref a_tp, .ref a_pa, .int fn, .int fk, .int fs, .int fp])), (a_tp, .inr (10, [.ref a_tb, .int tt, .int ta, .int 1, .int tf, .int ts, .int te, .int to, .int tg, .int tx, .int ty])), (a_tb, .inl (ca_tb, 700, .inl fa_tb)), (a_pa, .inr (5, [a_pa_0, a_pa_1, .ref a_fo, a_pa_3, a_pa_4, a_pa_5, a_pa_6, a_pa_7, a_pa_8, .int pk]))] s.heap.size = A at hD hST ⊢
  have hA : ∀ q : Nat, s.heap.size ≤ q → A q := fun q h => by rw [← hAe]; exact Or.inr h
  have hS : va_S A s.heap s.heap [] := va_S.rf
  have hP : va_P (dC, dI) vwCl [(h0, .inr (1, [.ref a_tp, .ref a_pa, .int fn, .int fk, .int fs, .int fp])), (a_tp, .inr (10, [.ref a_tb, .int tt, .int ta, .int 1, .int tf, .int ts, .int te, .int to, .int tg, .int tx, .int ty])), (a_tb, .inl (ca_tb, 700, .inl fa_tb)), (a_pa, .inr (5, [a_pa_0, a_pa_1, .ref a_fo, a_pa_3, a_pa_4, a_pa_5, a_pa_6, a_pa_7, a_pa_8, .int pk]))] s.heap := hP
  have w__fieldLink_RX1_24_ShellHeap_FindsReader_tape_LShellHeap_Tape_ := hts (.fieldLink RX1 24 "ShellHeap$FindsReader" "tape" "LShellHeap$Tape;") (z_mc (z_ml z_m0))
  have hiX1 := show ∀ w ∈ u_ws RX1 TX1 6, w ∈ u_s_X1_readKind3 from fun w h => z_mc (z_mr (z_ml h))
  have w__fieldLink_RX1_15_ShellHeap_FindsReader_kind_I_ := hts (.fieldLink RX1 15 "ShellHeap$FindsReader" "kind" "I") (z_mc (z_ml z_m5))
  have w__fieldLink_RX1_28_ShellHeap_FindsReader_pantry_LShellHeap_Pantry_ := hts (.fieldLink RX1 28 "ShellHeap$FindsReader" "pantry" "LShellHeap$Pantry;") (z_mc (z_ml z_m6))
  have hl := lv_entry ([.ref h0]) (n := 1) (Nat.le_of_ble_eq_true rfl)
  rw [lg_entry_eq]
  generalize (lg_sl ([.ref h0]) ++ List.replicate (1 - (lg_sl ([.ref h0])).length) Slot.unset).toArray = ls at hl ⊢
  have hl : lv_has ls 1 [(0, .ref h0)] := hl
  refine lv_aload_n hx hb dX1_readKind_0 rfl (lv_at hl 0 rfl) ?_
  refine lv_aload_n hx hb dX1_readKind_1 rfl (lv_at hl 0 rfl) ?_
  refine va_get (D := (dC, dI)) (ci := 1) (v := .ref a_tp) (C := RX1) (T := TX1) (N := 6) hx hb hts hiX1 hown hK hP 0 rfl rfl 0 (by decide) w__fieldLink_RX1_24_ShellHeap_FindsReader_tape_LShellHeap_Tape_ (fun _ h9 => h9) rfl dX1_readKind_2 ?_
  refine lv_bipush (v := 107) hx hb dX1_readKind_5 (by decide) ?_
  obtain ⟨hPc, hDc⟩ := z_sub2 (ws' := [(a_tp, .inr (10, [.ref a_tb, .int tt, .int ta, .int 1, .int tf, .int ts, .int te, .int to, .int tg, .int tx, .int ty])), (a_tb, .inl (ca_tb, 700, .inl fa_tb))]) hP hD [1, 2] (by decide) rfl
  have hKc := hK
  have hFc := va_free (ws := []) (wc := []) (z_D0 _) hS hA [] rfl
  refine va_calli (va_runV (As := [.int 107]) (rest := [.ref h0]) ⟨hx, hb, hml, hown, hts⟩ (s_X10_numberBehind_1 l dC dI s.heap.size a_tp a_tb tt (.int ta) (.int 1) (.int tf) ts te to tg (.int tx) (.int ty) ca_tb fa_tb hB_tt hB_ts hB_te hI_a_tb hC (by first | omega | decide)) (cwV 1 hts gw_s_X1_readKind3_s_X10_numberBehind_1_74 rfl rfl rfl (by decide +kernel) ⟨Nat.le_of_ble_eq_true rfl, Nat.le_of_ble_eq_true rfl⟩) ⟨z_blind, va_recv hKc hPc (ci := 10) (q0 := 0) rfl rfl, z_pre hPc hKc hDc⟩ rfl rfl hl.1 rfl (lv_room (Nat.le_of_ble_eq_true rfl)) dX1_readKind_7 ⟨Nat.le_of_ble_eq_true rfl, Nat.le_of_ble_eq_true rfl⟩) hS (fun q _ h => hFc q h) hFc (fun r_2 u t H_1 locs ht hvm hw_3 hB hz1 hk1 hS => ?_)
  replace hP := z_pure hP hk1
  clear hPc hDc hKc
  refine va_put (D := (dC, dI)) (ci := 1) (v := .int r_2) (ty := .int) (C := RX1) (T := TX1) (N := 6) hx hb hts hiX1 tyX1 tyX1_ok nmX1 hown hK hP hD hS 0 rfl rfl 3 (by decide) w__fieldLink_RX1_15_ShellHeap_FindsReader_kind_I_ (fun _ h9 => h9) rfl (by decide +kernel) rfl rfl (Nat.le_of_ble_eq_true rfl) dX1_readKind_10 (fun H_4 locs hP hD hS => ?_)
  obtain ⟨hP, hD⟩ := z_s_0_3 hP hD
  refine lv_aload_n hx hb dX1_readKind_13 rfl (lv_at hl 0 rfl) ?_
  refine va_get (D := (dC, dI)) (ci := 1) (v := .int r_2) (C := RX1) (T := TX1) (N := 6) hx hb hts hiX1 hown hK hP 0 rfl rfl 3 (by decide) w__fieldLink_RX1_15_ShellHeap_FindsReader_kind_I_ (fun _ h9 => h9) rfl dX1_readKind_14 ?_
  refine lv_iconst (v := (-1)) hx hb dX1_readKind_17 (by decide) ?_
  refine lv_icmp_ne (tgt := 30) hx hb dX1_readKind_18 (by decide) (fun c_5 => ?_) (fun c_5 => ?_)
  · have k_6 : (r_2).toInt ≠ (-1 : Int) := z_ne c_5
    refine lv_aload_n hx hb dX1_readKind_30 rfl (lv_at hl 0 rfl) ?_
    refine va_get (D := (dC, dI)) (ci := 1) (v := .ref a_pa) (C := RX1) (T := TX1) (N := 6) hx hb hts hiX1 hown hK hP 0 rfl rfl 1 (by decide) w__fieldLink_RX1_28_ShellHeap_FindsReader_pantry_LShellHeap_Pantry_ (fun _ h9 => h9) rfl dX1_readKind_31 ?_
    refine lv_aload_n hx hb dX1_readKind_34 rfl (lv_at hl 0 rfl) ?_
    refine va_get (D := (dC, dI)) (ci := 1) (v := .int r_2) (C := RX1) (T := TX1) (N := 6) hx hb hts hiX1 hown hK hP 0 rfl rfl 3 (by decide) w__fieldLink_RX1_15_ShellHeap_FindsReader_kind_I_ (fun _ h9 => h9) rfl dX1_readKind_35 ?_
    obtain ⟨hPc, hDc⟩ := z_sub2 (ws' := [(a_pa, .inr (5, [a_pa_0, a_pa_1, .ref a_fo, a_pa_3, a_pa_4, a_pa_5, a_pa_6, a_pa_7, a_pa_8, .int pk]))]) hP hD [3] (by decide) rfl
    have hKc := hK.sub (tys' := []) [] rfl
    have hFc := va_free (ws := []) (wc := []) (z_D0 _) hS hA [] rfl
    refine va_calli (va_runV (As := [.int r_2]) (rest := []) ⟨hx, hb, hml, hown, hts⟩ (s_X5_hasKindA l dC dI H_4.size a_pa r_2 a_pa_0 a_pa_1 (.ref a_fo) a_pa_3 a_pa_4 a_pa_5 a_pa_6 a_pa_7 a_pa_8 pk hB_pk) (cwV 1 hts gw_s_X1_readKind3_s_X5_hasKindA_78 rfl rfl rfl (by decide +kernel) ⟨Nat.le_of_ble_eq_true rfl, Nat.le_of_ble_eq_true rfl⟩) ⟨z_blind, va_recv hKc hPc (ci := 5) (q0 := 0) rfl rfl, z_pre hPc hKc hDc⟩ rfl rfl hl.1 rfl (lv_room (Nat.le_of_ble_eq_true rfl)) dX1_readKind_38 ⟨Nat.le_of_ble_eq_true rfl, Nat.le_of_ble_eq_true rfl⟩) hS (fun q _ h => hFc q h) hFc (fun r_8 u t H_7 locs ht hvm hw_9 hB hz1 hk1 hS => ?_)
    replace hP := z_pure hP hk1
    clear hPc hDc hKc
    rcases hw_9 with ⟨rfl, hw_9⟩ | ⟨rfl, hw_9⟩
    · have hw_9 : (0 ≤ r_2.toInt ∧ r_2.toInt < pk.toInt) := hw_9
      refine lv_if_ne (tgt := 53) hx hb dX1_readKind_41 (by decide) (fun _ => ?_) (fun c_10 => absurd c_10 (by decide))
      refine lv_aload_n hx hb dX1_readKind_53 rfl (lv_at hl 0 rfl) ?_
      refine va_get (D := (dC, dI)) (ci := 1) (v := .ref a_tp) (C := RX1) (T := TX1) (N := 6) hx hb hts hiX1 hown hK hP 0 rfl rfl 0 (by decide) w__fieldLink_RX1_24_ShellHeap_FindsReader_tape_LShellHeap_Tape_ (fun _ h9 => h9) rfl dX1_readKind_54 ?_
      obtain ⟨hPc, hDc, hFc⟩ := z_sub3 (ws' := [(a_tp, .inr (10, [.ref a_tb, .int tt, .int ta, .int 1, .int tf, .int ts, .int te, .int to, .int tg, .int tx, .int ty])), (a_tb, .inl (ca_tb, 700, .inl fa_tb))]) hP hD hS hA [1, 2] (by decide) rfl
      have hKc := hK
      refine va_callv (va_runV (As := []) (rest := []) ⟨hx, hb, hml, hown, hts⟩ (s_X10_next3 l dC dI H_7.size a_tp a_tb tt ta tf ts te to tg tx ty ca_tb fa_tb hB_tt hB_ta hB_tf hB_ts hB_te hI_a_tb (by first | omega | decide)) (cwV 0 hts gw_s_X1_readKind3_s_X10_next3_62 rfl rfl rfl (by decide +kernel) ⟨Nat.le_of_ble_eq_true rfl, Nat.le_of_ble_eq_true rfl⟩) ⟨z_blind, va_recv hKc hPc (ci := 10) (q0 := 0) rfl rfl, z_pre hPc hKc hDc⟩ rfl rfl hl.1 rfl (lv_room (Nat.le_of_ble_eq_true rfl)) dX1_readKind_57 ⟨Nat.le_of_ble_eq_true rfl, Nat.le_of_ble_eq_true rfl⟩) hS (fun q _ h => hFc q h) hFc (fun u t H_11 locs ht hvm hw_13 hB hz1 hk1 hS => ?_)
      obtain ⟨n_h0_at_14, n_h0_start_15, n_h0_end_16, n_h0_sort_17, n_h0_sign_18, hp_19, hp_20, hp_21, hp_22, hp_23, hp_24, hp_25, hP1, hK1, hD1⟩ := hB
      rw [ht] at hP1
      have hK1 := va_K.moved hvm.symm hK1
      obtain ⟨hP, hD⟩ := z_ap_2 (va_join (wr := [(h0, .inr (1, [.ref a_tp, .ref a_pa, .int fn, .int r_2, .int fs, .int fp])), (a_pa, .inr (5, [a_pa_0, a_pa_1, .ref a_fo, a_pa_3, a_pa_4, a_pa_5, a_pa_6, a_pa_7, a_pa_8, .int pk]))]) hP hD [1, 2] [0, 3] rfl rfl (by decide) (by decide) hk1 hFc hP1 hD1)
      have hp_22 : f_run f_bl fa_tb tt.toInt ta.toInt n_h0_start_15.toInt := hp_22
      have hp_23 : f_C fa_tb tt.toInt n_h0_sort_17.toInt n_h0_sign_18.toInt n_h0_start_15.toInt n_h0_end_16.toInt := hp_23
      have hp_24 : n_h0_at_14.toInt = n_h0_end_16.toInt ∧ n_h0_end_16.toInt ≤ tt.toInt ∧ n_h0_start_15.toInt ≤ n_h0_end_16.toInt := hp_24
      have hp_25 : f_pg n_h0_sort_17.toInt n_h0_start_15.toInt n_h0_end_16.toInt := hp_25
      clear hPc hDc hKc
      have hge_26 := hp_22.2.1
      have hlt_27 := f_tk_lt hC hpg (f_nbA_y hw_3.2 (by omega)).2 (by decide)
      refine lv_iconst (v := 1) hx hb dX1_readKind_60 (by decide) ?_
      obtain ⟨hP9, hD9⟩ := z_sub2 (ws' := [(h0, .inr (1, [.ref a_tp, .ref a_pa, .int fn, .int r_2, .int fs, .int fp])), (a_tp, .inr (10, [.ref a_tb, .int tt, .int n_h0_at_14, .int 1, .int tf, .int n_h0_start_15, .int n_h0_end_16, .int n_h0_sort_17, .int n_h0_sign_18, .int tx, .int ty])), (a_tb, .inl (ca_tb, 700, .inl fa_tb)), (a_pa, .inr (5, [a_pa_0, a_pa_1, .ref a_fo, a_pa_3, a_pa_4, a_pa_5, a_pa_6, a_pa_7, a_pa_8, .int pk]))]) hP hD [0, 2, 3, 1] (by decide) rfl
      have hK9 := hK.sub (tys' := []) [] rfl
      refine W.widen (k := 0) (n := 0) (Nat.le_of_ble_eq_true rfl) (Nat.le_of_ble_eq_true rfl) ?_
      exact W.zret (v := 1) hx hb hr (by rfl) (fun t ht hW => ⟨⟨1, 1, rfl, ⟨rfl, (Or.inl (⟨rfl, trivial⟩))⟩, ⟨r_2, n_h0_at_14, n_h0_start_15, n_h0_end_16, n_h0_sort_17, n_h0_sign_18, tx, ty, hp_19, hp_20, hp_21, (fun _ => (show ((0 : Int) ≤ r_2.toInt ∧ r_2.toInt ≤ (5 : Int)) by omega)), (fun _ => (show (n_h0_at_14.toInt = n_h0_end_16.toInt ∧ n_h0_end_16.toInt ≤ tt.toInt ∧ n_h0_start_15.toInt ≤ n_h0_end_16.toInt ∧ ts.toInt + 1 ≤ n_h0_start_15.toInt) by omega)), (fun _ => (show f_C fa_tb tt.toInt n_h0_sort_17.toInt n_h0_sign_18.toInt n_h0_start_15.toInt n_h0_end_16.toInt from hp_23)), (fun _ => (show f_pg n_h0_sort_17.toInt n_h0_start_15.toInt n_h0_end_16.toInt from hp_25)), (fun _ => (show (f_E fa_tb tt.toInt pk.toInt 0 0 ts.toInt ↔ f_E fa_tb tt.toInt pk.toInt 1 0 n_h0_start_15.toInt) from (f_E0 (f_nbA_y hw_3.2 (by omega)).2 rfl (f_v_lt (show _ < (pk).toInt by omega) (by omega))).trans (f_E_sk hp_22 (by omega)))), (fun h9 => absurd h9 (by decide)), by rw [ht]; exact hP9, va_K.moved hW.alike hK9, hD9⟩⟩, hS.F ht⟩) hS.2.2 dX1_readKind_61
    · have hw_9 : ¬ (0 ≤ r_2.toInt ∧ r_2.toInt < pk.toInt) := hw_9
      refine lv_if_ne (tgt := 53) hx hb dX1_readKind_41 (by decide) (fun c_28 => absurd c_28 (by decide)) (fun _ => ?_)
      refine lv_aload_n hx hb dX1_readKind_44 rfl (lv_at hl 0 rfl) ?_
      refine va_get (D := (dC, dI)) (ci := 1) (v := .ref a_tp) (C := RX1) (T := TX1) (N := 6) hx hb hts hiX1 hown hK hP 0 rfl rfl 0 (by decide) w__fieldLink_RX1_24_ShellHeap_FindsReader_tape_LShellHeap_Tape_ (fun _ h9 => h9) rfl dX1_readKind_45 ?_
      refine lv_iconst (v := 2) hx hb dX1_readKind_48 (by decide) ?_
      obtain ⟨hPc, hDc, hFc⟩ := z_sub3 (ws' := [(a_tp, .inr (10, [.ref a_tb, .int tt, .int ta, .int 1, .int tf, .int ts, .int te, .int to, .int tg, .int tx, .int ty]))]) hP hD hS hA [1] (by decide) rfl
      have hKc := hK.sub (tys' := []) [] rfl
      refine va_calli (va_runV (As := [.int 2]) (rest := []) ⟨hx, hb, hml, hown, hts⟩ (s_X10_fail l dC dI H_7.size a_tp 2 (.ref a_tb) (.int tt) (.int ta) (.int 1) (.int tf) ts (.int te) (.int to) (.int tg) tx ty hB_ts) (cwV 1 hts gw_s_X1_readKind3_s_X10_fail_55 rfl rfl rfl (by decide +kernel) ⟨Nat.le_of_ble_eq_true rfl, Nat.le_of_ble_eq_true rfl⟩) ⟨z_blind, va_recv hKc hPc (ci := 10) (q0 := 0) rfl rfl, z_pre hPc hKc hDc⟩ rfl rfl hl.1 rfl (lv_room (Nat.le_of_ble_eq_true rfl)) dX1_readKind_49 ⟨Nat.le_of_ble_eq_true rfl, Nat.le_of_ble_eq_true rfl⟩) hS (fun q _ h => hFc q h) hFc (fun r_30 u t H_29 locs ht hvm hw_31 hB hz1 hk1 hS => ?_)
      obtain ⟨n_h0_faultSort_32, n_h0_faultPlace_33, hP1, hK1, hD1⟩ := hB
      rw [ht] at hP1
      have hK1 := va_K.moved hvm.symm hK1
      obtain ⟨hP, hD⟩ := z_ap_3 (va_join (wr := [(h0, .inr (1, [.ref a_tp, .ref a_pa, .int fn, .int r_2, .int fs, .int fp])), (a_tb, .inl (ca_tb, 700, .inl fa_tb)), (a_pa, .inr (5, [a_pa_0, a_pa_1, .ref a_fo, a_pa_3, a_pa_4, a_pa_5, a_pa_6, a_pa_7, a_pa_8, .int pk]))]) hP hD [1] [0, 2, 3] rfl rfl (by decide) (by decide) hk1 hFc hP1 hD1)
      clear hPc hDc hKc
      obtain rfl : r_30 = 0 := hw_31
      obtain ⟨hP9, hD9⟩ := z_sub2 (ws' := [(h0, .inr (1, [.ref a_tp, .ref a_pa, .int fn, .int r_2, .int fs, .int fp])), (a_tp, .inr (10, [.ref a_tb, .int tt, .int ta, .int 1, .int tf, .int ts, .int te, .int to, .int tg, .int n_h0_faultSort_32, .int n_h0_faultPlace_33])), (a_tb, .inl (ca_tb, 700, .inl fa_tb)), (a_pa, .inr (5, [a_pa_0, a_pa_1, .ref a_fo, a_pa_3, a_pa_4, a_pa_5, a_pa_6, a_pa_7, a_pa_8, .int pk]))]) hP hD [0, 3, 1, 2] (by decide) rfl
      have hK9 := hK.sub (tys' := []) [] rfl
      refine W.widen (k := 0) (n := 0) (Nat.le_of_ble_eq_true rfl) (Nat.le_of_ble_eq_true rfl) ?_
      exact W.zret (v := 0) hx hb hr (by rfl) (fun t ht hW => ⟨⟨0, 0, rfl, ⟨rfl, (Or.inr (⟨rfl, trivial⟩))⟩, ⟨r_2, ta, ts, te, to, tg, n_h0_faultSort_32, n_h0_faultPlace_33, hB_ta, hB_ts, hB_te, (fun h9 => absurd h9 (by decide)), (fun h9 => absurd h9 (by decide)), (fun h9 => absurd h9 (by decide)), (fun h9 => absurd h9 (by decide)), (fun h9 => absurd h9 (by decide)), (fun _ => (show ¬ f_E fa_tb tt.toInt pk.toInt 0 0 ts.toInt from f_E0n (f_nbA_y hw_3.2 (by omega)).2 (fun h9 => f_v_ge (show (pk).toInt ≤ _ by omega) (by omega) h9.2))), by rw [ht]; exact hP9, va_K.moved hW.alike hK9, hD9⟩⟩, hS.F ht⟩) hS.2.2 dX1_readKind_52
  · have k_34 : (r_2).toInt = (-1 : Int) := z_eq c_5
    obtain rfl : r_2 = (-1) := z_eq' (show (r_2).toInt = (-1 : Int) by omega)
    refine lv_aload_n hx hb dX1_readKind_21 rfl (lv_at hl 0 rfl) ?_
    refine va_get (D := (dC, dI)) (ci := 1) (v := .ref a_tp) (C := RX1) (T := TX1) (N := 6) hx hb hts hiX1 hown hK hP 0 rfl rfl 0 (by decide) w__fieldLink_RX1_24_ShellHeap_FindsReader_tape_LShellHeap_Tape_ (fun _ h9 => h9) rfl dX1_readKind_22 ?_
    refine lv_iconst (v := 1) hx hb dX1_readKind_25 (by decide) ?_
    obtain ⟨hPc, hDc, hFc⟩ := z_sub3 (ws' := [(a_tp, .inr (10, [.ref a_tb, .int tt, .int ta, .int 1, .int tf, .int ts, .int te, .int to, .int tg, .int tx, .int ty]))]) hP hD hS hA [1] (by decide) rfl
    have hKc := hK.sub (tys' := []) [] rfl
    refine va_calli (va_runV (As := [.int 1]) (rest := []) ⟨hx, hb, hml, hown, hts⟩ (s_X10_fail l dC dI H_4.size a_tp 1 (.ref a_tb) (.int tt) (.int ta) (.int 1) (.int tf) ts (.int te) (.int to) (.int tg) tx ty hB_ts) (cwV 1 hts gw_s_X1_readKind3_s_X10_fail_55 rfl rfl rfl (by decide +kernel) ⟨Nat.le_of_ble_eq_true rfl, Nat.le_of_ble_eq_true rfl⟩) ⟨z_blind, va_recv hKc hPc (ci := 10) (q0 := 0) rfl rfl, z_pre hPc hKc hDc⟩ rfl rfl hl.1 rfl (lv_room (Nat.le_of_ble_eq_true rfl)) dX1_readKind_26 ⟨Nat.le_of_ble_eq_true rfl, Nat.le_of_ble_eq_true rfl⟩) hS (fun q _ h => hFc q h) hFc (fun r_37 u t H_36 locs ht hvm hw_38 hB hz1 hk1 hS => ?_)
    obtain ⟨n_h0_faultSort_39, n_h0_faultPlace_40, hP1, hK1, hD1⟩ := hB
    rw [ht] at hP1
    have hK1 := va_K.moved hvm.symm hK1
    obtain ⟨hP, hD⟩ := z_ap_3 (va_join (wr := [(h0, .inr (1, [.ref a_tp, .ref a_pa, .int fn, .int (-1), .int fs, .int fp])), (a_tb, .inl (ca_tb, 700, .inl fa_tb)), (a_pa, .inr (5, [a_pa_0, a_pa_1, .ref a_fo, a_pa_3, a_pa_4, a_pa_5, a_pa_6, a_pa_7, a_pa_8, .int pk]))]) hP hD [1] [0, 2, 3] rfl rfl (by decide) (by decide) hk1 hFc hP1 hD1)
    clear hPc hDc hKc
    obtain rfl : r_37 = 0 := hw_38
    obtain ⟨hP9, hD9⟩ := z_sub2 (ws' := [(h0, .inr (1, [.ref a_tp, .ref a_pa, .int fn, .int (-1), .int fs, .int fp])), (a_tp, .inr (10, [.ref a_tb, .int tt, .int ta, .int 1, .int tf, .int ts, .int te, .int to, .int tg, .int n_h0_faultSort_39, .int n_h0_faultPlace_40])), (a_tb, .inl (ca_tb, 700, .inl fa_tb)), (a_pa, .inr (5, [a_pa_0, a_pa_1, .ref a_fo, a_pa_3, a_pa_4, a_pa_5, a_pa_6, a_pa_7, a_pa_8, .int pk]))]) hP hD [0, 3, 1, 2] (by decide) rfl
    have hK9 := hK.sub (tys' := []) [] rfl
    refine W.widen (k := 0) (n := 0) (Nat.le_of_ble_eq_true rfl) (Nat.le_of_ble_eq_true rfl) ?_
    exact W.zret (v := 0) hx hb hr (by rfl) (fun t ht hW => ⟨⟨0, 0, rfl, ⟨rfl, (Or.inr (⟨rfl, trivial⟩))⟩, ⟨(-1), ta, ts, te, to, tg, n_h0_faultSort_39, n_h0_faultPlace_40, hB_ta, hB_ts, hB_te, (fun h9 => absurd h9 (by decide)), (fun h9 => absurd h9 (by decide)), (fun h9 => absurd h9 (by decide)), (fun h9 => absurd h9 (by decide)), (fun h9 => absurd h9 (by decide)), (fun _ => (show ¬ f_E fa_tb tt.toInt pk.toInt 0 0 ts.toInt from f_E0x (f_nbA_n hw_3.2 (by first | omega | decide)))), by rw [ht]; exact hP9, va_K.moved hW.alike hK9, hD9⟩⟩, hS.F ht⟩) hS.2.2 dX1_readKind_29
def u_s_X1_readSieve3 : List Cond := .code yX1_readSieve cX1_readSieve 1 (some .boolean) :: ([.fieldLink RX1 24 "ShellHeap$FindsReader" "tape" "LShellHeap$Tape;", .methodLink RX1 74 yX10_numberBehind, .instanceMethod yX10_numberBehind, .selects RX10 yX10_numberBehind yX10_numberBehind, .initialized RX10, .fieldLink RX1 18 "ShellHeap$FindsReader" "sieve" "I", .methodLink RX1 62 yX10_next, .instanceMethod yX10_next, .selects RX10 yX10_next yX10_next, .methodLink RX1 55 yX10_fail, .instanceMethod yX10_fail, .selects RX10 yX10_fail yX10_fail] ++ (wsX10 ++ (u_s_X10_numberBehind_2 ++ (u_s_X10_next3 ++ (u_s_X10_fail ++ [])))))
theorem gd_s_X1_readSieve3 : z_gd u_s_X1_readSieve3 := z_gdc (by decide +kernel) (z_gda gdX1 (z_gda gd_s_X10_numberBehind_2 (z_gda gd_s_X10_next3 (z_gda gd_s_X10_fail (z_gd0)))))
set_option maxRecDepth 20000 in
theorem gw_s_X1_readSieve3_s_X10_numberBehind_2_74 : GoodIn u_s_X1_readSieve3 (wsV RX1 74 RX10 yX10_numberBehind u_s_X10_numberBehind_2) := z_gV (z_gr _ [2, 3, 4, 5] rfl (by decide +kernel)) (fun w h => ⟨z_mc (z_mr (z_mr (z_ml h))), gd_s_X10_numberBehind_2 w h⟩)
set_option maxRecDepth 20000 in
theorem gw_s_X1_readSieve3_s_X10_next3_62 : GoodIn u_s_X1_readSieve3 (wsV RX1 62 RX10 yX10_next u_s_X10_next3) := z_gV (z_gr _ [7, 8, 9, 5] rfl (by decide +kernel)) (fun w h => ⟨z_mc (z_mr (z_mr (z_mr (z_ml h)))), gd_s_X10_next3 w h⟩)
set_option maxRecDepth 20000 in
theorem gw_s_X1_readSieve3_s_X10_fail_55 : GoodIn u_s_X1_readSieve3 (wsV RX1 55 RX10 yX10_fail u_s_X10_fail) := z_gV (z_gr _ [10, 11, 12, 5] rfl (by decide +kernel)) (fun w h => ⟨z_mc (z_mr (z_mr (z_mr (z_mr (z_ml h))))), gd_s_X10_fail w h⟩)
set_option maxHeartbeats 4000000 in
set_option maxRecDepth 100000 in
theorem s_X1_readSieve3 (l : Launch) (dC : Nat → ClassId) (dI : Nat → Nat → Nat) (sz : Nat) (sd : Nat → Nat) (sv : Nat → Nat) (sf : Value) (h0 : Nat) (a_tp : Nat) (a_pa : Nat) (fn : Int32) (fk : Int32) (fs : Int32) (fp : Int32) (a_tb : Nat) (tt : Int32) (ta : Int32) (tf : Int32) (ts : Int32) (te : Int32) (to : Int32) (tg : Int32) (tx : Int32) (ty : Int32) (ca_tb : ClassId) (fa_tb : Nat → Int32) (a_pa_0 : Value) (a_pa_1 : Value) (a_fo : Nat) (a_pa_3 : Value) (a_pa_4 : Value) (a_pa_5 : Value) (a_pa_6 : Value) (a_pa_7 : Value) (a_pa_8 : Value) (pk : Int32) (hB_tt : ((0 : Int) ≤ (tt).toInt ∧ (tt).toInt ≤ (700 : Int))) (hB_ta : ((0 : Int) ≤ (ta).toInt ∧ (ta).toInt ≤ (700 : Int))) (hB_tf : ((0 : Int) ≤ (tf).toInt ∧ (tf).toInt ≤ (700 : Int))) (hB_ts : ((0 : Int) ≤ (ts).toInt ∧ (ts).toInt ≤ (700 : Int))) (hB_te : ((0 : Int) ≤ (te).toInt ∧ (te).toInt ≤ (700 : Int))) (hB_pk : ((0 : Int) ≤ (pk).toInt ∧ (pk).toInt ≤ (6 : Int))) (hI_a_tb : ∀ j : Nat, ((0 : Int) ≤ (fa_tb j).toInt ∧ (fa_tb j).toInt ≤ (255 : Int))) (hC : f_C fa_tb tt.toInt to.toInt tg.toInt ts.toInt te.toInt) (hpg : f_pg to.toInt ts.toInt te.toInt) (hat : ta.toInt = te.toInt ∧ te.toInt ≤ tt.toInt ∧ ts.toInt ≤ te.toInt) : Met l yX1_readSieve u_s_X1_readSieve3 ({ frames := 3, cells := 0, slots := 0, locals := 65 }) (va_Pc [.ref h0] (z_CS (dC, dI) vwCl [(h0, .inr (1, [.ref a_tp, .ref a_pa, .int fn, .int fk, .int fs, .int fp])), (a_tp, .inr (10, [.ref a_tb, .int tt, .int ta, .int 1, .int tf, .int ts, .int te, .int to, .int tg, .int tx, .int ty])), (a_tb, .inl (ca_tb, 700, .inl fa_tb)), (a_pa, .inr (5, [a_pa_0, a_pa_1, .ref a_fo, a_pa_3, a_pa_4, a_pa_5, a_pa_6, a_pa_7, a_pa_8, .int pk]))] [(ca_tb, .int)] sz sd sv sf [(h0, .inr (1, [.ref a_tp, .ref a_pa, .int fn, .int fk, .int fs, .int fp])), (a_tp, .inr (10, [.ref a_tb, .int tt, .int ta, .int 1, .int tf, .int ts, .int te, .int to, .int tg, .int tx, .int ty])), (a_tb, .inl (ca_tb, 700, .inl fa_tb)), (a_pa, .inr (5, [a_pa_0, a_pa_1, .ref a_fo, a_pa_3, a_pa_4, a_pa_5, a_pa_6, a_pa_7, a_pa_8, .int pk]))])) (va_Qi (fun (r : Int32) (u : Int32) => r = u ∧ ((r = 1 ∧ True) ∨ (r = 0 ∧ True))) (fun (u : Int32) (t : State) => ∃ (n_h0_sieve : Int32), ∃ (n_a_tp_at : Int32), ∃ (n_a_tp_start : Int32), ∃ (n_a_tp_end : Int32), ∃ (n_a_tp_sort : Int32), ∃ (n_a_tp_sign : Int32), ∃ (n_a_tp_faultSort : Int32), ∃ (n_a_tp_faultPlace : Int32), ((0 : Int) ≤ (n_a_tp_at).toInt ∧ (n_a_tp_at).toInt ≤ (700 : Int)) ∧ ((0 : Int) ≤ (n_a_tp_start).toInt ∧ (n_a_tp_start).toInt ≤ (700 : Int)) ∧ ((0 : Int) ≤ (n_a_tp_end).toInt ∧ (n_a_tp_end).toInt ≤ (700 : Int)) ∧ (u = 1 → ((0 : Int) ≤ n_h0_sieve.toInt ∧ n_h0_sieve.toInt ≤ (3 : Int))) ∧ (u = 1 → (n_a_tp_at.toInt = n_a_tp_end.toInt ∧ n_a_tp_end.toInt ≤ tt.toInt ∧ n_a_tp_start.toInt ≤ n_a_tp_end.toInt ∧ ts.toInt + 1 ≤ n_a_tp_start.toInt)) ∧ (u = 1 → f_C fa_tb tt.toInt n_a_tp_sort.toInt n_a_tp_sign.toInt n_a_tp_start.toInt n_a_tp_end.toInt) ∧ (u = 1 → f_pg n_a_tp_sort.toInt n_a_tp_start.toInt n_a_tp_end.toInt) ∧ (u = 1 → (f_E fa_tb tt.toInt pk.toInt 1 0 ts.toInt ↔ f_E fa_tb tt.toInt pk.toInt 2 0 n_a_tp_start.toInt)) ∧ (u = 0 → ¬ f_E fa_tb tt.toInt pk.toInt 1 0 ts.toInt) ∧ va_P (dC, dI) vwCl [(h0, .inr (1, [.ref a_tp, .ref a_pa, .int fn, .int fk, .int n_h0_sieve, .int fp])), (a_tp, .inr (10, [.ref a_tb, .int tt, .int n_a_tp_at, .int 1, .int tf, .int n_a_tp_start, .int n_a_tp_end, .int n_a_tp_sort, .int n_a_tp_sign, .int n_a_tp_faultSort, .int n_a_tp_faultPlace])), (a_tb, .inl (ca_tb, 700, .inl fa_tb)), (a_pa, .inr (5, [a_pa_0, a_pa_1, .ref a_fo, a_pa_3, a_pa_4, a_pa_5, a_pa_6, a_pa_7, a_pa_8, .int pk]))] t.heap ∧ va_K (dC, dI) vwCl [] t ∧ va_D (va_A [(h0, .inr (1, [.ref a_tp, .ref a_pa, .int fn, .int fk, .int fs, .int fp])), (a_tp, .inr (10, [.ref a_tb, .int tt, .int ta, .int 1, .int tf, .int ts, .int te, .int to, .int tg, .int tx, .int ty])), (a_tb, .inl (ca_tb, 700, .inl fa_tb)), (a_pa, .inr (5, [a_pa_0, a_pa_1, .ref a_fo, a_pa_3, a_pa_4, a_pa_5, a_pa_6, a_pa_7, a_pa_8, .int pk]))] sz) [(h0, .inr (1, [.ref a_tp, .ref a_pa, .int fn, .int fk, .int n_h0_sieve, .int fp])), (a_tp, .inr (10, [.ref a_tb, .int tt, .int n_a_tp_at, .int 1, .int tf, .int n_a_tp_start, .int n_a_tp_end, .int n_a_tp_sort, .int n_a_tp_sign, .int n_a_tp_faultSort, .int n_a_tp_faultPlace])), (a_tb, .inl (ca_tb, 700, .inl fa_tb)), (a_pa, .inr (5, [a_pa_0, a_pa_1, .ref a_fo, a_pa_3, a_pa_4, a_pa_5, a_pa_6, a_pa_7, a_pa_8, .int pk]))]) (va_A [(h0, .inr (1, [.ref a_tp, .ref a_pa, .int fn, .int fk, .int fs, .int fp])), (a_tp, .inr (10, [.ref a_tb, .int tt, .int ta, .int 1, .int tf, .int ts, .int te, .int to, .int tg, .int tx, .int ty])), (a_tb, .inl (ca_tb, 700, .inl fa_tb)), (a_pa, .inr (5, [a_pa_0, a_pa_1, .ref a_fo, a_pa_3, a_pa_4, a_pa_5, a_pa_6, a_pa_7, a_pa_8, .int pk]))] sz)) 0 0 (va_A [(h0, .inr (1, [.ref a_tp, .ref a_pa, .int fn, .int fk, .int fs, .int fp])), (a_tp, .inr (10, [.ref a_tb, .int tt, .int ta, .int 1, .int tf, .int ts, .int te, .int to, .int tg, .int tx, .int ty])), (a_tb, .inl (ca_tb, 700, .inl fa_tb)), (a_pa, .inr (5, [a_pa_0, a_pa_1, .ref a_fo, a_pa_3, a_pa_4, a_pa_5, a_pa_6, a_pa_7, a_pa_8, .int pk]))] sz) := by
  refine Met.ofW (cc := cX1_readSieve) (maxL := 1) (ret := (some .boolean)) (by decide) rfl ?_
  intro p e s m args below meth c s₁ B hml hv
  obtain ⟨rfl, ⟨hsz, hP, hK, hD0⟩, hST⟩ := hv
  have hx := B.exec
  have hb := B.bytes
  have hr := B.returns
  have hts := atoms_spec (ws := u_s_X1_readSieve3) B.pre
  have hown : s.vm.findClass RX1 = some m.cls := findClass_of_methodNamed B.named
  have hlocks := B.notSynchronized
  subst hsz
  have hD := hD0.self (sz := s.heap.size)
  generalize hAe : va_A [(h0, .inr (1, [.ref a_tp, .ref a_pa, .int fn, .int fk, .int fs, .int fp])), (a_tp, .inr (10, [.ref a_tb, .int tt, .int ta, .int 1, .int tf, .int ts, .int te, .int to, .int tg, .int tx, .int ty])), (a_tb, .inl (ca_tb, 700, .inl fa_tb)), (a_pa, .inr (5, [a_pa_0, a_pa_1, .ref a_fo, a_pa_3, a_pa_4, a_pa_5, a_pa_6, a_pa_7, a_pa_8, .int pk]))] s.heap.size = A at hD hST ⊢
  have hA : ∀ q : Nat, s.heap.size ≤ q → A q := fun q h => by rw [← hAe]; exact Or.inr h
  have hS : va_S A s.heap s.heap [] := va_S.rf
  have hP : va_P (dC, dI) vwCl [(h0, .inr (1, [.ref a_tp, .ref a_pa, .int fn, .int fk, .int fs, .int fp])), (a_tp, .inr (10, [.ref a_tb, .int tt, .int ta, .int 1, .int tf, .int ts, .int te, .int to, .int tg, .int tx, .int ty])), (a_tb, .inl (ca_tb, 700, .inl fa_tb)), (a_pa, .inr (5, [a_pa_0, a_pa_1, .ref a_fo, a_pa_3, a_pa_4, a_pa_5, a_pa_6, a_pa_7, a_pa_8, .int pk]))] s.heap := hP
  have w__fieldLink_RX1_24_ShellHeap_FindsReader_tape_LShellHeap_Tape_ := hts (.fieldLink RX1 24 "ShellHeap$FindsReader" "tape" "LShellHeap$Tape;") (z_mc (z_ml z_m0))
  have hiX1 := show ∀ w ∈ u_ws RX1 TX1 6, w ∈ u_s_X1_readSieve3 from fun w h => z_mc (z_mr (z_ml h))
  have w__fieldLink_RX1_18_ShellHeap_FindsReader_sieve_I_ := hts (.fieldLink RX1 18 "ShellHeap$FindsReader" "sieve" "I") (z_mc (z_ml z_m5))
  have hl := lv_entry ([.ref h0]) (n := 1) (Nat.le_of_ble_eq_true rfl)
  rw [lg_entry_eq]
  generalize (lg_sl ([.ref h0]) ++ List.replicate (1 - (lg_sl ([.ref h0])).length) Slot.unset).toArray = ls at hl ⊢
  have hl : lv_has ls 1 [(0, .ref h0)] := hl
  refine lv_aload_n hx hb dX1_readSieve_0 rfl (lv_at hl 0 rfl) ?_
  refine lv_aload_n hx hb dX1_readSieve_1 rfl (lv_at hl 0 rfl) ?_
  refine va_get (D := (dC, dI)) (ci := 1) (v := .ref a_tp) (C := RX1) (T := TX1) (N := 6) hx hb hts hiX1 hown hK hP 0 rfl rfl 0 (by decide) w__fieldLink_RX1_24_ShellHeap_FindsReader_tape_LShellHeap_Tape_ (fun _ h9 => h9) rfl dX1_readSieve_2 ?_
  refine lv_bipush (v := 115) hx hb dX1_readSieve_5 (by decide) ?_
  obtain ⟨hPc, hDc⟩ := z_sub2 (ws' := [(a_tp, .inr (10, [.ref a_tb, .int tt, .int ta, .int 1, .int tf, .int ts, .int te, .int to, .int tg, .int tx, .int ty])), (a_tb, .inl (ca_tb, 700, .inl fa_tb))]) hP hD [1, 2] (by decide) rfl
  have hKc := hK
  have hFc := va_free (ws := []) (wc := []) (z_D0 _) hS hA [] rfl
  refine va_calli (va_runV (As := [.int 115]) (rest := [.ref h0]) ⟨hx, hb, hml, hown, hts⟩ (s_X10_numberBehind_2 l dC dI s.heap.size a_tp a_tb tt (.int ta) (.int 1) (.int tf) ts te to tg (.int tx) (.int ty) ca_tb fa_tb hB_tt hB_ts hB_te hI_a_tb hC (by first | omega | decide)) (cwV 1 hts gw_s_X1_readSieve3_s_X10_numberBehind_2_74 rfl rfl rfl (by decide +kernel) ⟨Nat.le_of_ble_eq_true rfl, Nat.le_of_ble_eq_true rfl⟩) ⟨z_blind, va_recv hKc hPc (ci := 10) (q0 := 0) rfl rfl, z_pre hPc hKc hDc⟩ rfl rfl hl.1 rfl (lv_room (Nat.le_of_ble_eq_true rfl)) dX1_readSieve_7 ⟨Nat.le_of_ble_eq_true rfl, Nat.le_of_ble_eq_true rfl⟩) hS (fun q _ h => hFc q h) hFc (fun r_2 u t H_1 locs ht hvm hw_3 hB hz1 hk1 hS => ?_)
  replace hP := z_pure hP hk1
  clear hPc hDc hKc
  refine va_put (D := (dC, dI)) (ci := 1) (v := .int r_2) (ty := .int) (C := RX1) (T := TX1) (N := 6) hx hb hts hiX1 tyX1 tyX1_ok nmX1 hown hK hP hD hS 0 rfl rfl 4 (by decide) w__fieldLink_RX1_18_ShellHeap_FindsReader_sieve_I_ (fun _ h9 => h9) rfl (by decide +kernel) rfl rfl (Nat.le_of_ble_eq_true rfl) dX1_readSieve_10 (fun H_4 locs hP hD hS => ?_)
  obtain ⟨hP, hD⟩ := z_s_0_4 hP hD
  refine lv_aload_n hx hb dX1_readSieve_13 rfl (lv_at hl 0 rfl) ?_
  refine va_get (D := (dC, dI)) (ci := 1) (v := .int r_2) (C := RX1) (T := TX1) (N := 6) hx hb hts hiX1 hown hK hP 0 rfl rfl 4 (by decide) w__fieldLink_RX1_18_ShellHeap_FindsReader_sieve_I_ (fun _ h9 => h9) rfl dX1_readSieve_14 ?_
  refine lv_iconst (v := (-1)) hx hb dX1_readSieve_17 (by decide) ?_
  refine lv_icmp_ne (tgt := 30) hx hb dX1_readSieve_18 (by decide) (fun c_5 => ?_) (fun c_5 => ?_)
  · have k_6 : (r_2).toInt ≠ (-1 : Int) := z_ne c_5
    refine lv_aload_n hx hb dX1_readSieve_30 rfl (lv_at hl 0 rfl) ?_
    refine va_get (D := (dC, dI)) (ci := 1) (v := .int r_2) (C := RX1) (T := TX1) (N := 6) hx hb hts hiX1 hown hK hP 0 rfl rfl 4 (by decide) w__fieldLink_RX1_18_ShellHeap_FindsReader_sieve_I_ (fun _ h9 => h9) rfl dX1_readSieve_31 ?_
    refine lv_iconst (v := 4) hx hb dX1_readSieve_34 (by decide) ?_
    refine lv_icmp_lt (tgt := 47) hx hb dX1_readSieve_35 (by decide) (fun c_7 => ?_) (fun c_7 => ?_)
    · have k_8 : (r_2).toInt < (4 : Int) := z_lt c_7
      refine lv_aload_n hx hb dX1_readSieve_47 rfl (lv_at hl 0 rfl) ?_
      refine va_get (D := (dC, dI)) (ci := 1) (v := .ref a_tp) (C := RX1) (T := TX1) (N := 6) hx hb hts hiX1 hown hK hP 0 rfl rfl 0 (by decide) w__fieldLink_RX1_24_ShellHeap_FindsReader_tape_LShellHeap_Tape_ (fun _ h9 => h9) rfl dX1_readSieve_48 ?_
      obtain ⟨hPc, hDc, hFc⟩ := z_sub3 (ws' := [(a_tp, .inr (10, [.ref a_tb, .int tt, .int ta, .int 1, .int tf, .int ts, .int te, .int to, .int tg, .int tx, .int ty])), (a_tb, .inl (ca_tb, 700, .inl fa_tb))]) hP hD hS hA [1, 2] (by decide) rfl
      have hKc := hK
      refine va_callv (va_runV (As := []) (rest := []) ⟨hx, hb, hml, hown, hts⟩ (s_X10_next3 l dC dI H_4.size a_tp a_tb tt ta tf ts te to tg tx ty ca_tb fa_tb hB_tt hB_ta hB_tf hB_ts hB_te hI_a_tb (by first | omega | decide)) (cwV 0 hts gw_s_X1_readSieve3_s_X10_next3_62 rfl rfl rfl (by decide +kernel) ⟨Nat.le_of_ble_eq_true rfl, Nat.le_of_ble_eq_true rfl⟩) ⟨z_blind, va_recv hKc hPc (ci := 10) (q0 := 0) rfl rfl, z_pre hPc hKc hDc⟩ rfl rfl hl.1 rfl (lv_room (Nat.le_of_ble_eq_true rfl)) dX1_readSieve_51 ⟨Nat.le_of_ble_eq_true rfl, Nat.le_of_ble_eq_true rfl⟩) hS (fun q _ h => hFc q h) hFc (fun u t H_9 locs ht hvm hw_11 hB hz1 hk1 hS => ?_)
      obtain ⟨n_h0_at_12, n_h0_start_13, n_h0_end_14, n_h0_sort_15, n_h0_sign_16, hp_17, hp_18, hp_19, hp_20, hp_21, hp_22, hp_23, hP1, hK1, hD1⟩ := hB
      rw [ht] at hP1
      have hK1 := va_K.moved hvm.symm hK1
      obtain ⟨hP, hD⟩ := z_ap_2 (va_join (wr := [(h0, .inr (1, [.ref a_tp, .ref a_pa, .int fn, .int fk, .int r_2, .int fp])), (a_pa, .inr (5, [a_pa_0, a_pa_1, .ref a_fo, a_pa_3, a_pa_4, a_pa_5, a_pa_6, a_pa_7, a_pa_8, .int pk]))]) hP hD [1, 2] [0, 3] rfl rfl (by decide) (by decide) hk1 hFc hP1 hD1)
      have hp_20 : f_run f_bl fa_tb tt.toInt ta.toInt n_h0_start_13.toInt := hp_20
      have hp_21 : f_C fa_tb tt.toInt n_h0_sort_15.toInt n_h0_sign_16.toInt n_h0_start_13.toInt n_h0_end_14.toInt := hp_21
      have hp_22 : n_h0_at_12.toInt = n_h0_end_14.toInt ∧ n_h0_end_14.toInt ≤ tt.toInt ∧ n_h0_start_13.toInt ≤ n_h0_end_14.toInt := hp_22
      have hp_23 : f_pg n_h0_sort_15.toInt n_h0_start_13.toInt n_h0_end_14.toInt := hp_23
      clear hPc hDc hKc
      have hge_24 := hp_20.2.1
      have hlt_25 := f_tk_lt hC hpg (f_nbA_y hw_3.2 (by omega)).2 (by decide)
      refine lv_iconst (v := 1) hx hb dX1_readSieve_54 (by decide) ?_
      obtain ⟨hP9, hD9⟩ := z_sub2 (ws' := [(h0, .inr (1, [.ref a_tp, .ref a_pa, .int fn, .int fk, .int r_2, .int fp])), (a_tp, .inr (10, [.ref a_tb, .int tt, .int n_h0_at_12, .int 1, .int tf, .int n_h0_start_13, .int n_h0_end_14, .int n_h0_sort_15, .int n_h0_sign_16, .int tx, .int ty])), (a_tb, .inl (ca_tb, 700, .inl fa_tb)), (a_pa, .inr (5, [a_pa_0, a_pa_1, .ref a_fo, a_pa_3, a_pa_4, a_pa_5, a_pa_6, a_pa_7, a_pa_8, .int pk]))]) hP hD [0, 2, 3, 1] (by decide) rfl
      have hK9 := hK.sub (tys' := []) [] rfl
      refine W.widen (k := 0) (n := 0) (Nat.le_of_ble_eq_true rfl) (Nat.le_of_ble_eq_true rfl) ?_
      exact W.zret (v := 1) hx hb hr (by rfl) (fun t ht hW => ⟨⟨1, 1, rfl, ⟨rfl, (Or.inl (⟨rfl, trivial⟩))⟩, ⟨r_2, n_h0_at_12, n_h0_start_13, n_h0_end_14, n_h0_sort_15, n_h0_sign_16, tx, ty, hp_17, hp_18, hp_19, (fun _ => (show ((0 : Int) ≤ r_2.toInt ∧ r_2.toInt ≤ (3 : Int)) by omega)), (fun _ => (show (n_h0_at_12.toInt = n_h0_end_14.toInt ∧ n_h0_end_14.toInt ≤ tt.toInt ∧ n_h0_start_13.toInt ≤ n_h0_end_14.toInt ∧ ts.toInt + 1 ≤ n_h0_start_13.toInt) by omega)), (fun _ => (show f_C fa_tb tt.toInt n_h0_sort_15.toInt n_h0_sign_16.toInt n_h0_start_13.toInt n_h0_end_14.toInt from hp_21)), (fun _ => (show f_pg n_h0_sort_15.toInt n_h0_start_13.toInt n_h0_end_14.toInt from hp_23)), (fun _ => (show (f_E fa_tb tt.toInt pk.toInt 1 0 ts.toInt ↔ f_E fa_tb tt.toInt pk.toInt 2 0 n_h0_start_13.toInt) from (f_E1 (f_nbA_y hw_3.2 (by omega)).2 rfl (f_v_lt (show _ < (4 : Int) by omega) (by omega))).trans (f_E_sk hp_20 (by omega)))), (fun h9 => absurd h9 (by decide)), by rw [ht]; exact hP9, va_K.moved hW.alike hK9, hD9⟩⟩, hS.F ht⟩) hS.2.2 dX1_readSieve_55
    · have k_26 : (r_2).toInt ≥ (4 : Int) := z_nlt c_7
      refine lv_aload_n hx hb dX1_readSieve_38 rfl (lv_at hl 0 rfl) ?_
      refine va_get (D := (dC, dI)) (ci := 1) (v := .ref a_tp) (C := RX1) (T := TX1) (N := 6) hx hb hts hiX1 hown hK hP 0 rfl rfl 0 (by decide) w__fieldLink_RX1_24_ShellHeap_FindsReader_tape_LShellHeap_Tape_ (fun _ h9 => h9) rfl dX1_readSieve_39 ?_
      refine lv_iconst (v := 2) hx hb dX1_readSieve_42 (by decide) ?_
      obtain ⟨hPc, hDc, hFc⟩ := z_sub3 (ws' := [(a_tp, .inr (10, [.ref a_tb, .int tt, .int ta, .int 1, .int tf, .int ts, .int te, .int to, .int tg, .int tx, .int ty]))]) hP hD hS hA [1] (by decide) rfl
      have hKc := hK.sub (tys' := []) [] rfl
      refine va_calli (va_runV (As := [.int 2]) (rest := []) ⟨hx, hb, hml, hown, hts⟩ (s_X10_fail l dC dI H_4.size a_tp 2 (.ref a_tb) (.int tt) (.int ta) (.int 1) (.int tf) ts (.int te) (.int to) (.int tg) tx ty hB_ts) (cwV 1 hts gw_s_X1_readSieve3_s_X10_fail_55 rfl rfl rfl (by decide +kernel) ⟨Nat.le_of_ble_eq_true rfl, Nat.le_of_ble_eq_true rfl⟩) ⟨z_blind, va_recv hKc hPc (ci := 10) (q0 := 0) rfl rfl, z_pre hPc hKc hDc⟩ rfl rfl hl.1 rfl (lv_room (Nat.le_of_ble_eq_true rfl)) dX1_readSieve_43 ⟨Nat.le_of_ble_eq_true rfl, Nat.le_of_ble_eq_true rfl⟩) hS (fun q _ h => hFc q h) hFc (fun r_28 u t H_27 locs ht hvm hw_29 hB hz1 hk1 hS => ?_)
      obtain ⟨n_h0_faultSort_30, n_h0_faultPlace_31, hP1, hK1, hD1⟩ := hB
      rw [ht] at hP1
      have hK1 := va_K.moved hvm.symm hK1
      obtain ⟨hP, hD⟩ := z_ap_3 (va_join (wr := [(h0, .inr (1, [.ref a_tp, .ref a_pa, .int fn, .int fk, .int r_2, .int fp])), (a_tb, .inl (ca_tb, 700, .inl fa_tb)), (a_pa, .inr (5, [a_pa_0, a_pa_1, .ref a_fo, a_pa_3, a_pa_4, a_pa_5, a_pa_6, a_pa_7, a_pa_8, .int pk]))]) hP hD [1] [0, 2, 3] rfl rfl (by decide) (by decide) hk1 hFc hP1 hD1)
      clear hPc hDc hKc
      obtain rfl : r_28 = 0 := hw_29
      obtain ⟨hP9, hD9⟩ := z_sub2 (ws' := [(h0, .inr (1, [.ref a_tp, .ref a_pa, .int fn, .int fk, .int r_2, .int fp])), (a_tp, .inr (10, [.ref a_tb, .int tt, .int ta, .int 1, .int tf, .int ts, .int te, .int to, .int tg, .int n_h0_faultSort_30, .int n_h0_faultPlace_31])), (a_tb, .inl (ca_tb, 700, .inl fa_tb)), (a_pa, .inr (5, [a_pa_0, a_pa_1, .ref a_fo, a_pa_3, a_pa_4, a_pa_5, a_pa_6, a_pa_7, a_pa_8, .int pk]))]) hP hD [0, 3, 1, 2] (by decide) rfl
      have hK9 := hK.sub (tys' := []) [] rfl
      refine W.widen (k := 0) (n := 0) (Nat.le_of_ble_eq_true rfl) (Nat.le_of_ble_eq_true rfl) ?_
      exact W.zret (v := 0) hx hb hr (by rfl) (fun t ht hW => ⟨⟨0, 0, rfl, ⟨rfl, (Or.inr (⟨rfl, trivial⟩))⟩, ⟨r_2, ta, ts, te, to, tg, n_h0_faultSort_30, n_h0_faultPlace_31, hB_ta, hB_ts, hB_te, (fun h9 => absurd h9 (by decide)), (fun h9 => absurd h9 (by decide)), (fun h9 => absurd h9 (by decide)), (fun h9 => absurd h9 (by decide)), (fun h9 => absurd h9 (by decide)), (fun _ => (show ¬ f_E fa_tb tt.toInt pk.toInt 1 0 ts.toInt from f_E1n (f_nbA_y hw_3.2 (by omega)).2 (fun h9 => f_v_ge (show (4 : Int) ≤ _ by omega) (by omega) h9.2))), by rw [ht]; exact hP9, va_K.moved hW.alike hK9, hD9⟩⟩, hS.F ht⟩) hS.2.2 dX1_readSieve_46
  · have k_32 : (r_2).toInt = (-1 : Int) := z_eq c_5
    obtain rfl : r_2 = (-1) := z_eq' (show (r_2).toInt = (-1 : Int) by omega)
    refine lv_aload_n hx hb dX1_readSieve_21 rfl (lv_at hl 0 rfl) ?_
    refine va_get (D := (dC, dI)) (ci := 1) (v := .ref a_tp) (C := RX1) (T := TX1) (N := 6) hx hb hts hiX1 hown hK hP 0 rfl rfl 0 (by decide) w__fieldLink_RX1_24_ShellHeap_FindsReader_tape_LShellHeap_Tape_ (fun _ h9 => h9) rfl dX1_readSieve_22 ?_
    refine lv_iconst (v := 1) hx hb dX1_readSieve_25 (by decide) ?_
    obtain ⟨hPc, hDc, hFc⟩ := z_sub3 (ws' := [(a_tp, .inr (10, [.ref a_tb, .int tt, .int ta, .int 1, .int tf, .int ts, .int te, .int to, .int tg, .int tx, .int ty]))]) hP hD hS hA [1] (by decide) rfl
    have hKc := hK.sub (tys' := []) [] rfl
    refine va_calli (va_runV (As := [.int 1]) (rest := []) ⟨hx, hb, hml, hown, hts⟩ (s_X10_fail l dC dI H_4.size a_tp 1 (.ref a_tb) (.int tt) (.int ta) (.int 1) (.int tf) ts (.int te) (.int to) (.int tg) tx ty hB_ts) (cwV 1 hts gw_s_X1_readSieve3_s_X10_fail_55 rfl rfl rfl (by decide +kernel) ⟨Nat.le_of_ble_eq_true rfl, Nat.le_of_ble_eq_true rfl⟩) ⟨z_blind, va_recv hKc hPc (ci := 10) (q0 := 0) rfl rfl, z_pre hPc hKc hDc⟩ rfl rfl hl.1 rfl (lv_room (Nat.le_of_ble_eq_true rfl)) dX1_readSieve_26 ⟨Nat.le_of_ble_eq_true rfl, Nat.le_of_ble_eq_true rfl⟩) hS (fun q _ h => hFc q h) hFc (fun r_35 u t H_34 locs ht hvm hw_36 hB hz1 hk1 hS => ?_)
    obtain ⟨n_h0_faultSort_37, n_h0_faultPlace_38, hP1, hK1, hD1⟩ := hB
    rw [ht] at hP1
    have hK1 := va_K.moved hvm.symm hK1
    obtain ⟨hP, hD⟩ := z_ap_3 (va_join (wr := [(h0, .inr (1, [.ref a_tp, .ref a_pa, .int fn, .int fk, .int (-1), .int fp])), (a_tb, .inl (ca_tb, 700, .inl fa_tb)), (a_pa, .inr (5, [a_pa_0, a_pa_1, .ref a_fo, a_pa_3, a_pa_4, a_pa_5, a_pa_6, a_pa_7, a_pa_8, .int pk]))]) hP hD [1] [0, 2, 3] rfl rfl (by decide) (by decide) hk1 hFc hP1 hD1)
    clear hPc hDc hKc
    obtain rfl : r_35 = 0 := hw_36
    obtain ⟨hP9, hD9⟩ := z_sub2 (ws' := [(h0, .inr (1, [.ref a_tp, .ref a_pa, .int fn, .int fk, .int (-1), .int fp])), (a_tp, .inr (10, [.ref a_tb, .int tt, .int ta, .int 1, .int tf, .int ts, .int te, .int to, .int tg, .int n_h0_faultSort_37, .int n_h0_faultPlace_38])), (a_tb, .inl (ca_tb, 700, .inl fa_tb)), (a_pa, .inr (5, [a_pa_0, a_pa_1, .ref a_fo, a_pa_3, a_pa_4, a_pa_5, a_pa_6, a_pa_7, a_pa_8, .int pk]))]) hP hD [0, 3, 1, 2] (by decide) rfl
    have hK9 := hK.sub (tys' := []) [] rfl
    refine W.widen (k := 0) (n := 0) (Nat.le_of_ble_eq_true rfl) (Nat.le_of_ble_eq_true rfl) ?_
    exact W.zret (v := 0) hx hb hr (by rfl) (fun t ht hW => ⟨⟨0, 0, rfl, ⟨rfl, (Or.inr (⟨rfl, trivial⟩))⟩, ⟨(-1), ta, ts, te, to, tg, n_h0_faultSort_37, n_h0_faultPlace_38, hB_ta, hB_ts, hB_te, (fun h9 => absurd h9 (by decide)), (fun h9 => absurd h9 (by decide)), (fun h9 => absurd h9 (by decide)), (fun h9 => absurd h9 (by decide)), (fun h9 => absurd h9 (by decide)), (fun _ => (show ¬ f_E fa_tb tt.toInt pk.toInt 1 0 ts.toInt from f_E1x (f_nbA_n hw_3.2 (by first | omega | decide)))), by rw [ht]; exact hP9, va_K.moved hW.alike hK9, hD9⟩⟩, hS.F ht⟩) hS.2.2 dX1_readSieve_29
def u_s_X1_passSign_58 : List Cond := .code yX1_passSign cX1_passSign 2 (some .boolean) :: ([.fieldLink RX1 24 "ShellHeap$FindsReader" "tape" "LShellHeap$Tape;", .fieldLink RX1 59 "ShellHeap$Tape" "sign" "I", .methodLink RX1 62 yX10_next, .instanceMethod yX10_next, .selects RX10 yX10_next yX10_next, .initialized RX10, .methodLink RX1 55 yX10_fail, .instanceMethod yX10_fail, .selects RX10 yX10_fail yX10_fail] ++ (wsX10 ++ (wsX100 ++ (u_s_X10_next3 ++ (u_s_X10_fail ++ [])))))
theorem gd_s_X1_passSign_58 : z_gd u_s_X1_passSign_58 := z_gdc (by decide +kernel) (z_gda gdX1 (z_gda gdX10 (z_gda gd_s_X10_next3 (z_gda gd_s_X10_fail (z_gd0)))))
set_option maxRecDepth 20000 in
theorem gw_s_X1_passSign_58_s_X10_next3_62 : GoodIn u_s_X1_passSign_58 (wsV RX1 62 RX10 yX10_next u_s_X10_next3) := z_gV (z_gr _ [3, 4, 5, 6] rfl (by decide +kernel)) (fun w h => ⟨z_mc (z_mr (z_mr (z_mr (z_ml h)))), gd_s_X10_next3 w h⟩)
set_option maxRecDepth 20000 in
theorem gw_s_X1_passSign_58_s_X10_fail_55 : GoodIn u_s_X1_passSign_58 (wsV RX1 55 RX10 yX10_fail u_s_X10_fail) := z_gV (z_gr _ [7, 8, 9, 6] rfl (by decide +kernel)) (fun w h => ⟨z_mc (z_mr (z_mr (z_mr (z_mr (z_ml h))))), gd_s_X10_fail w h⟩)
set_option maxHeartbeats 4000000 in
set_option maxRecDepth 100000 in
theorem s_X1_passSign_58 (l : Launch) (dC : Nat → ClassId) (dI : Nat → Nat → Nat) (sz : Nat) (sd : Nat → Nat) (sv : Nat → Nat) (sf : Value) (h0 : Nat) (a_tp : Nat) (a_pa : Nat) (fn : Int32) (fk : Int32) (fs : Int32) (fp : Int32) (a_tb : Nat) (tt : Int32) (ta : Int32) (tf : Int32) (ts : Int32) (te : Int32) (to : Int32) (tg : Int32) (tx : Int32) (ty : Int32) (ca_tb : ClassId) (fa_tb : Nat → Int32) (a_pa_0 : Value) (a_pa_1 : Value) (a_fo : Nat) (a_pa_3 : Value) (a_pa_4 : Value) (a_pa_5 : Value) (a_pa_6 : Value) (a_pa_7 : Value) (a_pa_8 : Value) (pk : Int32) (hB_tt : ((0 : Int) ≤ (tt).toInt ∧ (tt).toInt ≤ (700 : Int))) (hB_ta : ((0 : Int) ≤ (ta).toInt ∧ (ta).toInt ≤ (700 : Int))) (hB_tf : ((0 : Int) ≤ (tf).toInt ∧ (tf).toInt ≤ (700 : Int))) (hB_ts : ((0 : Int) ≤ (ts).toInt ∧ (ts).toInt ≤ (700 : Int))) (hB_te : ((0 : Int) ≤ (te).toInt ∧ (te).toInt ≤ (700 : Int))) (hB_pk : ((0 : Int) ≤ (pk).toInt ∧ (pk).toInt ≤ (6 : Int))) (hI_a_tb : ∀ j : Nat, ((0 : Int) ≤ (fa_tb j).toInt ∧ (fa_tb j).toInt ≤ (255 : Int))) (hC : f_C fa_tb tt.toInt to.toInt tg.toInt ts.toInt te.toInt) (hpg : f_pg to.toInt ts.toInt te.toInt) (hat : ta.toInt = te.toInt ∧ te.toInt ≤ tt.toInt ∧ ts.toInt ≤ te.toInt) : Met l yX1_passSign u_s_X1_passSign_58 ({ frames := 3, cells := 0, slots := 0, locals := 61 }) (va_Pc [.ref h0, .int 58] (z_CS (dC, dI) vwCl [(h0, .inr (1, [.ref a_tp, .ref a_pa, .int fn, .int fk, .int fs, .int fp])), (a_tp, .inr (10, [.ref a_tb, .int tt, .int ta, .int 1, .int tf, .int ts, .int te, .int to, .int tg, .int tx, .int ty])), (a_tb, .inl (ca_tb, 700, .inl fa_tb)), (a_pa, .inr (5, [a_pa_0, a_pa_1, .ref a_fo, a_pa_3, a_pa_4, a_pa_5, a_pa_6, a_pa_7, a_pa_8, .int pk]))] [(ca_tb, .int)] sz sd sv sf [(h0, .inr (1, [.ref a_tp, .ref a_pa, .int fn, .int fk, .int fs, .int fp])), (a_tp, .inr (10, [.ref a_tb, .int tt, .int ta, .int 1, .int tf, .int ts, .int te, .int to, .int tg, .int tx, .int ty])), (a_tb, .inl (ca_tb, 700, .inl fa_tb)), (a_pa, .inr (5, [a_pa_0, a_pa_1, .ref a_fo, a_pa_3, a_pa_4, a_pa_5, a_pa_6, a_pa_7, a_pa_8, .int pk]))])) (va_Qi (fun (r : Int32) (u : Int32) => r = u ∧ ((r = 1 ∧ True) ∨ (r = 0 ∧ True))) (fun (u : Int32) (t : State) => ∃ (n_a_tp_at : Int32), ∃ (n_a_tp_start : Int32), ∃ (n_a_tp_end : Int32), ∃ (n_a_tp_sort : Int32), ∃ (n_a_tp_sign : Int32), ∃ (n_a_tp_faultSort : Int32), ∃ (n_a_tp_faultPlace : Int32), ((0 : Int) ≤ (n_a_tp_at).toInt ∧ (n_a_tp_at).toInt ≤ (700 : Int)) ∧ ((0 : Int) ≤ (n_a_tp_start).toInt ∧ (n_a_tp_start).toInt ≤ (700 : Int)) ∧ ((0 : Int) ≤ (n_a_tp_end).toInt ∧ (n_a_tp_end).toInt ≤ (700 : Int)) ∧ (u = 1 → (n_a_tp_at.toInt = n_a_tp_end.toInt ∧ n_a_tp_end.toInt ≤ tt.toInt ∧ n_a_tp_start.toInt ≤ n_a_tp_end.toInt ∧ ts.toInt + 1 ≤ n_a_tp_start.toInt)) ∧ (u = 1 → f_C fa_tb tt.toInt n_a_tp_sort.toInt n_a_tp_sign.toInt n_a_tp_start.toInt n_a_tp_end.toInt) ∧ (u = 1 → f_pg n_a_tp_sort.toInt n_a_tp_start.toInt n_a_tp_end.toInt) ∧ (u = 1 → (f_E fa_tb tt.toInt pk.toInt 2 0 ts.toInt ↔ f_E fa_tb tt.toInt pk.toInt 3 0 n_a_tp_start.toInt)) ∧ (u = 0 → ¬ f_E fa_tb tt.toInt pk.toInt 2 0 ts.toInt) ∧ va_P (dC, dI) vwCl [(h0, .inr (1, [.ref a_tp, .ref a_pa, .int fn, .int fk, .int fs, .int fp])), (a_tp, .inr (10, [.ref a_tb, .int tt, .int n_a_tp_at, .int 1, .int tf, .int n_a_tp_start, .int n_a_tp_end, .int n_a_tp_sort, .int n_a_tp_sign, .int n_a_tp_faultSort, .int n_a_tp_faultPlace])), (a_tb, .inl (ca_tb, 700, .inl fa_tb)), (a_pa, .inr (5, [a_pa_0, a_pa_1, .ref a_fo, a_pa_3, a_pa_4, a_pa_5, a_pa_6, a_pa_7, a_pa_8, .int pk]))] t.heap ∧ va_K (dC, dI) vwCl [] t ∧ va_D (va_A [(h0, .inr (1, [.ref a_tp, .ref a_pa, .int fn, .int fk, .int fs, .int fp])), (a_tp, .inr (10, [.ref a_tb, .int tt, .int ta, .int 1, .int tf, .int ts, .int te, .int to, .int tg, .int tx, .int ty])), (a_tb, .inl (ca_tb, 700, .inl fa_tb)), (a_pa, .inr (5, [a_pa_0, a_pa_1, .ref a_fo, a_pa_3, a_pa_4, a_pa_5, a_pa_6, a_pa_7, a_pa_8, .int pk]))] sz) [(h0, .inr (1, [.ref a_tp, .ref a_pa, .int fn, .int fk, .int fs, .int fp])), (a_tp, .inr (10, [.ref a_tb, .int tt, .int n_a_tp_at, .int 1, .int tf, .int n_a_tp_start, .int n_a_tp_end, .int n_a_tp_sort, .int n_a_tp_sign, .int n_a_tp_faultSort, .int n_a_tp_faultPlace])), (a_tb, .inl (ca_tb, 700, .inl fa_tb)), (a_pa, .inr (5, [a_pa_0, a_pa_1, .ref a_fo, a_pa_3, a_pa_4, a_pa_5, a_pa_6, a_pa_7, a_pa_8, .int pk]))]) (va_A [(h0, .inr (1, [.ref a_tp, .ref a_pa, .int fn, .int fk, .int fs, .int fp])), (a_tp, .inr (10, [.ref a_tb, .int tt, .int ta, .int 1, .int tf, .int ts, .int te, .int to, .int tg, .int tx, .int ty])), (a_tb, .inl (ca_tb, 700, .inl fa_tb)), (a_pa, .inr (5, [a_pa_0, a_pa_1, .ref a_fo, a_pa_3, a_pa_4, a_pa_5, a_pa_6, a_pa_7, a_pa_8, .int pk]))] sz)) 0 0 (va_A [(h0, .inr (1, [.ref a_tp, .ref a_pa, .int fn, .int fk, .int fs, .int fp])), (a_tp, .inr (10, [.ref a_tb, .int tt, .int ta, .int 1, .int tf, .int ts, .int te, .int to, .int tg, .int tx, .int ty])), (a_tb, .inl (ca_tb, 700, .inl fa_tb)), (a_pa, .inr (5, [a_pa_0, a_pa_1, .ref a_fo, a_pa_3, a_pa_4, a_pa_5, a_pa_6, a_pa_7, a_pa_8, .int pk]))] sz) := by
  refine Met.ofW (cc := cX1_passSign) (maxL := 2) (ret := (some .boolean)) (by decide) rfl ?_
  intro p e s m args below meth c s₁ B hml hv
  obtain ⟨rfl, ⟨hsz, hP, hK, hD0⟩, hST⟩ := hv
  have hx := B.exec
  have hb := B.bytes
  have hr := B.returns
  have hts := atoms_spec (ws := u_s_X1_passSign_58) B.pre
  have hown : s.vm.findClass RX1 = some m.cls := findClass_of_methodNamed B.named
  have hlocks := B.notSynchronized
  subst hsz
  have hD := hD0.self (sz := s.heap.size)
  generalize hAe : va_A [(h0, .inr (1, [.ref a_tp, .ref a_pa, .int fn, .int fk, .int fs, .int fp])), (a_tp, .inr (10, [.ref a_tb, .int tt, .int ta, .int 1, .int tf, .int ts, .int te, .int to, .int tg, .int tx, .int ty])), (a_tb, .inl (ca_tb, 700, .inl fa_tb)), (a_pa, .inr (5, [a_pa_0, a_pa_1, .ref a_fo, a_pa_3, a_pa_4, a_pa_5, a_pa_6, a_pa_7, a_pa_8, .int pk]))] s.heap.size = A at hD hST ⊢
  have hA : ∀ q : Nat, s.heap.size ≤ q → A q := fun q h => by rw [← hAe]; exact Or.inr h
  have hS : va_S A s.heap s.heap [] := va_S.rf
  have hP : va_P (dC, dI) vwCl [(h0, .inr (1, [.ref a_tp, .ref a_pa, .int fn, .int fk, .int fs, .int fp])), (a_tp, .inr (10, [.ref a_tb, .int tt, .int ta, .int 1, .int tf, .int ts, .int te, .int to, .int tg, .int tx, .int ty])), (a_tb, .inl (ca_tb, 700, .inl fa_tb)), (a_pa, .inr (5, [a_pa_0, a_pa_1, .ref a_fo, a_pa_3, a_pa_4, a_pa_5, a_pa_6, a_pa_7, a_pa_8, .int pk]))] s.heap := hP
  have w__fieldLink_RX1_24_ShellHeap_FindsReader_tape_LShellHeap_Tape_ := hts (.fieldLink RX1 24 "ShellHeap$FindsReader" "tape" "LShellHeap$Tape;") (z_mc (z_ml z_m0))
  have hiX1 := show ∀ w ∈ u_ws RX1 TX1 6, w ∈ u_s_X1_passSign_58 from fun w h => z_mc (z_mr (z_ml h))
  have w__fieldLink_RX1_59_ShellHeap_Tape_sign_I_ := hts (.fieldLink RX1 59 "ShellHeap$Tape" "sign" "I") (z_mc (z_ml z_m1))
  have hiX10 := show ∀ w ∈ u_ws RX10 TX10 11, w ∈ u_s_X1_passSign_58 from fun w h => z_mc (z_mr (z_mr (z_ml h)))
  have hl := lv_entry ([.ref h0, .int 58]) (n := 2) (Nat.le_of_ble_eq_true rfl)
  rw [lg_entry_eq]
  generalize (lg_sl ([.ref h0, .int 58]) ++ List.replicate (2 - (lg_sl ([.ref h0, .int 58])).length) Slot.unset).toArray = ls at hl ⊢
  have hl : lv_has ls 2 [(0, .ref h0), (1, .int 58)] := hl
  refine lv_aload_n hx hb dX1_passSign_0 rfl (lv_at hl 0 rfl) ?_
  refine va_get (D := (dC, dI)) (ci := 1) (v := .ref a_tp) (C := RX1) (T := TX1) (N := 6) hx hb hts hiX1 hown hK hP 0 rfl rfl 0 (by decide) w__fieldLink_RX1_24_ShellHeap_FindsReader_tape_LShellHeap_Tape_ (fun _ h9 => h9) rfl dX1_passSign_1 ?_
  refine va_get (D := (dC, dI)) (ci := 10) (v := .int tg) (C := RX10) (T := TX10) (N := 11) hx hb hts hiX10 hown hK hP 1 rfl rfl 8 (by decide) w__fieldLink_RX1_59_ShellHeap_Tape_sign_I_ (fun _ h9 => h9) rfl dX1_passSign_4 ?_
  refine lv_iload_n hx hb dX1_passSign_7 rfl (lv_at hl 1 rfl) ?_
  refine lv_icmp_eq (tgt := 20) hx hb dX1_passSign_8 (by decide) (fun c_1 => ?_) (fun c_1 => ?_)
  · have k_2 : (tg).toInt = (58 : Int) := z_eq c_1
    refine lv_aload_n hx hb dX1_passSign_20 rfl (lv_at hl 0 rfl) ?_
    refine va_get (D := (dC, dI)) (ci := 1) (v := .ref a_tp) (C := RX1) (T := TX1) (N := 6) hx hb hts hiX1 hown hK hP 0 rfl rfl 0 (by decide) w__fieldLink_RX1_24_ShellHeap_FindsReader_tape_LShellHeap_Tape_ (fun _ h9 => h9) rfl dX1_passSign_21 ?_
    obtain ⟨hPc, hDc, hFc⟩ := z_sub3 (ws' := [(a_tp, .inr (10, [.ref a_tb, .int tt, .int ta, .int 1, .int tf, .int ts, .int te, .int to, .int tg, .int tx, .int ty])), (a_tb, .inl (ca_tb, 700, .inl fa_tb))]) hP hD hS hA [1, 2] (by decide) rfl
    have hKc := hK
    refine va_callv (va_runV (As := []) (rest := []) ⟨hx, hb, hml, hown, hts⟩ (s_X10_next3 l dC dI s.heap.size a_tp a_tb tt ta tf ts te to tg tx ty ca_tb fa_tb hB_tt hB_ta hB_tf hB_ts hB_te hI_a_tb (by first | omega | decide)) (cwV 0 hts gw_s_X1_passSign_58_s_X10_next3_62 rfl rfl rfl (by decide +kernel) ⟨Nat.le_of_ble_eq_true rfl, Nat.le_of_ble_eq_true rfl⟩) ⟨z_blind, va_recv hKc hPc (ci := 10) (q0 := 0) rfl rfl, z_pre hPc hKc hDc⟩ rfl rfl hl.1 rfl (lv_room (Nat.le_of_ble_eq_true rfl)) dX1_passSign_24 ⟨Nat.le_of_ble_eq_true rfl, Nat.le_of_ble_eq_true rfl⟩) hS (fun q _ h => hFc q h) hFc (fun u t H_3 locs ht hvm hw_5 hB hz1 hk1 hS => ?_)
    obtain ⟨n_h0_at_6, n_h0_start_7, n_h0_end_8, n_h0_sort_9, n_h0_sign_10, hp_11, hp_12, hp_13, hp_14, hp_15, hp_16, hp_17, hP1, hK1, hD1⟩ := hB
    rw [ht] at hP1
    have hK1 := va_K.moved hvm.symm hK1
    obtain ⟨hP, hD⟩ := z_ap_2 (va_join (wr := [(h0, .inr (1, [.ref a_tp, .ref a_pa, .int fn, .int fk, .int fs, .int fp])), (a_pa, .inr (5, [a_pa_0, a_pa_1, .ref a_fo, a_pa_3, a_pa_4, a_pa_5, a_pa_6, a_pa_7, a_pa_8, .int pk]))]) hP hD [1, 2] [0, 3] rfl rfl (by decide) (by decide) hk1 hFc hP1 hD1)
    have hp_14 : f_run f_bl fa_tb tt.toInt ta.toInt n_h0_start_7.toInt := hp_14
    have hp_15 : f_C fa_tb tt.toInt n_h0_sort_9.toInt n_h0_sign_10.toInt n_h0_start_7.toInt n_h0_end_8.toInt := hp_15
    have hp_16 : n_h0_at_6.toInt = n_h0_end_8.toInt ∧ n_h0_end_8.toInt ≤ tt.toInt ∧ n_h0_start_7.toInt ≤ n_h0_end_8.toInt := hp_16
    have hp_17 : f_pg n_h0_sort_9.toInt n_h0_start_7.toInt n_h0_end_8.toInt := hp_17
    clear hPc hDc hKc
    have hge_18 := hp_14.2.1
    have hlt_19 := f_tk_lt hC hpg (f_tk_sig hC (Or.inl ⟨(by first | omega | decide), rfl⟩)) (by decide)
    refine lv_iconst (v := 1) hx hb dX1_passSign_27 (by decide) ?_
    obtain ⟨hP9, hD9⟩ := z_sub2 (ws' := [(h0, .inr (1, [.ref a_tp, .ref a_pa, .int fn, .int fk, .int fs, .int fp])), (a_tp, .inr (10, [.ref a_tb, .int tt, .int n_h0_at_6, .int 1, .int tf, .int n_h0_start_7, .int n_h0_end_8, .int n_h0_sort_9, .int n_h0_sign_10, .int tx, .int ty])), (a_tb, .inl (ca_tb, 700, .inl fa_tb)), (a_pa, .inr (5, [a_pa_0, a_pa_1, .ref a_fo, a_pa_3, a_pa_4, a_pa_5, a_pa_6, a_pa_7, a_pa_8, .int pk]))]) hP hD [0, 2, 3, 1] (by decide) rfl
    have hK9 := hK.sub (tys' := []) [] rfl
    refine W.widen (k := 0) (n := 0) (Nat.le_of_ble_eq_true rfl) (Nat.le_of_ble_eq_true rfl) ?_
    exact W.zret (v := 1) hx hb hr (by rfl) (fun t ht hW => ⟨⟨1, 1, rfl, ⟨rfl, (Or.inl (⟨rfl, trivial⟩))⟩, ⟨n_h0_at_6, n_h0_start_7, n_h0_end_8, n_h0_sort_9, n_h0_sign_10, tx, ty, hp_11, hp_12, hp_13, (fun _ => (show (n_h0_at_6.toInt = n_h0_end_8.toInt ∧ n_h0_end_8.toInt ≤ tt.toInt ∧ n_h0_start_7.toInt ≤ n_h0_end_8.toInt ∧ ts.toInt + 1 ≤ n_h0_start_7.toInt) by omega)), (fun _ => (show f_C fa_tb tt.toInt n_h0_sort_9.toInt n_h0_sign_10.toInt n_h0_start_7.toInt n_h0_end_8.toInt from hp_15)), (fun _ => (show f_pg n_h0_sort_9.toInt n_h0_start_7.toInt n_h0_end_8.toInt from hp_17)), (fun _ => (show (f_E fa_tb tt.toInt pk.toInt 2 0 ts.toInt ↔ f_E fa_tb tt.toInt pk.toInt 3 0 n_h0_start_7.toInt) from (f_E2 (f_tk_sig hC (Or.inl ⟨(by first | omega | decide), rfl⟩)) rfl).trans (f_E_sk hp_14 (by omega)))), (fun h9 => absurd h9 (by decide)), by rw [ht]; exact hP9, va_K.moved hW.alike hK9, hD9⟩⟩, hS.F ht⟩) hS.2.2 dX1_passSign_28
  · have k_20 : (tg).toInt ≠ (58 : Int) := z_ne c_1
    refine lv_aload_n hx hb dX1_passSign_11 rfl (lv_at hl 0 rfl) ?_
    refine va_get (D := (dC, dI)) (ci := 1) (v := .ref a_tp) (C := RX1) (T := TX1) (N := 6) hx hb hts hiX1 hown hK hP 0 rfl rfl 0 (by decide) w__fieldLink_RX1_24_ShellHeap_FindsReader_tape_LShellHeap_Tape_ (fun _ h9 => h9) rfl dX1_passSign_12 ?_
    refine lv_iconst (v := 1) hx hb dX1_passSign_15 (by decide) ?_
    obtain ⟨hPc, hDc, hFc⟩ := z_sub3 (ws' := [(a_tp, .inr (10, [.ref a_tb, .int tt, .int ta, .int 1, .int tf, .int ts, .int te, .int to, .int tg, .int tx, .int ty]))]) hP hD hS hA [1] (by decide) rfl
    have hKc := hK.sub (tys' := []) [] rfl
    refine va_calli (va_runV (As := [.int 1]) (rest := []) ⟨hx, hb, hml, hown, hts⟩ (s_X10_fail l dC dI s.heap.size a_tp 1 (.ref a_tb) (.int tt) (.int ta) (.int 1) (.int tf) ts (.int te) (.int to) (.int tg) tx ty hB_ts) (cwV 1 hts gw_s_X1_passSign_58_s_X10_fail_55 rfl rfl rfl (by decide +kernel) ⟨Nat.le_of_ble_eq_true rfl, Nat.le_of_ble_eq_true rfl⟩) ⟨z_blind, va_recv hKc hPc (ci := 10) (q0 := 0) rfl rfl, z_pre hPc hKc hDc⟩ rfl rfl hl.1 rfl (lv_room (Nat.le_of_ble_eq_true rfl)) dX1_passSign_16 ⟨Nat.le_of_ble_eq_true rfl, Nat.le_of_ble_eq_true rfl⟩) hS (fun q _ h => hFc q h) hFc (fun r_22 u t H_21 locs ht hvm hw_23 hB hz1 hk1 hS => ?_)
    obtain ⟨n_h0_faultSort_24, n_h0_faultPlace_25, hP1, hK1, hD1⟩ := hB
    rw [ht] at hP1
    have hK1 := va_K.moved hvm.symm hK1
    obtain ⟨hP, hD⟩ := z_ap_3 (va_join (wr := [(h0, .inr (1, [.ref a_tp, .ref a_pa, .int fn, .int fk, .int fs, .int fp])), (a_tb, .inl (ca_tb, 700, .inl fa_tb)), (a_pa, .inr (5, [a_pa_0, a_pa_1, .ref a_fo, a_pa_3, a_pa_4, a_pa_5, a_pa_6, a_pa_7, a_pa_8, .int pk]))]) hP hD [1] [0, 2, 3] rfl rfl (by decide) (by decide) hk1 hFc hP1 hD1)
    clear hPc hDc hKc
    obtain rfl : r_22 = 0 := hw_23
    obtain ⟨hP9, hD9⟩ := z_sub2 (ws' := [(h0, .inr (1, [.ref a_tp, .ref a_pa, .int fn, .int fk, .int fs, .int fp])), (a_tp, .inr (10, [.ref a_tb, .int tt, .int ta, .int 1, .int tf, .int ts, .int te, .int to, .int tg, .int n_h0_faultSort_24, .int n_h0_faultPlace_25])), (a_tb, .inl (ca_tb, 700, .inl fa_tb)), (a_pa, .inr (5, [a_pa_0, a_pa_1, .ref a_fo, a_pa_3, a_pa_4, a_pa_5, a_pa_6, a_pa_7, a_pa_8, .int pk]))]) hP hD [0, 3, 1, 2] (by decide) rfl
    have hK9 := hK.sub (tys' := []) [] rfl
    refine W.widen (k := 0) (n := 0) (Nat.le_of_ble_eq_true rfl) (Nat.le_of_ble_eq_true rfl) ?_
    exact W.zret (v := 0) hx hb hr (by rfl) (fun t ht hW => ⟨⟨0, 0, rfl, ⟨rfl, (Or.inr (⟨rfl, trivial⟩))⟩, ⟨ta, ts, te, to, tg, n_h0_faultSort_24, n_h0_faultPlace_25, hB_ta, hB_ts, hB_te, (fun h9 => absurd h9 (by decide)), (fun h9 => absurd h9 (by decide)), (fun h9 => absurd h9 (by decide)), (fun h9 => absurd h9 (by decide)), (fun _ => (show ¬ f_E fa_tb tt.toInt pk.toInt 2 0 ts.toInt from f_E2x (fun k8 v8 b8 ht8 => f_tk_sign (kk := 5) hC (Or.inl ⟨(by omega), rfl⟩) ht8))), by rw [ht]; exact hP9, va_K.moved hW.alike hK9, hD9⟩⟩, hS.F ht⟩) hS.2.2 dX1_passSign_19
