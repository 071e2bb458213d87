def u_c_X6_setRow : List Cond := .code yX6_setRow cX6_setRow 8 none :: ([.fieldLink RX6 11 "ShellHeap$Readers" "rows" "[I"] ++ wsX60)
set_option maxHeartbeats 4000000 in
set_option maxRecDepth 100000 in
theorem c_X6_setRow (l : Launch) (dC : Nat → ClassId) (dI : Nat → Nat → Nat) (sz : Nat) (h0 : Nat) (a : Nat) (b : Nat) (p3 : Int32) (p4 : Int32) (p5 : Int32) (p6 : Int32) (h1 : Nat) (h0_1 : Value) (h0_2 : Value) (h0_3 : Value) (h0_4 : Value) (h0_5 : Value) (h0_6 : Value) (ch1 : ClassId) (fh1 : Nat → Int32) (ha : a < 3) (hb9 : b < 4) : Met l yX6_setRow u_c_X6_setRow ({ frames := 0, cells := 0, slots := 0, locals := 0 }) (va_Pc [.ref h0, .int (nI a), .int (nI b), .int p3, .int p4, .int p5, .int p6] (z_C (dC, dI) vwCl [(h0, .inr (6, [.ref h1, h0_1, h0_2, h0_3, h0_4, h0_5, h0_6])), (h1, .inl (ch1, 48, .inl fh1))] [(ch1, .int)] sz)) (va_Qv (fun (_ : Unit) => True) (fun (_ : Unit) (_ : State) => True) (va_A [(h0, .inr (6, [.ref h1, h0_1, h0_2, h0_3, h0_4, h0_5, h0_6])), (h1, .inl (ch1, 48, .inl fh1))] sz)) 0 0 (va_A [(h0, .inr (6, [.ref h1, h0_1, h0_2, h0_3, h0_4, h0_5, h0_6])), (h1, .inl (ch1, 48, .inl fh1))] sz) := by
  refine Met.ofW (cc := cX6_setRow) (maxL := 8) (ret := none) (by decide) rfl ?_
  intro p e s m args below meth c s₁ B hml hv
  obtain ⟨rfl, hsz, hP, hK, hD0⟩ := hv
  have hx := B.exec
  have hb := B.bytes
  have hr := B.returns
  have hts := atoms_spec (ws := u_c_X6_setRow) B.pre
  have hown : s.vm.findClass RX6 = some m.cls := findClass_of_methodNamed B.named
  have hlocks := B.notSynchronized
  subst hsz
  have hD := hD0.self (sz := s.heap.size)
  generalize hAe : va_A [(h0, .inr (6, [.ref h1, h0_1, h0_2, h0_3, h0_4, h0_5, h0_6])), (h1, .inl (ch1, 48, .inl fh1))] s.heap.size = A at hD ⊢
  have hA : ∀ q : Nat, s.heap.size ≤ q → A q := fun q h => by rw [← hAe]; exact Or.inr h
  have hS : va_S A s.heap s.heap [] := va_S.rf
  have hP : va_P (dC, dI) vwCl [(h0, .inr (6, [.ref h1, h0_1, h0_2, h0_3, h0_4, h0_5, h0_6])), (h1, .inl (ch1, 48, .inl fh1))] s.heap := hP
  have w__fieldLink_RX6_11_ShellHeap_Readers_rows_I_ := hts (.fieldLink RX6 11 "ShellHeap$Readers" "rows" "[I") (by decide +kernel)
  have hiX6 := show ∀ w ∈ u_ws RX6 TX6 7, w ∈ u_c_X6_setRow by decide +kernel
  have hl := lv_entry ([.ref h0, .int (nI a), .int (nI b), .int p3, .int p4, .int p5, .int p6]) (n := 8) (Nat.le_of_ble_eq_true rfl)
  rw [lg_entry_eq]
  generalize (lg_sl ([.ref h0, .int (nI a), .int (nI b), .int p3, .int p4, .int p5, .int p6]) ++ List.replicate (8 - (lg_sl ([.ref h0, .int (nI a), .int (nI b), .int p3, .int p4, .int p5, .int p6])).length) Slot.unset).toArray = ls at hl ⊢
  have hl : lv_has ls 8 [(0, .ref h0), (1, .int (nI a)), (2, .int (nI b)), (3, .int p3), (4, .int p4), (5, .int p5), (6, .int p6)] := hl
  refine lv_iload_n hx hb dX6_setRow_0 rfl (lv_at hl 1 rfl) ?_
  refine lv_iconst (v := 4) hx hb dX6_setRow_1 (by decide) ?_
  refine lv_imul hx hb dX6_setRow_2 ?_
  refine lv_topi (fun x_1 e_2 => ?_)
  obtain rfl : x_1 = (nI (a * 4)) := e_2.trans (pk_mul a 4)
  refine lv_iload_n hx hb dX6_setRow_3 rfl (lv_at hl 2 rfl) ?_
  refine lv_iadd hx hb dX6_setRow_4 ?_
  refine lv_topi (fun x_3 e_4 => ?_)
  obtain rfl : x_3 = (nI ((a * 4) + b)) := e_4.trans (nI_add (a * 4) b)
  refine lv_iconst (v := 4) hx hb dX6_setRow_5 (by decide) ?_
  refine lv_imul hx hb dX6_setRow_6 ?_
  refine lv_topi (fun x_5 e_6 => ?_)
  obtain rfl : x_5 = (nI (((a * 4) + b) * 4)) := e_6.trans (pk_mul ((a * 4) + b) 4)
  refine lv_istore (lv' := [(7, .int (nI (((a * 4) + b) * 4))), (0, .ref h0), (1, .int (nI a)), (2, .int (nI b)), (3, .int p3), (4, .int p4), (5, .int p5), (6, .int p6)]) hx hb dX6_setRow_7 hl (by decide) rfl (fun ls hl => ?_)
  refine lv_aload_n hx hb dX6_setRow_9 rfl (lv_at hl 1 rfl) ?_
  refine va_get (D := (dC, dI)) (ci := 6) (v := .ref h1) (C := RX6) (T := TX6) (N := 7) hx hb hts hiX6 hown hK hP 0 rfl rfl 0 (by decide) w__fieldLink_RX6_11_ShellHeap_Readers_rows_I_ (fun _ h9 => h9) rfl dX6_setRow_10 ?_
  refine lv_iload hx hb dX6_setRow_13 (lv_at hl 0 rfl) ?_
  refine lv_iload_n hx hb dX6_setRow_15 rfl (lv_at hl 4 rfl) ?_
  refine va_iast hx hb hK hP hD hS 1 0 rfl rfl (vp_in_nI (show ((a * 4) + b) * 4 < 48 by omega) (by decide)) dX6_setRow_16 (fun H_7 locs hP hD hS => ?_)
  have hP : va_P (dC, dI) vwCl [(h0, .inr (6, [.ref h1, h0_1, h0_2, h0_3, h0_4, h0_5, h0_6])), (h1, .inl (ch1, 48, .inl (upd fh1 ((nI (((a * 4) + b) * 4)) : Int32).toNatClampNeg p3)))] H_7 := hP
  have hD : va_D A [(h0, .inr (6, [.ref h1, h0_1, h0_2, h0_3, h0_4, h0_5, h0_6])), (h1, .inl (ch1, 48, .inl (upd fh1 ((nI (((a * 4) + b) * 4)) : Int32).toNatClampNeg p3)))] := hD
  generalize (upd fh1 ((nI (((a * 4) + b) * 4)) : Int32).toNatClampNeg p3) = f_8 at hP hD
  refine lv_aload_n hx hb dX6_setRow_17 rfl (lv_at hl 1 rfl) ?_
  refine va_get (D := (dC, dI)) (ci := 6) (v := .ref h1) (C := RX6) (T := TX6) (N := 7) hx hb hts hiX6 hown hK hP 0 rfl rfl 0 (by decide) w__fieldLink_RX6_11_ShellHeap_Readers_rows_I_ (fun _ h9 => h9) rfl dX6_setRow_18 ?_
  refine lv_iload hx hb dX6_setRow_21 (lv_at hl 0 rfl) ?_
  refine lv_iconst (v := 1) hx hb dX6_setRow_23 (by decide) ?_
  refine lv_iadd hx hb dX6_setRow_24 ?_
  refine lv_topi (fun x_9 e_10 => ?_)
  obtain rfl : x_9 = (nI ((((a * 4) + b) * 4) + 1)) := e_10.trans (nI_add (((a * 4) + b) * 4) 1)
  refine lv_iload hx hb dX6_setRow_25 (lv_at hl 5 rfl) ?_
  refine va_iast hx hb hK hP hD hS 1 0 rfl rfl (vp_in_nI (show (((a * 4) + b) * 4) + 1 < 48 by omega) (by decide)) dX6_setRow_27 (fun H_11 locs hP hD hS => ?_)
  have hP : va_P (dC, dI) vwCl [(h0, .inr (6, [.ref h1, h0_1, h0_2, h0_3, h0_4, h0_5, h0_6])), (h1, .inl (ch1, 48, .inl (upd f_8 ((nI ((((a * 4) + b) * 4) + 1)) : Int32).toNatClampNeg p4)))] H_11 := hP
  have hD : va_D A [(h0, .inr (6, [.ref h1, h0_1, h0_2, h0_3, h0_4, h0_5, h0_6])), (h1, .inl (ch1, 48, .inl (upd f_8 ((nI ((((a * 4) + b) * 4) + 1)) : Int32).toNatClampNeg p4)))] := hD
  generalize (upd f_8 ((nI ((((a * 4) + b) * 4) + 1)) : Int32).toNatClampNeg p4) = f_12 at hP hD
  refine lv_aload_n hx hb dX6_setRow_28 rfl (lv_at hl 1 rfl) ?_
  refine va_get (D := (dC, dI)) (ci := 6) (v := .ref h1) (C := RX6) (T := TX6) (N := 7) hx hb hts hiX6 hown hK hP 0 rfl rfl 0 (by decide) w__fieldLink_RX6_11_ShellHeap_Readers_rows_I_ (fun _ h9 => h9) rfl dX6_setRow_29 ?_
  refine lv_iload hx hb dX6_setRow_32 (lv_at hl 0 rfl) ?_
  refine lv_iconst (v := 2) hx hb dX6_setRow_34 (by decide) ?_
  refine lv_iadd hx hb dX6_setRow_35 ?_
  refine lv_topi (fun x_13 e_14 => ?_)
  obtain rfl : x_13 = (nI ((((a * 4) + b) * 4) + 2)) := e_14.trans (nI_add (((a * 4) + b) * 4) 2)
  refine lv_iload hx hb dX6_setRow_36 (lv_at hl 6 rfl) ?_
  refine va_iast hx hb hK hP hD hS 1 0 rfl rfl (vp_in_nI (show (((a * 4) + b) * 4) + 2 < 48 by omega) (by decide)) dX6_setRow_38 (fun H_15 locs hP hD hS => ?_)
  have hP : va_P (dC, dI) vwCl [(h0, .inr (6, [.ref h1, h0_1, h0_2, h0_3, h0_4, h0_5, h0_6])), (h1, .inl (ch1, 48, .inl (upd f_12 ((nI ((((a * 4) + b) * 4) + 2)) : Int32).toNatClampNeg p5)))] H_15 := hP
  have hD : va_D A [(h0, .inr (6, [.ref h1, h0_1, h0_2, h0_3, h0_4, h0_5, h0_6])), (h1, .inl (ch1, 48, .inl (upd f_12 ((nI ((((a * 4) + b) * 4) + 2)) : Int32).toNatClampNeg p5)))] := hD
  generalize (upd f_12 ((nI ((((a * 4) + b) * 4) + 2)) : Int32).toNatClampNeg p5) = f_16 at hP hD
  refine lv_aload_n hx hb dX6_setRow_39 rfl (lv_at hl 1 rfl) ?_
  refine va_get (D := (dC, dI)) (ci := 6) (v := .ref h1) (C := RX6) (T := TX6) (N := 7) hx hb hts hiX6 hown hK hP 0 rfl rfl 0 (by decide) w__fieldLink_RX6_11_ShellHeap_Readers_rows_I_ (fun _ h9 => h9) rfl dX6_setRow_40 ?_
  refine lv_iload hx hb dX6_setRow_43 (lv_at hl 0 rfl) ?_
  refine lv_iconst (v := 3) hx hb dX6_setRow_45 (by decide) ?_
  refine lv_iadd hx hb dX6_setRow_46 ?_
  refine lv_topi (fun x_17 e_18 => ?_)
  obtain rfl : x_17 = (nI ((((a * 4) + b) * 4) + 3)) := e_18.trans (nI_add (((a * 4) + b) * 4) 3)
  refine lv_iload hx hb dX6_setRow_47 (lv_at hl 7 rfl) ?_
  refine va_iast hx hb hK hP hD hS 1 0 rfl rfl (vp_in_nI (show (((a * 4) + b) * 4) + 3 < 48 by omega) (by decide)) dX6_setRow_49 (fun H_19 locs hP hD hS => ?_)
  have hP : va_P (dC, dI) vwCl [(h0, .inr (6, [.ref h1, h0_1, h0_2, h0_3, h0_4, h0_5, h0_6])), (h1, .inl (ch1, 48, .inl (upd f_16 ((nI ((((a * 4) + b) * 4) + 3)) : Int32).toNatClampNeg p6)))] H_19 := hP
  have hD : va_D A [(h0, .inr (6, [.ref h1, h0_1, h0_2, h0_3, h0_4, h0_5, h0_6])), (h1, .inl (ch1, 48, .inl (upd f_16 ((nI ((((a * 4) + b) * 4) + 3)) : Int32).toNatClampNeg p6)))] := hD
  generalize (upd f_16 ((nI ((((a * 4) + b) * 4) + 3)) : Int32).toNatClampNeg p6) = f_20 at hP hD
  refine W.widen (k := 0) (n := 0) (Nat.le_of_ble_eq_true rfl) (Nat.le_of_ble_eq_true rfl) ?_
  exact W.vret hx hb hr (fun t ht hW => ⟨⟨(), rfl, trivial, trivial⟩, hS.F ht⟩) hS.2.2 dX6_setRow_50
def u_c_X11_reads : List Cond := .code yX11_reads cX11_reads 7 (some .boolean) :: ([.methodLink RX11 234 yX6_has, .static yX6_has, .initialized RX6, .code yX6_has cX6_has 1 (some .boolean), .methodLink RX11 237 yX6_areWithin, .static yX6_areWithin, .code yX6_areWithin cX6_areWithin 5 (some .boolean), .fieldLink RX11 49 "ShellHeap" "readers" "LShellHeap$Readers;", .methodLink RX11 241 yX6_setRow, .instanceMethod yX6_setRow, .selects RX6 yX6_setRow yX6_setRow, .code yX6_setRow cX6_setRow 8 none, .fieldLink RX6 11 "ShellHeap$Readers" "rows" "[I"] ++ wsX110 ++ wsX60)
set_option maxRecDepth 20000 in
theorem gw_c_X11_reads_c_X6_has_234 : GoodIn u_c_X11_reads (va_wsS RX11 234 yX6_has u_c_X6_has) := goodIn_r _ [1, 2, 3, 4] (by decide +kernel) (by decide +kernel)
set_option maxRecDepth 20000 in
theorem gw_c_X11_reads_c_X6_areWithin_237 : GoodIn u_c_X11_reads (va_wsS RX11 237 yX6_areWithin u_c_X6_areWithin) := goodIn_r _ [5, 6, 3, 7] (by decide +kernel) (by decide +kernel)
set_option maxRecDepth 20000 in
theorem gw_c_X11_reads_c_X6_setRow_241 : GoodIn u_c_X11_reads (wsV RX11 241 RX6 yX6_setRow u_c_X6_setRow) := goodIn_r _ [9, 10, 11, 3, 12, 13, 24, 25, 26, 27, 28, 29, 30] (by decide +kernel) (by decide +kernel)
set_option maxHeartbeats 4000000 in
set_option maxRecDepth 100000 in
theorem c_X11_reads (l : Launch) (dC : Nat → ClassId) (dI : Nat → Nat → Nat) (sz : Nat) (h0 : Nat) (p1 : Int32) (p2 : Int32) (p3 : Int32) (p4 : Int32) (p5 : Int32) (p6 : Int32) (h0_0 : Value) (h0_1 : Value) (h0_2 : Value) (h0_3 : Value) (h0_4 : Value) (h1 : Nat) (h0_6 : Value) (h0_7 : Value) (h0_8 : Value) (h0_9 : Value) (h2 : Nat) (h1_1 : Value) (h1_2 : Value) (h1_3 : Value) (h1_4 : Value) (h1_5 : Value) (h1_6 : Value) (ch2 : ClassId) (fh2 : Nat → Int32) : Met l yX11_reads u_c_X11_reads ({ frames := 1, cells := 0, slots := 0, locals := 27 }) (va_Pc [.ref h0, .int p1, .int p2, .int p3, .int p4, .int p5, .int p6] (z_C (dC, dI) vwCl [(h0, .inr (11, [h0_0, h0_1, h0_2, h0_3, h0_4, .ref h1, h0_6, h0_7, h0_8, h0_9])), (h1, .inr (6, [.ref h2, h1_1, h1_2, h1_3, h1_4, h1_5, h1_6])), (h2, .inl (ch2, 48, .inl fh2))] [(ch2, .int)] sz)) (va_Qi (fun (r : Int32) (_ : Unit) => r = v_reads p1 p2 p3 p4 p5 p6) (fun (_ : Unit) (_ : State) => True) (va_A [(h0, .inr (11, [h0_0, h0_1, h0_2, h0_3, h0_4, .ref h1, h0_6, h0_7, h0_8, h0_9])), (h1, .inr (6, [.ref h2, h1_1, h1_2, h1_3, h1_4, h1_5, h1_6])), (h2, .inl (ch2, 48, .inl fh2))] sz)) 0 0 (va_A [(h0, .inr (11, [h0_0, h0_1, h0_2, h0_3, h0_4, .ref h1, h0_6, h0_7, h0_8, h0_9])), (h1, .inr (6, [.ref h2, h1_1, h1_2, h1_3, h1_4, h1_5, h1_6])), (h2, .inl (ch2, 48, .inl fh2))] sz) := by
  refine Met.ofW (cc := cX11_reads) (maxL := 7) (ret := (some .boolean)) (by decide) rfl ?_
  intro p e s m args below meth c s₁ B hml hv
  obtain ⟨rfl, hsz, hP, hK, hD0⟩ := hv
  have hx := B.exec
  have hb := B.bytes
  have hr := B.returns
  have hts := atoms_spec (ws := u_c_X11_reads) B.pre
  have hown : s.vm.findClass RX11 = some m.cls := findClass_of_methodNamed B.named
  have hlocks := B.notSynchronized
  subst hsz
  have hD := hD0.self (sz := s.heap.size)
  generalize hAe : va_A [(h0, .inr (11, [h0_0, h0_1, h0_2, h0_3, h0_4, .ref h1, h0_6, h0_7, h0_8, h0_9])), (h1, .inr (6, [.ref h2, h1_1, h1_2, h1_3, h1_4, h1_5, h1_6])), (h2, .inl (ch2, 48, .inl fh2))] s.heap.size = A at hD ⊢
  have hA : ∀ q : Nat, s.heap.size ≤ q → A q := fun q h => by rw [← hAe]; exact Or.inr h
  have hS : va_S A s.heap s.heap [] := va_S.rf
  have hP : va_P (dC, dI) vwCl [(h0, .inr (11, [h0_0, h0_1, h0_2, h0_3, h0_4, .ref h1, h0_6, h0_7, h0_8, h0_9])), (h1, .inr (6, [.ref h2, h1_1, h1_2, h1_3, h1_4, h1_5, h1_6])), (h2, .inl (ch2, 48, .inl fh2))] s.heap := hP
  have w__fieldLink_RX11_49_ShellHeap_readers_LShellHeap_Readers_ := hts (.fieldLink RX11 49 "ShellHeap" "readers" "LShellHeap$Readers;") (by decide +kernel)
  have hiX11 := show ∀ w ∈ u_ws RX11 TX11 10, w ∈ u_c_X11_reads by decide +kernel
  have hl := lv_entry ([.ref h0, .int p1, .int p2, .int p3, .int p4, .int p5, .int p6]) (n := 7) (Nat.le_of_ble_eq_true rfl)
  rw [lg_entry_eq]
  generalize (lg_sl ([.ref h0, .int p1, .int p2, .int p3, .int p4, .int p5, .int p6]) ++ List.replicate (7 - (lg_sl ([.ref h0, .int p1, .int p2, .int p3, .int p4, .int p5, .int p6])).length) Slot.unset).toArray = ls at hl ⊢
  have hl : lv_has ls 7 [(0, .ref h0), (1, .int p1), (2, .int p2), (3, .int p3), (4, .int p4), (5, .int p5), (6, .int p6)] := hl
  refine lv_iload_n hx hb dX11_reads_0 rfl (lv_at hl 1 rfl) ?_
  have hPc := hP.sub (ws' := []) [] rfl
  have hDc := hD.sub (ws' := []) [] (by decide) rfl
  have hKc := hK.sub (tys' := []) [] rfl
  have hFc := va_free (ws := []) (wc := []) (z_D0 _) hS hA [] rfl
  refine va_calli (va_runS (As := [.int p1]) (rest := []) ⟨hx, hb, hml, hown, hts⟩ (c_X6_has l dC dI s.heap.size p1) (va_cwS 1 hts gw_c_X11_reads_c_X6_has_234 rfl rfl rfl (by decide +kernel) ⟨Nat.le_of_ble_eq_true rfl, Nat.le_of_ble_eq_true rfl⟩) ⟨z_blind, z_pre hPc hKc hDc⟩ rfl rfl hl.1 rfl (lv_room (Nat.le_of_ble_eq_true rfl)) dX11_reads_1 ⟨Nat.le_of_ble_eq_true rfl, Nat.le_of_ble_eq_true rfl⟩) hS (fun q _ h => hFc q h) hFc (fun r_2 u t H_1 locs ht hvm hw_3 hB hz1 hk1 hS => ?_)
  have hP := z_pure hP hk1
  have hP : va_P (dC, dI) vwCl [(h0, .inr (11, [h0_0, h0_1, h0_2, h0_3, h0_4, .ref h1, h0_6, h0_7, h0_8, h0_9])), (h1, .inr (6, [.ref h2, h1_1, h1_2, h1_3, h1_4, h1_5, h1_6])), (h2, .inl (ch2, 48, .inl fh2))] H_1 := hP
  have hD : va_D A [(h0, .inr (11, [h0_0, h0_1, h0_2, h0_3, h0_4, .ref h1, h0_6, h0_7, h0_8, h0_9])), (h1, .inr (6, [.ref h2, h1_1, h1_2, h1_3, h1_4, h1_5, h1_6])), (h2, .inl (ch2, 48, .inl fh2))] := hD
  clear hPc hDc hKc
  rcases hw_3 with ⟨rfl, hw_3⟩ | ⟨rfl, hw_3⟩
  · have hw_3 : (0 ≤ p1.toInt ∧ p1.toInt < 3) := hw_3
    refine lv_if_eq (tgt := 16) hx hb dX11_reads_4 (by decide) (fun c_4 => absurd c_4 (by decide)) (fun _ => ?_)
    refine lv_iload_n hx hb dX11_reads_7 rfl (lv_at hl 2 rfl) ?_
    refine lv_if_lt (tgt := 16) hx hb dX11_reads_8 (by decide) (fun c_5 => ?_) (fun c_5 => ?_)
    · have k_6 : (p2).toInt < (0 : Int) := z_lt c_5
      refine lv_iconst (v := 0) hx hb dX11_reads_16 (by decide) ?_
      refine W.widen (k := 0) (n := 0) (Nat.le_of_ble_eq_true rfl) (Nat.le_of_ble_eq_true rfl) ?_
      exact W.zret (v := 0) hx hb hr (by rfl) (fun t ht hW => ⟨⟨0, (), rfl, (by first | (unfold v_reads; rw [if_pos (by omega)]) | (unfold v_reads; rw [if_neg (by omega)]) | decide), trivial⟩, hS.F ht⟩) hS.2.2 dX11_reads_17
    · have k_7 : (p2).toInt ≥ (0 : Int) := z_nlt c_5
      refine lv_iload_n hx hb dX11_reads_11 rfl (lv_at hl 2 rfl) ?_
      refine lv_iconst (v := 4) hx hb dX11_reads_12 (by decide) ?_
      refine lv_icmp_lt (tgt := 18) hx hb dX11_reads_13 (by decide) (fun c_8 => ?_) (fun c_8 => ?_)
      · have k_9 : (p2).toInt < (4 : Int) := z_lt c_8
        refine lv_bipush (v := 16) hx hb dX11_reads_18 (by decide) ?_
        refine lv_iload_n hx hb dX11_reads_20 rfl (lv_at hl 3 rfl) ?_
        refine lv_iload hx hb dX11_reads_21 (lv_at hl 4 rfl) ?_
        refine lv_iload hx hb dX11_reads_23 (lv_at hl 5 rfl) ?_
        refine lv_iload hx hb dX11_reads_25 (lv_at hl 6 rfl) ?_
        have hPc := hP.sub (ws' := []) [] rfl
        have hDc := hD.sub (ws' := []) [] (by decide) rfl
        have hKc := hK.sub (tys' := []) [] rfl
        have hFc := va_free (ws := []) (wc := []) (z_D0 _) hS hA [] rfl
        refine va_calli (va_runS (As := [.int 16, .int p3, .int p4, .int p5, .int p6]) (rest := []) ⟨hx, hb, hml, hown, hts⟩ (c_X6_areWithin l dC dI H_1.size p3 p4 p5 p6) (va_cwS 5 hts gw_c_X11_reads_c_X6_areWithin_237 rfl rfl rfl (by decide +kernel) ⟨Nat.le_of_ble_eq_true rfl, Nat.le_of_ble_eq_true rfl⟩) ⟨z_blind, z_pre hPc hKc hDc⟩ rfl rfl hl.1 rfl (lv_room (Nat.le_of_ble_eq_true rfl)) dX11_reads_27 ⟨Nat.le_of_ble_eq_true rfl, Nat.le_of_ble_eq_true rfl⟩) hS (fun q _ h => hFc q h) hFc (fun r_11 u t H_10 locs ht hvm hw_12 hB hz1 hk1 hS => ?_)
        have hP := z_pure hP hk1
        have hP : va_P (dC, dI) vwCl [(h0, .inr (11, [h0_0, h0_1, h0_2, h0_3, h0_4, .ref h1, h0_6, h0_7, h0_8, h0_9])), (h1, .inr (6, [.ref h2, h1_1, h1_2, h1_3, h1_4, h1_5, h1_6])), (h2, .inl (ch2, 48, .inl fh2))] H_10 := hP
        have hD : va_D A [(h0, .inr (11, [h0_0, h0_1, h0_2, h0_3, h0_4, .ref h1, h0_6, h0_7, h0_8, h0_9])), (h1, .inr (6, [.ref h2, h1_1, h1_2, h1_3, h1_4, h1_5, h1_6])), (h2, .inl (ch2, 48, .inl fh2))] := hD
        clear hPc hDc hKc
        rcases hw_12 with ⟨rfl, hw_12⟩ | ⟨rfl, hw_12⟩
        · have hw_12 : (0 ≤ p3.toInt ∧ p3.toInt ≤ 16 ∧ 0 ≤ p4.toInt ∧ p4.toInt ≤ 16 ∧ 0 ≤ p5.toInt ∧ p5.toInt ≤ 16 ∧ 0 ≤ p6.toInt ∧ p6.toInt ≤ 16) := hw_12
          refine lv_if_eq (tgt := 48) hx hb dX11_reads_30 (by decide) (fun c_13 => absurd c_13 (by decide)) (fun _ => ?_)
          refine lv_iload_n hx hb dX11_reads_33 rfl (lv_at hl 3 rfl) ?_
          refine lv_iload hx hb dX11_reads_34 (lv_at hl 4 rfl) ?_
          refine lv_iadd hx hb dX11_reads_36 ?_
          refine lv_iload hx hb dX11_reads_37 (lv_at hl 5 rfl) ?_
          refine lv_iadd hx hb dX11_reads_39 ?_
          refine lv_iload hx hb dX11_reads_40 (lv_at hl 6 rfl) ?_
          refine lv_iadd hx hb dX11_reads_42 ?_
          refine lv_bipush (v := 16) hx hb dX11_reads_43 (by decide) ?_
          refine lv_icmp_eq (tgt := 50) hx hb dX11_reads_45 (by decide) (fun c_14 => ?_) (fun c_14 => ?_)
          · have k_15 : ((((p3 + p4) + p5) + p6)).toInt = (16 : Int) := z_eq c_14
            obtain ⟨a_16, ha_16, rfl⟩ := z_nat p1 3 (by omega) (by omega) (by decide)
            obtain ⟨a_17, ha_17, rfl⟩ := z_nat p2 4 (by omega) (by omega) (by decide)
            refine lv_aload_n hx hb dX11_reads_50 rfl (lv_at hl 0 rfl) ?_
            refine va_get (D := (dC, dI)) (ci := 11) (v := .ref h1) (C := RX11) (T := TX11) (N := 10) hx hb hts hiX11 hown hK hP 0 rfl rfl 5 (by decide) w__fieldLink_RX11_49_ShellHeap_readers_LShellHeap_Readers_ (fun _ h9 => h9) rfl dX11_reads_51 ?_
            refine lv_iload_n hx hb dX11_reads_54 rfl (lv_at hl 1 rfl) ?_
            refine lv_iload_n hx hb dX11_reads_55 rfl (lv_at hl 2 rfl) ?_
            refine lv_iload_n hx hb dX11_reads_56 rfl (lv_at hl 3 rfl) ?_
            refine lv_iload hx hb dX11_reads_57 (lv_at hl 4 rfl) ?_
            refine lv_iload hx hb dX11_reads_59 (lv_at hl 5 rfl) ?_
            refine lv_iload hx hb dX11_reads_61 (lv_at hl 6 rfl) ?_
            have hPc := hP.sub (ws' := [(h1, .inr (6, [.ref h2, h1_1, h1_2, h1_3, h1_4, h1_5, h1_6])), (h2, .inl (ch2, 48, .inl fh2))]) [1, 2] rfl
            have hDc := hD.sub (ws' := [(h1, .inr (6, [.ref h2, h1_1, h1_2, h1_3, h1_4, h1_5, h1_6])), (h2, .inl (ch2, 48, .inl fh2))]) [1, 2] (by decide) rfl
            have hKc := hK.sub (tys' := [(ch2, .int)]) [0] rfl
            have hFc := va_free (wc := [(h1, .inr (6, [.ref h2, h1_1, h1_2, h1_3, h1_4, h1_5, h1_6])), (h2, .inl (ch2, 48, .inl fh2))]) hD hS hA [1, 2] rfl
            refine va_callv (va_runV (As := [.int (nI a_16), .int (nI a_17), .int p3, .int p4, .int p5, .int p6]) (rest := []) ⟨hx, hb, hml, hown, hts⟩ (c_X6_setRow l dC dI H_10.size h1 a_16 a_17 p3 p4 p5 p6 h2 h1_1 h1_2 h1_3 h1_4 h1_5 h1_6 ch2 fh2 (by omega) (by omega)) (cwV 6 hts gw_c_X11_reads_c_X6_setRow_241 rfl rfl rfl (by decide +kernel) ⟨Nat.le_of_ble_eq_true rfl, Nat.le_of_ble_eq_true rfl⟩) ⟨z_blind, va_recv hKc hPc (ci := 6) (q0 := 0) rfl rfl, z_pre hPc hKc hDc⟩ rfl rfl hl.1 rfl (lv_room (Nat.le_of_ble_eq_true rfl)) dX11_reads_63 ⟨Nat.le_of_ble_eq_true rfl, Nat.le_of_ble_eq_true rfl⟩) hS (fun q _ h => hFc q h) hFc (fun u t H_18 locs ht hvm hw_20 hB hz1 hk1 hS => ?_)
            obtain ⟨hP, hD⟩ := va_join (wr := [(h0, .inr (11, [h0_0, h0_1, h0_2, h0_3, h0_4, .ref h1, h0_6, h0_7, h0_8, h0_9]))]) (w1 := []) hP hD [1, 2] [0] rfl rfl (by decide) (by decide) hk1 hFc (z_P0 _) (z_D0 _)
            have hP : va_P (dC, dI) vwCl [(h0, .inr (11, [h0_0, h0_1, h0_2, h0_3, h0_4, .ref h1, h0_6, h0_7, h0_8, h0_9]))] H_18 := hP
            have hD : va_D A [(h0, .inr (11, [h0_0, h0_1, h0_2, h0_3, h0_4, .ref h1, h0_6, h0_7, h0_8, h0_9]))] := hD
            clear hPc hDc hKc
            refine lv_iconst (v := 1) hx hb dX11_reads_66 (by decide) ?_
            refine W.widen (k := 0) (n := 0) (Nat.le_of_ble_eq_true rfl) (Nat.le_of_ble_eq_true rfl) ?_
            exact W.zret (v := 1) hx hb hr (by rfl) (fun t ht hW => ⟨⟨1, (), rfl, (by first | (unfold v_reads; rw [if_pos (by omega)]) | (unfold v_reads; rw [if_neg (by omega)]) | decide), trivial⟩, hS.F ht⟩) hS.2.2 dX11_reads_67
          · have k_21 : ((((p3 + p4) + p5) + p6)).toInt ≠ (16 : Int) := z_ne c_14
            refine lv_iconst (v := 0) hx hb dX11_reads_48 (by decide) ?_
            refine W.widen (k := 0) (n := 0) (Nat.le_of_ble_eq_true rfl) (Nat.le_of_ble_eq_true rfl) ?_
            exact W.zret (v := 0) hx hb hr (by rfl) (fun t ht hW => ⟨⟨0, (), rfl, (by first | (unfold v_reads; rw [if_pos (by omega)]) | (unfold v_reads; rw [if_neg (by omega)]) | decide), trivial⟩, hS.F ht⟩) hS.2.2 dX11_reads_49
        · have hw_12 : ¬ (0 ≤ p3.toInt ∧ p3.toInt ≤ 16 ∧ 0 ≤ p4.toInt ∧ p4.toInt ≤ 16 ∧ 0 ≤ p5.toInt ∧ p5.toInt ≤ 16 ∧ 0 ≤ p6.toInt ∧ p6.toInt ≤ 16) := hw_12
          refine lv_if_eq (tgt := 48) hx hb dX11_reads_30 (by decide) (fun _ => ?_) (fun c_22 => absurd (by decide) c_22)
          refine lv_iconst (v := 0) hx hb dX11_reads_48 (by decide) ?_
          refine W.widen (k := 0) (n := 0) (Nat.le_of_ble_eq_true rfl) (Nat.le_of_ble_eq_true rfl) ?_
          exact W.zret (v := 0) hx hb hr (by rfl) (fun t ht hW => ⟨⟨0, (), rfl, (by first | (unfold v_reads; rw [if_pos (by omega)]) | (unfold v_reads; rw [if_neg (by omega)]) | decide), trivial⟩, hS.F ht⟩) hS.2.2 dX11_reads_49
      · have k_23 : (p2).toInt ≥ (4 : Int) := z_nlt c_8
        refine lv_iconst (v := 0) hx hb dX11_reads_16 (by decide) ?_
        refine W.widen (k := 0) (n := 0) (Nat.le_of_ble_eq_true rfl) (Nat.le_of_ble_eq_true rfl) ?_
        exact W.zret (v := 0) hx hb hr (by rfl) (fun t ht hW => ⟨⟨0, (), rfl, (by first | (unfold v_reads; rw [if_pos (by omega)]) | (unfold v_reads; rw [if_neg (by omega)]) | decide), trivial⟩, hS.F ht⟩) hS.2.2 dX11_reads_17
  · have hw_3 : ¬ (0 ≤ p1.toInt ∧ p1.toInt < 3) := hw_3
    refine lv_if_eq (tgt := 16) hx hb dX11_reads_4 (by decide) (fun _ => ?_) (fun c_24 => absurd (by decide) c_24)
    refine lv_iconst (v := 0) hx hb dX11_reads_16 (by decide) ?_
    refine W.widen (k := 0) (n := 0) (Nat.le_of_ble_eq_true rfl) (Nat.le_of_ble_eq_true rfl) ?_
    exact W.zret (v := 0) hx hb hr (by rfl) (fun t ht hW => ⟨⟨0, (), rfl, (by first | (unfold v_reads; rw [if_pos (by omega)]) | (unfold v_reads; rw [if_neg (by omega)]) | decide), trivial⟩, hS.F ht⟩) hS.2.2 dX11_reads_17
def u_c_X12_isLayer : List Cond := .code yX12_isLayer cX12_isLayer 2 (some .boolean) :: ([.fieldLink RX12 151 "ShellHeapModel" "layers" "I"] ++ wsX120)
set_option maxHeartbeats 4000000 in
set_option maxRecDepth 100000 in
theorem c_X12_isLayer (l : Launch) (dC : Nat → ClassId) (dI : Nat → Nat → Nat) (sz : Nat) (h0 : Nat) (p1 : Int32) (h0_0 : Value) (h0_1 : Value) (h0_2 : Value) (h0_4 : Value) (h0_5 : Value) (h0_6 : Value) (h0_7 : Value) (h0_8 : Value) (h0_9 : Value) (h0_10 : Value) (h0_11 : Value) (h0_12 : Value) (h0_13 : Value) (h0_14 : Value) (h0_15 : Value) (h0_16 : Value) (h0_17 : Value) (h0_18 : Value) (h0_19 : Value) (h0_20 : Value) (h0_21 : Value) (h0_22 : Value) (h0_23 : Value) (h0_24 : Value) (h0_25 : Value) (h0_26 : Value) (h0_27 : Value) (h0_28 : Value) (h0_29 : Value) (h0_30 : Value) (h0_31 : Value) (h0_32 : Value) (h0_33 : Value) (h0_34 : Value) (h0_35 : Value) (h0_36 : Value) (h0_37 : Value) (h0_38 : Value) (h0_39 : Value) (h0_40 : Value) (h0_41 : Value) (h0_42 : Value) (h0_43 : Value) (h0_44 : Value) (h0_45 : Value) (h0_46 : Value) (h0_47 : Value) (h0_48 : Value) (h0_49 : Value) (h0_50 : Value) (h0_51 : Value) (h0_52 : Value) (h0_53 : Value) (h0_54 : Value) (h0_55 : Value) (h0_56 : Value) (h0_57 : Value) (h0_58 : Value) (h0_59 : Value) (h0_60 : Value) (h0_61 : Value) (h0_62 : Value) (h0_63 : Value) (h0_64 : Value) (h0_65 : Value) (h0_66 : Value) (h0_67 : Value) (h0_68 : Value) (h0_69 : Value) : Met l yX12_isLayer u_c_X12_isLayer ({ frames := 0, cells := 0, slots := 0, locals := 0 }) (va_Pc [.ref h0, .int p1] (z_C (dC, dI) vwCl [(h0, .inr (12, [h0_0, h0_1, h0_2, .int 0, h0_4, h0_5, h0_6, h0_7, h0_8, h0_9, h0_10, h0_11, h0_12, h0_13, h0_14, h0_15, h0_16, h0_17, h0_18, h0_19, h0_20, h0_21, h0_22, h0_23, h0_24, h0_25, h0_26, h0_27, h0_28, h0_29, h0_30, h0_31, h0_32, h0_33, h0_34, h0_35, h0_36, h0_37, h0_38, h0_39, h0_40, h0_41, h0_42, h0_43, h0_44, h0_45, h0_46, h0_47, h0_48, h0_49, h0_50, h0_51, h0_52, h0_53, h0_54, h0_55, h0_56, h0_57, h0_58, h0_59, h0_60, h0_61, h0_62, h0_63, h0_64, h0_65, h0_66, h0_67, h0_68, h0_69]))] [] sz)) (va_Qi (fun (r : Int32) (_ : Unit) => r = 0) (fun (_ : Unit) (_ : State) => True) (va_A [] sz)) 0 0 (va_A [] sz) := by
  refine Met.ofW (cc := cX12_isLayer) (maxL := 2) (ret := (some .boolean)) (by decide) rfl ?_
  intro p e s m args below meth c s₁ B hml hv
  obtain ⟨rfl, hsz, hP, hK, hD0⟩ := hv
  have hx := B.exec
  have hb := B.bytes
  have hr := B.returns
  have hts := atoms_spec (ws := u_c_X12_isLayer) B.pre
  have hown : s.vm.findClass RX12 = some m.cls := findClass_of_methodNamed B.named
  have hlocks := B.notSynchronized
  subst hsz
  have hD := hD0
  generalize hAe : va_A [] s.heap.size = A
  have hA : ∀ q : Nat, s.heap.size ≤ q → A q := fun q h => by rw [← hAe]; exact Or.inr h
  have hS : va_S A s.heap s.heap [] := va_S.rf
  have hP : va_P (dC, dI) vwCl [(h0, .inr (12, [h0_0, h0_1, h0_2, .int 0, h0_4, h0_5, h0_6, h0_7, h0_8, h0_9, h0_10, h0_11, h0_12, h0_13, h0_14, h0_15, h0_16, h0_17, h0_18, h0_19, h0_20, h0_21, h0_22, h0_23, h0_24, h0_25, h0_26, h0_27, h0_28, h0_29, h0_30, h0_31, h0_32, h0_33, h0_34, h0_35, h0_36, h0_37, h0_38, h0_39, h0_40, h0_41, h0_42, h0_43, h0_44, h0_45, h0_46, h0_47, h0_48, h0_49, h0_50, h0_51, h0_52, h0_53, h0_54, h0_55, h0_56, h0_57, h0_58, h0_59, h0_60, h0_61, h0_62, h0_63, h0_64, h0_65, h0_66, h0_67, h0_68, h0_69]))] s.heap := hP
  have w__fieldLink_RX12_151_ShellHeapModel_layers_I_ := hts (.fieldLink RX12 151 "ShellHeapModel" "layers" "I") (by decide +kernel)
  have hiX12 := show ∀ w ∈ u_ws RX12 TX12 70, w ∈ u_c_X12_isLayer by decide +kernel
  have hl := lv_entry ([.ref h0, .int p1]) (n := 2) (Nat.le_of_ble_eq_true rfl)
  rw [lg_entry_eq]
  generalize (lg_sl ([.ref h0, .int p1]) ++ List.replicate (2 - (lg_sl ([.ref h0, .int p1])).length) Slot.unset).toArray = ls at hl ⊢
  have hl : lv_has ls 2 [(0, .ref h0), (1, .int p1)] := hl
  refine lv_iload_n hx hb dX12_isLayer_0 rfl (lv_at hl 1 rfl) ?_
  refine lv_if_lt (tgt := 16) hx hb dX12_isLayer_1 (by decide) (fun c_1 => ?_) (fun c_1 => ?_)
  · have k_2 : (p1).toInt < (0 : Int) := z_lt c_1
    refine lv_iconst (v := 0) hx hb dX12_isLayer_16 (by decide) ?_
    refine W.widen (k := 0) (n := 0) (Nat.le_of_ble_eq_true rfl) (Nat.le_of_ble_eq_true rfl) ?_
    exact W.zret (v := 0) hx hb hr (by rfl) (fun t ht hW => ⟨⟨0, (), rfl, rfl, trivial⟩, hS.F ht⟩) hS.2.2 dX12_isLayer_17
  · have k_3 : (p1).toInt ≥ (0 : Int) := z_nlt c_1
    refine lv_iload_n hx hb dX12_isLayer_4 rfl (lv_at hl 1 rfl) ?_
    refine lv_aload_n hx hb dX12_isLayer_5 rfl (lv_at hl 0 rfl) ?_
    refine va_get (D := (dC, dI)) (ci := 12) (v := .int 0) (C := RX12) (T := TX12) (N := 70) hx hb hts hiX12 hown hK hP 0 rfl rfl 3 (by decide) w__fieldLink_RX12_151_ShellHeapModel_layers_I_ (fun _ h9 => h9) rfl dX12_isLayer_6 ?_
    refine lv_icmp_ge (tgt := 16) hx hb dX12_isLayer_9 (by decide) (fun _ => ?_) (fun c_4 => ?_)
    rotate_left
    · exfalso
      have k_5 : (0 : Int) > (p1).toInt := z_nle c_4
      omega
    refine lv_iconst (v := 0) hx hb dX12_isLayer_16 (by decide) ?_
    refine W.widen (k := 0) (n := 0) (Nat.le_of_ble_eq_true rfl) (Nat.le_of_ble_eq_true rfl) ?_
    exact W.zret (v := 0) hx hb hr (by rfl) (fun t ht hW => ⟨⟨0, (), rfl, rfl, trivial⟩, hS.F ht⟩) hS.2.2 dX12_isLayer_17
def u_c_X12_isKind : List Cond := .code yX12_isKind cX12_isKind 2 (some .boolean) :: ([.fieldLink RX12 192 "ShellHeapModel" "kinds" "I"] ++ wsX120)
set_option maxHeartbeats 4000000 in
set_option maxRecDepth 100000 in
theorem c_X12_isKind (l : Launch) (dC : Nat → ClassId) (dI : Nat → Nat → Nat) (sz : Nat) (h0 : Nat) (p1 : Int32) (h0_0 : Value) (h0_1 : Value) (h0_2 : Value) (h0_3 : Value) (h0_4 : Value) (h0_5 : Value) (h0_6 : Value) (h0_7 : Value) (h0_8 : Value) (h0_9 : Value) (h0_10 : Value) (h0_11 : Value) (h0_12 : Value) (h0_13 : Value) (h0_14 : Value) (h0_15 : Value) (h0_16 : Value) (h0_17 : Value) (h0_18 : Value) (h0_19 : Value) (h0_20 : Value) (h0_21 : Value) (h0_22 : Value) (h0_24 : Value) (h0_25 : Value) (h0_26 : Value) (h0_27 : Value) (h0_28 : Value) (h0_29 : Value) (h0_30 : Value) (h0_31 : Value) (h0_32 : Value) (h0_33 : Value) (h0_34 : Value) (h0_35 : Value) (h0_36 : Value) (h0_37 : Value) (h0_38 : Value) (h0_39 : Value) (h0_40 : Value) (h0_41 : Value) (h0_42 : Value) (h0_43 : Value) (h0_44 : Value) (h0_45 : Value) (h0_46 : Value) (h0_47 : Value) (h0_48 : Value) (h0_49 : Value) (h0_50 : Value) (h0_51 : Value) (h0_52 : Value) (h0_53 : Value) (h0_54 : Value) (h0_55 : Value) (h0_56 : Value) (h0_57 : Value) (h0_58 : Value) (h0_59 : Value) (h0_60 : Value) (h0_61 : Value) (h0_62 : Value) (h0_63 : Value) (h0_64 : Value) (h0_65 : Value) (h0_66 : Value) (h0_67 : Value) (h0_68 : Value) (h0_69 : Value) : Met l yX12_isKind u_c_X12_isKind ({ frames := 0, cells := 0, slots := 0, locals := 0 }) (va_Pc [.ref h0, .int p1] (z_C (dC, dI) vwCl [(h0, .inr (12, [h0_0, h0_1, h0_2, h0_3, h0_4, h0_5, h0_6, h0_7, h0_8, h0_9, h0_10, h0_11, h0_12, h0_13, h0_14, h0_15, h0_16, h0_17, h0_18, h0_19, h0_20, h0_21, h0_22, .int 0, h0_24, h0_25, h0_26, h0_27, h0_28, h0_29, h0_30, h0_31, h0_32, h0_33, h0_34, h0_35, h0_36, h0_37, h0_38, h0_39, h0_40, h0_41, h0_42, h0_43, h0_44, h0_45, h0_46, h0_47, h0_48, h0_49, h0_50, h0_51, h0_52, h0_53, h0_54, h0_55, h0_56, h0_57, h0_58, h0_59, h0_60, h0_61, h0_62, h0_63, h0_64, h0_65, h0_66, h0_67, h0_68, h0_69]))] [] sz)) (va_Qi (fun (r : Int32) (_ : Unit) => r = 0) (fun (_ : Unit) (_ : State) => True) (va_A [] sz)) 0 0 (va_A [] sz) := by
  refine Met.ofW (cc := cX12_isKind) (maxL := 2) (ret := (some .boolean)) (by decide) rfl ?_
  intro p e s m args below meth c s₁ B hml hv
  obtain ⟨rfl, hsz, hP, hK, hD0⟩ := hv
  have hx := B.exec
  have hb := B.bytes
  have hr := B.returns
  have hts := atoms_spec (ws := u_c_X12_isKind) B.pre
  have hown : s.vm.findClass RX12 = some m.cls := findClass_of_methodNamed B.named
  have hlocks := B.notSynchronized
  subst hsz
  have hD := hD0
  generalize hAe : va_A [] s.heap.size = A
  have hA : ∀ q : Nat, s.heap.size ≤ q → A q := fun q h => by rw [← hAe]; exact Or.inr h
  have hS : va_S A s.heap s.heap [] := va_S.rf
  have hP : va_P (dC, dI) vwCl [(h0, .inr (12, [h0_0, h0_1, h0_2, h0_3, h0_4, h0_5, h0_6, h0_7, h0_8, h0_9, h0_10, h0_11, h0_12, h0_13, h0_14, h0_15, h0_16, h0_17, h0_18, h0_19, h0_20, h0_21, h0_22, .int 0, h0_24, h0_25, h0_26, h0_27, h0_28, h0_29, h0_30, h0_31, h0_32, h0_33, h0_34, h0_35, h0_36, h0_37, h0_38, h0_39, h0_40, h0_41, h0_42, h0_43, h0_44, h0_45, h0_46, h0_47, h0_48, h0_49, h0_50, h0_51, h0_52, h0_53, h0_54, h0_55, h0_56, h0_57, h0_58, h0_59, h0_60, h0_61, h0_62, h0_63, h0_64, h0_65, h0_66, h0_67, h0_68, h0_69]))] s.heap := hP
  have w__fieldLink_RX12_192_ShellHeapModel_kinds_I_ := hts (.fieldLink RX12 192 "ShellHeapModel" "kinds" "I") (by decide +kernel)
  have hiX12 := show ∀ w ∈ u_ws RX12 TX12 70, w ∈ u_c_X12_isKind by decide +kernel
  have hl := lv_entry ([.ref h0, .int p1]) (n := 2) (Nat.le_of_ble_eq_true rfl)
  rw [lg_entry_eq]
  generalize (lg_sl ([.ref h0, .int p1]) ++ List.replicate (2 - (lg_sl ([.ref h0, .int p1])).length) Slot.unset).toArray = ls at hl ⊢
  have hl : lv_has ls 2 [(0, .ref h0), (1, .int p1)] := hl
  refine lv_iload_n hx hb dX12_isKind_0 rfl (lv_at hl 1 rfl) ?_
  refine lv_if_lt (tgt := 16) hx hb dX12_isKind_1 (by decide) (fun c_1 => ?_) (fun c_1 => ?_)
  · have k_2 : (p1).toInt < (0 : Int) := z_lt c_1
    refine lv_iconst (v := 0) hx hb dX12_isKind_16 (by decide) ?_
    refine W.widen (k := 0) (n := 0) (Nat.le_of_ble_eq_true rfl) (Nat.le_of_ble_eq_true rfl) ?_
    exact W.zret (v := 0) hx hb hr (by rfl) (fun t ht hW => ⟨⟨0, (), rfl, rfl, trivial⟩, hS.F ht⟩) hS.2.2 dX12_isKind_17
  · have k_3 : (p1).toInt ≥ (0 : Int) := z_nlt c_1
    refine lv_iload_n hx hb dX12_isKind_4 rfl (lv_at hl 1 rfl) ?_
    refine lv_aload_n hx hb dX12_isKind_5 rfl (lv_at hl 0 rfl) ?_
    refine va_get (D := (dC, dI)) (ci := 12) (v := .int 0) (C := RX12) (T := TX12) (N := 70) hx hb hts hiX12 hown hK hP 0 rfl rfl 23 (by decide) w__fieldLink_RX12_192_ShellHeapModel_kinds_I_ (fun _ h9 => h9) rfl dX12_isKind_6 ?_
    refine lv_icmp_ge (tgt := 16) hx hb dX12_isKind_9 (by decide) (fun _ => ?_) (fun c_4 => ?_)
    rotate_left
    · exfalso
      have k_5 : (0 : Int) > (p1).toInt := z_nle c_4
      omega
    refine lv_iconst (v := 0) hx hb dX12_isKind_16 (by decide) ?_
    refine W.widen (k := 0) (n := 0) (Nat.le_of_ble_eq_true rfl) (Nat.le_of_ble_eq_true rfl) ?_
    exact W.zret (v := 0) hx hb hr (by rfl) (fun t ht hW => ⟨⟨0, (), rfl, rfl, trivial⟩, hS.F ht⟩) hS.2.2 dX12_isKind_17
def u_c_X12_isKnown : List Cond := .code yX12_isKnown cX12_isKnown 2 (some .boolean) :: ([.fieldLink RX12 154 "ShellHeapModel" "notes" "I"] ++ wsX120)
set_option maxHeartbeats 4000000 in
set_option maxRecDepth 100000 in
theorem c_X12_isKnown (l : Launch) (dC : Nat → ClassId) (dI : Nat → Nat → Nat) (sz : Nat) (h0 : Nat) (p1 : Int32) (h0_0 : Value) (h0_1 : Value) (h0_2 : Value) (h0_3 : Value) (h0_5 : Value) (h0_6 : Value) (h0_7 : Value) (h0_8 : Value) (h0_9 : Value) (h0_10 : Value) (h0_11 : Value) (h0_12 : Value) (h0_13 : Value) (h0_14 : Value) (h0_15 : Value) (h0_16 : Value) (h0_17 : Value) (h0_18 : Value) (h0_19 : Value) (h0_20 : Value) (h0_21 : Value) (h0_22 : Value) (h0_23 : Value) (h0_24 : Value) (h0_25 : Value) (h0_26 : Value) (h0_27 : Value) (h0_28 : Value) (h0_29 : Value) (h0_30 : Value) (h0_31 : Value) (h0_32 : Value) (h0_33 : Value) (h0_34 : Value) (h0_35 : Value) (h0_36 : Value) (h0_37 : Value) (h0_38 : Value) (h0_39 : Value) (h0_40 : Value) (h0_41 : Value) (h0_42 : Value) (h0_43 : Value) (h0_44 : Value) (h0_45 : Value) (h0_46 : Value) (h0_47 : Value) (h0_48 : Value) (h0_49 : Value) (h0_50 : Value) (h0_51 : Value) (h0_52 : Value) (h0_53 : Value) (h0_54 : Value) (h0_55 : Value) (h0_56 : Value) (h0_57 : Value) (h0_58 : Value) (h0_59 : Value) (h0_60 : Value) (h0_61 : Value) (h0_62 : Value) (h0_63 : Value) (h0_64 : Value) (h0_65 : Value) (h0_66 : Value) (h0_67 : Value) (h0_68 : Value) (h0_69 : Value) : Met l yX12_isKnown u_c_X12_isKnown ({ frames := 0, cells := 0, slots := 0, locals := 0 }) (va_Pc [.ref h0, .int p1] (z_C (dC, dI) vwCl [(h0, .inr (12, [h0_0, h0_1, h0_2, h0_3, .int 0, h0_5, h0_6, h0_7, h0_8, h0_9, h0_10, h0_11, h0_12, h0_13, h0_14, h0_15, h0_16, h0_17, h0_18, h0_19, h0_20, h0_21, h0_22, h0_23, h0_24, h0_25, h0_26, h0_27, h0_28, h0_29, h0_30, h0_31, h0_32, h0_33, h0_34, h0_35, h0_36, h0_37, h0_38, h0_39, h0_40, h0_41, h0_42, h0_43, h0_44, h0_45, h0_46, h0_47, h0_48, h0_49, h0_50, h0_51, h0_52, h0_53, h0_54, h0_55, h0_56, h0_57, h0_58, h0_59, h0_60, h0_61, h0_62, h0_63, h0_64, h0_65, h0_66, h0_67, h0_68, h0_69]))] [] sz)) (va_Qi (fun (r : Int32) (_ : Unit) => (r = 1 ∧ p1.toInt = 0) ∨ (r = 0 ∧ ¬ p1.toInt = 0)) (fun (_ : Unit) (_ : State) => True) (va_A [] sz)) 0 0 (va_A [] sz) := by
  refine Met.ofW (cc := cX12_isKnown) (maxL := 2) (ret := (some .boolean)) (by decide) rfl ?_
  intro p e s m args below meth c s₁ B hml hv
  obtain ⟨rfl, hsz, hP, hK, hD0⟩ := hv
  have hx := B.exec
  have hb := B.bytes
  have hr := B.returns
  have hts := atoms_spec (ws := u_c_X12_isKnown) B.pre
  have hown : s.vm.findClass RX12 = some m.cls := findClass_of_methodNamed B.named
  have hlocks := B.notSynchronized
  subst hsz
  have hD := hD0
  generalize hAe : va_A [] s.heap.size = A
  have hA : ∀ q : Nat, s.heap.size ≤ q → A q := fun q h => by rw [← hAe]; exact Or.inr h
  have hS : va_S A s.heap s.heap [] := va_S.rf
  have hP : va_P (dC, dI) vwCl [(h0, .inr (12, [h0_0, h0_1, h0_2, h0_3, .int 0, h0_5, h0_6, h0_7, h0_8, h0_9, h0_10, h0_11, h0_12, h0_13, h0_14, h0_15, h0_16, h0_17, h0_18, h0_19, h0_20, h0_21, h0_22, h0_23, h0_24, h0_25, h0_26, h0_27, h0_28, h0_29, h0_30, h0_31, h0_32, h0_33, h0_34, h0_35, h0_36, h0_37, h0_38, h0_39, h0_40, h0_41, h0_42, h0_43, h0_44, h0_45, h0_46, h0_47, h0_48, h0_49, h0_50, h0_51, h0_52, h0_53, h0_54, h0_55, h0_56, h0_57, h0_58, h0_59, h0_60, h0_61, h0_62, h0_63, h0_64, h0_65, h0_66, h0_67, h0_68, h0_69]))] s.heap := hP
  have w__fieldLink_RX12_154_ShellHeapModel_notes_I_ := hts (.fieldLink RX12 154 "ShellHeapModel" "notes" "I") (by decide +kernel)
  have hiX12 := show ∀ w ∈ u_ws RX12 TX12 70, w ∈ u_c_X12_isKnown by decide +kernel
  have hl := lv_entry ([.ref h0, .int p1]) (n := 2) (Nat.le_of_ble_eq_true rfl)
  rw [lg_entry_eq]
  generalize (lg_sl ([.ref h0, .int p1]) ++ List.replicate (2 - (lg_sl ([.ref h0, .int p1])).length) Slot.unset).toArray = ls at hl ⊢
  have hl : lv_has ls 2 [(0, .ref h0), (1, .int p1)] := hl
  refine lv_iload_n hx hb dX12_isKnown_0 rfl (lv_at hl 1 rfl) ?_
  refine lv_if_lt (tgt := 16) hx hb dX12_isKnown_1 (by decide) (fun c_1 => ?_) (fun c_1 => ?_)
  · have k_2 : (p1).toInt < (0 : Int) := z_lt c_1
    refine lv_iconst (v := 0) hx hb dX12_isKnown_16 (by decide) ?_
    refine W.widen (k := 0) (n := 0) (Nat.le_of_ble_eq_true rfl) (Nat.le_of_ble_eq_true rfl) ?_
    exact W.zret (v := 0) hx hb hr (by rfl) (fun t ht hW => ⟨⟨0, (), rfl, (Or.inr (⟨rfl, by first | omega | decide⟩)), trivial⟩, hS.F ht⟩) hS.2.2 dX12_isKnown_17
  · have k_3 : (p1).toInt ≥ (0 : Int) := z_nlt c_1
    refine lv_iload_n hx hb dX12_isKnown_4 rfl (lv_at hl 1 rfl) ?_
    refine lv_aload_n hx hb dX12_isKnown_5 rfl (lv_at hl 0 rfl) ?_
    refine va_get (D := (dC, dI)) (ci := 12) (v := .int 0) (C := RX12) (T := TX12) (N := 70) hx hb hts hiX12 hown hK hP 0 rfl rfl 4 (by decide) w__fieldLink_RX12_154_ShellHeapModel_notes_I_ (fun _ h9 => h9) rfl dX12_isKnown_6 ?_
    refine lv_icmp_gt (tgt := 16) hx hb dX12_isKnown_9 (by decide) (fun c_4 => ?_) (fun c_4 => ?_)
    · have k_5 : (0 : Int) < (p1).toInt := z_lt c_4
      refine lv_iconst (v := 0) hx hb dX12_isKnown_16 (by decide) ?_
      refine W.widen (k := 0) (n := 0) (Nat.le_of_ble_eq_true rfl) (Nat.le_of_ble_eq_true rfl) ?_
      exact W.zret (v := 0) hx hb hr (by rfl) (fun t ht hW => ⟨⟨0, (), rfl, (Or.inr (⟨rfl, by first | omega | decide⟩)), trivial⟩, hS.F ht⟩) hS.2.2 dX12_isKnown_17
    · have k_6 : (0 : Int) ≥ (p1).toInt := z_nlt c_4
      obtain rfl : p1 = 0 := z_eq' (show (p1).toInt = (0 : Int) by omega)
      refine lv_iconst (v := 1) hx hb dX12_isKnown_12 (by decide) ?_
      refine lv_goto (tgt := 17) hx hb dX12_isKnown_13 (by decide) ?_
      refine W.widen (k := 0) (n := 0) (Nat.le_of_ble_eq_true rfl) (Nat.le_of_ble_eq_true rfl) ?_
      exact W.zret (v := 1) hx hb hr (by rfl) (fun t ht hW => ⟨⟨1, (), rfl, (Or.inl (⟨rfl, by first | omega | decide⟩)), trivial⟩, hS.F ht⟩) hS.2.2 dX12_isKnown_17
def u_c_X12_isReader : List Cond := .code yX12_isReader cX12_isReader 1 (some .boolean) :: ([])
set_option maxHeartbeats 4000000 in
set_option maxRecDepth 100000 in
theorem c_X12_isReader (l : Launch) (dC : Nat → ClassId) (dI : Nat → Nat → Nat) (sz : Nat) (p0 : Int32) : Met l yX12_isReader u_c_X12_isReader ({ frames := 0, cells := 0, slots := 0, locals := 0 }) (va_Pc [.int p0] (z_C (dC, dI) vwCl [] [] sz)) (va_Qi (fun (r : Int32) (_ : Unit) => (r = 1 ∧ (0 ≤ p0.toInt ∧ p0.toInt < 3)) ∨ (r = 0 ∧ ¬ (0 ≤ p0.toInt ∧ p0.toInt < 3))) (fun (_ : Unit) (_ : State) => True) (va_A [] sz)) 0 0 (va_A [] sz) := by
  refine Met.ofW (cc := cX12_isReader) (maxL := 1) (ret := (some .boolean)) (by decide) rfl ?_
  intro p e s m args below meth c s₁ B hml hv
  obtain ⟨rfl, hsz, hP, hK, hD0⟩ := hv
  have hx := B.exec
  have hb := B.bytes
  have hr := B.returns
  have hts := atoms_spec (ws := u_c_X12_isReader) B.pre
  have hown : s.vm.findClass RX12 = some m.cls := findClass_of_methodNamed B.named
  have hlocks := B.notSynchronized
  subst hsz
  have hD := hD0
  generalize hAe : va_A [] s.heap.size = A
  have hA : ∀ q : Nat, s.heap.size ≤ q → A q := fun q h => by rw [← hAe]; exact Or.inr h
  have hS : va_S A s.heap s.heap [] := va_S.rf
  have hP : va_P (dC, dI) vwCl [] s.heap := hP
  have hl := lv_entry ([.int p0]) (n := 1) (Nat.le_of_ble_eq_true rfl)
  rw [lg_entry_eq]
  generalize (lg_sl ([.int p0]) ++ List.replicate (1 - (lg_sl ([.int p0])).length) Slot.unset).toArray = ls at hl ⊢
  have hl : lv_has ls 1 [(0, .int p0)] := hl
  refine lv_iload_n hx hb dX12_isReader_0 rfl (lv_at hl 0 rfl) ?_
  refine lv_if_lt (tgt := 13) hx hb dX12_isReader_1 (by decide) (fun c_1 => ?_) (fun c_1 => ?_)
  · have k_2 : (p0).toInt < (0 : Int) := z_lt c_1
    refine lv_iconst (v := 0) hx hb dX12_isReader_13 (by decide) ?_
    refine W.widen (k := 0) (n := 0) (Nat.le_of_ble_eq_true rfl) (Nat.le_of_ble_eq_true rfl) ?_
    exact W.zret (v := 0) hx hb hr (by rfl) (fun t ht hW => ⟨⟨0, (), rfl, (Or.inr (⟨rfl, by first | omega | decide⟩)), trivial⟩, hS.F ht⟩) hS.2.2 dX12_isReader_14
  · have k_3 : (p0).toInt ≥ (0 : Int) := z_nlt c_1
    refine lv_iload_n hx hb dX12_isReader_4 rfl (lv_at hl 0 rfl) ?_
    refine lv_iconst (v := 3) hx hb dX12_isReader_5 (by decide) ?_
    refine lv_icmp_ge (tgt := 13) hx hb dX12_isReader_6 (by decide) (fun c_4 => ?_) (fun c_4 => ?_)
    · have k_5 : (3 : Int) ≤ (p0).toInt := z_le c_4
      refine lv_iconst (v := 0) hx hb dX12_isReader_13 (by decide) ?_
      refine W.widen (k := 0) (n := 0) (Nat.le_of_ble_eq_true rfl) (Nat.le_of_ble_eq_true rfl) ?_
      exact W.zret (v := 0) hx hb hr (by rfl) (fun t ht hW => ⟨⟨0, (), rfl, (Or.inr (⟨rfl, by first | omega | decide⟩)), trivial⟩, hS.F ht⟩) hS.2.2 dX12_isReader_14
    · have k_6 : (3 : Int) > (p0).toInt := z_nle c_4
      refine lv_iconst (v := 1) hx hb dX12_isReader_9 (by decide) ?_
      refine lv_goto (tgt := 14) hx hb dX12_isReader_10 (by decide) ?_
      refine W.widen (k := 0) (n := 0) (Nat.le_of_ble_eq_true rfl) (Nat.le_of_ble_eq_true rfl) ?_
      exact W.zret (v := 1) hx hb hr (by rfl) (fun t ht hW => ⟨⟨1, (), rfl, (Or.inl (⟨rfl, by first | omega | decide⟩)), trivial⟩, hS.F ht⟩) hS.2.2 dX12_isReader_14
def u_c_X12_feed : List Cond := .code yX12_feed cX12_feed 8 (some .int) :: ([.fieldLink RX12 145 "ShellHeapModel" "thrown" "I", .fieldLink RX12 148 "ShellHeapModel" "tapeSize" "I", .fieldLink RX12 7 "ShellHeapModel" "tape" "[I"] ++ wsX120)
set_option maxHeartbeats 4000000 in
set_option maxRecDepth 100000 in
theorem c_X12_feed (l : Launch) (dC : Nat → ClassId) (dI : Nat → Nat → Nat) (sz : Nat) (h0 : Nat) (p1 : Int32) (p2 : Int32) (p3 : Int32) (p4 : Int32) (p5 : Int32) (h1 : Nat) (h0_2 : Value) (h0_3 : Value) (h0_4 : Value) (h0_5 : Value) (h0_6 : Value) (h0_7 : Value) (h0_8 : Value) (h0_9 : Value) (h0_10 : Value) (h0_11 : Value) (h0_12 : Value) (h0_13 : Value) (h0_14 : Value) (h0_15 : Value) (h0_16 : Value) (h0_17 : Value) (h0_18 : Value) (h0_19 : Value) (h0_20 : Value) (h0_21 : Value) (h0_22 : Value) (h0_23 : Value) (h0_24 : Value) (h0_25 : Value) (h0_26 : Value) (h0_27 : Value) (h0_28 : Value) (h0_29 : Value) (h0_30 : Value) (h0_31 : Value) (h0_32 : Value) (h0_33 : Value) (h0_34 : Value) (h0_35 : Value) (h0_36 : Value) (h0_37 : Value) (h0_38 : Value) (h0_39 : Value) (h0_40 : Value) (h0_41 : Value) (h0_42 : Value) (h0_43 : Value) (h0_44 : Value) (h0_45 : Value) (h0_46 : Value) (h0_47 : Value) (h0_48 : Value) (h0_49 : Value) (h0_50 : Value) (h0_51 : Value) (h0_52 : Value) (h0_53 : Value) (h0_54 : Value) (h0_55 : Value) (h0_56 : Value) (h0_57 : Value) (h0_58 : Value) (h0_59 : Value) (h0_60 : Value) (h0_61 : Value) (h0_62 : Value) (h0_63 : Value) (h0_64 : Value) (h0_65 : Value) (h0_66 : Value) (h0_67 : Value) (h0_68 : Value) (h0_69 : Value) (ch1 : ClassId) (fh1 : Nat → Int32) : Met l yX12_feed u_c_X12_feed ({ frames := 0, cells := 0, slots := 0, locals := 0 }) (va_Pc [.ref h0, .int p1, .int p2, .int p3, .int p4, .int p5] (z_C (dC, dI) vwCl [(h0, .inr (12, [.ref h1, .int 0, h0_2, h0_3, h0_4, h0_5, h0_6, h0_7, h0_8, h0_9, h0_10, h0_11, h0_12, h0_13, h0_14, h0_15, h0_16, h0_17, h0_18, h0_19, h0_20, h0_21, h0_22, h0_23, h0_24, h0_25, h0_26, h0_27, h0_28, h0_29, h0_30, h0_31, h0_32, h0_33, h0_34, h0_35, h0_36, h0_37, h0_38, h0_39, h0_40, h0_41, h0_42, h0_43, h0_44, h0_45, h0_46, h0_47, h0_48, h0_49, h0_50, h0_51, h0_52, h0_53, h0_54, h0_55, h0_56, h0_57, h0_58, h0_59, h0_60, h0_61, h0_62, h0_63, h0_64, h0_65, h0_66, h0_67, h0_68, h0_69])), (h1, .inl (ch1, 700, .inl fh1))] [(ch1, .int)] sz)) (va_Qi (fun (r : Int32) (_ : Unit) => r = 20) (fun (_ : Unit) (_ : State) => True) (va_A [(h0, .inr (12, [.ref h1, .int 0, h0_2, h0_3, h0_4, h0_5, h0_6, h0_7, h0_8, h0_9, h0_10, h0_11, h0_12, h0_13, h0_14, h0_15, h0_16, h0_17, h0_18, h0_19, h0_20, h0_21, h0_22, h0_23, h0_24, h0_25, h0_26, h0_27, h0_28, h0_29, h0_30, h0_31, h0_32, h0_33, h0_34, h0_35, h0_36, h0_37, h0_38, h0_39, h0_40, h0_41, h0_42, h0_43, h0_44, h0_45, h0_46, h0_47, h0_48, h0_49, h0_50, h0_51, h0_52, h0_53, h0_54, h0_55, h0_56, h0_57, h0_58, h0_59, h0_60, h0_61, h0_62, h0_63, h0_64, h0_65, h0_66, h0_67, h0_68, h0_69])), (h1, .inl (ch1, 700, .inl fh1))] sz)) 0 0 (va_A [(h0, .inr (12, [.ref h1, .int 0, h0_2, h0_3, h0_4, h0_5, h0_6, h0_7, h0_8, h0_9, h0_10, h0_11, h0_12, h0_13, h0_14, h0_15, h0_16, h0_17, h0_18, h0_19, h0_20, h0_21, h0_22, h0_23, h0_24, h0_25, h0_26, h0_27, h0_28, h0_29, h0_30, h0_31, h0_32, h0_33, h0_34, h0_35, h0_36, h0_37, h0_38, h0_39, h0_40, h0_41, h0_42, h0_43, h0_44, h0_45, h0_46, h0_47, h0_48, h0_49, h0_50, h0_51, h0_52, h0_53, h0_54, h0_55, h0_56, h0_57, h0_58, h0_59, h0_60, h0_61, h0_62, h0_63, h0_64, h0_65, h0_66, h0_67, h0_68, h0_69])), (h1, .inl (ch1, 700, .inl fh1))] sz) := by
  refine Met.ofW (cc := cX12_feed) (maxL := 8) (ret := (some .int)) (by decide) rfl ?_
  intro p e s m args below meth c s₁ B hml hv
  obtain ⟨rfl, hsz, hP, hK, hD0⟩ := hv
  have hx := B.exec
  have hb := B.bytes
  have hr := B.returns
  have hts := atoms_spec (ws := u_c_X12_feed) B.pre
  have hown : s.vm.findClass RX12 = some m.cls := findClass_of_methodNamed B.named
  have hlocks := B.notSynchronized
  subst hsz
  have hD := hD0.self (sz := s.heap.size)
  generalize hAe : va_A [(h0, .inr (12, [.ref h1, .int 0, h0_2, h0_3, h0_4, h0_5, h0_6, h0_7, h0_8, h0_9, h0_10, h0_11, h0_12, h0_13, h0_14, h0_15, h0_16, h0_17, h0_18, h0_19, h0_20, h0_21, h0_22, h0_23, h0_24, h0_25, h0_26, h0_27, h0_28, h0_29, h0_30, h0_31, h0_32, h0_33, h0_34, h0_35, h0_36, h0_37, h0_38, h0_39, h0_40, h0_41, h0_42, h0_43, h0_44, h0_45, h0_46, h0_47, h0_48, h0_49, h0_50, h0_51, h0_52, h0_53, h0_54, h0_55, h0_56, h0_57, h0_58, h0_59, h0_60, h0_61, h0_62, h0_63, h0_64, h0_65, h0_66, h0_67, h0_68, h0_69])), (h1, .inl (ch1, 700, .inl fh1))] s.heap.size = A at hD ⊢
  have hA : ∀ q : Nat, s.heap.size ≤ q → A q := fun q h => by rw [← hAe]; exact Or.inr h
  have hS : va_S A s.heap s.heap [] := va_S.rf
  have hP : va_P (dC, dI) vwCl [(h0, .inr (12, [.ref h1, .int 0, h0_2, h0_3, h0_4, h0_5, h0_6, h0_7, h0_8, h0_9, h0_10, h0_11, h0_12, h0_13, h0_14, h0_15, h0_16, h0_17, h0_18, h0_19, h0_20, h0_21, h0_22, h0_23, h0_24, h0_25, h0_26, h0_27, h0_28, h0_29, h0_30, h0_31, h0_32, h0_33, h0_34, h0_35, h0_36, h0_37, h0_38, h0_39, h0_40, h0_41, h0_42, h0_43, h0_44, h0_45, h0_46, h0_47, h0_48, h0_49, h0_50, h0_51, h0_52, h0_53, h0_54, h0_55, h0_56, h0_57, h0_58, h0_59, h0_60, h0_61, h0_62, h0_63, h0_64, h0_65, h0_66, h0_67, h0_68, h0_69])), (h1, .inl (ch1, 700, .inl fh1))] s.heap := hP
  have w__fieldLink_RX12_145_ShellHeapModel_thrown_I_ := hts (.fieldLink RX12 145 "ShellHeapModel" "thrown" "I") (by decide +kernel)
  have hiX12 := show ∀ w ∈ u_ws RX12 TX12 70, w ∈ u_c_X12_feed by decide +kernel
  have w__fieldLink_RX12_148_ShellHeapModel_tapeSize_I_ := hts (.fieldLink RX12 148 "ShellHeapModel" "tapeSize" "I") (by decide +kernel)
  have w__fieldLink_RX12_7_ShellHeapModel_tape_I_ := hts (.fieldLink RX12 7 "ShellHeapModel" "tape" "[I") (by decide +kernel)
  have hl := lv_entry ([.ref h0, .int p1, .int p2, .int p3, .int p4, .int p5]) (n := 8) (Nat.le_of_ble_eq_true rfl)
  rw [lg_entry_eq]
  generalize (lg_sl ([.ref h0, .int p1, .int p2, .int p3, .int p4, .int p5]) ++ List.replicate (8 - (lg_sl ([.ref h0, .int p1, .int p2, .int p3, .int p4, .int p5])).length) Slot.unset).toArray = ls at hl ⊢
  have hl : lv_has ls 8 [(0, .ref h0), (1, .int p1), (2, .int p2), (3, .int p3), (4, .int p4), (5, .int p5)] := hl
  refine lv_aload_n hx hb dX12_feed_0 rfl (lv_at hl 0 rfl) ?_
  refine lv_iconst (v := 0) hx hb dX12_feed_1 (by decide) ?_
  refine va_put (D := (dC, dI)) (ci := 12) (v := .int 0) (ty := .int) (C := RX12) (T := TX12) (N := 70) hx hb hts hiX12 tyX12 tyX12_ok nmX12 hown hK hP hD hS 0 rfl rfl 2 (by decide) w__fieldLink_RX12_145_ShellHeapModel_thrown_I_ (fun _ h9 => h9) rfl (by decide +kernel) rfl rfl (Nat.le_of_ble_eq_true rfl) dX12_feed_2 (fun H_1 locs hP hD hS => ?_)
  have hP : va_P (dC, dI) vwCl [(h0, .inr (12, [.ref h1, .int 0, .int 0, h0_3, h0_4, h0_5, h0_6, h0_7, h0_8, h0_9, h0_10, h0_11, h0_12, h0_13, h0_14, h0_15, h0_16, h0_17, h0_18, h0_19, h0_20, h0_21, h0_22, h0_23, h0_24, h0_25, h0_26, h0_27, h0_28, h0_29, h0_30, h0_31, h0_32, h0_33, h0_34, h0_35, h0_36, h0_37, h0_38, h0_39, h0_40, h0_41, h0_42, h0_43, h0_44, h0_45, h0_46, h0_47, h0_48, h0_49, h0_50, h0_51, h0_52, h0_53, h0_54, h0_55, h0_56, h0_57, h0_58, h0_59, h0_60, h0_61, h0_62, h0_63, h0_64, h0_65, h0_66, h0_67, h0_68, h0_69])), (h1, .inl (ch1, 700, .inl fh1))] H_1 := hP
  have hD : va_D A [(h0, .inr (12, [.ref h1, .int 0, .int 0, h0_3, h0_4, h0_5, h0_6, h0_7, h0_8, h0_9, h0_10, h0_11, h0_12, h0_13, h0_14, h0_15, h0_16, h0_17, h0_18, h0_19, h0_20, h0_21, h0_22, h0_23, h0_24, h0_25, h0_26, h0_27, h0_28, h0_29, h0_30, h0_31, h0_32, h0_33, h0_34, h0_35, h0_36, h0_37, h0_38, h0_39, h0_40, h0_41, h0_42, h0_43, h0_44, h0_45, h0_46, h0_47, h0_48, h0_49, h0_50, h0_51, h0_52, h0_53, h0_54, h0_55, h0_56, h0_57, h0_58, h0_59, h0_60, h0_61, h0_62, h0_63, h0_64, h0_65, h0_66, h0_67, h0_68, h0_69])), (h1, .inl (ch1, 700, .inl fh1))] := hD
  refine lv_aload_n hx hb dX12_feed_5 rfl (lv_at hl 0 rfl) ?_
  refine va_get (D := (dC, dI)) (ci := 12) (v := .int 0) (C := RX12) (T := TX12) (N := 70) hx hb hts hiX12 hown hK hP 0 rfl rfl 1 (by decide) w__fieldLink_RX12_148_ShellHeapModel_tapeSize_I_ (fun _ h9 => h9) rfl dX12_feed_6 ?_
  refine lv_bipush (v := 20) hx hb dX12_feed_9 (by decide) ?_
  refine lv_iadd hx hb dX12_feed_11 ?_
  refine lv_topi (fun x_2 e_3 => ?_)
  obtain rfl : x_2 = 20 := e_3.trans (by decide)
  refine lv_sipush (v := 700) hx hb dX12_feed_12 (by decide) ?_
  refine lv_icmp_le (tgt := 20) hx hb dX12_feed_15 (by decide) (fun _ => ?_) (fun c_4 => absurd (by decide) c_4)
  refine lv_iconst (v := 0) hx hb dX12_feed_20 (by decide) ?_
  refine lv_istore (lv' := [(6, .int 0), (0, .ref h0), (1, .int p1), (2, .int p2), (3, .int p3), (4, .int p4), (5, .int p5)]) hx hb dX12_feed_21 hl (by decide) rfl (fun ls hl => ?_)
  refine lv_iload hx hb dX12_feed_23 (lv_at hl 0 rfl) ?_
  refine lv_bipush (v := 20) hx hb dX12_feed_25 (by decide) ?_
  refine lv_icmp_ge (tgt := 113) hx hb dX12_feed_27 (by decide) (fun c_5 => absurd c_5 (by decide)) (fun _ => ?_)
  refine lv_iload hx hb dX12_feed_30 (lv_at hl 0 rfl) ?_
  refine lv_iconst (v := 4) hx hb dX12_feed_32 (by decide) ?_
  refine lv_icmp_ge (tgt := 40) hx hb dX12_feed_33 (by decide) (fun c_6 => absurd c_6 (by decide)) (fun _ => ?_)
  refine lv_iload_n hx hb dX12_feed_36 rfl (lv_at hl 2 rfl) ?_
  refine lv_goto (tgt := 76) hx hb dX12_feed_37 (by decide) ?_
  refine lv_istore (lv' := [(7, .int p1), (6, .int 0), (0, .ref h0), (1, .int p1), (2, .int p2), (3, .int p3), (4, .int p4), (5, .int p5)]) hx hb dX12_feed_76 hl (by decide) rfl (fun ls hl => ?_)
  refine lv_aload_n hx hb dX12_feed_78 rfl (lv_at hl 2 rfl) ?_
  refine va_get (D := (dC, dI)) (ci := 12) (v := .ref h1) (C := RX12) (T := TX12) (N := 70) hx hb hts hiX12 hown hK hP 0 rfl rfl 0 (by decide) w__fieldLink_RX12_7_ShellHeapModel_tape_I_ (fun _ h9 => h9) rfl dX12_feed_79 ?_
  refine lv_aload_n hx hb dX12_feed_82 rfl (lv_at hl 2 rfl) ?_
  refine va_get (D := (dC, dI)) (ci := 12) (v := .int 0) (C := RX12) (T := TX12) (N := 70) hx hb hts hiX12 hown hK hP 0 rfl rfl 1 (by decide) w__fieldLink_RX12_148_ShellHeapModel_tapeSize_I_ (fun _ h9 => h9) rfl dX12_feed_83 ?_
  refine lv_iload hx hb dX12_feed_86 (lv_at hl 1 rfl) ?_
  refine lv_iadd hx hb dX12_feed_88 ?_
  refine lv_topi (fun x_7 e_8 => ?_)
  obtain rfl : x_7 = 0 := e_8.trans (by decide)
  refine lv_iload hx hb dX12_feed_89 (lv_at hl 0 rfl) ?_
  refine lv_bipush (v := 24) hx hb dX12_feed_91 (by decide) ?_
  refine lv_bipush (v := 8) hx hb dX12_feed_93 (by decide) ?_
  refine lv_iload hx hb dX12_feed_95 (lv_at hl 1 rfl) ?_
  refine lv_iconst (v := 4) hx hb dX12_feed_97 (by decide) ?_
  refine lv_irem hx hb dX12_feed_98 (by decide) ?_
  refine lv_topi (fun x_9 e_10 => ?_)
  obtain rfl : x_9 = 0 := e_10.trans (by decide)
  refine lv_imul hx hb dX12_feed_99 ?_
  refine lv_topi (fun x_11 e_12 => ?_)
  obtain rfl : x_11 = 0 := e_12.trans (by decide)
  refine lv_isub hx hb dX12_feed_100 ?_
  refine lv_topi (fun x_13 e_14 => ?_)
  obtain rfl : x_13 = 24 := e_14.trans (by decide)
  refine lv_ishr hx hb dX12_feed_101 ?_
  refine lv_topi (fun x_15 _ => ?_)
  refine lv_sipush (v := 255) hx hb dX12_feed_102 (by decide) ?_
  refine lv_iand hx hb dX12_feed_105 ?_
  refine lv_topi (fun x_16 _ => ?_)
  refine va_iast hx hb hK hP hD hS 1 0 rfl rfl (by unfold vp_in; decide) dX12_feed_106 (fun H_17 locs hP hD hS => ?_)
  have hP : va_P (dC, dI) vwCl [(h0, .inr (12, [.ref h1, .int 0, .int 0, h0_3, h0_4, h0_5, h0_6, h0_7, h0_8, h0_9, h0_10, h0_11, h0_12, h0_13, h0_14, h0_15, h0_16, h0_17, h0_18, h0_19, h0_20, h0_21, h0_22, h0_23, h0_24, h0_25, h0_26, h0_27, h0_28, h0_29, h0_30, h0_31, h0_32, h0_33, h0_34, h0_35, h0_36, h0_37, h0_38, h0_39, h0_40, h0_41, h0_42, h0_43, h0_44, h0_45, h0_46, h0_47, h0_48, h0_49, h0_50, h0_51, h0_52, h0_53, h0_54, h0_55, h0_56, h0_57, h0_58, h0_59, h0_60, h0_61, h0_62, h0_63, h0_64, h0_65, h0_66, h0_67, h0_68, h0_69])), (h1, .inl (ch1, 700, .inl (upd fh1 (0 : Int32).toNatClampNeg x_16)))] H_17 := hP
  have hD : va_D A [(h0, .inr (12, [.ref h1, .int 0, .int 0, h0_3, h0_4, h0_5, h0_6, h0_7, h0_8, h0_9, h0_10, h0_11, h0_12, h0_13, h0_14, h0_15, h0_16, h0_17, h0_18, h0_19, h0_20, h0_21, h0_22, h0_23, h0_24, h0_25, h0_26, h0_27, h0_28, h0_29, h0_30, h0_31, h0_32, h0_33, h0_34, h0_35, h0_36, h0_37, h0_38, h0_39, h0_40, h0_41, h0_42, h0_43, h0_44, h0_45, h0_46, h0_47, h0_48, h0_49, h0_50, h0_51, h0_52, h0_53, h0_54, h0_55, h0_56, h0_57, h0_58, h0_59, h0_60, h0_61, h0_62, h0_63, h0_64, h0_65, h0_66, h0_67, h0_68, h0_69])), (h1, .inl (ch1, 700, .inl (upd fh1 (0 : Int32).toNatClampNeg x_16)))] := hD
  generalize (upd fh1 (0 : Int32).toNatClampNeg x_16) = f_18 at hP hD
  refine lv_iinc (v := 1) (lv' := [(6, .int 1), (7, .int p1), (0, .ref h0), (1, .int p1), (2, .int p2), (3, .int p3), (4, .int p4), (5, .int p5)]) hx hb dX12_feed_107 hl (k := 1) rfl (by decide) (by decide) rfl (fun ls hl => ?_)
  refine lv_goto (tgt := 23) hx hb dX12_feed_110 (by decide) ?_
  refine lv_iload hx hb dX12_feed_23 (lv_at hl 0 rfl) ?_
  refine lv_bipush (v := 20) hx hb dX12_feed_25 (by decide) ?_
  refine lv_icmp_ge (tgt := 113) hx hb dX12_feed_27 (by decide) (fun c_19 => absurd c_19 (by decide)) (fun _ => ?_)
  refine lv_iload hx hb dX12_feed_30 (lv_at hl 0 rfl) ?_
  refine lv_iconst (v := 4) hx hb dX12_feed_32 (by decide) ?_
  refine lv_icmp_ge (tgt := 40) hx hb dX12_feed_33 (by decide) (fun c_20 => absurd c_20 (by decide)) (fun _ => ?_)
  refine lv_iload_n hx hb dX12_feed_36 rfl (lv_at hl 3 rfl) ?_
  refine lv_goto (tgt := 76) hx hb dX12_feed_37 (by decide) ?_
  refine lv_istore (lv' := [(7, .int p1), (6, .int 1), (0, .ref h0), (1, .int p1), (2, .int p2), (3, .int p3), (4, .int p4), (5, .int p5)]) hx hb dX12_feed_76 hl (by decide) rfl (fun ls hl => ?_)
  refine lv_aload_n hx hb dX12_feed_78 rfl (lv_at hl 2 rfl) ?_
  refine va_get (D := (dC, dI)) (ci := 12) (v := .ref h1) (C := RX12) (T := TX12) (N := 70) hx hb hts hiX12 hown hK hP 0 rfl rfl 0 (by decide) w__fieldLink_RX12_7_ShellHeapModel_tape_I_ (fun _ h9 => h9) rfl dX12_feed_79 ?_
  refine lv_aload_n hx hb dX12_feed_82 rfl (lv_at hl 2 rfl) ?_
  refine va_get (D := (dC, dI)) (ci := 12) (v := .int 0) (C := RX12) (T := TX12) (N := 70) hx hb hts hiX12 hown hK hP 0 rfl rfl 1 (by decide) w__fieldLink_RX12_148_ShellHeapModel_tapeSize_I_ (fun _ h9 => h9) rfl dX12_feed_83 ?_
  refine lv_iload hx hb dX12_feed_86 (lv_at hl 1 rfl) ?_
  refine lv_iadd hx hb dX12_feed_88 ?_
  refine lv_topi (fun x_21 e_22 => ?_)
  obtain rfl : x_21 = 1 := e_22.trans (by decide)
  refine lv_iload hx hb dX12_feed_89 (lv_at hl 0 rfl) ?_
  refine lv_bipush (v := 24) hx hb dX12_feed_91 (by decide) ?_
  refine lv_bipush (v := 8) hx hb dX12_feed_93 (by decide) ?_
  refine lv_iload hx hb dX12_feed_95 (lv_at hl 1 rfl) ?_
  refine lv_iconst (v := 4) hx hb dX12_feed_97 (by decide) ?_
  refine lv_irem hx hb dX12_feed_98 (by decide) ?_
  refine lv_topi (fun x_23 e_24 => ?_)
  obtain rfl : x_23 = 1 := e_24.trans (by decide)
  refine lv_imul hx hb dX12_feed_99 ?_
  refine lv_topi (fun x_25 e_26 => ?_)
  obtain rfl : x_25 = 8 := e_26.trans (by decide)
  refine lv_isub hx hb dX12_feed_100 ?_
  refine lv_topi (fun x_27 e_28 => ?_)
  obtain rfl : x_27 = 16 := e_28.trans (by decide)
  refine lv_ishr hx hb dX12_feed_101 ?_
  refine lv_topi (fun x_29 _ => ?_)
  refine lv_sipush (v := 255) hx hb dX12_feed_102 (by decide) ?_
  refine lv_iand hx hb dX12_feed_105 ?_
  refine lv_topi (fun x_30 _ => ?_)
  refine va_iast hx hb hK hP hD hS 1 0 rfl rfl (by unfold vp_in; decide) dX12_feed_106 (fun H_31 locs hP hD hS => ?_)
  have hP : va_P (dC, dI) vwCl [(h0, .inr (12, [.ref h1, .int 0, .int 0, h0_3, h0_4, h0_5, h0_6, h0_7, h0_8, h0_9, h0_10, h0_11, h0_12, h0_13, h0_14, h0_15, h0_16, h0_17, h0_18, h0_19, h0_20, h0_21, h0_22, h0_23, h0_24, h0_25, h0_26, h0_27, h0_28, h0_29, h0_30, h0_31, h0_32, h0_33, h0_34, h0_35, h0_36, h0_37, h0_38, h0_39, h0_40, h0_41, h0_42, h0_43, h0_44, h0_45, h0_46, h0_47, h0_48, h0_49, h0_50, h0_51, h0_52, h0_53, h0_54, h0_55, h0_56, h0_57, h0_58, h0_59, h0_60, h0_61, h0_62, h0_63, h0_64, h0_65, h0_66, h0_67, h0_68, h0_69])), (h1, .inl (ch1, 700, .inl (upd f_18 (1 : Int32).toNatClampNeg x_30)))] H_31 := hP
  have hD : va_D A [(h0, .inr (12, [.ref h1, .int 0, .int 0, h0_3, h0_4, h0_5, h0_6, h0_7, h0_8, h0_9, h0_10, h0_11, h0_12, h0_13, h0_14, h0_15, h0_16, h0_17, h0_18, h0_19, h0_20, h0_21, h0_22, h0_23, h0_24, h0_25, h0_26, h0_27, h0_28, h0_29, h0_30, h0_31, h0_32, h0_33, h0_34, h0_35, h0_36, h0_37, h0_38, h0_39, h0_40, h0_41, h0_42, h0_43, h0_44, h0_45, h0_46, h0_47, h0_48, h0_49, h0_50, h0_51, h0_52, h0_53, h0_54, h0_55, h0_56, h0_57, h0_58, h0_59, h0_60, h0_61, h0_62, h0_63, h0_64, h0_65, h0_66, h0_67, h0_68, h0_69])), (h1, .inl (ch1, 700, .inl (upd f_18 (1 : Int32).toNatClampNeg x_30)))] := hD
  generalize (upd f_18 (1 : Int32).toNatClampNeg x_30) = f_32 at hP hD
  refine lv_iinc (v := 2) (lv' := [(6, .int 2), (7, .int p1), (0, .ref h0), (1, .int p1), (2, .int p2), (3, .int p3), (4, .int p4), (5, .int p5)]) hx hb dX12_feed_107 hl (k := 1) rfl (by decide) (by decide) rfl (fun ls hl => ?_)
  refine lv_goto (tgt := 23) hx hb dX12_feed_110 (by decide) ?_
  refine lv_iload hx hb dX12_feed_23 (lv_at hl 0 rfl) ?_
  refine lv_bipush (v := 20) hx hb dX12_feed_25 (by decide) ?_
  refine lv_icmp_ge (tgt := 113) hx hb dX12_feed_27 (by decide) (fun c_33 => absurd c_33 (by decide)) (fun _ => ?_)
  refine lv_iload hx hb dX12_feed_30 (lv_at hl 0 rfl) ?_
  refine lv_iconst (v := 4) hx hb dX12_feed_32 (by decide) ?_
  refine lv_icmp_ge (tgt := 40) hx hb dX12_feed_33 (by decide) (fun c_34 => absurd c_34 (by decide)) (fun _ => ?_)
  refine lv_iload_n hx hb dX12_feed_36 rfl (lv_at hl 3 rfl) ?_
  refine lv_goto (tgt := 76) hx hb dX12_feed_37 (by decide) ?_
  refine lv_istore (lv' := [(7, .int p1), (6, .int 2), (0, .ref h0), (1, .int p1), (2, .int p2), (3, .int p3), (4, .int p4), (5, .int p5)]) hx hb dX12_feed_76 hl (by decide) rfl (fun ls hl => ?_)
  refine lv_aload_n hx hb dX12_feed_78 rfl (lv_at hl 2 rfl) ?_
  refine va_get (D := (dC, dI)) (ci := 12) (v := .ref h1) (C := RX12) (T := TX12) (N := 70) hx hb hts hiX12 hown hK hP 0 rfl rfl 0 (by decide) w__fieldLink_RX12_7_ShellHeapModel_tape_I_ (fun _ h9 => h9) rfl dX12_feed_79 ?_
  refine lv_aload_n hx hb dX12_feed_82 rfl (lv_at hl 2 rfl) ?_
  refine va_get (D := (dC, dI)) (ci := 12) (v := .int 0) (C := RX12) (T := TX12) (N := 70) hx hb hts hiX12 hown hK hP 0 rfl rfl 1 (by decide) w__fieldLink_RX12_148_ShellHeapModel_tapeSize_I_ (fun _ h9 => h9) rfl dX12_feed_83 ?_
  refine lv_iload hx hb dX12_feed_86 (lv_at hl 1 rfl) ?_
  refine lv_iadd hx hb dX12_feed_88 ?_
  refine lv_topi (fun x_35 e_36 => ?_)
  obtain rfl : x_35 = 2 := e_36.trans (by decide)
  refine lv_iload hx hb dX12_feed_89 (lv_at hl 0 rfl) ?_
  refine lv_bipush (v := 24) hx hb dX12_feed_91 (by decide) ?_
  refine lv_bipush (v := 8) hx hb dX12_feed_93 (by decide) ?_
  refine lv_iload hx hb dX12_feed_95 (lv_at hl 1 rfl) ?_
  refine lv_iconst (v := 4) hx hb dX12_feed_97 (by decide) ?_
  refine lv_irem hx hb dX12_feed_98 (by decide) ?_
  refine lv_topi (fun x_37 e_38 => ?_)
  obtain rfl : x_37 = 2 := e_38.trans (by decide)
  refine lv_imul hx hb dX12_feed_99 ?_
  refine lv_topi (fun x_39 e_40 => ?_)
  obtain rfl : x_39 = 16 := e_40.trans (by decide)
  refine lv_isub hx hb dX12_feed_100 ?_
  refine lv_topi (fun x_41 e_42 => ?_)
  obtain rfl : x_41 = 8 := e_42.trans (by decide)
  refine lv_ishr hx hb dX12_feed_101 ?_
  refine lv_topi (fun x_43 _ => ?_)
  refine lv_sipush (v := 255) hx hb dX12_feed_102 (by decide) ?_
  refine lv_iand hx hb dX12_feed_105 ?_
  refine lv_topi (fun x_44 _ => ?_)
  refine va_iast hx hb hK hP hD hS 1 0 rfl rfl (by unfold vp_in; decide) dX12_feed_106 (fun H_45 locs hP hD hS => ?_)
  have hP : va_P (dC, dI) vwCl [(h0, .inr (12, [.ref h1, .int 0, .int 0, h0_3, h0_4, h0_5, h0_6, h0_7, h0_8, h0_9, h0_10, h0_11, h0_12, h0_13, h0_14, h0_15, h0_16, h0_17, h0_18, h0_19, h0_20, h0_21, h0_22, h0_23, h0_24, h0_25, h0_26, h0_27, h0_28, h0_29, h0_30, h0_31, h0_32, h0_33, h0_34, h0_35, h0_36, h0_37, h0_38, h0_39, h0_40, h0_41, h0_42, h0_43, h0_44, h0_45, h0_46, h0_47, h0_48, h0_49, h0_50, h0_51, h0_52, h0_53, h0_54, h0_55, h0_56, h0_57, h0_58, h0_59, h0_60, h0_61, h0_62, h0_63, h0_64, h0_65, h0_66, h0_67, h0_68, h0_69])), (h1, .inl (ch1, 700, .inl (upd f_32 (2 : Int32).toNatClampNeg x_44)))] H_45 := hP
  have hD : va_D A [(h0, .inr (12, [.ref h1, .int 0, .int 0, h0_3, h0_4, h0_5, h0_6, h0_7, h0_8, h0_9, h0_10, h0_11, h0_12, h0_13, h0_14, h0_15, h0_16, h0_17, h0_18, h0_19, h0_20, h0_21, h0_22, h0_23, h0_24, h0_25, h0_26, h0_27, h0_28, h0_29, h0_30, h0_31, h0_32, h0_33, h0_34, h0_35, h0_36, h0_37, h0_38, h0_39, h0_40, h0_41, h0_42, h0_43, h0_44, h0_45, h0_46, h0_47, h0_48, h0_49, h0_50, h0_51, h0_52, h0_53, h0_54, h0_55, h0_56, h0_57, h0_58, h0_59, h0_60, h0_61, h0_62, h0_63, h0_64, h0_65, h0_66, h0_67, h0_68, h0_69])), (h1, .inl (ch1, 700, .inl (upd f_32 (2 : Int32).toNatClampNeg x_44)))] := hD
  generalize (upd f_32 (2 : Int32).toNatClampNeg x_44) = f_46 at hP hD
  refine lv_iinc (v := 3) (lv' := [(6, .int 3), (7, .int p1), (0, .ref h0), (1, .int p1), (2, .int p2), (3, .int p3), (4, .int p4), (5, .int p5)]) hx hb dX12_feed_107 hl (k := 1) rfl (by decide) (by decide) rfl (fun ls hl => ?_)
  refine lv_goto (tgt := 23) hx hb dX12_feed_110 (by decide) ?_
  refine lv_iload hx hb dX12_feed_23 (lv_at hl 0 rfl) ?_
  refine lv_bipush (v := 20) hx hb dX12_feed_25 (by decide) ?_
  refine lv_icmp_ge (tgt := 113) hx hb dX12_feed_27 (by decide) (fun c_47 => absurd c_47 (by decide)) (fun _ => ?_)
  refine lv_iload hx hb dX12_feed_30 (lv_at hl 0 rfl) ?_
  refine lv_iconst (v := 4) hx hb dX12_feed_32 (by decide) ?_
  refine lv_icmp_ge (tgt := 40) hx hb dX12_feed_33 (by decide) (fun c_48 => absurd c_48 (by decide)) (fun _ => ?_)
  refine lv_iload_n hx hb dX12_feed_36 rfl (lv_at hl 3 rfl) ?_
  refine lv_goto (tgt := 76) hx hb dX12_feed_37 (by decide) ?_
  refine lv_istore (lv' := [(7, .int p1), (6, .int 3), (0, .ref h0), (1, .int p1), (2, .int p2), (3, .int p3), (4, .int p4), (5, .int p5)]) hx hb dX12_feed_76 hl (by decide) rfl (fun ls hl => ?_)
  refine lv_aload_n hx hb dX12_feed_78 rfl (lv_at hl 2 rfl) ?_
  refine va_get (D := (dC, dI)) (ci := 12) (v := .ref h1) (C := RX12) (T := TX12) (N := 70) hx hb hts hiX12 hown hK hP 0 rfl rfl 0 (by decide) w__fieldLink_RX12_7_ShellHeapModel_tape_I_ (fun _ h9 => h9) rfl dX12_feed_79 ?_
  refine lv_aload_n hx hb dX12_feed_82 rfl (lv_at hl 2 rfl) ?_
  refine va_get (D := (dC, dI)) (ci := 12) (v := .int 0) (C := RX12) (T := TX12) (N := 70) hx hb hts hiX12 hown hK hP 0 rfl rfl 1 (by decide) w__fieldLink_RX12_148_ShellHeapModel_tapeSize_I_ (fun _ h9 => h9) rfl dX12_feed_83 ?_
  refine lv_iload hx hb dX12_feed_86 (lv_at hl 1 rfl) ?_
  refine lv_iadd hx hb dX12_feed_88 ?_
  refine lv_topi (fun x_49 e_50 => ?_)
  obtain rfl : x_49 = 3 := e_50.trans (by decide)
  refine lv_iload hx hb dX12_feed_89 (lv_at hl 0 rfl) ?_
  refine lv_bipush (v := 24) hx hb dX12_feed_91 (by decide) ?_
  refine lv_bipush (v := 8) hx hb dX12_feed_93 (by decide) ?_
  refine lv_iload hx hb dX12_feed_95 (lv_at hl 1 rfl) ?_
  refine lv_iconst (v := 4) hx hb dX12_feed_97 (by decide) ?_
  refine lv_irem hx hb dX12_feed_98 (by decide) ?_
  refine lv_topi (fun x_51 e_52 => ?_)
  obtain rfl : x_51 = 3 := e_52.trans (by decide)
  refine lv_imul hx hb dX12_feed_99 ?_
  refine lv_topi (fun x_53 e_54 => ?_)
  obtain rfl : x_53 = 24 := e_54.trans (by decide)
  refine lv_isub hx hb dX12_feed_100 ?_
  refine lv_topi (fun x_55 e_56 => ?_)
  obtain rfl : x_55 = 0 := e_56.trans (by decide)
  refine lv_ishr hx hb dX12_feed_101 ?_
  refine lv_topi (fun x_57 _ => ?_)
  refine lv_sipush (v := 255) hx hb dX12_feed_102 (by decide) ?_
  refine lv_iand hx hb dX12_feed_105 ?_
  refine lv_topi (fun x_58 _ => ?_)
  refine va_iast hx hb hK hP hD hS 1 0 rfl rfl (by unfold vp_in; decide) dX12_feed_106 (fun H_59 locs hP hD hS => ?_)
  have hP : va_P (dC, dI) vwCl [(h0, .inr (12, [.ref h1, .int 0, .int 0, h0_3, h0_4, h0_5, h0_6, h0_7, h0_8, h0_9, h0_10, h0_11, h0_12, h0_13, h0_14, h0_15, h0_16, h0_17, h0_18, h0_19, h0_20, h0_21, h0_22, h0_23, h0_24, h0_25, h0_26, h0_27, h0_28, h0_29, h0_30, h0_31, h0_32, h0_33, h0_34, h0_35, h0_36, h0_37, h0_38, h0_39, h0_40, h0_41, h0_42, h0_43, h0_44, h0_45, h0_46, h0_47, h0_48, h0_49, h0_50, h0_51, h0_52, h0_53, h0_54, h0_55, h0_56, h0_57, h0_58, h0_59, h0_60, h0_61, h0_62, h0_63, h0_64, h0_65, h0_66, h0_67, h0_68, h0_69])), (h1, .inl (ch1, 700, .inl (upd f_46 (3 : Int32).toNatClampNeg x_58)))] H_59 := hP
  have hD : va_D A [(h0, .inr (12, [.ref h1, .int 0, .int 0, h0_3, h0_4, h0_5, h0_6, h0_7, h0_8, h0_9, h0_10, h0_11, h0_12, h0_13, h0_14, h0_15, h0_16, h0_17, h0_18, h0_19, h0_20, h0_21, h0_22, h0_23, h0_24, h0_25, h0_26, h0_27, h0_28, h0_29, h0_30, h0_31, h0_32, h0_33, h0_34, h0_35, h0_36, h0_37, h0_38, h0_39, h0_40, h0_41, h0_42, h0_43, h0_44, h0_45, h0_46, h0_47, h0_48, h0_49, h0_50, h0_51, h0_52, h0_53, h0_54, h0_55, h0_56, h0_57, h0_58, h0_59, h0_60, h0_61, h0_62, h0_63, h0_64, h0_65, h0_66, h0_67, h0_68, h0_69])), (h1, .inl (ch1, 700, .inl (upd f_46 (3 : Int32).toNatClampNeg x_58)))] := hD
  generalize (upd f_46 (3 : Int32).toNatClampNeg x_58) = f_60 at hP hD
  refine lv_iinc (v := 4) (lv' := [(6, .int 4), (7, .int p1), (0, .ref h0), (1, .int p1), (2, .int p2), (3, .int p3), (4, .int p4), (5, .int p5)]) hx hb dX12_feed_107 hl (k := 1) rfl (by decide) (by decide) rfl (fun ls hl => ?_)
  refine lv_goto (tgt := 23) hx hb dX12_feed_110 (by decide) ?_
  refine lv_iload hx hb dX12_feed_23 (lv_at hl 0 rfl) ?_
  refine lv_bipush (v := 20) hx hb dX12_feed_25 (by decide) ?_
  refine lv_icmp_ge (tgt := 113) hx hb dX12_feed_27 (by decide) (fun c_61 => absurd c_61 (by decide)) (fun _ => ?_)
  refine lv_iload hx hb dX12_feed_30 (lv_at hl 0 rfl) ?_
  refine lv_iconst (v := 4) hx hb dX12_feed_32 (by decide) ?_
  refine lv_icmp_ge (tgt := 40) hx hb dX12_feed_33 (by decide) (fun _ => ?_) (fun c_62 => absurd (by decide) c_62)
  refine lv_iload hx hb dX12_feed_40 (lv_at hl 0 rfl) ?_
  refine lv_bipush (v := 8) hx hb dX12_feed_42 (by decide) ?_
  refine lv_icmp_ge (tgt := 51) hx hb dX12_feed_44 (by decide) (fun c_63 => absurd c_63 (by decide)) (fun _ => ?_)
  refine lv_iload_n hx hb dX12_feed_47 rfl (lv_at hl 4 rfl) ?_
  refine lv_goto (tgt := 76) hx hb dX12_feed_48 (by decide) ?_
  refine lv_istore (lv' := [(7, .int p2), (6, .int 4), (0, .ref h0), (1, .int p1), (2, .int p2), (3, .int p3), (4, .int p4), (5, .int p5)]) hx hb dX12_feed_76 hl (by decide) rfl (fun ls hl => ?_)
  refine lv_aload_n hx hb dX12_feed_78 rfl (lv_at hl 2 rfl) ?_
  refine va_get (D := (dC, dI)) (ci := 12) (v := .ref h1) (C := RX12) (T := TX12) (N := 70) hx hb hts hiX12 hown hK hP 0 rfl rfl 0 (by decide) w__fieldLink_RX12_7_ShellHeapModel_tape_I_ (fun _ h9 => h9) rfl dX12_feed_79 ?_
  refine lv_aload_n hx hb dX12_feed_82 rfl (lv_at hl 2 rfl) ?_
  refine va_get (D := (dC, dI)) (ci := 12) (v := .int 0) (C := RX12) (T := TX12) (N := 70) hx hb hts hiX12 hown hK hP 0 rfl rfl 1 (by decide) w__fieldLink_RX12_148_ShellHeapModel_tapeSize_I_ (fun _ h9 => h9) rfl dX12_feed_83 ?_
  refine lv_iload hx hb dX12_feed_86 (lv_at hl 1 rfl) ?_
  refine lv_iadd hx hb dX12_feed_88 ?_
  refine lv_topi (fun x_64 e_65 => ?_)
  obtain rfl : x_64 = 4 := e_65.trans (by decide)
  refine lv_iload hx hb dX12_feed_89 (lv_at hl 0 rfl) ?_
  refine lv_bipush (v := 24) hx hb dX12_feed_91 (by decide) ?_
  refine lv_bipush (v := 8) hx hb dX12_feed_93 (by decide) ?_
  refine lv_iload hx hb dX12_feed_95 (lv_at hl 1 rfl) ?_
  refine lv_iconst (v := 4) hx hb dX12_feed_97 (by decide) ?_
  refine lv_irem hx hb dX12_feed_98 (by decide) ?_
  refine lv_topi (fun x_66 e_67 => ?_)
  obtain rfl : x_66 = 0 := e_67.trans (by decide)
  refine lv_imul hx hb dX12_feed_99 ?_
  refine lv_topi (fun x_68 e_69 => ?_)
  obtain rfl : x_68 = 0 := e_69.trans (by decide)
  refine lv_isub hx hb dX12_feed_100 ?_
  refine lv_topi (fun x_70 e_71 => ?_)
  obtain rfl : x_70 = 24 := e_71.trans (by decide)
  refine lv_ishr hx hb dX12_feed_101 ?_
  refine lv_topi (fun x_72 _ => ?_)
  refine lv_sipush (v := 255) hx hb dX12_feed_102 (by decide) ?_
  refine lv_iand hx hb dX12_feed_105 ?_
  refine lv_topi (fun x_73 _ => ?_)
  refine va_iast hx hb hK hP hD hS 1 0 rfl rfl (by unfold vp_in; decide) dX12_feed_106 (fun H_74 locs hP hD hS => ?_)
  have hP : va_P (dC, dI) vwCl [(h0, .inr (12, [.ref h1, .int 0, .int 0, h0_3, h0_4, h0_5, h0_6, h0_7, h0_8, h0_9, h0_10, h0_11, h0_12, h0_13, h0_14, h0_15, h0_16, h0_17, h0_18, h0_19, h0_20, h0_21, h0_22, h0_23, h0_24, h0_25, h0_26, h0_27, h0_28, h0_29, h0_30, h0_31, h0_32, h0_33, h0_34, h0_35, h0_36, h0_37, h0_38, h0_39, h0_40, h0_41, h0_42, h0_43, h0_44, h0_45, h0_46, h0_47, h0_48, h0_49, h0_50, h0_51, h0_52, h0_53, h0_54, h0_55, h0_56, h0_57, h0_58, h0_59, h0_60, h0_61, h0_62, h0_63, h0_64, h0_65, h0_66, h0_67, h0_68, h0_69])), (h1, .inl (ch1, 700, .inl (upd f_60 (4 : Int32).toNatClampNeg x_73)))] H_74 := hP
  have hD : va_D A [(h0, .inr (12, [.ref h1, .int 0, .int 0, h0_3, h0_4, h0_5, h0_6, h0_7, h0_8, h0_9, h0_10, h0_11, h0_12, h0_13, h0_14, h0_15, h0_16, h0_17, h0_18, h0_19, h0_20, h0_21, h0_22, h0_23, h0_24, h0_25, h0_26, h0_27, h0_28, h0_29, h0_30, h0_31, h0_32, h0_33, h0_34, h0_35, h0_36, h0_37, h0_38, h0_39, h0_40, h0_41, h0_42, h0_43, h0_44, h0_45, h0_46, h0_47, h0_48, h0_49, h0_50, h0_51, h0_52, h0_53, h0_54, h0_55, h0_56, h0_57, h0_58, h0_59, h0_60, h0_61, h0_62, h0_63, h0_64, h0_65, h0_66, h0_67, h0_68, h0_69])), (h1, .inl (ch1, 700, .inl (upd f_60 (4 : Int32).toNatClampNeg x_73)))] := hD
  generalize (upd f_60 (4 : Int32).toNatClampNeg x_73) = f_75 at hP hD
  refine lv_iinc (v := 5) (lv' := [(6, .int 5), (7, .int p2), (0, .ref h0), (1, .int p1), (2, .int p2), (3, .int p3), (4, .int p4), (5, .int p5)]) hx hb dX12_feed_107 hl (k := 1) rfl (by decide) (by decide) rfl (fun ls hl => ?_)
  refine lv_goto (tgt := 23) hx hb dX12_feed_110 (by decide) ?_
  refine lv_iload hx hb dX12_feed_23 (lv_at hl 0 rfl) ?_
  refine lv_bipush (v := 20) hx hb dX12_feed_25 (by decide) ?_
  refine lv_icmp_ge (tgt := 113) hx hb dX12_feed_27 (by decide) (fun c_76 => absurd c_76 (by decide)) (fun _ => ?_)
  refine lv_iload hx hb dX12_feed_30 (lv_at hl 0 rfl) ?_
  refine lv_iconst (v := 4) hx hb dX12_feed_32 (by decide) ?_
  refine lv_icmp_ge (tgt := 40) hx hb dX12_feed_33 (by decide) (fun _ => ?_) (fun c_77 => absurd (by decide) c_77)
  refine lv_iload hx hb dX12_feed_40 (lv_at hl 0 rfl) ?_
  refine lv_bipush (v := 8) hx hb dX12_feed_42 (by decide) ?_
  refine lv_icmp_ge (tgt := 51) hx hb dX12_feed_44 (by decide) (fun c_78 => absurd c_78 (by decide)) (fun _ => ?_)
  refine lv_iload_n hx hb dX12_feed_47 rfl (lv_at hl 4 rfl) ?_
  refine lv_goto (tgt := 76) hx hb dX12_feed_48 (by decide) ?_
  refine lv_istore (lv' := [(7, .int p2), (6, .int 5), (0, .ref h0), (1, .int p1), (2, .int p2), (3, .int p3), (4, .int p4), (5, .int p5)]) hx hb dX12_feed_76 hl (by decide) rfl (fun ls hl => ?_)
  refine lv_aload_n hx hb dX12_feed_78 rfl (lv_at hl 2 rfl) ?_
  refine va_get (D := (dC, dI)) (ci := 12) (v := .ref h1) (C := RX12) (T := TX12) (N := 70) hx hb hts hiX12 hown hK hP 0 rfl rfl 0 (by decide) w__fieldLink_RX12_7_ShellHeapModel_tape_I_ (fun _ h9 => h9) rfl dX12_feed_79 ?_
  refine lv_aload_n hx hb dX12_feed_82 rfl (lv_at hl 2 rfl) ?_
  refine va_get (D := (dC, dI)) (ci := 12) (v := .int 0) (C := RX12) (T := TX12) (N := 70) hx hb hts hiX12 hown hK hP 0 rfl rfl 1 (by decide) w__fieldLink_RX12_148_ShellHeapModel_tapeSize_I_ (fun _ h9 => h9) rfl dX12_feed_83 ?_
  refine lv_iload hx hb dX12_feed_86 (lv_at hl 1 rfl) ?_
  refine lv_iadd hx hb dX12_feed_88 ?_
  refine lv_topi (fun x_79 e_80 => ?_)
  obtain rfl : x_79 = 5 := e_80.trans (by decide)
  refine lv_iload hx hb dX12_feed_89 (lv_at hl 0 rfl) ?_
  refine lv_bipush (v := 24) hx hb dX12_feed_91 (by decide) ?_
  refine lv_bipush (v := 8) hx hb dX12_feed_93 (by decide) ?_
  refine lv_iload hx hb dX12_feed_95 (lv_at hl 1 rfl) ?_
  refine lv_iconst (v := 4) hx hb dX12_feed_97 (by decide) ?_
  refine lv_irem hx hb dX12_feed_98 (by decide) ?_
  refine lv_topi (fun x_81 e_82 => ?_)
  obtain rfl : x_81 = 1 := e_82.trans (by decide)
  refine lv_imul hx hb dX12_feed_99 ?_
  refine lv_topi (fun x_83 e_84 => ?_)
  obtain rfl : x_83 = 8 := e_84.trans (by decide)
  refine lv_isub hx hb dX12_feed_100 ?_
  refine lv_topi (fun x_85 e_86 => ?_)
  obtain rfl : x_85 = 16 := e_86.trans (by decide)
  refine lv_ishr hx hb dX12_feed_101 ?_
  refine lv_topi (fun x_87 _ => ?_)
  refine lv_sipush (v := 255) hx hb dX12_feed_102 (by decide) ?_
  refine lv_iand hx hb dX12_feed_105 ?_
  refine lv_topi (fun x_88 _ => ?_)
  refine va_iast hx hb hK hP hD hS 1 0 rfl rfl (by unfold vp_in; decide) dX12_feed_106 (fun H_89 locs hP hD hS => ?_)
  have hP : va_P (dC, dI) vwCl [(h0, .inr (12, [.ref h1, .int 0, .int 0, h0_3, h0_4, h0_5, h0_6, h0_7, h0_8, h0_9, h0_10, h0_11, h0_12, h0_13, h0_14, h0_15, h0_16, h0_17, h0_18, h0_19, h0_20, h0_21, h0_22, h0_23, h0_24, h0_25, h0_26, h0_27, h0_28, h0_29, h0_30, h0_31, h0_32, h0_33, h0_34, h0_35, h0_36, h0_37, h0_38, h0_39, h0_40, h0_41, h0_42, h0_43, h0_44, h0_45, h0_46, h0_47, h0_48, h0_49, h0_50, h0_51, h0_52, h0_53, h0_54, h0_55, h0_56, h0_57, h0_58, h0_59, h0_60, h0_61, h0_62, h0_63, h0_64, h0_65, h0_66, h0_67, h0_68, h0_69])), (h1, .inl (ch1, 700, .inl (upd f_75 (5 : Int32).toNatClampNeg x_88)))] H_89 := hP
  have hD : va_D A [(h0, .inr (12, [.ref h1, .int 0, .int 0, h0_3, h0_4, h0_5, h0_6, h0_7, h0_8, h0_9, h0_10, h0_11, h0_12, h0_13, h0_14, h0_15, h0_16, h0_17, h0_18, h0_19, h0_20, h0_21, h0_22, h0_23, h0_24, h0_25, h0_26, h0_27, h0_28, h0_29, h0_30, h0_31, h0_32, h0_33, h0_34, h0_35, h0_36, h0_37, h0_38, h0_39, h0_40, h0_41, h0_42, h0_43, h0_44, h0_45, h0_46, h0_47, h0_48, h0_49, h0_50, h0_51, h0_52, h0_53, h0_54, h0_55, h0_56, h0_57, h0_58, h0_59, h0_60, h0_61, h0_62, h0_63, h0_64, h0_65, h0_66, h0_67, h0_68, h0_69])), (h1, .inl (ch1, 700, .inl (upd f_75 (5 : Int32).toNatClampNeg x_88)))] := hD
  generalize (upd f_75 (5 : Int32).toNatClampNeg x_88) = f_90 at hP hD
  refine lv_iinc (v := 6) (lv' := [(6, .int 6), (7, .int p2), (0, .ref h0), (1, .int p1), (2, .int p2), (3, .int p3), (4, .int p4), (5, .int p5)]) hx hb dX12_feed_107 hl (k := 1) rfl (by decide) (by decide) rfl (fun ls hl => ?_)
  refine lv_goto (tgt := 23) hx hb dX12_feed_110 (by decide) ?_
  refine lv_iload hx hb dX12_feed_23 (lv_at hl 0 rfl) ?_
  refine lv_bipush (v := 20) hx hb dX12_feed_25 (by decide) ?_
  refine lv_icmp_ge (tgt := 113) hx hb dX12_feed_27 (by decide) (fun c_91 => absurd c_91 (by decide)) (fun _ => ?_)
  refine lv_iload hx hb dX12_feed_30 (lv_at hl 0 rfl) ?_
  refine lv_iconst (v := 4) hx hb dX12_feed_32 (by decide) ?_
  refine lv_icmp_ge (tgt := 40) hx hb dX12_feed_33 (by decide) (fun _ => ?_) (fun c_92 => absurd (by decide) c_92)
  refine lv_iload hx hb dX12_feed_40 (lv_at hl 0 rfl) ?_
  refine lv_bipush (v := 8) hx hb dX12_feed_42 (by decide) ?_
  refine lv_icmp_ge (tgt := 51) hx hb dX12_feed_44 (by decide) (fun c_93 => absurd c_93 (by decide)) (fun _ => ?_)
  refine lv_iload_n hx hb dX12_feed_47 rfl (lv_at hl 4 rfl) ?_
  refine lv_goto (tgt := 76) hx hb dX12_feed_48 (by decide) ?_
  refine lv_istore (lv' := [(7, .int p2), (6, .int 6), (0, .ref h0), (1, .int p1), (2, .int p2), (3, .int p3), (4, .int p4), (5, .int p5)]) hx hb dX12_feed_76 hl (by decide) rfl (fun ls hl => ?_)
  refine lv_aload_n hx hb dX12_feed_78 rfl (lv_at hl 2 rfl) ?_
  refine va_get (D := (dC, dI)) (ci := 12) (v := .ref h1) (C := RX12) (T := TX12) (N := 70) hx hb hts hiX12 hown hK hP 0 rfl rfl 0 (by decide) w__fieldLink_RX12_7_ShellHeapModel_tape_I_ (fun _ h9 => h9) rfl dX12_feed_79 ?_
  refine lv_aload_n hx hb dX12_feed_82 rfl (lv_at hl 2 rfl) ?_
  refine va_get (D := (dC, dI)) (ci := 12) (v := .int 0) (C := RX12) (T := TX12) (N := 70) hx hb hts hiX12 hown hK hP 0 rfl rfl 1 (by decide) w__fieldLink_RX12_148_ShellHeapModel_tapeSize_I_ (fun _ h9 => h9) rfl dX12_feed_83 ?_
  refine lv_iload hx hb dX12_feed_86 (lv_at hl 1 rfl) ?_
  refine lv_iadd hx hb dX12_feed_88 ?_
  refine lv_topi (fun x_94 e_95 => ?_)
  obtain rfl : x_94 = 6 := e_95.trans (by decide)
  refine lv_iload hx hb dX12_feed_89 (lv_at hl 0 rfl) ?_
  refine lv_bipush (v := 24) hx hb dX12_feed_91 (by decide) ?_
  refine lv_bipush (v := 8) hx hb dX12_feed_93 (by decide) ?_
  refine lv_iload hx hb dX12_feed_95 (lv_at hl 1 rfl) ?_
  refine lv_iconst (v := 4) hx hb dX12_feed_97 (by decide) ?_
  refine lv_irem hx hb dX12_feed_98 (by decide) ?_
  refine lv_topi (fun x_96 e_97 => ?_)
  obtain rfl : x_96 = 2 := e_97.trans (by decide)
  refine lv_imul hx hb dX12_feed_99 ?_
  refine lv_topi (fun x_98 e_99 => ?_)
  obtain rfl : x_98 = 16 := e_99.trans (by decide)
  refine lv_isub hx hb dX12_feed_100 ?_
  refine lv_topi (fun x_100 e_101 => ?_)
  obtain rfl : x_100 = 8 := e_101.trans (by decide)
  refine lv_ishr hx hb dX12_feed_101 ?_
  refine lv_topi (fun x_102 _ => ?_)
  refine lv_sipush (v := 255) hx hb dX12_feed_102 (by decide) ?_
  refine lv_iand hx hb dX12_feed_105 ?_
  refine lv_topi (fun x_103 _ => ?_)
  refine va_iast hx hb hK hP hD hS 1 0 rfl rfl (by unfold vp_in; decide) dX12_feed_106 (fun H_104 locs hP hD hS => ?_)
  have hP : va_P (dC, dI) vwCl [(h0, .inr (12, [.ref h1, .int 0, .int 0, h0_3, h0_4, h0_5, h0_6, h0_7, h0_8, h0_9, h0_10, h0_11, h0_12, h0_13, h0_14, h0_15, h0_16, h0_17, h0_18, h0_19, h0_20, h0_21, h0_22, h0_23, h0_24, h0_25, h0_26, h0_27, h0_28, h0_29, h0_30, h0_31, h0_32, h0_33, h0_34, h0_35, h0_36, h0_37, h0_38, h0_39, h0_40, h0_41, h0_42, h0_43, h0_44, h0_45, h0_46, h0_47, h0_48, h0_49, h0_50, h0_51, h0_52, h0_53, h0_54, h0_55, h0_56, h0_57, h0_58, h0_59, h0_60, h0_61, h0_62, h0_63, h0_64, h0_65, h0_66, h0_67, h0_68, h0_69])), (h1, .inl (ch1, 700, .inl (upd f_90 (6 : Int32).toNatClampNeg x_103)))] H_104 := hP
  have hD : va_D A [(h0, .inr (12, [.ref h1, .int 0, .int 0, h0_3, h0_4, h0_5, h0_6, h0_7, h0_8, h0_9, h0_10, h0_11, h0_12, h0_13, h0_14, h0_15, h0_16, h0_17, h0_18, h0_19, h0_20, h0_21, h0_22, h0_23, h0_24, h0_25, h0_26, h0_27, h0_28, h0_29, h0_30, h0_31, h0_32, h0_33, h0_34, h0_35, h0_36, h0_37, h0_38, h0_39, h0_40, h0_41, h0_42, h0_43, h0_44, h0_45, h0_46, h0_47, h0_48, h0_49, h0_50, h0_51, h0_52, h0_53, h0_54, h0_55, h0_56, h0_57, h0_58, h0_59, h0_60, h0_61, h0_62, h0_63, h0_64, h0_65, h0_66, h0_67, h0_68, h0_69])), (h1, .inl (ch1, 700, .inl (upd f_90 (6 : Int32).toNatClampNeg x_103)))] := hD
  generalize (upd f_90 (6 : Int32).toNatClampNeg x_103) = f_105 at hP hD
  refine lv_iinc (v := 7) (lv' := [(6, .int 7), (7, .int p2), (0, .ref h0), (1, .int p1), (2, .int p2), (3, .int p3), (4, .int p4), (5, .int p5)]) hx hb dX12_feed_107 hl (k := 1) rfl (by decide) (by decide) rfl (fun ls hl => ?_)
  refine lv_goto (tgt := 23) hx hb dX12_feed_110 (by decide) ?_
  refine lv_iload hx hb dX12_feed_23 (lv_at hl 0 rfl) ?_
  refine lv_bipush (v := 20) hx hb dX12_feed_25 (by decide) ?_
  refine lv_icmp_ge (tgt := 113) hx hb dX12_feed_27 (by decide) (fun c_106 => absurd c_106 (by decide)) (fun _ => ?_)
  refine lv_iload hx hb dX12_feed_30 (lv_at hl 0 rfl) ?_
  refine lv_iconst (v := 4) hx hb dX12_feed_32 (by decide) ?_
  refine lv_icmp_ge (tgt := 40) hx hb dX12_feed_33 (by decide) (fun _ => ?_) (fun c_107 => absurd (by decide) c_107)
  refine lv_iload hx hb dX12_feed_40 (lv_at hl 0 rfl) ?_
  refine lv_bipush (v := 8) hx hb dX12_feed_42 (by decide) ?_
  refine lv_icmp_ge (tgt := 51) hx hb dX12_feed_44 (by decide) (fun c_108 => absurd c_108 (by decide)) (fun _ => ?_)
  refine lv_iload_n hx hb dX12_feed_47 rfl (lv_at hl 4 rfl) ?_
  refine lv_goto (tgt := 76) hx hb dX12_feed_48 (by decide) ?_
  refine lv_istore (lv' := [(7, .int p2), (6, .int 7), (0, .ref h0), (1, .int p1), (2, .int p2), (3, .int p3), (4, .int p4), (5, .int p5)]) hx hb dX12_feed_76 hl (by decide) rfl (fun ls hl => ?_)
  refine lv_aload_n hx hb dX12_feed_78 rfl (lv_at hl 2 rfl) ?_
  refine va_get (D := (dC, dI)) (ci := 12) (v := .ref h1) (C := RX12) (T := TX12) (N := 70) hx hb hts hiX12 hown hK hP 0 rfl rfl 0 (by decide) w__fieldLink_RX12_7_ShellHeapModel_tape_I_ (fun _ h9 => h9) rfl dX12_feed_79 ?_
  refine lv_aload_n hx hb dX12_feed_82 rfl (lv_at hl 2 rfl) ?_
  refine va_get (D := (dC, dI)) (ci := 12) (v := .int 0) (C := RX12) (T := TX12) (N := 70) hx hb hts hiX12 hown hK hP 0 rfl rfl 1 (by decide) w__fieldLink_RX12_148_ShellHeapModel_tapeSize_I_ (fun _ h9 => h9) rfl dX12_feed_83 ?_
  refine lv_iload hx hb dX12_feed_86 (lv_at hl 1 rfl) ?_
  refine lv_iadd hx hb dX12_feed_88 ?_
  refine lv_topi (fun x_109 e_110 => ?_)
  obtain rfl : x_109 = 7 := e_110.trans (by decide)
  refine lv_iload hx hb dX12_feed_89 (lv_at hl 0 rfl) ?_
  refine lv_bipush (v := 24) hx hb dX12_feed_91 (by decide) ?_
  refine lv_bipush (v := 8) hx hb dX12_feed_93 (by decide) ?_
  refine lv_iload hx hb dX12_feed_95 (lv_at hl 1 rfl) ?_
  refine lv_iconst (v := 4) hx hb dX12_feed_97 (by decide) ?_
  refine lv_irem hx hb dX12_feed_98 (by decide) ?_
  refine lv_topi (fun x_111 e_112 => ?_)
  obtain rfl : x_111 = 3 := e_112.trans (by decide)
  refine lv_imul hx hb dX12_feed_99 ?_
  refine lv_topi (fun x_113 e_114 => ?_)
  obtain rfl : x_113 = 24 := e_114.trans (by decide)
  refine lv_isub hx hb dX12_feed_100 ?_
  refine lv_topi (fun x_115 e_116 => ?_)
  obtain rfl : x_115 = 0 := e_116.trans (by decide)
  refine lv_ishr hx hb dX12_feed_101 ?_
  refine lv_topi (fun x_117 _ => ?_)
  refine lv_sipush (v := 255) hx hb dX12_feed_102 (by decide) ?_
  refine lv_iand hx hb dX12_feed_105 ?_
  refine lv_topi (fun x_118 _ => ?_)
  refine va_iast hx hb hK hP hD hS 1 0 rfl rfl (by unfold vp_in; decide) dX12_feed_106 (fun H_119 locs hP hD hS => ?_)
  have hP : va_P (dC, dI) vwCl [(h0, .inr (12, [.ref h1, .int 0, .int 0, h0_3, h0_4, h0_5, h0_6, h0_7, h0_8, h0_9, h0_10, h0_11, h0_12, h0_13, h0_14, h0_15, h0_16, h0_17, h0_18, h0_19, h0_20, h0_21, h0_22, h0_23, h0_24, h0_25, h0_26, h0_27, h0_28, h0_29, h0_30, h0_31, h0_32, h0_33, h0_34, h0_35, h0_36, h0_37, h0_38, h0_39, h0_40, h0_41, h0_42, h0_43, h0_44, h0_45, h0_46, h0_47, h0_48, h0_49, h0_50, h0_51, h0_52, h0_53, h0_54, h0_55, h0_56, h0_57, h0_58, h0_59, h0_60, h0_61, h0_62, h0_63, h0_64, h0_65, h0_66, h0_67, h0_68, h0_69])), (h1, .inl (ch1, 700, .inl (upd f_105 (7 : Int32).toNatClampNeg x_118)))] H_119 := hP
  have hD : va_D A [(h0, .inr (12, [.ref h1, .int 0, .int 0, h0_3, h0_4, h0_5, h0_6, h0_7, h0_8, h0_9, h0_10, h0_11, h0_12, h0_13, h0_14, h0_15, h0_16, h0_17, h0_18, h0_19, h0_20, h0_21, h0_22, h0_23, h0_24, h0_25, h0_26, h0_27, h0_28, h0_29, h0_30, h0_31, h0_32, h0_33, h0_34, h0_35, h0_36, h0_37, h0_38, h0_39, h0_40, h0_41, h0_42, h0_43, h0_44, h0_45, h0_46, h0_47, h0_48, h0_49, h0_50, h0_51, h0_52, h0_53, h0_54, h0_55, h0_56, h0_57, h0_58, h0_59, h0_60, h0_61, h0_62, h0_63, h0_64, h0_65, h0_66, h0_67, h0_68, h0_69])), (h1, .inl (ch1, 700, .inl (upd f_105 (7 : Int32).toNatClampNeg x_118)))] := hD
  generalize (upd f_105 (7 : Int32).toNatClampNeg x_118) = f_120 at hP hD
  refine lv_iinc (v := 8) (lv' := [(6, .int 8), (7, .int p2), (0, .ref h0), (1, .int p1), (2, .int p2), (3, .int p3), (4, .int p4), (5, .int p5)]) hx hb dX12_feed_107 hl (k := 1) rfl (by decide) (by decide) rfl (fun ls hl => ?_)
  refine lv_goto (tgt := 23) hx hb dX12_feed_110 (by decide) ?_
  refine lv_iload hx hb dX12_feed_23 (lv_at hl 0 rfl) ?_
  refine lv_bipush (v := 20) hx hb dX12_feed_25 (by decide) ?_
  refine lv_icmp_ge (tgt := 113) hx hb dX12_feed_27 (by decide) (fun c_121 => absurd c_121 (by decide)) (fun _ => ?_)
  refine lv_iload hx hb dX12_feed_30 (lv_at hl 0 rfl) ?_
  refine lv_iconst (v := 4) hx hb dX12_feed_32 (by decide) ?_
  refine lv_icmp_ge (tgt := 40) hx hb dX12_feed_33 (by decide) (fun _ => ?_) (fun c_122 => absurd (by decide) c_122)
  refine lv_iload hx hb dX12_feed_40 (lv_at hl 0 rfl) ?_
  refine lv_bipush (v := 8) hx hb dX12_feed_42 (by decide) ?_
  refine lv_icmp_ge (tgt := 51) hx hb dX12_feed_44 (by decide) (fun _ => ?_) (fun c_123 => absurd (by decide) c_123)
  refine lv_iload hx hb dX12_feed_51 (lv_at hl 0 rfl) ?_
  refine lv_bipush (v := 12) hx hb dX12_feed_53 (by decide) ?_
  refine lv_icmp_ge (tgt := 62) hx hb dX12_feed_55 (by decide) (fun c_124 => absurd c_124 (by decide)) (fun _ => ?_)
  refine lv_iload_n hx hb dX12_feed_58 rfl (lv_at hl 5 rfl) ?_
  refine lv_goto (tgt := 76) hx hb dX12_feed_59 (by decide) ?_
  refine lv_istore (lv' := [(7, .int p3), (6, .int 8), (0, .ref h0), (1, .int p1), (2, .int p2), (3, .int p3), (4, .int p4), (5, .int p5)]) hx hb dX12_feed_76 hl (by decide) rfl (fun ls hl => ?_)
  refine lv_aload_n hx hb dX12_feed_78 rfl (lv_at hl 2 rfl) ?_
  refine va_get (D := (dC, dI)) (ci := 12) (v := .ref h1) (C := RX12) (T := TX12) (N := 70) hx hb hts hiX12 hown hK hP 0 rfl rfl 0 (by decide) w__fieldLink_RX12_7_ShellHeapModel_tape_I_ (fun _ h9 => h9) rfl dX12_feed_79 ?_
  refine lv_aload_n hx hb dX12_feed_82 rfl (lv_at hl 2 rfl) ?_
  refine va_get (D := (dC, dI)) (ci := 12) (v := .int 0) (C := RX12) (T := TX12) (N := 70) hx hb hts hiX12 hown hK hP 0 rfl rfl 1 (by decide) w__fieldLink_RX12_148_ShellHeapModel_tapeSize_I_ (fun _ h9 => h9) rfl dX12_feed_83 ?_
  refine lv_iload hx hb dX12_feed_86 (lv_at hl 1 rfl) ?_
  refine lv_iadd hx hb dX12_feed_88 ?_
  refine lv_topi (fun x_125 e_126 => ?_)
  obtain rfl : x_125 = 8 := e_126.trans (by decide)
  refine lv_iload hx hb dX12_feed_89 (lv_at hl 0 rfl) ?_
  refine lv_bipush (v := 24) hx hb dX12_feed_91 (by decide) ?_
  refine lv_bipush (v := 8) hx hb dX12_feed_93 (by decide) ?_
  refine lv_iload hx hb dX12_feed_95 (lv_at hl 1 rfl) ?_
  refine lv_iconst (v := 4) hx hb dX12_feed_97 (by decide) ?_
  refine lv_irem hx hb dX12_feed_98 (by decide) ?_
  refine lv_topi (fun x_127 e_128 => ?_)
  obtain rfl : x_127 = 0 := e_128.trans (by decide)
  refine lv_imul hx hb dX12_feed_99 ?_
  refine lv_topi (fun x_129 e_130 => ?_)
  obtain rfl : x_129 = 0 := e_130.trans (by decide)
  refine lv_isub hx hb dX12_feed_100 ?_
  refine lv_topi (fun x_131 e_132 => ?_)
  obtain rfl : x_131 = 24 := e_132.trans (by decide)
  refine lv_ishr hx hb dX12_feed_101 ?_
  refine lv_topi (fun x_133 _ => ?_)
  refine lv_sipush (v := 255) hx hb dX12_feed_102 (by decide) ?_
  refine lv_iand hx hb dX12_feed_105 ?_
  refine lv_topi (fun x_134 _ => ?_)
  refine va_iast hx hb hK hP hD hS 1 0 rfl rfl (by unfold vp_in; decide) dX12_feed_106 (fun H_135 locs hP hD hS => ?_)
  have hP : va_P (dC, dI) vwCl [(h0, .inr (12, [.ref h1, .int 0, .int 0, h0_3, h0_4, h0_5, h0_6, h0_7, h0_8, h0_9, h0_10, h0_11, h0_12, h0_13, h0_14, h0_15, h0_16, h0_17, h0_18, h0_19, h0_20, h0_21, h0_22, h0_23, h0_24, h0_25, h0_26, h0_27, h0_28, h0_29, h0_30, h0_31, h0_32, h0_33, h0_34, h0_35, h0_36, h0_37, h0_38, h0_39, h0_40, h0_41, h0_42, h0_43, h0_44, h0_45, h0_46, h0_47, h0_48, h0_49, h0_50, h0_51, h0_52, h0_53, h0_54, h0_55, h0_56, h0_57, h0_58, h0_59, h0_60, h0_61, h0_62, h0_63, h0_64, h0_65, h0_66, h0_67, h0_68, h0_69])), (h1, .inl (ch1, 700, .inl (upd f_120 (8 : Int32).toNatClampNeg x_134)))] H_135 := hP
  have hD : va_D A [(h0, .inr (12, [.ref h1, .int 0, .int 0, h0_3, h0_4, h0_5, h0_6, h0_7, h0_8, h0_9, h0_10, h0_11, h0_12, h0_13, h0_14, h0_15, h0_16, h0_17, h0_18, h0_19, h0_20, h0_21, h0_22, h0_23, h0_24, h0_25, h0_26, h0_27, h0_28, h0_29, h0_30, h0_31, h0_32, h0_33, h0_34, h0_35, h0_36, h0_37, h0_38, h0_39, h0_40, h0_41, h0_42, h0_43, h0_44, h0_45, h0_46, h0_47, h0_48, h0_49, h0_50, h0_51, h0_52, h0_53, h0_54, h0_55, h0_56, h0_57, h0_58, h0_59, h0_60, h0_61, h0_62, h0_63, h0_64, h0_65, h0_66, h0_67, h0_68, h0_69])), (h1, .inl (ch1, 700, .inl (upd f_120 (8 : Int32).toNatClampNeg x_134)))] := hD
  generalize (upd f_120 (8 : Int32).toNatClampNeg x_134) = f_136 at hP hD
  refine lv_iinc (v := 9) (lv' := [(6, .int 9), (7, .int p3), (0, .ref h0), (1, .int p1), (2, .int p2), (3, .int p3), (4, .int p4), (5, .int p5)]) hx hb dX12_feed_107 hl (k := 1) rfl (by decide) (by decide) rfl (fun ls hl => ?_)
  refine lv_goto (tgt := 23) hx hb dX12_feed_110 (by decide) ?_
  refine lv_iload hx hb dX12_feed_23 (lv_at hl 0 rfl) ?_
  refine lv_bipush (v := 20) hx hb dX12_feed_25 (by decide) ?_
  refine lv_icmp_ge (tgt := 113) hx hb dX12_feed_27 (by decide) (fun c_137 => absurd c_137 (by decide)) (fun _ => ?_)
  refine lv_iload hx hb dX12_feed_30 (lv_at hl 0 rfl) ?_
  refine lv_iconst (v := 4) hx hb dX12_feed_32 (by decide) ?_
  refine lv_icmp_ge (tgt := 40) hx hb dX12_feed_33 (by decide) (fun _ => ?_) (fun c_138 => absurd (by decide) c_138)
  refine lv_iload hx hb dX12_feed_40 (lv_at hl 0 rfl) ?_
  refine lv_bipush (v := 8) hx hb dX12_feed_42 (by decide) ?_
  refine lv_icmp_ge (tgt := 51) hx hb dX12_feed_44 (by decide) (fun _ => ?_) (fun c_139 => absurd (by decide) c_139)
  refine lv_iload hx hb dX12_feed_51 (lv_at hl 0 rfl) ?_
  refine lv_bipush (v := 12) hx hb dX12_feed_53 (by decide) ?_
  refine lv_icmp_ge (tgt := 62) hx hb dX12_feed_55 (by decide) (fun c_140 => absurd c_140 (by decide)) (fun _ => ?_)
  refine lv_iload_n hx hb dX12_feed_58 rfl (lv_at hl 5 rfl) ?_
  refine lv_goto (tgt := 76) hx hb dX12_feed_59 (by decide) ?_
  refine lv_istore (lv' := [(7, .int p3), (6, .int 9), (0, .ref h0), (1, .int p1), (2, .int p2), (3, .int p3), (4, .int p4), (5, .int p5)]) hx hb dX12_feed_76 hl (by decide) rfl (fun ls hl => ?_)
  refine lv_aload_n hx hb dX12_feed_78 rfl (lv_at hl 2 rfl) ?_
  refine va_get (D := (dC, dI)) (ci := 12) (v := .ref h1) (C := RX12) (T := TX12) (N := 70) hx hb hts hiX12 hown hK hP 0 rfl rfl 0 (by decide) w__fieldLink_RX12_7_ShellHeapModel_tape_I_ (fun _ h9 => h9) rfl dX12_feed_79 ?_
  refine lv_aload_n hx hb dX12_feed_82 rfl (lv_at hl 2 rfl) ?_
  refine va_get (D := (dC, dI)) (ci := 12) (v := .int 0) (C := RX12) (T := TX12) (N := 70) hx hb hts hiX12 hown hK hP 0 rfl rfl 1 (by decide) w__fieldLink_RX12_148_ShellHeapModel_tapeSize_I_ (fun _ h9 => h9) rfl dX12_feed_83 ?_
  refine lv_iload hx hb dX12_feed_86 (lv_at hl 1 rfl) ?_
  refine lv_iadd hx hb dX12_feed_88 ?_
  refine lv_topi (fun x_141 e_142 => ?_)
  obtain rfl : x_141 = 9 := e_142.trans (by decide)
  refine lv_iload hx hb dX12_feed_89 (lv_at hl 0 rfl) ?_
  refine lv_bipush (v := 24) hx hb dX12_feed_91 (by decide) ?_
  refine lv_bipush (v := 8) hx hb dX12_feed_93 (by decide) ?_
  refine lv_iload hx hb dX12_feed_95 (lv_at hl 1 rfl) ?_
  refine lv_iconst (v := 4) hx hb dX12_feed_97 (by decide) ?_
  refine lv_irem hx hb dX12_feed_98 (by decide) ?_
  refine lv_topi (fun x_143 e_144 => ?_)
  obtain rfl : x_143 = 1 := e_144.trans (by decide)
  refine lv_imul hx hb dX12_feed_99 ?_
  refine lv_topi (fun x_145 e_146 => ?_)
  obtain rfl : x_145 = 8 := e_146.trans (by decide)
  refine lv_isub hx hb dX12_feed_100 ?_
  refine lv_topi (fun x_147 e_148 => ?_)
  obtain rfl : x_147 = 16 := e_148.trans (by decide)
  refine lv_ishr hx hb dX12_feed_101 ?_
  refine lv_topi (fun x_149 _ => ?_)
  refine lv_sipush (v := 255) hx hb dX12_feed_102 (by decide) ?_
  refine lv_iand hx hb dX12_feed_105 ?_
  refine lv_topi (fun x_150 _ => ?_)
  refine va_iast hx hb hK hP hD hS 1 0 rfl rfl (by unfold vp_in; decide) dX12_feed_106 (fun H_151 locs hP hD hS => ?_)
  have hP : va_P (dC, dI) vwCl [(h0, .inr (12, [.ref h1, .int 0, .int 0, h0_3, h0_4, h0_5, h0_6, h0_7, h0_8, h0_9, h0_10, h0_11, h0_12, h0_13, h0_14, h0_15, h0_16, h0_17, h0_18, h0_19, h0_20, h0_21, h0_22, h0_23, h0_24, h0_25, h0_26, h0_27, h0_28, h0_29, h0_30, h0_31, h0_32, h0_33, h0_34, h0_35, h0_36, h0_37, h0_38, h0_39, h0_40, h0_41, h0_42, h0_43, h0_44, h0_45, h0_46, h0_47, h0_48, h0_49, h0_50, h0_51, h0_52, h0_53, h0_54, h0_55, h0_56, h0_57, h0_58, h0_59, h0_60, h0_61, h0_62, h0_63, h0_64, h0_65, h0_66, h0_67, h0_68, h0_69])), (h1, .inl (ch1, 700, .inl (upd f_136 (9 : Int32).toNatClampNeg x_150)))] H_151 := hP
  have hD : va_D A [(h0, .inr (12, [.ref h1, .int 0, .int 0, h0_3, h0_4, h0_5, h0_6, h0_7, h0_8, h0_9, h0_10, h0_11, h0_12, h0_13, h0_14, h0_15, h0_16, h0_17, h0_18, h0_19, h0_20, h0_21, h0_22, h0_23, h0_24, h0_25, h0_26, h0_27, h0_28, h0_29, h0_30, h0_31, h0_32, h0_33, h0_34, h0_35, h0_36, h0_37, h0_38, h0_39, h0_40, h0_41, h0_42, h0_43, h0_44, h0_45, h0_46, h0_47, h0_48, h0_49, h0_50, h0_51, h0_52, h0_53, h0_54, h0_55, h0_56, h0_57, h0_58, h0_59, h0_60, h0_61, h0_62, h0_63, h0_64, h0_65, h0_66, h0_67, h0_68, h0_69])), (h1, .inl (ch1, 700, .inl (upd f_136 (9 : Int32).toNatClampNeg x_150)))] := hD
  generalize (upd f_136 (9 : Int32).toNatClampNeg x_150) = f_152 at hP hD
  refine lv_iinc (v := 10) (lv' := [(6, .int 10), (7, .int p3), (0, .ref h0), (1, .int p1), (2, .int p2), (3, .int p3), (4, .int p4), (5, .int p5)]) hx hb dX12_feed_107 hl (k := 1) rfl (by decide) (by decide) rfl (fun ls hl => ?_)
  refine lv_goto (tgt := 23) hx hb dX12_feed_110 (by decide) ?_
  refine lv_iload hx hb dX12_feed_23 (lv_at hl 0 rfl) ?_
  refine lv_bipush (v := 20) hx hb dX12_feed_25 (by decide) ?_
  refine lv_icmp_ge (tgt := 113) hx hb dX12_feed_27 (by decide) (fun c_153 => absurd c_153 (by decide)) (fun _ => ?_)
  refine lv_iload hx hb dX12_feed_30 (lv_at hl 0 rfl) ?_
  refine lv_iconst (v := 4) hx hb dX12_feed_32 (by decide) ?_
  refine lv_icmp_ge (tgt := 40) hx hb dX12_feed_33 (by decide) (fun _ => ?_) (fun c_154 => absurd (by decide) c_154)
  refine lv_iload hx hb dX12_feed_40 (lv_at hl 0 rfl) ?_
  refine lv_bipush (v := 8) hx hb dX12_feed_42 (by decide) ?_
  refine lv_icmp_ge (tgt := 51) hx hb dX12_feed_44 (by decide) (fun _ => ?_) (fun c_155 => absurd (by decide) c_155)
  refine lv_iload hx hb dX12_feed_51 (lv_at hl 0 rfl) ?_
  refine lv_bipush (v := 12) hx hb dX12_feed_53 (by decide) ?_
  refine lv_icmp_ge (tgt := 62) hx hb dX12_feed_55 (by decide) (fun c_156 => absurd c_156 (by decide)) (fun _ => ?_)
  refine lv_iload_n hx hb dX12_feed_58 rfl (lv_at hl 5 rfl) ?_
  refine lv_goto (tgt := 76) hx hb dX12_feed_59 (by decide) ?_
  refine lv_istore (lv' := [(7, .int p3), (6, .int 10), (0, .ref h0), (1, .int p1), (2, .int p2), (3, .int p3), (4, .int p4), (5, .int p5)]) hx hb dX12_feed_76 hl (by decide) rfl (fun ls hl => ?_)
  refine lv_aload_n hx hb dX12_feed_78 rfl (lv_at hl 2 rfl) ?_
  refine va_get (D := (dC, dI)) (ci := 12) (v := .ref h1) (C := RX12) (T := TX12) (N := 70) hx hb hts hiX12 hown hK hP 0 rfl rfl 0 (by decide) w__fieldLink_RX12_7_ShellHeapModel_tape_I_ (fun _ h9 => h9) rfl dX12_feed_79 ?_
  refine lv_aload_n hx hb dX12_feed_82 rfl (lv_at hl 2 rfl) ?_
  refine va_get (D := (dC, dI)) (ci := 12) (v := .int 0) (C := RX12) (T := TX12) (N := 70) hx hb hts hiX12 hown hK hP 0 rfl rfl 1 (by decide) w__fieldLink_RX12_148_ShellHeapModel_tapeSize_I_ (fun _ h9 => h9) rfl dX12_feed_83 ?_
  refine lv_iload hx hb dX12_feed_86 (lv_at hl 1 rfl) ?_
  refine lv_iadd hx hb dX12_feed_88 ?_
  refine lv_topi (fun x_157 e_158 => ?_)
  obtain rfl : x_157 = 10 := e_158.trans (by decide)
  refine lv_iload hx hb dX12_feed_89 (lv_at hl 0 rfl) ?_
  refine lv_bipush (v := 24) hx hb dX12_feed_91 (by decide) ?_
  refine lv_bipush (v := 8) hx hb dX12_feed_93 (by decide) ?_
  refine lv_iload hx hb dX12_feed_95 (lv_at hl 1 rfl) ?_
  refine lv_iconst (v := 4) hx hb dX12_feed_97 (by decide) ?_
  refine lv_irem hx hb dX12_feed_98 (by decide) ?_
  refine lv_topi (fun x_159 e_160 => ?_)
  obtain rfl : x_159 = 2 := e_160.trans (by decide)
  refine lv_imul hx hb dX12_feed_99 ?_
  refine lv_topi (fun x_161 e_162 => ?_)
  obtain rfl : x_161 = 16 := e_162.trans (by decide)
  refine lv_isub hx hb dX12_feed_100 ?_
  refine lv_topi (fun x_163 e_164 => ?_)
  obtain rfl : x_163 = 8 := e_164.trans (by decide)
  refine lv_ishr hx hb dX12_feed_101 ?_
  refine lv_topi (fun x_165 _ => ?_)
  refine lv_sipush (v := 255) hx hb dX12_feed_102 (by decide) ?_
  refine lv_iand hx hb dX12_feed_105 ?_
  refine lv_topi (fun x_166 _ => ?_)
  refine va_iast hx hb hK hP hD hS 1 0 rfl rfl (by unfold vp_in; decide) dX12_feed_106 (fun H_167 locs hP hD hS => ?_)
  have hP : va_P (dC, dI) vwCl [(h0, .inr (12, [.ref h1, .int 0, .int 0, h0_3, h0_4, h0_5, h0_6, h0_7, h0_8, h0_9, h0_10, h0_11, h0_12, h0_13, h0_14, h0_15, h0_16, h0_17, h0_18, h0_19, h0_20, h0_21, h0_22, h0_23, h0_24, h0_25, h0_26, h0_27, h0_28, h0_29, h0_30, h0_31, h0_32, h0_33, h0_34, h0_35, h0_36, h0_37, h0_38, h0_39, h0_40, h0_41, h0_42, h0_43, h0_44, h0_45, h0_46, h0_47, h0_48, h0_49, h0_50, h0_51, h0_52, h0_53, h0_54, h0_55, h0_56, h0_57, h0_58, h0_59, h0_60, h0_61, h0_62, h0_63, h0_64, h0_65, h0_66, h0_67, h0_68, h0_69])), (h1, .inl (ch1, 700, .inl (upd f_152 (10 : Int32).toNatClampNeg x_166)))] H_167 := hP
  have hD : va_D A [(h0, .inr (12, [.ref h1, .int 0, .int 0, h0_3, h0_4, h0_5, h0_6, h0_7, h0_8, h0_9, h0_10, h0_11, h0_12, h0_13, h0_14, h0_15, h0_16, h0_17, h0_18, h0_19, h0_20, h0_21, h0_22, h0_23, h0_24, h0_25, h0_26, h0_27, h0_28, h0_29, h0_30, h0_31, h0_32, h0_33, h0_34, h0_35, h0_36, h0_37, h0_38, h0_39, h0_40, h0_41, h0_42, h0_43, h0_44, h0_45, h0_46, h0_47, h0_48, h0_49, h0_50, h0_51, h0_52, h0_53, h0_54, h0_55, h0_56, h0_57, h0_58, h0_59, h0_60, h0_61, h0_62, h0_63, h0_64, h0_65, h0_66, h0_67, h0_68, h0_69])), (h1, .inl (ch1, 700, .inl (upd f_152 (10 : Int32).toNatClampNeg x_166)))] := hD
  generalize (upd f_152 (10 : Int32).toNatClampNeg x_166) = f_168 at hP hD
  refine lv_iinc (v := 11) (lv' := [(6, .int 11), (7, .int p3), (0, .ref h0), (1, .int p1), (2, .int p2), (3, .int p3), (4, .int p4), (5, .int p5)]) hx hb dX12_feed_107 hl (k := 1) rfl (by decide) (by decide) rfl (fun ls hl => ?_)
  refine lv_goto (tgt := 23) hx hb dX12_feed_110 (by decide) ?_
  refine lv_iload hx hb dX12_feed_23 (lv_at hl 0 rfl) ?_
  refine lv_bipush (v := 20) hx hb dX12_feed_25 (by decide) ?_
  refine lv_icmp_ge (tgt := 113) hx hb dX12_feed_27 (by decide) (fun c_169 => absurd c_169 (by decide)) (fun _ => ?_)
  refine lv_iload hx hb dX12_feed_30 (lv_at hl 0 rfl) ?_
  refine lv_iconst (v := 4) hx hb dX12_feed_32 (by decide) ?_
  refine lv_icmp_ge (tgt := 40) hx hb dX12_feed_33 (by decide) (fun _ => ?_) (fun c_170 => absurd (by decide) c_170)
  refine lv_iload hx hb dX12_feed_40 (lv_at hl 0 rfl) ?_
  refine lv_bipush (v := 8) hx hb dX12_feed_42 (by decide) ?_
  refine lv_icmp_ge (tgt := 51) hx hb dX12_feed_44 (by decide) (fun _ => ?_) (fun c_171 => absurd (by decide) c_171)
  refine lv_iload hx hb dX12_feed_51 (lv_at hl 0 rfl) ?_
  refine lv_bipush (v := 12) hx hb dX12_feed_53 (by decide) ?_
  refine lv_icmp_ge (tgt := 62) hx hb dX12_feed_55 (by decide) (fun c_172 => absurd c_172 (by decide)) (fun _ => ?_)
  refine lv_iload_n hx hb dX12_feed_58 rfl (lv_at hl 5 rfl) ?_
  refine lv_goto (tgt := 76) hx hb dX12_feed_59 (by decide) ?_
  refine lv_istore (lv' := [(7, .int p3), (6, .int 11), (0, .ref h0), (1, .int p1), (2, .int p2), (3, .int p3), (4, .int p4), (5, .int p5)]) hx hb dX12_feed_76 hl (by decide) rfl (fun ls hl => ?_)
  refine lv_aload_n hx hb dX12_feed_78 rfl (lv_at hl 2 rfl) ?_
  refine va_get (D := (dC, dI)) (ci := 12) (v := .ref h1) (C := RX12) (T := TX12) (N := 70) hx hb hts hiX12 hown hK hP 0 rfl rfl 0 (by decide) w__fieldLink_RX12_7_ShellHeapModel_tape_I_ (fun _ h9 => h9) rfl dX12_feed_79 ?_
  refine lv_aload_n hx hb dX12_feed_82 rfl (lv_at hl 2 rfl) ?_
  refine va_get (D := (dC, dI)) (ci := 12) (v := .int 0) (C := RX12) (T := TX12) (N := 70) hx hb hts hiX12 hown hK hP 0 rfl rfl 1 (by decide) w__fieldLink_RX12_148_ShellHeapModel_tapeSize_I_ (fun _ h9 => h9) rfl dX12_feed_83 ?_
  refine lv_iload hx hb dX12_feed_86 (lv_at hl 1 rfl) ?_
  refine lv_iadd hx hb dX12_feed_88 ?_
  refine lv_topi (fun x_173 e_174 => ?_)
  obtain rfl : x_173 = 11 := e_174.trans (by decide)
  refine lv_iload hx hb dX12_feed_89 (lv_at hl 0 rfl) ?_
  refine lv_bipush (v := 24) hx hb dX12_feed_91 (by decide) ?_
  refine lv_bipush (v := 8) hx hb dX12_feed_93 (by decide) ?_
  refine lv_iload hx hb dX12_feed_95 (lv_at hl 1 rfl) ?_
  refine lv_iconst (v := 4) hx hb dX12_feed_97 (by decide) ?_
  refine lv_irem hx hb dX12_feed_98 (by decide) ?_
  refine lv_topi (fun x_175 e_176 => ?_)
  obtain rfl : x_175 = 3 := e_176.trans (by decide)
  refine lv_imul hx hb dX12_feed_99 ?_
  refine lv_topi (fun x_177 e_178 => ?_)
  obtain rfl : x_177 = 24 := e_178.trans (by decide)
  refine lv_isub hx hb dX12_feed_100 ?_
  refine lv_topi (fun x_179 e_180 => ?_)
  obtain rfl : x_179 = 0 := e_180.trans (by decide)
  refine lv_ishr hx hb dX12_feed_101 ?_
  refine lv_topi (fun x_181 _ => ?_)
  refine lv_sipush (v := 255) hx hb dX12_feed_102 (by decide) ?_
  refine lv_iand hx hb dX12_feed_105 ?_
  refine lv_topi (fun x_182 _ => ?_)
  refine va_iast hx hb hK hP hD hS 1 0 rfl rfl (by unfold vp_in; decide) dX12_feed_106 (fun H_183 locs hP hD hS => ?_)
  have hP : va_P (dC, dI) vwCl [(h0, .inr (12, [.ref h1, .int 0, .int 0, h0_3, h0_4, h0_5, h0_6, h0_7, h0_8, h0_9, h0_10, h0_11, h0_12, h0_13, h0_14, h0_15, h0_16, h0_17, h0_18, h0_19, h0_20, h0_21, h0_22, h0_23, h0_24, h0_25, h0_26, h0_27, h0_28, h0_29, h0_30, h0_31, h0_32, h0_33, h0_34, h0_35, h0_36, h0_37, h0_38, h0_39, h0_40, h0_41, h0_42, h0_43, h0_44, h0_45, h0_46, h0_47, h0_48, h0_49, h0_50, h0_51, h0_52, h0_53, h0_54, h0_55, h0_56, h0_57, h0_58, h0_59, h0_60, h0_61, h0_62, h0_63, h0_64, h0_65, h0_66, h0_67, h0_68, h0_69])), (h1, .inl (ch1, 700, .inl (upd f_168 (11 : Int32).toNatClampNeg x_182)))] H_183 := hP
  have hD : va_D A [(h0, .inr (12, [.ref h1, .int 0, .int 0, h0_3, h0_4, h0_5, h0_6, h0_7, h0_8, h0_9, h0_10, h0_11, h0_12, h0_13, h0_14, h0_15, h0_16, h0_17, h0_18, h0_19, h0_20, h0_21, h0_22, h0_23, h0_24, h0_25, h0_26, h0_27, h0_28, h0_29, h0_30, h0_31, h0_32, h0_33, h0_34, h0_35, h0_36, h0_37, h0_38, h0_39, h0_40, h0_41, h0_42, h0_43, h0_44, h0_45, h0_46, h0_47, h0_48, h0_49, h0_50, h0_51, h0_52, h0_53, h0_54, h0_55, h0_56, h0_57, h0_58, h0_59, h0_60, h0_61, h0_62, h0_63, h0_64, h0_65, h0_66, h0_67, h0_68, h0_69])), (h1, .inl (ch1, 700, .inl (upd f_168 (11 : Int32).toNatClampNeg x_182)))] := hD
  generalize (upd f_168 (11 : Int32).toNatClampNeg x_182) = f_184 at hP hD
  refine lv_iinc (v := 12) (lv' := [(6, .int 12), (7, .int p3), (0, .ref h0), (1, .int p1), (2, .int p2), (3, .int p3), (4, .int p4), (5, .int p5)]) hx hb dX12_feed_107 hl (k := 1) rfl (by decide) (by decide) rfl (fun ls hl => ?_)
  refine lv_goto (tgt := 23) hx hb dX12_feed_110 (by decide) ?_
  refine lv_iload hx hb dX12_feed_23 (lv_at hl 0 rfl) ?_
  refine lv_bipush (v := 20) hx hb dX12_feed_25 (by decide) ?_
  refine lv_icmp_ge (tgt := 113) hx hb dX12_feed_27 (by decide) (fun c_185 => absurd c_185 (by decide)) (fun _ => ?_)
  refine lv_iload hx hb dX12_feed_30 (lv_at hl 0 rfl) ?_
  refine lv_iconst (v := 4) hx hb dX12_feed_32 (by decide) ?_
  refine lv_icmp_ge (tgt := 40) hx hb dX12_feed_33 (by decide) (fun _ => ?_) (fun c_186 => absurd (by decide) c_186)
  refine lv_iload hx hb dX12_feed_40 (lv_at hl 0 rfl) ?_
  refine lv_bipush (v := 8) hx hb dX12_feed_42 (by decide) ?_
  refine lv_icmp_ge (tgt := 51) hx hb dX12_feed_44 (by decide) (fun _ => ?_) (fun c_187 => absurd (by decide) c_187)
  refine lv_iload hx hb dX12_feed_51 (lv_at hl 0 rfl) ?_
  refine lv_bipush (v := 12) hx hb dX12_feed_53 (by decide) ?_
  refine lv_icmp_ge (tgt := 62) hx hb dX12_feed_55 (by decide) (fun _ => ?_) (fun c_188 => absurd (by decide) c_188)
  refine lv_iload hx hb dX12_feed_62 (lv_at hl 0 rfl) ?_
  refine lv_bipush (v := 16) hx hb dX12_feed_64 (by decide) ?_
  refine lv_icmp_ge (tgt := 74) hx hb dX12_feed_66 (by decide) (fun c_189 => absurd c_189 (by decide)) (fun _ => ?_)
  refine lv_iload hx hb dX12_feed_69 (lv_at hl 6 rfl) ?_
  refine lv_goto (tgt := 76) hx hb dX12_feed_71 (by decide) ?_
  refine lv_istore (lv' := [(7, .int p4), (6, .int 12), (0, .ref h0), (1, .int p1), (2, .int p2), (3, .int p3), (4, .int p4), (5, .int p5)]) hx hb dX12_feed_76 hl (by decide) rfl (fun ls hl => ?_)
  refine lv_aload_n hx hb dX12_feed_78 rfl (lv_at hl 2 rfl) ?_
  refine va_get (D := (dC, dI)) (ci := 12) (v := .ref h1) (C := RX12) (T := TX12) (N := 70) hx hb hts hiX12 hown hK hP 0 rfl rfl 0 (by decide) w__fieldLink_RX12_7_ShellHeapModel_tape_I_ (fun _ h9 => h9) rfl dX12_feed_79 ?_
  refine lv_aload_n hx hb dX12_feed_82 rfl (lv_at hl 2 rfl) ?_
  refine va_get (D := (dC, dI)) (ci := 12) (v := .int 0) (C := RX12) (T := TX12) (N := 70) hx hb hts hiX12 hown hK hP 0 rfl rfl 1 (by decide) w__fieldLink_RX12_148_ShellHeapModel_tapeSize_I_ (fun _ h9 => h9) rfl dX12_feed_83 ?_
  refine lv_iload hx hb dX12_feed_86 (lv_at hl 1 rfl) ?_
  refine lv_iadd hx hb dX12_feed_88 ?_
  refine lv_topi (fun x_190 e_191 => ?_)
  obtain rfl : x_190 = 12 := e_191.trans (by decide)
  refine lv_iload hx hb dX12_feed_89 (lv_at hl 0 rfl) ?_
  refine lv_bipush (v := 24) hx hb dX12_feed_91 (by decide) ?_
  refine lv_bipush (v := 8) hx hb dX12_feed_93 (by decide) ?_
  refine lv_iload hx hb dX12_feed_95 (lv_at hl 1 rfl) ?_
  refine lv_iconst (v := 4) hx hb dX12_feed_97 (by decide) ?_
  refine lv_irem hx hb dX12_feed_98 (by decide) ?_
  refine lv_topi (fun x_192 e_193 => ?_)
  obtain rfl : x_192 = 0 := e_193.trans (by decide)
  refine lv_imul hx hb dX12_feed_99 ?_
  refine lv_topi (fun x_194 e_195 => ?_)
  obtain rfl : x_194 = 0 := e_195.trans (by decide)
  refine lv_isub hx hb dX12_feed_100 ?_
  refine lv_topi (fun x_196 e_197 => ?_)
  obtain rfl : x_196 = 24 := e_197.trans (by decide)
  refine lv_ishr hx hb dX12_feed_101 ?_
  refine lv_topi (fun x_198 _ => ?_)
  refine lv_sipush (v := 255) hx hb dX12_feed_102 (by decide) ?_
  refine lv_iand hx hb dX12_feed_105 ?_
  refine lv_topi (fun x_199 _ => ?_)
  refine va_iast hx hb hK hP hD hS 1 0 rfl rfl (by unfold vp_in; decide) dX12_feed_106 (fun H_200 locs hP hD hS => ?_)
  have hP : va_P (dC, dI) vwCl [(h0, .inr (12, [.ref h1, .int 0, .int 0, h0_3, h0_4, h0_5, h0_6, h0_7, h0_8, h0_9, h0_10, h0_11, h0_12, h0_13, h0_14, h0_15, h0_16, h0_17, h0_18, h0_19, h0_20, h0_21, h0_22, h0_23, h0_24, h0_25, h0_26, h0_27, h0_28, h0_29, h0_30, h0_31, h0_32, h0_33, h0_34, h0_35, h0_36, h0_37, h0_38, h0_39, h0_40, h0_41, h0_42, h0_43, h0_44, h0_45, h0_46, h0_47, h0_48, h0_49, h0_50, h0_51, h0_52, h0_53, h0_54, h0_55, h0_56, h0_57, h0_58, h0_59, h0_60, h0_61, h0_62, h0_63, h0_64, h0_65, h0_66, h0_67, h0_68, h0_69])), (h1, .inl (ch1, 700, .inl (upd f_184 (12 : Int32).toNatClampNeg x_199)))] H_200 := hP
  have hD : va_D A [(h0, .inr (12, [.ref h1, .int 0, .int 0, h0_3, h0_4, h0_5, h0_6, h0_7, h0_8, h0_9, h0_10, h0_11, h0_12, h0_13, h0_14, h0_15, h0_16, h0_17, h0_18, h0_19, h0_20, h0_21, h0_22, h0_23, h0_24, h0_25, h0_26, h0_27, h0_28, h0_29, h0_30, h0_31, h0_32, h0_33, h0_34, h0_35, h0_36, h0_37, h0_38, h0_39, h0_40, h0_41, h0_42, h0_43, h0_44, h0_45, h0_46, h0_47, h0_48, h0_49, h0_50, h0_51, h0_52, h0_53, h0_54, h0_55, h0_56, h0_57, h0_58, h0_59, h0_60, h0_61, h0_62, h0_63, h0_64, h0_65, h0_66, h0_67, h0_68, h0_69])), (h1, .inl (ch1, 700, .inl (upd f_184 (12 : Int32).toNatClampNeg x_199)))] := hD
  generalize (upd f_184 (12 : Int32).toNatClampNeg x_199) = f_201 at hP hD
  refine lv_iinc (v := 13) (lv' := [(6, .int 13), (7, .int p4), (0, .ref h0), (1, .int p1), (2, .int p2), (3, .int p3), (4, .int p4), (5, .int p5)]) hx hb dX12_feed_107 hl (k := 1) rfl (by decide) (by decide) rfl (fun ls hl => ?_)
  refine lv_goto (tgt := 23) hx hb dX12_feed_110 (by decide) ?_
  refine lv_iload hx hb dX12_feed_23 (lv_at hl 0 rfl) ?_
  refine lv_bipush (v := 20) hx hb dX12_feed_25 (by decide) ?_
  refine lv_icmp_ge (tgt := 113) hx hb dX12_feed_27 (by decide) (fun c_202 => absurd c_202 (by decide)) (fun _ => ?_)
  refine lv_iload hx hb dX12_feed_30 (lv_at hl 0 rfl) ?_
  refine lv_iconst (v := 4) hx hb dX12_feed_32 (by decide) ?_
  refine lv_icmp_ge (tgt := 40) hx hb dX12_feed_33 (by decide) (fun _ => ?_) (fun c_203 => absurd (by decide) c_203)
  refine lv_iload hx hb dX12_feed_40 (lv_at hl 0 rfl) ?_
  refine lv_bipush (v := 8) hx hb dX12_feed_42 (by decide) ?_
  refine lv_icmp_ge (tgt := 51) hx hb dX12_feed_44 (by decide) (fun _ => ?_) (fun c_204 => absurd (by decide) c_204)
  refine lv_iload hx hb dX12_feed_51 (lv_at hl 0 rfl) ?_
  refine lv_bipush (v := 12) hx hb dX12_feed_53 (by decide) ?_
  refine lv_icmp_ge (tgt := 62) hx hb dX12_feed_55 (by decide) (fun _ => ?_) (fun c_205 => absurd (by decide) c_205)
  refine lv_iload hx hb dX12_feed_62 (lv_at hl 0 rfl) ?_
  refine lv_bipush (v := 16) hx hb dX12_feed_64 (by decide) ?_
  refine lv_icmp_ge (tgt := 74) hx hb dX12_feed_66 (by decide) (fun c_206 => absurd c_206 (by decide)) (fun _ => ?_)
  refine lv_iload hx hb dX12_feed_69 (lv_at hl 6 rfl) ?_
  refine lv_goto (tgt := 76) hx hb dX12_feed_71 (by decide) ?_
  refine lv_istore (lv' := [(7, .int p4), (6, .int 13), (0, .ref h0), (1, .int p1), (2, .int p2), (3, .int p3), (4, .int p4), (5, .int p5)]) hx hb dX12_feed_76 hl (by decide) rfl (fun ls hl => ?_)
  refine lv_aload_n hx hb dX12_feed_78 rfl (lv_at hl 2 rfl) ?_
  refine va_get (D := (dC, dI)) (ci := 12) (v := .ref h1) (C := RX12) (T := TX12) (N := 70) hx hb hts hiX12 hown hK hP 0 rfl rfl 0 (by decide) w__fieldLink_RX12_7_ShellHeapModel_tape_I_ (fun _ h9 => h9) rfl dX12_feed_79 ?_
  refine lv_aload_n hx hb dX12_feed_82 rfl (lv_at hl 2 rfl) ?_
  refine va_get (D := (dC, dI)) (ci := 12) (v := .int 0) (C := RX12) (T := TX12) (N := 70) hx hb hts hiX12 hown hK hP 0 rfl rfl 1 (by decide) w__fieldLink_RX12_148_ShellHeapModel_tapeSize_I_ (fun _ h9 => h9) rfl dX12_feed_83 ?_
  refine lv_iload hx hb dX12_feed_86 (lv_at hl 1 rfl) ?_
  refine lv_iadd hx hb dX12_feed_88 ?_
  refine lv_topi (fun x_207 e_208 => ?_)
  obtain rfl : x_207 = 13 := e_208.trans (by decide)
  refine lv_iload hx hb dX12_feed_89 (lv_at hl 0 rfl) ?_
  refine lv_bipush (v := 24) hx hb dX12_feed_91 (by decide) ?_
  refine lv_bipush (v := 8) hx hb dX12_feed_93 (by decide) ?_
  refine lv_iload hx hb dX12_feed_95 (lv_at hl 1 rfl) ?_
  refine lv_iconst (v := 4) hx hb dX12_feed_97 (by decide) ?_
  refine lv_irem hx hb dX12_feed_98 (by decide) ?_
  refine lv_topi (fun x_209 e_210 => ?_)
  obtain rfl : x_209 = 1 := e_210.trans (by decide)
  refine lv_imul hx hb dX12_feed_99 ?_
  refine lv_topi (fun x_211 e_212 => ?_)
  obtain rfl : x_211 = 8 := e_212.trans (by decide)
  refine lv_isub hx hb dX12_feed_100 ?_
  refine lv_topi (fun x_213 e_214 => ?_)
  obtain rfl : x_213 = 16 := e_214.trans (by decide)
  refine lv_ishr hx hb dX12_feed_101 ?_
  refine lv_topi (fun x_215 _ => ?_)
  refine lv_sipush (v := 255) hx hb dX12_feed_102 (by decide) ?_
  refine lv_iand hx hb dX12_feed_105 ?_
  refine lv_topi (fun x_216 _ => ?_)
  refine va_iast hx hb hK hP hD hS 1 0 rfl rfl (by unfold vp_in; decide) dX12_feed_106 (fun H_217 locs hP hD hS => ?_)
  have hP : va_P (dC, dI) vwCl [(h0, .inr (12, [.ref h1, .int 0, .int 0, h0_3, h0_4, h0_5, h0_6, h0_7, h0_8, h0_9, h0_10, h0_11, h0_12, h0_13, h0_14, h0_15, h0_16, h0_17, h0_18, h0_19, h0_20, h0_21, h0_22, h0_23, h0_24, h0_25, h0_26, h0_27, h0_28, h0_29, h0_30, h0_31, h0_32, h0_33, h0_34, h0_35, h0_36, h0_37, h0_38, h0_39, h0_40, h0_41, h0_42, h0_43, h0_44, h0_45, h0_46, h0_47, h0_48, h0_49, h0_50, h0_51, h0_52, h0_53, h0_54, h0_55, h0_56, h0_57, h0_58, h0_59, h0_60, h0_61, h0_62, h0_63, h0_64, h0_65, h0_66, h0_67, h0_68, h0_69])), (h1, .inl (ch1, 700, .inl (upd f_201 (13 : Int32).toNatClampNeg x_216)))] H_217 := hP
  have hD : va_D A [(h0, .inr (12, [.ref h1, .int 0, .int 0, h0_3, h0_4, h0_5, h0_6, h0_7, h0_8, h0_9, h0_10, h0_11, h0_12, h0_13, h0_14, h0_15, h0_16, h0_17, h0_18, h0_19, h0_20, h0_21, h0_22, h0_23, h0_24, h0_25, h0_26, h0_27, h0_28, h0_29, h0_30, h0_31, h0_32, h0_33, h0_34, h0_35, h0_36, h0_37, h0_38, h0_39, h0_40, h0_41, h0_42, h0_43, h0_44, h0_45, h0_46, h0_47, h0_48, h0_49, h0_50, h0_51, h0_52, h0_53, h0_54, h0_55, h0_56, h0_57, h0_58, h0_59, h0_60, h0_61, h0_62, h0_63, h0_64, h0_65, h0_66, h0_67, h0_68, h0_69])), (h1, .inl (ch1, 700, .inl (upd f_201 (13 : Int32).toNatClampNeg x_216)))] := hD
  generalize (upd f_201 (13 : Int32).toNatClampNeg x_216) = f_218 at hP hD
  refine lv_iinc (v := 14) (lv' := [(6, .int 14), (7, .int p4), (0, .ref h0), (1, .int p1), (2, .int p2), (3, .int p3), (4, .int p4), (5, .int p5)]) hx hb dX12_feed_107 hl (k := 1) rfl (by decide) (by decide) rfl (fun ls hl => ?_)
  refine lv_goto (tgt := 23) hx hb dX12_feed_110 (by decide) ?_
  refine lv_iload hx hb dX12_feed_23 (lv_at hl 0 rfl) ?_
  refine lv_bipush (v := 20) hx hb dX12_feed_25 (by decide) ?_
  refine lv_icmp_ge (tgt := 113) hx hb dX12_feed_27 (by decide) (fun c_219 => absurd c_219 (by decide)) (fun _ => ?_)
  refine lv_iload hx hb dX12_feed_30 (lv_at hl 0 rfl) ?_
  refine lv_iconst (v := 4) hx hb dX12_feed_32 (by decide) ?_
  refine lv_icmp_ge (tgt := 40) hx hb dX12_feed_33 (by decide) (fun _ => ?_) (fun c_220 => absurd (by decide) c_220)
  refine lv_iload hx hb dX12_feed_40 (lv_at hl 0 rfl) ?_
  refine lv_bipush (v := 8) hx hb dX12_feed_42 (by decide) ?_
  refine lv_icmp_ge (tgt := 51) hx hb dX12_feed_44 (by decide) (fun _ => ?_) (fun c_221 => absurd (by decide) c_221)
  refine lv_iload hx hb dX12_feed_51 (lv_at hl 0 rfl) ?_
  refine lv_bipush (v := 12) hx hb dX12_feed_53 (by decide) ?_
  refine lv_icmp_ge (tgt := 62) hx hb dX12_feed_55 (by decide) (fun _ => ?_) (fun c_222 => absurd (by decide) c_222)
  refine lv_iload hx hb dX12_feed_62 (lv_at hl 0 rfl) ?_
  refine lv_bipush (v := 16) hx hb dX12_feed_64 (by decide) ?_
  refine lv_icmp_ge (tgt := 74) hx hb dX12_feed_66 (by decide) (fun c_223 => absurd c_223 (by decide)) (fun _ => ?_)
  refine lv_iload hx hb dX12_feed_69 (lv_at hl 6 rfl) ?_
  refine lv_goto (tgt := 76) hx hb dX12_feed_71 (by decide) ?_
  refine lv_istore (lv' := [(7, .int p4), (6, .int 14), (0, .ref h0), (1, .int p1), (2, .int p2), (3, .int p3), (4, .int p4), (5, .int p5)]) hx hb dX12_feed_76 hl (by decide) rfl (fun ls hl => ?_)
  refine lv_aload_n hx hb dX12_feed_78 rfl (lv_at hl 2 rfl) ?_
  refine va_get (D := (dC, dI)) (ci := 12) (v := .ref h1) (C := RX12) (T := TX12) (N := 70) hx hb hts hiX12 hown hK hP 0 rfl rfl 0 (by decide) w__fieldLink_RX12_7_ShellHeapModel_tape_I_ (fun _ h9 => h9) rfl dX12_feed_79 ?_
  refine lv_aload_n hx hb dX12_feed_82 rfl (lv_at hl 2 rfl) ?_
  refine va_get (D := (dC, dI)) (ci := 12) (v := .int 0) (C := RX12) (T := TX12) (N := 70) hx hb hts hiX12 hown hK hP 0 rfl rfl 1 (by decide) w__fieldLink_RX12_148_ShellHeapModel_tapeSize_I_ (fun _ h9 => h9) rfl dX12_feed_83 ?_
  refine lv_iload hx hb dX12_feed_86 (lv_at hl 1 rfl) ?_
  refine lv_iadd hx hb dX12_feed_88 ?_
  refine lv_topi (fun x_224 e_225 => ?_)
  obtain rfl : x_224 = 14 := e_225.trans (by decide)
  refine lv_iload hx hb dX12_feed_89 (lv_at hl 0 rfl) ?_
  refine lv_bipush (v := 24) hx hb dX12_feed_91 (by decide) ?_
  refine lv_bipush (v := 8) hx hb dX12_feed_93 (by decide) ?_
  refine lv_iload hx hb dX12_feed_95 (lv_at hl 1 rfl) ?_
  refine lv_iconst (v := 4) hx hb dX12_feed_97 (by decide) ?_
  refine lv_irem hx hb dX12_feed_98 (by decide) ?_
  refine lv_topi (fun x_226 e_227 => ?_)
  obtain rfl : x_226 = 2 := e_227.trans (by decide)
  refine lv_imul hx hb dX12_feed_99 ?_
  refine lv_topi (fun x_228 e_229 => ?_)
  obtain rfl : x_228 = 16 := e_229.trans (by decide)
  refine lv_isub hx hb dX12_feed_100 ?_
  refine lv_topi (fun x_230 e_231 => ?_)
  obtain rfl : x_230 = 8 := e_231.trans (by decide)
  refine lv_ishr hx hb dX12_feed_101 ?_
  refine lv_topi (fun x_232 _ => ?_)
  refine lv_sipush (v := 255) hx hb dX12_feed_102 (by decide) ?_
  refine lv_iand hx hb dX12_feed_105 ?_
  refine lv_topi (fun x_233 _ => ?_)
  refine va_iast hx hb hK hP hD hS 1 0 rfl rfl (by unfold vp_in; decide) dX12_feed_106 (fun H_234 locs hP hD hS => ?_)
  have hP : va_P (dC, dI) vwCl [(h0, .inr (12, [.ref h1, .int 0, .int 0, h0_3, h0_4, h0_5, h0_6, h0_7, h0_8, h0_9, h0_10, h0_11, h0_12, h0_13, h0_14, h0_15, h0_16, h0_17, h0_18, h0_19, h0_20, h0_21, h0_22, h0_23, h0_24, h0_25, h0_26, h0_27, h0_28, h0_29, h0_30, h0_31, h0_32, h0_33, h0_34, h0_35, h0_36, h0_37, h0_38, h0_39, h0_40, h0_41, h0_42, h0_43, h0_44, h0_45, h0_46, h0_47, h0_48, h0_49, h0_50, h0_51, h0_52, h0_53, h0_54, h0_55, h0_56, h0_57, h0_58, h0_59, h0_60, h0_61, h0_62, h0_63, h0_64, h0_65, h0_66, h0_67, h0_68, h0_69])), (h1, .inl (ch1, 700, .inl (upd f_218 (14 : Int32).toNatClampNeg x_233)))] H_234 := hP
  have hD : va_D A [(h0, .inr (12, [.ref h1, .int 0, .int 0, h0_3, h0_4, h0_5, h0_6, h0_7, h0_8, h0_9, h0_10, h0_11, h0_12, h0_13, h0_14, h0_15, h0_16, h0_17, h0_18, h0_19, h0_20, h0_21, h0_22, h0_23, h0_24, h0_25, h0_26, h0_27, h0_28, h0_29, h0_30, h0_31, h0_32, h0_33, h0_34, h0_35, h0_36, h0_37, h0_38, h0_39, h0_40, h0_41, h0_42, h0_43, h0_44, h0_45, h0_46, h0_47, h0_48, h0_49, h0_50, h0_51, h0_52, h0_53, h0_54, h0_55, h0_56, h0_57, h0_58, h0_59, h0_60, h0_61, h0_62, h0_63, h0_64, h0_65, h0_66, h0_67, h0_68, h0_69])), (h1, .inl (ch1, 700, .inl (upd f_218 (14 : Int32).toNatClampNeg x_233)))] := hD
  generalize (upd f_218 (14 : Int32).toNatClampNeg x_233) = f_235 at hP hD
  refine lv_iinc (v := 15) (lv' := [(6, .int 15), (7, .int p4), (0, .ref h0), (1, .int p1), (2, .int p2), (3, .int p3), (4, .int p4), (5, .int p5)]) hx hb dX12_feed_107 hl (k := 1) rfl (by decide) (by decide) rfl (fun ls hl => ?_)
  refine lv_goto (tgt := 23) hx hb dX12_feed_110 (by decide) ?_
  refine lv_iload hx hb dX12_feed_23 (lv_at hl 0 rfl) ?_
  refine lv_bipush (v := 20) hx hb dX12_feed_25 (by decide) ?_
  refine lv_icmp_ge (tgt := 113) hx hb dX12_feed_27 (by decide) (fun c_236 => absurd c_236 (by decide)) (fun _ => ?_)
  refine lv_iload hx hb dX12_feed_30 (lv_at hl 0 rfl) ?_
  refine lv_iconst (v := 4) hx hb dX12_feed_32 (by decide) ?_
  refine lv_icmp_ge (tgt := 40) hx hb dX12_feed_33 (by decide) (fun _ => ?_) (fun c_237 => absurd (by decide) c_237)
  refine lv_iload hx hb dX12_feed_40 (lv_at hl 0 rfl) ?_
  refine lv_bipush (v := 8) hx hb dX12_feed_42 (by decide) ?_
  refine lv_icmp_ge (tgt := 51) hx hb dX12_feed_44 (by decide) (fun _ => ?_) (fun c_238 => absurd (by decide) c_238)
  refine lv_iload hx hb dX12_feed_51 (lv_at hl 0 rfl) ?_
  refine lv_bipush (v := 12) hx hb dX12_feed_53 (by decide) ?_
  refine lv_icmp_ge (tgt := 62) hx hb dX12_feed_55 (by decide) (fun _ => ?_) (fun c_239 => absurd (by decide) c_239)
  refine lv_iload hx hb dX12_feed_62 (lv_at hl 0 rfl) ?_
  refine lv_bipush (v := 16) hx hb dX12_feed_64 (by decide) ?_
  refine lv_icmp_ge (tgt := 74) hx hb dX12_feed_66 (by decide) (fun c_240 => absurd c_240 (by decide)) (fun _ => ?_)
  refine lv_iload hx hb dX12_feed_69 (lv_at hl 6 rfl) ?_
  refine lv_goto (tgt := 76) hx hb dX12_feed_71 (by decide) ?_
  refine lv_istore (lv' := [(7, .int p4), (6, .int 15), (0, .ref h0), (1, .int p1), (2, .int p2), (3, .int p3), (4, .int p4), (5, .int p5)]) hx hb dX12_feed_76 hl (by decide) rfl (fun ls hl => ?_)
  refine lv_aload_n hx hb dX12_feed_78 rfl (lv_at hl 2 rfl) ?_
  refine va_get (D := (dC, dI)) (ci := 12) (v := .ref h1) (C := RX12) (T := TX12) (N := 70) hx hb hts hiX12 hown hK hP 0 rfl rfl 0 (by decide) w__fieldLink_RX12_7_ShellHeapModel_tape_I_ (fun _ h9 => h9) rfl dX12_feed_79 ?_
  refine lv_aload_n hx hb dX12_feed_82 rfl (lv_at hl 2 rfl) ?_
  refine va_get (D := (dC, dI)) (ci := 12) (v := .int 0) (C := RX12) (T := TX12) (N := 70) hx hb hts hiX12 hown hK hP 0 rfl rfl 1 (by decide) w__fieldLink_RX12_148_ShellHeapModel_tapeSize_I_ (fun _ h9 => h9) rfl dX12_feed_83 ?_
  refine lv_iload hx hb dX12_feed_86 (lv_at hl 1 rfl) ?_
  refine lv_iadd hx hb dX12_feed_88 ?_
  refine lv_topi (fun x_241 e_242 => ?_)
  obtain rfl : x_241 = 15 := e_242.trans (by decide)
  refine lv_iload hx hb dX12_feed_89 (lv_at hl 0 rfl) ?_
  refine lv_bipush (v := 24) hx hb dX12_feed_91 (by decide) ?_
  refine lv_bipush (v := 8) hx hb dX12_feed_93 (by decide) ?_
  refine lv_iload hx hb dX12_feed_95 (lv_at hl 1 rfl) ?_
  refine lv_iconst (v := 4) hx hb dX12_feed_97 (by decide) ?_
  refine lv_irem hx hb dX12_feed_98 (by decide) ?_
  refine lv_topi (fun x_243 e_244 => ?_)
  obtain rfl : x_243 = 3 := e_244.trans (by decide)
  refine lv_imul hx hb dX12_feed_99 ?_
  refine lv_topi (fun x_245 e_246 => ?_)
  obtain rfl : x_245 = 24 := e_246.trans (by decide)
  refine lv_isub hx hb dX12_feed_100 ?_
  refine lv_topi (fun x_247 e_248 => ?_)
  obtain rfl : x_247 = 0 := e_248.trans (by decide)
  refine lv_ishr hx hb dX12_feed_101 ?_
  refine lv_topi (fun x_249 _ => ?_)
  refine lv_sipush (v := 255) hx hb dX12_feed_102 (by decide) ?_
  refine lv_iand hx hb dX12_feed_105 ?_
  refine lv_topi (fun x_250 _ => ?_)
  refine va_iast hx hb hK hP hD hS 1 0 rfl rfl (by unfold vp_in; decide) dX12_feed_106 (fun H_251 locs hP hD hS => ?_)
  have hP : va_P (dC, dI) vwCl [(h0, .inr (12, [.ref h1, .int 0, .int 0, h0_3, h0_4, h0_5, h0_6, h0_7, h0_8, h0_9, h0_10, h0_11, h0_12, h0_13, h0_14, h0_15, h0_16, h0_17, h0_18, h0_19, h0_20, h0_21, h0_22, h0_23, h0_24, h0_25, h0_26, h0_27, h0_28, h0_29, h0_30, h0_31, h0_32, h0_33, h0_34, h0_35, h0_36, h0_37, h0_38, h0_39, h0_40, h0_41, h0_42, h0_43, h0_44, h0_45, h0_46, h0_47, h0_48, h0_49, h0_50, h0_51, h0_52, h0_53, h0_54, h0_55, h0_56, h0_57, h0_58, h0_59, h0_60, h0_61, h0_62, h0_63, h0_64, h0_65, h0_66, h0_67, h0_68, h0_69])), (h1, .inl (ch1, 700, .inl (upd f_235 (15 : Int32).toNatClampNeg x_250)))] H_251 := hP
  have hD : va_D A [(h0, .inr (12, [.ref h1, .int 0, .int 0, h0_3, h0_4, h0_5, h0_6, h0_7, h0_8, h0_9, h0_10, h0_11, h0_12, h0_13, h0_14, h0_15, h0_16, h0_17, h0_18, h0_19, h0_20, h0_21, h0_22, h0_23, h0_24, h0_25, h0_26, h0_27, h0_28, h0_29, h0_30, h0_31, h0_32, h0_33, h0_34, h0_35, h0_36, h0_37, h0_38, h0_39, h0_40, h0_41, h0_42, h0_43, h0_44, h0_45, h0_46, h0_47, h0_48, h0_49, h0_50, h0_51, h0_52, h0_53, h0_54, h0_55, h0_56, h0_57, h0_58, h0_59, h0_60, h0_61, h0_62, h0_63, h0_64, h0_65, h0_66, h0_67, h0_68, h0_69])), (h1, .inl (ch1, 700, .inl (upd f_235 (15 : Int32).toNatClampNeg x_250)))] := hD
  generalize (upd f_235 (15 : Int32).toNatClampNeg x_250) = f_252 at hP hD
  refine lv_iinc (v := 16) (lv' := [(6, .int 16), (7, .int p4), (0, .ref h0), (1, .int p1), (2, .int p2), (3, .int p3), (4, .int p4), (5, .int p5)]) hx hb dX12_feed_107 hl (k := 1) rfl (by decide) (by decide) rfl (fun ls hl => ?_)
  refine lv_goto (tgt := 23) hx hb dX12_feed_110 (by decide) ?_
  refine lv_iload hx hb dX12_feed_23 (lv_at hl 0 rfl) ?_
  refine lv_bipush (v := 20) hx hb dX12_feed_25 (by decide) ?_
  refine lv_icmp_ge (tgt := 113) hx hb dX12_feed_27 (by decide) (fun c_253 => absurd c_253 (by decide)) (fun _ => ?_)
  refine lv_iload hx hb dX12_feed_30 (lv_at hl 0 rfl) ?_
  refine lv_iconst (v := 4) hx hb dX12_feed_32 (by decide) ?_
  refine lv_icmp_ge (tgt := 40) hx hb dX12_feed_33 (by decide) (fun _ => ?_) (fun c_254 => absurd (by decide) c_254)
  refine lv_iload hx hb dX12_feed_40 (lv_at hl 0 rfl) ?_
  refine lv_bipush (v := 8) hx hb dX12_feed_42 (by decide) ?_
  refine lv_icmp_ge (tgt := 51) hx hb dX12_feed_44 (by decide) (fun _ => ?_) (fun c_255 => absurd (by decide) c_255)
  refine lv_iload hx hb dX12_feed_51 (lv_at hl 0 rfl) ?_
  refine lv_bipush (v := 12) hx hb dX12_feed_53 (by decide) ?_
  refine lv_icmp_ge (tgt := 62) hx hb dX12_feed_55 (by decide) (fun _ => ?_) (fun c_256 => absurd (by decide) c_256)
  refine lv_iload hx hb dX12_feed_62 (lv_at hl 0 rfl) ?_
  refine lv_bipush (v := 16) hx hb dX12_feed_64 (by decide) ?_
  refine lv_icmp_ge (tgt := 74) hx hb dX12_feed_66 (by decide) (fun _ => ?_) (fun c_257 => absurd (by decide) c_257)
  refine lv_iload hx hb dX12_feed_74 (lv_at hl 7 rfl) ?_
  refine lv_istore (lv' := [(7, .int p5), (6, .int 16), (0, .ref h0), (1, .int p1), (2, .int p2), (3, .int p3), (4, .int p4), (5, .int p5)]) hx hb dX12_feed_76 hl (by decide) rfl (fun ls hl => ?_)
  refine lv_aload_n hx hb dX12_feed_78 rfl (lv_at hl 2 rfl) ?_
  refine va_get (D := (dC, dI)) (ci := 12) (v := .ref h1) (C := RX12) (T := TX12) (N := 70) hx hb hts hiX12 hown hK hP 0 rfl rfl 0 (by decide) w__fieldLink_RX12_7_ShellHeapModel_tape_I_ (fun _ h9 => h9) rfl dX12_feed_79 ?_
  refine lv_aload_n hx hb dX12_feed_82 rfl (lv_at hl 2 rfl) ?_
  refine va_get (D := (dC, dI)) (ci := 12) (v := .int 0) (C := RX12) (T := TX12) (N := 70) hx hb hts hiX12 hown hK hP 0 rfl rfl 1 (by decide) w__fieldLink_RX12_148_ShellHeapModel_tapeSize_I_ (fun _ h9 => h9) rfl dX12_feed_83 ?_
  refine lv_iload hx hb dX12_feed_86 (lv_at hl 1 rfl) ?_
  refine lv_iadd hx hb dX12_feed_88 ?_
  refine lv_topi (fun x_258 e_259 => ?_)
  obtain rfl : x_258 = 16 := e_259.trans (by decide)
  refine lv_iload hx hb dX12_feed_89 (lv_at hl 0 rfl) ?_
  refine lv_bipush (v := 24) hx hb dX12_feed_91 (by decide) ?_
  refine lv_bipush (v := 8) hx hb dX12_feed_93 (by decide) ?_
  refine lv_iload hx hb dX12_feed_95 (lv_at hl 1 rfl) ?_
  refine lv_iconst (v := 4) hx hb dX12_feed_97 (by decide) ?_
  refine lv_irem hx hb dX12_feed_98 (by decide) ?_
  refine lv_topi (fun x_260 e_261 => ?_)
  obtain rfl : x_260 = 0 := e_261.trans (by decide)
  refine lv_imul hx hb dX12_feed_99 ?_
  refine lv_topi (fun x_262 e_263 => ?_)
  obtain rfl : x_262 = 0 := e_263.trans (by decide)
  refine lv_isub hx hb dX12_feed_100 ?_
  refine lv_topi (fun x_264 e_265 => ?_)
  obtain rfl : x_264 = 24 := e_265.trans (by decide)
  refine lv_ishr hx hb dX12_feed_101 ?_
  refine lv_topi (fun x_266 _ => ?_)
  refine lv_sipush (v := 255) hx hb dX12_feed_102 (by decide) ?_
  refine lv_iand hx hb dX12_feed_105 ?_
  refine lv_topi (fun x_267 _ => ?_)
  refine va_iast hx hb hK hP hD hS 1 0 rfl rfl (by unfold vp_in; decide) dX12_feed_106 (fun H_268 locs hP hD hS => ?_)
  have hP : va_P (dC, dI) vwCl [(h0, .inr (12, [.ref h1, .int 0, .int 0, h0_3, h0_4, h0_5, h0_6, h0_7, h0_8, h0_9, h0_10, h0_11, h0_12, h0_13, h0_14, h0_15, h0_16, h0_17, h0_18, h0_19, h0_20, h0_21, h0_22, h0_23, h0_24, h0_25, h0_26, h0_27, h0_28, h0_29, h0_30, h0_31, h0_32, h0_33, h0_34, h0_35, h0_36, h0_37, h0_38, h0_39, h0_40, h0_41, h0_42, h0_43, h0_44, h0_45, h0_46, h0_47, h0_48, h0_49, h0_50, h0_51, h0_52, h0_53, h0_54, h0_55, h0_56, h0_57, h0_58, h0_59, h0_60, h0_61, h0_62, h0_63, h0_64, h0_65, h0_66, h0_67, h0_68, h0_69])), (h1, .inl (ch1, 700, .inl (upd f_252 (16 : Int32).toNatClampNeg x_267)))] H_268 := hP
  have hD : va_D A [(h0, .inr (12, [.ref h1, .int 0, .int 0, h0_3, h0_4, h0_5, h0_6, h0_7, h0_8, h0_9, h0_10, h0_11, h0_12, h0_13, h0_14, h0_15, h0_16, h0_17, h0_18, h0_19, h0_20, h0_21, h0_22, h0_23, h0_24, h0_25, h0_26, h0_27, h0_28, h0_29, h0_30, h0_31, h0_32, h0_33, h0_34, h0_35, h0_36, h0_37, h0_38, h0_39, h0_40, h0_41, h0_42, h0_43, h0_44, h0_45, h0_46, h0_47, h0_48, h0_49, h0_50, h0_51, h0_52, h0_53, h0_54, h0_55, h0_56, h0_57, h0_58, h0_59, h0_60, h0_61, h0_62, h0_63, h0_64, h0_65, h0_66, h0_67, h0_68, h0_69])), (h1, .inl (ch1, 700, .inl (upd f_252 (16 : Int32).toNatClampNeg x_267)))] := hD
  generalize (upd f_252 (16 : Int32).toNatClampNeg x_267) = f_269 at hP hD
  refine lv_iinc (v := 17) (lv' := [(6, .int 17), (7, .int p5), (0, .ref h0), (1, .int p1), (2, .int p2), (3, .int p3), (4, .int p4), (5, .int p5)]) hx hb dX12_feed_107 hl (k := 1) rfl (by decide) (by decide) rfl (fun ls hl => ?_)
  refine lv_goto (tgt := 23) hx hb dX12_feed_110 (by decide) ?_
  refine lv_iload hx hb dX12_feed_23 (lv_at hl 0 rfl) ?_
  refine lv_bipush (v := 20) hx hb dX12_feed_25 (by decide) ?_
  refine lv_icmp_ge (tgt := 113) hx hb dX12_feed_27 (by decide) (fun c_270 => absurd c_270 (by decide)) (fun _ => ?_)
  refine lv_iload hx hb dX12_feed_30 (lv_at hl 0 rfl) ?_
  refine lv_iconst (v := 4) hx hb dX12_feed_32 (by decide) ?_
  refine lv_icmp_ge (tgt := 40) hx hb dX12_feed_33 (by decide) (fun _ => ?_) (fun c_271 => absurd (by decide) c_271)
  refine lv_iload hx hb dX12_feed_40 (lv_at hl 0 rfl) ?_
  refine lv_bipush (v := 8) hx hb dX12_feed_42 (by decide) ?_
  refine lv_icmp_ge (tgt := 51) hx hb dX12_feed_44 (by decide) (fun _ => ?_) (fun c_272 => absurd (by decide) c_272)
  refine lv_iload hx hb dX12_feed_51 (lv_at hl 0 rfl) ?_
  refine lv_bipush (v := 12) hx hb dX12_feed_53 (by decide) ?_
  refine lv_icmp_ge (tgt := 62) hx hb dX12_feed_55 (by decide) (fun _ => ?_) (fun c_273 => absurd (by decide) c_273)
  refine lv_iload hx hb dX12_feed_62 (lv_at hl 0 rfl) ?_
  refine lv_bipush (v := 16) hx hb dX12_feed_64 (by decide) ?_
  refine lv_icmp_ge (tgt := 74) hx hb dX12_feed_66 (by decide) (fun _ => ?_) (fun c_274 => absurd (by decide) c_274)
  refine lv_iload hx hb dX12_feed_74 (lv_at hl 7 rfl) ?_
  refine lv_istore (lv' := [(7, .int p5), (6, .int 17), (0, .ref h0), (1, .int p1), (2, .int p2), (3, .int p3), (4, .int p4), (5, .int p5)]) hx hb dX12_feed_76 hl (by decide) rfl (fun ls hl => ?_)
  refine lv_aload_n hx hb dX12_feed_78 rfl (lv_at hl 2 rfl) ?_
  refine va_get (D := (dC, dI)) (ci := 12) (v := .ref h1) (C := RX12) (T := TX12) (N := 70) hx hb hts hiX12 hown hK hP 0 rfl rfl 0 (by decide) w__fieldLink_RX12_7_ShellHeapModel_tape_I_ (fun _ h9 => h9) rfl dX12_feed_79 ?_
  refine lv_aload_n hx hb dX12_feed_82 rfl (lv_at hl 2 rfl) ?_
  refine va_get (D := (dC, dI)) (ci := 12) (v := .int 0) (C := RX12) (T := TX12) (N := 70) hx hb hts hiX12 hown hK hP 0 rfl rfl 1 (by decide) w__fieldLink_RX12_148_ShellHeapModel_tapeSize_I_ (fun _ h9 => h9) rfl dX12_feed_83 ?_
  refine lv_iload hx hb dX12_feed_86 (lv_at hl 1 rfl) ?_
  refine lv_iadd hx hb dX12_feed_88 ?_
  refine lv_topi (fun x_275 e_276 => ?_)
  obtain rfl : x_275 = 17 := e_276.trans (by decide)
  refine lv_iload hx hb dX12_feed_89 (lv_at hl 0 rfl) ?_
  refine lv_bipush (v := 24) hx hb dX12_feed_91 (by decide) ?_
  refine lv_bipush (v := 8) hx hb dX12_feed_93 (by decide) ?_
  refine lv_iload hx hb dX12_feed_95 (lv_at hl 1 rfl) ?_
  refine lv_iconst (v := 4) hx hb dX12_feed_97 (by decide) ?_
  refine lv_irem hx hb dX12_feed_98 (by decide) ?_
  refine lv_topi (fun x_277 e_278 => ?_)
  obtain rfl : x_277 = 1 := e_278.trans (by decide)
  refine lv_imul hx hb dX12_feed_99 ?_
  refine lv_topi (fun x_279 e_280 => ?_)
  obtain rfl : x_279 = 8 := e_280.trans (by decide)
  refine lv_isub hx hb dX12_feed_100 ?_
  refine lv_topi (fun x_281 e_282 => ?_)
  obtain rfl : x_281 = 16 := e_282.trans (by decide)
  refine lv_ishr hx hb dX12_feed_101 ?_
  refine lv_topi (fun x_283 _ => ?_)
  refine lv_sipush (v := 255) hx hb dX12_feed_102 (by decide) ?_
  refine lv_iand hx hb dX12_feed_105 ?_
  refine lv_topi (fun x_284 _ => ?_)
  refine va_iast hx hb hK hP hD hS 1 0 rfl rfl (by unfold vp_in; decide) dX12_feed_106 (fun H_285 locs hP hD hS => ?_)
  have hP : va_P (dC, dI) vwCl [(h0, .inr (12, [.ref h1, .int 0, .int 0, h0_3, h0_4, h0_5, h0_6, h0_7, h0_8, h0_9, h0_10, h0_11, h0_12, h0_13, h0_14, h0_15, h0_16, h0_17, h0_18, h0_19, h0_20, h0_21, h0_22, h0_23, h0_24, h0_25, h0_26, h0_27, h0_28, h0_29, h0_30, h0_31, h0_32, h0_33, h0_34, h0_35, h0_36, h0_37, h0_38, h0_39, h0_40, h0_41, h0_42, h0_43, h0_44, h0_45, h0_46, h0_47, h0_48, h0_49, h0_50, h0_51, h0_52, h0_53, h0_54, h0_55, h0_56, h0_57, h0_58, h0_59, h0_60, h0_61, h0_62, h0_63, h0_64, h0_65, h0_66, h0_67, h0_68, h0_69])), (h1, .inl (ch1, 700, .inl (upd f_269 (17 : Int32).toNatClampNeg x_284)))] H_285 := hP
  have hD : va_D A [(h0, .inr (12, [.ref h1, .int 0, .int 0, h0_3, h0_4, h0_5, h0_6, h0_7, h0_8, h0_9, h0_10, h0_11, h0_12, h0_13, h0_14, h0_15, h0_16, h0_17, h0_18, h0_19, h0_20, h0_21, h0_22, h0_23, h0_24, h0_25, h0_26, h0_27, h0_28, h0_29, h0_30, h0_31, h0_32, h0_33, h0_34, h0_35, h0_36, h0_37, h0_38, h0_39, h0_40, h0_41, h0_42, h0_43, h0_44, h0_45, h0_46, h0_47, h0_48, h0_49, h0_50, h0_51, h0_52, h0_53, h0_54, h0_55, h0_56, h0_57, h0_58, h0_59, h0_60, h0_61, h0_62, h0_63, h0_64, h0_65, h0_66, h0_67, h0_68, h0_69])), (h1, .inl (ch1, 700, .inl (upd f_269 (17 : Int32).toNatClampNeg x_284)))] := hD
  generalize (upd f_269 (17 : Int32).toNatClampNeg x_284) = f_286 at hP hD
  refine lv_iinc (v := 18) (lv' := [(6, .int 18), (7, .int p5), (0, .ref h0), (1, .int p1), (2, .int p2), (3, .int p3), (4, .int p4), (5, .int p5)]) hx hb dX12_feed_107 hl (k := 1) rfl (by decide) (by decide) rfl (fun ls hl => ?_)
  refine lv_goto (tgt := 23) hx hb dX12_feed_110 (by decide) ?_
  refine lv_iload hx hb dX12_feed_23 (lv_at hl 0 rfl) ?_
  refine lv_bipush (v := 20) hx hb dX12_feed_25 (by decide) ?_
  refine lv_icmp_ge (tgt := 113) hx hb dX12_feed_27 (by decide) (fun c_287 => absurd c_287 (by decide)) (fun _ => ?_)
  refine lv_iload hx hb dX12_feed_30 (lv_at hl 0 rfl) ?_
  refine lv_iconst (v := 4) hx hb dX12_feed_32 (by decide) ?_
  refine lv_icmp_ge (tgt := 40) hx hb dX12_feed_33 (by decide) (fun _ => ?_) (fun c_288 => absurd (by decide) c_288)
  refine lv_iload hx hb dX12_feed_40 (lv_at hl 0 rfl) ?_
  refine lv_bipush (v := 8) hx hb dX12_feed_42 (by decide) ?_
  refine lv_icmp_ge (tgt := 51) hx hb dX12_feed_44 (by decide) (fun _ => ?_) (fun c_289 => absurd (by decide) c_289)
  refine lv_iload hx hb dX12_feed_51 (lv_at hl 0 rfl) ?_
  refine lv_bipush (v := 12) hx hb dX12_feed_53 (by decide) ?_
  refine lv_icmp_ge (tgt := 62) hx hb dX12_feed_55 (by decide) (fun _ => ?_) (fun c_290 => absurd (by decide) c_290)
  refine lv_iload hx hb dX12_feed_62 (lv_at hl 0 rfl) ?_
  refine lv_bipush (v := 16) hx hb dX12_feed_64 (by decide) ?_
  refine lv_icmp_ge (tgt := 74) hx hb dX12_feed_66 (by decide) (fun _ => ?_) (fun c_291 => absurd (by decide) c_291)
  refine lv_iload hx hb dX12_feed_74 (lv_at hl 7 rfl) ?_
  refine lv_istore (lv' := [(7, .int p5), (6, .int 18), (0, .ref h0), (1, .int p1), (2, .int p2), (3, .int p3), (4, .int p4), (5, .int p5)]) hx hb dX12_feed_76 hl (by decide) rfl (fun ls hl => ?_)
  refine lv_aload_n hx hb dX12_feed_78 rfl (lv_at hl 2 rfl) ?_
  refine va_get (D := (dC, dI)) (ci := 12) (v := .ref h1) (C := RX12) (T := TX12) (N := 70) hx hb hts hiX12 hown hK hP 0 rfl rfl 0 (by decide) w__fieldLink_RX12_7_ShellHeapModel_tape_I_ (fun _ h9 => h9) rfl dX12_feed_79 ?_
  refine lv_aload_n hx hb dX12_feed_82 rfl (lv_at hl 2 rfl) ?_
  refine va_get (D := (dC, dI)) (ci := 12) (v := .int 0) (C := RX12) (T := TX12) (N := 70) hx hb hts hiX12 hown hK hP 0 rfl rfl 1 (by decide) w__fieldLink_RX12_148_ShellHeapModel_tapeSize_I_ (fun _ h9 => h9) rfl dX12_feed_83 ?_
  refine lv_iload hx hb dX12_feed_86 (lv_at hl 1 rfl) ?_
  refine lv_iadd hx hb dX12_feed_88 ?_
  refine lv_topi (fun x_292 e_293 => ?_)
  obtain rfl : x_292 = 18 := e_293.trans (by decide)
  refine lv_iload hx hb dX12_feed_89 (lv_at hl 0 rfl) ?_
  refine lv_bipush (v := 24) hx hb dX12_feed_91 (by decide) ?_
  refine lv_bipush (v := 8) hx hb dX12_feed_93 (by decide) ?_
  refine lv_iload hx hb dX12_feed_95 (lv_at hl 1 rfl) ?_
  refine lv_iconst (v := 4) hx hb dX12_feed_97 (by decide) ?_
  refine lv_irem hx hb dX12_feed_98 (by decide) ?_
  refine lv_topi (fun x_294 e_295 => ?_)
  obtain rfl : x_294 = 2 := e_295.trans (by decide)
  refine lv_imul hx hb dX12_feed_99 ?_
  refine lv_topi (fun x_296 e_297 => ?_)
  obtain rfl : x_296 = 16 := e_297.trans (by decide)
  refine lv_isub hx hb dX12_feed_100 ?_
  refine lv_topi (fun x_298 e_299 => ?_)
  obtain rfl : x_298 = 8 := e_299.trans (by decide)
  refine lv_ishr hx hb dX12_feed_101 ?_
  refine lv_topi (fun x_300 _ => ?_)
  refine lv_sipush (v := 255) hx hb dX12_feed_102 (by decide) ?_
  refine lv_iand hx hb dX12_feed_105 ?_
  refine lv_topi (fun x_301 _ => ?_)
  refine va_iast hx hb hK hP hD hS 1 0 rfl rfl (by unfold vp_in; decide) dX12_feed_106 (fun H_302 locs hP hD hS => ?_)
  have hP : va_P (dC, dI) vwCl [(h0, .inr (12, [.ref h1, .int 0, .int 0, h0_3, h0_4, h0_5, h0_6, h0_7, h0_8, h0_9, h0_10, h0_11, h0_12, h0_13, h0_14, h0_15, h0_16, h0_17, h0_18, h0_19, h0_20, h0_21, h0_22, h0_23, h0_24, h0_25, h0_26, h0_27, h0_28, h0_29, h0_30, h0_31, h0_32, h0_33, h0_34, h0_35, h0_36, h0_37, h0_38, h0_39, h0_40, h0_41, h0_42, h0_43, h0_44, h0_45, h0_46, h0_47, h0_48, h0_49, h0_50, h0_51, h0_52, h0_53, h0_54, h0_55, h0_56, h0_57, h0_58, h0_59, h0_60, h0_61, h0_62, h0_63, h0_64, h0_65, h0_66, h0_67, h0_68, h0_69])), (h1, .inl (ch1, 700, .inl (upd f_286 (18 : Int32).toNatClampNeg x_301)))] H_302 := hP
  have hD : va_D A [(h0, .inr (12, [.ref h1, .int 0, .int 0, h0_3, h0_4, h0_5, h0_6, h0_7, h0_8, h0_9, h0_10, h0_11, h0_12, h0_13, h0_14, h0_15, h0_16, h0_17, h0_18, h0_19, h0_20, h0_21, h0_22, h0_23, h0_24, h0_25, h0_26, h0_27, h0_28, h0_29, h0_30, h0_31, h0_32, h0_33, h0_34, h0_35, h0_36, h0_37, h0_38, h0_39, h0_40, h0_41, h0_42, h0_43, h0_44, h0_45, h0_46, h0_47, h0_48, h0_49, h0_50, h0_51, h0_52, h0_53, h0_54, h0_55, h0_56, h0_57, h0_58, h0_59, h0_60, h0_61, h0_62, h0_63, h0_64, h0_65, h0_66, h0_67, h0_68, h0_69])), (h1, .inl (ch1, 700, .inl (upd f_286 (18 : Int32).toNatClampNeg x_301)))] := hD
  generalize (upd f_286 (18 : Int32).toNatClampNeg x_301) = f_303 at hP hD
  refine lv_iinc (v := 19) (lv' := [(6, .int 19), (7, .int p5), (0, .ref h0), (1, .int p1), (2, .int p2), (3, .int p3), (4, .int p4), (5, .int p5)]) hx hb dX12_feed_107 hl (k := 1) rfl (by decide) (by decide) rfl (fun ls hl => ?_)
  refine lv_goto (tgt := 23) hx hb dX12_feed_110 (by decide) ?_
  refine lv_iload hx hb dX12_feed_23 (lv_at hl 0 rfl) ?_
  refine lv_bipush (v := 20) hx hb dX12_feed_25 (by decide) ?_
  refine lv_icmp_ge (tgt := 113) hx hb dX12_feed_27 (by decide) (fun c_304 => absurd c_304 (by decide)) (fun _ => ?_)
  refine lv_iload hx hb dX12_feed_30 (lv_at hl 0 rfl) ?_
  refine lv_iconst (v := 4) hx hb dX12_feed_32 (by decide) ?_
  refine lv_icmp_ge (tgt := 40) hx hb dX12_feed_33 (by decide) (fun _ => ?_) (fun c_305 => absurd (by decide) c_305)
  refine lv_iload hx hb dX12_feed_40 (lv_at hl 0 rfl) ?_
  refine lv_bipush (v := 8) hx hb dX12_feed_42 (by decide) ?_
  refine lv_icmp_ge (tgt := 51) hx hb dX12_feed_44 (by decide) (fun _ => ?_) (fun c_306 => absurd (by decide) c_306)
  refine lv_iload hx hb dX12_feed_51 (lv_at hl 0 rfl) ?_
  refine lv_bipush (v := 12) hx hb dX12_feed_53 (by decide) ?_
  refine lv_icmp_ge (tgt := 62) hx hb dX12_feed_55 (by decide) (fun _ => ?_) (fun c_307 => absurd (by decide) c_307)
  refine lv_iload hx hb dX12_feed_62 (lv_at hl 0 rfl) ?_
  refine lv_bipush (v := 16) hx hb dX12_feed_64 (by decide) ?_
  refine lv_icmp_ge (tgt := 74) hx hb dX12_feed_66 (by decide) (fun _ => ?_) (fun c_308 => absurd (by decide) c_308)
  refine lv_iload hx hb dX12_feed_74 (lv_at hl 7 rfl) ?_
  refine lv_istore (lv' := [(7, .int p5), (6, .int 19), (0, .ref h0), (1, .int p1), (2, .int p2), (3, .int p3), (4, .int p4), (5, .int p5)]) hx hb dX12_feed_76 hl (by decide) rfl (fun ls hl => ?_)
  refine lv_aload_n hx hb dX12_feed_78 rfl (lv_at hl 2 rfl) ?_
  refine va_get (D := (dC, dI)) (ci := 12) (v := .ref h1) (C := RX12) (T := TX12) (N := 70) hx hb hts hiX12 hown hK hP 0 rfl rfl 0 (by decide) w__fieldLink_RX12_7_ShellHeapModel_tape_I_ (fun _ h9 => h9) rfl dX12_feed_79 ?_
  refine lv_aload_n hx hb dX12_feed_82 rfl (lv_at hl 2 rfl) ?_
  refine va_get (D := (dC, dI)) (ci := 12) (v := .int 0) (C := RX12) (T := TX12) (N := 70) hx hb hts hiX12 hown hK hP 0 rfl rfl 1 (by decide) w__fieldLink_RX12_148_ShellHeapModel_tapeSize_I_ (fun _ h9 => h9) rfl dX12_feed_83 ?_
  refine lv_iload hx hb dX12_feed_86 (lv_at hl 1 rfl) ?_
  refine lv_iadd hx hb dX12_feed_88 ?_
  refine lv_topi (fun x_309 e_310 => ?_)
  obtain rfl : x_309 = 19 := e_310.trans (by decide)
  refine lv_iload hx hb dX12_feed_89 (lv_at hl 0 rfl) ?_
  refine lv_bipush (v := 24) hx hb dX12_feed_91 (by decide) ?_
  refine lv_bipush (v := 8) hx hb dX12_feed_93 (by decide) ?_
  refine lv_iload hx hb dX12_feed_95 (lv_at hl 1 rfl) ?_
  refine lv_iconst (v := 4) hx hb dX12_feed_97 (by decide) ?_
  refine lv_irem hx hb dX12_feed_98 (by decide) ?_
  refine lv_topi (fun x_311 e_312 => ?_)
  obtain rfl : x_311 = 3 := e_312.trans (by decide)
  refine lv_imul hx hb dX12_feed_99 ?_
  refine lv_topi (fun x_313 e_314 => ?_)
  obtain rfl : x_313 = 24 := e_314.trans (by decide)
  refine lv_isub hx hb dX12_feed_100 ?_
  refine lv_topi (fun x_315 e_316 => ?_)
  obtain rfl : x_315 = 0 := e_316.trans (by decide)
  refine lv_ishr hx hb dX12_feed_101 ?_
  refine lv_topi (fun x_317 _ => ?_)
  refine lv_sipush (v := 255) hx hb dX12_feed_102 (by decide) ?_
  refine lv_iand hx hb dX12_feed_105 ?_
  refine lv_topi (fun x_318 _ => ?_)
  refine va_iast hx hb hK hP hD hS 1 0 rfl rfl (by unfold vp_in; decide) dX12_feed_106 (fun H_319 locs hP hD hS => ?_)
  have hP : va_P (dC, dI) vwCl [(h0, .inr (12, [.ref h1, .int 0, .int 0, h0_3, h0_4, h0_5, h0_6, h0_7, h0_8, h0_9, h0_10, h0_11, h0_12, h0_13, h0_14, h0_15, h0_16, h0_17, h0_18, h0_19, h0_20, h0_21, h0_22, h0_23, h0_24, h0_25, h0_26, h0_27, h0_28, h0_29, h0_30, h0_31, h0_32, h0_33, h0_34, h0_35, h0_36, h0_37, h0_38, h0_39, h0_40, h0_41, h0_42, h0_43, h0_44, h0_45, h0_46, h0_47, h0_48, h0_49, h0_50, h0_51, h0_52, h0_53, h0_54, h0_55, h0_56, h0_57, h0_58, h0_59, h0_60, h0_61, h0_62, h0_63, h0_64, h0_65, h0_66, h0_67, h0_68, h0_69])), (h1, .inl (ch1, 700, .inl (upd f_303 (19 : Int32).toNatClampNeg x_318)))] H_319 := hP
  have hD : va_D A [(h0, .inr (12, [.ref h1, .int 0, .int 0, h0_3, h0_4, h0_5, h0_6, h0_7, h0_8, h0_9, h0_10, h0_11, h0_12, h0_13, h0_14, h0_15, h0_16, h0_17, h0_18, h0_19, h0_20, h0_21, h0_22, h0_23, h0_24, h0_25, h0_26, h0_27, h0_28, h0_29, h0_30, h0_31, h0_32, h0_33, h0_34, h0_35, h0_36, h0_37, h0_38, h0_39, h0_40, h0_41, h0_42, h0_43, h0_44, h0_45, h0_46, h0_47, h0_48, h0_49, h0_50, h0_51, h0_52, h0_53, h0_54, h0_55, h0_56, h0_57, h0_58, h0_59, h0_60, h0_61, h0_62, h0_63, h0_64, h0_65, h0_66, h0_67, h0_68, h0_69])), (h1, .inl (ch1, 700, .inl (upd f_303 (19 : Int32).toNatClampNeg x_318)))] := hD
  generalize (upd f_303 (19 : Int32).toNatClampNeg x_318) = f_320 at hP hD
  refine lv_iinc (v := 20) (lv' := [(6, .int 20), (7, .int p5), (0, .ref h0), (1, .int p1), (2, .int p2), (3, .int p3), (4, .int p4), (5, .int p5)]) hx hb dX12_feed_107 hl (k := 1) rfl (by decide) (by decide) rfl (fun ls hl => ?_)
  refine lv_goto (tgt := 23) hx hb dX12_feed_110 (by decide) ?_
  refine lv_iload hx hb dX12_feed_23 (lv_at hl 0 rfl) ?_
  refine lv_bipush (v := 20) hx hb dX12_feed_25 (by decide) ?_
  refine lv_icmp_ge (tgt := 113) hx hb dX12_feed_27 (by decide) (fun _ => ?_) (fun c_321 => absurd (by decide) c_321)
  refine lv_aload_n hx hb dX12_feed_113 rfl (lv_at hl 2 rfl) ?_
  refine lv_dup hx hb dX12_feed_114 rfl ?_
  refine va_get (D := (dC, dI)) (ci := 12) (v := .int 0) (C := RX12) (T := TX12) (N := 70) hx hb hts hiX12 hown hK hP 0 rfl rfl 1 (by decide) w__fieldLink_RX12_148_ShellHeapModel_tapeSize_I_ (fun _ h9 => h9) rfl dX12_feed_115 ?_
  refine lv_bipush (v := 20) hx hb dX12_feed_118 (by decide) ?_
  refine lv_iadd hx hb dX12_feed_120 ?_
  refine lv_topi (fun x_322 e_323 => ?_)
  obtain rfl : x_322 = 20 := e_323.trans (by decide)
  refine va_put (D := (dC, dI)) (ci := 12) (v := .int 20) (ty := .int) (C := RX12) (T := TX12) (N := 70) hx hb hts hiX12 tyX12 tyX12_ok nmX12 hown hK hP hD hS 0 rfl rfl 1 (by decide) w__fieldLink_RX12_148_ShellHeapModel_tapeSize_I_ (fun _ h9 => h9) rfl (by decide +kernel) rfl rfl (Nat.le_of_ble_eq_true rfl) dX12_feed_121 (fun H_324 locs hP hD hS => ?_)
  have hP : va_P (dC, dI) vwCl [(h0, .inr (12, [.ref h1, .int 20, .int 0, h0_3, h0_4, h0_5, h0_6, h0_7, h0_8, h0_9, h0_10, h0_11, h0_12, h0_13, h0_14, h0_15, h0_16, h0_17, h0_18, h0_19, h0_20, h0_21, h0_22, h0_23, h0_24, h0_25, h0_26, h0_27, h0_28, h0_29, h0_30, h0_31, h0_32, h0_33, h0_34, h0_35, h0_36, h0_37, h0_38, h0_39, h0_40, h0_41, h0_42, h0_43, h0_44, h0_45, h0_46, h0_47, h0_48, h0_49, h0_50, h0_51, h0_52, h0_53, h0_54, h0_55, h0_56, h0_57, h0_58, h0_59, h0_60, h0_61, h0_62, h0_63, h0_64, h0_65, h0_66, h0_67, h0_68, h0_69])), (h1, .inl (ch1, 700, .inl f_320))] H_324 := hP
  have hD : va_D A [(h0, .inr (12, [.ref h1, .int 20, .int 0, h0_3, h0_4, h0_5, h0_6, h0_7, h0_8, h0_9, h0_10, h0_11, h0_12, h0_13, h0_14, h0_15, h0_16, h0_17, h0_18, h0_19, h0_20, h0_21, h0_22, h0_23, h0_24, h0_25, h0_26, h0_27, h0_28, h0_29, h0_30, h0_31, h0_32, h0_33, h0_34, h0_35, h0_36, h0_37, h0_38, h0_39, h0_40, h0_41, h0_42, h0_43, h0_44, h0_45, h0_46, h0_47, h0_48, h0_49, h0_50, h0_51, h0_52, h0_53, h0_54, h0_55, h0_56, h0_57, h0_58, h0_59, h0_60, h0_61, h0_62, h0_63, h0_64, h0_65, h0_66, h0_67, h0_68, h0_69])), (h1, .inl (ch1, 700, .inl f_320))] := hD
  refine lv_aload_n hx hb dX12_feed_124 rfl (lv_at hl 2 rfl) ?_
  refine va_get (D := (dC, dI)) (ci := 12) (v := .int 20) (C := RX12) (T := TX12) (N := 70) hx hb hts hiX12 hown hK hP 0 rfl rfl 1 (by decide) w__fieldLink_RX12_148_ShellHeapModel_tapeSize_I_ (fun _ h9 => h9) rfl dX12_feed_125 ?_
  refine W.widen (k := 0) (n := 0) (Nat.le_of_ble_eq_true rfl) (Nat.le_of_ble_eq_true rfl) ?_
  exact W.iret (v := 20) hx hb hr (fun t ht hW => ⟨⟨20, (), rfl, rfl, trivial⟩, hS.F ht⟩) hS.2.2 dX12_feed_128
def u_c_X12_layer : List Cond := .code yX12_layer cX12_layer 1 (some .int) :: ([.fieldLink RX12 145 "ShellHeapModel" "thrown" "I", .fieldLink RX12 151 "ShellHeapModel" "layers" "I"] ++ wsX120)
set_option maxHeartbeats 4000000 in
set_option maxRecDepth 100000 in
theorem c_X12_layer (l : Launch) (dC : Nat → ClassId) (dI : Nat → Nat → Nat) (sz : Nat) (h0 : Nat) (h0_0 : Value) (h0_1 : Value) (h0_2 : Value) (h0_4 : Value) (h0_5 : Value) (h0_6 : Value) (h0_7 : Value) (h0_8 : Value) (h0_9 : Value) (h0_10 : Value) (h0_11 : Value) (h0_12 : Value) (h0_13 : Value) (h0_14 : Value) (h0_15 : Value) (h0_16 : Value) (h0_17 : Value) (h0_18 : Value) (h0_19 : Value) (h0_20 : Value) (h0_21 : Value) (h0_22 : Value) (h0_23 : Value) (h0_24 : Value) (h0_25 : Value) (h0_26 : Value) (h0_27 : Value) (h0_28 : Value) (h0_29 : Value) (h0_30 : Value) (h0_31 : Value) (h0_32 : Value) (h0_33 : Value) (h0_34 : Value) (h0_35 : Value) (h0_36 : Value) (h0_37 : Value) (h0_38 : Value) (h0_39 : Value) (h0_40 : Value) (h0_41 : Value) (h0_42 : Value) (h0_43 : Value) (h0_44 : Value) (h0_45 : Value) (h0_46 : Value) (h0_47 : Value) (h0_48 : Value) (h0_49 : Value) (h0_50 : Value) (h0_51 : Value) (h0_52 : Value) (h0_53 : Value) (h0_54 : Value) (h0_55 : Value) (h0_56 : Value) (h0_57 : Value) (h0_58 : Value) (h0_59 : Value) (h0_60 : Value) (h0_61 : Value) (h0_62 : Value) (h0_63 : Value) (h0_64 : Value) (h0_65 : Value) (h0_66 : Value) (h0_67 : Value) (h0_68 : Value) (h0_69 : Value) : Met l yX12_layer u_c_X12_layer ({ frames := 0, cells := 0, slots := 0, locals := 0 }) (va_Pc [.ref h0] (z_C (dC, dI) vwCl [(h0, .inr (12, [h0_0, h0_1, h0_2, .int 0, h0_4, h0_5, h0_6, h0_7, h0_8, h0_9, h0_10, h0_11, h0_12, h0_13, h0_14, h0_15, h0_16, h0_17, h0_18, h0_19, h0_20, h0_21, h0_22, h0_23, h0_24, h0_25, h0_26, h0_27, h0_28, h0_29, h0_30, h0_31, h0_32, h0_33, h0_34, h0_35, h0_36, h0_37, h0_38, h0_39, h0_40, h0_41, h0_42, h0_43, h0_44, h0_45, h0_46, h0_47, h0_48, h0_49, h0_50, h0_51, h0_52, h0_53, h0_54, h0_55, h0_56, h0_57, h0_58, h0_59, h0_60, h0_61, h0_62, h0_63, h0_64, h0_65, h0_66, h0_67, h0_68, h0_69]))] [] sz)) (va_Qi (fun (r : Int32) (_ : Unit) => r = 0) (fun (_ : Unit) (_ : State) => True) (va_A [(h0, .inr (12, [h0_0, h0_1, h0_2, .int 0, h0_4, h0_5, h0_6, h0_7, h0_8, h0_9, h0_10, h0_11, h0_12, h0_13, h0_14, h0_15, h0_16, h0_17, h0_18, h0_19, h0_20, h0_21, h0_22, h0_23, h0_24, h0_25, h0_26, h0_27, h0_28, h0_29, h0_30, h0_31, h0_32, h0_33, h0_34, h0_35, h0_36, h0_37, h0_38, h0_39, h0_40, h0_41, h0_42, h0_43, h0_44, h0_45, h0_46, h0_47, h0_48, h0_49, h0_50, h0_51, h0_52, h0_53, h0_54, h0_55, h0_56, h0_57, h0_58, h0_59, h0_60, h0_61, h0_62, h0_63, h0_64, h0_65, h0_66, h0_67, h0_68, h0_69]))] sz)) 0 0 (va_A [(h0, .inr (12, [h0_0, h0_1, h0_2, .int 0, h0_4, h0_5, h0_6, h0_7, h0_8, h0_9, h0_10, h0_11, h0_12, h0_13, h0_14, h0_15, h0_16, h0_17, h0_18, h0_19, h0_20, h0_21, h0_22, h0_23, h0_24, h0_25, h0_26, h0_27, h0_28, h0_29, h0_30, h0_31, h0_32, h0_33, h0_34, h0_35, h0_36, h0_37, h0_38, h0_39, h0_40, h0_41, h0_42, h0_43, h0_44, h0_45, h0_46, h0_47, h0_48, h0_49, h0_50, h0_51, h0_52, h0_53, h0_54, h0_55, h0_56, h0_57, h0_58, h0_59, h0_60, h0_61, h0_62, h0_63, h0_64, h0_65, h0_66, h0_67, h0_68, h0_69]))] sz) := by
  refine Met.ofW (cc := cX12_layer) (maxL := 1) (ret := (some .int)) (by decide) rfl ?_
  intro p e s m args below meth c s₁ B hml hv
  obtain ⟨rfl, hsz, hP, hK, hD0⟩ := hv
  have hx := B.exec
  have hb := B.bytes
  have hr := B.returns
  have hts := atoms_spec (ws := u_c_X12_layer) B.pre
  have hown : s.vm.findClass RX12 = some m.cls := findClass_of_methodNamed B.named
  have hlocks := B.notSynchronized
  subst hsz
  have hD := hD0.self (sz := s.heap.size)
  generalize hAe : va_A [(h0, .inr (12, [h0_0, h0_1, h0_2, .int 0, h0_4, h0_5, h0_6, h0_7, h0_8, h0_9, h0_10, h0_11, h0_12, h0_13, h0_14, h0_15, h0_16, h0_17, h0_18, h0_19, h0_20, h0_21, h0_22, h0_23, h0_24, h0_25, h0_26, h0_27, h0_28, h0_29, h0_30, h0_31, h0_32, h0_33, h0_34, h0_35, h0_36, h0_37, h0_38, h0_39, h0_40, h0_41, h0_42, h0_43, h0_44, h0_45, h0_46, h0_47, h0_48, h0_49, h0_50, h0_51, h0_52, h0_53, h0_54, h0_55, h0_56, h0_57, h0_58, h0_59, h0_60, h0_61, h0_62, h0_63, h0_64, h0_65, h0_66, h0_67, h0_68, h0_69]))] s.heap.size = A at hD ⊢
  have hA : ∀ q : Nat, s.heap.size ≤ q → A q := fun q h => by rw [← hAe]; exact Or.inr h
  have hS : va_S A s.heap s.heap [] := va_S.rf
  have hP : va_P (dC, dI) vwCl [(h0, .inr (12, [h0_0, h0_1, h0_2, .int 0, h0_4, h0_5, h0_6, h0_7, h0_8, h0_9, h0_10, h0_11, h0_12, h0_13, h0_14, h0_15, h0_16, h0_17, h0_18, h0_19, h0_20, h0_21, h0_22, h0_23, h0_24, h0_25, h0_26, h0_27, h0_28, h0_29, h0_30, h0_31, h0_32, h0_33, h0_34, h0_35, h0_36, h0_37, h0_38, h0_39, h0_40, h0_41, h0_42, h0_43, h0_44, h0_45, h0_46, h0_47, h0_48, h0_49, h0_50, h0_51, h0_52, h0_53, h0_54, h0_55, h0_56, h0_57, h0_58, h0_59, h0_60, h0_61, h0_62, h0_63, h0_64, h0_65, h0_66, h0_67, h0_68, h0_69]))] s.heap := hP
  have w__fieldLink_RX12_145_ShellHeapModel_thrown_I_ := hts (.fieldLink RX12 145 "ShellHeapModel" "thrown" "I") (by decide +kernel)
  have hiX12 := show ∀ w ∈ u_ws RX12 TX12 70, w ∈ u_c_X12_layer by decide +kernel
  have w__fieldLink_RX12_151_ShellHeapModel_layers_I_ := hts (.fieldLink RX12 151 "ShellHeapModel" "layers" "I") (by decide +kernel)
  have hl := lv_entry ([.ref h0]) (n := 1) (Nat.le_of_ble_eq_true rfl)
  rw [lg_entry_eq]
  generalize (lg_sl ([.ref h0]) ++ List.replicate (1 - (lg_sl ([.ref h0])).length) Slot.unset).toArray = ls at hl ⊢
  have hl : lv_has ls 1 [(0, .ref h0)] := hl
  refine lv_aload_n hx hb dX12_layer_0 rfl (lv_at hl 0 rfl) ?_
  refine lv_iconst (v := 0) hx hb dX12_layer_1 (by decide) ?_
  refine va_put (D := (dC, dI)) (ci := 12) (v := .int 0) (ty := .int) (C := RX12) (T := TX12) (N := 70) hx hb hts hiX12 tyX12 tyX12_ok nmX12 hown hK hP hD hS 0 rfl rfl 2 (by decide) w__fieldLink_RX12_145_ShellHeapModel_thrown_I_ (fun _ h9 => h9) rfl (by decide +kernel) rfl rfl (Nat.le_of_ble_eq_true rfl) dX12_layer_2 (fun H_1 locs hP hD hS => ?_)
  have hP : va_P (dC, dI) vwCl [(h0, .inr (12, [h0_0, h0_1, .int 0, .int 0, h0_4, h0_5, h0_6, h0_7, h0_8, h0_9, h0_10, h0_11, h0_12, h0_13, h0_14, h0_15, h0_16, h0_17, h0_18, h0_19, h0_20, h0_21, h0_22, h0_23, h0_24, h0_25, h0_26, h0_27, h0_28, h0_29, h0_30, h0_31, h0_32, h0_33, h0_34, h0_35, h0_36, h0_37, h0_38, h0_39, h0_40, h0_41, h0_42, h0_43, h0_44, h0_45, h0_46, h0_47, h0_48, h0_49, h0_50, h0_51, h0_52, h0_53, h0_54, h0_55, h0_56, h0_57, h0_58, h0_59, h0_60, h0_61, h0_62, h0_63, h0_64, h0_65, h0_66, h0_67, h0_68, h0_69]))] H_1 := hP
  have hD : va_D A [(h0, .inr (12, [h0_0, h0_1, .int 0, .int 0, h0_4, h0_5, h0_6, h0_7, h0_8, h0_9, h0_10, h0_11, h0_12, h0_13, h0_14, h0_15, h0_16, h0_17, h0_18, h0_19, h0_20, h0_21, h0_22, h0_23, h0_24, h0_25, h0_26, h0_27, h0_28, h0_29, h0_30, h0_31, h0_32, h0_33, h0_34, h0_35, h0_36, h0_37, h0_38, h0_39, h0_40, h0_41, h0_42, h0_43, h0_44, h0_45, h0_46, h0_47, h0_48, h0_49, h0_50, h0_51, h0_52, h0_53, h0_54, h0_55, h0_56, h0_57, h0_58, h0_59, h0_60, h0_61, h0_62, h0_63, h0_64, h0_65, h0_66, h0_67, h0_68, h0_69]))] := hD
  refine lv_aload_n hx hb dX12_layer_5 rfl (lv_at hl 0 rfl) ?_
  refine va_get (D := (dC, dI)) (ci := 12) (v := .int 0) (C := RX12) (T := TX12) (N := 70) hx hb hts hiX12 hown hK hP 0 rfl rfl 3 (by decide) w__fieldLink_RX12_151_ShellHeapModel_layers_I_ (fun _ h9 => h9) rfl dX12_layer_6 ?_
  refine lv_bipush (v := 12) hx hb dX12_layer_9 (by decide) ?_
  refine lv_icmp_ne (tgt := 16) hx hb dX12_layer_11 (by decide) (fun _ => ?_) (fun c_2 => absurd c_2 (by decide))
  refine lv_aload_n hx hb dX12_layer_16 rfl (lv_at hl 0 rfl) ?_
  refine lv_dup hx hb dX12_layer_17 rfl ?_
  refine va_get (D := (dC, dI)) (ci := 12) (v := .int 0) (C := RX12) (T := TX12) (N := 70) hx hb hts hiX12 hown hK hP 0 rfl rfl 3 (by decide) w__fieldLink_RX12_151_ShellHeapModel_layers_I_ (fun _ h9 => h9) rfl dX12_layer_18 ?_
  refine lv_iconst (v := 1) hx hb dX12_layer_21 (by decide) ?_
  refine lv_iadd hx hb dX12_layer_22 ?_
  refine lv_topi (fun x_3 e_4 => ?_)
  obtain rfl : x_3 = 1 := e_4.trans (by decide)
  refine va_put (D := (dC, dI)) (ci := 12) (v := .int 1) (ty := .int) (C := RX12) (T := TX12) (N := 70) hx hb hts hiX12 tyX12 tyX12_ok nmX12 hown hK hP hD hS 0 rfl rfl 3 (by decide) w__fieldLink_RX12_151_ShellHeapModel_layers_I_ (fun _ h9 => h9) rfl (by decide +kernel) rfl rfl (Nat.le_of_ble_eq_true rfl) dX12_layer_23 (fun H_5 locs hP hD hS => ?_)
  have hP : va_P (dC, dI) vwCl [(h0, .inr (12, [h0_0, h0_1, .int 0, .int 1, h0_4, h0_5, h0_6, h0_7, h0_8, h0_9, h0_10, h0_11, h0_12, h0_13, h0_14, h0_15, h0_16, h0_17, h0_18, h0_19, h0_20, h0_21, h0_22, h0_23, h0_24, h0_25, h0_26, h0_27, h0_28, h0_29, h0_30, h0_31, h0_32, h0_33, h0_34, h0_35, h0_36, h0_37, h0_38, h0_39, h0_40, h0_41, h0_42, h0_43, h0_44, h0_45, h0_46, h0_47, h0_48, h0_49, h0_50, h0_51, h0_52, h0_53, h0_54, h0_55, h0_56, h0_57, h0_58, h0_59, h0_60, h0_61, h0_62, h0_63, h0_64, h0_65, h0_66, h0_67, h0_68, h0_69]))] H_5 := hP
  have hD : va_D A [(h0, .inr (12, [h0_0, h0_1, .int 0, .int 1, h0_4, h0_5, h0_6, h0_7, h0_8, h0_9, h0_10, h0_11, h0_12, h0_13, h0_14, h0_15, h0_16, h0_17, h0_18, h0_19, h0_20, h0_21, h0_22, h0_23, h0_24, h0_25, h0_26, h0_27, h0_28, h0_29, h0_30, h0_31, h0_32, h0_33, h0_34, h0_35, h0_36, h0_37, h0_38, h0_39, h0_40, h0_41, h0_42, h0_43, h0_44, h0_45, h0_46, h0_47, h0_48, h0_49, h0_50, h0_51, h0_52, h0_53, h0_54, h0_55, h0_56, h0_57, h0_58, h0_59, h0_60, h0_61, h0_62, h0_63, h0_64, h0_65, h0_66, h0_67, h0_68, h0_69]))] := hD
  refine lv_aload_n hx hb dX12_layer_26 rfl (lv_at hl 0 rfl) ?_
  refine va_get (D := (dC, dI)) (ci := 12) (v := .int 1) (C := RX12) (T := TX12) (N := 70) hx hb hts hiX12 hown hK hP 0 rfl rfl 3 (by decide) w__fieldLink_RX12_151_ShellHeapModel_layers_I_ (fun _ h9 => h9) rfl dX12_layer_27 ?_
  refine lv_iconst (v := 1) hx hb dX12_layer_30 (by decide) ?_
  refine lv_isub hx hb dX12_layer_31 ?_
  refine lv_topi (fun x_6 e_7 => ?_)
  obtain rfl : x_6 = 0 := e_7.trans (by decide)
  refine W.widen (k := 0) (n := 0) (Nat.le_of_ble_eq_true rfl) (Nat.le_of_ble_eq_true rfl) ?_
  exact W.iret (v := 0) hx hb hr (fun t ht hW => ⟨⟨0, (), rfl, rfl, trivial⟩, hS.F ht⟩) hS.2.2 dX12_layer_32
def u_c_X12_note : List Cond := .code yX12_note cX12_note 5 (some .int) :: ([.fieldLink RX12 145 "ShellHeapModel" "thrown" "I", .fieldLink RX12 154 "ShellHeapModel" "notes" "I", .methodLink RX12 157 yX12_isLayer, .instanceMethod yX12_isLayer, .selects RX12 yX12_isLayer yX12_isLayer, .initialized RX12, .code yX12_isLayer cX12_isLayer 2 (some .boolean), .fieldLink RX12 151 "ShellHeapModel" "layers" "I"] ++ wsX120)
set_option maxRecDepth 20000 in
theorem gw_c_X12_note_c_X12_isLayer_157 : GoodIn u_c_X12_note (wsV RX12 157 RX12 yX12_isLayer u_c_X12_isLayer) := goodIn_r _ [3, 4, 5, 6, 7, 8, 9, 10, 11, 12, 13, 14, 15, 16, 17, 18, 19, 20, 21, 22, 23, 24, 25, 26, 27, 28, 29, 30, 31, 32, 33, 34, 35, 36, 37, 38, 39, 40, 41, 42, 43, 44, 45, 46, 47, 48, 49, 50, 51, 52, 53, 54, 55, 56, 57, 58, 59, 60, 61, 62, 63, 64, 65, 66, 67, 68, 69, 70, 71, 72, 73, 74, 75, 76, 77, 78] (by decide +kernel) (by decide +kernel)
set_option maxHeartbeats 4000000 in
set_option maxRecDepth 100000 in
theorem c_X12_note (l : Launch) (dC : Nat → ClassId) (dI : Nat → Nat → Nat) (sz : Nat) (h0 : Nat) (p1 : Int32) (p2 : Int32) (p3 : Int32) (p4 : Int32) (h0_0 : Value) (h0_1 : Value) (h0_2 : Value) (h0_5 : Value) (h0_6 : Value) (h0_7 : Value) (h0_8 : Value) (h0_9 : Value) (h0_10 : Value) (h0_11 : Value) (h0_12 : Value) (h0_13 : Value) (h0_14 : Value) (h0_15 : Value) (h0_16 : Value) (h0_17 : Value) (h0_18 : Value) (h0_19 : Value) (h0_20 : Value) (h0_21 : Value) (h0_22 : Value) (h0_23 : Value) (h0_24 : Value) (h0_25 : Value) (h0_26 : Value) (h0_27 : Value) (h0_28 : Value) (h0_29 : Value) (h0_30 : Value) (h0_31 : Value) (h0_32 : Value) (h0_33 : Value) (h0_34 : Value) (h0_35 : Value) (h0_36 : Value) (h0_37 : Value) (h0_38 : Value) (h0_39 : Value) (h0_40 : Value) (h0_41 : Value) (h0_42 : Value) (h0_43 : Value) (h0_44 : Value) (h0_45 : Value) (h0_46 : Value) (h0_47 : Value) (h0_48 : Value) (h0_49 : Value) (h0_50 : Value) (h0_51 : Value) (h0_52 : Value) (h0_53 : Value) (h0_54 : Value) (h0_55 : Value) (h0_56 : Value) (h0_57 : Value) (h0_58 : Value) (h0_59 : Value) (h0_60 : Value) (h0_61 : Value) (h0_62 : Value) (h0_63 : Value) (h0_64 : Value) (h0_65 : Value) (h0_66 : Value) (h0_67 : Value) (h0_68 : Value) (h0_69 : Value) : Met l yX12_note u_c_X12_note ({ frames := 1, cells := 0, slots := 0, locals := 21 }) (va_Pc [.ref h0, .int p1, .int p2, .int p3, .int p4] (z_C (dC, dI) vwCl [(h0, .inr (12, [h0_0, h0_1, h0_2, .int 0, .int 0, h0_5, h0_6, h0_7, h0_8, h0_9, h0_10, h0_11, h0_12, h0_13, h0_14, h0_15, h0_16, h0_17, h0_18, h0_19, h0_20, h0_21, h0_22, h0_23, h0_24, h0_25, h0_26, h0_27, h0_28, h0_29, h0_30, h0_31, h0_32, h0_33, h0_34, h0_35, h0_36, h0_37, h0_38, h0_39, h0_40, h0_41, h0_42, h0_43, h0_44, h0_45, h0_46, h0_47, h0_48, h0_49, h0_50, h0_51, h0_52, h0_53, h0_54, h0_55, h0_56, h0_57, h0_58, h0_59, h0_60, h0_61, h0_62, h0_63, h0_64, h0_65, h0_66, h0_67, h0_68, h0_69]))] [] sz)) (va_Qi (fun (r : Int32) (_ : Unit) => r = (-1)) (fun (_ : Unit) (_ : State) => True) (va_A [(h0, .inr (12, [h0_0, h0_1, h0_2, .int 0, .int 0, h0_5, h0_6, h0_7, h0_8, h0_9, h0_10, h0_11, h0_12, h0_13, h0_14, h0_15, h0_16, h0_17, h0_18, h0_19, h0_20, h0_21, h0_22, h0_23, h0_24, h0_25, h0_26, h0_27, h0_28, h0_29, h0_30, h0_31, h0_32, h0_33, h0_34, h0_35, h0_36, h0_37, h0_38, h0_39, h0_40, h0_41, h0_42, h0_43, h0_44, h0_45, h0_46, h0_47, h0_48, h0_49, h0_50, h0_51, h0_52, h0_53, h0_54, h0_55, h0_56, h0_57, h0_58, h0_59, h0_60, h0_61, h0_62, h0_63, h0_64, h0_65, h0_66, h0_67, h0_68, h0_69]))] sz)) 0 0 (va_A [(h0, .inr (12, [h0_0, h0_1, h0_2, .int 0, .int 0, h0_5, h0_6, h0_7, h0_8, h0_9, h0_10, h0_11, h0_12, h0_13, h0_14, h0_15, h0_16, h0_17, h0_18, h0_19, h0_20, h0_21, h0_22, h0_23, h0_24, h0_25, h0_26, h0_27, h0_28, h0_29, h0_30, h0_31, h0_32, h0_33, h0_34, h0_35, h0_36, h0_37, h0_38, h0_39, h0_40, h0_41, h0_42, h0_43, h0_44, h0_45, h0_46, h0_47, h0_48, h0_49, h0_50, h0_51, h0_52, h0_53, h0_54, h0_55, h0_56, h0_57, h0_58, h0_59, h0_60, h0_61, h0_62, h0_63, h0_64, h0_65, h0_66, h0_67, h0_68, h0_69]))] sz) := by
  refine Met.ofW (cc := cX12_note) (maxL := 5) (ret := (some .int)) (by decide) rfl ?_
  intro p e s m args below meth c s₁ B hml hv
  obtain ⟨rfl, hsz, hP, hK, hD0⟩ := hv
  have hx := B.exec
  have hb := B.bytes
  have hr := B.returns
  have hts := atoms_spec (ws := u_c_X12_note) B.pre
  have hown : s.vm.findClass RX12 = some m.cls := findClass_of_methodNamed B.named
  have hlocks := B.notSynchronized
  subst hsz
  have hD := hD0.self (sz := s.heap.size)
  generalize hAe : va_A [(h0, .inr (12, [h0_0, h0_1, h0_2, .int 0, .int 0, h0_5, h0_6, h0_7, h0_8, h0_9, h0_10, h0_11, h0_12, h0_13, h0_14, h0_15, h0_16, h0_17, h0_18, h0_19, h0_20, h0_21, h0_22, h0_23, h0_24, h0_25, h0_26, h0_27, h0_28, h0_29, h0_30, h0_31, h0_32, h0_33, h0_34, h0_35, h0_36, h0_37, h0_38, h0_39, h0_40, h0_41, h0_42, h0_43, h0_44, h0_45, h0_46, h0_47, h0_48, h0_49, h0_50, h0_51, h0_52, h0_53, h0_54, h0_55, h0_56, h0_57, h0_58, h0_59, h0_60, h0_61, h0_62, h0_63, h0_64, h0_65, h0_66, h0_67, h0_68, h0_69]))] s.heap.size = A at hD ⊢
  have hA : ∀ q : Nat, s.heap.size ≤ q → A q := fun q h => by rw [← hAe]; exact Or.inr h
  have hS : va_S A s.heap s.heap [] := va_S.rf
  have hP : va_P (dC, dI) vwCl [(h0, .inr (12, [h0_0, h0_1, h0_2, .int 0, .int 0, h0_5, h0_6, h0_7, h0_8, h0_9, h0_10, h0_11, h0_12, h0_13, h0_14, h0_15, h0_16, h0_17, h0_18, h0_19, h0_20, h0_21, h0_22, h0_23, h0_24, h0_25, h0_26, h0_27, h0_28, h0_29, h0_30, h0_31, h0_32, h0_33, h0_34, h0_35, h0_36, h0_37, h0_38, h0_39, h0_40, h0_41, h0_42, h0_43, h0_44, h0_45, h0_46, h0_47, h0_48, h0_49, h0_50, h0_51, h0_52, h0_53, h0_54, h0_55, h0_56, h0_57, h0_58, h0_59, h0_60, h0_61, h0_62, h0_63, h0_64, h0_65, h0_66, h0_67, h0_68, h0_69]))] s.heap := hP
  have w__fieldLink_RX12_145_ShellHeapModel_thrown_I_ := hts (.fieldLink RX12 145 "ShellHeapModel" "thrown" "I") (by decide +kernel)
  have hiX12 := show ∀ w ∈ u_ws RX12 TX12 70, w ∈ u_c_X12_note by decide +kernel
  have w__fieldLink_RX12_154_ShellHeapModel_notes_I_ := hts (.fieldLink RX12 154 "ShellHeapModel" "notes" "I") (by decide +kernel)
  have hl := lv_entry ([.ref h0, .int p1, .int p2, .int p3, .int p4]) (n := 5) (Nat.le_of_ble_eq_true rfl)
  rw [lg_entry_eq]
  generalize (lg_sl ([.ref h0, .int p1, .int p2, .int p3, .int p4]) ++ List.replicate (5 - (lg_sl ([.ref h0, .int p1, .int p2, .int p3, .int p4])).length) Slot.unset).toArray = ls at hl ⊢
  have hl : lv_has ls 5 [(0, .ref h0), (1, .int p1), (2, .int p2), (3, .int p3), (4, .int p4)] := hl
  refine lv_aload_n hx hb dX12_note_0 rfl (lv_at hl 0 rfl) ?_
  refine lv_iconst (v := 0) hx hb dX12_note_1 (by decide) ?_
  refine va_put (D := (dC, dI)) (ci := 12) (v := .int 0) (ty := .int) (C := RX12) (T := TX12) (N := 70) hx hb hts hiX12 tyX12 tyX12_ok nmX12 hown hK hP hD hS 0 rfl rfl 2 (by decide) w__fieldLink_RX12_145_ShellHeapModel_thrown_I_ (fun _ h9 => h9) rfl (by decide +kernel) rfl rfl (Nat.le_of_ble_eq_true rfl) dX12_note_2 (fun H_1 locs hP hD hS => ?_)
  have hP : va_P (dC, dI) vwCl [(h0, .inr (12, [h0_0, h0_1, .int 0, .int 0, .int 0, h0_5, h0_6, h0_7, h0_8, h0_9, h0_10, h0_11, h0_12, h0_13, h0_14, h0_15, h0_16, h0_17, h0_18, h0_19, h0_20, h0_21, h0_22, h0_23, h0_24, h0_25, h0_26, h0_27, h0_28, h0_29, h0_30, h0_31, h0_32, h0_33, h0_34, h0_35, h0_36, h0_37, h0_38, h0_39, h0_40, h0_41, h0_42, h0_43, h0_44, h0_45, h0_46, h0_47, h0_48, h0_49, h0_50, h0_51, h0_52, h0_53, h0_54, h0_55, h0_56, h0_57, h0_58, h0_59, h0_60, h0_61, h0_62, h0_63, h0_64, h0_65, h0_66, h0_67, h0_68, h0_69]))] H_1 := hP
  have hD : va_D A [(h0, .inr (12, [h0_0, h0_1, .int 0, .int 0, .int 0, h0_5, h0_6, h0_7, h0_8, h0_9, h0_10, h0_11, h0_12, h0_13, h0_14, h0_15, h0_16, h0_17, h0_18, h0_19, h0_20, h0_21, h0_22, h0_23, h0_24, h0_25, h0_26, h0_27, h0_28, h0_29, h0_30, h0_31, h0_32, h0_33, h0_34, h0_35, h0_36, h0_37, h0_38, h0_39, h0_40, h0_41, h0_42, h0_43, h0_44, h0_45, h0_46, h0_47, h0_48, h0_49, h0_50, h0_51, h0_52, h0_53, h0_54, h0_55, h0_56, h0_57, h0_58, h0_59, h0_60, h0_61, h0_62, h0_63, h0_64, h0_65, h0_66, h0_67, h0_68, h0_69]))] := hD
  refine lv_iload_n hx hb dX12_note_5 rfl (lv_at hl 1 rfl) ?_
  refine lv_if_lt (tgt := 31) hx hb dX12_note_6 (by decide) (fun c_2 => ?_) (fun c_2 => ?_)
  · have k_3 : (p1).toInt < (0 : Int) := z_lt c_2
    refine lv_iconst (v := (-1)) hx hb dX12_note_31 (by decide) ?_
    refine W.widen (k := 0) (n := 0) (Nat.le_of_ble_eq_true rfl) (Nat.le_of_ble_eq_true rfl) ?_
    exact W.iret (v := (-1)) hx hb hr (fun t ht hW => ⟨⟨(-1), (), rfl, rfl, trivial⟩, hS.F ht⟩) hS.2.2 dX12_note_32
  · have k_4 : (p1).toInt ≥ (0 : Int) := z_nlt c_2
    refine lv_iload_n hx hb dX12_note_9 rfl (lv_at hl 1 rfl) ?_
    refine lv_iconst (v := 3) hx hb dX12_note_10 (by decide) ?_
    refine lv_icmp_gt (tgt := 31) hx hb dX12_note_11 (by decide) (fun c_5 => ?_) (fun c_5 => ?_)
    · have k_6 : (3 : Int) < (p1).toInt := z_lt c_5
      refine lv_iconst (v := (-1)) hx hb dX12_note_31 (by decide) ?_
      refine W.widen (k := 0) (n := 0) (Nat.le_of_ble_eq_true rfl) (Nat.le_of_ble_eq_true rfl) ?_
      exact W.iret (v := (-1)) hx hb hr (fun t ht hW => ⟨⟨(-1), (), rfl, rfl, trivial⟩, hS.F ht⟩) hS.2.2 dX12_note_32
    · have k_7 : (3 : Int) ≥ (p1).toInt := z_nlt c_5
      refine lv_aload_n hx hb dX12_note_14 rfl (lv_at hl 0 rfl) ?_
      refine va_get (D := (dC, dI)) (ci := 12) (v := .int 0) (C := RX12) (T := TX12) (N := 70) hx hb hts hiX12 hown hK hP 0 rfl rfl 4 (by decide) w__fieldLink_RX12_154_ShellHeapModel_notes_I_ (fun _ h9 => h9) rfl dX12_note_15 ?_
      refine lv_bipush (v := 80) hx hb dX12_note_18 (by decide) ?_
      refine lv_icmp_eq (tgt := 31) hx hb dX12_note_20 (by decide) (fun c_8 => absurd c_8 (by decide)) (fun _ => ?_)
      refine lv_aload_n hx hb dX12_note_23 rfl (lv_at hl 0 rfl) ?_
      refine lv_iload_n hx hb dX12_note_24 rfl (lv_at hl 2 rfl) ?_
      have hPc := hP.sub (ws' := [(h0, .inr (12, [h0_0, h0_1, .int 0, .int 0, .int 0, h0_5, h0_6, h0_7, h0_8, h0_9, h0_10, h0_11, h0_12, h0_13, h0_14, h0_15, h0_16, h0_17, h0_18, h0_19, h0_20, h0_21, h0_22, h0_23, h0_24, h0_25, h0_26, h0_27, h0_28, h0_29, h0_30, h0_31, h0_32, h0_33, h0_34, h0_35, h0_36, h0_37, h0_38, h0_39, h0_40, h0_41, h0_42, h0_43, h0_44, h0_45, h0_46, h0_47, h0_48, h0_49, h0_50, h0_51, h0_52, h0_53, h0_54, h0_55, h0_56, h0_57, h0_58, h0_59, h0_60, h0_61, h0_62, h0_63, h0_64, h0_65, h0_66, h0_67, h0_68, h0_69]))]) [0] rfl
      have hDc := hD.sub (ws' := [(h0, .inr (12, [h0_0, h0_1, .int 0, .int 0, .int 0, h0_5, h0_6, h0_7, h0_8, h0_9, h0_10, h0_11, h0_12, h0_13, h0_14, h0_15, h0_16, h0_17, h0_18, h0_19, h0_20, h0_21, h0_22, h0_23, h0_24, h0_25, h0_26, h0_27, h0_28, h0_29, h0_30, h0_31, h0_32, h0_33, h0_34, h0_35, h0_36, h0_37, h0_38, h0_39, h0_40, h0_41, h0_42, h0_43, h0_44, h0_45, h0_46, h0_47, h0_48, h0_49, h0_50, h0_51, h0_52, h0_53, h0_54, h0_55, h0_56, h0_57, h0_58, h0_59, h0_60, h0_61, h0_62, h0_63, h0_64, h0_65, h0_66, h0_67, h0_68, h0_69]))]) [0] (by decide) rfl
      have hKc := hK.sub (tys' := []) [] rfl
      have hFc := va_free (ws := []) (wc := []) (z_D0 _) hS hA [] rfl
      refine va_calli (va_runV (As := [.int p2]) (rest := []) ⟨hx, hb, hml, hown, hts⟩ (c_X12_isLayer l dC dI H_1.size h0 p2 h0_0 h0_1 (.int 0) (.int 0) h0_5 h0_6 h0_7 h0_8 h0_9 h0_10 h0_11 h0_12 h0_13 h0_14 h0_15 h0_16 h0_17 h0_18 h0_19 h0_20 h0_21 h0_22 h0_23 h0_24 h0_25 h0_26 h0_27 h0_28 h0_29 h0_30 h0_31 h0_32 h0_33 h0_34 h0_35 h0_36 h0_37 h0_38 h0_39 h0_40 h0_41 h0_42 h0_43 h0_44 h0_45 h0_46 h0_47 h0_48 h0_49 h0_50 h0_51 h0_52 h0_53 h0_54 h0_55 h0_56 h0_57 h0_58 h0_59 h0_60 h0_61 h0_62 h0_63 h0_64 h0_65 h0_66 h0_67 h0_68 h0_69) (cwV 1 hts gw_c_X12_note_c_X12_isLayer_157 rfl rfl rfl (by decide +kernel) ⟨Nat.le_of_ble_eq_true rfl, Nat.le_of_ble_eq_true rfl⟩) ⟨z_blind, va_recv hKc hPc (ci := 12) (q0 := 0) rfl rfl, z_pre hPc hKc hDc⟩ rfl rfl hl.1 rfl (lv_room (Nat.le_of_ble_eq_true rfl)) dX12_note_25 ⟨Nat.le_of_ble_eq_true rfl, Nat.le_of_ble_eq_true rfl⟩) hS (fun q _ h => hFc q h) hFc (fun r_10 u t H_9 locs ht hvm hw_11 hB hz1 hk1 hS => ?_)
      have hP := z_pure hP hk1
      have hP : va_P (dC, dI) vwCl [(h0, .inr (12, [h0_0, h0_1, .int 0, .int 0, .int 0, h0_5, h0_6, h0_7, h0_8, h0_9, h0_10, h0_11, h0_12, h0_13, h0_14, h0_15, h0_16, h0_17, h0_18, h0_19, h0_20, h0_21, h0_22, h0_23, h0_24, h0_25, h0_26, h0_27, h0_28, h0_29, h0_30, h0_31, h0_32, h0_33, h0_34, h0_35, h0_36, h0_37, h0_38, h0_39, h0_40, h0_41, h0_42, h0_43, h0_44, h0_45, h0_46, h0_47, h0_48, h0_49, h0_50, h0_51, h0_52, h0_53, h0_54, h0_55, h0_56, h0_57, h0_58, h0_59, h0_60, h0_61, h0_62, h0_63, h0_64, h0_65, h0_66, h0_67, h0_68, h0_69]))] H_9 := hP
      have hD : va_D A [(h0, .inr (12, [h0_0, h0_1, .int 0, .int 0, .int 0, h0_5, h0_6, h0_7, h0_8, h0_9, h0_10, h0_11, h0_12, h0_13, h0_14, h0_15, h0_16, h0_17, h0_18, h0_19, h0_20, h0_21, h0_22, h0_23, h0_24, h0_25, h0_26, h0_27, h0_28, h0_29, h0_30, h0_31, h0_32, h0_33, h0_34, h0_35, h0_36, h0_37, h0_38, h0_39, h0_40, h0_41, h0_42, h0_43, h0_44, h0_45, h0_46, h0_47, h0_48, h0_49, h0_50, h0_51, h0_52, h0_53, h0_54, h0_55, h0_56, h0_57, h0_58, h0_59, h0_60, h0_61, h0_62, h0_63, h0_64, h0_65, h0_66, h0_67, h0_68, h0_69]))] := hD
      clear hPc hDc hKc
      obtain rfl : r_10 = 0 := hw_11
      refine lv_if_ne (tgt := 33) hx hb dX12_note_28 (by decide) (fun c_12 => absurd c_12 (by decide)) (fun _ => ?_)
      refine lv_iconst (v := (-1)) hx hb dX12_note_31 (by decide) ?_
      refine W.widen (k := 0) (n := 0) (Nat.le_of_ble_eq_true rfl) (Nat.le_of_ble_eq_true rfl) ?_
      exact W.iret (v := (-1)) hx hb hr (fun t ht hW => ⟨⟨(-1), (), rfl, rfl, trivial⟩, hS.F ht⟩) hS.2.2 dX12_note_32
def u_c_X12_strike : List Cond := .code yX12_strike cX12_strike 2 (some .int) :: ([.fieldLink RX12 145 "ShellHeapModel" "thrown" "I", .fieldLink RX12 154 "ShellHeapModel" "notes" "I"] ++ wsX120)
set_option maxHeartbeats 4000000 in
set_option maxRecDepth 100000 in
theorem c_X12_strike (l : Launch) (dC : Nat → ClassId) (dI : Nat → Nat → Nat) (sz : Nat) (h0 : Nat) (p1 : Int32) (h0_0 : Value) (h0_1 : Value) (h0_2 : Value) (h0_5 : Value) (h0_6 : Value) (h0_7 : Value) (h0_8 : Value) (h0_9 : Value) (h0_10 : Value) (h0_11 : Value) (h0_12 : Value) (h0_13 : Value) (h0_14 : Value) (h0_15 : Value) (h0_16 : Value) (h0_17 : Value) (h0_18 : Value) (h0_19 : Value) (h0_20 : Value) (h0_21 : Value) (h0_22 : Value) (h0_23 : Value) (h0_24 : Value) (h0_25 : Value) (h0_26 : Value) (h0_27 : Value) (h0_28 : Value) (h0_29 : Value) (h0_30 : Value) (h0_31 : Value) (h0_32 : Value) (h0_33 : Value) (h0_34 : Value) (h0_35 : Value) (h0_36 : Value) (h0_37 : Value) (h0_38 : Value) (h0_39 : Value) (h0_40 : Value) (h0_41 : Value) (h0_42 : Value) (h0_43 : Value) (h0_44 : Value) (h0_45 : Value) (h0_46 : Value) (h0_47 : Value) (h0_48 : Value) (h0_49 : Value) (h0_50 : Value) (h0_51 : Value) (h0_52 : Value) (h0_53 : Value) (h0_54 : Value) (h0_55 : Value) (h0_56 : Value) (h0_57 : Value) (h0_58 : Value) (h0_59 : Value) (h0_60 : Value) (h0_61 : Value) (h0_62 : Value) (h0_63 : Value) (h0_64 : Value) (h0_65 : Value) (h0_66 : Value) (h0_67 : Value) (h0_68 : Value) (h0_69 : Value) : Met l yX12_strike u_c_X12_strike ({ frames := 0, cells := 0, slots := 0, locals := 0 }) (va_Pc [.ref h0, .int p1] (z_C (dC, dI) vwCl [(h0, .inr (12, [h0_0, h0_1, h0_2, .int 0, .int 0, h0_5, h0_6, h0_7, h0_8, h0_9, h0_10, h0_11, h0_12, h0_13, h0_14, h0_15, h0_16, h0_17, h0_18, h0_19, h0_20, h0_21, h0_22, h0_23, h0_24, h0_25, h0_26, h0_27, h0_28, h0_29, h0_30, h0_31, h0_32, h0_33, h0_34, h0_35, h0_36, h0_37, h0_38, h0_39, h0_40, h0_41, h0_42, h0_43, h0_44, h0_45, h0_46, h0_47, h0_48, h0_49, h0_50, h0_51, h0_52, h0_53, h0_54, h0_55, h0_56, h0_57, h0_58, h0_59, h0_60, h0_61, h0_62, h0_63, h0_64, h0_65, h0_66, h0_67, h0_68, h0_69]))] [] sz)) (va_Qi (fun (r : Int32) (_ : Unit) => r = (-1)) (fun (_ : Unit) (_ : State) => True) (va_A [(h0, .inr (12, [h0_0, h0_1, h0_2, .int 0, .int 0, h0_5, h0_6, h0_7, h0_8, h0_9, h0_10, h0_11, h0_12, h0_13, h0_14, h0_15, h0_16, h0_17, h0_18, h0_19, h0_20, h0_21, h0_22, h0_23, h0_24, h0_25, h0_26, h0_27, h0_28, h0_29, h0_30, h0_31, h0_32, h0_33, h0_34, h0_35, h0_36, h0_37, h0_38, h0_39, h0_40, h0_41, h0_42, h0_43, h0_44, h0_45, h0_46, h0_47, h0_48, h0_49, h0_50, h0_51, h0_52, h0_53, h0_54, h0_55, h0_56, h0_57, h0_58, h0_59, h0_60, h0_61, h0_62, h0_63, h0_64, h0_65, h0_66, h0_67, h0_68, h0_69]))] sz)) 0 0 (va_A [(h0, .inr (12, [h0_0, h0_1, h0_2, .int 0, .int 0, h0_5, h0_6, h0_7, h0_8, h0_9, h0_10, h0_11, h0_12, h0_13, h0_14, h0_15, h0_16, h0_17, h0_18, h0_19, h0_20, h0_21, h0_22, h0_23, h0_24, h0_25, h0_26, h0_27, h0_28, h0_29, h0_30, h0_31, h0_32, h0_33, h0_34, h0_35, h0_36, h0_37, h0_38, h0_39, h0_40, h0_41, h0_42, h0_43, h0_44, h0_45, h0_46, h0_47, h0_48, h0_49, h0_50, h0_51, h0_52, h0_53, h0_54, h0_55, h0_56, h0_57, h0_58, h0_59, h0_60, h0_61, h0_62, h0_63, h0_64, h0_65, h0_66, h0_67, h0_68, h0_69]))] sz) := by
  refine Met.ofW (cc := cX12_strike) (maxL := 2) (ret := (some .int)) (by decide) rfl ?_
  intro p e s m args below meth c s₁ B hml hv
  obtain ⟨rfl, hsz, hP, hK, hD0⟩ := hv
  have hx := B.exec
  have hb := B.bytes
  have hr := B.returns
  have hts := atoms_spec (ws := u_c_X12_strike) B.pre
  have hown : s.vm.findClass RX12 = some m.cls := findClass_of_methodNamed B.named
  have hlocks := B.notSynchronized
  subst hsz
  have hD := hD0.self (sz := s.heap.size)
  generalize hAe : va_A [(h0, .inr (12, [h0_0, h0_1, h0_2, .int 0, .int 0, h0_5, h0_6, h0_7, h0_8, h0_9, h0_10, h0_11, h0_12, h0_13, h0_14, h0_15, h0_16, h0_17, h0_18, h0_19, h0_20, h0_21, h0_22, h0_23, h0_24, h0_25, h0_26, h0_27, h0_28, h0_29, h0_30, h0_31, h0_32, h0_33, h0_34, h0_35, h0_36, h0_37, h0_38, h0_39, h0_40, h0_41, h0_42, h0_43, h0_44, h0_45, h0_46, h0_47, h0_48, h0_49, h0_50, h0_51, h0_52, h0_53, h0_54, h0_55, h0_56, h0_57, h0_58, h0_59, h0_60, h0_61, h0_62, h0_63, h0_64, h0_65, h0_66, h0_67, h0_68, h0_69]))] s.heap.size = A at hD ⊢
  have hA : ∀ q : Nat, s.heap.size ≤ q → A q := fun q h => by rw [← hAe]; exact Or.inr h
  have hS : va_S A s.heap s.heap [] := va_S.rf
  have hP : va_P (dC, dI) vwCl [(h0, .inr (12, [h0_0, h0_1, h0_2, .int 0, .int 0, h0_5, h0_6, h0_7, h0_8, h0_9, h0_10, h0_11, h0_12, h0_13, h0_14, h0_15, h0_16, h0_17, h0_18, h0_19, h0_20, h0_21, h0_22, h0_23, h0_24, h0_25, h0_26, h0_27, h0_28, h0_29, h0_30, h0_31, h0_32, h0_33, h0_34, h0_35, h0_36, h0_37, h0_38, h0_39, h0_40, h0_41, h0_42, h0_43, h0_44, h0_45, h0_46, h0_47, h0_48, h0_49, h0_50, h0_51, h0_52, h0_53, h0_54, h0_55, h0_56, h0_57, h0_58, h0_59, h0_60, h0_61, h0_62, h0_63, h0_64, h0_65, h0_66, h0_67, h0_68, h0_69]))] s.heap := hP
  have w__fieldLink_RX12_145_ShellHeapModel_thrown_I_ := hts (.fieldLink RX12 145 "ShellHeapModel" "thrown" "I") (by decide +kernel)
  have hiX12 := show ∀ w ∈ u_ws RX12 TX12 70, w ∈ u_c_X12_strike by decide +kernel
  have w__fieldLink_RX12_154_ShellHeapModel_notes_I_ := hts (.fieldLink RX12 154 "ShellHeapModel" "notes" "I") (by decide +kernel)
  have hl := lv_entry ([.ref h0, .int p1]) (n := 2) (Nat.le_of_ble_eq_true rfl)
  rw [lg_entry_eq]
  generalize (lg_sl ([.ref h0, .int p1]) ++ List.replicate (2 - (lg_sl ([.ref h0, .int p1])).length) Slot.unset).toArray = ls at hl ⊢
  have hl : lv_has ls 2 [(0, .ref h0), (1, .int p1)] := hl
  refine lv_aload_n hx hb dX12_strike_0 rfl (lv_at hl 0 rfl) ?_
  refine lv_iconst (v := 0) hx hb dX12_strike_1 (by decide) ?_
  refine va_put (D := (dC, dI)) (ci := 12) (v := .int 0) (ty := .int) (C := RX12) (T := TX12) (N := 70) hx hb hts hiX12 tyX12 tyX12_ok nmX12 hown hK hP hD hS 0 rfl rfl 2 (by decide) w__fieldLink_RX12_145_ShellHeapModel_thrown_I_ (fun _ h9 => h9) rfl (by decide +kernel) rfl rfl (Nat.le_of_ble_eq_true rfl) dX12_strike_2 (fun H_1 locs hP hD hS => ?_)
  have hP : va_P (dC, dI) vwCl [(h0, .inr (12, [h0_0, h0_1, .int 0, .int 0, .int 0, h0_5, h0_6, h0_7, h0_8, h0_9, h0_10, h0_11, h0_12, h0_13, h0_14, h0_15, h0_16, h0_17, h0_18, h0_19, h0_20, h0_21, h0_22, h0_23, h0_24, h0_25, h0_26, h0_27, h0_28, h0_29, h0_30, h0_31, h0_32, h0_33, h0_34, h0_35, h0_36, h0_37, h0_38, h0_39, h0_40, h0_41, h0_42, h0_43, h0_44, h0_45, h0_46, h0_47, h0_48, h0_49, h0_50, h0_51, h0_52, h0_53, h0_54, h0_55, h0_56, h0_57, h0_58, h0_59, h0_60, h0_61, h0_62, h0_63, h0_64, h0_65, h0_66, h0_67, h0_68, h0_69]))] H_1 := hP
  have hD : va_D A [(h0, .inr (12, [h0_0, h0_1, .int 0, .int 0, .int 0, h0_5, h0_6, h0_7, h0_8, h0_9, h0_10, h0_11, h0_12, h0_13, h0_14, h0_15, h0_16, h0_17, h0_18, h0_19, h0_20, h0_21, h0_22, h0_23, h0_24, h0_25, h0_26, h0_27, h0_28, h0_29, h0_30, h0_31, h0_32, h0_33, h0_34, h0_35, h0_36, h0_37, h0_38, h0_39, h0_40, h0_41, h0_42, h0_43, h0_44, h0_45, h0_46, h0_47, h0_48, h0_49, h0_50, h0_51, h0_52, h0_53, h0_54, h0_55, h0_56, h0_57, h0_58, h0_59, h0_60, h0_61, h0_62, h0_63, h0_64, h0_65, h0_66, h0_67, h0_68, h0_69]))] := hD
  refine lv_iload_n hx hb dX12_strike_5 rfl (lv_at hl 1 rfl) ?_
  refine lv_if_lt (tgt := 26) hx hb dX12_strike_6 (by decide) (fun c_2 => ?_) (fun c_2 => ?_)
  · have k_3 : (p1).toInt < (0 : Int) := z_lt c_2
    refine lv_iconst (v := (-1)) hx hb dX12_strike_26 (by decide) ?_
    refine W.widen (k := 0) (n := 0) (Nat.le_of_ble_eq_true rfl) (Nat.le_of_ble_eq_true rfl) ?_
    exact W.iret (v := (-1)) hx hb hr (fun t ht hW => ⟨⟨(-1), (), rfl, rfl, trivial⟩, hS.F ht⟩) hS.2.2 dX12_strike_27
  · have k_4 : (p1).toInt ≥ (0 : Int) := z_nlt c_2
    refine lv_iload_n hx hb dX12_strike_9 rfl (lv_at hl 1 rfl) ?_
    refine lv_aload_n hx hb dX12_strike_10 rfl (lv_at hl 0 rfl) ?_
    refine va_get (D := (dC, dI)) (ci := 12) (v := .int 0) (C := RX12) (T := TX12) (N := 70) hx hb hts hiX12 hown hK hP 0 rfl rfl 4 (by decide) w__fieldLink_RX12_154_ShellHeapModel_notes_I_ (fun _ h9 => h9) rfl dX12_strike_11 ?_
    refine lv_icmp_ge (tgt := 26) hx hb dX12_strike_14 (by decide) (fun _ => ?_) (fun c_5 => ?_)
    rotate_left
    · exfalso
      have k_6 : (0 : Int) > (p1).toInt := z_nle c_5
      omega
    refine lv_iconst (v := (-1)) hx hb dX12_strike_26 (by decide) ?_
    refine W.widen (k := 0) (n := 0) (Nat.le_of_ble_eq_true rfl) (Nat.le_of_ble_eq_true rfl) ?_
    exact W.iret (v := (-1)) hx hb hr (fun t ht hW => ⟨⟨(-1), (), rfl, rfl, trivial⟩, hS.F ht⟩) hS.2.2 dX12_strike_27
def u_c_X12_bed : List Cond := .code yX12_bed cX12_bed 5 (some .int) :: ([.fieldLink RX12 145 "ShellHeapModel" "thrown" "I", .methodLink RX12 170 yX12_isKnown, .instanceMethod yX12_isKnown, .selects RX12 yX12_isKnown yX12_isKnown, .initialized RX12, .code yX12_isKnown cX12_isKnown 2 (some .boolean), .fieldLink RX12 154 "ShellHeapModel" "notes" "I", .methodLink RX12 157 yX12_isLayer, .instanceMethod yX12_isLayer, .selects RX12 yX12_isLayer yX12_isLayer, .code yX12_isLayer cX12_isLayer 2 (some .boolean), .fieldLink RX12 151 "ShellHeapModel" "layers" "I"] ++ wsX120)
set_option maxRecDepth 20000 in
theorem gw_c_X12_bed_c_X12_isKnown_170 : GoodIn u_c_X12_bed (wsV RX12 170 RX12 yX12_isKnown u_c_X12_isKnown) := goodIn_r _ [2, 3, 4, 5, 6, 7, 13, 14, 15, 16, 17, 18, 19, 20, 21, 22, 23, 24, 25, 26, 27, 28, 29, 30, 31, 32, 33, 34, 35, 36, 37, 38, 39, 40, 41, 42, 43, 44, 45, 46, 47, 48, 49, 50, 51, 52, 53, 54, 55, 56, 57, 58, 59, 60, 61, 62, 63, 64, 65, 66, 67, 68, 69, 70, 71, 72, 73, 74, 75, 76, 77, 78, 79, 80, 81, 82] (by decide +kernel) (by decide +kernel)
set_option maxRecDepth 20000 in
theorem gw_c_X12_bed_c_X12_isLayer_157 : GoodIn u_c_X12_bed (wsV RX12 157 RX12 yX12_isLayer u_c_X12_isLayer) := goodIn_r _ [8, 9, 10, 5, 11, 12, 13, 14, 15, 16, 17, 18, 19, 20, 21, 22, 23, 24, 25, 26, 27, 28, 29, 30, 31, 32, 33, 34, 35, 36, 37, 38, 39, 40, 41, 42, 43, 44, 45, 46, 47, 48, 49, 50, 51, 52, 53, 54, 55, 56, 57, 58, 59, 60, 61, 62, 63, 64, 65, 66, 67, 68, 69, 70, 71, 72, 73, 74, 75, 76, 77, 78, 79, 80, 81, 82] (by decide +kernel) (by decide +kernel)
set_option maxHeartbeats 4000000 in
set_option maxRecDepth 100000 in
theorem c_X12_bed (l : Launch) (dC : Nat → ClassId) (dI : Nat → Nat → Nat) (sz : Nat) (h0 : Nat) (p1 : Int32) (p2 : Int32) (p3 : Int32) (h0_0 : Value) (h0_1 : Value) (h0_2 : Value) (h0_5 : Value) (h0_6 : Value) (h0_7 : Value) (h0_8 : Value) (h0_9 : Value) (h0_10 : Value) (h0_11 : Value) (h0_12 : Value) (h0_13 : Value) (h0_14 : Value) (h0_15 : Value) (h0_16 : Value) (h0_17 : Value) (h0_18 : Value) (h0_19 : Value) (h0_20 : Value) (h0_21 : Value) (h0_22 : Value) (h0_23 : Value) (h0_24 : Value) (h0_25 : Value) (h0_26 : Value) (h0_27 : Value) (h0_28 : Value) (h0_29 : Value) (h0_30 : Value) (h0_31 : Value) (h0_32 : Value) (h0_33 : Value) (h0_34 : Value) (h0_35 : Value) (h0_36 : Value) (h0_37 : Value) (h0_38 : Value) (h0_39 : Value) (h0_40 : Value) (h0_41 : Value) (h0_42 : Value) (h0_43 : Value) (h0_44 : Value) (h0_45 : Value) (h0_46 : Value) (h0_47 : Value) (h0_48 : Value) (h0_49 : Value) (h0_50 : Value) (h0_51 : Value) (h0_52 : Value) (h0_53 : Value) (h0_54 : Value) (h0_55 : Value) (h0_56 : Value) (h0_57 : Value) (h0_58 : Value) (h0_59 : Value) (h0_60 : Value) (h0_61 : Value) (h0_62 : Value) (h0_63 : Value) (h0_64 : Value) (h0_65 : Value) (h0_66 : Value) (h0_67 : Value) (h0_68 : Value) (h0_69 : Value) : Met l yX12_bed u_c_X12_bed ({ frames := 1, cells := 0, slots := 0, locals := 21 }) (va_Pc [.ref h0, .int p1, .int p2, .int p3] (z_C (dC, dI) vwCl [(h0, .inr (12, [h0_0, h0_1, h0_2, .int 0, .int 0, h0_5, h0_6, h0_7, h0_8, h0_9, h0_10, h0_11, h0_12, h0_13, h0_14, h0_15, h0_16, h0_17, h0_18, h0_19, h0_20, h0_21, h0_22, h0_23, h0_24, h0_25, h0_26, h0_27, h0_28, h0_29, h0_30, h0_31, h0_32, h0_33, h0_34, h0_35, h0_36, h0_37, h0_38, h0_39, h0_40, h0_41, h0_42, h0_43, h0_44, h0_45, h0_46, h0_47, h0_48, h0_49, h0_50, h0_51, h0_52, h0_53, h0_54, h0_55, h0_56, h0_57, h0_58, h0_59, h0_60, h0_61, h0_62, h0_63, h0_64, h0_65, h0_66, h0_67, h0_68, h0_69]))] [] sz)) (va_Qi (fun (r : Int32) (_ : Unit) => r = (-2)) (fun (_ : Unit) (_ : State) => True) (va_A [(h0, .inr (12, [h0_0, h0_1, h0_2, .int 0, .int 0, h0_5, h0_6, h0_7, h0_8, h0_9, h0_10, h0_11, h0_12, h0_13, h0_14, h0_15, h0_16, h0_17, h0_18, h0_19, h0_20, h0_21, h0_22, h0_23, h0_24, h0_25, h0_26, h0_27, h0_28, h0_29, h0_30, h0_31, h0_32, h0_33, h0_34, h0_35, h0_36, h0_37, h0_38, h0_39, h0_40, h0_41, h0_42, h0_43, h0_44, h0_45, h0_46, h0_47, h0_48, h0_49, h0_50, h0_51, h0_52, h0_53, h0_54, h0_55, h0_56, h0_57, h0_58, h0_59, h0_60, h0_61, h0_62, h0_63, h0_64, h0_65, h0_66, h0_67, h0_68, h0_69]))] sz)) 0 0 (va_A [(h0, .inr (12, [h0_0, h0_1, h0_2, .int 0, .int 0, h0_5, h0_6, h0_7, h0_8, h0_9, h0_10, h0_11, h0_12, h0_13, h0_14, h0_15, h0_16, h0_17, h0_18, h0_19, h0_20, h0_21, h0_22, h0_23, h0_24, h0_25, h0_26, h0_27, h0_28, h0_29, h0_30, h0_31, h0_32, h0_33, h0_34, h0_35, h0_36, h0_37, h0_38, h0_39, h0_40, h0_41, h0_42, h0_43, h0_44, h0_45, h0_46, h0_47, h0_48, h0_49, h0_50, h0_51, h0_52, h0_53, h0_54, h0_55, h0_56, h0_57, h0_58, h0_59, h0_60, h0_61, h0_62, h0_63, h0_64, h0_65, h0_66, h0_67, h0_68, h0_69]))] sz) := by
  refine Met.ofW (cc := cX12_bed) (maxL := 5) (ret := (some .int)) (by decide) rfl ?_
  intro p e s m args below meth c s₁ B hml hv
  obtain ⟨rfl, hsz, hP, hK, hD0⟩ := hv
  have hx := B.exec
  have hb := B.bytes
  have hr := B.returns
  have hts := atoms_spec (ws := u_c_X12_bed) B.pre
  have hown : s.vm.findClass RX12 = some m.cls := findClass_of_methodNamed B.named
  have hlocks := B.notSynchronized
  subst hsz
  have hD := hD0.self (sz := s.heap.size)
  generalize hAe : va_A [(h0, .inr (12, [h0_0, h0_1, h0_2, .int 0, .int 0, h0_5, h0_6, h0_7, h0_8, h0_9, h0_10, h0_11, h0_12, h0_13, h0_14, h0_15, h0_16, h0_17, h0_18, h0_19, h0_20, h0_21, h0_22, h0_23, h0_24, h0_25, h0_26, h0_27, h0_28, h0_29, h0_30, h0_31, h0_32, h0_33, h0_34, h0_35, h0_36, h0_37, h0_38, h0_39, h0_40, h0_41, h0_42, h0_43, h0_44, h0_45, h0_46, h0_47, h0_48, h0_49, h0_50, h0_51, h0_52, h0_53, h0_54, h0_55, h0_56, h0_57, h0_58, h0_59, h0_60, h0_61, h0_62, h0_63, h0_64, h0_65, h0_66, h0_67, h0_68, h0_69]))] s.heap.size = A at hD ⊢
  have hA : ∀ q : Nat, s.heap.size ≤ q → A q := fun q h => by rw [← hAe]; exact Or.inr h
  have hS : va_S A s.heap s.heap [] := va_S.rf
  have hP : va_P (dC, dI) vwCl [(h0, .inr (12, [h0_0, h0_1, h0_2, .int 0, .int 0, h0_5, h0_6, h0_7, h0_8, h0_9, h0_10, h0_11, h0_12, h0_13, h0_14, h0_15, h0_16, h0_17, h0_18, h0_19, h0_20, h0_21, h0_22, h0_23, h0_24, h0_25, h0_26, h0_27, h0_28, h0_29, h0_30, h0_31, h0_32, h0_33, h0_34, h0_35, h0_36, h0_37, h0_38, h0_39, h0_40, h0_41, h0_42, h0_43, h0_44, h0_45, h0_46, h0_47, h0_48, h0_49, h0_50, h0_51, h0_52, h0_53, h0_54, h0_55, h0_56, h0_57, h0_58, h0_59, h0_60, h0_61, h0_62, h0_63, h0_64, h0_65, h0_66, h0_67, h0_68, h0_69]))] s.heap := hP
  have w__fieldLink_RX12_145_ShellHeapModel_thrown_I_ := hts (.fieldLink RX12 145 "ShellHeapModel" "thrown" "I") (by decide +kernel)
  have hiX12 := show ∀ w ∈ u_ws RX12 TX12 70, w ∈ u_c_X12_bed by decide +kernel
  have hl := lv_entry ([.ref h0, .int p1, .int p2, .int p3]) (n := 5) (Nat.le_of_ble_eq_true rfl)
  rw [lg_entry_eq]
  generalize (lg_sl ([.ref h0, .int p1, .int p2, .int p3]) ++ List.replicate (5 - (lg_sl ([.ref h0, .int p1, .int p2, .int p3])).length) Slot.unset).toArray = ls at hl ⊢
  have hl : lv_has ls 5 [(0, .ref h0), (1, .int p1), (2, .int p2), (3, .int p3)] := hl
  refine lv_aload_n hx hb dX12_bed_0 rfl (lv_at hl 0 rfl) ?_
  refine lv_iconst (v := 0) hx hb dX12_bed_1 (by decide) ?_
  refine va_put (D := (dC, dI)) (ci := 12) (v := .int 0) (ty := .int) (C := RX12) (T := TX12) (N := 70) hx hb hts hiX12 tyX12 tyX12_ok nmX12 hown hK hP hD hS 0 rfl rfl 2 (by decide) w__fieldLink_RX12_145_ShellHeapModel_thrown_I_ (fun _ h9 => h9) rfl (by decide +kernel) rfl rfl (Nat.le_of_ble_eq_true rfl) dX12_bed_2 (fun H_1 locs hP hD hS => ?_)
  have hP : va_P (dC, dI) vwCl [(h0, .inr (12, [h0_0, h0_1, .int 0, .int 0, .int 0, h0_5, h0_6, h0_7, h0_8, h0_9, h0_10, h0_11, h0_12, h0_13, h0_14, h0_15, h0_16, h0_17, h0_18, h0_19, h0_20, h0_21, h0_22, h0_23, h0_24, h0_25, h0_26, h0_27, h0_28, h0_29, h0_30, h0_31, h0_32, h0_33, h0_34, h0_35, h0_36, h0_37, h0_38, h0_39, h0_40, h0_41, h0_42, h0_43, h0_44, h0_45, h0_46, h0_47, h0_48, h0_49, h0_50, h0_51, h0_52, h0_53, h0_54, h0_55, h0_56, h0_57, h0_58, h0_59, h0_60, h0_61, h0_62, h0_63, h0_64, h0_65, h0_66, h0_67, h0_68, h0_69]))] H_1 := hP
  have hD : va_D A [(h0, .inr (12, [h0_0, h0_1, .int 0, .int 0, .int 0, h0_5, h0_6, h0_7, h0_8, h0_9, h0_10, h0_11, h0_12, h0_13, h0_14, h0_15, h0_16, h0_17, h0_18, h0_19, h0_20, h0_21, h0_22, h0_23, h0_24, h0_25, h0_26, h0_27, h0_28, h0_29, h0_30, h0_31, h0_32, h0_33, h0_34, h0_35, h0_36, h0_37, h0_38, h0_39, h0_40, h0_41, h0_42, h0_43, h0_44, h0_45, h0_46, h0_47, h0_48, h0_49, h0_50, h0_51, h0_52, h0_53, h0_54, h0_55, h0_56, h0_57, h0_58, h0_59, h0_60, h0_61, h0_62, h0_63, h0_64, h0_65, h0_66, h0_67, h0_68, h0_69]))] := hD
  refine lv_aload_n hx hb dX12_bed_5 rfl (lv_at hl 0 rfl) ?_
  refine lv_iload_n hx hb dX12_bed_6 rfl (lv_at hl 1 rfl) ?_
  have hPc := hP.sub (ws' := [(h0, .inr (12, [h0_0, h0_1, .int 0, .int 0, .int 0, h0_5, h0_6, h0_7, h0_8, h0_9, h0_10, h0_11, h0_12, h0_13, h0_14, h0_15, h0_16, h0_17, h0_18, h0_19, h0_20, h0_21, h0_22, h0_23, h0_24, h0_25, h0_26, h0_27, h0_28, h0_29, h0_30, h0_31, h0_32, h0_33, h0_34, h0_35, h0_36, h0_37, h0_38, h0_39, h0_40, h0_41, h0_42, h0_43, h0_44, h0_45, h0_46, h0_47, h0_48, h0_49, h0_50, h0_51, h0_52, h0_53, h0_54, h0_55, h0_56, h0_57, h0_58, h0_59, h0_60, h0_61, h0_62, h0_63, h0_64, h0_65, h0_66, h0_67, h0_68, h0_69]))]) [0] rfl
  have hDc := hD.sub (ws' := [(h0, .inr (12, [h0_0, h0_1, .int 0, .int 0, .int 0, h0_5, h0_6, h0_7, h0_8, h0_9, h0_10, h0_11, h0_12, h0_13, h0_14, h0_15, h0_16, h0_17, h0_18, h0_19, h0_20, h0_21, h0_22, h0_23, h0_24, h0_25, h0_26, h0_27, h0_28, h0_29, h0_30, h0_31, h0_32, h0_33, h0_34, h0_35, h0_36, h0_37, h0_38, h0_39, h0_40, h0_41, h0_42, h0_43, h0_44, h0_45, h0_46, h0_47, h0_48, h0_49, h0_50, h0_51, h0_52, h0_53, h0_54, h0_55, h0_56, h0_57, h0_58, h0_59, h0_60, h0_61, h0_62, h0_63, h0_64, h0_65, h0_66, h0_67, h0_68, h0_69]))]) [0] (by decide) rfl
  have hKc := hK.sub (tys' := []) [] rfl
  have hFc := va_free (ws := []) (wc := []) (z_D0 _) hS hA [] rfl
  refine va_calli (va_runV (As := [.int p1]) (rest := []) ⟨hx, hb, hml, hown, hts⟩ (c_X12_isKnown l dC dI H_1.size h0 p1 h0_0 h0_1 (.int 0) (.int 0) h0_5 h0_6 h0_7 h0_8 h0_9 h0_10 h0_11 h0_12 h0_13 h0_14 h0_15 h0_16 h0_17 h0_18 h0_19 h0_20 h0_21 h0_22 h0_23 h0_24 h0_25 h0_26 h0_27 h0_28 h0_29 h0_30 h0_31 h0_32 h0_33 h0_34 h0_35 h0_36 h0_37 h0_38 h0_39 h0_40 h0_41 h0_42 h0_43 h0_44 h0_45 h0_46 h0_47 h0_48 h0_49 h0_50 h0_51 h0_52 h0_53 h0_54 h0_55 h0_56 h0_57 h0_58 h0_59 h0_60 h0_61 h0_62 h0_63 h0_64 h0_65 h0_66 h0_67 h0_68 h0_69) (cwV 1 hts gw_c_X12_bed_c_X12_isKnown_170 rfl rfl rfl (by decide +kernel) ⟨Nat.le_of_ble_eq_true rfl, Nat.le_of_ble_eq_true rfl⟩) ⟨z_blind, va_recv hKc hPc (ci := 12) (q0 := 0) rfl rfl, z_pre hPc hKc hDc⟩ rfl rfl hl.1 rfl (lv_room (Nat.le_of_ble_eq_true rfl)) dX12_bed_7 ⟨Nat.le_of_ble_eq_true rfl, Nat.le_of_ble_eq_true rfl⟩) hS (fun q _ h => hFc q h) hFc (fun r_3 u t H_2 locs ht hvm hw_4 hB hz1 hk1 hS => ?_)
  have hP := z_pure hP hk1
  have hP : va_P (dC, dI) vwCl [(h0, .inr (12, [h0_0, h0_1, .int 0, .int 0, .int 0, h0_5, h0_6, h0_7, h0_8, h0_9, h0_10, h0_11, h0_12, h0_13, h0_14, h0_15, h0_16, h0_17, h0_18, h0_19, h0_20, h0_21, h0_22, h0_23, h0_24, h0_25, h0_26, h0_27, h0_28, h0_29, h0_30, h0_31, h0_32, h0_33, h0_34, h0_35, h0_36, h0_37, h0_38, h0_39, h0_40, h0_41, h0_42, h0_43, h0_44, h0_45, h0_46, h0_47, h0_48, h0_49, h0_50, h0_51, h0_52, h0_53, h0_54, h0_55, h0_56, h0_57, h0_58, h0_59, h0_60, h0_61, h0_62, h0_63, h0_64, h0_65, h0_66, h0_67, h0_68, h0_69]))] H_2 := hP
  have hD : va_D A [(h0, .inr (12, [h0_0, h0_1, .int 0, .int 0, .int 0, h0_5, h0_6, h0_7, h0_8, h0_9, h0_10, h0_11, h0_12, h0_13, h0_14, h0_15, h0_16, h0_17, h0_18, h0_19, h0_20, h0_21, h0_22, h0_23, h0_24, h0_25, h0_26, h0_27, h0_28, h0_29, h0_30, h0_31, h0_32, h0_33, h0_34, h0_35, h0_36, h0_37, h0_38, h0_39, h0_40, h0_41, h0_42, h0_43, h0_44, h0_45, h0_46, h0_47, h0_48, h0_49, h0_50, h0_51, h0_52, h0_53, h0_54, h0_55, h0_56, h0_57, h0_58, h0_59, h0_60, h0_61, h0_62, h0_63, h0_64, h0_65, h0_66, h0_67, h0_68, h0_69]))] := hD
  clear hPc hDc hKc
  rcases hw_4 with ⟨rfl, hw_4⟩ | ⟨rfl, hw_4⟩
  · have hw_4 : p1.toInt = 0 := hw_4
    obtain rfl : p1 = 0 := z_eq' hw_4
    refine lv_if_eq (tgt := 30) hx hb dX12_bed_10 (by decide) (fun c_5 => absurd c_5 (by decide)) (fun _ => ?_)
    refine lv_aload_n hx hb dX12_bed_13 rfl (lv_at hl 0 rfl) ?_
    refine lv_iload_n hx hb dX12_bed_14 rfl (lv_at hl 2 rfl) ?_
    have hPc := hP.sub (ws' := [(h0, .inr (12, [h0_0, h0_1, .int 0, .int 0, .int 0, h0_5, h0_6, h0_7, h0_8, h0_9, h0_10, h0_11, h0_12, h0_13, h0_14, h0_15, h0_16, h0_17, h0_18, h0_19, h0_20, h0_21, h0_22, h0_23, h0_24, h0_25, h0_26, h0_27, h0_28, h0_29, h0_30, h0_31, h0_32, h0_33, h0_34, h0_35, h0_36, h0_37, h0_38, h0_39, h0_40, h0_41, h0_42, h0_43, h0_44, h0_45, h0_46, h0_47, h0_48, h0_49, h0_50, h0_51, h0_52, h0_53, h0_54, h0_55, h0_56, h0_57, h0_58, h0_59, h0_60, h0_61, h0_62, h0_63, h0_64, h0_65, h0_66, h0_67, h0_68, h0_69]))]) [0] rfl
    have hDc := hD.sub (ws' := [(h0, .inr (12, [h0_0, h0_1, .int 0, .int 0, .int 0, h0_5, h0_6, h0_7, h0_8, h0_9, h0_10, h0_11, h0_12, h0_13, h0_14, h0_15, h0_16, h0_17, h0_18, h0_19, h0_20, h0_21, h0_22, h0_23, h0_24, h0_25, h0_26, h0_27, h0_28, h0_29, h0_30, h0_31, h0_32, h0_33, h0_34, h0_35, h0_36, h0_37, h0_38, h0_39, h0_40, h0_41, h0_42, h0_43, h0_44, h0_45, h0_46, h0_47, h0_48, h0_49, h0_50, h0_51, h0_52, h0_53, h0_54, h0_55, h0_56, h0_57, h0_58, h0_59, h0_60, h0_61, h0_62, h0_63, h0_64, h0_65, h0_66, h0_67, h0_68, h0_69]))]) [0] (by decide) rfl
    have hKc := hK.sub (tys' := []) [] rfl
    have hFc := va_free (ws := []) (wc := []) (z_D0 _) hS hA [] rfl
    refine va_calli (va_runV (As := [.int p2]) (rest := []) ⟨hx, hb, hml, hown, hts⟩ (c_X12_isLayer l dC dI H_2.size h0 p2 h0_0 h0_1 (.int 0) (.int 0) h0_5 h0_6 h0_7 h0_8 h0_9 h0_10 h0_11 h0_12 h0_13 h0_14 h0_15 h0_16 h0_17 h0_18 h0_19 h0_20 h0_21 h0_22 h0_23 h0_24 h0_25 h0_26 h0_27 h0_28 h0_29 h0_30 h0_31 h0_32 h0_33 h0_34 h0_35 h0_36 h0_37 h0_38 h0_39 h0_40 h0_41 h0_42 h0_43 h0_44 h0_45 h0_46 h0_47 h0_48 h0_49 h0_50 h0_51 h0_52 h0_53 h0_54 h0_55 h0_56 h0_57 h0_58 h0_59 h0_60 h0_61 h0_62 h0_63 h0_64 h0_65 h0_66 h0_67 h0_68 h0_69) (cwV 1 hts gw_c_X12_bed_c_X12_isLayer_157 rfl rfl rfl (by decide +kernel) ⟨Nat.le_of_ble_eq_true rfl, Nat.le_of_ble_eq_true rfl⟩) ⟨z_blind, va_recv hKc hPc (ci := 12) (q0 := 0) rfl rfl, z_pre hPc hKc hDc⟩ rfl rfl hl.1 rfl (lv_room (Nat.le_of_ble_eq_true rfl)) dX12_bed_15 ⟨Nat.le_of_ble_eq_true rfl, Nat.le_of_ble_eq_true rfl⟩) hS (fun q _ h => hFc q h) hFc (fun r_7 u t H_6 locs ht hvm hw_8 hB hz1 hk1 hS => ?_)
    have hP := z_pure hP hk1
    have hP : va_P (dC, dI) vwCl [(h0, .inr (12, [h0_0, h0_1, .int 0, .int 0, .int 0, h0_5, h0_6, h0_7, h0_8, h0_9, h0_10, h0_11, h0_12, h0_13, h0_14, h0_15, h0_16, h0_17, h0_18, h0_19, h0_20, h0_21, h0_22, h0_23, h0_24, h0_25, h0_26, h0_27, h0_28, h0_29, h0_30, h0_31, h0_32, h0_33, h0_34, h0_35, h0_36, h0_37, h0_38, h0_39, h0_40, h0_41, h0_42, h0_43, h0_44, h0_45, h0_46, h0_47, h0_48, h0_49, h0_50, h0_51, h0_52, h0_53, h0_54, h0_55, h0_56, h0_57, h0_58, h0_59, h0_60, h0_61, h0_62, h0_63, h0_64, h0_65, h0_66, h0_67, h0_68, h0_69]))] H_6 := hP
    have hD : va_D A [(h0, .inr (12, [h0_0, h0_1, .int 0, .int 0, .int 0, h0_5, h0_6, h0_7, h0_8, h0_9, h0_10, h0_11, h0_12, h0_13, h0_14, h0_15, h0_16, h0_17, h0_18, h0_19, h0_20, h0_21, h0_22, h0_23, h0_24, h0_25, h0_26, h0_27, h0_28, h0_29, h0_30, h0_31, h0_32, h0_33, h0_34, h0_35, h0_36, h0_37, h0_38, h0_39, h0_40, h0_41, h0_42, h0_43, h0_44, h0_45, h0_46, h0_47, h0_48, h0_49, h0_50, h0_51, h0_52, h0_53, h0_54, h0_55, h0_56, h0_57, h0_58, h0_59, h0_60, h0_61, h0_62, h0_63, h0_64, h0_65, h0_66, h0_67, h0_68, h0_69]))] := hD
    clear hPc hDc hKc
    obtain rfl : r_7 = 0 := hw_8
    refine lv_if_eq (tgt := 30) hx hb dX12_bed_18 (by decide) (fun _ => ?_) (fun c_9 => absurd (by decide) c_9)
    refine lv_bipush (v := (-2)) hx hb dX12_bed_30 (by decide) ?_
    refine W.widen (k := 0) (n := 0) (Nat.le_of_ble_eq_true rfl) (Nat.le_of_ble_eq_true rfl) ?_
    exact W.iret (v := (-2)) hx hb hr (fun t ht hW => ⟨⟨(-2), (), rfl, rfl, trivial⟩, hS.F ht⟩) hS.2.2 dX12_bed_32
  · have hw_4 : ¬ p1.toInt = 0 := hw_4
    refine lv_if_eq (tgt := 30) hx hb dX12_bed_10 (by decide) (fun _ => ?_) (fun c_10 => absurd (by decide) c_10)
    refine lv_bipush (v := (-2)) hx hb dX12_bed_30 (by decide) ?_
    refine W.widen (k := 0) (n := 0) (Nat.le_of_ble_eq_true rfl) (Nat.le_of_ble_eq_true rfl) ?_
    exact W.iret (v := (-2)) hx hb hr (fun t ht hW => ⟨⟨(-2), (), rfl, rfl, trivial⟩, hS.F ht⟩) hS.2.2 dX12_bed_32
def u_c_X12_order : List Cond := .code yX12_order cX12_order 4 (some .int) :: ([.fieldLink RX12 145 "ShellHeapModel" "thrown" "I", .methodLink RX12 170 yX12_isKnown, .instanceMethod yX12_isKnown, .selects RX12 yX12_isKnown yX12_isKnown, .initialized RX12, .code yX12_isKnown cX12_isKnown 2 (some .boolean), .fieldLink RX12 154 "ShellHeapModel" "notes" "I", .methodLink RX12 157 yX12_isLayer, .instanceMethod yX12_isLayer, .selects RX12 yX12_isLayer yX12_isLayer, .code yX12_isLayer cX12_isLayer 2 (some .boolean), .fieldLink RX12 151 "ShellHeapModel" "layers" "I"] ++ wsX120)
set_option maxRecDepth 20000 in
theorem gw_c_X12_order_c_X12_isKnown_170 : GoodIn u_c_X12_order (wsV RX12 170 RX12 yX12_isKnown u_c_X12_isKnown) := goodIn_r _ [2, 3, 4, 5, 6, 7, 13, 14, 15, 16, 17, 18, 19, 20, 21, 22, 23, 24, 25, 26, 27, 28, 29, 30, 31, 32, 33, 34, 35, 36, 37, 38, 39, 40, 41, 42, 43, 44, 45, 46, 47, 48, 49, 50, 51, 52, 53, 54, 55, 56, 57, 58, 59, 60, 61, 62, 63, 64, 65, 66, 67, 68, 69, 70, 71, 72, 73, 74, 75, 76, 77, 78, 79, 80, 81, 82] (by decide +kernel) (by decide +kernel)
set_option maxRecDepth 20000 in
theorem gw_c_X12_order_c_X12_isLayer_157 : GoodIn u_c_X12_order (wsV RX12 157 RX12 yX12_isLayer u_c_X12_isLayer) := goodIn_r _ [8, 9, 10, 5, 11, 12, 13, 14, 15, 16, 17, 18, 19, 20, 21, 22, 23, 24, 25, 26, 27, 28, 29, 30, 31, 32, 33, 34, 35, 36, 37, 38, 39, 40, 41, 42, 43, 44, 45, 46, 47, 48, 49, 50, 51, 52, 53, 54, 55, 56, 57, 58, 59, 60, 61, 62, 63, 64, 65, 66, 67, 68, 69, 70, 71, 72, 73, 74, 75, 76, 77, 78, 79, 80, 81, 82] (by decide +kernel) (by decide +kernel)
set_option maxHeartbeats 4000000 in
set_option maxRecDepth 100000 in
theorem c_X12_order (l : Launch) (dC : Nat → ClassId) (dI : Nat → Nat → Nat) (sz : Nat) (h0 : Nat) (p1 : Int32) (p2 : Int32) (p3 : Int32) (h0_0 : Value) (h0_1 : Value) (h0_2 : Value) (h0_5 : Value) (h0_6 : Value) (h0_7 : Value) (h0_8 : Value) (h0_9 : Value) (h0_10 : Value) (h0_11 : Value) (h0_12 : Value) (h0_13 : Value) (h0_14 : Value) (h0_15 : Value) (h0_16 : Value) (h0_17 : Value) (h0_18 : Value) (h0_19 : Value) (h0_20 : Value) (h0_21 : Value) (h0_22 : Value) (h0_23 : Value) (h0_24 : Value) (h0_25 : Value) (h0_26 : Value) (h0_27 : Value) (h0_28 : Value) (h0_29 : Value) (h0_30 : Value) (h0_31 : Value) (h0_32 : Value) (h0_33 : Value) (h0_34 : Value) (h0_35 : Value) (h0_36 : Value) (h0_37 : Value) (h0_38 : Value) (h0_39 : Value) (h0_40 : Value) (h0_41 : Value) (h0_42 : Value) (h0_43 : Value) (h0_44 : Value) (h0_45 : Value) (h0_46 : Value) (h0_47 : Value) (h0_48 : Value) (h0_49 : Value) (h0_50 : Value) (h0_51 : Value) (h0_52 : Value) (h0_53 : Value) (h0_54 : Value) (h0_55 : Value) (h0_56 : Value) (h0_57 : Value) (h0_58 : Value) (h0_59 : Value) (h0_60 : Value) (h0_61 : Value) (h0_62 : Value) (h0_63 : Value) (h0_64 : Value) (h0_65 : Value) (h0_66 : Value) (h0_67 : Value) (h0_68 : Value) (h0_69 : Value) : Met l yX12_order u_c_X12_order ({ frames := 1, cells := 0, slots := 0, locals := 21 }) (va_Pc [.ref h0, .int p1, .int p2, .int p3] (z_C (dC, dI) vwCl [(h0, .inr (12, [h0_0, h0_1, h0_2, .int 0, .int 0, h0_5, h0_6, h0_7, h0_8, h0_9, h0_10, h0_11, h0_12, h0_13, h0_14, h0_15, h0_16, h0_17, h0_18, h0_19, h0_20, h0_21, h0_22, h0_23, h0_24, h0_25, h0_26, h0_27, h0_28, h0_29, h0_30, h0_31, h0_32, h0_33, h0_34, h0_35, h0_36, h0_37, h0_38, h0_39, h0_40, h0_41, h0_42, h0_43, h0_44, h0_45, h0_46, h0_47, h0_48, h0_49, h0_50, h0_51, h0_52, h0_53, h0_54, h0_55, h0_56, h0_57, h0_58, h0_59, h0_60, h0_61, h0_62, h0_63, h0_64, h0_65, h0_66, h0_67, h0_68, h0_69]))] [] sz)) (va_Qi (fun (r : Int32) (_ : Unit) => r = (-1)) (fun (_ : Unit) (_ : State) => True) (va_A [(h0, .inr (12, [h0_0, h0_1, h0_2, .int 0, .int 0, h0_5, h0_6, h0_7, h0_8, h0_9, h0_10, h0_11, h0_12, h0_13, h0_14, h0_15, h0_16, h0_17, h0_18, h0_19, h0_20, h0_21, h0_22, h0_23, h0_24, h0_25, h0_26, h0_27, h0_28, h0_29, h0_30, h0_31, h0_32, h0_33, h0_34, h0_35, h0_36, h0_37, h0_38, h0_39, h0_40, h0_41, h0_42, h0_43, h0_44, h0_45, h0_46, h0_47, h0_48, h0_49, h0_50, h0_51, h0_52, h0_53, h0_54, h0_55, h0_56, h0_57, h0_58, h0_59, h0_60, h0_61, h0_62, h0_63, h0_64, h0_65, h0_66, h0_67, h0_68, h0_69]))] sz)) 0 0 (va_A [(h0, .inr (12, [h0_0, h0_1, h0_2, .int 0, .int 0, h0_5, h0_6, h0_7, h0_8, h0_9, h0_10, h0_11, h0_12, h0_13, h0_14, h0_15, h0_16, h0_17, h0_18, h0_19, h0_20, h0_21, h0_22, h0_23, h0_24, h0_25, h0_26, h0_27, h0_28, h0_29, h0_30, h0_31, h0_32, h0_33, h0_34, h0_35, h0_36, h0_37, h0_38, h0_39, h0_40, h0_41, h0_42, h0_43, h0_44, h0_45, h0_46, h0_47, h0_48, h0_49, h0_50, h0_51, h0_52, h0_53, h0_54, h0_55, h0_56, h0_57, h0_58, h0_59, h0_60, h0_61, h0_62, h0_63, h0_64, h0_65, h0_66, h0_67, h0_68, h0_69]))] sz) := by
  refine Met.ofW (cc := cX12_order) (maxL := 4) (ret := (some .int)) (by decide) rfl ?_
  intro p e s m args below meth c s₁ B hml hv
  obtain ⟨rfl, hsz, hP, hK, hD0⟩ := hv
  have hx := B.exec
  have hb := B.bytes
  have hr := B.returns
  have hts := atoms_spec (ws := u_c_X12_order) B.pre
  have hown : s.vm.findClass RX12 = some m.cls := findClass_of_methodNamed B.named
  have hlocks := B.notSynchronized
  subst hsz
  have hD := hD0.self (sz := s.heap.size)
  generalize hAe : va_A [(h0, .inr (12, [h0_0, h0_1, h0_2, .int 0, .int 0, h0_5, h0_6, h0_7, h0_8, h0_9, h0_10, h0_11, h0_12, h0_13, h0_14, h0_15, h0_16, h0_17, h0_18, h0_19, h0_20, h0_21, h0_22, h0_23, h0_24, h0_25, h0_26, h0_27, h0_28, h0_29, h0_30, h0_31, h0_32, h0_33, h0_34, h0_35, h0_36, h0_37, h0_38, h0_39, h0_40, h0_41, h0_42, h0_43, h0_44, h0_45, h0_46, h0_47, h0_48, h0_49, h0_50, h0_51, h0_52, h0_53, h0_54, h0_55, h0_56, h0_57, h0_58, h0_59, h0_60, h0_61, h0_62, h0_63, h0_64, h0_65, h0_66, h0_67, h0_68, h0_69]))] s.heap.size = A at hD ⊢
  have hA : ∀ q : Nat, s.heap.size ≤ q → A q := fun q h => by rw [← hAe]; exact Or.inr h
  have hS : va_S A s.heap s.heap [] := va_S.rf
  have hP : va_P (dC, dI) vwCl [(h0, .inr (12, [h0_0, h0_1, h0_2, .int 0, .int 0, h0_5, h0_6, h0_7, h0_8, h0_9, h0_10, h0_11, h0_12, h0_13, h0_14, h0_15, h0_16, h0_17, h0_18, h0_19, h0_20, h0_21, h0_22, h0_23, h0_24, h0_25, h0_26, h0_27, h0_28, h0_29, h0_30, h0_31, h0_32, h0_33, h0_34, h0_35, h0_36, h0_37, h0_38, h0_39, h0_40, h0_41, h0_42, h0_43, h0_44, h0_45, h0_46, h0_47, h0_48, h0_49, h0_50, h0_51, h0_52, h0_53, h0_54, h0_55, h0_56, h0_57, h0_58, h0_59, h0_60, h0_61, h0_62, h0_63, h0_64, h0_65, h0_66, h0_67, h0_68, h0_69]))] s.heap := hP
  have w__fieldLink_RX12_145_ShellHeapModel_thrown_I_ := hts (.fieldLink RX12 145 "ShellHeapModel" "thrown" "I") (by decide +kernel)
  have hiX12 := show ∀ w ∈ u_ws RX12 TX12 70, w ∈ u_c_X12_order by decide +kernel
  have hl := lv_entry ([.ref h0, .int p1, .int p2, .int p3]) (n := 4) (Nat.le_of_ble_eq_true rfl)
  rw [lg_entry_eq]
  generalize (lg_sl ([.ref h0, .int p1, .int p2, .int p3]) ++ List.replicate (4 - (lg_sl ([.ref h0, .int p1, .int p2, .int p3])).length) Slot.unset).toArray = ls at hl ⊢
  have hl : lv_has ls 4 [(0, .ref h0), (1, .int p1), (2, .int p2), (3, .int p3)] := hl
  refine lv_aload_n hx hb dX12_order_0 rfl (lv_at hl 0 rfl) ?_
  refine lv_iconst (v := 0) hx hb dX12_order_1 (by decide) ?_
  refine va_put (D := (dC, dI)) (ci := 12) (v := .int 0) (ty := .int) (C := RX12) (T := TX12) (N := 70) hx hb hts hiX12 tyX12 tyX12_ok nmX12 hown hK hP hD hS 0 rfl rfl 2 (by decide) w__fieldLink_RX12_145_ShellHeapModel_thrown_I_ (fun _ h9 => h9) rfl (by decide +kernel) rfl rfl (Nat.le_of_ble_eq_true rfl) dX12_order_2 (fun H_1 locs hP hD hS => ?_)
  have hP : va_P (dC, dI) vwCl [(h0, .inr (12, [h0_0, h0_1, .int 0, .int 0, .int 0, h0_5, h0_6, h0_7, h0_8, h0_9, h0_10, h0_11, h0_12, h0_13, h0_14, h0_15, h0_16, h0_17, h0_18, h0_19, h0_20, h0_21, h0_22, h0_23, h0_24, h0_25, h0_26, h0_27, h0_28, h0_29, h0_30, h0_31, h0_32, h0_33, h0_34, h0_35, h0_36, h0_37, h0_38, h0_39, h0_40, h0_41, h0_42, h0_43, h0_44, h0_45, h0_46, h0_47, h0_48, h0_49, h0_50, h0_51, h0_52, h0_53, h0_54, h0_55, h0_56, h0_57, h0_58, h0_59, h0_60, h0_61, h0_62, h0_63, h0_64, h0_65, h0_66, h0_67, h0_68, h0_69]))] H_1 := hP
  have hD : va_D A [(h0, .inr (12, [h0_0, h0_1, .int 0, .int 0, .int 0, h0_5, h0_6, h0_7, h0_8, h0_9, h0_10, h0_11, h0_12, h0_13, h0_14, h0_15, h0_16, h0_17, h0_18, h0_19, h0_20, h0_21, h0_22, h0_23, h0_24, h0_25, h0_26, h0_27, h0_28, h0_29, h0_30, h0_31, h0_32, h0_33, h0_34, h0_35, h0_36, h0_37, h0_38, h0_39, h0_40, h0_41, h0_42, h0_43, h0_44, h0_45, h0_46, h0_47, h0_48, h0_49, h0_50, h0_51, h0_52, h0_53, h0_54, h0_55, h0_56, h0_57, h0_58, h0_59, h0_60, h0_61, h0_62, h0_63, h0_64, h0_65, h0_66, h0_67, h0_68, h0_69]))] := hD
  refine lv_aload_n hx hb dX12_order_5 rfl (lv_at hl 0 rfl) ?_
  refine lv_iload_n hx hb dX12_order_6 rfl (lv_at hl 1 rfl) ?_
  have hPc := hP.sub (ws' := [(h0, .inr (12, [h0_0, h0_1, .int 0, .int 0, .int 0, h0_5, h0_6, h0_7, h0_8, h0_9, h0_10, h0_11, h0_12, h0_13, h0_14, h0_15, h0_16, h0_17, h0_18, h0_19, h0_20, h0_21, h0_22, h0_23, h0_24, h0_25, h0_26, h0_27, h0_28, h0_29, h0_30, h0_31, h0_32, h0_33, h0_34, h0_35, h0_36, h0_37, h0_38, h0_39, h0_40, h0_41, h0_42, h0_43, h0_44, h0_45, h0_46, h0_47, h0_48, h0_49, h0_50, h0_51, h0_52, h0_53, h0_54, h0_55, h0_56, h0_57, h0_58, h0_59, h0_60, h0_61, h0_62, h0_63, h0_64, h0_65, h0_66, h0_67, h0_68, h0_69]))]) [0] rfl
  have hDc := hD.sub (ws' := [(h0, .inr (12, [h0_0, h0_1, .int 0, .int 0, .int 0, h0_5, h0_6, h0_7, h0_8, h0_9, h0_10, h0_11, h0_12, h0_13, h0_14, h0_15, h0_16, h0_17, h0_18, h0_19, h0_20, h0_21, h0_22, h0_23, h0_24, h0_25, h0_26, h0_27, h0_28, h0_29, h0_30, h0_31, h0_32, h0_33, h0_34, h0_35, h0_36, h0_37, h0_38, h0_39, h0_40, h0_41, h0_42, h0_43, h0_44, h0_45, h0_46, h0_47, h0_48, h0_49, h0_50, h0_51, h0_52, h0_53, h0_54, h0_55, h0_56, h0_57, h0_58, h0_59, h0_60, h0_61, h0_62, h0_63, h0_64, h0_65, h0_66, h0_67, h0_68, h0_69]))]) [0] (by decide) rfl
  have hKc := hK.sub (tys' := []) [] rfl
  have hFc := va_free (ws := []) (wc := []) (z_D0 _) hS hA [] rfl
  refine va_calli (va_runV (As := [.int p1]) (rest := []) ⟨hx, hb, hml, hown, hts⟩ (c_X12_isKnown l dC dI H_1.size h0 p1 h0_0 h0_1 (.int 0) (.int 0) h0_5 h0_6 h0_7 h0_8 h0_9 h0_10 h0_11 h0_12 h0_13 h0_14 h0_15 h0_16 h0_17 h0_18 h0_19 h0_20 h0_21 h0_22 h0_23 h0_24 h0_25 h0_26 h0_27 h0_28 h0_29 h0_30 h0_31 h0_32 h0_33 h0_34 h0_35 h0_36 h0_37 h0_38 h0_39 h0_40 h0_41 h0_42 h0_43 h0_44 h0_45 h0_46 h0_47 h0_48 h0_49 h0_50 h0_51 h0_52 h0_53 h0_54 h0_55 h0_56 h0_57 h0_58 h0_59 h0_60 h0_61 h0_62 h0_63 h0_64 h0_65 h0_66 h0_67 h0_68 h0_69) (cwV 1 hts gw_c_X12_order_c_X12_isKnown_170 rfl rfl rfl (by decide +kernel) ⟨Nat.le_of_ble_eq_true rfl, Nat.le_of_ble_eq_true rfl⟩) ⟨z_blind, va_recv hKc hPc (ci := 12) (q0 := 0) rfl rfl, z_pre hPc hKc hDc⟩ rfl rfl hl.1 rfl (lv_room (Nat.le_of_ble_eq_true rfl)) dX12_order_7 ⟨Nat.le_of_ble_eq_true rfl, Nat.le_of_ble_eq_true rfl⟩) hS (fun q _ h => hFc q h) hFc (fun r_3 u t H_2 locs ht hvm hw_4 hB hz1 hk1 hS => ?_)
  have hP := z_pure hP hk1
  have hP : va_P (dC, dI) vwCl [(h0, .inr (12, [h0_0, h0_1, .int 0, .int 0, .int 0, h0_5, h0_6, h0_7, h0_8, h0_9, h0_10, h0_11, h0_12, h0_13, h0_14, h0_15, h0_16, h0_17, h0_18, h0_19, h0_20, h0_21, h0_22, h0_23, h0_24, h0_25, h0_26, h0_27, h0_28, h0_29, h0_30, h0_31, h0_32, h0_33, h0_34, h0_35, h0_36, h0_37, h0_38, h0_39, h0_40, h0_41, h0_42, h0_43, h0_44, h0_45, h0_46, h0_47, h0_48, h0_49, h0_50, h0_51, h0_52, h0_53, h0_54, h0_55, h0_56, h0_57, h0_58, h0_59, h0_60, h0_61, h0_62, h0_63, h0_64, h0_65, h0_66, h0_67, h0_68, h0_69]))] H_2 := hP
  have hD : va_D A [(h0, .inr (12, [h0_0, h0_1, .int 0, .int 0, .int 0, h0_5, h0_6, h0_7, h0_8, h0_9, h0_10, h0_11, h0_12, h0_13, h0_14, h0_15, h0_16, h0_17, h0_18, h0_19, h0_20, h0_21, h0_22, h0_23, h0_24, h0_25, h0_26, h0_27, h0_28, h0_29, h0_30, h0_31, h0_32, h0_33, h0_34, h0_35, h0_36, h0_37, h0_38, h0_39, h0_40, h0_41, h0_42, h0_43, h0_44, h0_45, h0_46, h0_47, h0_48, h0_49, h0_50, h0_51, h0_52, h0_53, h0_54, h0_55, h0_56, h0_57, h0_58, h0_59, h0_60, h0_61, h0_62, h0_63, h0_64, h0_65, h0_66, h0_67, h0_68, h0_69]))] := hD
  clear hPc hDc hKc
  rcases hw_4 with ⟨rfl, hw_4⟩ | ⟨rfl, hw_4⟩
  · have hw_4 : p1.toInt = 0 := hw_4
    obtain rfl : p1 = 0 := z_eq' hw_4
    refine lv_if_eq (tgt := 29) hx hb dX12_order_10 (by decide) (fun c_5 => absurd c_5 (by decide)) (fun _ => ?_)
    refine lv_aload_n hx hb dX12_order_13 rfl (lv_at hl 0 rfl) ?_
    refine lv_iload_n hx hb dX12_order_14 rfl (lv_at hl 2 rfl) ?_
    have hPc := hP.sub (ws' := [(h0, .inr (12, [h0_0, h0_1, .int 0, .int 0, .int 0, h0_5, h0_6, h0_7, h0_8, h0_9, h0_10, h0_11, h0_12, h0_13, h0_14, h0_15, h0_16, h0_17, h0_18, h0_19, h0_20, h0_21, h0_22, h0_23, h0_24, h0_25, h0_26, h0_27, h0_28, h0_29, h0_30, h0_31, h0_32, h0_33, h0_34, h0_35, h0_36, h0_37, h0_38, h0_39, h0_40, h0_41, h0_42, h0_43, h0_44, h0_45, h0_46, h0_47, h0_48, h0_49, h0_50, h0_51, h0_52, h0_53, h0_54, h0_55, h0_56, h0_57, h0_58, h0_59, h0_60, h0_61, h0_62, h0_63, h0_64, h0_65, h0_66, h0_67, h0_68, h0_69]))]) [0] rfl
    have hDc := hD.sub (ws' := [(h0, .inr (12, [h0_0, h0_1, .int 0, .int 0, .int 0, h0_5, h0_6, h0_7, h0_8, h0_9, h0_10, h0_11, h0_12, h0_13, h0_14, h0_15, h0_16, h0_17, h0_18, h0_19, h0_20, h0_21, h0_22, h0_23, h0_24, h0_25, h0_26, h0_27, h0_28, h0_29, h0_30, h0_31, h0_32, h0_33, h0_34, h0_35, h0_36, h0_37, h0_38, h0_39, h0_40, h0_41, h0_42, h0_43, h0_44, h0_45, h0_46, h0_47, h0_48, h0_49, h0_50, h0_51, h0_52, h0_53, h0_54, h0_55, h0_56, h0_57, h0_58, h0_59, h0_60, h0_61, h0_62, h0_63, h0_64, h0_65, h0_66, h0_67, h0_68, h0_69]))]) [0] (by decide) rfl
    have hKc := hK.sub (tys' := []) [] rfl
    have hFc := va_free (ws := []) (wc := []) (z_D0 _) hS hA [] rfl
    refine va_calli (va_runV (As := [.int p2]) (rest := []) ⟨hx, hb, hml, hown, hts⟩ (c_X12_isLayer l dC dI H_2.size h0 p2 h0_0 h0_1 (.int 0) (.int 0) h0_5 h0_6 h0_7 h0_8 h0_9 h0_10 h0_11 h0_12 h0_13 h0_14 h0_15 h0_16 h0_17 h0_18 h0_19 h0_20 h0_21 h0_22 h0_23 h0_24 h0_25 h0_26 h0_27 h0_28 h0_29 h0_30 h0_31 h0_32 h0_33 h0_34 h0_35 h0_36 h0_37 h0_38 h0_39 h0_40 h0_41 h0_42 h0_43 h0_44 h0_45 h0_46 h0_47 h0_48 h0_49 h0_50 h0_51 h0_52 h0_53 h0_54 h0_55 h0_56 h0_57 h0_58 h0_59 h0_60 h0_61 h0_62 h0_63 h0_64 h0_65 h0_66 h0_67 h0_68 h0_69) (cwV 1 hts gw_c_X12_order_c_X12_isLayer_157 rfl rfl rfl (by decide +kernel) ⟨Nat.le_of_ble_eq_true rfl, Nat.le_of_ble_eq_true rfl⟩) ⟨z_blind, va_recv hKc hPc (ci := 12) (q0 := 0) rfl rfl, z_pre hPc hKc hDc⟩ rfl rfl hl.1 rfl (lv_room (Nat.le_of_ble_eq_true rfl)) dX12_order_15 ⟨Nat.le_of_ble_eq_true rfl, Nat.le_of_ble_eq_true rfl⟩) hS (fun q _ h => hFc q h) hFc (fun r_7 u t H_6 locs ht hvm hw_8 hB hz1 hk1 hS => ?_)
    have hP := z_pure hP hk1
    have hP : va_P (dC, dI) vwCl [(h0, .inr (12, [h0_0, h0_1, .int 0, .int 0, .int 0, h0_5, h0_6, h0_7, h0_8, h0_9, h0_10, h0_11, h0_12, h0_13, h0_14, h0_15, h0_16, h0_17, h0_18, h0_19, h0_20, h0_21, h0_22, h0_23, h0_24, h0_25, h0_26, h0_27, h0_28, h0_29, h0_30, h0_31, h0_32, h0_33, h0_34, h0_35, h0_36, h0_37, h0_38, h0_39, h0_40, h0_41, h0_42, h0_43, h0_44, h0_45, h0_46, h0_47, h0_48, h0_49, h0_50, h0_51, h0_52, h0_53, h0_54, h0_55, h0_56, h0_57, h0_58, h0_59, h0_60, h0_61, h0_62, h0_63, h0_64, h0_65, h0_66, h0_67, h0_68, h0_69]))] H_6 := hP
    have hD : va_D A [(h0, .inr (12, [h0_0, h0_1, .int 0, .int 0, .int 0, h0_5, h0_6, h0_7, h0_8, h0_9, h0_10, h0_11, h0_12, h0_13, h0_14, h0_15, h0_16, h0_17, h0_18, h0_19, h0_20, h0_21, h0_22, h0_23, h0_24, h0_25, h0_26, h0_27, h0_28, h0_29, h0_30, h0_31, h0_32, h0_33, h0_34, h0_35, h0_36, h0_37, h0_38, h0_39, h0_40, h0_41, h0_42, h0_43, h0_44, h0_45, h0_46, h0_47, h0_48, h0_49, h0_50, h0_51, h0_52, h0_53, h0_54, h0_55, h0_56, h0_57, h0_58, h0_59, h0_60, h0_61, h0_62, h0_63, h0_64, h0_65, h0_66, h0_67, h0_68, h0_69]))] := hD
    clear hPc hDc hKc
    obtain rfl : r_7 = 0 := hw_8
    refine lv_if_eq (tgt := 29) hx hb dX12_order_18 (by decide) (fun _ => ?_) (fun c_9 => absurd (by decide) c_9)
    refine lv_iconst (v := (-1)) hx hb dX12_order_29 (by decide) ?_
    refine W.widen (k := 0) (n := 0) (Nat.le_of_ble_eq_true rfl) (Nat.le_of_ble_eq_true rfl) ?_
    exact W.iret (v := (-1)) hx hb hr (fun t ht hW => ⟨⟨(-1), (), rfl, rfl, trivial⟩, hS.F ht⟩) hS.2.2 dX12_order_30
  · have hw_4 : ¬ p1.toInt = 0 := hw_4
    refine lv_if_eq (tgt := 29) hx hb dX12_order_10 (by decide) (fun _ => ?_) (fun c_10 => absurd (by decide) c_10)
    refine lv_iconst (v := (-1)) hx hb dX12_order_29 (by decide) ?_
    refine W.widen (k := 0) (n := 0) (Nat.le_of_ble_eq_true rfl) (Nat.le_of_ble_eq_true rfl) ?_
    exact W.iret (v := (-1)) hx hb hr (fun t ht hW => ⟨⟨(-1), (), rfl, rfl, trivial⟩, hS.F ht⟩) hS.2.2 dX12_order_30
def u_c_X12_heap : List Cond := .code yX12_heap cX12_heap 3 (some .boolean) :: ([.fieldLink RX12 145 "ShellHeapModel" "thrown" "I", .fieldLink RX12 47 "ShellHeapModel" "wide" "I", .fieldLink RX12 51 "ShellHeapModel" "tall" "I", .fieldLink RX12 181 "ShellHeapModel" "columns" "I"] ++ wsX120)
set_option maxHeartbeats 4000000 in
set_option maxRecDepth 100000 in
theorem c_X12_heap (l : Launch) (dC : Nat → ClassId) (dI : Nat → Nat → Nat) (sz : Nat) (h0 : Nat) (p1 : Int32) (p2 : Int32) (h0_0 : Value) (h0_1 : Value) (h0_2 : Value) (h0_3 : Value) (h0_4 : Value) (h0_5 : Value) (h0_6 : Value) (h0_7 : Value) (h0_8 : Value) (h0_9 : Value) (h0_10 : Value) (h0_11 : Value) (h0_12 : Value) (h0_13 : Value) (h0_14 : Value) (h0_15 : Value) (h0_16 : Value) (h0_17 : Value) (h0_18 : Value) (h0_19 : Value) (h0_20 : Value) (h0_21 : Value) (h0_22 : Value) (h0_23 : Value) (h0_24 : Value) (h0_25 : Value) (h0_26 : Value) (h0_27 : Value) (h0_28 : Value) (h0_29 : Value) (h0_30 : Value) (h0_31 : Value) (h0_32 : Value) (h0_33 : Value) (h0_34 : Value) (h0_35 : Value) (h0_36 : Value) (h0_37 : Value) (h0_38 : Value) (h0_39 : Value) (h0_40 : Value) (h0_41 : Value) (h0_42 : Value) (h0_43 : Value) (h0_44 : Value) (h0_45 : Value) (h0_46 : Value) (h0_47 : Value) (h0_48 : Value) (h0_49 : Value) (h0_50 : Value) (h0_51 : Value) (h0_52 : Value) (h0_53 : Value) (h0_54 : Value) (h0_55 : Value) (h0_56 : Value) (h0_57 : Value) (h0_58 : Value) (h0_59 : Value) (h0_60 : Value) (h0_61 : Value) (h0_62 : Value) (h0_63 : Value) (h0_64 : Value) (h0_65 : Value) (h0_66 : Value) (h0_67 : Value) (h0_68 : Value) (h0_69 : Value) : Met l yX12_heap u_c_X12_heap ({ frames := 0, cells := 0, slots := 0, locals := 0 }) (va_Pc [.ref h0, .int p1, .int p2] (z_C (dC, dI) vwCl [(h0, .inr (12, [h0_0, h0_1, h0_2, h0_3, h0_4, h0_5, h0_6, h0_7, h0_8, h0_9, h0_10, h0_11, h0_12, h0_13, h0_14, h0_15, h0_16, h0_17, h0_18, h0_19, h0_20, h0_21, h0_22, h0_23, h0_24, h0_25, h0_26, h0_27, h0_28, h0_29, h0_30, h0_31, h0_32, h0_33, h0_34, h0_35, h0_36, h0_37, h0_38, h0_39, h0_40, h0_41, h0_42, h0_43, h0_44, h0_45, h0_46, h0_47, h0_48, h0_49, h0_50, h0_51, h0_52, h0_53, h0_54, h0_55, h0_56, h0_57, h0_58, h0_59, h0_60, h0_61, h0_62, h0_63, h0_64, h0_65, h0_66, h0_67, h0_68, h0_69]))] [] sz)) (va_Qi (fun (r : Int32) (_ : Unit) => r = v_heap p1 p2) (fun (_ : Unit) (_ : State) => True) (va_A [(h0, .inr (12, [h0_0, h0_1, h0_2, h0_3, h0_4, h0_5, h0_6, h0_7, h0_8, h0_9, h0_10, h0_11, h0_12, h0_13, h0_14, h0_15, h0_16, h0_17, h0_18, h0_19, h0_20, h0_21, h0_22, h0_23, h0_24, h0_25, h0_26, h0_27, h0_28, h0_29, h0_30, h0_31, h0_32, h0_33, h0_34, h0_35, h0_36, h0_37, h0_38, h0_39, h0_40, h0_41, h0_42, h0_43, h0_44, h0_45, h0_46, h0_47, h0_48, h0_49, h0_50, h0_51, h0_52, h0_53, h0_54, h0_55, h0_56, h0_57, h0_58, h0_59, h0_60, h0_61, h0_62, h0_63, h0_64, h0_65, h0_66, h0_67, h0_68, h0_69]))] sz)) 0 0 (va_A [(h0, .inr (12, [h0_0, h0_1, h0_2, h0_3, h0_4, h0_5, h0_6, h0_7, h0_8, h0_9, h0_10, h0_11, h0_12, h0_13, h0_14, h0_15, h0_16, h0_17, h0_18, h0_19, h0_20, h0_21, h0_22, h0_23, h0_24, h0_25, h0_26, h0_27, h0_28, h0_29, h0_30, h0_31, h0_32, h0_33, h0_34, h0_35, h0_36, h0_37, h0_38, h0_39, h0_40, h0_41, h0_42, h0_43, h0_44, h0_45, h0_46, h0_47, h0_48, h0_49, h0_50, h0_51, h0_52, h0_53, h0_54, h0_55, h0_56, h0_57, h0_58, h0_59, h0_60, h0_61, h0_62, h0_63, h0_64, h0_65, h0_66, h0_67, h0_68, h0_69]))] sz) := by
  refine Met.ofW (cc := cX12_heap) (maxL := 3) (ret := (some .boolean)) (by decide) rfl ?_
  intro p e s m args below meth c s₁ B hml hv
  obtain ⟨rfl, hsz, hP, hK, hD0⟩ := hv
  have hx := B.exec
  have hb := B.bytes
  have hr := B.returns
  have hts := atoms_spec (ws := u_c_X12_heap) B.pre
  have hown : s.vm.findClass RX12 = some m.cls := findClass_of_methodNamed B.named
  have hlocks := B.notSynchronized
  subst hsz
  have hD := hD0.self (sz := s.heap.size)
  generalize hAe : va_A [(h0, .inr (12, [h0_0, h0_1, h0_2, h0_3, h0_4, h0_5, h0_6, h0_7, h0_8, h0_9, h0_10, h0_11, h0_12, h0_13, h0_14, h0_15, h0_16, h0_17, h0_18, h0_19, h0_20, h0_21, h0_22, h0_23, h0_24, h0_25, h0_26, h0_27, h0_28, h0_29, h0_30, h0_31, h0_32, h0_33, h0_34, h0_35, h0_36, h0_37, h0_38, h0_39, h0_40, h0_41, h0_42, h0_43, h0_44, h0_45, h0_46, h0_47, h0_48, h0_49, h0_50, h0_51, h0_52, h0_53, h0_54, h0_55, h0_56, h0_57, h0_58, h0_59, h0_60, h0_61, h0_62, h0_63, h0_64, h0_65, h0_66, h0_67, h0_68, h0_69]))] s.heap.size = A at hD ⊢
  have hA : ∀ q : Nat, s.heap.size ≤ q → A q := fun q h => by rw [← hAe]; exact Or.inr h
  have hS : va_S A s.heap s.heap [] := va_S.rf
  have hP : va_P (dC, dI) vwCl [(h0, .inr (12, [h0_0, h0_1, h0_2, h0_3, h0_4, h0_5, h0_6, h0_7, h0_8, h0_9, h0_10, h0_11, h0_12, h0_13, h0_14, h0_15, h0_16, h0_17, h0_18, h0_19, h0_20, h0_21, h0_22, h0_23, h0_24, h0_25, h0_26, h0_27, h0_28, h0_29, h0_30, h0_31, h0_32, h0_33, h0_34, h0_35, h0_36, h0_37, h0_38, h0_39, h0_40, h0_41, h0_42, h0_43, h0_44, h0_45, h0_46, h0_47, h0_48, h0_49, h0_50, h0_51, h0_52, h0_53, h0_54, h0_55, h0_56, h0_57, h0_58, h0_59, h0_60, h0_61, h0_62, h0_63, h0_64, h0_65, h0_66, h0_67, h0_68, h0_69]))] s.heap := hP
  have w__fieldLink_RX12_145_ShellHeapModel_thrown_I_ := hts (.fieldLink RX12 145 "ShellHeapModel" "thrown" "I") (by decide +kernel)
  have hiX12 := show ∀ w ∈ u_ws RX12 TX12 70, w ∈ u_c_X12_heap by decide +kernel
  have w__fieldLink_RX12_47_ShellHeapModel_wide_I_ := hts (.fieldLink RX12 47 "ShellHeapModel" "wide" "I") (by decide +kernel)
  have w__fieldLink_RX12_51_ShellHeapModel_tall_I_ := hts (.fieldLink RX12 51 "ShellHeapModel" "tall" "I") (by decide +kernel)
  have w__fieldLink_RX12_181_ShellHeapModel_columns_I_ := hts (.fieldLink RX12 181 "ShellHeapModel" "columns" "I") (by decide +kernel)
  have hl := lv_entry ([.ref h0, .int p1, .int p2]) (n := 3) (Nat.le_of_ble_eq_true rfl)
  rw [lg_entry_eq]
  generalize (lg_sl ([.ref h0, .int p1, .int p2]) ++ List.replicate (3 - (lg_sl ([.ref h0, .int p1, .int p2])).length) Slot.unset).toArray = ls at hl ⊢
  have hl : lv_has ls 3 [(0, .ref h0), (1, .int p1), (2, .int p2)] := hl
  refine lv_aload_n hx hb dX12_heap_0 rfl (lv_at hl 0 rfl) ?_
  refine lv_iconst (v := 0) hx hb dX12_heap_1 (by decide) ?_
  refine va_put (D := (dC, dI)) (ci := 12) (v := .int 0) (ty := .int) (C := RX12) (T := TX12) (N := 70) hx hb hts hiX12 tyX12 tyX12_ok nmX12 hown hK hP hD hS 0 rfl rfl 2 (by decide) w__fieldLink_RX12_145_ShellHeapModel_thrown_I_ (fun _ h9 => h9) rfl (by decide +kernel) rfl rfl (Nat.le_of_ble_eq_true rfl) dX12_heap_2 (fun H_1 locs hP hD hS => ?_)
  have hP : va_P (dC, dI) vwCl [(h0, .inr (12, [h0_0, h0_1, .int 0, h0_3, h0_4, h0_5, h0_6, h0_7, h0_8, h0_9, h0_10, h0_11, h0_12, h0_13, h0_14, h0_15, h0_16, h0_17, h0_18, h0_19, h0_20, h0_21, h0_22, h0_23, h0_24, h0_25, h0_26, h0_27, h0_28, h0_29, h0_30, h0_31, h0_32, h0_33, h0_34, h0_35, h0_36, h0_37, h0_38, h0_39, h0_40, h0_41, h0_42, h0_43, h0_44, h0_45, h0_46, h0_47, h0_48, h0_49, h0_50, h0_51, h0_52, h0_53, h0_54, h0_55, h0_56, h0_57, h0_58, h0_59, h0_60, h0_61, h0_62, h0_63, h0_64, h0_65, h0_66, h0_67, h0_68, h0_69]))] H_1 := hP
  have hD : va_D A [(h0, .inr (12, [h0_0, h0_1, .int 0, h0_3, h0_4, h0_5, h0_6, h0_7, h0_8, h0_9, h0_10, h0_11, h0_12, h0_13, h0_14, h0_15, h0_16, h0_17, h0_18, h0_19, h0_20, h0_21, h0_22, h0_23, h0_24, h0_25, h0_26, h0_27, h0_28, h0_29, h0_30, h0_31, h0_32, h0_33, h0_34, h0_35, h0_36, h0_37, h0_38, h0_39, h0_40, h0_41, h0_42, h0_43, h0_44, h0_45, h0_46, h0_47, h0_48, h0_49, h0_50, h0_51, h0_52, h0_53, h0_54, h0_55, h0_56, h0_57, h0_58, h0_59, h0_60, h0_61, h0_62, h0_63, h0_64, h0_65, h0_66, h0_67, h0_68, h0_69]))] := hD
  refine lv_iload_n hx hb dX12_heap_5 rfl (lv_at hl 1 rfl) ?_
  refine lv_iconst (v := 2) hx hb dX12_heap_6 (by decide) ?_
  refine lv_icmp_lt (tgt := 27) hx hb dX12_heap_7 (by decide) (fun c_2 => ?_) (fun c_2 => ?_)
  · have k_3 : (p1).toInt < (2 : Int) := z_lt c_2
    refine lv_iconst (v := 0) hx hb dX12_heap_27 (by decide) ?_
    refine W.widen (k := 0) (n := 0) (Nat.le_of_ble_eq_true rfl) (Nat.le_of_ble_eq_true rfl) ?_
    exact W.zret (v := 0) hx hb hr (by rfl) (fun t ht hW => ⟨⟨0, (), rfl, (by first | (unfold v_heap; rw [if_pos (by omega)]) | (unfold v_heap; rw [if_neg (by omega)]) | decide), trivial⟩, hS.F ht⟩) hS.2.2 dX12_heap_28
  · have k_4 : (p1).toInt ≥ (2 : Int) := z_nlt c_2
    refine lv_iload_n hx hb dX12_heap_10 rfl (lv_at hl 1 rfl) ?_
    refine lv_bipush (v := 12) hx hb dX12_heap_11 (by decide) ?_
    refine lv_icmp_gt (tgt := 27) hx hb dX12_heap_13 (by decide) (fun c_5 => ?_) (fun c_5 => ?_)
    · have k_6 : (12 : Int) < (p1).toInt := z_lt c_5
      refine lv_iconst (v := 0) hx hb dX12_heap_27 (by decide) ?_
      refine W.widen (k := 0) (n := 0) (Nat.le_of_ble_eq_true rfl) (Nat.le_of_ble_eq_true rfl) ?_
      exact W.zret (v := 0) hx hb hr (by rfl) (fun t ht hW => ⟨⟨0, (), rfl, (by first | (unfold v_heap; rw [if_pos (by omega)]) | (unfold v_heap; rw [if_neg (by omega)]) | decide), trivial⟩, hS.F ht⟩) hS.2.2 dX12_heap_28
    · have k_7 : (12 : Int) ≥ (p1).toInt := z_nlt c_5
      refine lv_iload_n hx hb dX12_heap_16 rfl (lv_at hl 2 rfl) ?_
      refine lv_iconst (v := 2) hx hb dX12_heap_17 (by decide) ?_
      refine lv_icmp_lt (tgt := 27) hx hb dX12_heap_18 (by decide) (fun c_8 => ?_) (fun c_8 => ?_)
      · have k_9 : (p2).toInt < (2 : Int) := z_lt c_8
        refine lv_iconst (v := 0) hx hb dX12_heap_27 (by decide) ?_
        refine W.widen (k := 0) (n := 0) (Nat.le_of_ble_eq_true rfl) (Nat.le_of_ble_eq_true rfl) ?_
        exact W.zret (v := 0) hx hb hr (by rfl) (fun t ht hW => ⟨⟨0, (), rfl, (by first | (unfold v_heap; rw [if_pos (by omega)]) | (unfold v_heap; rw [if_neg (by omega)]) | decide), trivial⟩, hS.F ht⟩) hS.2.2 dX12_heap_28
      · have k_10 : (p2).toInt ≥ (2 : Int) := z_nlt c_8
        refine lv_iload_n hx hb dX12_heap_21 rfl (lv_at hl 2 rfl) ?_
        refine lv_bipush (v := 12) hx hb dX12_heap_22 (by decide) ?_
        refine lv_icmp_le (tgt := 29) hx hb dX12_heap_24 (by decide) (fun c_11 => ?_) (fun c_11 => ?_)
        · have k_12 : (p2).toInt ≤ (12 : Int) := z_le c_11
          refine lv_aload_n hx hb dX12_heap_29 rfl (lv_at hl 0 rfl) ?_
          refine lv_iload_n hx hb dX12_heap_30 rfl (lv_at hl 1 rfl) ?_
          refine va_put (D := (dC, dI)) (ci := 12) (v := .int p1) (ty := .int) (C := RX12) (T := TX12) (N := 70) hx hb hts hiX12 tyX12 tyX12_ok nmX12 hown hK hP hD hS 0 rfl rfl 17 (by decide) w__fieldLink_RX12_47_ShellHeapModel_wide_I_ (fun _ h9 => h9) rfl (by decide +kernel) rfl rfl (Nat.le_of_ble_eq_true rfl) dX12_heap_31 (fun H_13 locs hP hD hS => ?_)
          have hP : va_P (dC, dI) vwCl [(h0, .inr (12, [h0_0, h0_1, .int 0, h0_3, h0_4, h0_5, h0_6, h0_7, h0_8, h0_9, h0_10, h0_11, h0_12, h0_13, h0_14, h0_15, h0_16, .int p1, h0_18, h0_19, h0_20, h0_21, h0_22, h0_23, h0_24, h0_25, h0_26, h0_27, h0_28, h0_29, h0_30, h0_31, h0_32, h0_33, h0_34, h0_35, h0_36, h0_37, h0_38, h0_39, h0_40, h0_41, h0_42, h0_43, h0_44, h0_45, h0_46, h0_47, h0_48, h0_49, h0_50, h0_51, h0_52, h0_53, h0_54, h0_55, h0_56, h0_57, h0_58, h0_59, h0_60, h0_61, h0_62, h0_63, h0_64, h0_65, h0_66, h0_67, h0_68, h0_69]))] H_13 := hP
          have hD : va_D A [(h0, .inr (12, [h0_0, h0_1, .int 0, h0_3, h0_4, h0_5, h0_6, h0_7, h0_8, h0_9, h0_10, h0_11, h0_12, h0_13, h0_14, h0_15, h0_16, .int p1, h0_18, h0_19, h0_20, h0_21, h0_22, h0_23, h0_24, h0_25, h0_26, h0_27, h0_28, h0_29, h0_30, h0_31, h0_32, h0_33, h0_34, h0_35, h0_36, h0_37, h0_38, h0_39, h0_40, h0_41, h0_42, h0_43, h0_44, h0_45, h0_46, h0_47, h0_48, h0_49, h0_50, h0_51, h0_52, h0_53, h0_54, h0_55, h0_56, h0_57, h0_58, h0_59, h0_60, h0_61, h0_62, h0_63, h0_64, h0_65, h0_66, h0_67, h0_68, h0_69]))] := hD
          refine lv_aload_n hx hb dX12_heap_34 rfl (lv_at hl 0 rfl) ?_
          refine lv_iload_n hx hb dX12_heap_35 rfl (lv_at hl 2 rfl) ?_
          refine va_put (D := (dC, dI)) (ci := 12) (v := .int p2) (ty := .int) (C := RX12) (T := TX12) (N := 70) hx hb hts hiX12 tyX12 tyX12_ok nmX12 hown hK hP hD hS 0 rfl rfl 18 (by decide) w__fieldLink_RX12_51_ShellHeapModel_tall_I_ (fun _ h9 => h9) rfl (by decide +kernel) rfl rfl (Nat.le_of_ble_eq_true rfl) dX12_heap_36 (fun H_14 locs hP hD hS => ?_)
          have hP : va_P (dC, dI) vwCl [(h0, .inr (12, [h0_0, h0_1, .int 0, h0_3, h0_4, h0_5, h0_6, h0_7, h0_8, h0_9, h0_10, h0_11, h0_12, h0_13, h0_14, h0_15, h0_16, .int p1, .int p2, h0_19, h0_20, h0_21, h0_22, h0_23, h0_24, h0_25, h0_26, h0_27, h0_28, h0_29, h0_30, h0_31, h0_32, h0_33, h0_34, h0_35, h0_36, h0_37, h0_38, h0_39, h0_40, h0_41, h0_42, h0_43, h0_44, h0_45, h0_46, h0_47, h0_48, h0_49, h0_50, h0_51, h0_52, h0_53, h0_54, h0_55, h0_56, h0_57, h0_58, h0_59, h0_60, h0_61, h0_62, h0_63, h0_64, h0_65, h0_66, h0_67, h0_68, h0_69]))] H_14 := hP
          have hD : va_D A [(h0, .inr (12, [h0_0, h0_1, .int 0, h0_3, h0_4, h0_5, h0_6, h0_7, h0_8, h0_9, h0_10, h0_11, h0_12, h0_13, h0_14, h0_15, h0_16, .int p1, .int p2, h0_19, h0_20, h0_21, h0_22, h0_23, h0_24, h0_25, h0_26, h0_27, h0_28, h0_29, h0_30, h0_31, h0_32, h0_33, h0_34, h0_35, h0_36, h0_37, h0_38, h0_39, h0_40, h0_41, h0_42, h0_43, h0_44, h0_45, h0_46, h0_47, h0_48, h0_49, h0_50, h0_51, h0_52, h0_53, h0_54, h0_55, h0_56, h0_57, h0_58, h0_59, h0_60, h0_61, h0_62, h0_63, h0_64, h0_65, h0_66, h0_67, h0_68, h0_69]))] := hD
          refine lv_aload_n hx hb dX12_heap_39 rfl (lv_at hl 0 rfl) ?_
          refine lv_iconst (v := 0) hx hb dX12_heap_40 (by decide) ?_
          refine va_put (D := (dC, dI)) (ci := 12) (v := .int 0) (ty := .int) (C := RX12) (T := TX12) (N := 70) hx hb hts hiX12 tyX12 tyX12_ok nmX12 hown hK hP hD hS 0 rfl rfl 19 (by decide) w__fieldLink_RX12_181_ShellHeapModel_columns_I_ (fun _ h9 => h9) rfl (by decide +kernel) rfl rfl (Nat.le_of_ble_eq_true rfl) dX12_heap_41 (fun H_15 locs hP hD hS => ?_)
          have hP : va_P (dC, dI) vwCl [(h0, .inr (12, [h0_0, h0_1, .int 0, h0_3, h0_4, h0_5, h0_6, h0_7, h0_8, h0_9, h0_10, h0_11, h0_12, h0_13, h0_14, h0_15, h0_16, .int p1, .int p2, .int 0, h0_20, h0_21, h0_22, h0_23, h0_24, h0_25, h0_26, h0_27, h0_28, h0_29, h0_30, h0_31, h0_32, h0_33, h0_34, h0_35, h0_36, h0_37, h0_38, h0_39, h0_40, h0_41, h0_42, h0_43, h0_44, h0_45, h0_46, h0_47, h0_48, h0_49, h0_50, h0_51, h0_52, h0_53, h0_54, h0_55, h0_56, h0_57, h0_58, h0_59, h0_60, h0_61, h0_62, h0_63, h0_64, h0_65, h0_66, h0_67, h0_68, h0_69]))] H_15 := hP
          have hD : va_D A [(h0, .inr (12, [h0_0, h0_1, .int 0, h0_3, h0_4, h0_5, h0_6, h0_7, h0_8, h0_9, h0_10, h0_11, h0_12, h0_13, h0_14, h0_15, h0_16, .int p1, .int p2, .int 0, h0_20, h0_21, h0_22, h0_23, h0_24, h0_25, h0_26, h0_27, h0_28, h0_29, h0_30, h0_31, h0_32, h0_33, h0_34, h0_35, h0_36, h0_37, h0_38, h0_39, h0_40, h0_41, h0_42, h0_43, h0_44, h0_45, h0_46, h0_47, h0_48, h0_49, h0_50, h0_51, h0_52, h0_53, h0_54, h0_55, h0_56, h0_57, h0_58, h0_59, h0_60, h0_61, h0_62, h0_63, h0_64, h0_65, h0_66, h0_67, h0_68, h0_69]))] := hD
          refine lv_iconst (v := 1) hx hb dX12_heap_44 (by decide) ?_
          refine W.widen (k := 0) (n := 0) (Nat.le_of_ble_eq_true rfl) (Nat.le_of_ble_eq_true rfl) ?_
          exact W.zret (v := 1) hx hb hr (by rfl) (fun t ht hW => ⟨⟨1, (), rfl, (by first | (unfold v_heap; rw [if_pos (by omega)]) | (unfold v_heap; rw [if_neg (by omega)]) | decide), trivial⟩, hS.F ht⟩) hS.2.2 dX12_heap_45
        · have k_16 : (p2).toInt > (12 : Int) := z_nle c_11
          refine lv_iconst (v := 0) hx hb dX12_heap_27 (by decide) ?_
          refine W.widen (k := 0) (n := 0) (Nat.le_of_ble_eq_true rfl) (Nat.le_of_ble_eq_true rfl) ?_
          exact W.zret (v := 0) hx hb hr (by rfl) (fun t ht hW => ⟨⟨0, (), rfl, (by first | (unfold v_heap; rw [if_pos (by omega)]) | (unfold v_heap; rw [if_neg (by omega)]) | decide), trivial⟩, hS.F ht⟩) hS.2.2 dX12_heap_28
def u_c_X12_column : List Cond := .code yX12_column cX12_column 4 (some .int) :: ([.fieldLink RX12 145 "ShellHeapModel" "thrown" "I", .fieldLink RX12 181 "ShellHeapModel" "columns" "I", .fieldLink RX12 47 "ShellHeapModel" "wide" "I", .fieldLink RX12 51 "ShellHeapModel" "tall" "I", .fieldLink RX12 54 "ShellHeapModel" "columnX" "[I", .fieldLink RX12 57 "ShellHeapModel" "columnY" "[I", .fieldLink RX12 60 "ShellHeapModel" "thickOf" "[I"] ++ wsX120)
set_option maxHeartbeats 4000000 in
set_option maxRecDepth 100000 in
theorem c_X12_column (l : Launch) (dC : Nat → ClassId) (dI : Nat → Nat → Nat) (sz : Nat) (h0 : Nat) (p1 : Int32) (p2 : Int32) (h0_0 : Value) (h0_1 : Value) (h0_2 : Value) (h0_3 : Value) (h0_4 : Value) (h0_5 : Value) (h0_6 : Value) (h0_7 : Value) (h0_8 : Value) (h0_9 : Value) (h0_10 : Value) (h0_11 : Value) (h0_12 : Value) (h0_13 : Value) (h0_14 : Value) (h0_15 : Value) (h0_16 : Value) (h1 : Nat) (h2 : Nat) (h3 : Nat) (h0_23 : Value) (h0_24 : Value) (h0_25 : Value) (h0_26 : Value) (h0_27 : Value) (h0_28 : Value) (h0_29 : Value) (h0_30 : Value) (h0_31 : Value) (h0_32 : Value) (h0_33 : Value) (h0_34 : Value) (h0_35 : Value) (h0_36 : Value) (h0_37 : Value) (h0_38 : Value) (h0_39 : Value) (h0_40 : Value) (h0_41 : Value) (h0_42 : Value) (h0_43 : Value) (h0_44 : Value) (h0_45 : Value) (h0_46 : Value) (h0_47 : Value) (h0_48 : Value) (h0_49 : Value) (h0_50 : Value) (h0_51 : Value) (h0_52 : Value) (h0_53 : Value) (h0_54 : Value) (h0_55 : Value) (h0_56 : Value) (h0_57 : Value) (h0_58 : Value) (h0_59 : Value) (h0_60 : Value) (h0_61 : Value) (h0_62 : Value) (h0_63 : Value) (h0_64 : Value) (h0_65 : Value) (h0_66 : Value) (h0_67 : Value) (h0_68 : Value) (h0_69 : Value) (ch1 : ClassId) (fh1 : Nat → Int32) (ch2 : ClassId) (fh2 : Nat → Int32) (ch3 : ClassId) (fh3 : Nat → Int32) : Met l yX12_column u_c_X12_column ({ frames := 0, cells := 0, slots := 0, locals := 0 }) (va_Pc [.ref h0, .int p1, .int p2] (z_C (dC, dI) vwCl [(h0, .inr (12, [h0_0, h0_1, h0_2, h0_3, h0_4, h0_5, h0_6, h0_7, h0_8, h0_9, h0_10, h0_11, h0_12, h0_13, h0_14, h0_15, h0_16, .int 6, .int 6, .int 0, .ref h1, .ref h2, .ref h3, h0_23, h0_24, h0_25, h0_26, h0_27, h0_28, h0_29, h0_30, h0_31, h0_32, h0_33, h0_34, h0_35, h0_36, h0_37, h0_38, h0_39, h0_40, h0_41, h0_42, h0_43, h0_44, h0_45, h0_46, h0_47, h0_48, h0_49, h0_50, h0_51, h0_52, h0_53, h0_54, h0_55, h0_56, h0_57, h0_58, h0_59, h0_60, h0_61, h0_62, h0_63, h0_64, h0_65, h0_66, h0_67, h0_68, h0_69])), (h1, .inl (ch1, 10, .inl fh1)), (h2, .inl (ch2, 10, .inl fh2)), (h3, .inl (ch3, 120, .inl fh3))] [(ch1, .int), (ch2, .int), (ch3, .int)] sz)) (va_Qi (fun (r : Int32) (_ : Unit) => r = v_column p1 p2) (fun (_ : Unit) (_ : State) => True) (va_A [(h0, .inr (12, [h0_0, h0_1, h0_2, h0_3, h0_4, h0_5, h0_6, h0_7, h0_8, h0_9, h0_10, h0_11, h0_12, h0_13, h0_14, h0_15, h0_16, .int 6, .int 6, .int 0, .ref h1, .ref h2, .ref h3, h0_23, h0_24, h0_25, h0_26, h0_27, h0_28, h0_29, h0_30, h0_31, h0_32, h0_33, h0_34, h0_35, h0_36, h0_37, h0_38, h0_39, h0_40, h0_41, h0_42, h0_43, h0_44, h0_45, h0_46, h0_47, h0_48, h0_49, h0_50, h0_51, h0_52, h0_53, h0_54, h0_55, h0_56, h0_57, h0_58, h0_59, h0_60, h0_61, h0_62, h0_63, h0_64, h0_65, h0_66, h0_67, h0_68, h0_69])), (h1, .inl (ch1, 10, .inl fh1)), (h2, .inl (ch2, 10, .inl fh2)), (h3, .inl (ch3, 120, .inl fh3))] sz)) 0 0 (va_A [(h0, .inr (12, [h0_0, h0_1, h0_2, h0_3, h0_4, h0_5, h0_6, h0_7, h0_8, h0_9, h0_10, h0_11, h0_12, h0_13, h0_14, h0_15, h0_16, .int 6, .int 6, .int 0, .ref h1, .ref h2, .ref h3, h0_23, h0_24, h0_25, h0_26, h0_27, h0_28, h0_29, h0_30, h0_31, h0_32, h0_33, h0_34, h0_35, h0_36, h0_37, h0_38, h0_39, h0_40, h0_41, h0_42, h0_43, h0_44, h0_45, h0_46, h0_47, h0_48, h0_49, h0_50, h0_51, h0_52, h0_53, h0_54, h0_55, h0_56, h0_57, h0_58, h0_59, h0_60, h0_61, h0_62, h0_63, h0_64, h0_65, h0_66, h0_67, h0_68, h0_69])), (h1, .inl (ch1, 10, .inl fh1)), (h2, .inl (ch2, 10, .inl fh2)), (h3, .inl (ch3, 120, .inl fh3))] sz) := by
  refine Met.ofW (cc := cX12_column) (maxL := 4) (ret := (some .int)) (by decide) rfl ?_
  intro p e s m args below meth c s₁ B hml hv
  obtain ⟨rfl, hsz, hP, hK, hD0⟩ := hv
  have hx := B.exec
  have hb := B.bytes
  have hr := B.returns
  have hts := atoms_spec (ws := u_c_X12_column) B.pre
  have hown : s.vm.findClass RX12 = some m.cls := findClass_of_methodNamed B.named
  have hlocks := B.notSynchronized
  subst hsz
  have hD := hD0.self (sz := s.heap.size)
  generalize hAe : va_A [(h0, .inr (12, [h0_0, h0_1, h0_2, h0_3, h0_4, h0_5, h0_6, h0_7, h0_8, h0_9, h0_10, h0_11, h0_12, h0_13, h0_14, h0_15, h0_16, .int 6, .int 6, .int 0, .ref h1, .ref h2, .ref h3, h0_23, h0_24, h0_25, h0_26, h0_27, h0_28, h0_29, h0_30, h0_31, h0_32, h0_33, h0_34, h0_35, h0_36, h0_37, h0_38, h0_39, h0_40, h0_41, h0_42, h0_43, h0_44, h0_45, h0_46, h0_47, h0_48, h0_49, h0_50, h0_51, h0_52, h0_53, h0_54, h0_55, h0_56, h0_57, h0_58, h0_59, h0_60, h0_61, h0_62, h0_63, h0_64, h0_65, h0_66, h0_67, h0_68, h0_69])), (h1, .inl (ch1, 10, .inl fh1)), (h2, .inl (ch2, 10, .inl fh2)), (h3, .inl (ch3, 120, .inl fh3))] s.heap.size = A at hD ⊢
  have hA : ∀ q : Nat, s.heap.size ≤ q → A q := fun q h => by rw [← hAe]; exact Or.inr h
  have hS : va_S A s.heap s.heap [] := va_S.rf
  have hP : va_P (dC, dI) vwCl [(h0, .inr (12, [h0_0, h0_1, h0_2, h0_3, h0_4, h0_5, h0_6, h0_7, h0_8, h0_9, h0_10, h0_11, h0_12, h0_13, h0_14, h0_15, h0_16, .int 6, .int 6, .int 0, .ref h1, .ref h2, .ref h3, h0_23, h0_24, h0_25, h0_26, h0_27, h0_28, h0_29, h0_30, h0_31, h0_32, h0_33, h0_34, h0_35, h0_36, h0_37, h0_38, h0_39, h0_40, h0_41, h0_42, h0_43, h0_44, h0_45, h0_46, h0_47, h0_48, h0_49, h0_50, h0_51, h0_52, h0_53, h0_54, h0_55, h0_56, h0_57, h0_58, h0_59, h0_60, h0_61, h0_62, h0_63, h0_64, h0_65, h0_66, h0_67, h0_68, h0_69])), (h1, .inl (ch1, 10, .inl fh1)), (h2, .inl (ch2, 10, .inl fh2)), (h3, .inl (ch3, 120, .inl fh3))] s.heap := hP
  have w__fieldLink_RX12_145_ShellHeapModel_thrown_I_ := hts (.fieldLink RX12 145 "ShellHeapModel" "thrown" "I") (by decide +kernel)
  have hiX12 := show ∀ w ∈ u_ws RX12 TX12 70, w ∈ u_c_X12_column by decide +kernel
  have w__fieldLink_RX12_181_ShellHeapModel_columns_I_ := hts (.fieldLink RX12 181 "ShellHeapModel" "columns" "I") (by decide +kernel)
  have w__fieldLink_RX12_47_ShellHeapModel_wide_I_ := hts (.fieldLink RX12 47 "ShellHeapModel" "wide" "I") (by decide +kernel)
  have w__fieldLink_RX12_51_ShellHeapModel_tall_I_ := hts (.fieldLink RX12 51 "ShellHeapModel" "tall" "I") (by decide +kernel)
  have w__fieldLink_RX12_54_ShellHeapModel_columnX_I_ := hts (.fieldLink RX12 54 "ShellHeapModel" "columnX" "[I") (by decide +kernel)
  have w__fieldLink_RX12_57_ShellHeapModel_columnY_I_ := hts (.fieldLink RX12 57 "ShellHeapModel" "columnY" "[I") (by decide +kernel)
  have w__fieldLink_RX12_60_ShellHeapModel_thickOf_I_ := hts (.fieldLink RX12 60 "ShellHeapModel" "thickOf" "[I") (by decide +kernel)
  have hl := lv_entry ([.ref h0, .int p1, .int p2]) (n := 4) (Nat.le_of_ble_eq_true rfl)
  rw [lg_entry_eq]
  generalize (lg_sl ([.ref h0, .int p1, .int p2]) ++ List.replicate (4 - (lg_sl ([.ref h0, .int p1, .int p2])).length) Slot.unset).toArray = ls at hl ⊢
  have hl : lv_has ls 4 [(0, .ref h0), (1, .int p1), (2, .int p2)] := hl
  refine lv_aload_n hx hb dX12_column_0 rfl (lv_at hl 0 rfl) ?_
  refine lv_iconst (v := 0) hx hb dX12_column_1 (by decide) ?_
  refine va_put (D := (dC, dI)) (ci := 12) (v := .int 0) (ty := .int) (C := RX12) (T := TX12) (N := 70) hx hb hts hiX12 tyX12 tyX12_ok nmX12 hown hK hP hD hS 0 rfl rfl 2 (by decide) w__fieldLink_RX12_145_ShellHeapModel_thrown_I_ (fun _ h9 => h9) rfl (by decide +kernel) rfl rfl (Nat.le_of_ble_eq_true rfl) dX12_column_2 (fun H_1 locs hP hD hS => ?_)
  have hP : va_P (dC, dI) vwCl [(h0, .inr (12, [h0_0, h0_1, .int 0, h0_3, h0_4, h0_5, h0_6, h0_7, h0_8, h0_9, h0_10, h0_11, h0_12, h0_13, h0_14, h0_15, h0_16, .int 6, .int 6, .int 0, .ref h1, .ref h2, .ref h3, h0_23, h0_24, h0_25, h0_26, h0_27, h0_28, h0_29, h0_30, h0_31, h0_32, h0_33, h0_34, h0_35, h0_36, h0_37, h0_38, h0_39, h0_40, h0_41, h0_42, h0_43, h0_44, h0_45, h0_46, h0_47, h0_48, h0_49, h0_50, h0_51, h0_52, h0_53, h0_54, h0_55, h0_56, h0_57, h0_58, h0_59, h0_60, h0_61, h0_62, h0_63, h0_64, h0_65, h0_66, h0_67, h0_68, h0_69])), (h1, .inl (ch1, 10, .inl fh1)), (h2, .inl (ch2, 10, .inl fh2)), (h3, .inl (ch3, 120, .inl fh3))] H_1 := hP
  have hD : va_D A [(h0, .inr (12, [h0_0, h0_1, .int 0, h0_3, h0_4, h0_5, h0_6, h0_7, h0_8, h0_9, h0_10, h0_11, h0_12, h0_13, h0_14, h0_15, h0_16, .int 6, .int 6, .int 0, .ref h1, .ref h2, .ref h3, h0_23, h0_24, h0_25, h0_26, h0_27, h0_28, h0_29, h0_30, h0_31, h0_32, h0_33, h0_34, h0_35, h0_36, h0_37, h0_38, h0_39, h0_40, h0_41, h0_42, h0_43, h0_44, h0_45, h0_46, h0_47, h0_48, h0_49, h0_50, h0_51, h0_52, h0_53, h0_54, h0_55, h0_56, h0_57, h0_58, h0_59, h0_60, h0_61, h0_62, h0_63, h0_64, h0_65, h0_66, h0_67, h0_68, h0_69])), (h1, .inl (ch1, 10, .inl fh1)), (h2, .inl (ch2, 10, .inl fh2)), (h3, .inl (ch3, 120, .inl fh3))] := hD
  refine lv_aload_n hx hb dX12_column_5 rfl (lv_at hl 0 rfl) ?_
  refine va_get (D := (dC, dI)) (ci := 12) (v := .int 0) (C := RX12) (T := TX12) (N := 70) hx hb hts hiX12 hown hK hP 0 rfl rfl 19 (by decide) w__fieldLink_RX12_181_ShellHeapModel_columns_I_ (fun _ h9 => h9) rfl dX12_column_6 ?_
  refine lv_bipush (v := 10) hx hb dX12_column_9 (by decide) ?_
  refine lv_icmp_eq (tgt := 38) hx hb dX12_column_11 (by decide) (fun c_2 => absurd c_2 (by decide)) (fun _ => ?_)
  refine lv_iload_n hx hb dX12_column_14 rfl (lv_at hl 1 rfl) ?_
  refine lv_if_lt (tgt := 38) hx hb dX12_column_15 (by decide) (fun c_3 => ?_) (fun c_3 => ?_)
  · have k_4 : (p1).toInt < (0 : Int) := z_lt c_3
    refine lv_iconst (v := (-1)) hx hb dX12_column_38 (by decide) ?_
    refine W.widen (k := 0) (n := 0) (Nat.le_of_ble_eq_true rfl) (Nat.le_of_ble_eq_true rfl) ?_
    exact W.iret (v := (-1)) hx hb hr (fun t ht hW => ⟨⟨(-1), (), rfl, (by first | (unfold v_column; rw [if_pos (by omega)]) | (unfold v_column; rw [if_neg (by omega)]) | decide), trivial⟩, hS.F ht⟩) hS.2.2 dX12_column_39
  · have k_5 : (p1).toInt ≥ (0 : Int) := z_nlt c_3
    refine lv_iload_n hx hb dX12_column_18 rfl (lv_at hl 1 rfl) ?_
    refine lv_aload_n hx hb dX12_column_19 rfl (lv_at hl 0 rfl) ?_
    refine va_get (D := (dC, dI)) (ci := 12) (v := .int 6) (C := RX12) (T := TX12) (N := 70) hx hb hts hiX12 hown hK hP 0 rfl rfl 17 (by decide) w__fieldLink_RX12_47_ShellHeapModel_wide_I_ (fun _ h9 => h9) rfl dX12_column_20 ?_
    refine lv_icmp_ge (tgt := 38) hx hb dX12_column_23 (by decide) (fun c_6 => ?_) (fun c_6 => ?_)
    · have k_7 : (6 : Int) ≤ (p1).toInt := z_le c_6
      refine lv_iconst (v := (-1)) hx hb dX12_column_38 (by decide) ?_
      refine W.widen (k := 0) (n := 0) (Nat.le_of_ble_eq_true rfl) (Nat.le_of_ble_eq_true rfl) ?_
      exact W.iret (v := (-1)) hx hb hr (fun t ht hW => ⟨⟨(-1), (), rfl, (by first | (unfold v_column; rw [if_pos (by omega)]) | (unfold v_column; rw [if_neg (by omega)]) | decide), trivial⟩, hS.F ht⟩) hS.2.2 dX12_column_39
    · have k_8 : (6 : Int) > (p1).toInt := z_nle c_6
      refine lv_iload_n hx hb dX12_column_26 rfl (lv_at hl 2 rfl) ?_
      refine lv_if_lt (tgt := 38) hx hb dX12_column_27 (by decide) (fun c_9 => ?_) (fun c_9 => ?_)
      · have k_10 : (p2).toInt < (0 : Int) := z_lt c_9
        refine lv_iconst (v := (-1)) hx hb dX12_column_38 (by decide) ?_
        refine W.widen (k := 0) (n := 0) (Nat.le_of_ble_eq_true rfl) (Nat.le_of_ble_eq_true rfl) ?_
        exact W.iret (v := (-1)) hx hb hr (fun t ht hW => ⟨⟨(-1), (), rfl, (by first | (unfold v_column; rw [if_pos (by omega)]) | (unfold v_column; rw [if_neg (by omega)]) | decide), trivial⟩, hS.F ht⟩) hS.2.2 dX12_column_39
      · have k_11 : (p2).toInt ≥ (0 : Int) := z_nlt c_9
        refine lv_iload_n hx hb dX12_column_30 rfl (lv_at hl 2 rfl) ?_
        refine lv_aload_n hx hb dX12_column_31 rfl (lv_at hl 0 rfl) ?_
        refine va_get (D := (dC, dI)) (ci := 12) (v := .int 6) (C := RX12) (T := TX12) (N := 70) hx hb hts hiX12 hown hK hP 0 rfl rfl 18 (by decide) w__fieldLink_RX12_51_ShellHeapModel_tall_I_ (fun _ h9 => h9) rfl dX12_column_32 ?_
        refine lv_icmp_lt (tgt := 40) hx hb dX12_column_35 (by decide) (fun c_12 => ?_) (fun c_12 => ?_)
        · have k_13 : (p2).toInt < (6 : Int) := z_lt c_12
          refine lv_iconst (v := 0) hx hb dX12_column_40 (by decide) ?_
          refine lv_istore_n (lv' := [(3, .int 0), (0, .ref h0), (1, .int p1), (2, .int p2)]) hx hb dX12_column_41 rfl hl (by decide) rfl (fun ls hl => ?_)
          refine lv_iload_n hx hb dX12_column_42 rfl (lv_at hl 0 rfl) ?_
          refine lv_aload_n hx hb dX12_column_43 rfl (lv_at hl 1 rfl) ?_
          refine va_get (D := (dC, dI)) (ci := 12) (v := .int 0) (C := RX12) (T := TX12) (N := 70) hx hb hts hiX12 hown hK hP 0 rfl rfl 19 (by decide) w__fieldLink_RX12_181_ShellHeapModel_columns_I_ (fun _ h9 => h9) rfl dX12_column_44 ?_
          refine lv_icmp_ge (tgt := 78) hx hb dX12_column_47 (by decide) (fun _ => ?_) (fun c_14 => absurd (by decide) c_14)
          refine lv_aload_n hx hb dX12_column_78 rfl (lv_at hl 1 rfl) ?_
          refine va_get (D := (dC, dI)) (ci := 12) (v := .ref h1) (C := RX12) (T := TX12) (N := 70) hx hb hts hiX12 hown hK hP 0 rfl rfl 20 (by decide) w__fieldLink_RX12_54_ShellHeapModel_columnX_I_ (fun _ h9 => h9) rfl dX12_column_79 ?_
          refine lv_aload_n hx hb dX12_column_82 rfl (lv_at hl 1 rfl) ?_
          refine va_get (D := (dC, dI)) (ci := 12) (v := .int 0) (C := RX12) (T := TX12) (N := 70) hx hb hts hiX12 hown hK hP 0 rfl rfl 19 (by decide) w__fieldLink_RX12_181_ShellHeapModel_columns_I_ (fun _ h9 => h9) rfl dX12_column_83 ?_
          refine lv_iload_n hx hb dX12_column_86 rfl (lv_at hl 2 rfl) ?_
          refine va_iast hx hb hK hP hD hS 1 0 rfl rfl (by unfold vp_in; decide) dX12_column_87 (fun H_15 locs hP hD hS => ?_)
          have hP : va_P (dC, dI) vwCl [(h0, .inr (12, [h0_0, h0_1, .int 0, h0_3, h0_4, h0_5, h0_6, h0_7, h0_8, h0_9, h0_10, h0_11, h0_12, h0_13, h0_14, h0_15, h0_16, .int 6, .int 6, .int 0, .ref h1, .ref h2, .ref h3, h0_23, h0_24, h0_25, h0_26, h0_27, h0_28, h0_29, h0_30, h0_31, h0_32, h0_33, h0_34, h0_35, h0_36, h0_37, h0_38, h0_39, h0_40, h0_41, h0_42, h0_43, h0_44, h0_45, h0_46, h0_47, h0_48, h0_49, h0_50, h0_51, h0_52, h0_53, h0_54, h0_55, h0_56, h0_57, h0_58, h0_59, h0_60, h0_61, h0_62, h0_63, h0_64, h0_65, h0_66, h0_67, h0_68, h0_69])), (h1, .inl (ch1, 10, .inl (upd fh1 (0 : Int32).toNatClampNeg p1))), (h2, .inl (ch2, 10, .inl fh2)), (h3, .inl (ch3, 120, .inl fh3))] H_15 := hP
          have hD : va_D A [(h0, .inr (12, [h0_0, h0_1, .int 0, h0_3, h0_4, h0_5, h0_6, h0_7, h0_8, h0_9, h0_10, h0_11, h0_12, h0_13, h0_14, h0_15, h0_16, .int 6, .int 6, .int 0, .ref h1, .ref h2, .ref h3, h0_23, h0_24, h0_25, h0_26, h0_27, h0_28, h0_29, h0_30, h0_31, h0_32, h0_33, h0_34, h0_35, h0_36, h0_37, h0_38, h0_39, h0_40, h0_41, h0_42, h0_43, h0_44, h0_45, h0_46, h0_47, h0_48, h0_49, h0_50, h0_51, h0_52, h0_53, h0_54, h0_55, h0_56, h0_57, h0_58, h0_59, h0_60, h0_61, h0_62, h0_63, h0_64, h0_65, h0_66, h0_67, h0_68, h0_69])), (h1, .inl (ch1, 10, .inl (upd fh1 (0 : Int32).toNatClampNeg p1))), (h2, .inl (ch2, 10, .inl fh2)), (h3, .inl (ch3, 120, .inl fh3))] := hD
          generalize (upd fh1 (0 : Int32).toNatClampNeg p1) = f_16 at hP hD
          refine lv_aload_n hx hb dX12_column_88 rfl (lv_at hl 1 rfl) ?_
          refine va_get (D := (dC, dI)) (ci := 12) (v := .ref h2) (C := RX12) (T := TX12) (N := 70) hx hb hts hiX12 hown hK hP 0 rfl rfl 21 (by decide) w__fieldLink_RX12_57_ShellHeapModel_columnY_I_ (fun _ h9 => h9) rfl dX12_column_89 ?_
          refine lv_aload_n hx hb dX12_column_92 rfl (lv_at hl 1 rfl) ?_
          refine va_get (D := (dC, dI)) (ci := 12) (v := .int 0) (C := RX12) (T := TX12) (N := 70) hx hb hts hiX12 hown hK hP 0 rfl rfl 19 (by decide) w__fieldLink_RX12_181_ShellHeapModel_columns_I_ (fun _ h9 => h9) rfl dX12_column_93 ?_
          refine lv_iload_n hx hb dX12_column_96 rfl (lv_at hl 3 rfl) ?_
          refine va_iast hx hb hK hP hD hS 2 1 rfl rfl (by unfold vp_in; decide) dX12_column_97 (fun H_17 locs hP hD hS => ?_)
          have hP : va_P (dC, dI) vwCl [(h0, .inr (12, [h0_0, h0_1, .int 0, h0_3, h0_4, h0_5, h0_6, h0_7, h0_8, h0_9, h0_10, h0_11, h0_12, h0_13, h0_14, h0_15, h0_16, .int 6, .int 6, .int 0, .ref h1, .ref h2, .ref h3, h0_23, h0_24, h0_25, h0_26, h0_27, h0_28, h0_29, h0_30, h0_31, h0_32, h0_33, h0_34, h0_35, h0_36, h0_37, h0_38, h0_39, h0_40, h0_41, h0_42, h0_43, h0_44, h0_45, h0_46, h0_47, h0_48, h0_49, h0_50, h0_51, h0_52, h0_53, h0_54, h0_55, h0_56, h0_57, h0_58, h0_59, h0_60, h0_61, h0_62, h0_63, h0_64, h0_65, h0_66, h0_67, h0_68, h0_69])), (h1, .inl (ch1, 10, .inl f_16)), (h2, .inl (ch2, 10, .inl (upd fh2 (0 : Int32).toNatClampNeg p2))), (h3, .inl (ch3, 120, .inl fh3))] H_17 := hP
          have hD : va_D A [(h0, .inr (12, [h0_0, h0_1, .int 0, h0_3, h0_4, h0_5, h0_6, h0_7, h0_8, h0_9, h0_10, h0_11, h0_12, h0_13, h0_14, h0_15, h0_16, .int 6, .int 6, .int 0, .ref h1, .ref h2, .ref h3, h0_23, h0_24, h0_25, h0_26, h0_27, h0_28, h0_29, h0_30, h0_31, h0_32, h0_33, h0_34, h0_35, h0_36, h0_37, h0_38, h0_39, h0_40, h0_41, h0_42, h0_43, h0_44, h0_45, h0_46, h0_47, h0_48, h0_49, h0_50, h0_51, h0_52, h0_53, h0_54, h0_55, h0_56, h0_57, h0_58, h0_59, h0_60, h0_61, h0_62, h0_63, h0_64, h0_65, h0_66, h0_67, h0_68, h0_69])), (h1, .inl (ch1, 10, .inl f_16)), (h2, .inl (ch2, 10, .inl (upd fh2 (0 : Int32).toNatClampNeg p2))), (h3, .inl (ch3, 120, .inl fh3))] := hD
          generalize (upd fh2 (0 : Int32).toNatClampNeg p2) = f_18 at hP hD
          refine lv_iconst (v := 0) hx hb dX12_column_98 (by decide) ?_
          refine lv_istore_n (lv' := [(3, .int 0), (0, .ref h0), (1, .int p1), (2, .int p2)]) hx hb dX12_column_99 rfl hl (by decide) rfl (fun ls hl => ?_)
          refine lv_iload_n hx hb dX12_column_100 rfl (lv_at hl 0 rfl) ?_
          refine lv_bipush (v := 12) hx hb dX12_column_101 (by decide) ?_
          refine lv_icmp_ge (tgt := 127) hx hb dX12_column_103 (by decide) (fun c_19 => absurd c_19 (by decide)) (fun _ => ?_)
          refine lv_aload_n hx hb dX12_column_106 rfl (lv_at hl 1 rfl) ?_
          refine va_get (D := (dC, dI)) (ci := 12) (v := .ref h3) (C := RX12) (T := TX12) (N := 70) hx hb hts hiX12 hown hK hP 0 rfl rfl 22 (by decide) w__fieldLink_RX12_60_ShellHeapModel_thickOf_I_ (fun _ h9 => h9) rfl dX12_column_107 ?_
          refine lv_bipush (v := 12) hx hb dX12_column_110 (by decide) ?_
          refine lv_aload_n hx hb dX12_column_112 rfl (lv_at hl 1 rfl) ?_
          refine va_get (D := (dC, dI)) (ci := 12) (v := .int 0) (C := RX12) (T := TX12) (N := 70) hx hb hts hiX12 hown hK hP 0 rfl rfl 19 (by decide) w__fieldLink_RX12_181_ShellHeapModel_columns_I_ (fun _ h9 => h9) rfl dX12_column_113 ?_
          refine lv_imul hx hb dX12_column_116 ?_
          refine lv_topi (fun x_20 e_21 => ?_)
          obtain rfl : x_20 = 0 := e_21.trans (by decide)
          refine lv_iload_n hx hb dX12_column_117 rfl (lv_at hl 0 rfl) ?_
          refine lv_iadd hx hb dX12_column_118 ?_
          refine lv_topi (fun x_22 e_23 => ?_)
          obtain rfl : x_22 = 0 := e_23.trans (by decide)
          refine lv_iconst (v := 0) hx hb dX12_column_119 (by decide) ?_
          refine va_iast hx hb hK hP hD hS 3 2 rfl rfl (by unfold vp_in; decide) dX12_column_120 (fun H_24 locs hP hD hS => ?_)
          have hP : va_P (dC, dI) vwCl [(h0, .inr (12, [h0_0, h0_1, .int 0, h0_3, h0_4, h0_5, h0_6, h0_7, h0_8, h0_9, h0_10, h0_11, h0_12, h0_13, h0_14, h0_15, h0_16, .int 6, .int 6, .int 0, .ref h1, .ref h2, .ref h3, h0_23, h0_24, h0_25, h0_26, h0_27, h0_28, h0_29, h0_30, h0_31, h0_32, h0_33, h0_34, h0_35, h0_36, h0_37, h0_38, h0_39, h0_40, h0_41, h0_42, h0_43, h0_44, h0_45, h0_46, h0_47, h0_48, h0_49, h0_50, h0_51, h0_52, h0_53, h0_54, h0_55, h0_56, h0_57, h0_58, h0_59, h0_60, h0_61, h0_62, h0_63, h0_64, h0_65, h0_66, h0_67, h0_68, h0_69])), (h1, .inl (ch1, 10, .inl f_16)), (h2, .inl (ch2, 10, .inl f_18)), (h3, .inl (ch3, 120, .inl (upd fh3 (0 : Int32).toNatClampNeg 0)))] H_24 := hP
          have hD : va_D A [(h0, .inr (12, [h0_0, h0_1, .int 0, h0_3, h0_4, h0_5, h0_6, h0_7, h0_8, h0_9, h0_10, h0_11, h0_12, h0_13, h0_14, h0_15, h0_16, .int 6, .int 6, .int 0, .ref h1, .ref h2, .ref h3, h0_23, h0_24, h0_25, h0_26, h0_27, h0_28, h0_29, h0_30, h0_31, h0_32, h0_33, h0_34, h0_35, h0_36, h0_37, h0_38, h0_39, h0_40, h0_41, h0_42, h0_43, h0_44, h0_45, h0_46, h0_47, h0_48, h0_49, h0_50, h0_51, h0_52, h0_53, h0_54, h0_55, h0_56, h0_57, h0_58, h0_59, h0_60, h0_61, h0_62, h0_63, h0_64, h0_65, h0_66, h0_67, h0_68, h0_69])), (h1, .inl (ch1, 10, .inl f_16)), (h2, .inl (ch2, 10, .inl f_18)), (h3, .inl (ch3, 120, .inl (upd fh3 (0 : Int32).toNatClampNeg 0)))] := hD
          generalize (upd fh3 (0 : Int32).toNatClampNeg 0) = f_25 at hP hD
          refine lv_iinc (v := 1) (lv' := [(3, .int 1), (0, .ref h0), (1, .int p1), (2, .int p2)]) hx hb dX12_column_121 hl (k := 0) rfl (by decide) (by decide) rfl (fun ls hl => ?_)
          refine lv_goto (tgt := 100) hx hb dX12_column_124 (by decide) ?_
          refine lv_iload_n hx hb dX12_column_100 rfl (lv_at hl 0 rfl) ?_
          refine lv_bipush (v := 12) hx hb dX12_column_101 (by decide) ?_
          refine lv_icmp_ge (tgt := 127) hx hb dX12_column_103 (by decide) (fun c_26 => absurd c_26 (by decide)) (fun _ => ?_)
          refine lv_aload_n hx hb dX12_column_106 rfl (lv_at hl 1 rfl) ?_
          refine va_get (D := (dC, dI)) (ci := 12) (v := .ref h3) (C := RX12) (T := TX12) (N := 70) hx hb hts hiX12 hown hK hP 0 rfl rfl 22 (by decide) w__fieldLink_RX12_60_ShellHeapModel_thickOf_I_ (fun _ h9 => h9) rfl dX12_column_107 ?_
          refine lv_bipush (v := 12) hx hb dX12_column_110 (by decide) ?_
          refine lv_aload_n hx hb dX12_column_112 rfl (lv_at hl 1 rfl) ?_
          refine va_get (D := (dC, dI)) (ci := 12) (v := .int 0) (C := RX12) (T := TX12) (N := 70) hx hb hts hiX12 hown hK hP 0 rfl rfl 19 (by decide) w__fieldLink_RX12_181_ShellHeapModel_columns_I_ (fun _ h9 => h9) rfl dX12_column_113 ?_
          refine lv_imul hx hb dX12_column_116 ?_
          refine lv_topi (fun x_27 e_28 => ?_)
          obtain rfl : x_27 = 0 := e_28.trans (by decide)
          refine lv_iload_n hx hb dX12_column_117 rfl (lv_at hl 0 rfl) ?_
          refine lv_iadd hx hb dX12_column_118 ?_
          refine lv_topi (fun x_29 e_30 => ?_)
          obtain rfl : x_29 = 1 := e_30.trans (by decide)
          refine lv_iconst (v := 0) hx hb dX12_column_119 (by decide) ?_
          refine va_iast hx hb hK hP hD hS 3 2 rfl rfl (by unfold vp_in; decide) dX12_column_120 (fun H_31 locs hP hD hS => ?_)
          have hP : va_P (dC, dI) vwCl [(h0, .inr (12, [h0_0, h0_1, .int 0, h0_3, h0_4, h0_5, h0_6, h0_7, h0_8, h0_9, h0_10, h0_11, h0_12, h0_13, h0_14, h0_15, h0_16, .int 6, .int 6, .int 0, .ref h1, .ref h2, .ref h3, h0_23, h0_24, h0_25, h0_26, h0_27, h0_28, h0_29, h0_30, h0_31, h0_32, h0_33, h0_34, h0_35, h0_36, h0_37, h0_38, h0_39, h0_40, h0_41, h0_42, h0_43, h0_44, h0_45, h0_46, h0_47, h0_48, h0_49, h0_50, h0_51, h0_52, h0_53, h0_54, h0_55, h0_56, h0_57, h0_58, h0_59, h0_60, h0_61, h0_62, h0_63, h0_64, h0_65, h0_66, h0_67, h0_68, h0_69])), (h1, .inl (ch1, 10, .inl f_16)), (h2, .inl (ch2, 10, .inl f_18)), (h3, .inl (ch3, 120, .inl (upd f_25 (1 : Int32).toNatClampNeg 0)))] H_31 := hP
          have hD : va_D A [(h0, .inr (12, [h0_0, h0_1, .int 0, h0_3, h0_4, h0_5, h0_6, h0_7, h0_8, h0_9, h0_10, h0_11, h0_12, h0_13, h0_14, h0_15, h0_16, .int 6, .int 6, .int 0, .ref h1, .ref h2, .ref h3, h0_23, h0_24, h0_25, h0_26, h0_27, h0_28, h0_29, h0_30, h0_31, h0_32, h0_33, h0_34, h0_35, h0_36, h0_37, h0_38, h0_39, h0_40, h0_41, h0_42, h0_43, h0_44, h0_45, h0_46, h0_47, h0_48, h0_49, h0_50, h0_51, h0_52, h0_53, h0_54, h0_55, h0_56, h0_57, h0_58, h0_59, h0_60, h0_61, h0_62, h0_63, h0_64, h0_65, h0_66, h0_67, h0_68, h0_69])), (h1, .inl (ch1, 10, .inl f_16)), (h2, .inl (ch2, 10, .inl f_18)), (h3, .inl (ch3, 120, .inl (upd f_25 (1 : Int32).toNatClampNeg 0)))] := hD
          generalize (upd f_25 (1 : Int32).toNatClampNeg 0) = f_32 at hP hD
          refine lv_iinc (v := 2) (lv' := [(3, .int 2), (0, .ref h0), (1, .int p1), (2, .int p2)]) hx hb dX12_column_121 hl (k := 0) rfl (by decide) (by decide) rfl (fun ls hl => ?_)
          refine lv_goto (tgt := 100) hx hb dX12_column_124 (by decide) ?_
          refine lv_iload_n hx hb dX12_column_100 rfl (lv_at hl 0 rfl) ?_
          refine lv_bipush (v := 12) hx hb dX12_column_101 (by decide) ?_
          refine lv_icmp_ge (tgt := 127) hx hb dX12_column_103 (by decide) (fun c_33 => absurd c_33 (by decide)) (fun _ => ?_)
          refine lv_aload_n hx hb dX12_column_106 rfl (lv_at hl 1 rfl) ?_
          refine va_get (D := (dC, dI)) (ci := 12) (v := .ref h3) (C := RX12) (T := TX12) (N := 70) hx hb hts hiX12 hown hK hP 0 rfl rfl 22 (by decide) w__fieldLink_RX12_60_ShellHeapModel_thickOf_I_ (fun _ h9 => h9) rfl dX12_column_107 ?_
          refine lv_bipush (v := 12) hx hb dX12_column_110 (by decide) ?_
          refine lv_aload_n hx hb dX12_column_112 rfl (lv_at hl 1 rfl) ?_
          refine va_get (D := (dC, dI)) (ci := 12) (v := .int 0) (C := RX12) (T := TX12) (N := 70) hx hb hts hiX12 hown hK hP 0 rfl rfl 19 (by decide) w__fieldLink_RX12_181_ShellHeapModel_columns_I_ (fun _ h9 => h9) rfl dX12_column_113 ?_
          refine lv_imul hx hb dX12_column_116 ?_
          refine lv_topi (fun x_34 e_35 => ?_)
          obtain rfl : x_34 = 0 := e_35.trans (by decide)
          refine lv_iload_n hx hb dX12_column_117 rfl (lv_at hl 0 rfl) ?_
          refine lv_iadd hx hb dX12_column_118 ?_
          refine lv_topi (fun x_36 e_37 => ?_)
          obtain rfl : x_36 = 2 := e_37.trans (by decide)
          refine lv_iconst (v := 0) hx hb dX12_column_119 (by decide) ?_
          refine va_iast hx hb hK hP hD hS 3 2 rfl rfl (by unfold vp_in; decide) dX12_column_120 (fun H_38 locs hP hD hS => ?_)
          have hP : va_P (dC, dI) vwCl [(h0, .inr (12, [h0_0, h0_1, .int 0, h0_3, h0_4, h0_5, h0_6, h0_7, h0_8, h0_9, h0_10, h0_11, h0_12, h0_13, h0_14, h0_15, h0_16, .int 6, .int 6, .int 0, .ref h1, .ref h2, .ref h3, h0_23, h0_24, h0_25, h0_26, h0_27, h0_28, h0_29, h0_30, h0_31, h0_32, h0_33, h0_34, h0_35, h0_36, h0_37, h0_38, h0_39, h0_40, h0_41, h0_42, h0_43, h0_44, h0_45, h0_46, h0_47, h0_48, h0_49, h0_50, h0_51, h0_52, h0_53, h0_54, h0_55, h0_56, h0_57, h0_58, h0_59, h0_60, h0_61, h0_62, h0_63, h0_64, h0_65, h0_66, h0_67, h0_68, h0_69])), (h1, .inl (ch1, 10, .inl f_16)), (h2, .inl (ch2, 10, .inl f_18)), (h3, .inl (ch3, 120, .inl (upd f_32 (2 : Int32).toNatClampNeg 0)))] H_38 := hP
          have hD : va_D A [(h0, .inr (12, [h0_0, h0_1, .int 0, h0_3, h0_4, h0_5, h0_6, h0_7, h0_8, h0_9, h0_10, h0_11, h0_12, h0_13, h0_14, h0_15, h0_16, .int 6, .int 6, .int 0, .ref h1, .ref h2, .ref h3, h0_23, h0_24, h0_25, h0_26, h0_27, h0_28, h0_29, h0_30, h0_31, h0_32, h0_33, h0_34, h0_35, h0_36, h0_37, h0_38, h0_39, h0_40, h0_41, h0_42, h0_43, h0_44, h0_45, h0_46, h0_47, h0_48, h0_49, h0_50, h0_51, h0_52, h0_53, h0_54, h0_55, h0_56, h0_57, h0_58, h0_59, h0_60, h0_61, h0_62, h0_63, h0_64, h0_65, h0_66, h0_67, h0_68, h0_69])), (h1, .inl (ch1, 10, .inl f_16)), (h2, .inl (ch2, 10, .inl f_18)), (h3, .inl (ch3, 120, .inl (upd f_32 (2 : Int32).toNatClampNeg 0)))] := hD
          generalize (upd f_32 (2 : Int32).toNatClampNeg 0) = f_39 at hP hD
          refine lv_iinc (v := 3) (lv' := [(3, .int 3), (0, .ref h0), (1, .int p1), (2, .int p2)]) hx hb dX12_column_121 hl (k := 0) rfl (by decide) (by decide) rfl (fun ls hl => ?_)
          refine lv_goto (tgt := 100) hx hb dX12_column_124 (by decide) ?_
          refine lv_iload_n hx hb dX12_column_100 rfl (lv_at hl 0 rfl) ?_
          refine lv_bipush (v := 12) hx hb dX12_column_101 (by decide) ?_
          refine lv_icmp_ge (tgt := 127) hx hb dX12_column_103 (by decide) (fun c_40 => absurd c_40 (by decide)) (fun _ => ?_)
          refine lv_aload_n hx hb dX12_column_106 rfl (lv_at hl 1 rfl) ?_
          refine va_get (D := (dC, dI)) (ci := 12) (v := .ref h3) (C := RX12) (T := TX12) (N := 70) hx hb hts hiX12 hown hK hP 0 rfl rfl 22 (by decide) w__fieldLink_RX12_60_ShellHeapModel_thickOf_I_ (fun _ h9 => h9) rfl dX12_column_107 ?_
          refine lv_bipush (v := 12) hx hb dX12_column_110 (by decide) ?_
          refine lv_aload_n hx hb dX12_column_112 rfl (lv_at hl 1 rfl) ?_
          refine va_get (D := (dC, dI)) (ci := 12) (v := .int 0) (C := RX12) (T := TX12) (N := 70) hx hb hts hiX12 hown hK hP 0 rfl rfl 19 (by decide) w__fieldLink_RX12_181_ShellHeapModel_columns_I_ (fun _ h9 => h9) rfl dX12_column_113 ?_
          refine lv_imul hx hb dX12_column_116 ?_
          refine lv_topi (fun x_41 e_42 => ?_)
          obtain rfl : x_41 = 0 := e_42.trans (by decide)
          refine lv_iload_n hx hb dX12_column_117 rfl (lv_at hl 0 rfl) ?_
          refine lv_iadd hx hb dX12_column_118 ?_
          refine lv_topi (fun x_43 e_44 => ?_)
          obtain rfl : x_43 = 3 := e_44.trans (by decide)
          refine lv_iconst (v := 0) hx hb dX12_column_119 (by decide) ?_
          refine va_iast hx hb hK hP hD hS 3 2 rfl rfl (by unfold vp_in; decide) dX12_column_120 (fun H_45 locs hP hD hS => ?_)
          have hP : va_P (dC, dI) vwCl [(h0, .inr (12, [h0_0, h0_1, .int 0, h0_3, h0_4, h0_5, h0_6, h0_7, h0_8, h0_9, h0_10, h0_11, h0_12, h0_13, h0_14, h0_15, h0_16, .int 6, .int 6, .int 0, .ref h1, .ref h2, .ref h3, h0_23, h0_24, h0_25, h0_26, h0_27, h0_28, h0_29, h0_30, h0_31, h0_32, h0_33, h0_34, h0_35, h0_36, h0_37, h0_38, h0_39, h0_40, h0_41, h0_42, h0_43, h0_44, h0_45, h0_46, h0_47, h0_48, h0_49, h0_50, h0_51, h0_52, h0_53, h0_54, h0_55, h0_56, h0_57, h0_58, h0_59, h0_60, h0_61, h0_62, h0_63, h0_64, h0_65, h0_66, h0_67, h0_68, h0_69])), (h1, .inl (ch1, 10, .inl f_16)), (h2, .inl (ch2, 10, .inl f_18)), (h3, .inl (ch3, 120, .inl (upd f_39 (3 : Int32).toNatClampNeg 0)))] H_45 := hP
          have hD : va_D A [(h0, .inr (12, [h0_0, h0_1, .int 0, h0_3, h0_4, h0_5, h0_6, h0_7, h0_8, h0_9, h0_10, h0_11, h0_12, h0_13, h0_14, h0_15, h0_16, .int 6, .int 6, .int 0, .ref h1, .ref h2, .ref h3, h0_23, h0_24, h0_25, h0_26, h0_27, h0_28, h0_29, h0_30, h0_31, h0_32, h0_33, h0_34, h0_35, h0_36, h0_37, h0_38, h0_39, h0_40, h0_41, h0_42, h0_43, h0_44, h0_45, h0_46, h0_47, h0_48, h0_49, h0_50, h0_51, h0_52, h0_53, h0_54, h0_55, h0_56, h0_57, h0_58, h0_59, h0_60, h0_61, h0_62, h0_63, h0_64, h0_65, h0_66, h0_67, h0_68, h0_69])), (h1, .inl (ch1, 10, .inl f_16)), (h2, .inl (ch2, 10, .inl f_18)), (h3, .inl (ch3, 120, .inl (upd f_39 (3 : Int32).toNatClampNeg 0)))] := hD
          generalize (upd f_39 (3 : Int32).toNatClampNeg 0) = f_46 at hP hD
          refine lv_iinc (v := 4) (lv' := [(3, .int 4), (0, .ref h0), (1, .int p1), (2, .int p2)]) hx hb dX12_column_121 hl (k := 0) rfl (by decide) (by decide) rfl (fun ls hl => ?_)
          refine lv_goto (tgt := 100) hx hb dX12_column_124 (by decide) ?_
          refine lv_iload_n hx hb dX12_column_100 rfl (lv_at hl 0 rfl) ?_
          refine lv_bipush (v := 12) hx hb dX12_column_101 (by decide) ?_
          refine lv_icmp_ge (tgt := 127) hx hb dX12_column_103 (by decide) (fun c_47 => absurd c_47 (by decide)) (fun _ => ?_)
          refine lv_aload_n hx hb dX12_column_106 rfl (lv_at hl 1 rfl) ?_
          refine va_get (D := (dC, dI)) (ci := 12) (v := .ref h3) (C := RX12) (T := TX12) (N := 70) hx hb hts hiX12 hown hK hP 0 rfl rfl 22 (by decide) w__fieldLink_RX12_60_ShellHeapModel_thickOf_I_ (fun _ h9 => h9) rfl dX12_column_107 ?_
          refine lv_bipush (v := 12) hx hb dX12_column_110 (by decide) ?_
          refine lv_aload_n hx hb dX12_column_112 rfl (lv_at hl 1 rfl) ?_
          refine va_get (D := (dC, dI)) (ci := 12) (v := .int 0) (C := RX12) (T := TX12) (N := 70) hx hb hts hiX12 hown hK hP 0 rfl rfl 19 (by decide) w__fieldLink_RX12_181_ShellHeapModel_columns_I_ (fun _ h9 => h9) rfl dX12_column_113 ?_
          refine lv_imul hx hb dX12_column_116 ?_
          refine lv_topi (fun x_48 e_49 => ?_)
          obtain rfl : x_48 = 0 := e_49.trans (by decide)
          refine lv_iload_n hx hb dX12_column_117 rfl (lv_at hl 0 rfl) ?_
          refine lv_iadd hx hb dX12_column_118 ?_
          refine lv_topi (fun x_50 e_51 => ?_)
          obtain rfl : x_50 = 4 := e_51.trans (by decide)
          refine lv_iconst (v := 0) hx hb dX12_column_119 (by decide) ?_
          refine va_iast hx hb hK hP hD hS 3 2 rfl rfl (by unfold vp_in; decide) dX12_column_120 (fun H_52 locs hP hD hS => ?_)
          have hP : va_P (dC, dI) vwCl [(h0, .inr (12, [h0_0, h0_1, .int 0, h0_3, h0_4, h0_5, h0_6, h0_7, h0_8, h0_9, h0_10, h0_11, h0_12, h0_13, h0_14, h0_15, h0_16, .int 6, .int 6, .int 0, .ref h1, .ref h2, .ref h3, h0_23, h0_24, h0_25, h0_26, h0_27, h0_28, h0_29, h0_30, h0_31, h0_32, h0_33, h0_34, h0_35, h0_36, h0_37, h0_38, h0_39, h0_40, h0_41, h0_42, h0_43, h0_44, h0_45, h0_46, h0_47, h0_48, h0_49, h0_50, h0_51, h0_52, h0_53, h0_54, h0_55, h0_56, h0_57, h0_58, h0_59, h0_60, h0_61, h0_62, h0_63, h0_64, h0_65, h0_66, h0_67, h0_68, h0_69])), (h1, .inl (ch1, 10, .inl f_16)), (h2, .inl (ch2, 10, .inl f_18)), (h3, .inl (ch3, 120, .inl (upd f_46 (4 : Int32).toNatClampNeg 0)))] H_52 := hP
          have hD : va_D A [(h0, .inr (12, [h0_0, h0_1, .int 0, h0_3, h0_4, h0_5, h0_6, h0_7, h0_8, h0_9, h0_10, h0_11, h0_12, h0_13, h0_14, h0_15, h0_16, .int 6, .int 6, .int 0, .ref h1, .ref h2, .ref h3, h0_23, h0_24, h0_25, h0_26, h0_27, h0_28, h0_29, h0_30, h0_31, h0_32, h0_33, h0_34, h0_35, h0_36, h0_37, h0_38, h0_39, h0_40, h0_41, h0_42, h0_43, h0_44, h0_45, h0_46, h0_47, h0_48, h0_49, h0_50, h0_51, h0_52, h0_53, h0_54, h0_55, h0_56, h0_57, h0_58, h0_59, h0_60, h0_61, h0_62, h0_63, h0_64, h0_65, h0_66, h0_67, h0_68, h0_69])), (h1, .inl (ch1, 10, .inl f_16)), (h2, .inl (ch2, 10, .inl f_18)), (h3, .inl (ch3, 120, .inl (upd f_46 (4 : Int32).toNatClampNeg 0)))] := hD
          generalize (upd f_46 (4 : Int32).toNatClampNeg 0) = f_53 at hP hD
          refine lv_iinc (v := 5) (lv' := [(3, .int 5), (0, .ref h0), (1, .int p1), (2, .int p2)]) hx hb dX12_column_121 hl (k := 0) rfl (by decide) (by decide) rfl (fun ls hl => ?_)
          refine lv_goto (tgt := 100) hx hb dX12_column_124 (by decide) ?_
          refine lv_iload_n hx hb dX12_column_100 rfl (lv_at hl 0 rfl) ?_
          refine lv_bipush (v := 12) hx hb dX12_column_101 (by decide) ?_
          refine lv_icmp_ge (tgt := 127) hx hb dX12_column_103 (by decide) (fun c_54 => absurd c_54 (by decide)) (fun _ => ?_)
          refine lv_aload_n hx hb dX12_column_106 rfl (lv_at hl 1 rfl) ?_
          refine va_get (D := (dC, dI)) (ci := 12) (v := .ref h3) (C := RX12) (T := TX12) (N := 70) hx hb hts hiX12 hown hK hP 0 rfl rfl 22 (by decide) w__fieldLink_RX12_60_ShellHeapModel_thickOf_I_ (fun _ h9 => h9) rfl dX12_column_107 ?_
          refine lv_bipush (v := 12) hx hb dX12_column_110 (by decide) ?_
          refine lv_aload_n hx hb dX12_column_112 rfl (lv_at hl 1 rfl) ?_
          refine va_get (D := (dC, dI)) (ci := 12) (v := .int 0) (C := RX12) (T := TX12) (N := 70) hx hb hts hiX12 hown hK hP 0 rfl rfl 19 (by decide) w__fieldLink_RX12_181_ShellHeapModel_columns_I_ (fun _ h9 => h9) rfl dX12_column_113 ?_
          refine lv_imul hx hb dX12_column_116 ?_
          refine lv_topi (fun x_55 e_56 => ?_)
          obtain rfl : x_55 = 0 := e_56.trans (by decide)
          refine lv_iload_n hx hb dX12_column_117 rfl (lv_at hl 0 rfl) ?_
          refine lv_iadd hx hb dX12_column_118 ?_
          refine lv_topi (fun x_57 e_58 => ?_)
          obtain rfl : x_57 = 5 := e_58.trans (by decide)
          refine lv_iconst (v := 0) hx hb dX12_column_119 (by decide) ?_
          refine va_iast hx hb hK hP hD hS 3 2 rfl rfl (by unfold vp_in; decide) dX12_column_120 (fun H_59 locs hP hD hS => ?_)
          have hP : va_P (dC, dI) vwCl [(h0, .inr (12, [h0_0, h0_1, .int 0, h0_3, h0_4, h0_5, h0_6, h0_7, h0_8, h0_9, h0_10, h0_11, h0_12, h0_13, h0_14, h0_15, h0_16, .int 6, .int 6, .int 0, .ref h1, .ref h2, .ref h3, h0_23, h0_24, h0_25, h0_26, h0_27, h0_28, h0_29, h0_30, h0_31, h0_32, h0_33, h0_34, h0_35, h0_36, h0_37, h0_38, h0_39, h0_40, h0_41, h0_42, h0_43, h0_44, h0_45, h0_46, h0_47, h0_48, h0_49, h0_50, h0_51, h0_52, h0_53, h0_54, h0_55, h0_56, h0_57, h0_58, h0_59, h0_60, h0_61, h0_62, h0_63, h0_64, h0_65, h0_66, h0_67, h0_68, h0_69])), (h1, .inl (ch1, 10, .inl f_16)), (h2, .inl (ch2, 10, .inl f_18)), (h3, .inl (ch3, 120, .inl (upd f_53 (5 : Int32).toNatClampNeg 0)))] H_59 := hP
          have hD : va_D A [(h0, .inr (12, [h0_0, h0_1, .int 0, h0_3, h0_4, h0_5, h0_6, h0_7, h0_8, h0_9, h0_10, h0_11, h0_12, h0_13, h0_14, h0_15, h0_16, .int 6, .int 6, .int 0, .ref h1, .ref h2, .ref h3, h0_23, h0_24, h0_25, h0_26, h0_27, h0_28, h0_29, h0_30, h0_31, h0_32, h0_33, h0_34, h0_35, h0_36, h0_37, h0_38, h0_39, h0_40, h0_41, h0_42, h0_43, h0_44, h0_45, h0_46, h0_47, h0_48, h0_49, h0_50, h0_51, h0_52, h0_53, h0_54, h0_55, h0_56, h0_57, h0_58, h0_59, h0_60, h0_61, h0_62, h0_63, h0_64, h0_65, h0_66, h0_67, h0_68, h0_69])), (h1, .inl (ch1, 10, .inl f_16)), (h2, .inl (ch2, 10, .inl f_18)), (h3, .inl (ch3, 120, .inl (upd f_53 (5 : Int32).toNatClampNeg 0)))] := hD
          generalize (upd f_53 (5 : Int32).toNatClampNeg 0) = f_60 at hP hD
          refine lv_iinc (v := 6) (lv' := [(3, .int 6), (0, .ref h0), (1, .int p1), (2, .int p2)]) hx hb dX12_column_121 hl (k := 0) rfl (by decide) (by decide) rfl (fun ls hl => ?_)
          refine lv_goto (tgt := 100) hx hb dX12_column_124 (by decide) ?_
          refine lv_iload_n hx hb dX12_column_100 rfl (lv_at hl 0 rfl) ?_
          refine lv_bipush (v := 12) hx hb dX12_column_101 (by decide) ?_
          refine lv_icmp_ge (tgt := 127) hx hb dX12_column_103 (by decide) (fun c_61 => absurd c_61 (by decide)) (fun _ => ?_)
          refine lv_aload_n hx hb dX12_column_106 rfl (lv_at hl 1 rfl) ?_
          refine va_get (D := (dC, dI)) (ci := 12) (v := .ref h3) (C := RX12) (T := TX12) (N := 70) hx hb hts hiX12 hown hK hP 0 rfl rfl 22 (by decide) w__fieldLink_RX12_60_ShellHeapModel_thickOf_I_ (fun _ h9 => h9) rfl dX12_column_107 ?_
          refine lv_bipush (v := 12) hx hb dX12_column_110 (by decide) ?_
          refine lv_aload_n hx hb dX12_column_112 rfl (lv_at hl 1 rfl) ?_
          refine va_get (D := (dC, dI)) (ci := 12) (v := .int 0) (C := RX12) (T := TX12) (N := 70) hx hb hts hiX12 hown hK hP 0 rfl rfl 19 (by decide) w__fieldLink_RX12_181_ShellHeapModel_columns_I_ (fun _ h9 => h9) rfl dX12_column_113 ?_
          refine lv_imul hx hb dX12_column_116 ?_
          refine lv_topi (fun x_62 e_63 => ?_)
          obtain rfl : x_62 = 0 := e_63.trans (by decide)
          refine lv_iload_n hx hb dX12_column_117 rfl (lv_at hl 0 rfl) ?_
          refine lv_iadd hx hb dX12_column_118 ?_
          refine lv_topi (fun x_64 e_65 => ?_)
          obtain rfl : x_64 = 6 := e_65.trans (by decide)
          refine lv_iconst (v := 0) hx hb dX12_column_119 (by decide) ?_
          refine va_iast hx hb hK hP hD hS 3 2 rfl rfl (by unfold vp_in; decide) dX12_column_120 (fun H_66 locs hP hD hS => ?_)
          have hP : va_P (dC, dI) vwCl [(h0, .inr (12, [h0_0, h0_1, .int 0, h0_3, h0_4, h0_5, h0_6, h0_7, h0_8, h0_9, h0_10, h0_11, h0_12, h0_13, h0_14, h0_15, h0_16, .int 6, .int 6, .int 0, .ref h1, .ref h2, .ref h3, h0_23, h0_24, h0_25, h0_26, h0_27, h0_28, h0_29, h0_30, h0_31, h0_32, h0_33, h0_34, h0_35, h0_36, h0_37, h0_38, h0_39, h0_40, h0_41, h0_42, h0_43, h0_44, h0_45, h0_46, h0_47, h0_48, h0_49, h0_50, h0_51, h0_52, h0_53, h0_54, h0_55, h0_56, h0_57, h0_58, h0_59, h0_60, h0_61, h0_62, h0_63, h0_64, h0_65, h0_66, h0_67, h0_68, h0_69])), (h1, .inl (ch1, 10, .inl f_16)), (h2, .inl (ch2, 10, .inl f_18)), (h3, .inl (ch3, 120, .inl (upd f_60 (6 : Int32).toNatClampNeg 0)))] H_66 := hP
          have hD : va_D A [(h0, .inr (12, [h0_0, h0_1, .int 0, h0_3, h0_4, h0_5, h0_6, h0_7, h0_8, h0_9, h0_10, h0_11, h0_12, h0_13, h0_14, h0_15, h0_16, .int 6, .int 6, .int 0, .ref h1, .ref h2, .ref h3, h0_23, h0_24, h0_25, h0_26, h0_27, h0_28, h0_29, h0_30, h0_31, h0_32, h0_33, h0_34, h0_35, h0_36, h0_37, h0_38, h0_39, h0_40, h0_41, h0_42, h0_43, h0_44, h0_45, h0_46, h0_47, h0_48, h0_49, h0_50, h0_51, h0_52, h0_53, h0_54, h0_55, h0_56, h0_57, h0_58, h0_59, h0_60, h0_61, h0_62, h0_63, h0_64, h0_65, h0_66, h0_67, h0_68, h0_69])), (h1, .inl (ch1, 10, .inl f_16)), (h2, .inl (ch2, 10, .inl f_18)), (h3, .inl (ch3, 120, .inl (upd f_60 (6 : Int32).toNatClampNeg 0)))] := hD
          generalize (upd f_60 (6 : Int32).toNatClampNeg 0) = f_67 at hP hD
          refine lv_iinc (v := 7) (lv' := [(3, .int 7), (0, .ref h0), (1, .int p1), (2, .int p2)]) hx hb dX12_column_121 hl (k := 0) rfl (by decide) (by decide) rfl (fun ls hl => ?_)
          refine lv_goto (tgt := 100) hx hb dX12_column_124 (by decide) ?_
          refine lv_iload_n hx hb dX12_column_100 rfl (lv_at hl 0 rfl) ?_
          refine lv_bipush (v := 12) hx hb dX12_column_101 (by decide) ?_
          refine lv_icmp_ge (tgt := 127) hx hb dX12_column_103 (by decide) (fun c_68 => absurd c_68 (by decide)) (fun _ => ?_)
          refine lv_aload_n hx hb dX12_column_106 rfl (lv_at hl 1 rfl) ?_
          refine va_get (D := (dC, dI)) (ci := 12) (v := .ref h3) (C := RX12) (T := TX12) (N := 70) hx hb hts hiX12 hown hK hP 0 rfl rfl 22 (by decide) w__fieldLink_RX12_60_ShellHeapModel_thickOf_I_ (fun _ h9 => h9) rfl dX12_column_107 ?_
          refine lv_bipush (v := 12) hx hb dX12_column_110 (by decide) ?_
          refine lv_aload_n hx hb dX12_column_112 rfl (lv_at hl 1 rfl) ?_
          refine va_get (D := (dC, dI)) (ci := 12) (v := .int 0) (C := RX12) (T := TX12) (N := 70) hx hb hts hiX12 hown hK hP 0 rfl rfl 19 (by decide) w__fieldLink_RX12_181_ShellHeapModel_columns_I_ (fun _ h9 => h9) rfl dX12_column_113 ?_
          refine lv_imul hx hb dX12_column_116 ?_
          refine lv_topi (fun x_69 e_70 => ?_)
          obtain rfl : x_69 = 0 := e_70.trans (by decide)
          refine lv_iload_n hx hb dX12_column_117 rfl (lv_at hl 0 rfl) ?_
          refine lv_iadd hx hb dX12_column_118 ?_
          refine lv_topi (fun x_71 e_72 => ?_)
          obtain rfl : x_71 = 7 := e_72.trans (by decide)
          refine lv_iconst (v := 0) hx hb dX12_column_119 (by decide) ?_
          refine va_iast hx hb hK hP hD hS 3 2 rfl rfl (by unfold vp_in; decide) dX12_column_120 (fun H_73 locs hP hD hS => ?_)
          have hP : va_P (dC, dI) vwCl [(h0, .inr (12, [h0_0, h0_1, .int 0, h0_3, h0_4, h0_5, h0_6, h0_7, h0_8, h0_9, h0_10, h0_11, h0_12, h0_13, h0_14, h0_15, h0_16, .int 6, .int 6, .int 0, .ref h1, .ref h2, .ref h3, h0_23, h0_24, h0_25, h0_26, h0_27, h0_28, h0_29, h0_30, h0_31, h0_32, h0_33, h0_34, h0_35, h0_36, h0_37, h0_38, h0_39, h0_40, h0_41, h0_42, h0_43, h0_44, h0_45, h0_46, h0_47, h0_48, h0_49, h0_50, h0_51, h0_52, h0_53, h0_54, h0_55, h0_56, h0_57, h0_58, h0_59, h0_60, h0_61, h0_62, h0_63, h0_64, h0_65, h0_66, h0_67, h0_68, h0_69])), (h1, .inl (ch1, 10, .inl f_16)), (h2, .inl (ch2, 10, .inl f_18)), (h3, .inl (ch3, 120, .inl (upd f_67 (7 : Int32).toNatClampNeg 0)))] H_73 := hP
          have hD : va_D A [(h0, .inr (12, [h0_0, h0_1, .int 0, h0_3, h0_4, h0_5, h0_6, h0_7, h0_8, h0_9, h0_10, h0_11, h0_12, h0_13, h0_14, h0_15, h0_16, .int 6, .int 6, .int 0, .ref h1, .ref h2, .ref h3, h0_23, h0_24, h0_25, h0_26, h0_27, h0_28, h0_29, h0_30, h0_31, h0_32, h0_33, h0_34, h0_35, h0_36, h0_37, h0_38, h0_39, h0_40, h0_41, h0_42, h0_43, h0_44, h0_45, h0_46, h0_47, h0_48, h0_49, h0_50, h0_51, h0_52, h0_53, h0_54, h0_55, h0_56, h0_57, h0_58, h0_59, h0_60, h0_61, h0_62, h0_63, h0_64, h0_65, h0_66, h0_67, h0_68, h0_69])), (h1, .inl (ch1, 10, .inl f_16)), (h2, .inl (ch2, 10, .inl f_18)), (h3, .inl (ch3, 120, .inl (upd f_67 (7 : Int32).toNatClampNeg 0)))] := hD
          generalize (upd f_67 (7 : Int32).toNatClampNeg 0) = f_74 at hP hD
          refine lv_iinc (v := 8) (lv' := [(3, .int 8), (0, .ref h0), (1, .int p1), (2, .int p2)]) hx hb dX12_column_121 hl (k := 0) rfl (by decide) (by decide) rfl (fun ls hl => ?_)
          refine lv_goto (tgt := 100) hx hb dX12_column_124 (by decide) ?_
          refine lv_iload_n hx hb dX12_column_100 rfl (lv_at hl 0 rfl) ?_
          refine lv_bipush (v := 12) hx hb dX12_column_101 (by decide) ?_
          refine lv_icmp_ge (tgt := 127) hx hb dX12_column_103 (by decide) (fun c_75 => absurd c_75 (by decide)) (fun _ => ?_)
          refine lv_aload_n hx hb dX12_column_106 rfl (lv_at hl 1 rfl) ?_
          refine va_get (D := (dC, dI)) (ci := 12) (v := .ref h3) (C := RX12) (T := TX12) (N := 70) hx hb hts hiX12 hown hK hP 0 rfl rfl 22 (by decide) w__fieldLink_RX12_60_ShellHeapModel_thickOf_I_ (fun _ h9 => h9) rfl dX12_column_107 ?_
          refine lv_bipush (v := 12) hx hb dX12_column_110 (by decide) ?_
          refine lv_aload_n hx hb dX12_column_112 rfl (lv_at hl 1 rfl) ?_
          refine va_get (D := (dC, dI)) (ci := 12) (v := .int 0) (C := RX12) (T := TX12) (N := 70) hx hb hts hiX12 hown hK hP 0 rfl rfl 19 (by decide) w__fieldLink_RX12_181_ShellHeapModel_columns_I_ (fun _ h9 => h9) rfl dX12_column_113 ?_
          refine lv_imul hx hb dX12_column_116 ?_
          refine lv_topi (fun x_76 e_77 => ?_)
          obtain rfl : x_76 = 0 := e_77.trans (by decide)
          refine lv_iload_n hx hb dX12_column_117 rfl (lv_at hl 0 rfl) ?_
          refine lv_iadd hx hb dX12_column_118 ?_
          refine lv_topi (fun x_78 e_79 => ?_)
          obtain rfl : x_78 = 8 := e_79.trans (by decide)
          refine lv_iconst (v := 0) hx hb dX12_column_119 (by decide) ?_
          refine va_iast hx hb hK hP hD hS 3 2 rfl rfl (by unfold vp_in; decide) dX12_column_120 (fun H_80 locs hP hD hS => ?_)
          have hP : va_P (dC, dI) vwCl [(h0, .inr (12, [h0_0, h0_1, .int 0, h0_3, h0_4, h0_5, h0_6, h0_7, h0_8, h0_9, h0_10, h0_11, h0_12, h0_13, h0_14, h0_15, h0_16, .int 6, .int 6, .int 0, .ref h1, .ref h2, .ref h3, h0_23, h0_24, h0_25, h0_26, h0_27, h0_28, h0_29, h0_30, h0_31, h0_32, h0_33, h0_34, h0_35, h0_36, h0_37, h0_38, h0_39, h0_40, h0_41, h0_42, h0_43, h0_44, h0_45, h0_46, h0_47, h0_48, h0_49, h0_50, h0_51, h0_52, h0_53, h0_54, h0_55, h0_56, h0_57, h0_58, h0_59, h0_60, h0_61, h0_62, h0_63, h0_64, h0_65, h0_66, h0_67, h0_68, h0_69])), (h1, .inl (ch1, 10, .inl f_16)), (h2, .inl (ch2, 10, .inl f_18)), (h3, .inl (ch3, 120, .inl (upd f_74 (8 : Int32).toNatClampNeg 0)))] H_80 := hP
          have hD : va_D A [(h0, .inr (12, [h0_0, h0_1, .int 0, h0_3, h0_4, h0_5, h0_6, h0_7, h0_8, h0_9, h0_10, h0_11, h0_12, h0_13, h0_14, h0_15, h0_16, .int 6, .int 6, .int 0, .ref h1, .ref h2, .ref h3, h0_23, h0_24, h0_25, h0_26, h0_27, h0_28, h0_29, h0_30, h0_31, h0_32, h0_33, h0_34, h0_35, h0_36, h0_37, h0_38, h0_39, h0_40, h0_41, h0_42, h0_43, h0_44, h0_45, h0_46, h0_47, h0_48, h0_49, h0_50, h0_51, h0_52, h0_53, h0_54, h0_55, h0_56, h0_57, h0_58, h0_59, h0_60, h0_61, h0_62, h0_63, h0_64, h0_65, h0_66, h0_67, h0_68, h0_69])), (h1, .inl (ch1, 10, .inl f_16)), (h2, .inl (ch2, 10, .inl f_18)), (h3, .inl (ch3, 120, .inl (upd f_74 (8 : Int32).toNatClampNeg 0)))] := hD
          generalize (upd f_74 (8 : Int32).toNatClampNeg 0) = f_81 at hP hD
          refine lv_iinc (v := 9) (lv' := [(3, .int 9), (0, .ref h0), (1, .int p1), (2, .int p2)]) hx hb dX12_column_121 hl (k := 0) rfl (by decide) (by decide) rfl (fun ls hl => ?_)
          refine lv_goto (tgt := 100) hx hb dX12_column_124 (by decide) ?_
          refine lv_iload_n hx hb dX12_column_100 rfl (lv_at hl 0 rfl) ?_
          refine lv_bipush (v := 12) hx hb dX12_column_101 (by decide) ?_
          refine lv_icmp_ge (tgt := 127) hx hb dX12_column_103 (by decide) (fun c_82 => absurd c_82 (by decide)) (fun _ => ?_)
          refine lv_aload_n hx hb dX12_column_106 rfl (lv_at hl 1 rfl) ?_
          refine va_get (D := (dC, dI)) (ci := 12) (v := .ref h3) (C := RX12) (T := TX12) (N := 70) hx hb hts hiX12 hown hK hP 0 rfl rfl 22 (by decide) w__fieldLink_RX12_60_ShellHeapModel_thickOf_I_ (fun _ h9 => h9) rfl dX12_column_107 ?_
          refine lv_bipush (v := 12) hx hb dX12_column_110 (by decide) ?_
          refine lv_aload_n hx hb dX12_column_112 rfl (lv_at hl 1 rfl) ?_
          refine va_get (D := (dC, dI)) (ci := 12) (v := .int 0) (C := RX12) (T := TX12) (N := 70) hx hb hts hiX12 hown hK hP 0 rfl rfl 19 (by decide) w__fieldLink_RX12_181_ShellHeapModel_columns_I_ (fun _ h9 => h9) rfl dX12_column_113 ?_
          refine lv_imul hx hb dX12_column_116 ?_
          refine lv_topi (fun x_83 e_84 => ?_)
          obtain rfl : x_83 = 0 := e_84.trans (by decide)
          refine lv_iload_n hx hb dX12_column_117 rfl (lv_at hl 0 rfl) ?_
          refine lv_iadd hx hb dX12_column_118 ?_
          refine lv_topi (fun x_85 e_86 => ?_)
          obtain rfl : x_85 = 9 := e_86.trans (by decide)
          refine lv_iconst (v := 0) hx hb dX12_column_119 (by decide) ?_
          refine va_iast hx hb hK hP hD hS 3 2 rfl rfl (by unfold vp_in; decide) dX12_column_120 (fun H_87 locs hP hD hS => ?_)
          have hP : va_P (dC, dI) vwCl [(h0, .inr (12, [h0_0, h0_1, .int 0, h0_3, h0_4, h0_5, h0_6, h0_7, h0_8, h0_9, h0_10, h0_11, h0_12, h0_13, h0_14, h0_15, h0_16, .int 6, .int 6, .int 0, .ref h1, .ref h2, .ref h3, h0_23, h0_24, h0_25, h0_26, h0_27, h0_28, h0_29, h0_30, h0_31, h0_32, h0_33, h0_34, h0_35, h0_36, h0_37, h0_38, h0_39, h0_40, h0_41, h0_42, h0_43, h0_44, h0_45, h0_46, h0_47, h0_48, h0_49, h0_50, h0_51, h0_52, h0_53, h0_54, h0_55, h0_56, h0_57, h0_58, h0_59, h0_60, h0_61, h0_62, h0_63, h0_64, h0_65, h0_66, h0_67, h0_68, h0_69])), (h1, .inl (ch1, 10, .inl f_16)), (h2, .inl (ch2, 10, .inl f_18)), (h3, .inl (ch3, 120, .inl (upd f_81 (9 : Int32).toNatClampNeg 0)))] H_87 := hP
          have hD : va_D A [(h0, .inr (12, [h0_0, h0_1, .int 0, h0_3, h0_4, h0_5, h0_6, h0_7, h0_8, h0_9, h0_10, h0_11, h0_12, h0_13, h0_14, h0_15, h0_16, .int 6, .int 6, .int 0, .ref h1, .ref h2, .ref h3, h0_23, h0_24, h0_25, h0_26, h0_27, h0_28, h0_29, h0_30, h0_31, h0_32, h0_33, h0_34, h0_35, h0_36, h0_37, h0_38, h0_39, h0_40, h0_41, h0_42, h0_43, h0_44, h0_45, h0_46, h0_47, h0_48, h0_49, h0_50, h0_51, h0_52, h0_53, h0_54, h0_55, h0_56, h0_57, h0_58, h0_59, h0_60, h0_61, h0_62, h0_63, h0_64, h0_65, h0_66, h0_67, h0_68, h0_69])), (h1, .inl (ch1, 10, .inl f_16)), (h2, .inl (ch2, 10, .inl f_18)), (h3, .inl (ch3, 120, .inl (upd f_81 (9 : Int32).toNatClampNeg 0)))] := hD
          generalize (upd f_81 (9 : Int32).toNatClampNeg 0) = f_88 at hP hD
          refine lv_iinc (v := 10) (lv' := [(3, .int 10), (0, .ref h0), (1, .int p1), (2, .int p2)]) hx hb dX12_column_121 hl (k := 0) rfl (by decide) (by decide) rfl (fun ls hl => ?_)
          refine lv_goto (tgt := 100) hx hb dX12_column_124 (by decide) ?_
          refine lv_iload_n hx hb dX12_column_100 rfl (lv_at hl 0 rfl) ?_
          refine lv_bipush (v := 12) hx hb dX12_column_101 (by decide) ?_
          refine lv_icmp_ge (tgt := 127) hx hb dX12_column_103 (by decide) (fun c_89 => absurd c_89 (by decide)) (fun _ => ?_)
          refine lv_aload_n hx hb dX12_column_106 rfl (lv_at hl 1 rfl) ?_
          refine va_get (D := (dC, dI)) (ci := 12) (v := .ref h3) (C := RX12) (T := TX12) (N := 70) hx hb hts hiX12 hown hK hP 0 rfl rfl 22 (by decide) w__fieldLink_RX12_60_ShellHeapModel_thickOf_I_ (fun _ h9 => h9) rfl dX12_column_107 ?_
          refine lv_bipush (v := 12) hx hb dX12_column_110 (by decide) ?_
          refine lv_aload_n hx hb dX12_column_112 rfl (lv_at hl 1 rfl) ?_
          refine va_get (D := (dC, dI)) (ci := 12) (v := .int 0) (C := RX12) (T := TX12) (N := 70) hx hb hts hiX12 hown hK hP 0 rfl rfl 19 (by decide) w__fieldLink_RX12_181_ShellHeapModel_columns_I_ (fun _ h9 => h9) rfl dX12_column_113 ?_
          refine lv_imul hx hb dX12_column_116 ?_
          refine lv_topi (fun x_90 e_91 => ?_)
          obtain rfl : x_90 = 0 := e_91.trans (by decide)
          refine lv_iload_n hx hb dX12_column_117 rfl (lv_at hl 0 rfl) ?_
          refine lv_iadd hx hb dX12_column_118 ?_
          refine lv_topi (fun x_92 e_93 => ?_)
          obtain rfl : x_92 = 10 := e_93.trans (by decide)
          refine lv_iconst (v := 0) hx hb dX12_column_119 (by decide) ?_
          refine va_iast hx hb hK hP hD hS 3 2 rfl rfl (by unfold vp_in; decide) dX12_column_120 (fun H_94 locs hP hD hS => ?_)
          have hP : va_P (dC, dI) vwCl [(h0, .inr (12, [h0_0, h0_1, .int 0, h0_3, h0_4, h0_5, h0_6, h0_7, h0_8, h0_9, h0_10, h0_11, h0_12, h0_13, h0_14, h0_15, h0_16, .int 6, .int 6, .int 0, .ref h1, .ref h2, .ref h3, h0_23, h0_24, h0_25, h0_26, h0_27, h0_28, h0_29, h0_30, h0_31, h0_32, h0_33, h0_34, h0_35, h0_36, h0_37, h0_38, h0_39, h0_40, h0_41, h0_42, h0_43, h0_44, h0_45, h0_46, h0_47, h0_48, h0_49, h0_50, h0_51, h0_52, h0_53, h0_54, h0_55, h0_56, h0_57, h0_58, h0_59, h0_60, h0_61, h0_62, h0_63, h0_64, h0_65, h0_66, h0_67, h0_68, h0_69])), (h1, .inl (ch1, 10, .inl f_16)), (h2, .inl (ch2, 10, .inl f_18)), (h3, .inl (ch3, 120, .inl (upd f_88 (10 : Int32).toNatClampNeg 0)))] H_94 := hP
          have hD : va_D A [(h0, .inr (12, [h0_0, h0_1, .int 0, h0_3, h0_4, h0_5, h0_6, h0_7, h0_8, h0_9, h0_10, h0_11, h0_12, h0_13, h0_14, h0_15, h0_16, .int 6, .int 6, .int 0, .ref h1, .ref h2, .ref h3, h0_23, h0_24, h0_25, h0_26, h0_27, h0_28, h0_29, h0_30, h0_31, h0_32, h0_33, h0_34, h0_35, h0_36, h0_37, h0_38, h0_39, h0_40, h0_41, h0_42, h0_43, h0_44, h0_45, h0_46, h0_47, h0_48, h0_49, h0_50, h0_51, h0_52, h0_53, h0_54, h0_55, h0_56, h0_57, h0_58, h0_59, h0_60, h0_61, h0_62, h0_63, h0_64, h0_65, h0_66, h0_67, h0_68, h0_69])), (h1, .inl (ch1, 10, .inl f_16)), (h2, .inl (ch2, 10, .inl f_18)), (h3, .inl (ch3, 120, .inl (upd f_88 (10 : Int32).toNatClampNeg 0)))] := hD
          generalize (upd f_88 (10 : Int32).toNatClampNeg 0) = f_95 at hP hD
          refine lv_iinc (v := 11) (lv' := [(3, .int 11), (0, .ref h0), (1, .int p1), (2, .int p2)]) hx hb dX12_column_121 hl (k := 0) rfl (by decide) (by decide) rfl (fun ls hl => ?_)
          refine lv_goto (tgt := 100) hx hb dX12_column_124 (by decide) ?_
          refine lv_iload_n hx hb dX12_column_100 rfl (lv_at hl 0 rfl) ?_
          refine lv_bipush (v := 12) hx hb dX12_column_101 (by decide) ?_
          refine lv_icmp_ge (tgt := 127) hx hb dX12_column_103 (by decide) (fun c_96 => absurd c_96 (by decide)) (fun _ => ?_)
          refine lv_aload_n hx hb dX12_column_106 rfl (lv_at hl 1 rfl) ?_
          refine va_get (D := (dC, dI)) (ci := 12) (v := .ref h3) (C := RX12) (T := TX12) (N := 70) hx hb hts hiX12 hown hK hP 0 rfl rfl 22 (by decide) w__fieldLink_RX12_60_ShellHeapModel_thickOf_I_ (fun _ h9 => h9) rfl dX12_column_107 ?_
          refine lv_bipush (v := 12) hx hb dX12_column_110 (by decide) ?_
          refine lv_aload_n hx hb dX12_column_112 rfl (lv_at hl 1 rfl) ?_
          refine va_get (D := (dC, dI)) (ci := 12) (v := .int 0) (C := RX12) (T := TX12) (N := 70) hx hb hts hiX12 hown hK hP 0 rfl rfl 19 (by decide) w__fieldLink_RX12_181_ShellHeapModel_columns_I_ (fun _ h9 => h9) rfl dX12_column_113 ?_
          refine lv_imul hx hb dX12_column_116 ?_
          refine lv_topi (fun x_97 e_98 => ?_)
          obtain rfl : x_97 = 0 := e_98.trans (by decide)
          refine lv_iload_n hx hb dX12_column_117 rfl (lv_at hl 0 rfl) ?_
          refine lv_iadd hx hb dX12_column_118 ?_
          refine lv_topi (fun x_99 e_100 => ?_)
          obtain rfl : x_99 = 11 := e_100.trans (by decide)
          refine lv_iconst (v := 0) hx hb dX12_column_119 (by decide) ?_
          refine va_iast hx hb hK hP hD hS 3 2 rfl rfl (by unfold vp_in; decide) dX12_column_120 (fun H_101 locs hP hD hS => ?_)
          have hP : va_P (dC, dI) vwCl [(h0, .inr (12, [h0_0, h0_1, .int 0, h0_3, h0_4, h0_5, h0_6, h0_7, h0_8, h0_9, h0_10, h0_11, h0_12, h0_13, h0_14, h0_15, h0_16, .int 6, .int 6, .int 0, .ref h1, .ref h2, .ref h3, h0_23, h0_24, h0_25, h0_26, h0_27, h0_28, h0_29, h0_30, h0_31, h0_32, h0_33, h0_34, h0_35, h0_36, h0_37, h0_38, h0_39, h0_40, h0_41, h0_42, h0_43, h0_44, h0_45, h0_46, h0_47, h0_48, h0_49, h0_50, h0_51, h0_52, h0_53, h0_54, h0_55, h0_56, h0_57, h0_58, h0_59, h0_60, h0_61, h0_62, h0_63, h0_64, h0_65, h0_66, h0_67, h0_68, h0_69])), (h1, .inl (ch1, 10, .inl f_16)), (h2, .inl (ch2, 10, .inl f_18)), (h3, .inl (ch3, 120, .inl (upd f_95 (11 : Int32).toNatClampNeg 0)))] H_101 := hP
          have hD : va_D A [(h0, .inr (12, [h0_0, h0_1, .int 0, h0_3, h0_4, h0_5, h0_6, h0_7, h0_8, h0_9, h0_10, h0_11, h0_12, h0_13, h0_14, h0_15, h0_16, .int 6, .int 6, .int 0, .ref h1, .ref h2, .ref h3, h0_23, h0_24, h0_25, h0_26, h0_27, h0_28, h0_29, h0_30, h0_31, h0_32, h0_33, h0_34, h0_35, h0_36, h0_37, h0_38, h0_39, h0_40, h0_41, h0_42, h0_43, h0_44, h0_45, h0_46, h0_47, h0_48, h0_49, h0_50, h0_51, h0_52, h0_53, h0_54, h0_55, h0_56, h0_57, h0_58, h0_59, h0_60, h0_61, h0_62, h0_63, h0_64, h0_65, h0_66, h0_67, h0_68, h0_69])), (h1, .inl (ch1, 10, .inl f_16)), (h2, .inl (ch2, 10, .inl f_18)), (h3, .inl (ch3, 120, .inl (upd f_95 (11 : Int32).toNatClampNeg 0)))] := hD
          generalize (upd f_95 (11 : Int32).toNatClampNeg 0) = f_102 at hP hD
          refine lv_iinc (v := 12) (lv' := [(3, .int 12), (0, .ref h0), (1, .int p1), (2, .int p2)]) hx hb dX12_column_121 hl (k := 0) rfl (by decide) (by decide) rfl (fun ls hl => ?_)
          refine lv_goto (tgt := 100) hx hb dX12_column_124 (by decide) ?_
          refine lv_iload_n hx hb dX12_column_100 rfl (lv_at hl 0 rfl) ?_
          refine lv_bipush (v := 12) hx hb dX12_column_101 (by decide) ?_
          refine lv_icmp_ge (tgt := 127) hx hb dX12_column_103 (by decide) (fun _ => ?_) (fun c_103 => absurd (by decide) c_103)
          refine lv_aload_n hx hb dX12_column_127 rfl (lv_at hl 1 rfl) ?_
          refine lv_dup hx hb dX12_column_128 rfl ?_
          refine va_get (D := (dC, dI)) (ci := 12) (v := .int 0) (C := RX12) (T := TX12) (N := 70) hx hb hts hiX12 hown hK hP 0 rfl rfl 19 (by decide) w__fieldLink_RX12_181_ShellHeapModel_columns_I_ (fun _ h9 => h9) rfl dX12_column_129 ?_
          refine lv_iconst (v := 1) hx hb dX12_column_132 (by decide) ?_
          refine lv_iadd hx hb dX12_column_133 ?_
          refine lv_topi (fun x_104 e_105 => ?_)
          obtain rfl : x_104 = 1 := e_105.trans (by decide)
          refine va_put (D := (dC, dI)) (ci := 12) (v := .int 1) (ty := .int) (C := RX12) (T := TX12) (N := 70) hx hb hts hiX12 tyX12 tyX12_ok nmX12 hown hK hP hD hS 0 rfl rfl 19 (by decide) w__fieldLink_RX12_181_ShellHeapModel_columns_I_ (fun _ h9 => h9) rfl (by decide +kernel) rfl rfl (Nat.le_of_ble_eq_true rfl) dX12_column_134 (fun H_106 locs hP hD hS => ?_)
          have hP : va_P (dC, dI) vwCl [(h0, .inr (12, [h0_0, h0_1, .int 0, h0_3, h0_4, h0_5, h0_6, h0_7, h0_8, h0_9, h0_10, h0_11, h0_12, h0_13, h0_14, h0_15, h0_16, .int 6, .int 6, .int 1, .ref h1, .ref h2, .ref h3, h0_23, h0_24, h0_25, h0_26, h0_27, h0_28, h0_29, h0_30, h0_31, h0_32, h0_33, h0_34, h0_35, h0_36, h0_37, h0_38, h0_39, h0_40, h0_41, h0_42, h0_43, h0_44, h0_45, h0_46, h0_47, h0_48, h0_49, h0_50, h0_51, h0_52, h0_53, h0_54, h0_55, h0_56, h0_57, h0_58, h0_59, h0_60, h0_61, h0_62, h0_63, h0_64, h0_65, h0_66, h0_67, h0_68, h0_69])), (h1, .inl (ch1, 10, .inl f_16)), (h2, .inl (ch2, 10, .inl f_18)), (h3, .inl (ch3, 120, .inl f_102))] H_106 := hP
          have hD : va_D A [(h0, .inr (12, [h0_0, h0_1, .int 0, h0_3, h0_4, h0_5, h0_6, h0_7, h0_8, h0_9, h0_10, h0_11, h0_12, h0_13, h0_14, h0_15, h0_16, .int 6, .int 6, .int 1, .ref h1, .ref h2, .ref h3, h0_23, h0_24, h0_25, h0_26, h0_27, h0_28, h0_29, h0_30, h0_31, h0_32, h0_33, h0_34, h0_35, h0_36, h0_37, h0_38, h0_39, h0_40, h0_41, h0_42, h0_43, h0_44, h0_45, h0_46, h0_47, h0_48, h0_49, h0_50, h0_51, h0_52, h0_53, h0_54, h0_55, h0_56, h0_57, h0_58, h0_59, h0_60, h0_61, h0_62, h0_63, h0_64, h0_65, h0_66, h0_67, h0_68, h0_69])), (h1, .inl (ch1, 10, .inl f_16)), (h2, .inl (ch2, 10, .inl f_18)), (h3, .inl (ch3, 120, .inl f_102))] := hD
          refine lv_aload_n hx hb dX12_column_137 rfl (lv_at hl 1 rfl) ?_
          refine va_get (D := (dC, dI)) (ci := 12) (v := .int 1) (C := RX12) (T := TX12) (N := 70) hx hb hts hiX12 hown hK hP 0 rfl rfl 19 (by decide) w__fieldLink_RX12_181_ShellHeapModel_columns_I_ (fun _ h9 => h9) rfl dX12_column_138 ?_
          refine lv_iconst (v := 1) hx hb dX12_column_141 (by decide) ?_
          refine lv_isub hx hb dX12_column_142 ?_
          refine lv_topi (fun x_107 e_108 => ?_)
          obtain rfl : x_107 = 0 := e_108.trans (by decide)
          refine W.widen (k := 0) (n := 0) (Nat.le_of_ble_eq_true rfl) (Nat.le_of_ble_eq_true rfl) ?_
          exact W.iret (v := 0) hx hb hr (fun t ht hW => ⟨⟨0, (), rfl, (by first | (unfold v_column; rw [if_pos (by omega)]) | (unfold v_column; rw [if_neg (by omega)]) | decide), trivial⟩, hS.F ht⟩) hS.2.2 dX12_column_143
        · have k_109 : (p2).toInt ≥ (6 : Int) := z_nlt c_12
          refine lv_iconst (v := (-1)) hx hb dX12_column_38 (by decide) ?_
          refine W.widen (k := 0) (n := 0) (Nat.le_of_ble_eq_true rfl) (Nat.le_of_ble_eq_true rfl) ?_
          exact W.iret (v := (-1)) hx hb hr (fun t ht hW => ⟨⟨(-1), (), rfl, (by first | (unfold v_column; rw [if_pos (by omega)]) | (unfold v_column; rw [if_neg (by omega)]) | decide), trivial⟩, hS.F ht⟩) hS.2.2 dX12_column_39
def u_c_X12_thick : List Cond := .code yX12_thick cX12_thick 4 (some .boolean) :: ([.fieldLink RX12 145 "ShellHeapModel" "thrown" "I", .fieldLink RX12 181 "ShellHeapModel" "columns" "I"] ++ wsX120)
set_option maxHeartbeats 4000000 in
set_option maxRecDepth 100000 in
theorem c_X12_thick (l : Launch) (dC : Nat → ClassId) (dI : Nat → Nat → Nat) (sz : Nat) (h0 : Nat) (p1 : Int32) (p2 : Int32) (p3 : Int32) (h0_0 : Value) (h0_1 : Value) (h0_2 : Value) (h0_3 : Value) (h0_4 : Value) (h0_5 : Value) (h0_6 : Value) (h0_7 : Value) (h0_8 : Value) (h0_9 : Value) (h0_10 : Value) (h0_11 : Value) (h0_12 : Value) (h0_13 : Value) (h0_14 : Value) (h0_15 : Value) (h0_16 : Value) (h0_17 : Value) (h0_18 : Value) (h0_20 : Value) (h0_21 : Value) (h0_22 : Value) (h0_23 : Value) (h0_24 : Value) (h0_25 : Value) (h0_26 : Value) (h0_27 : Value) (h0_28 : Value) (h0_29 : Value) (h0_30 : Value) (h0_31 : Value) (h0_32 : Value) (h0_33 : Value) (h0_34 : Value) (h0_35 : Value) (h0_36 : Value) (h0_37 : Value) (h0_38 : Value) (h0_39 : Value) (h0_40 : Value) (h0_41 : Value) (h0_42 : Value) (h0_43 : Value) (h0_44 : Value) (h0_45 : Value) (h0_46 : Value) (h0_47 : Value) (h0_48 : Value) (h0_49 : Value) (h0_50 : Value) (h0_51 : Value) (h0_52 : Value) (h0_53 : Value) (h0_54 : Value) (h0_55 : Value) (h0_56 : Value) (h0_57 : Value) (h0_58 : Value) (h0_59 : Value) (h0_60 : Value) (h0_61 : Value) (h0_62 : Value) (h0_63 : Value) (h0_64 : Value) (h0_65 : Value) (h0_66 : Value) (h0_67 : Value) (h0_68 : Value) (h0_69 : Value) : Met l yX12_thick u_c_X12_thick ({ frames := 0, cells := 0, slots := 0, locals := 0 }) (va_Pc [.ref h0, .int p1, .int p2, .int p3] (z_C (dC, dI) vwCl [(h0, .inr (12, [h0_0, h0_1, h0_2, h0_3, h0_4, h0_5, h0_6, h0_7, h0_8, h0_9, h0_10, h0_11, h0_12, h0_13, h0_14, h0_15, h0_16, h0_17, h0_18, .int 0, h0_20, h0_21, h0_22, h0_23, h0_24, h0_25, h0_26, h0_27, h0_28, h0_29, h0_30, h0_31, h0_32, h0_33, h0_34, h0_35, h0_36, h0_37, h0_38, h0_39, h0_40, h0_41, h0_42, h0_43, h0_44, h0_45, h0_46, h0_47, h0_48, h0_49, h0_50, h0_51, h0_52, h0_53, h0_54, h0_55, h0_56, h0_57, h0_58, h0_59, h0_60, h0_61, h0_62, h0_63, h0_64, h0_65, h0_66, h0_67, h0_68, h0_69]))] [] sz)) (va_Qi (fun (r : Int32) (_ : Unit) => r = 0) (fun (_ : Unit) (_ : State) => True) (va_A [(h0, .inr (12, [h0_0, h0_1, h0_2, h0_3, h0_4, h0_5, h0_6, h0_7, h0_8, h0_9, h0_10, h0_11, h0_12, h0_13, h0_14, h0_15, h0_16, h0_17, h0_18, .int 0, h0_20, h0_21, h0_22, h0_23, h0_24, h0_25, h0_26, h0_27, h0_28, h0_29, h0_30, h0_31, h0_32, h0_33, h0_34, h0_35, h0_36, h0_37, h0_38, h0_39, h0_40, h0_41, h0_42, h0_43, h0_44, h0_45, h0_46, h0_47, h0_48, h0_49, h0_50, h0_51, h0_52, h0_53, h0_54, h0_55, h0_56, h0_57, h0_58, h0_59, h0_60, h0_61, h0_62, h0_63, h0_64, h0_65, h0_66, h0_67, h0_68, h0_69]))] sz)) 0 0 (va_A [(h0, .inr (12, [h0_0, h0_1, h0_2, h0_3, h0_4, h0_5, h0_6, h0_7, h0_8, h0_9, h0_10, h0_11, h0_12, h0_13, h0_14, h0_15, h0_16, h0_17, h0_18, .int 0, h0_20, h0_21, h0_22, h0_23, h0_24, h0_25, h0_26, h0_27, h0_28, h0_29, h0_30, h0_31, h0_32, h0_33, h0_34, h0_35, h0_36, h0_37, h0_38, h0_39, h0_40, h0_41, h0_42, h0_43, h0_44, h0_45, h0_46, h0_47, h0_48, h0_49, h0_50, h0_51, h0_52, h0_53, h0_54, h0_55, h0_56, h0_57, h0_58, h0_59, h0_60, h0_61, h0_62, h0_63, h0_64, h0_65, h0_66, h0_67, h0_68, h0_69]))] sz) := by
  refine Met.ofW (cc := cX12_thick) (maxL := 4) (ret := (some .boolean)) (by decide) rfl ?_
  intro p e s m args below meth c s₁ B hml hv
  obtain ⟨rfl, hsz, hP, hK, hD0⟩ := hv
  have hx := B.exec
  have hb := B.bytes
  have hr := B.returns
  have hts := atoms_spec (ws := u_c_X12_thick) B.pre
  have hown : s.vm.findClass RX12 = some m.cls := findClass_of_methodNamed B.named
  have hlocks := B.notSynchronized
  subst hsz
  have hD := hD0.self (sz := s.heap.size)
  generalize hAe : va_A [(h0, .inr (12, [h0_0, h0_1, h0_2, h0_3, h0_4, h0_5, h0_6, h0_7, h0_8, h0_9, h0_10, h0_11, h0_12, h0_13, h0_14, h0_15, h0_16, h0_17, h0_18, .int 0, h0_20, h0_21, h0_22, h0_23, h0_24, h0_25, h0_26, h0_27, h0_28, h0_29, h0_30, h0_31, h0_32, h0_33, h0_34, h0_35, h0_36, h0_37, h0_38, h0_39, h0_40, h0_41, h0_42, h0_43, h0_44, h0_45, h0_46, h0_47, h0_48, h0_49, h0_50, h0_51, h0_52, h0_53, h0_54, h0_55, h0_56, h0_57, h0_58, h0_59, h0_60, h0_61, h0_62, h0_63, h0_64, h0_65, h0_66, h0_67, h0_68, h0_69]))] s.heap.size = A at hD ⊢
  have hA : ∀ q : Nat, s.heap.size ≤ q → A q := fun q h => by rw [← hAe]; exact Or.inr h
  have hS : va_S A s.heap s.heap [] := va_S.rf
  have hP : va_P (dC, dI) vwCl [(h0, .inr (12, [h0_0, h0_1, h0_2, h0_3, h0_4, h0_5, h0_6, h0_7, h0_8, h0_9, h0_10, h0_11, h0_12, h0_13, h0_14, h0_15, h0_16, h0_17, h0_18, .int 0, h0_20, h0_21, h0_22, h0_23, h0_24, h0_25, h0_26, h0_27, h0_28, h0_29, h0_30, h0_31, h0_32, h0_33, h0_34, h0_35, h0_36, h0_37, h0_38, h0_39, h0_40, h0_41, h0_42, h0_43, h0_44, h0_45, h0_46, h0_47, h0_48, h0_49, h0_50, h0_51, h0_52, h0_53, h0_54, h0_55, h0_56, h0_57, h0_58, h0_59, h0_60, h0_61, h0_62, h0_63, h0_64, h0_65, h0_66, h0_67, h0_68, h0_69]))] s.heap := hP
  have w__fieldLink_RX12_145_ShellHeapModel_thrown_I_ := hts (.fieldLink RX12 145 "ShellHeapModel" "thrown" "I") (by decide +kernel)
  have hiX12 := show ∀ w ∈ u_ws RX12 TX12 70, w ∈ u_c_X12_thick by decide +kernel
  have w__fieldLink_RX12_181_ShellHeapModel_columns_I_ := hts (.fieldLink RX12 181 "ShellHeapModel" "columns" "I") (by decide +kernel)
  have hl := lv_entry ([.ref h0, .int p1, .int p2, .int p3]) (n := 4) (Nat.le_of_ble_eq_true rfl)
  rw [lg_entry_eq]
  generalize (lg_sl ([.ref h0, .int p1, .int p2, .int p3]) ++ List.replicate (4 - (lg_sl ([.ref h0, .int p1, .int p2, .int p3])).length) Slot.unset).toArray = ls at hl ⊢
  have hl : lv_has ls 4 [(0, .ref h0), (1, .int p1), (2, .int p2), (3, .int p3)] := hl
  refine lv_aload_n hx hb dX12_thick_0 rfl (lv_at hl 0 rfl) ?_
  refine lv_iconst (v := 0) hx hb dX12_thick_1 (by decide) ?_
  refine va_put (D := (dC, dI)) (ci := 12) (v := .int 0) (ty := .int) (C := RX12) (T := TX12) (N := 70) hx hb hts hiX12 tyX12 tyX12_ok nmX12 hown hK hP hD hS 0 rfl rfl 2 (by decide) w__fieldLink_RX12_145_ShellHeapModel_thrown_I_ (fun _ h9 => h9) rfl (by decide +kernel) rfl rfl (Nat.le_of_ble_eq_true rfl) dX12_thick_2 (fun H_1 locs hP hD hS => ?_)
  have hP : va_P (dC, dI) vwCl [(h0, .inr (12, [h0_0, h0_1, .int 0, h0_3, h0_4, h0_5, h0_6, h0_7, h0_8, h0_9, h0_10, h0_11, h0_12, h0_13, h0_14, h0_15, h0_16, h0_17, h0_18, .int 0, h0_20, h0_21, h0_22, h0_23, h0_24, h0_25, h0_26, h0_27, h0_28, h0_29, h0_30, h0_31, h0_32, h0_33, h0_34, h0_35, h0_36, h0_37, h0_38, h0_39, h0_40, h0_41, h0_42, h0_43, h0_44, h0_45, h0_46, h0_47, h0_48, h0_49, h0_50, h0_51, h0_52, h0_53, h0_54, h0_55, h0_56, h0_57, h0_58, h0_59, h0_60, h0_61, h0_62, h0_63, h0_64, h0_65, h0_66, h0_67, h0_68, h0_69]))] H_1 := hP
  have hD : va_D A [(h0, .inr (12, [h0_0, h0_1, .int 0, h0_3, h0_4, h0_5, h0_6, h0_7, h0_8, h0_9, h0_10, h0_11, h0_12, h0_13, h0_14, h0_15, h0_16, h0_17, h0_18, .int 0, h0_20, h0_21, h0_22, h0_23, h0_24, h0_25, h0_26, h0_27, h0_28, h0_29, h0_30, h0_31, h0_32, h0_33, h0_34, h0_35, h0_36, h0_37, h0_38, h0_39, h0_40, h0_41, h0_42, h0_43, h0_44, h0_45, h0_46, h0_47, h0_48, h0_49, h0_50, h0_51, h0_52, h0_53, h0_54, h0_55, h0_56, h0_57, h0_58, h0_59, h0_60, h0_61, h0_62, h0_63, h0_64, h0_65, h0_66, h0_67, h0_68, h0_69]))] := hD
  refine lv_iload_n hx hb dX12_thick_5 rfl (lv_at hl 1 rfl) ?_
  refine lv_if_lt (tgt := 36) hx hb dX12_thick_6 (by decide) (fun c_2 => ?_) (fun c_2 => ?_)
  · have k_3 : (p1).toInt < (0 : Int) := z_lt c_2
    refine lv_iconst (v := 0) hx hb dX12_thick_36 (by decide) ?_
    refine W.widen (k := 0) (n := 0) (Nat.le_of_ble_eq_true rfl) (Nat.le_of_ble_eq_true rfl) ?_
    exact W.zret (v := 0) hx hb hr (by rfl) (fun t ht hW => ⟨⟨0, (), rfl, rfl, trivial⟩, hS.F ht⟩) hS.2.2 dX12_thick_37
  · have k_4 : (p1).toInt ≥ (0 : Int) := z_nlt c_2
    refine lv_iload_n hx hb dX12_thick_9 rfl (lv_at hl 1 rfl) ?_
    refine lv_aload_n hx hb dX12_thick_10 rfl (lv_at hl 0 rfl) ?_
    refine va_get (D := (dC, dI)) (ci := 12) (v := .int 0) (C := RX12) (T := TX12) (N := 70) hx hb hts hiX12 hown hK hP 0 rfl rfl 19 (by decide) w__fieldLink_RX12_181_ShellHeapModel_columns_I_ (fun _ h9 => h9) rfl dX12_thick_11 ?_
    refine lv_icmp_ge (tgt := 36) hx hb dX12_thick_14 (by decide) (fun _ => ?_) (fun c_5 => ?_)
    rotate_left
    · exfalso
      have k_6 : (0 : Int) > (p1).toInt := z_nle c_5
      omega
    refine lv_iconst (v := 0) hx hb dX12_thick_36 (by decide) ?_
    refine W.widen (k := 0) (n := 0) (Nat.le_of_ble_eq_true rfl) (Nat.le_of_ble_eq_true rfl) ?_
    exact W.zret (v := 0) hx hb hr (by rfl) (fun t ht hW => ⟨⟨0, (), rfl, rfl, trivial⟩, hS.F ht⟩) hS.2.2 dX12_thick_37
def u_c_X12_holds : List Cond := .code yX12_holds cX12_holds 7 (some .int) :: ([.fieldLink RX12 145 "ShellHeapModel" "thrown" "I", .methodLink RX12 157 yX12_isLayer, .instanceMethod yX12_isLayer, .selects RX12 yX12_isLayer yX12_isLayer, .initialized RX12, .code yX12_isLayer cX12_isLayer 2 (some .boolean), .fieldLink RX12 151 "ShellHeapModel" "layers" "I"] ++ wsX120)
set_option maxRecDepth 20000 in
theorem gw_c_X12_holds_c_X12_isLayer_157 : GoodIn u_c_X12_holds (wsV RX12 157 RX12 yX12_isLayer u_c_X12_isLayer) := goodIn_r _ [2, 3, 4, 5, 6, 7, 8, 9, 10, 11, 12, 13, 14, 15, 16, 17, 18, 19, 20, 21, 22, 23, 24, 25, 26, 27, 28, 29, 30, 31, 32, 33, 34, 35, 36, 37, 38, 39, 40, 41, 42, 43, 44, 45, 46, 47, 48, 49, 50, 51, 52, 53, 54, 55, 56, 57, 58, 59, 60, 61, 62, 63, 64, 65, 66, 67, 68, 69, 70, 71, 72, 73, 74, 75, 76, 77] (by decide +kernel) (by decide +kernel)
set_option maxHeartbeats 4000000 in
set_option maxRecDepth 100000 in
theorem c_X12_holds (l : Launch) (dC : Nat → ClassId) (dI : Nat → Nat → Nat) (sz : Nat) (h0 : Nat) (p1 : Int32) (p2 : Int32) (h0_0 : Value) (h0_1 : Value) (h0_2 : Value) (h0_5 : Value) (h0_6 : Value) (h0_7 : Value) (h0_8 : Value) (h0_9 : Value) (h0_10 : Value) (h0_11 : Value) (h0_12 : Value) (h0_13 : Value) (h0_14 : Value) (h0_15 : Value) (h0_16 : Value) (h0_17 : Value) (h0_18 : Value) (h0_19 : Value) (h0_20 : Value) (h0_21 : Value) (h0_22 : Value) (h0_23 : Value) (h0_24 : Value) (h0_25 : Value) (h0_26 : Value) (h0_27 : Value) (h0_28 : Value) (h0_29 : Value) (h0_30 : Value) (h0_31 : Value) (h0_32 : Value) (h0_33 : Value) (h0_34 : Value) (h0_35 : Value) (h0_36 : Value) (h0_37 : Value) (h0_38 : Value) (h0_39 : Value) (h0_40 : Value) (h0_41 : Value) (h0_42 : Value) (h0_43 : Value) (h0_44 : Value) (h0_45 : Value) (h0_46 : Value) (h0_47 : Value) (h0_48 : Value) (h0_49 : Value) (h0_50 : Value) (h0_51 : Value) (h0_52 : Value) (h0_53 : Value) (h0_54 : Value) (h0_55 : Value) (h0_56 : Value) (h0_57 : Value) (h0_58 : Value) (h0_59 : Value) (h0_60 : Value) (h0_61 : Value) (h0_62 : Value) (h0_63 : Value) (h0_64 : Value) (h0_65 : Value) (h0_66 : Value) (h0_67 : Value) (h0_68 : Value) (h0_69 : Value) : Met l yX12_holds u_c_X12_holds ({ frames := 1, cells := 0, slots := 0, locals := 21 }) (va_Pc [.ref h0, .int p1, .int p2] (z_C (dC, dI) vwCl [(h0, .inr (12, [h0_0, h0_1, h0_2, .int 0, .int 0, h0_5, h0_6, h0_7, h0_8, h0_9, h0_10, h0_11, h0_12, h0_13, h0_14, h0_15, h0_16, h0_17, h0_18, h0_19, h0_20, h0_21, h0_22, h0_23, h0_24, h0_25, h0_26, h0_27, h0_28, h0_29, h0_30, h0_31, h0_32, h0_33, h0_34, h0_35, h0_36, h0_37, h0_38, h0_39, h0_40, h0_41, h0_42, h0_43, h0_44, h0_45, h0_46, h0_47, h0_48, h0_49, h0_50, h0_51, h0_52, h0_53, h0_54, h0_55, h0_56, h0_57, h0_58, h0_59, h0_60, h0_61, h0_62, h0_63, h0_64, h0_65, h0_66, h0_67, h0_68, h0_69]))] [] sz)) (va_Qi (fun (r : Int32) (_ : Unit) => r = (-1)) (fun (_ : Unit) (_ : State) => True) (va_A [(h0, .inr (12, [h0_0, h0_1, h0_2, .int 0, .int 0, h0_5, h0_6, h0_7, h0_8, h0_9, h0_10, h0_11, h0_12, h0_13, h0_14, h0_15, h0_16, h0_17, h0_18, h0_19, h0_20, h0_21, h0_22, h0_23, h0_24, h0_25, h0_26, h0_27, h0_28, h0_29, h0_30, h0_31, h0_32, h0_33, h0_34, h0_35, h0_36, h0_37, h0_38, h0_39, h0_40, h0_41, h0_42, h0_43, h0_44, h0_45, h0_46, h0_47, h0_48, h0_49, h0_50, h0_51, h0_52, h0_53, h0_54, h0_55, h0_56, h0_57, h0_58, h0_59, h0_60, h0_61, h0_62, h0_63, h0_64, h0_65, h0_66, h0_67, h0_68, h0_69]))] sz)) 0 0 (va_A [(h0, .inr (12, [h0_0, h0_1, h0_2, .int 0, .int 0, h0_5, h0_6, h0_7, h0_8, h0_9, h0_10, h0_11, h0_12, h0_13, h0_14, h0_15, h0_16, h0_17, h0_18, h0_19, h0_20, h0_21, h0_22, h0_23, h0_24, h0_25, h0_26, h0_27, h0_28, h0_29, h0_30, h0_31, h0_32, h0_33, h0_34, h0_35, h0_36, h0_37, h0_38, h0_39, h0_40, h0_41, h0_42, h0_43, h0_44, h0_45, h0_46, h0_47, h0_48, h0_49, h0_50, h0_51, h0_52, h0_53, h0_54, h0_55, h0_56, h0_57, h0_58, h0_59, h0_60, h0_61, h0_62, h0_63, h0_64, h0_65, h0_66, h0_67, h0_68, h0_69]))] sz) := by
  refine Met.ofW (cc := cX12_holds) (maxL := 7) (ret := (some .int)) (by decide) rfl ?_
  intro p e s m args below meth c s₁ B hml hv
  obtain ⟨rfl, hsz, hP, hK, hD0⟩ := hv
  have hx := B.exec
  have hb := B.bytes
  have hr := B.returns
  have hts := atoms_spec (ws := u_c_X12_holds) B.pre
  have hown : s.vm.findClass RX12 = some m.cls := findClass_of_methodNamed B.named
  have hlocks := B.notSynchronized
  subst hsz
  have hD := hD0.self (sz := s.heap.size)
  generalize hAe : va_A [(h0, .inr (12, [h0_0, h0_1, h0_2, .int 0, .int 0, h0_5, h0_6, h0_7, h0_8, h0_9, h0_10, h0_11, h0_12, h0_13, h0_14, h0_15, h0_16, h0_17, h0_18, h0_19, h0_20, h0_21, h0_22, h0_23, h0_24, h0_25, h0_26, h0_27, h0_28, h0_29, h0_30, h0_31, h0_32, h0_33, h0_34, h0_35, h0_36, h0_37, h0_38, h0_39, h0_40, h0_41, h0_42, h0_43, h0_44, h0_45, h0_46, h0_47, h0_48, h0_49, h0_50, h0_51, h0_52, h0_53, h0_54, h0_55, h0_56, h0_57, h0_58, h0_59, h0_60, h0_61, h0_62, h0_63, h0_64, h0_65, h0_66, h0_67, h0_68, h0_69]))] s.heap.size = A at hD ⊢
  have hA : ∀ q : Nat, s.heap.size ≤ q → A q := fun q h => by rw [← hAe]; exact Or.inr h
  have hS : va_S A s.heap s.heap [] := va_S.rf
  have hP : va_P (dC, dI) vwCl [(h0, .inr (12, [h0_0, h0_1, h0_2, .int 0, .int 0, h0_5, h0_6, h0_7, h0_8, h0_9, h0_10, h0_11, h0_12, h0_13, h0_14, h0_15, h0_16, h0_17, h0_18, h0_19, h0_20, h0_21, h0_22, h0_23, h0_24, h0_25, h0_26, h0_27, h0_28, h0_29, h0_30, h0_31, h0_32, h0_33, h0_34, h0_35, h0_36, h0_37, h0_38, h0_39, h0_40, h0_41, h0_42, h0_43, h0_44, h0_45, h0_46, h0_47, h0_48, h0_49, h0_50, h0_51, h0_52, h0_53, h0_54, h0_55, h0_56, h0_57, h0_58, h0_59, h0_60, h0_61, h0_62, h0_63, h0_64, h0_65, h0_66, h0_67, h0_68, h0_69]))] s.heap := hP
  have w__fieldLink_RX12_145_ShellHeapModel_thrown_I_ := hts (.fieldLink RX12 145 "ShellHeapModel" "thrown" "I") (by decide +kernel)
  have hiX12 := show ∀ w ∈ u_ws RX12 TX12 70, w ∈ u_c_X12_holds by decide +kernel
  have hl := lv_entry ([.ref h0, .int p1, .int p2]) (n := 7) (Nat.le_of_ble_eq_true rfl)
  rw [lg_entry_eq]
  generalize (lg_sl ([.ref h0, .int p1, .int p2]) ++ List.replicate (7 - (lg_sl ([.ref h0, .int p1, .int p2])).length) Slot.unset).toArray = ls at hl ⊢
  have hl : lv_has ls 7 [(0, .ref h0), (1, .int p1), (2, .int p2)] := hl
  refine lv_aload_n hx hb dX12_holds_0 rfl (lv_at hl 0 rfl) ?_
  refine lv_iconst (v := 0) hx hb dX12_holds_1 (by decide) ?_
  refine va_put (D := (dC, dI)) (ci := 12) (v := .int 0) (ty := .int) (C := RX12) (T := TX12) (N := 70) hx hb hts hiX12 tyX12 tyX12_ok nmX12 hown hK hP hD hS 0 rfl rfl 2 (by decide) w__fieldLink_RX12_145_ShellHeapModel_thrown_I_ (fun _ h9 => h9) rfl (by decide +kernel) rfl rfl (Nat.le_of_ble_eq_true rfl) dX12_holds_2 (fun H_1 locs hP hD hS => ?_)
  have hP : va_P (dC, dI) vwCl [(h0, .inr (12, [h0_0, h0_1, .int 0, .int 0, .int 0, h0_5, h0_6, h0_7, h0_8, h0_9, h0_10, h0_11, h0_12, h0_13, h0_14, h0_15, h0_16, h0_17, h0_18, h0_19, h0_20, h0_21, h0_22, h0_23, h0_24, h0_25, h0_26, h0_27, h0_28, h0_29, h0_30, h0_31, h0_32, h0_33, h0_34, h0_35, h0_36, h0_37, h0_38, h0_39, h0_40, h0_41, h0_42, h0_43, h0_44, h0_45, h0_46, h0_47, h0_48, h0_49, h0_50, h0_51, h0_52, h0_53, h0_54, h0_55, h0_56, h0_57, h0_58, h0_59, h0_60, h0_61, h0_62, h0_63, h0_64, h0_65, h0_66, h0_67, h0_68, h0_69]))] H_1 := hP
  have hD : va_D A [(h0, .inr (12, [h0_0, h0_1, .int 0, .int 0, .int 0, h0_5, h0_6, h0_7, h0_8, h0_9, h0_10, h0_11, h0_12, h0_13, h0_14, h0_15, h0_16, h0_17, h0_18, h0_19, h0_20, h0_21, h0_22, h0_23, h0_24, h0_25, h0_26, h0_27, h0_28, h0_29, h0_30, h0_31, h0_32, h0_33, h0_34, h0_35, h0_36, h0_37, h0_38, h0_39, h0_40, h0_41, h0_42, h0_43, h0_44, h0_45, h0_46, h0_47, h0_48, h0_49, h0_50, h0_51, h0_52, h0_53, h0_54, h0_55, h0_56, h0_57, h0_58, h0_59, h0_60, h0_61, h0_62, h0_63, h0_64, h0_65, h0_66, h0_67, h0_68, h0_69]))] := hD
  refine lv_aload_n hx hb dX12_holds_5 rfl (lv_at hl 0 rfl) ?_
  refine lv_iload_n hx hb dX12_holds_6 rfl (lv_at hl 1 rfl) ?_
  have hPc := hP.sub (ws' := [(h0, .inr (12, [h0_0, h0_1, .int 0, .int 0, .int 0, h0_5, h0_6, h0_7, h0_8, h0_9, h0_10, h0_11, h0_12, h0_13, h0_14, h0_15, h0_16, h0_17, h0_18, h0_19, h0_20, h0_21, h0_22, h0_23, h0_24, h0_25, h0_26, h0_27, h0_28, h0_29, h0_30, h0_31, h0_32, h0_33, h0_34, h0_35, h0_36, h0_37, h0_38, h0_39, h0_40, h0_41, h0_42, h0_43, h0_44, h0_45, h0_46, h0_47, h0_48, h0_49, h0_50, h0_51, h0_52, h0_53, h0_54, h0_55, h0_56, h0_57, h0_58, h0_59, h0_60, h0_61, h0_62, h0_63, h0_64, h0_65, h0_66, h0_67, h0_68, h0_69]))]) [0] rfl
  have hDc := hD.sub (ws' := [(h0, .inr (12, [h0_0, h0_1, .int 0, .int 0, .int 0, h0_5, h0_6, h0_7, h0_8, h0_9, h0_10, h0_11, h0_12, h0_13, h0_14, h0_15, h0_16, h0_17, h0_18, h0_19, h0_20, h0_21, h0_22, h0_23, h0_24, h0_25, h0_26, h0_27, h0_28, h0_29, h0_30, h0_31, h0_32, h0_33, h0_34, h0_35, h0_36, h0_37, h0_38, h0_39, h0_40, h0_41, h0_42, h0_43, h0_44, h0_45, h0_46, h0_47, h0_48, h0_49, h0_50, h0_51, h0_52, h0_53, h0_54, h0_55, h0_56, h0_57, h0_58, h0_59, h0_60, h0_61, h0_62, h0_63, h0_64, h0_65, h0_66, h0_67, h0_68, h0_69]))]) [0] (by decide) rfl
  have hKc := hK.sub (tys' := []) [] rfl
  have hFc := va_free (ws := []) (wc := []) (z_D0 _) hS hA [] rfl
  refine va_calli (va_runV (As := [.int p1]) (rest := []) ⟨hx, hb, hml, hown, hts⟩ (c_X12_isLayer l dC dI H_1.size h0 p1 h0_0 h0_1 (.int 0) (.int 0) h0_5 h0_6 h0_7 h0_8 h0_9 h0_10 h0_11 h0_12 h0_13 h0_14 h0_15 h0_16 h0_17 h0_18 h0_19 h0_20 h0_21 h0_22 h0_23 h0_24 h0_25 h0_26 h0_27 h0_28 h0_29 h0_30 h0_31 h0_32 h0_33 h0_34 h0_35 h0_36 h0_37 h0_38 h0_39 h0_40 h0_41 h0_42 h0_43 h0_44 h0_45 h0_46 h0_47 h0_48 h0_49 h0_50 h0_51 h0_52 h0_53 h0_54 h0_55 h0_56 h0_57 h0_58 h0_59 h0_60 h0_61 h0_62 h0_63 h0_64 h0_65 h0_66 h0_67 h0_68 h0_69) (cwV 1 hts gw_c_X12_holds_c_X12_isLayer_157 rfl rfl rfl (by decide +kernel) ⟨Nat.le_of_ble_eq_true rfl, Nat.le_of_ble_eq_true rfl⟩) ⟨z_blind, va_recv hKc hPc (ci := 12) (q0 := 0) rfl rfl, z_pre hPc hKc hDc⟩ rfl rfl hl.1 rfl (lv_room (Nat.le_of_ble_eq_true rfl)) dX12_holds_7 ⟨Nat.le_of_ble_eq_true rfl, Nat.le_of_ble_eq_true rfl⟩) hS (fun q _ h => hFc q h) hFc (fun r_3 u t H_2 locs ht hvm hw_4 hB hz1 hk1 hS => ?_)
  have hP := z_pure hP hk1
  have hP : va_P (dC, dI) vwCl [(h0, .inr (12, [h0_0, h0_1, .int 0, .int 0, .int 0, h0_5, h0_6, h0_7, h0_8, h0_9, h0_10, h0_11, h0_12, h0_13, h0_14, h0_15, h0_16, h0_17, h0_18, h0_19, h0_20, h0_21, h0_22, h0_23, h0_24, h0_25, h0_26, h0_27, h0_28, h0_29, h0_30, h0_31, h0_32, h0_33, h0_34, h0_35, h0_36, h0_37, h0_38, h0_39, h0_40, h0_41, h0_42, h0_43, h0_44, h0_45, h0_46, h0_47, h0_48, h0_49, h0_50, h0_51, h0_52, h0_53, h0_54, h0_55, h0_56, h0_57, h0_58, h0_59, h0_60, h0_61, h0_62, h0_63, h0_64, h0_65, h0_66, h0_67, h0_68, h0_69]))] H_2 := hP
  have hD : va_D A [(h0, .inr (12, [h0_0, h0_1, .int 0, .int 0, .int 0, h0_5, h0_6, h0_7, h0_8, h0_9, h0_10, h0_11, h0_12, h0_13, h0_14, h0_15, h0_16, h0_17, h0_18, h0_19, h0_20, h0_21, h0_22, h0_23, h0_24, h0_25, h0_26, h0_27, h0_28, h0_29, h0_30, h0_31, h0_32, h0_33, h0_34, h0_35, h0_36, h0_37, h0_38, h0_39, h0_40, h0_41, h0_42, h0_43, h0_44, h0_45, h0_46, h0_47, h0_48, h0_49, h0_50, h0_51, h0_52, h0_53, h0_54, h0_55, h0_56, h0_57, h0_58, h0_59, h0_60, h0_61, h0_62, h0_63, h0_64, h0_65, h0_66, h0_67, h0_68, h0_69]))] := hD
  clear hPc hDc hKc
  obtain rfl : r_3 = 0 := hw_4
  refine lv_if_eq (tgt := 29) hx hb dX12_holds_10 (by decide) (fun _ => ?_) (fun c_5 => absurd (by decide) c_5)
  refine lv_iconst (v := (-1)) hx hb dX12_holds_29 (by decide) ?_
  refine W.widen (k := 0) (n := 0) (Nat.le_of_ble_eq_true rfl) (Nat.le_of_ble_eq_true rfl) ?_
  exact W.iret (v := (-1)) hx hb hr (fun t ht hW => ⟨⟨(-1), (), rfl, rfl, trivial⟩, hS.F ht⟩) hS.2.2 dX12_holds_30
def u_c_X12_kind : List Cond := .code yX12_kind cX12_kind 3 (some .int) :: ([.fieldLink RX12 145 "ShellHeapModel" "thrown" "I", .fieldLink RX12 192 "ShellHeapModel" "kinds" "I", .fieldLink RX12 63 "ShellHeapModel" "meat" "[I", .fieldLink RX12 66 "ShellHeapModel" "valves" "[I"] ++ wsX120)
set_option maxHeartbeats 4000000 in
set_option maxRecDepth 100000 in
theorem c_X12_kind (l : Launch) (dC : Nat → ClassId) (dI : Nat → Nat → Nat) (sz : Nat) (h0 : Nat) (p1 : Int32) (p2 : Int32) (h0_0 : Value) (h0_1 : Value) (h0_2 : Value) (h0_3 : Value) (h0_4 : Value) (h0_5 : Value) (h0_6 : Value) (h0_7 : Value) (h0_8 : Value) (h0_9 : Value) (h0_10 : Value) (h0_11 : Value) (h0_12 : Value) (h0_13 : Value) (h0_14 : Value) (h0_15 : Value) (h0_16 : Value) (h0_17 : Value) (h0_18 : Value) (h0_19 : Value) (h0_20 : Value) (h0_21 : Value) (h0_22 : Value) (h1 : Nat) (h2 : Nat) (h0_26 : Value) (h0_27 : Value) (h0_28 : Value) (h0_29 : Value) (h0_30 : Value) (h0_31 : Value) (h0_32 : Value) (h0_33 : Value) (h0_34 : Value) (h0_35 : Value) (h0_36 : Value) (h0_37 : Value) (h0_38 : Value) (h0_39 : Value) (h0_40 : Value) (h0_41 : Value) (h0_42 : Value) (h0_43 : Value) (h0_44 : Value) (h0_45 : Value) (h0_46 : Value) (h0_47 : Value) (h0_48 : Value) (h0_49 : Value) (h0_50 : Value) (h0_51 : Value) (h0_52 : Value) (h0_53 : Value) (h0_54 : Value) (h0_55 : Value) (h0_56 : Value) (h0_57 : Value) (h0_58 : Value) (h0_59 : Value) (h0_60 : Value) (h0_61 : Value) (h0_62 : Value) (h0_63 : Value) (h0_64 : Value) (h0_65 : Value) (h0_66 : Value) (h0_67 : Value) (h0_68 : Value) (h0_69 : Value) (ch1 : ClassId) (fh1 : Nat → Int32) (ch2 : ClassId) (fh2 : Nat → Int32) : Met l yX12_kind u_c_X12_kind ({ frames := 0, cells := 0, slots := 0, locals := 0 }) (va_Pc [.ref h0, .int p1, .int p2] (z_C (dC, dI) vwCl [(h0, .inr (12, [h0_0, h0_1, h0_2, h0_3, h0_4, h0_5, h0_6, h0_7, h0_8, h0_9, h0_10, h0_11, h0_12, h0_13, h0_14, h0_15, h0_16, h0_17, h0_18, h0_19, h0_20, h0_21, h0_22, .int 0, .ref h1, .ref h2, h0_26, h0_27, h0_28, h0_29, h0_30, h0_31, h0_32, h0_33, h0_34, h0_35, h0_36, h0_37, h0_38, h0_39, h0_40, h0_41, h0_42, h0_43, h0_44, h0_45, h0_46, h0_47, h0_48, h0_49, h0_50, h0_51, h0_52, h0_53, h0_54, h0_55, h0_56, h0_57, h0_58, h0_59, h0_60, h0_61, h0_62, h0_63, h0_64, h0_65, h0_66, h0_67, h0_68, h0_69])), (h1, .inl (ch1, 6, .inl fh1)), (h2, .inl (ch2, 6, .inl fh2))] [(ch1, .int), (ch2, .int)] sz)) (va_Qi (fun (r : Int32) (_ : Unit) => r = v_kind p1 p2) (fun (_ : Unit) (_ : State) => True) (va_A [(h0, .inr (12, [h0_0, h0_1, h0_2, h0_3, h0_4, h0_5, h0_6, h0_7, h0_8, h0_9, h0_10, h0_11, h0_12, h0_13, h0_14, h0_15, h0_16, h0_17, h0_18, h0_19, h0_20, h0_21, h0_22, .int 0, .ref h1, .ref h2, h0_26, h0_27, h0_28, h0_29, h0_30, h0_31, h0_32, h0_33, h0_34, h0_35, h0_36, h0_37, h0_38, h0_39, h0_40, h0_41, h0_42, h0_43, h0_44, h0_45, h0_46, h0_47, h0_48, h0_49, h0_50, h0_51, h0_52, h0_53, h0_54, h0_55, h0_56, h0_57, h0_58, h0_59, h0_60, h0_61, h0_62, h0_63, h0_64, h0_65, h0_66, h0_67, h0_68, h0_69])), (h1, .inl (ch1, 6, .inl fh1)), (h2, .inl (ch2, 6, .inl fh2))] sz)) 0 0 (va_A [(h0, .inr (12, [h0_0, h0_1, h0_2, h0_3, h0_4, h0_5, h0_6, h0_7, h0_8, h0_9, h0_10, h0_11, h0_12, h0_13, h0_14, h0_15, h0_16, h0_17, h0_18, h0_19, h0_20, h0_21, h0_22, .int 0, .ref h1, .ref h2, h0_26, h0_27, h0_28, h0_29, h0_30, h0_31, h0_32, h0_33, h0_34, h0_35, h0_36, h0_37, h0_38, h0_39, h0_40, h0_41, h0_42, h0_43, h0_44, h0_45, h0_46, h0_47, h0_48, h0_49, h0_50, h0_51, h0_52, h0_53, h0_54, h0_55, h0_56, h0_57, h0_58, h0_59, h0_60, h0_61, h0_62, h0_63, h0_64, h0_65, h0_66, h0_67, h0_68, h0_69])), (h1, .inl (ch1, 6, .inl fh1)), (h2, .inl (ch2, 6, .inl fh2))] sz) := by
  refine Met.ofW (cc := cX12_kind) (maxL := 3) (ret := (some .int)) (by decide) rfl ?_
  intro p e s m args below meth c s₁ B hml hv
  obtain ⟨rfl, hsz, hP, hK, hD0⟩ := hv
  have hx := B.exec
  have hb := B.bytes
  have hr := B.returns
  have hts := atoms_spec (ws := u_c_X12_kind) B.pre
  have hown : s.vm.findClass RX12 = some m.cls := findClass_of_methodNamed B.named
  have hlocks := B.notSynchronized
  subst hsz
  have hD := hD0.self (sz := s.heap.size)
  generalize hAe : va_A [(h0, .inr (12, [h0_0, h0_1, h0_2, h0_3, h0_4, h0_5, h0_6, h0_7, h0_8, h0_9, h0_10, h0_11, h0_12, h0_13, h0_14, h0_15, h0_16, h0_17, h0_18, h0_19, h0_20, h0_21, h0_22, .int 0, .ref h1, .ref h2, h0_26, h0_27, h0_28, h0_29, h0_30, h0_31, h0_32, h0_33, h0_34, h0_35, h0_36, h0_37, h0_38, h0_39, h0_40, h0_41, h0_42, h0_43, h0_44, h0_45, h0_46, h0_47, h0_48, h0_49, h0_50, h0_51, h0_52, h0_53, h0_54, h0_55, h0_56, h0_57, h0_58, h0_59, h0_60, h0_61, h0_62, h0_63, h0_64, h0_65, h0_66, h0_67, h0_68, h0_69])), (h1, .inl (ch1, 6, .inl fh1)), (h2, .inl (ch2, 6, .inl fh2))] s.heap.size = A at hD ⊢
  have hA : ∀ q : Nat, s.heap.size ≤ q → A q := fun q h => by rw [← hAe]; exact Or.inr h
  have hS : va_S A s.heap s.heap [] := va_S.rf
  have hP : va_P (dC, dI) vwCl [(h0, .inr (12, [h0_0, h0_1, h0_2, h0_3, h0_4, h0_5, h0_6, h0_7, h0_8, h0_9, h0_10, h0_11, h0_12, h0_13, h0_14, h0_15, h0_16, h0_17, h0_18, h0_19, h0_20, h0_21, h0_22, .int 0, .ref h1, .ref h2, h0_26, h0_27, h0_28, h0_29, h0_30, h0_31, h0_32, h0_33, h0_34, h0_35, h0_36, h0_37, h0_38, h0_39, h0_40, h0_41, h0_42, h0_43, h0_44, h0_45, h0_46, h0_47, h0_48, h0_49, h0_50, h0_51, h0_52, h0_53, h0_54, h0_55, h0_56, h0_57, h0_58, h0_59, h0_60, h0_61, h0_62, h0_63, h0_64, h0_65, h0_66, h0_67, h0_68, h0_69])), (h1, .inl (ch1, 6, .inl fh1)), (h2, .inl (ch2, 6, .inl fh2))] s.heap := hP
  have w__fieldLink_RX12_145_ShellHeapModel_thrown_I_ := hts (.fieldLink RX12 145 "ShellHeapModel" "thrown" "I") (by decide +kernel)
  have hiX12 := show ∀ w ∈ u_ws RX12 TX12 70, w ∈ u_c_X12_kind by decide +kernel
  have w__fieldLink_RX12_192_ShellHeapModel_kinds_I_ := hts (.fieldLink RX12 192 "ShellHeapModel" "kinds" "I") (by decide +kernel)
  have w__fieldLink_RX12_63_ShellHeapModel_meat_I_ := hts (.fieldLink RX12 63 "ShellHeapModel" "meat" "[I") (by decide +kernel)
  have w__fieldLink_RX12_66_ShellHeapModel_valves_I_ := hts (.fieldLink RX12 66 "ShellHeapModel" "valves" "[I") (by decide +kernel)
  have hl := lv_entry ([.ref h0, .int p1, .int p2]) (n := 3) (Nat.le_of_ble_eq_true rfl)
  rw [lg_entry_eq]
  generalize (lg_sl ([.ref h0, .int p1, .int p2]) ++ List.replicate (3 - (lg_sl ([.ref h0, .int p1, .int p2])).length) Slot.unset).toArray = ls at hl ⊢
  have hl : lv_has ls 3 [(0, .ref h0), (1, .int p1), (2, .int p2)] := hl
  refine lv_aload_n hx hb dX12_kind_0 rfl (lv_at hl 0 rfl) ?_
  refine lv_iconst (v := 0) hx hb dX12_kind_1 (by decide) ?_
  refine va_put (D := (dC, dI)) (ci := 12) (v := .int 0) (ty := .int) (C := RX12) (T := TX12) (N := 70) hx hb hts hiX12 tyX12 tyX12_ok nmX12 hown hK hP hD hS 0 rfl rfl 2 (by decide) w__fieldLink_RX12_145_ShellHeapModel_thrown_I_ (fun _ h9 => h9) rfl (by decide +kernel) rfl rfl (Nat.le_of_ble_eq_true rfl) dX12_kind_2 (fun H_1 locs hP hD hS => ?_)
  have hP : va_P (dC, dI) vwCl [(h0, .inr (12, [h0_0, h0_1, .int 0, h0_3, h0_4, h0_5, h0_6, h0_7, h0_8, h0_9, h0_10, h0_11, h0_12, h0_13, h0_14, h0_15, h0_16, h0_17, h0_18, h0_19, h0_20, h0_21, h0_22, .int 0, .ref h1, .ref h2, h0_26, h0_27, h0_28, h0_29, h0_30, h0_31, h0_32, h0_33, h0_34, h0_35, h0_36, h0_37, h0_38, h0_39, h0_40, h0_41, h0_42, h0_43, h0_44, h0_45, h0_46, h0_47, h0_48, h0_49, h0_50, h0_51, h0_52, h0_53, h0_54, h0_55, h0_56, h0_57, h0_58, h0_59, h0_60, h0_61, h0_62, h0_63, h0_64, h0_65, h0_66, h0_67, h0_68, h0_69])), (h1, .inl (ch1, 6, .inl fh1)), (h2, .inl (ch2, 6, .inl fh2))] H_1 := hP
  have hD : va_D A [(h0, .inr (12, [h0_0, h0_1, .int 0, h0_3, h0_4, h0_5, h0_6, h0_7, h0_8, h0_9, h0_10, h0_11, h0_12, h0_13, h0_14, h0_15, h0_16, h0_17, h0_18, h0_19, h0_20, h0_21, h0_22, .int 0, .ref h1, .ref h2, h0_26, h0_27, h0_28, h0_29, h0_30, h0_31, h0_32, h0_33, h0_34, h0_35, h0_36, h0_37, h0_38, h0_39, h0_40, h0_41, h0_42, h0_43, h0_44, h0_45, h0_46, h0_47, h0_48, h0_49, h0_50, h0_51, h0_52, h0_53, h0_54, h0_55, h0_56, h0_57, h0_58, h0_59, h0_60, h0_61, h0_62, h0_63, h0_64, h0_65, h0_66, h0_67, h0_68, h0_69])), (h1, .inl (ch1, 6, .inl fh1)), (h2, .inl (ch2, 6, .inl fh2))] := hD
  refine lv_aload_n hx hb dX12_kind_5 rfl (lv_at hl 0 rfl) ?_
  refine va_get (D := (dC, dI)) (ci := 12) (v := .int 0) (C := RX12) (T := TX12) (N := 70) hx hb hts hiX12 hown hK hP 0 rfl rfl 23 (by decide) w__fieldLink_RX12_192_ShellHeapModel_kinds_I_ (fun _ h9 => h9) rfl dX12_kind_6 ?_
  refine lv_bipush (v := 6) hx hb dX12_kind_9 (by decide) ?_
  refine lv_icmp_eq (tgt := 35) hx hb dX12_kind_11 (by decide) (fun c_2 => absurd c_2 (by decide)) (fun _ => ?_)
  refine lv_iload_n hx hb dX12_kind_14 rfl (lv_at hl 1 rfl) ?_
  refine lv_if_lt (tgt := 35) hx hb dX12_kind_15 (by decide) (fun c_3 => ?_) (fun c_3 => ?_)
  · have k_4 : (p1).toInt < (0 : Int) := z_lt c_3
    refine lv_iconst (v := (-1)) hx hb dX12_kind_35 (by decide) ?_
    refine W.widen (k := 0) (n := 0) (Nat.le_of_ble_eq_true rfl) (Nat.le_of_ble_eq_true rfl) ?_
    exact W.iret (v := (-1)) hx hb hr (fun t ht hW => ⟨⟨(-1), (), rfl, (by first | (unfold v_kind; rw [if_pos (by omega)]) | (unfold v_kind; rw [if_neg (by omega)]) | decide), trivial⟩, hS.F ht⟩) hS.2.2 dX12_kind_36
  · have k_5 : (p1).toInt ≥ (0 : Int) := z_nlt c_3
    refine lv_iload_n hx hb dX12_kind_18 rfl (lv_at hl 1 rfl) ?_
    refine lv_sipush (v := 999) hx hb dX12_kind_19 (by decide) ?_
    refine lv_icmp_gt (tgt := 35) hx hb dX12_kind_22 (by decide) (fun c_6 => ?_) (fun c_6 => ?_)
    · have k_7 : (999 : Int) < (p1).toInt := z_lt c_6
      refine lv_iconst (v := (-1)) hx hb dX12_kind_35 (by decide) ?_
      refine W.widen (k := 0) (n := 0) (Nat.le_of_ble_eq_true rfl) (Nat.le_of_ble_eq_true rfl) ?_
      exact W.iret (v := (-1)) hx hb hr (fun t ht hW => ⟨⟨(-1), (), rfl, (by first | (unfold v_kind; rw [if_pos (by omega)]) | (unfold v_kind; rw [if_neg (by omega)]) | decide), trivial⟩, hS.F ht⟩) hS.2.2 dX12_kind_36
    · have k_8 : (999 : Int) ≥ (p1).toInt := z_nlt c_6
      refine lv_iload_n hx hb dX12_kind_25 rfl (lv_at hl 2 rfl) ?_
      refine lv_iconst (v := 1) hx hb dX12_kind_26 (by decide) ?_
      refine lv_icmp_lt (tgt := 35) hx hb dX12_kind_27 (by decide) (fun c_9 => ?_) (fun c_9 => ?_)
      · have k_10 : (p2).toInt < (1 : Int) := z_lt c_9
        refine lv_iconst (v := (-1)) hx hb dX12_kind_35 (by decide) ?_
        refine W.widen (k := 0) (n := 0) (Nat.le_of_ble_eq_true rfl) (Nat.le_of_ble_eq_true rfl) ?_
        exact W.iret (v := (-1)) hx hb hr (fun t ht hW => ⟨⟨(-1), (), rfl, (by first | (unfold v_kind; rw [if_pos (by omega)]) | (unfold v_kind; rw [if_neg (by omega)]) | decide), trivial⟩, hS.F ht⟩) hS.2.2 dX12_kind_36
      · have k_11 : (p2).toInt ≥ (1 : Int) := z_nlt c_9
        refine lv_iload_n hx hb dX12_kind_30 rfl (lv_at hl 2 rfl) ?_
        refine lv_iconst (v := 2) hx hb dX12_kind_31 (by decide) ?_
        refine lv_icmp_le (tgt := 37) hx hb dX12_kind_32 (by decide) (fun c_12 => ?_) (fun c_12 => ?_)
        · have k_13 : (p2).toInt ≤ (2 : Int) := z_le c_12
          refine lv_aload_n hx hb dX12_kind_37 rfl (lv_at hl 0 rfl) ?_
          refine va_get (D := (dC, dI)) (ci := 12) (v := .ref h1) (C := RX12) (T := TX12) (N := 70) hx hb hts hiX12 hown hK hP 0 rfl rfl 24 (by decide) w__fieldLink_RX12_63_ShellHeapModel_meat_I_ (fun _ h9 => h9) rfl dX12_kind_38 ?_
          refine lv_aload_n hx hb dX12_kind_41 rfl (lv_at hl 0 rfl) ?_
          refine va_get (D := (dC, dI)) (ci := 12) (v := .int 0) (C := RX12) (T := TX12) (N := 70) hx hb hts hiX12 hown hK hP 0 rfl rfl 23 (by decide) w__fieldLink_RX12_192_ShellHeapModel_kinds_I_ (fun _ h9 => h9) rfl dX12_kind_42 ?_
          refine lv_iload_n hx hb dX12_kind_45 rfl (lv_at hl 1 rfl) ?_
          refine va_iast hx hb hK hP hD hS 1 0 rfl rfl (by unfold vp_in; decide) dX12_kind_46 (fun H_14 locs hP hD hS => ?_)
          have hP : va_P (dC, dI) vwCl [(h0, .inr (12, [h0_0, h0_1, .int 0, h0_3, h0_4, h0_5, h0_6, h0_7, h0_8, h0_9, h0_10, h0_11, h0_12, h0_13, h0_14, h0_15, h0_16, h0_17, h0_18, h0_19, h0_20, h0_21, h0_22, .int 0, .ref h1, .ref h2, h0_26, h0_27, h0_28, h0_29, h0_30, h0_31, h0_32, h0_33, h0_34, h0_35, h0_36, h0_37, h0_38, h0_39, h0_40, h0_41, h0_42, h0_43, h0_44, h0_45, h0_46, h0_47, h0_48, h0_49, h0_50, h0_51, h0_52, h0_53, h0_54, h0_55, h0_56, h0_57, h0_58, h0_59, h0_60, h0_61, h0_62, h0_63, h0_64, h0_65, h0_66, h0_67, h0_68, h0_69])), (h1, .inl (ch1, 6, .inl (upd fh1 (0 : Int32).toNatClampNeg p1))), (h2, .inl (ch2, 6, .inl fh2))] H_14 := hP
          have hD : va_D A [(h0, .inr (12, [h0_0, h0_1, .int 0, h0_3, h0_4, h0_5, h0_6, h0_7, h0_8, h0_9, h0_10, h0_11, h0_12, h0_13, h0_14, h0_15, h0_16, h0_17, h0_18, h0_19, h0_20, h0_21, h0_22, .int 0, .ref h1, .ref h2, h0_26, h0_27, h0_28, h0_29, h0_30, h0_31, h0_32, h0_33, h0_34, h0_35, h0_36, h0_37, h0_38, h0_39, h0_40, h0_41, h0_42, h0_43, h0_44, h0_45, h0_46, h0_47, h0_48, h0_49, h0_50, h0_51, h0_52, h0_53, h0_54, h0_55, h0_56, h0_57, h0_58, h0_59, h0_60, h0_61, h0_62, h0_63, h0_64, h0_65, h0_66, h0_67, h0_68, h0_69])), (h1, .inl (ch1, 6, .inl (upd fh1 (0 : Int32).toNatClampNeg p1))), (h2, .inl (ch2, 6, .inl fh2))] := hD
          generalize (upd fh1 (0 : Int32).toNatClampNeg p1) = f_15 at hP hD
          refine lv_aload_n hx hb dX12_kind_47 rfl (lv_at hl 0 rfl) ?_
          refine va_get (D := (dC, dI)) (ci := 12) (v := .ref h2) (C := RX12) (T := TX12) (N := 70) hx hb hts hiX12 hown hK hP 0 rfl rfl 25 (by decide) w__fieldLink_RX12_66_ShellHeapModel_valves_I_ (fun _ h9 => h9) rfl dX12_kind_48 ?_
          refine lv_aload_n hx hb dX12_kind_51 rfl (lv_at hl 0 rfl) ?_
          refine va_get (D := (dC, dI)) (ci := 12) (v := .int 0) (C := RX12) (T := TX12) (N := 70) hx hb hts hiX12 hown hK hP 0 rfl rfl 23 (by decide) w__fieldLink_RX12_192_ShellHeapModel_kinds_I_ (fun _ h9 => h9) rfl dX12_kind_52 ?_
          refine lv_iload_n hx hb dX12_kind_55 rfl (lv_at hl 2 rfl) ?_
          refine va_iast hx hb hK hP hD hS 2 1 rfl rfl (by unfold vp_in; decide) dX12_kind_56 (fun H_16 locs hP hD hS => ?_)
          have hP : va_P (dC, dI) vwCl [(h0, .inr (12, [h0_0, h0_1, .int 0, h0_3, h0_4, h0_5, h0_6, h0_7, h0_8, h0_9, h0_10, h0_11, h0_12, h0_13, h0_14, h0_15, h0_16, h0_17, h0_18, h0_19, h0_20, h0_21, h0_22, .int 0, .ref h1, .ref h2, h0_26, h0_27, h0_28, h0_29, h0_30, h0_31, h0_32, h0_33, h0_34, h0_35, h0_36, h0_37, h0_38, h0_39, h0_40, h0_41, h0_42, h0_43, h0_44, h0_45, h0_46, h0_47, h0_48, h0_49, h0_50, h0_51, h0_52, h0_53, h0_54, h0_55, h0_56, h0_57, h0_58, h0_59, h0_60, h0_61, h0_62, h0_63, h0_64, h0_65, h0_66, h0_67, h0_68, h0_69])), (h1, .inl (ch1, 6, .inl f_15)), (h2, .inl (ch2, 6, .inl (upd fh2 (0 : Int32).toNatClampNeg p2)))] H_16 := hP
          have hD : va_D A [(h0, .inr (12, [h0_0, h0_1, .int 0, h0_3, h0_4, h0_5, h0_6, h0_7, h0_8, h0_9, h0_10, h0_11, h0_12, h0_13, h0_14, h0_15, h0_16, h0_17, h0_18, h0_19, h0_20, h0_21, h0_22, .int 0, .ref h1, .ref h2, h0_26, h0_27, h0_28, h0_29, h0_30, h0_31, h0_32, h0_33, h0_34, h0_35, h0_36, h0_37, h0_38, h0_39, h0_40, h0_41, h0_42, h0_43, h0_44, h0_45, h0_46, h0_47, h0_48, h0_49, h0_50, h0_51, h0_52, h0_53, h0_54, h0_55, h0_56, h0_57, h0_58, h0_59, h0_60, h0_61, h0_62, h0_63, h0_64, h0_65, h0_66, h0_67, h0_68, h0_69])), (h1, .inl (ch1, 6, .inl f_15)), (h2, .inl (ch2, 6, .inl (upd fh2 (0 : Int32).toNatClampNeg p2)))] := hD
          generalize (upd fh2 (0 : Int32).toNatClampNeg p2) = f_17 at hP hD
          refine lv_aload_n hx hb dX12_kind_57 rfl (lv_at hl 0 rfl) ?_
          refine lv_dup hx hb dX12_kind_58 rfl ?_
          refine va_get (D := (dC, dI)) (ci := 12) (v := .int 0) (C := RX12) (T := TX12) (N := 70) hx hb hts hiX12 hown hK hP 0 rfl rfl 23 (by decide) w__fieldLink_RX12_192_ShellHeapModel_kinds_I_ (fun _ h9 => h9) rfl dX12_kind_59 ?_
          refine lv_iconst (v := 1) hx hb dX12_kind_62 (by decide) ?_
          refine lv_iadd hx hb dX12_kind_63 ?_
          refine lv_topi (fun x_18 e_19 => ?_)
          obtain rfl : x_18 = 1 := e_19.trans (by decide)
          refine va_put (D := (dC, dI)) (ci := 12) (v := .int 1) (ty := .int) (C := RX12) (T := TX12) (N := 70) hx hb hts hiX12 tyX12 tyX12_ok nmX12 hown hK hP hD hS 0 rfl rfl 23 (by decide) w__fieldLink_RX12_192_ShellHeapModel_kinds_I_ (fun _ h9 => h9) rfl (by decide +kernel) rfl rfl (Nat.le_of_ble_eq_true rfl) dX12_kind_64 (fun H_20 locs hP hD hS => ?_)
          have hP : va_P (dC, dI) vwCl [(h0, .inr (12, [h0_0, h0_1, .int 0, h0_3, h0_4, h0_5, h0_6, h0_7, h0_8, h0_9, h0_10, h0_11, h0_12, h0_13, h0_14, h0_15, h0_16, h0_17, h0_18, h0_19, h0_20, h0_21, h0_22, .int 1, .ref h1, .ref h2, h0_26, h0_27, h0_28, h0_29, h0_30, h0_31, h0_32, h0_33, h0_34, h0_35, h0_36, h0_37, h0_38, h0_39, h0_40, h0_41, h0_42, h0_43, h0_44, h0_45, h0_46, h0_47, h0_48, h0_49, h0_50, h0_51, h0_52, h0_53, h0_54, h0_55, h0_56, h0_57, h0_58, h0_59, h0_60, h0_61, h0_62, h0_63, h0_64, h0_65, h0_66, h0_67, h0_68, h0_69])), (h1, .inl (ch1, 6, .inl f_15)), (h2, .inl (ch2, 6, .inl f_17))] H_20 := hP
          have hD : va_D A [(h0, .inr (12, [h0_0, h0_1, .int 0, h0_3, h0_4, h0_5, h0_6, h0_7, h0_8, h0_9, h0_10, h0_11, h0_12, h0_13, h0_14, h0_15, h0_16, h0_17, h0_18, h0_19, h0_20, h0_21, h0_22, .int 1, .ref h1, .ref h2, h0_26, h0_27, h0_28, h0_29, h0_30, h0_31, h0_32, h0_33, h0_34, h0_35, h0_36, h0_37, h0_38, h0_39, h0_40, h0_41, h0_42, h0_43, h0_44, h0_45, h0_46, h0_47, h0_48, h0_49, h0_50, h0_51, h0_52, h0_53, h0_54, h0_55, h0_56, h0_57, h0_58, h0_59, h0_60, h0_61, h0_62, h0_63, h0_64, h0_65, h0_66, h0_67, h0_68, h0_69])), (h1, .inl (ch1, 6, .inl f_15)), (h2, .inl (ch2, 6, .inl f_17))] := hD
          refine lv_aload_n hx hb dX12_kind_67 rfl (lv_at hl 0 rfl) ?_
          refine va_get (D := (dC, dI)) (ci := 12) (v := .int 1) (C := RX12) (T := TX12) (N := 70) hx hb hts hiX12 hown hK hP 0 rfl rfl 23 (by decide) w__fieldLink_RX12_192_ShellHeapModel_kinds_I_ (fun _ h9 => h9) rfl dX12_kind_68 ?_
          refine lv_iconst (v := 1) hx hb dX12_kind_71 (by decide) ?_
          refine lv_isub hx hb dX12_kind_72 ?_
          refine lv_topi (fun x_21 e_22 => ?_)
          obtain rfl : x_21 = 0 := e_22.trans (by decide)
          refine W.widen (k := 0) (n := 0) (Nat.le_of_ble_eq_true rfl) (Nat.le_of_ble_eq_true rfl) ?_
          exact W.iret (v := 0) hx hb hr (fun t ht hW => ⟨⟨0, (), rfl, (by first | (unfold v_kind; rw [if_pos (by omega)]) | (unfold v_kind; rw [if_neg (by omega)]) | decide), trivial⟩, hS.F ht⟩) hS.2.2 dX12_kind_73
        · have k_23 : (p2).toInt > (2 : Int) := z_nle c_12
          refine lv_iconst (v := (-1)) hx hb dX12_kind_35 (by decide) ?_
          refine W.widen (k := 0) (n := 0) (Nat.le_of_ble_eq_true rfl) (Nat.le_of_ble_eq_true rfl) ?_
          exact W.iret (v := (-1)) hx hb hr (fun t ht hW => ⟨⟨(-1), (), rfl, (by first | (unfold v_kind; rw [if_pos (by omega)]) | (unfold v_kind; rw [if_neg (by omega)]) | decide), trivial⟩, hS.F ht⟩) hS.2.2 dX12_kind_36
def u_c_X12_kept : List Cond := .code yX12_kept cX12_kept 4 (some .boolean) :: ([.fieldLink RX12 145 "ShellHeapModel" "thrown" "I", .methodLink RX12 195 yX12_isKind, .instanceMethod yX12_isKind, .selects RX12 yX12_isKind yX12_isKind, .initialized RX12, .code yX12_isKind cX12_isKind 2 (some .boolean), .fieldLink RX12 192 "ShellHeapModel" "kinds" "I"] ++ wsX120)
set_option maxRecDepth 20000 in
theorem gw_c_X12_kept_c_X12_isKind_195 : GoodIn u_c_X12_kept (wsV RX12 195 RX12 yX12_isKind u_c_X12_isKind) := goodIn_r _ [2, 3, 4, 5, 6, 7, 8, 9, 10, 11, 12, 13, 14, 15, 16, 17, 18, 19, 20, 21, 22, 23, 24, 25, 26, 27, 28, 29, 30, 31, 32, 33, 34, 35, 36, 37, 38, 39, 40, 41, 42, 43, 44, 45, 46, 47, 48, 49, 50, 51, 52, 53, 54, 55, 56, 57, 58, 59, 60, 61, 62, 63, 64, 65, 66, 67, 68, 69, 70, 71, 72, 73, 74, 75, 76, 77] (by decide +kernel) (by decide +kernel)
set_option maxHeartbeats 4000000 in
set_option maxRecDepth 100000 in
theorem c_X12_kept (l : Launch) (dC : Nat → ClassId) (dI : Nat → Nat → Nat) (sz : Nat) (h0 : Nat) (p1 : Int32) (p2 : Int32) (p3 : Int32) (h0_0 : Value) (h0_1 : Value) (h0_2 : Value) (h0_3 : Value) (h0_4 : Value) (h0_5 : Value) (h0_6 : Value) (h0_7 : Value) (h0_8 : Value) (h0_9 : Value) (h0_10 : Value) (h0_11 : Value) (h0_12 : Value) (h0_13 : Value) (h0_14 : Value) (h0_15 : Value) (h0_16 : Value) (h0_17 : Value) (h0_18 : Value) (h0_19 : Value) (h0_20 : Value) (h0_21 : Value) (h0_22 : Value) (h0_24 : Value) (h0_25 : Value) (h0_26 : Value) (h0_27 : Value) (h0_28 : Value) (h0_29 : Value) (h0_30 : Value) (h0_31 : Value) (h0_32 : Value) (h0_33 : Value) (h0_34 : Value) (h0_35 : Value) (h0_36 : Value) (h0_37 : Value) (h0_38 : Value) (h0_39 : Value) (h0_40 : Value) (h0_41 : Value) (h0_42 : Value) (h0_43 : Value) (h0_44 : Value) (h0_45 : Value) (h0_46 : Value) (h0_47 : Value) (h0_48 : Value) (h0_49 : Value) (h0_50 : Value) (h0_51 : Value) (h0_52 : Value) (h0_53 : Value) (h0_54 : Value) (h0_55 : Value) (h0_56 : Value) (h0_57 : Value) (h0_58 : Value) (h0_59 : Value) (h0_60 : Value) (h0_61 : Value) (h0_62 : Value) (h0_63 : Value) (h0_64 : Value) (h0_65 : Value) (h0_66 : Value) (h0_67 : Value) (h0_68 : Value) (h0_69 : Value) : Met l yX12_kept u_c_X12_kept ({ frames := 1, cells := 0, slots := 0, locals := 21 }) (va_Pc [.ref h0, .int p1, .int p2, .int p3] (z_C (dC, dI) vwCl [(h0, .inr (12, [h0_0, h0_1, h0_2, h0_3, h0_4, h0_5, h0_6, h0_7, h0_8, h0_9, h0_10, h0_11, h0_12, h0_13, h0_14, h0_15, h0_16, h0_17, h0_18, h0_19, h0_20, h0_21, h0_22, .int 0, h0_24, h0_25, h0_26, h0_27, h0_28, h0_29, h0_30, h0_31, h0_32, h0_33, h0_34, h0_35, h0_36, h0_37, h0_38, h0_39, h0_40, h0_41, h0_42, h0_43, h0_44, h0_45, h0_46, h0_47, h0_48, h0_49, h0_50, h0_51, h0_52, h0_53, h0_54, h0_55, h0_56, h0_57, h0_58, h0_59, h0_60, h0_61, h0_62, h0_63, h0_64, h0_65, h0_66, h0_67, h0_68, h0_69]))] [] sz)) (va_Qi (fun (r : Int32) (_ : Unit) => r = 0) (fun (_ : Unit) (_ : State) => True) (va_A [(h0, .inr (12, [h0_0, h0_1, h0_2, h0_3, h0_4, h0_5, h0_6, h0_7, h0_8, h0_9, h0_10, h0_11, h0_12, h0_13, h0_14, h0_15, h0_16, h0_17, h0_18, h0_19, h0_20, h0_21, h0_22, .int 0, h0_24, h0_25, h0_26, h0_27, h0_28, h0_29, h0_30, h0_31, h0_32, h0_33, h0_34, h0_35, h0_36, h0_37, h0_38, h0_39, h0_40, h0_41, h0_42, h0_43, h0_44, h0_45, h0_46, h0_47, h0_48, h0_49, h0_50, h0_51, h0_52, h0_53, h0_54, h0_55, h0_56, h0_57, h0_58, h0_59, h0_60, h0_61, h0_62, h0_63, h0_64, h0_65, h0_66, h0_67, h0_68, h0_69]))] sz)) 0 0 (va_A [(h0, .inr (12, [h0_0, h0_1, h0_2, h0_3, h0_4, h0_5, h0_6, h0_7, h0_8, h0_9, h0_10, h0_11, h0_12, h0_13, h0_14, h0_15, h0_16, h0_17, h0_18, h0_19, h0_20, h0_21, h0_22, .int 0, h0_24, h0_25, h0_26, h0_27, h0_28, h0_29, h0_30, h0_31, h0_32, h0_33, h0_34, h0_35, h0_36, h0_37, h0_38, h0_39, h0_40, h0_41, h0_42, h0_43, h0_44, h0_45, h0_46, h0_47, h0_48, h0_49, h0_50, h0_51, h0_52, h0_53, h0_54, h0_55, h0_56, h0_57, h0_58, h0_59, h0_60, h0_61, h0_62, h0_63, h0_64, h0_65, h0_66, h0_67, h0_68, h0_69]))] sz) := by
  refine Met.ofW (cc := cX12_kept) (maxL := 4) (ret := (some .boolean)) (by decide) rfl ?_
  intro p e s m args below meth c s₁ B hml hv
  obtain ⟨rfl, hsz, hP, hK, hD0⟩ := hv
  have hx := B.exec
  have hb := B.bytes
  have hr := B.returns
  have hts := atoms_spec (ws := u_c_X12_kept) B.pre
  have hown : s.vm.findClass RX12 = some m.cls := findClass_of_methodNamed B.named
  have hlocks := B.notSynchronized
  subst hsz
  have hD := hD0.self (sz := s.heap.size)
  generalize hAe : va_A [(h0, .inr (12, [h0_0, h0_1, h0_2, h0_3, h0_4, h0_5, h0_6, h0_7, h0_8, h0_9, h0_10, h0_11, h0_12, h0_13, h0_14, h0_15, h0_16, h0_17, h0_18, h0_19, h0_20, h0_21, h0_22, .int 0, h0_24, h0_25, h0_26, h0_27, h0_28, h0_29, h0_30, h0_31, h0_32, h0_33, h0_34, h0_35, h0_36, h0_37, h0_38, h0_39, h0_40, h0_41, h0_42, h0_43, h0_44, h0_45, h0_46, h0_47, h0_48, h0_49, h0_50, h0_51, h0_52, h0_53, h0_54, h0_55, h0_56, h0_57, h0_58, h0_59, h0_60, h0_61, h0_62, h0_63, h0_64, h0_65, h0_66, h0_67, h0_68, h0_69]))] s.heap.size = A at hD ⊢
  have hA : ∀ q : Nat, s.heap.size ≤ q → A q := fun q h => by rw [← hAe]; exact Or.inr h
  have hS : va_S A s.heap s.heap [] := va_S.rf
  have hP : va_P (dC, dI) vwCl [(h0, .inr (12, [h0_0, h0_1, h0_2, h0_3, h0_4, h0_5, h0_6, h0_7, h0_8, h0_9, h0_10, h0_11, h0_12, h0_13, h0_14, h0_15, h0_16, h0_17, h0_18, h0_19, h0_20, h0_21, h0_22, .int 0, h0_24, h0_25, h0_26, h0_27, h0_28, h0_29, h0_30, h0_31, h0_32, h0_33, h0_34, h0_35, h0_36, h0_37, h0_38, h0_39, h0_40, h0_41, h0_42, h0_43, h0_44, h0_45, h0_46, h0_47, h0_48, h0_49, h0_50, h0_51, h0_52, h0_53, h0_54, h0_55, h0_56, h0_57, h0_58, h0_59, h0_60, h0_61, h0_62, h0_63, h0_64, h0_65, h0_66, h0_67, h0_68, h0_69]))] s.heap := hP
  have w__fieldLink_RX12_145_ShellHeapModel_thrown_I_ := hts (.fieldLink RX12 145 "ShellHeapModel" "thrown" "I") (by decide +kernel)
  have hiX12 := show ∀ w ∈ u_ws RX12 TX12 70, w ∈ u_c_X12_kept by decide +kernel
  have hl := lv_entry ([.ref h0, .int p1, .int p2, .int p3]) (n := 4) (Nat.le_of_ble_eq_true rfl)
  rw [lg_entry_eq]
  generalize (lg_sl ([.ref h0, .int p1, .int p2, .int p3]) ++ List.replicate (4 - (lg_sl ([.ref h0, .int p1, .int p2, .int p3])).length) Slot.unset).toArray = ls at hl ⊢
  have hl : lv_has ls 4 [(0, .ref h0), (1, .int p1), (2, .int p2), (3, .int p3)] := hl
  refine lv_aload_n hx hb dX12_kept_0 rfl (lv_at hl 0 rfl) ?_
  refine lv_iconst (v := 0) hx hb dX12_kept_1 (by decide) ?_
  refine va_put (D := (dC, dI)) (ci := 12) (v := .int 0) (ty := .int) (C := RX12) (T := TX12) (N := 70) hx hb hts hiX12 tyX12 tyX12_ok nmX12 hown hK hP hD hS 0 rfl rfl 2 (by decide) w__fieldLink_RX12_145_ShellHeapModel_thrown_I_ (fun _ h9 => h9) rfl (by decide +kernel) rfl rfl (Nat.le_of_ble_eq_true rfl) dX12_kept_2 (fun H_1 locs hP hD hS => ?_)
  have hP : va_P (dC, dI) vwCl [(h0, .inr (12, [h0_0, h0_1, .int 0, h0_3, h0_4, h0_5, h0_6, h0_7, h0_8, h0_9, h0_10, h0_11, h0_12, h0_13, h0_14, h0_15, h0_16, h0_17, h0_18, h0_19, h0_20, h0_21, h0_22, .int 0, h0_24, h0_25, h0_26, h0_27, h0_28, h0_29, h0_30, h0_31, h0_32, h0_33, h0_34, h0_35, h0_36, h0_37, h0_38, h0_39, h0_40, h0_41, h0_42, h0_43, h0_44, h0_45, h0_46, h0_47, h0_48, h0_49, h0_50, h0_51, h0_52, h0_53, h0_54, h0_55, h0_56, h0_57, h0_58, h0_59, h0_60, h0_61, h0_62, h0_63, h0_64, h0_65, h0_66, h0_67, h0_68, h0_69]))] H_1 := hP
  have hD : va_D A [(h0, .inr (12, [h0_0, h0_1, .int 0, h0_3, h0_4, h0_5, h0_6, h0_7, h0_8, h0_9, h0_10, h0_11, h0_12, h0_13, h0_14, h0_15, h0_16, h0_17, h0_18, h0_19, h0_20, h0_21, h0_22, .int 0, h0_24, h0_25, h0_26, h0_27, h0_28, h0_29, h0_30, h0_31, h0_32, h0_33, h0_34, h0_35, h0_36, h0_37, h0_38, h0_39, h0_40, h0_41, h0_42, h0_43, h0_44, h0_45, h0_46, h0_47, h0_48, h0_49, h0_50, h0_51, h0_52, h0_53, h0_54, h0_55, h0_56, h0_57, h0_58, h0_59, h0_60, h0_61, h0_62, h0_63, h0_64, h0_65, h0_66, h0_67, h0_68, h0_69]))] := hD
  refine lv_aload_n hx hb dX12_kept_5 rfl (lv_at hl 0 rfl) ?_
  refine lv_iload_n hx hb dX12_kept_6 rfl (lv_at hl 1 rfl) ?_
  have hPc := hP.sub (ws' := [(h0, .inr (12, [h0_0, h0_1, .int 0, h0_3, h0_4, h0_5, h0_6, h0_7, h0_8, h0_9, h0_10, h0_11, h0_12, h0_13, h0_14, h0_15, h0_16, h0_17, h0_18, h0_19, h0_20, h0_21, h0_22, .int 0, h0_24, h0_25, h0_26, h0_27, h0_28, h0_29, h0_30, h0_31, h0_32, h0_33, h0_34, h0_35, h0_36, h0_37, h0_38, h0_39, h0_40, h0_41, h0_42, h0_43, h0_44, h0_45, h0_46, h0_47, h0_48, h0_49, h0_50, h0_51, h0_52, h0_53, h0_54, h0_55, h0_56, h0_57, h0_58, h0_59, h0_60, h0_61, h0_62, h0_63, h0_64, h0_65, h0_66, h0_67, h0_68, h0_69]))]) [0] rfl
  have hDc := hD.sub (ws' := [(h0, .inr (12, [h0_0, h0_1, .int 0, h0_3, h0_4, h0_5, h0_6, h0_7, h0_8, h0_9, h0_10, h0_11, h0_12, h0_13, h0_14, h0_15, h0_16, h0_17, h0_18, h0_19, h0_20, h0_21, h0_22, .int 0, h0_24, h0_25, h0_26, h0_27, h0_28, h0_29, h0_30, h0_31, h0_32, h0_33, h0_34, h0_35, h0_36, h0_37, h0_38, h0_39, h0_40, h0_41, h0_42, h0_43, h0_44, h0_45, h0_46, h0_47, h0_48, h0_49, h0_50, h0_51, h0_52, h0_53, h0_54, h0_55, h0_56, h0_57, h0_58, h0_59, h0_60, h0_61, h0_62, h0_63, h0_64, h0_65, h0_66, h0_67, h0_68, h0_69]))]) [0] (by decide) rfl
  have hKc := hK.sub (tys' := []) [] rfl
  have hFc := va_free (ws := []) (wc := []) (z_D0 _) hS hA [] rfl
  refine va_calli (va_runV (As := [.int p1]) (rest := []) ⟨hx, hb, hml, hown, hts⟩ (c_X12_isKind l dC dI H_1.size h0 p1 h0_0 h0_1 (.int 0) h0_3 h0_4 h0_5 h0_6 h0_7 h0_8 h0_9 h0_10 h0_11 h0_12 h0_13 h0_14 h0_15 h0_16 h0_17 h0_18 h0_19 h0_20 h0_21 h0_22 h0_24 h0_25 h0_26 h0_27 h0_28 h0_29 h0_30 h0_31 h0_32 h0_33 h0_34 h0_35 h0_36 h0_37 h0_38 h0_39 h0_40 h0_41 h0_42 h0_43 h0_44 h0_45 h0_46 h0_47 h0_48 h0_49 h0_50 h0_51 h0_52 h0_53 h0_54 h0_55 h0_56 h0_57 h0_58 h0_59 h0_60 h0_61 h0_62 h0_63 h0_64 h0_65 h0_66 h0_67 h0_68 h0_69) (cwV 1 hts gw_c_X12_kept_c_X12_isKind_195 rfl rfl rfl (by decide +kernel) ⟨Nat.le_of_ble_eq_true rfl, Nat.le_of_ble_eq_true rfl⟩) ⟨z_blind, va_recv hKc hPc (ci := 12) (q0 := 0) rfl rfl, z_pre hPc hKc hDc⟩ rfl rfl hl.1 rfl (lv_room (Nat.le_of_ble_eq_true rfl)) dX12_kept_7 ⟨Nat.le_of_ble_eq_true rfl, Nat.le_of_ble_eq_true rfl⟩) hS (fun q _ h => hFc q h) hFc (fun r_3 u t H_2 locs ht hvm hw_4 hB hz1 hk1 hS => ?_)
  have hP := z_pure hP hk1
  have hP : va_P (dC, dI) vwCl [(h0, .inr (12, [h0_0, h0_1, .int 0, h0_3, h0_4, h0_5, h0_6, h0_7, h0_8, h0_9, h0_10, h0_11, h0_12, h0_13, h0_14, h0_15, h0_16, h0_17, h0_18, h0_19, h0_20, h0_21, h0_22, .int 0, h0_24, h0_25, h0_26, h0_27, h0_28, h0_29, h0_30, h0_31, h0_32, h0_33, h0_34, h0_35, h0_36, h0_37, h0_38, h0_39, h0_40, h0_41, h0_42, h0_43, h0_44, h0_45, h0_46, h0_47, h0_48, h0_49, h0_50, h0_51, h0_52, h0_53, h0_54, h0_55, h0_56, h0_57, h0_58, h0_59, h0_60, h0_61, h0_62, h0_63, h0_64, h0_65, h0_66, h0_67, h0_68, h0_69]))] H_2 := hP
  have hD : va_D A [(h0, .inr (12, [h0_0, h0_1, .int 0, h0_3, h0_4, h0_5, h0_6, h0_7, h0_8, h0_9, h0_10, h0_11, h0_12, h0_13, h0_14, h0_15, h0_16, h0_17, h0_18, h0_19, h0_20, h0_21, h0_22, .int 0, h0_24, h0_25, h0_26, h0_27, h0_28, h0_29, h0_30, h0_31, h0_32, h0_33, h0_34, h0_35, h0_36, h0_37, h0_38, h0_39, h0_40, h0_41, h0_42, h0_43, h0_44, h0_45, h0_46, h0_47, h0_48, h0_49, h0_50, h0_51, h0_52, h0_53, h0_54, h0_55, h0_56, h0_57, h0_58, h0_59, h0_60, h0_61, h0_62, h0_63, h0_64, h0_65, h0_66, h0_67, h0_68, h0_69]))] := hD
  clear hPc hDc hKc
  obtain rfl : r_3 = 0 := hw_4
  refine lv_if_eq (tgt := 33) hx hb dX12_kept_10 (by decide) (fun _ => ?_) (fun c_5 => absurd (by decide) c_5)
  refine lv_iconst (v := 0) hx hb dX12_kept_33 (by decide) ?_
  refine W.widen (k := 0) (n := 0) (Nat.le_of_ble_eq_true rfl) (Nat.le_of_ble_eq_true rfl) ?_
  exact W.zret (v := 0) hx hb hr (by rfl) (fun t ht hW => ⟨⟨0, (), rfl, rfl, trivial⟩, hS.F ht⟩) hS.2.2 dX12_kept_34
def u_c_X12_finds : List Cond := .code yX12_finds cX12_finds 3 (some .int) :: ([.fieldLink RX12 145 "ShellHeapModel" "thrown" "I", .fieldLink RX12 148 "ShellHeapModel" "tapeSize" "I", .methodLink RX12 157 yX12_isLayer, .instanceMethod yX12_isLayer, .selects RX12 yX12_isLayer yX12_isLayer, .initialized RX12, .code yX12_isLayer cX12_isLayer 2 (some .boolean), .fieldLink RX12 151 "ShellHeapModel" "layers" "I"] ++ wsX120)
set_option maxRecDepth 20000 in
theorem gw_c_X12_finds_c_X12_isLayer_157 : GoodIn u_c_X12_finds (wsV RX12 157 RX12 yX12_isLayer u_c_X12_isLayer) := goodIn_r _ [3, 4, 5, 6, 7, 8, 9, 10, 11, 12, 13, 14, 15, 16, 17, 18, 19, 20, 21, 22, 23, 24, 25, 26, 27, 28, 29, 30, 31, 32, 33, 34, 35, 36, 37, 38, 39, 40, 41, 42, 43, 44, 45, 46, 47, 48, 49, 50, 51, 52, 53, 54, 55, 56, 57, 58, 59, 60, 61, 62, 63, 64, 65, 66, 67, 68, 69, 70, 71, 72, 73, 74, 75, 76, 77, 78] (by decide +kernel) (by decide +kernel)
set_option maxHeartbeats 4000000 in
set_option maxRecDepth 100000 in
theorem c_X12_finds (l : Launch) (dC : Nat → ClassId) (dI : Nat → Nat → Nat) (sz : Nat) (h0 : Nat) (p1 : Int32) (p2 : Int32) (h0_0 : Value) (h0_2 : Value) (h0_5 : Value) (h0_6 : Value) (h0_7 : Value) (h0_8 : Value) (h0_9 : Value) (h0_10 : Value) (h0_11 : Value) (h0_12 : Value) (h0_13 : Value) (h0_14 : Value) (h0_15 : Value) (h0_16 : Value) (h0_17 : Value) (h0_18 : Value) (h0_19 : Value) (h0_20 : Value) (h0_21 : Value) (h0_22 : Value) (h0_23 : Value) (h0_24 : Value) (h0_25 : Value) (h0_26 : Value) (h0_27 : Value) (h0_28 : Value) (h0_29 : Value) (h0_30 : Value) (h0_31 : Value) (h0_32 : Value) (h0_33 : Value) (h0_34 : Value) (h0_35 : Value) (h0_36 : Value) (h0_37 : Value) (h0_38 : Value) (h0_39 : Value) (h0_40 : Value) (h0_41 : Value) (h0_42 : Value) (h0_43 : Value) (h0_44 : Value) (h0_45 : Value) (h0_46 : Value) (h0_47 : Value) (h0_48 : Value) (h0_49 : Value) (h0_50 : Value) (h0_51 : Value) (h0_52 : Value) (h0_53 : Value) (h0_54 : Value) (h0_55 : Value) (h0_56 : Value) (h0_57 : Value) (h0_58 : Value) (h0_59 : Value) (h0_60 : Value) (h0_61 : Value) (h0_62 : Value) (h0_63 : Value) (h0_64 : Value) (h0_65 : Value) (h0_66 : Value) (h0_67 : Value) (h0_68 : Value) (h0_69 : Value) : Met l yX12_finds u_c_X12_finds ({ frames := 1, cells := 0, slots := 0, locals := 21 }) (va_Pc [.ref h0, .int p1, .int p2] (z_C (dC, dI) vwCl [(h0, .inr (12, [h0_0, .int 0, h0_2, .int 0, .int 0, h0_5, h0_6, h0_7, h0_8, h0_9, h0_10, h0_11, h0_12, h0_13, h0_14, h0_15, h0_16, h0_17, h0_18, h0_19, h0_20, h0_21, h0_22, h0_23, h0_24, h0_25, h0_26, h0_27, h0_28, h0_29, h0_30, h0_31, h0_32, h0_33, h0_34, h0_35, h0_36, h0_37, h0_38, h0_39, h0_40, h0_41, h0_42, h0_43, h0_44, h0_45, h0_46, h0_47, h0_48, h0_49, h0_50, h0_51, h0_52, h0_53, h0_54, h0_55, h0_56, h0_57, h0_58, h0_59, h0_60, h0_61, h0_62, h0_63, h0_64, h0_65, h0_66, h0_67, h0_68, h0_69]))] [] sz)) (va_Qi (fun (r : Int32) (_ : Unit) => r = (-2)) (fun (_ : Unit) (_ : State) => True) (va_A [(h0, .inr (12, [h0_0, .int 0, h0_2, .int 0, .int 0, h0_5, h0_6, h0_7, h0_8, h0_9, h0_10, h0_11, h0_12, h0_13, h0_14, h0_15, h0_16, h0_17, h0_18, h0_19, h0_20, h0_21, h0_22, h0_23, h0_24, h0_25, h0_26, h0_27, h0_28, h0_29, h0_30, h0_31, h0_32, h0_33, h0_34, h0_35, h0_36, h0_37, h0_38, h0_39, h0_40, h0_41, h0_42, h0_43, h0_44, h0_45, h0_46, h0_47, h0_48, h0_49, h0_50, h0_51, h0_52, h0_53, h0_54, h0_55, h0_56, h0_57, h0_58, h0_59, h0_60, h0_61, h0_62, h0_63, h0_64, h0_65, h0_66, h0_67, h0_68, h0_69]))] sz)) 0 0 (va_A [(h0, .inr (12, [h0_0, .int 0, h0_2, .int 0, .int 0, h0_5, h0_6, h0_7, h0_8, h0_9, h0_10, h0_11, h0_12, h0_13, h0_14, h0_15, h0_16, h0_17, h0_18, h0_19, h0_20, h0_21, h0_22, h0_23, h0_24, h0_25, h0_26, h0_27, h0_28, h0_29, h0_30, h0_31, h0_32, h0_33, h0_34, h0_35, h0_36, h0_37, h0_38, h0_39, h0_40, h0_41, h0_42, h0_43, h0_44, h0_45, h0_46, h0_47, h0_48, h0_49, h0_50, h0_51, h0_52, h0_53, h0_54, h0_55, h0_56, h0_57, h0_58, h0_59, h0_60, h0_61, h0_62, h0_63, h0_64, h0_65, h0_66, h0_67, h0_68, h0_69]))] sz) := by
  refine Met.ofW (cc := cX12_finds) (maxL := 3) (ret := (some .int)) (by decide) rfl ?_
  intro p e s m args below meth c s₁ B hml hv
  obtain ⟨rfl, hsz, hP, hK, hD0⟩ := hv
  have hx := B.exec
  have hb := B.bytes
  have hr := B.returns
  have hts := atoms_spec (ws := u_c_X12_finds) B.pre
  have hown : s.vm.findClass RX12 = some m.cls := findClass_of_methodNamed B.named
  have hlocks := B.notSynchronized
  subst hsz
  have hD := hD0.self (sz := s.heap.size)
  generalize hAe : va_A [(h0, .inr (12, [h0_0, .int 0, h0_2, .int 0, .int 0, h0_5, h0_6, h0_7, h0_8, h0_9, h0_10, h0_11, h0_12, h0_13, h0_14, h0_15, h0_16, h0_17, h0_18, h0_19, h0_20, h0_21, h0_22, h0_23, h0_24, h0_25, h0_26, h0_27, h0_28, h0_29, h0_30, h0_31, h0_32, h0_33, h0_34, h0_35, h0_36, h0_37, h0_38, h0_39, h0_40, h0_41, h0_42, h0_43, h0_44, h0_45, h0_46, h0_47, h0_48, h0_49, h0_50, h0_51, h0_52, h0_53, h0_54, h0_55, h0_56, h0_57, h0_58, h0_59, h0_60, h0_61, h0_62, h0_63, h0_64, h0_65, h0_66, h0_67, h0_68, h0_69]))] s.heap.size = A at hD ⊢
  have hA : ∀ q : Nat, s.heap.size ≤ q → A q := fun q h => by rw [← hAe]; exact Or.inr h
  have hS : va_S A s.heap s.heap [] := va_S.rf
  have hP : va_P (dC, dI) vwCl [(h0, .inr (12, [h0_0, .int 0, h0_2, .int 0, .int 0, h0_5, h0_6, h0_7, h0_8, h0_9, h0_10, h0_11, h0_12, h0_13, h0_14, h0_15, h0_16, h0_17, h0_18, h0_19, h0_20, h0_21, h0_22, h0_23, h0_24, h0_25, h0_26, h0_27, h0_28, h0_29, h0_30, h0_31, h0_32, h0_33, h0_34, h0_35, h0_36, h0_37, h0_38, h0_39, h0_40, h0_41, h0_42, h0_43, h0_44, h0_45, h0_46, h0_47, h0_48, h0_49, h0_50, h0_51, h0_52, h0_53, h0_54, h0_55, h0_56, h0_57, h0_58, h0_59, h0_60, h0_61, h0_62, h0_63, h0_64, h0_65, h0_66, h0_67, h0_68, h0_69]))] s.heap := hP
  have w__fieldLink_RX12_145_ShellHeapModel_thrown_I_ := hts (.fieldLink RX12 145 "ShellHeapModel" "thrown" "I") (by decide +kernel)
  have hiX12 := show ∀ w ∈ u_ws RX12 TX12 70, w ∈ u_c_X12_finds by decide +kernel
  have w__fieldLink_RX12_148_ShellHeapModel_tapeSize_I_ := hts (.fieldLink RX12 148 "ShellHeapModel" "tapeSize" "I") (by decide +kernel)
  have hl := lv_entry ([.ref h0, .int p1, .int p2]) (n := 3) (Nat.le_of_ble_eq_true rfl)
  rw [lg_entry_eq]
  generalize (lg_sl ([.ref h0, .int p1, .int p2]) ++ List.replicate (3 - (lg_sl ([.ref h0, .int p1, .int p2])).length) Slot.unset).toArray = ls at hl ⊢
  have hl : lv_has ls 3 [(0, .ref h0), (1, .int p1), (2, .int p2)] := hl
  refine lv_aload_n hx hb dX12_finds_0 rfl (lv_at hl 0 rfl) ?_
  refine lv_iconst (v := 0) hx hb dX12_finds_1 (by decide) ?_
  refine va_put (D := (dC, dI)) (ci := 12) (v := .int 0) (ty := .int) (C := RX12) (T := TX12) (N := 70) hx hb hts hiX12 tyX12 tyX12_ok nmX12 hown hK hP hD hS 0 rfl rfl 2 (by decide) w__fieldLink_RX12_145_ShellHeapModel_thrown_I_ (fun _ h9 => h9) rfl (by decide +kernel) rfl rfl (Nat.le_of_ble_eq_true rfl) dX12_finds_2 (fun H_1 locs hP hD hS => ?_)
  have hP : va_P (dC, dI) vwCl [(h0, .inr (12, [h0_0, .int 0, .int 0, .int 0, .int 0, h0_5, h0_6, h0_7, h0_8, h0_9, h0_10, h0_11, h0_12, h0_13, h0_14, h0_15, h0_16, h0_17, h0_18, h0_19, h0_20, h0_21, h0_22, h0_23, h0_24, h0_25, h0_26, h0_27, h0_28, h0_29, h0_30, h0_31, h0_32, h0_33, h0_34, h0_35, h0_36, h0_37, h0_38, h0_39, h0_40, h0_41, h0_42, h0_43, h0_44, h0_45, h0_46, h0_47, h0_48, h0_49, h0_50, h0_51, h0_52, h0_53, h0_54, h0_55, h0_56, h0_57, h0_58, h0_59, h0_60, h0_61, h0_62, h0_63, h0_64, h0_65, h0_66, h0_67, h0_68, h0_69]))] H_1 := hP
  have hD : va_D A [(h0, .inr (12, [h0_0, .int 0, .int 0, .int 0, .int 0, h0_5, h0_6, h0_7, h0_8, h0_9, h0_10, h0_11, h0_12, h0_13, h0_14, h0_15, h0_16, h0_17, h0_18, h0_19, h0_20, h0_21, h0_22, h0_23, h0_24, h0_25, h0_26, h0_27, h0_28, h0_29, h0_30, h0_31, h0_32, h0_33, h0_34, h0_35, h0_36, h0_37, h0_38, h0_39, h0_40, h0_41, h0_42, h0_43, h0_44, h0_45, h0_46, h0_47, h0_48, h0_49, h0_50, h0_51, h0_52, h0_53, h0_54, h0_55, h0_56, h0_57, h0_58, h0_59, h0_60, h0_61, h0_62, h0_63, h0_64, h0_65, h0_66, h0_67, h0_68, h0_69]))] := hD
  refine lv_iload_n hx hb dX12_finds_5 rfl (lv_at hl 1 rfl) ?_
  refine lv_if_lt (tgt := 34) hx hb dX12_finds_6 (by decide) (fun c_2 => ?_) (fun c_2 => ?_)
  · have k_3 : (p1).toInt < (0 : Int) := z_lt c_2
    refine lv_bipush (v := (-2)) hx hb dX12_finds_34 (by decide) ?_
    refine W.widen (k := 0) (n := 0) (Nat.le_of_ble_eq_true rfl) (Nat.le_of_ble_eq_true rfl) ?_
    exact W.iret (v := (-2)) hx hb hr (fun t ht hW => ⟨⟨(-2), (), rfl, rfl, trivial⟩, hS.F ht⟩) hS.2.2 dX12_finds_36
  · have k_4 : (p1).toInt ≥ (0 : Int) := z_nlt c_2
    refine lv_iload_n hx hb dX12_finds_9 rfl (lv_at hl 1 rfl) ?_
    refine lv_aload_n hx hb dX12_finds_10 rfl (lv_at hl 0 rfl) ?_
    refine va_get (D := (dC, dI)) (ci := 12) (v := .int 0) (C := RX12) (T := TX12) (N := 70) hx hb hts hiX12 hown hK hP 0 rfl rfl 1 (by decide) w__fieldLink_RX12_148_ShellHeapModel_tapeSize_I_ (fun _ h9 => h9) rfl dX12_finds_11 ?_
    refine lv_icmp_gt (tgt := 34) hx hb dX12_finds_14 (by decide) (fun c_5 => ?_) (fun c_5 => ?_)
    · have k_6 : (0 : Int) < (p1).toInt := z_lt c_5
      refine lv_bipush (v := (-2)) hx hb dX12_finds_34 (by decide) ?_
      refine W.widen (k := 0) (n := 0) (Nat.le_of_ble_eq_true rfl) (Nat.le_of_ble_eq_true rfl) ?_
      exact W.iret (v := (-2)) hx hb hr (fun t ht hW => ⟨⟨(-2), (), rfl, rfl, trivial⟩, hS.F ht⟩) hS.2.2 dX12_finds_36
    · have k_7 : (0 : Int) ≥ (p1).toInt := z_nlt c_5
      obtain rfl : p1 = 0 := z_eq' (show (p1).toInt = (0 : Int) by omega)
      refine lv_aload_n hx hb dX12_finds_17 rfl (lv_at hl 0 rfl) ?_
      refine lv_iload_n hx hb dX12_finds_18 rfl (lv_at hl 2 rfl) ?_
      have hPc := hP.sub (ws' := [(h0, .inr (12, [h0_0, .int 0, .int 0, .int 0, .int 0, h0_5, h0_6, h0_7, h0_8, h0_9, h0_10, h0_11, h0_12, h0_13, h0_14, h0_15, h0_16, h0_17, h0_18, h0_19, h0_20, h0_21, h0_22, h0_23, h0_24, h0_25, h0_26, h0_27, h0_28, h0_29, h0_30, h0_31, h0_32, h0_33, h0_34, h0_35, h0_36, h0_37, h0_38, h0_39, h0_40, h0_41, h0_42, h0_43, h0_44, h0_45, h0_46, h0_47, h0_48, h0_49, h0_50, h0_51, h0_52, h0_53, h0_54, h0_55, h0_56, h0_57, h0_58, h0_59, h0_60, h0_61, h0_62, h0_63, h0_64, h0_65, h0_66, h0_67, h0_68, h0_69]))]) [0] rfl
      have hDc := hD.sub (ws' := [(h0, .inr (12, [h0_0, .int 0, .int 0, .int 0, .int 0, h0_5, h0_6, h0_7, h0_8, h0_9, h0_10, h0_11, h0_12, h0_13, h0_14, h0_15, h0_16, h0_17, h0_18, h0_19, h0_20, h0_21, h0_22, h0_23, h0_24, h0_25, h0_26, h0_27, h0_28, h0_29, h0_30, h0_31, h0_32, h0_33, h0_34, h0_35, h0_36, h0_37, h0_38, h0_39, h0_40, h0_41, h0_42, h0_43, h0_44, h0_45, h0_46, h0_47, h0_48, h0_49, h0_50, h0_51, h0_52, h0_53, h0_54, h0_55, h0_56, h0_57, h0_58, h0_59, h0_60, h0_61, h0_62, h0_63, h0_64, h0_65, h0_66, h0_67, h0_68, h0_69]))]) [0] (by decide) rfl
      have hKc := hK.sub (tys' := []) [] rfl
      have hFc := va_free (ws := []) (wc := []) (z_D0 _) hS hA [] rfl
      refine va_calli (va_runV (As := [.int p2]) (rest := []) ⟨hx, hb, hml, hown, hts⟩ (c_X12_isLayer l dC dI H_1.size h0 p2 h0_0 (.int 0) (.int 0) (.int 0) h0_5 h0_6 h0_7 h0_8 h0_9 h0_10 h0_11 h0_12 h0_13 h0_14 h0_15 h0_16 h0_17 h0_18 h0_19 h0_20 h0_21 h0_22 h0_23 h0_24 h0_25 h0_26 h0_27 h0_28 h0_29 h0_30 h0_31 h0_32 h0_33 h0_34 h0_35 h0_36 h0_37 h0_38 h0_39 h0_40 h0_41 h0_42 h0_43 h0_44 h0_45 h0_46 h0_47 h0_48 h0_49 h0_50 h0_51 h0_52 h0_53 h0_54 h0_55 h0_56 h0_57 h0_58 h0_59 h0_60 h0_61 h0_62 h0_63 h0_64 h0_65 h0_66 h0_67 h0_68 h0_69) (cwV 1 hts gw_c_X12_finds_c_X12_isLayer_157 rfl rfl rfl (by decide +kernel) ⟨Nat.le_of_ble_eq_true rfl, Nat.le_of_ble_eq_true rfl⟩) ⟨z_blind, va_recv hKc hPc (ci := 12) (q0 := 0) rfl rfl, z_pre hPc hKc hDc⟩ rfl rfl hl.1 rfl (lv_room (Nat.le_of_ble_eq_true rfl)) dX12_finds_19 ⟨Nat.le_of_ble_eq_true rfl, Nat.le_of_ble_eq_true rfl⟩) hS (fun q _ h => hFc q h) hFc (fun r_9 u t H_8 locs ht hvm hw_10 hB hz1 hk1 hS => ?_)
      have hP := z_pure hP hk1
      have hP : va_P (dC, dI) vwCl [(h0, .inr (12, [h0_0, .int 0, .int 0, .int 0, .int 0, h0_5, h0_6, h0_7, h0_8, h0_9, h0_10, h0_11, h0_12, h0_13, h0_14, h0_15, h0_16, h0_17, h0_18, h0_19, h0_20, h0_21, h0_22, h0_23, h0_24, h0_25, h0_26, h0_27, h0_28, h0_29, h0_30, h0_31, h0_32, h0_33, h0_34, h0_35, h0_36, h0_37, h0_38, h0_39, h0_40, h0_41, h0_42, h0_43, h0_44, h0_45, h0_46, h0_47, h0_48, h0_49, h0_50, h0_51, h0_52, h0_53, h0_54, h0_55, h0_56, h0_57, h0_58, h0_59, h0_60, h0_61, h0_62, h0_63, h0_64, h0_65, h0_66, h0_67, h0_68, h0_69]))] H_8 := hP
      have hD : va_D A [(h0, .inr (12, [h0_0, .int 0, .int 0, .int 0, .int 0, h0_5, h0_6, h0_7, h0_8, h0_9, h0_10, h0_11, h0_12, h0_13, h0_14, h0_15, h0_16, h0_17, h0_18, h0_19, h0_20, h0_21, h0_22, h0_23, h0_24, h0_25, h0_26, h0_27, h0_28, h0_29, h0_30, h0_31, h0_32, h0_33, h0_34, h0_35, h0_36, h0_37, h0_38, h0_39, h0_40, h0_41, h0_42, h0_43, h0_44, h0_45, h0_46, h0_47, h0_48, h0_49, h0_50, h0_51, h0_52, h0_53, h0_54, h0_55, h0_56, h0_57, h0_58, h0_59, h0_60, h0_61, h0_62, h0_63, h0_64, h0_65, h0_66, h0_67, h0_68, h0_69]))] := hD
      clear hPc hDc hKc
      obtain rfl : r_9 = 0 := hw_10
      refine lv_if_eq (tgt := 34) hx hb dX12_finds_22 (by decide) (fun _ => ?_) (fun c_11 => absurd (by decide) c_11)
      refine lv_bipush (v := (-2)) hx hb dX12_finds_34 (by decide) ?_
      refine W.widen (k := 0) (n := 0) (Nat.le_of_ble_eq_true rfl) (Nat.le_of_ble_eq_true rfl) ?_
      exact W.iret (v := (-2)) hx hb hr (fun t ht hW => ⟨⟨(-2), (), rfl, rfl, trivial⟩, hS.F ht⟩) hS.2.2 dX12_finds_36
def u_c_X12_fault : List Cond := .code yX12_fault cX12_fault 2 (some .int) :: ([.fieldLink RX12 145 "ShellHeapModel" "thrown" "I", .fieldLink RX12 75 "ShellHeapModel" "faultPlace" "I", .fieldLink RX12 198 "ShellHeapModel" "fault" "I"] ++ wsX120)
set_option maxHeartbeats 4000000 in
set_option maxRecDepth 100000 in
theorem c_X12_fault (l : Launch) (dC : Nat → ClassId) (dI : Nat → Nat → Nat) (sz : Nat) (h0 : Nat) (p1 : Int32) (h0_0 : Value) (h0_1 : Value) (h0_2 : Value) (h0_3 : Value) (h0_4 : Value) (h0_5 : Value) (h0_6 : Value) (h0_7 : Value) (h0_8 : Value) (h0_9 : Value) (h0_10 : Value) (h0_11 : Value) (h0_12 : Value) (h0_13 : Value) (h0_14 : Value) (h0_15 : Value) (h0_16 : Value) (h0_17 : Value) (h0_18 : Value) (h0_19 : Value) (h0_20 : Value) (h0_21 : Value) (h0_22 : Value) (h0_23 : Value) (h0_24 : Value) (h0_25 : Value) (h0_26 : Value) (h0_27 : Value) (h0_30 : Value) (h0_31 : Value) (h0_32 : Value) (h0_33 : Value) (h0_34 : Value) (h0_35 : Value) (h0_36 : Value) (h0_37 : Value) (h0_38 : Value) (h0_39 : Value) (h0_40 : Value) (h0_41 : Value) (h0_42 : Value) (h0_43 : Value) (h0_44 : Value) (h0_45 : Value) (h0_46 : Value) (h0_47 : Value) (h0_48 : Value) (h0_49 : Value) (h0_50 : Value) (h0_51 : Value) (h0_52 : Value) (h0_53 : Value) (h0_54 : Value) (h0_55 : Value) (h0_56 : Value) (h0_57 : Value) (h0_58 : Value) (h0_59 : Value) (h0_60 : Value) (h0_61 : Value) (h0_62 : Value) (h0_63 : Value) (h0_64 : Value) (h0_65 : Value) (h0_66 : Value) (h0_67 : Value) (h0_68 : Value) (h0_69 : Value) : Met l yX12_fault u_c_X12_fault ({ frames := 0, cells := 0, slots := 0, locals := 0 }) (va_Pc [.ref h0, .int p1] (z_C (dC, dI) vwCl [(h0, .inr (12, [h0_0, h0_1, h0_2, h0_3, h0_4, h0_5, h0_6, h0_7, h0_8, h0_9, h0_10, h0_11, h0_12, h0_13, h0_14, h0_15, h0_16, h0_17, h0_18, h0_19, h0_20, h0_21, h0_22, h0_23, h0_24, h0_25, h0_26, h0_27, .int 0, .int (-1), h0_30, h0_31, h0_32, h0_33, h0_34, h0_35, h0_36, h0_37, h0_38, h0_39, h0_40, h0_41, h0_42, h0_43, h0_44, h0_45, h0_46, h0_47, h0_48, h0_49, h0_50, h0_51, h0_52, h0_53, h0_54, h0_55, h0_56, h0_57, h0_58, h0_59, h0_60, h0_61, h0_62, h0_63, h0_64, h0_65, h0_66, h0_67, h0_68, h0_69]))] [] sz)) (va_Qi (fun (r : Int32) (_ : Unit) => r = v_fault p1) (fun (_ : Unit) (_ : State) => True) (va_A [(h0, .inr (12, [h0_0, h0_1, h0_2, h0_3, h0_4, h0_5, h0_6, h0_7, h0_8, h0_9, h0_10, h0_11, h0_12, h0_13, h0_14, h0_15, h0_16, h0_17, h0_18, h0_19, h0_20, h0_21, h0_22, h0_23, h0_24, h0_25, h0_26, h0_27, .int 0, .int (-1), h0_30, h0_31, h0_32, h0_33, h0_34, h0_35, h0_36, h0_37, h0_38, h0_39, h0_40, h0_41, h0_42, h0_43, h0_44, h0_45, h0_46, h0_47, h0_48, h0_49, h0_50, h0_51, h0_52, h0_53, h0_54, h0_55, h0_56, h0_57, h0_58, h0_59, h0_60, h0_61, h0_62, h0_63, h0_64, h0_65, h0_66, h0_67, h0_68, h0_69]))] sz)) 0 0 (va_A [(h0, .inr (12, [h0_0, h0_1, h0_2, h0_3, h0_4, h0_5, h0_6, h0_7, h0_8, h0_9, h0_10, h0_11, h0_12, h0_13, h0_14, h0_15, h0_16, h0_17, h0_18, h0_19, h0_20, h0_21, h0_22, h0_23, h0_24, h0_25, h0_26, h0_27, .int 0, .int (-1), h0_30, h0_31, h0_32, h0_33, h0_34, h0_35, h0_36, h0_37, h0_38, h0_39, h0_40, h0_41, h0_42, h0_43, h0_44, h0_45, h0_46, h0_47, h0_48, h0_49, h0_50, h0_51, h0_52, h0_53, h0_54, h0_55, h0_56, h0_57, h0_58, h0_59, h0_60, h0_61, h0_62, h0_63, h0_64, h0_65, h0_66, h0_67, h0_68, h0_69]))] sz) := by
  refine Met.ofW (cc := cX12_fault) (maxL := 2) (ret := (some .int)) (by decide) rfl ?_
  intro p e s m args below meth c s₁ B hml hv
  obtain ⟨rfl, hsz, hP, hK, hD0⟩ := hv
  have hx := B.exec
  have hb := B.bytes
  have hr := B.returns
  have hts := atoms_spec (ws := u_c_X12_fault) B.pre
  have hown : s.vm.findClass RX12 = some m.cls := findClass_of_methodNamed B.named
  have hlocks := B.notSynchronized
  subst hsz
  have hD := hD0.self (sz := s.heap.size)
  generalize hAe : va_A [(h0, .inr (12, [h0_0, h0_1, h0_2, h0_3, h0_4, h0_5, h0_6, h0_7, h0_8, h0_9, h0_10, h0_11, h0_12, h0_13, h0_14, h0_15, h0_16, h0_17, h0_18, h0_19, h0_20, h0_21, h0_22, h0_23, h0_24, h0_25, h0_26, h0_27, .int 0, .int (-1), h0_30, h0_31, h0_32, h0_33, h0_34, h0_35, h0_36, h0_37, h0_38, h0_39, h0_40, h0_41, h0_42, h0_43, h0_44, h0_45, h0_46, h0_47, h0_48, h0_49, h0_50, h0_51, h0_52, h0_53, h0_54, h0_55, h0_56, h0_57, h0_58, h0_59, h0_60, h0_61, h0_62, h0_63, h0_64, h0_65, h0_66, h0_67, h0_68, h0_69]))] s.heap.size = A at hD ⊢
  have hA : ∀ q : Nat, s.heap.size ≤ q → A q := fun q h => by rw [← hAe]; exact Or.inr h
  have hS : va_S A s.heap s.heap [] := va_S.rf
  have hP : va_P (dC, dI) vwCl [(h0, .inr (12, [h0_0, h0_1, h0_2, h0_3, h0_4, h0_5, h0_6, h0_7, h0_8, h0_9, h0_10, h0_11, h0_12, h0_13, h0_14, h0_15, h0_16, h0_17, h0_18, h0_19, h0_20, h0_21, h0_22, h0_23, h0_24, h0_25, h0_26, h0_27, .int 0, .int (-1), h0_30, h0_31, h0_32, h0_33, h0_34, h0_35, h0_36, h0_37, h0_38, h0_39, h0_40, h0_41, h0_42, h0_43, h0_44, h0_45, h0_46, h0_47, h0_48, h0_49, h0_50, h0_51, h0_52, h0_53, h0_54, h0_55, h0_56, h0_57, h0_58, h0_59, h0_60, h0_61, h0_62, h0_63, h0_64, h0_65, h0_66, h0_67, h0_68, h0_69]))] s.heap := hP
  have w__fieldLink_RX12_145_ShellHeapModel_thrown_I_ := hts (.fieldLink RX12 145 "ShellHeapModel" "thrown" "I") (by decide +kernel)
  have hiX12 := show ∀ w ∈ u_ws RX12 TX12 70, w ∈ u_c_X12_fault by decide +kernel
  have w__fieldLink_RX12_75_ShellHeapModel_faultPlace_I_ := hts (.fieldLink RX12 75 "ShellHeapModel" "faultPlace" "I") (by decide +kernel)
  have w__fieldLink_RX12_198_ShellHeapModel_fault_I_ := hts (.fieldLink RX12 198 "ShellHeapModel" "fault" "I") (by decide +kernel)
  have hl := lv_entry ([.ref h0, .int p1]) (n := 2) (Nat.le_of_ble_eq_true rfl)
  rw [lg_entry_eq]
  generalize (lg_sl ([.ref h0, .int p1]) ++ List.replicate (2 - (lg_sl ([.ref h0, .int p1])).length) Slot.unset).toArray = ls at hl ⊢
  have hl : lv_has ls 2 [(0, .ref h0), (1, .int p1)] := hl
  refine lv_aload_n hx hb dX12_fault_0 rfl (lv_at hl 0 rfl) ?_
  refine lv_iconst (v := 0) hx hb dX12_fault_1 (by decide) ?_
  refine va_put (D := (dC, dI)) (ci := 12) (v := .int 0) (ty := .int) (C := RX12) (T := TX12) (N := 70) hx hb hts hiX12 tyX12 tyX12_ok nmX12 hown hK hP hD hS 0 rfl rfl 2 (by decide) w__fieldLink_RX12_145_ShellHeapModel_thrown_I_ (fun _ h9 => h9) rfl (by decide +kernel) rfl rfl (Nat.le_of_ble_eq_true rfl) dX12_fault_2 (fun H_1 locs hP hD hS => ?_)
  have hP : va_P (dC, dI) vwCl [(h0, .inr (12, [h0_0, h0_1, .int 0, h0_3, h0_4, h0_5, h0_6, h0_7, h0_8, h0_9, h0_10, h0_11, h0_12, h0_13, h0_14, h0_15, h0_16, h0_17, h0_18, h0_19, h0_20, h0_21, h0_22, h0_23, h0_24, h0_25, h0_26, h0_27, .int 0, .int (-1), h0_30, h0_31, h0_32, h0_33, h0_34, h0_35, h0_36, h0_37, h0_38, h0_39, h0_40, h0_41, h0_42, h0_43, h0_44, h0_45, h0_46, h0_47, h0_48, h0_49, h0_50, h0_51, h0_52, h0_53, h0_54, h0_55, h0_56, h0_57, h0_58, h0_59, h0_60, h0_61, h0_62, h0_63, h0_64, h0_65, h0_66, h0_67, h0_68, h0_69]))] H_1 := hP
  have hD : va_D A [(h0, .inr (12, [h0_0, h0_1, .int 0, h0_3, h0_4, h0_5, h0_6, h0_7, h0_8, h0_9, h0_10, h0_11, h0_12, h0_13, h0_14, h0_15, h0_16, h0_17, h0_18, h0_19, h0_20, h0_21, h0_22, h0_23, h0_24, h0_25, h0_26, h0_27, .int 0, .int (-1), h0_30, h0_31, h0_32, h0_33, h0_34, h0_35, h0_36, h0_37, h0_38, h0_39, h0_40, h0_41, h0_42, h0_43, h0_44, h0_45, h0_46, h0_47, h0_48, h0_49, h0_50, h0_51, h0_52, h0_53, h0_54, h0_55, h0_56, h0_57, h0_58, h0_59, h0_60, h0_61, h0_62, h0_63, h0_64, h0_65, h0_66, h0_67, h0_68, h0_69]))] := hD
  refine lv_iload_n hx hb dX12_fault_5 rfl (lv_at hl 1 rfl) ?_
  refine lv_if_ne (tgt := 16) hx hb dX12_fault_6 (by decide) (fun c_2 => ?_) (fun c_2 => ?_)
  · have k_3 : (p1).toInt ≠ (0 : Int) := z_ne c_2
    refine lv_iload_n hx hb dX12_fault_16 rfl (lv_at hl 1 rfl) ?_
    refine lv_iconst (v := 1) hx hb dX12_fault_17 (by decide) ?_
    refine lv_icmp_ne (tgt := 28) hx hb dX12_fault_18 (by decide) (fun c_4 => ?_) (fun c_4 => ?_)
    · have k_5 : (p1).toInt ≠ (1 : Int) := z_ne c_4
      refine lv_iconst (v := (-1)) hx hb dX12_fault_28 (by decide) ?_
      refine W.widen (k := 0) (n := 0) (Nat.le_of_ble_eq_true rfl) (Nat.le_of_ble_eq_true rfl) ?_
      exact W.iret (v := (-1)) hx hb hr (fun t ht hW => ⟨⟨(-1), (), rfl, (by first | (unfold v_fault; rw [if_pos (by omega)]) | (unfold v_fault; rw [if_neg (by omega)]) | decide), trivial⟩, hS.F ht⟩) hS.2.2 dX12_fault_29
    · have k_6 : (p1).toInt = (1 : Int) := z_eq c_4
      obtain rfl : p1 = 1 := z_eq' (show (p1).toInt = (1 : Int) by omega)
      refine lv_aload_n hx hb dX12_fault_21 rfl (lv_at hl 0 rfl) ?_
      refine va_get (D := (dC, dI)) (ci := 12) (v := .int (-1)) (C := RX12) (T := TX12) (N := 70) hx hb hts hiX12 hown hK hP 0 rfl rfl 29 (by decide) w__fieldLink_RX12_75_ShellHeapModel_faultPlace_I_ (fun _ h9 => h9) rfl dX12_fault_22 ?_
      refine lv_goto (tgt := 29) hx hb dX12_fault_25 (by decide) ?_
      refine W.widen (k := 0) (n := 0) (Nat.le_of_ble_eq_true rfl) (Nat.le_of_ble_eq_true rfl) ?_
      exact W.iret (v := (-1)) hx hb hr (fun t ht hW => ⟨⟨(-1), (), rfl, (by first | (unfold v_fault; rw [if_pos (by omega)]) | (unfold v_fault; rw [if_neg (by omega)]) | decide), trivial⟩, hS.F ht⟩) hS.2.2 dX12_fault_29
  · have k_7 : (p1).toInt = (0 : Int) := z_eq c_2
    obtain rfl : p1 = 0 := z_eq' (show (p1).toInt = (0 : Int) by omega)
    refine lv_aload_n hx hb dX12_fault_9 rfl (lv_at hl 0 rfl) ?_
    refine va_get (D := (dC, dI)) (ci := 12) (v := .int 0) (C := RX12) (T := TX12) (N := 70) hx hb hts hiX12 hown hK hP 0 rfl rfl 28 (by decide) w__fieldLink_RX12_198_ShellHeapModel_fault_I_ (fun _ h9 => h9) rfl dX12_fault_10 ?_
    refine lv_goto (tgt := 29) hx hb dX12_fault_13 (by decide) ?_
    refine W.widen (k := 0) (n := 0) (Nat.le_of_ble_eq_true rfl) (Nat.le_of_ble_eq_true rfl) ?_
    exact W.iret (v := 0) hx hb hr (fun t ht hW => ⟨⟨0, (), rfl, (by first | (unfold v_fault; rw [if_pos (by omega)]) | (unfold v_fault; rw [if_neg (by omega)]) | decide), trivial⟩, hS.F ht⟩) hS.2.2 dX12_fault_29
def u_c_X12_eaten : List Cond := .code yX12_eaten cX12_eaten 5 (some .long) :: ([.fieldLink RX12 145 "ShellHeapModel" "thrown" "I", .methodLink RX12 157 yX12_isLayer, .instanceMethod yX12_isLayer, .selects RX12 yX12_isLayer yX12_isLayer, .initialized RX12, .code yX12_isLayer cX12_isLayer 2 (some .boolean), .fieldLink RX12 151 "ShellHeapModel" "layers" "I", .constantLong RX12 274 (-1)] ++ wsX120)
set_option maxRecDepth 20000 in
theorem gw_c_X12_eaten_c_X12_isLayer_157 : GoodIn u_c_X12_eaten (wsV RX12 157 RX12 yX12_isLayer u_c_X12_isLayer) := goodIn_r _ [2, 3, 4, 5, 6, 7, 9, 10, 11, 12, 13, 14, 15, 16, 17, 18, 19, 20, 21, 22, 23, 24, 25, 26, 27, 28, 29, 30, 31, 32, 33, 34, 35, 36, 37, 38, 39, 40, 41, 42, 43, 44, 45, 46, 47, 48, 49, 50, 51, 52, 53, 54, 55, 56, 57, 58, 59, 60, 61, 62, 63, 64, 65, 66, 67, 68, 69, 70, 71, 72, 73, 74, 75, 76, 77, 78] (by decide +kernel) (by decide +kernel)
set_option maxHeartbeats 4000000 in
set_option maxRecDepth 100000 in
theorem c_X12_eaten (l : Launch) (dC : Nat → ClassId) (dI : Nat → Nat → Nat) (sz : Nat) (h0 : Nat) (p1 : Int32) (p2 : Int32) (p3 : Int32) (h0_0 : Value) (h0_1 : Value) (h0_2 : Value) (h0_5 : Value) (h0_6 : Value) (h0_7 : Value) (h0_8 : Value) (h0_9 : Value) (h0_10 : Value) (h0_11 : Value) (h0_12 : Value) (h0_13 : Value) (h0_14 : Value) (h0_15 : Value) (h0_16 : Value) (h0_17 : Value) (h0_18 : Value) (h0_19 : Value) (h0_20 : Value) (h0_21 : Value) (h0_22 : Value) (h0_23 : Value) (h0_24 : Value) (h0_25 : Value) (h0_26 : Value) (h0_27 : Value) (h0_28 : Value) (h0_29 : Value) (h0_30 : Value) (h0_31 : Value) (h0_32 : Value) (h0_33 : Value) (h0_34 : Value) (h0_35 : Value) (h0_36 : Value) (h0_37 : Value) (h0_38 : Value) (h0_39 : Value) (h0_40 : Value) (h0_41 : Value) (h0_42 : Value) (h0_43 : Value) (h0_44 : Value) (h0_45 : Value) (h0_46 : Value) (h0_47 : Value) (h0_48 : Value) (h0_49 : Value) (h0_50 : Value) (h0_51 : Value) (h0_52 : Value) (h0_53 : Value) (h0_54 : Value) (h0_55 : Value) (h0_56 : Value) (h0_57 : Value) (h0_58 : Value) (h0_59 : Value) (h0_60 : Value) (h0_61 : Value) (h0_62 : Value) (h0_63 : Value) (h0_64 : Value) (h0_65 : Value) (h0_66 : Value) (h0_67 : Value) (h0_68 : Value) (h0_69 : Value) : Met l yX12_eaten u_c_X12_eaten ({ frames := 1, cells := 0, slots := 0, locals := 21 }) (va_Pc [.ref h0, .int p1, .int p2, .int p3] (z_C (dC, dI) vwCl [(h0, .inr (12, [h0_0, h0_1, h0_2, .int 0, .int 0, h0_5, h0_6, h0_7, h0_8, h0_9, h0_10, h0_11, h0_12, h0_13, h0_14, h0_15, h0_16, h0_17, h0_18, h0_19, h0_20, h0_21, h0_22, h0_23, h0_24, h0_25, h0_26, h0_27, h0_28, h0_29, h0_30, h0_31, h0_32, h0_33, h0_34, h0_35, h0_36, h0_37, h0_38, h0_39, h0_40, h0_41, h0_42, h0_43, h0_44, h0_45, h0_46, h0_47, h0_48, h0_49, h0_50, h0_51, h0_52, h0_53, h0_54, h0_55, h0_56, h0_57, h0_58, h0_59, h0_60, h0_61, h0_62, h0_63, h0_64, h0_65, h0_66, h0_67, h0_68, h0_69]))] [] sz)) (va_Ql (fun (r : Int64) (_ : Unit) => r = (-1)) (fun (_ : Unit) (_ : State) => True) (va_A [(h0, .inr (12, [h0_0, h0_1, h0_2, .int 0, .int 0, h0_5, h0_6, h0_7, h0_8, h0_9, h0_10, h0_11, h0_12, h0_13, h0_14, h0_15, h0_16, h0_17, h0_18, h0_19, h0_20, h0_21, h0_22, h0_23, h0_24, h0_25, h0_26, h0_27, h0_28, h0_29, h0_30, h0_31, h0_32, h0_33, h0_34, h0_35, h0_36, h0_37, h0_38, h0_39, h0_40, h0_41, h0_42, h0_43, h0_44, h0_45, h0_46, h0_47, h0_48, h0_49, h0_50, h0_51, h0_52, h0_53, h0_54, h0_55, h0_56, h0_57, h0_58, h0_59, h0_60, h0_61, h0_62, h0_63, h0_64, h0_65, h0_66, h0_67, h0_68, h0_69]))] sz)) 0 0 (va_A [(h0, .inr (12, [h0_0, h0_1, h0_2, .int 0, .int 0, h0_5, h0_6, h0_7, h0_8, h0_9, h0_10, h0_11, h0_12, h0_13, h0_14, h0_15, h0_16, h0_17, h0_18, h0_19, h0_20, h0_21, h0_22, h0_23, h0_24, h0_25, h0_26, h0_27, h0_28, h0_29, h0_30, h0_31, h0_32, h0_33, h0_34, h0_35, h0_36, h0_37, h0_38, h0_39, h0_40, h0_41, h0_42, h0_43, h0_44, h0_45, h0_46, h0_47, h0_48, h0_49, h0_50, h0_51, h0_52, h0_53, h0_54, h0_55, h0_56, h0_57, h0_58, h0_59, h0_60, h0_61, h0_62, h0_63, h0_64, h0_65, h0_66, h0_67, h0_68, h0_69]))] sz) := by
  refine Met.ofW (cc := cX12_eaten) (maxL := 5) (ret := (some .long)) (by decide) rfl ?_
  intro p e s m args below meth c s₁ B hml hv
  obtain ⟨rfl, hsz, hP, hK, hD0⟩ := hv
  have hx := B.exec
  have hb := B.bytes
  have hr := B.returns
  have hts := atoms_spec (ws := u_c_X12_eaten) B.pre
  have hown : s.vm.findClass RX12 = some m.cls := findClass_of_methodNamed B.named
  have hlocks := B.notSynchronized
  subst hsz
  have hD := hD0.self (sz := s.heap.size)
  generalize hAe : va_A [(h0, .inr (12, [h0_0, h0_1, h0_2, .int 0, .int 0, h0_5, h0_6, h0_7, h0_8, h0_9, h0_10, h0_11, h0_12, h0_13, h0_14, h0_15, h0_16, h0_17, h0_18, h0_19, h0_20, h0_21, h0_22, h0_23, h0_24, h0_25, h0_26, h0_27, h0_28, h0_29, h0_30, h0_31, h0_32, h0_33, h0_34, h0_35, h0_36, h0_37, h0_38, h0_39, h0_40, h0_41, h0_42, h0_43, h0_44, h0_45, h0_46, h0_47, h0_48, h0_49, h0_50, h0_51, h0_52, h0_53, h0_54, h0_55, h0_56, h0_57, h0_58, h0_59, h0_60, h0_61, h0_62, h0_63, h0_64, h0_65, h0_66, h0_67, h0_68, h0_69]))] s.heap.size = A at hD ⊢
  have hA : ∀ q : Nat, s.heap.size ≤ q → A q := fun q h => by rw [← hAe]; exact Or.inr h
  have hS : va_S A s.heap s.heap [] := va_S.rf
  have hP : va_P (dC, dI) vwCl [(h0, .inr (12, [h0_0, h0_1, h0_2, .int 0, .int 0, h0_5, h0_6, h0_7, h0_8, h0_9, h0_10, h0_11, h0_12, h0_13, h0_14, h0_15, h0_16, h0_17, h0_18, h0_19, h0_20, h0_21, h0_22, h0_23, h0_24, h0_25, h0_26, h0_27, h0_28, h0_29, h0_30, h0_31, h0_32, h0_33, h0_34, h0_35, h0_36, h0_37, h0_38, h0_39, h0_40, h0_41, h0_42, h0_43, h0_44, h0_45, h0_46, h0_47, h0_48, h0_49, h0_50, h0_51, h0_52, h0_53, h0_54, h0_55, h0_56, h0_57, h0_58, h0_59, h0_60, h0_61, h0_62, h0_63, h0_64, h0_65, h0_66, h0_67, h0_68, h0_69]))] s.heap := hP
  have w__fieldLink_RX12_145_ShellHeapModel_thrown_I_ := hts (.fieldLink RX12 145 "ShellHeapModel" "thrown" "I") (by decide +kernel)
  have hiX12 := show ∀ w ∈ u_ws RX12 TX12 70, w ∈ u_c_X12_eaten by decide +kernel
  have w__constantLong_RX12_274_1_ := hts (.constantLong RX12 274 (-1)) (by decide +kernel)
  have hl := lv_entry ([.ref h0, .int p1, .int p2, .int p3]) (n := 5) (Nat.le_of_ble_eq_true rfl)
  rw [lg_entry_eq]
  generalize (lg_sl ([.ref h0, .int p1, .int p2, .int p3]) ++ List.replicate (5 - (lg_sl ([.ref h0, .int p1, .int p2, .int p3])).length) Slot.unset).toArray = ls at hl ⊢
  have hl : lv_has ls 5 [(0, .ref h0), (1, .int p1), (2, .int p2), (3, .int p3)] := hl
  refine lv_aload_n hx hb dX12_eaten_0 rfl (lv_at hl 0 rfl) ?_
  refine lv_iconst (v := 0) hx hb dX12_eaten_1 (by decide) ?_
  refine va_put (D := (dC, dI)) (ci := 12) (v := .int 0) (ty := .int) (C := RX12) (T := TX12) (N := 70) hx hb hts hiX12 tyX12 tyX12_ok nmX12 hown hK hP hD hS 0 rfl rfl 2 (by decide) w__fieldLink_RX12_145_ShellHeapModel_thrown_I_ (fun _ h9 => h9) rfl (by decide +kernel) rfl rfl (Nat.le_of_ble_eq_true rfl) dX12_eaten_2 (fun H_1 locs hP hD hS => ?_)
  have hP : va_P (dC, dI) vwCl [(h0, .inr (12, [h0_0, h0_1, .int 0, .int 0, .int 0, h0_5, h0_6, h0_7, h0_8, h0_9, h0_10, h0_11, h0_12, h0_13, h0_14, h0_15, h0_16, h0_17, h0_18, h0_19, h0_20, h0_21, h0_22, h0_23, h0_24, h0_25, h0_26, h0_27, h0_28, h0_29, h0_30, h0_31, h0_32, h0_33, h0_34, h0_35, h0_36, h0_37, h0_38, h0_39, h0_40, h0_41, h0_42, h0_43, h0_44, h0_45, h0_46, h0_47, h0_48, h0_49, h0_50, h0_51, h0_52, h0_53, h0_54, h0_55, h0_56, h0_57, h0_58, h0_59, h0_60, h0_61, h0_62, h0_63, h0_64, h0_65, h0_66, h0_67, h0_68, h0_69]))] H_1 := hP
  have hD : va_D A [(h0, .inr (12, [h0_0, h0_1, .int 0, .int 0, .int 0, h0_5, h0_6, h0_7, h0_8, h0_9, h0_10, h0_11, h0_12, h0_13, h0_14, h0_15, h0_16, h0_17, h0_18, h0_19, h0_20, h0_21, h0_22, h0_23, h0_24, h0_25, h0_26, h0_27, h0_28, h0_29, h0_30, h0_31, h0_32, h0_33, h0_34, h0_35, h0_36, h0_37, h0_38, h0_39, h0_40, h0_41, h0_42, h0_43, h0_44, h0_45, h0_46, h0_47, h0_48, h0_49, h0_50, h0_51, h0_52, h0_53, h0_54, h0_55, h0_56, h0_57, h0_58, h0_59, h0_60, h0_61, h0_62, h0_63, h0_64, h0_65, h0_66, h0_67, h0_68, h0_69]))] := hD
  refine lv_aload_n hx hb dX12_eaten_5 rfl (lv_at hl 0 rfl) ?_
  refine lv_iload_n hx hb dX12_eaten_6 rfl (lv_at hl 1 rfl) ?_
  have hPc := hP.sub (ws' := [(h0, .inr (12, [h0_0, h0_1, .int 0, .int 0, .int 0, h0_5, h0_6, h0_7, h0_8, h0_9, h0_10, h0_11, h0_12, h0_13, h0_14, h0_15, h0_16, h0_17, h0_18, h0_19, h0_20, h0_21, h0_22, h0_23, h0_24, h0_25, h0_26, h0_27, h0_28, h0_29, h0_30, h0_31, h0_32, h0_33, h0_34, h0_35, h0_36, h0_37, h0_38, h0_39, h0_40, h0_41, h0_42, h0_43, h0_44, h0_45, h0_46, h0_47, h0_48, h0_49, h0_50, h0_51, h0_52, h0_53, h0_54, h0_55, h0_56, h0_57, h0_58, h0_59, h0_60, h0_61, h0_62, h0_63, h0_64, h0_65, h0_66, h0_67, h0_68, h0_69]))]) [0] rfl
  have hDc := hD.sub (ws' := [(h0, .inr (12, [h0_0, h0_1, .int 0, .int 0, .int 0, h0_5, h0_6, h0_7, h0_8, h0_9, h0_10, h0_11, h0_12, h0_13, h0_14, h0_15, h0_16, h0_17, h0_18, h0_19, h0_20, h0_21, h0_22, h0_23, h0_24, h0_25, h0_26, h0_27, h0_28, h0_29, h0_30, h0_31, h0_32, h0_33, h0_34, h0_35, h0_36, h0_37, h0_38, h0_39, h0_40, h0_41, h0_42, h0_43, h0_44, h0_45, h0_46, h0_47, h0_48, h0_49, h0_50, h0_51, h0_52, h0_53, h0_54, h0_55, h0_56, h0_57, h0_58, h0_59, h0_60, h0_61, h0_62, h0_63, h0_64, h0_65, h0_66, h0_67, h0_68, h0_69]))]) [0] (by decide) rfl
  have hKc := hK.sub (tys' := []) [] rfl
  have hFc := va_free (ws := []) (wc := []) (z_D0 _) hS hA [] rfl
  refine va_calli (va_runV (As := [.int p1]) (rest := []) ⟨hx, hb, hml, hown, hts⟩ (c_X12_isLayer l dC dI H_1.size h0 p1 h0_0 h0_1 (.int 0) (.int 0) h0_5 h0_6 h0_7 h0_8 h0_9 h0_10 h0_11 h0_12 h0_13 h0_14 h0_15 h0_16 h0_17 h0_18 h0_19 h0_20 h0_21 h0_22 h0_23 h0_24 h0_25 h0_26 h0_27 h0_28 h0_29 h0_30 h0_31 h0_32 h0_33 h0_34 h0_35 h0_36 h0_37 h0_38 h0_39 h0_40 h0_41 h0_42 h0_43 h0_44 h0_45 h0_46 h0_47 h0_48 h0_49 h0_50 h0_51 h0_52 h0_53 h0_54 h0_55 h0_56 h0_57 h0_58 h0_59 h0_60 h0_61 h0_62 h0_63 h0_64 h0_65 h0_66 h0_67 h0_68 h0_69) (cwV 1 hts gw_c_X12_eaten_c_X12_isLayer_157 rfl rfl rfl (by decide +kernel) ⟨Nat.le_of_ble_eq_true rfl, Nat.le_of_ble_eq_true rfl⟩) ⟨z_blind, va_recv hKc hPc (ci := 12) (q0 := 0) rfl rfl, z_pre hPc hKc hDc⟩ rfl rfl hl.1 rfl (lv_room (Nat.le_of_ble_eq_true rfl)) dX12_eaten_7 ⟨Nat.le_of_ble_eq_true rfl, Nat.le_of_ble_eq_true rfl⟩) hS (fun q _ h => hFc q h) hFc (fun r_3 u t H_2 locs ht hvm hw_4 hB hz1 hk1 hS => ?_)
  have hP := z_pure hP hk1
  have hP : va_P (dC, dI) vwCl [(h0, .inr (12, [h0_0, h0_1, .int 0, .int 0, .int 0, h0_5, h0_6, h0_7, h0_8, h0_9, h0_10, h0_11, h0_12, h0_13, h0_14, h0_15, h0_16, h0_17, h0_18, h0_19, h0_20, h0_21, h0_22, h0_23, h0_24, h0_25, h0_26, h0_27, h0_28, h0_29, h0_30, h0_31, h0_32, h0_33, h0_34, h0_35, h0_36, h0_37, h0_38, h0_39, h0_40, h0_41, h0_42, h0_43, h0_44, h0_45, h0_46, h0_47, h0_48, h0_49, h0_50, h0_51, h0_52, h0_53, h0_54, h0_55, h0_56, h0_57, h0_58, h0_59, h0_60, h0_61, h0_62, h0_63, h0_64, h0_65, h0_66, h0_67, h0_68, h0_69]))] H_2 := hP
  have hD : va_D A [(h0, .inr (12, [h0_0, h0_1, .int 0, .int 0, .int 0, h0_5, h0_6, h0_7, h0_8, h0_9, h0_10, h0_11, h0_12, h0_13, h0_14, h0_15, h0_16, h0_17, h0_18, h0_19, h0_20, h0_21, h0_22, h0_23, h0_24, h0_25, h0_26, h0_27, h0_28, h0_29, h0_30, h0_31, h0_32, h0_33, h0_34, h0_35, h0_36, h0_37, h0_38, h0_39, h0_40, h0_41, h0_42, h0_43, h0_44, h0_45, h0_46, h0_47, h0_48, h0_49, h0_50, h0_51, h0_52, h0_53, h0_54, h0_55, h0_56, h0_57, h0_58, h0_59, h0_60, h0_61, h0_62, h0_63, h0_64, h0_65, h0_66, h0_67, h0_68, h0_69]))] := hD
  clear hPc hDc hKc
  obtain rfl : r_3 = 0 := hw_4
  refine lv_if_eq (tgt := 35) hx hb dX12_eaten_10 (by decide) (fun _ => ?_) (fun c_5 => absurd (by decide) c_5)
  refine lv_ldc2 (v := (-1)) hx hb hown w__constantLong_RX12_274_1_ dX12_eaten_35 ?_
  refine W.widen (k := 0) (n := 0) (Nat.le_of_ble_eq_true rfl) (Nat.le_of_ble_eq_true rfl) ?_
  exact W.lret (v := (-1)) hx hb hr (fun t ht hW => ⟨⟨(-1), (), rfl, rfl, trivial⟩, hS.F ht⟩) hS.2.2 dX12_eaten_38
def u_c_X12_days : List Cond := .code yX12_days cX12_days 4 (some .long) :: ([.fieldLink RX12 145 "ShellHeapModel" "thrown" "I", .methodLink RX12 157 yX12_isLayer, .instanceMethod yX12_isLayer, .selects RX12 yX12_isLayer yX12_isLayer, .initialized RX12, .code yX12_isLayer cX12_isLayer 2 (some .boolean), .fieldLink RX12 151 "ShellHeapModel" "layers" "I", .constantLong RX12 274 (-1)] ++ wsX120)
set_option maxRecDepth 20000 in
theorem gw_c_X12_days_c_X12_isLayer_157 : GoodIn u_c_X12_days (wsV RX12 157 RX12 yX12_isLayer u_c_X12_isLayer) := goodIn_r _ [2, 3, 4, 5, 6, 7, 9, 10, 11, 12, 13, 14, 15, 16, 17, 18, 19, 20, 21, 22, 23, 24, 25, 26, 27, 28, 29, 30, 31, 32, 33, 34, 35, 36, 37, 38, 39, 40, 41, 42, 43, 44, 45, 46, 47, 48, 49, 50, 51, 52, 53, 54, 55, 56, 57, 58, 59, 60, 61, 62, 63, 64, 65, 66, 67, 68, 69, 70, 71, 72, 73, 74, 75, 76, 77, 78] (by decide +kernel) (by decide +kernel)
set_option maxHeartbeats 4000000 in
set_option maxRecDepth 100000 in
theorem c_X12_days (l : Launch) (dC : Nat → ClassId) (dI : Nat → Nat → Nat) (sz : Nat) (h0 : Nat) (p1 : Int32) (p2 : Int32) (p3 : Int32) (h0_0 : Value) (h0_1 : Value) (h0_2 : Value) (h0_5 : Value) (h0_6 : Value) (h0_7 : Value) (h0_8 : Value) (h0_9 : Value) (h0_10 : Value) (h0_11 : Value) (h0_12 : Value) (h0_13 : Value) (h0_14 : Value) (h0_15 : Value) (h0_16 : Value) (h0_17 : Value) (h0_18 : Value) (h0_19 : Value) (h0_20 : Value) (h0_21 : Value) (h0_22 : Value) (h0_23 : Value) (h0_24 : Value) (h0_25 : Value) (h0_26 : Value) (h0_27 : Value) (h0_28 : Value) (h0_29 : Value) (h0_30 : Value) (h0_31 : Value) (h0_32 : Value) (h0_33 : Value) (h0_34 : Value) (h0_35 : Value) (h0_36 : Value) (h0_37 : Value) (h0_38 : Value) (h0_39 : Value) (h0_40 : Value) (h0_41 : Value) (h0_42 : Value) (h0_43 : Value) (h0_44 : Value) (h0_45 : Value) (h0_46 : Value) (h0_47 : Value) (h0_48 : Value) (h0_49 : Value) (h0_50 : Value) (h0_51 : Value) (h0_52 : Value) (h0_53 : Value) (h0_54 : Value) (h0_55 : Value) (h0_56 : Value) (h0_57 : Value) (h0_58 : Value) (h0_59 : Value) (h0_60 : Value) (h0_61 : Value) (h0_62 : Value) (h0_63 : Value) (h0_64 : Value) (h0_65 : Value) (h0_66 : Value) (h0_67 : Value) (h0_68 : Value) (h0_69 : Value) : Met l yX12_days u_c_X12_days ({ frames := 1, cells := 0, slots := 0, locals := 21 }) (va_Pc [.ref h0, .int p1, .int p2, .int p3] (z_C (dC, dI) vwCl [(h0, .inr (12, [h0_0, h0_1, h0_2, .int 0, .int 0, h0_5, h0_6, h0_7, h0_8, h0_9, h0_10, h0_11, h0_12, h0_13, h0_14, h0_15, h0_16, h0_17, h0_18, h0_19, h0_20, h0_21, h0_22, h0_23, h0_24, h0_25, h0_26, h0_27, h0_28, h0_29, h0_30, h0_31, h0_32, h0_33, h0_34, h0_35, h0_36, h0_37, h0_38, h0_39, h0_40, h0_41, h0_42, h0_43, h0_44, h0_45, h0_46, h0_47, h0_48, h0_49, h0_50, h0_51, h0_52, h0_53, h0_54, h0_55, h0_56, h0_57, h0_58, h0_59, h0_60, h0_61, h0_62, h0_63, h0_64, h0_65, h0_66, h0_67, h0_68, h0_69]))] [] sz)) (va_Ql (fun (r : Int64) (_ : Unit) => r = (-1)) (fun (_ : Unit) (_ : State) => True) (va_A [(h0, .inr (12, [h0_0, h0_1, h0_2, .int 0, .int 0, h0_5, h0_6, h0_7, h0_8, h0_9, h0_10, h0_11, h0_12, h0_13, h0_14, h0_15, h0_16, h0_17, h0_18, h0_19, h0_20, h0_21, h0_22, h0_23, h0_24, h0_25, h0_26, h0_27, h0_28, h0_29, h0_30, h0_31, h0_32, h0_33, h0_34, h0_35, h0_36, h0_37, h0_38, h0_39, h0_40, h0_41, h0_42, h0_43, h0_44, h0_45, h0_46, h0_47, h0_48, h0_49, h0_50, h0_51, h0_52, h0_53, h0_54, h0_55, h0_56, h0_57, h0_58, h0_59, h0_60, h0_61, h0_62, h0_63, h0_64, h0_65, h0_66, h0_67, h0_68, h0_69]))] sz)) 0 0 (va_A [(h0, .inr (12, [h0_0, h0_1, h0_2, .int 0, .int 0, h0_5, h0_6, h0_7, h0_8, h0_9, h0_10, h0_11, h0_12, h0_13, h0_14, h0_15, h0_16, h0_17, h0_18, h0_19, h0_20, h0_21, h0_22, h0_23, h0_24, h0_25, h0_26, h0_27, h0_28, h0_29, h0_30, h0_31, h0_32, h0_33, h0_34, h0_35, h0_36, h0_37, h0_38, h0_39, h0_40, h0_41, h0_42, h0_43, h0_44, h0_45, h0_46, h0_47, h0_48, h0_49, h0_50, h0_51, h0_52, h0_53, h0_54, h0_55, h0_56, h0_57, h0_58, h0_59, h0_60, h0_61, h0_62, h0_63, h0_64, h0_65, h0_66, h0_67, h0_68, h0_69]))] sz) := by
  refine Met.ofW (cc := cX12_days) (maxL := 4) (ret := (some .long)) (by decide) rfl ?_
  intro p e s m args below meth c s₁ B hml hv
  obtain ⟨rfl, hsz, hP, hK, hD0⟩ := hv
  have hx := B.exec
  have hb := B.bytes
  have hr := B.returns
  have hts := atoms_spec (ws := u_c_X12_days) B.pre
  have hown : s.vm.findClass RX12 = some m.cls := findClass_of_methodNamed B.named
  have hlocks := B.notSynchronized
  subst hsz
  have hD := hD0.self (sz := s.heap.size)
  generalize hAe : va_A [(h0, .inr (12, [h0_0, h0_1, h0_2, .int 0, .int 0, h0_5, h0_6, h0_7, h0_8, h0_9, h0_10, h0_11, h0_12, h0_13, h0_14, h0_15, h0_16, h0_17, h0_18, h0_19, h0_20, h0_21, h0_22, h0_23, h0_24, h0_25, h0_26, h0_27, h0_28, h0_29, h0_30, h0_31, h0_32, h0_33, h0_34, h0_35, h0_36, h0_37, h0_38, h0_39, h0_40, h0_41, h0_42, h0_43, h0_44, h0_45, h0_46, h0_47, h0_48, h0_49, h0_50, h0_51, h0_52, h0_53, h0_54, h0_55, h0_56, h0_57, h0_58, h0_59, h0_60, h0_61, h0_62, h0_63, h0_64, h0_65, h0_66, h0_67, h0_68, h0_69]))] s.heap.size = A at hD ⊢
  have hA : ∀ q : Nat, s.heap.size ≤ q → A q := fun q h => by rw [← hAe]; exact Or.inr h
  have hS : va_S A s.heap s.heap [] := va_S.rf
  have hP : va_P (dC, dI) vwCl [(h0, .inr (12, [h0_0, h0_1, h0_2, .int 0, .int 0, h0_5, h0_6, h0_7, h0_8, h0_9, h0_10, h0_11, h0_12, h0_13, h0_14, h0_15, h0_16, h0_17, h0_18, h0_19, h0_20, h0_21, h0_22, h0_23, h0_24, h0_25, h0_26, h0_27, h0_28, h0_29, h0_30, h0_31, h0_32, h0_33, h0_34, h0_35, h0_36, h0_37, h0_38, h0_39, h0_40, h0_41, h0_42, h0_43, h0_44, h0_45, h0_46, h0_47, h0_48, h0_49, h0_50, h0_51, h0_52, h0_53, h0_54, h0_55, h0_56, h0_57, h0_58, h0_59, h0_60, h0_61, h0_62, h0_63, h0_64, h0_65, h0_66, h0_67, h0_68, h0_69]))] s.heap := hP
  have w__fieldLink_RX12_145_ShellHeapModel_thrown_I_ := hts (.fieldLink RX12 145 "ShellHeapModel" "thrown" "I") (by decide +kernel)
  have hiX12 := show ∀ w ∈ u_ws RX12 TX12 70, w ∈ u_c_X12_days by decide +kernel
  have w__constantLong_RX12_274_1_ := hts (.constantLong RX12 274 (-1)) (by decide +kernel)
  have hl := lv_entry ([.ref h0, .int p1, .int p2, .int p3]) (n := 4) (Nat.le_of_ble_eq_true rfl)
  rw [lg_entry_eq]
  generalize (lg_sl ([.ref h0, .int p1, .int p2, .int p3]) ++ List.replicate (4 - (lg_sl ([.ref h0, .int p1, .int p2, .int p3])).length) Slot.unset).toArray = ls at hl ⊢
  have hl : lv_has ls 4 [(0, .ref h0), (1, .int p1), (2, .int p2), (3, .int p3)] := hl
  refine lv_aload_n hx hb dX12_days_0 rfl (lv_at hl 0 rfl) ?_
  refine lv_iconst (v := 0) hx hb dX12_days_1 (by decide) ?_
  refine va_put (D := (dC, dI)) (ci := 12) (v := .int 0) (ty := .int) (C := RX12) (T := TX12) (N := 70) hx hb hts hiX12 tyX12 tyX12_ok nmX12 hown hK hP hD hS 0 rfl rfl 2 (by decide) w__fieldLink_RX12_145_ShellHeapModel_thrown_I_ (fun _ h9 => h9) rfl (by decide +kernel) rfl rfl (Nat.le_of_ble_eq_true rfl) dX12_days_2 (fun H_1 locs hP hD hS => ?_)
  have hP : va_P (dC, dI) vwCl [(h0, .inr (12, [h0_0, h0_1, .int 0, .int 0, .int 0, h0_5, h0_6, h0_7, h0_8, h0_9, h0_10, h0_11, h0_12, h0_13, h0_14, h0_15, h0_16, h0_17, h0_18, h0_19, h0_20, h0_21, h0_22, h0_23, h0_24, h0_25, h0_26, h0_27, h0_28, h0_29, h0_30, h0_31, h0_32, h0_33, h0_34, h0_35, h0_36, h0_37, h0_38, h0_39, h0_40, h0_41, h0_42, h0_43, h0_44, h0_45, h0_46, h0_47, h0_48, h0_49, h0_50, h0_51, h0_52, h0_53, h0_54, h0_55, h0_56, h0_57, h0_58, h0_59, h0_60, h0_61, h0_62, h0_63, h0_64, h0_65, h0_66, h0_67, h0_68, h0_69]))] H_1 := hP
  have hD : va_D A [(h0, .inr (12, [h0_0, h0_1, .int 0, .int 0, .int 0, h0_5, h0_6, h0_7, h0_8, h0_9, h0_10, h0_11, h0_12, h0_13, h0_14, h0_15, h0_16, h0_17, h0_18, h0_19, h0_20, h0_21, h0_22, h0_23, h0_24, h0_25, h0_26, h0_27, h0_28, h0_29, h0_30, h0_31, h0_32, h0_33, h0_34, h0_35, h0_36, h0_37, h0_38, h0_39, h0_40, h0_41, h0_42, h0_43, h0_44, h0_45, h0_46, h0_47, h0_48, h0_49, h0_50, h0_51, h0_52, h0_53, h0_54, h0_55, h0_56, h0_57, h0_58, h0_59, h0_60, h0_61, h0_62, h0_63, h0_64, h0_65, h0_66, h0_67, h0_68, h0_69]))] := hD
  refine lv_aload_n hx hb dX12_days_5 rfl (lv_at hl 0 rfl) ?_
  refine lv_iload_n hx hb dX12_days_6 rfl (lv_at hl 1 rfl) ?_
  have hPc := hP.sub (ws' := [(h0, .inr (12, [h0_0, h0_1, .int 0, .int 0, .int 0, h0_5, h0_6, h0_7, h0_8, h0_9, h0_10, h0_11, h0_12, h0_13, h0_14, h0_15, h0_16, h0_17, h0_18, h0_19, h0_20, h0_21, h0_22, h0_23, h0_24, h0_25, h0_26, h0_27, h0_28, h0_29, h0_30, h0_31, h0_32, h0_33, h0_34, h0_35, h0_36, h0_37, h0_38, h0_39, h0_40, h0_41, h0_42, h0_43, h0_44, h0_45, h0_46, h0_47, h0_48, h0_49, h0_50, h0_51, h0_52, h0_53, h0_54, h0_55, h0_56, h0_57, h0_58, h0_59, h0_60, h0_61, h0_62, h0_63, h0_64, h0_65, h0_66, h0_67, h0_68, h0_69]))]) [0] rfl
  have hDc := hD.sub (ws' := [(h0, .inr (12, [h0_0, h0_1, .int 0, .int 0, .int 0, h0_5, h0_6, h0_7, h0_8, h0_9, h0_10, h0_11, h0_12, h0_13, h0_14, h0_15, h0_16, h0_17, h0_18, h0_19, h0_20, h0_21, h0_22, h0_23, h0_24, h0_25, h0_26, h0_27, h0_28, h0_29, h0_30, h0_31, h0_32, h0_33, h0_34, h0_35, h0_36, h0_37, h0_38, h0_39, h0_40, h0_41, h0_42, h0_43, h0_44, h0_45, h0_46, h0_47, h0_48, h0_49, h0_50, h0_51, h0_52, h0_53, h0_54, h0_55, h0_56, h0_57, h0_58, h0_59, h0_60, h0_61, h0_62, h0_63, h0_64, h0_65, h0_66, h0_67, h0_68, h0_69]))]) [0] (by decide) rfl
  have hKc := hK.sub (tys' := []) [] rfl
  have hFc := va_free (ws := []) (wc := []) (z_D0 _) hS hA [] rfl
  refine va_calli (va_runV (As := [.int p1]) (rest := []) ⟨hx, hb, hml, hown, hts⟩ (c_X12_isLayer l dC dI H_1.size h0 p1 h0_0 h0_1 (.int 0) (.int 0) h0_5 h0_6 h0_7 h0_8 h0_9 h0_10 h0_11 h0_12 h0_13 h0_14 h0_15 h0_16 h0_17 h0_18 h0_19 h0_20 h0_21 h0_22 h0_23 h0_24 h0_25 h0_26 h0_27 h0_28 h0_29 h0_30 h0_31 h0_32 h0_33 h0_34 h0_35 h0_36 h0_37 h0_38 h0_39 h0_40 h0_41 h0_42 h0_43 h0_44 h0_45 h0_46 h0_47 h0_48 h0_49 h0_50 h0_51 h0_52 h0_53 h0_54 h0_55 h0_56 h0_57 h0_58 h0_59 h0_60 h0_61 h0_62 h0_63 h0_64 h0_65 h0_66 h0_67 h0_68 h0_69) (cwV 1 hts gw_c_X12_days_c_X12_isLayer_157 rfl rfl rfl (by decide +kernel) ⟨Nat.le_of_ble_eq_true rfl, Nat.le_of_ble_eq_true rfl⟩) ⟨z_blind, va_recv hKc hPc (ci := 12) (q0 := 0) rfl rfl, z_pre hPc hKc hDc⟩ rfl rfl hl.1 rfl (lv_room (Nat.le_of_ble_eq_true rfl)) dX12_days_7 ⟨Nat.le_of_ble_eq_true rfl, Nat.le_of_ble_eq_true rfl⟩) hS (fun q _ h => hFc q h) hFc (fun r_3 u t H_2 locs ht hvm hw_4 hB hz1 hk1 hS => ?_)
  have hP := z_pure hP hk1
  have hP : va_P (dC, dI) vwCl [(h0, .inr (12, [h0_0, h0_1, .int 0, .int 0, .int 0, h0_5, h0_6, h0_7, h0_8, h0_9, h0_10, h0_11, h0_12, h0_13, h0_14, h0_15, h0_16, h0_17, h0_18, h0_19, h0_20, h0_21, h0_22, h0_23, h0_24, h0_25, h0_26, h0_27, h0_28, h0_29, h0_30, h0_31, h0_32, h0_33, h0_34, h0_35, h0_36, h0_37, h0_38, h0_39, h0_40, h0_41, h0_42, h0_43, h0_44, h0_45, h0_46, h0_47, h0_48, h0_49, h0_50, h0_51, h0_52, h0_53, h0_54, h0_55, h0_56, h0_57, h0_58, h0_59, h0_60, h0_61, h0_62, h0_63, h0_64, h0_65, h0_66, h0_67, h0_68, h0_69]))] H_2 := hP
  have hD : va_D A [(h0, .inr (12, [h0_0, h0_1, .int 0, .int 0, .int 0, h0_5, h0_6, h0_7, h0_8, h0_9, h0_10, h0_11, h0_12, h0_13, h0_14, h0_15, h0_16, h0_17, h0_18, h0_19, h0_20, h0_21, h0_22, h0_23, h0_24, h0_25, h0_26, h0_27, h0_28, h0_29, h0_30, h0_31, h0_32, h0_33, h0_34, h0_35, h0_36, h0_37, h0_38, h0_39, h0_40, h0_41, h0_42, h0_43, h0_44, h0_45, h0_46, h0_47, h0_48, h0_49, h0_50, h0_51, h0_52, h0_53, h0_54, h0_55, h0_56, h0_57, h0_58, h0_59, h0_60, h0_61, h0_62, h0_63, h0_64, h0_65, h0_66, h0_67, h0_68, h0_69]))] := hD
  clear hPc hDc hKc
  obtain rfl : r_3 = 0 := hw_4
  refine lv_if_eq (tgt := 35) hx hb dX12_days_10 (by decide) (fun _ => ?_) (fun c_5 => absurd (by decide) c_5)
  refine lv_ldc2 (v := (-1)) hx hb hown w__constantLong_RX12_274_1_ dX12_days_35 ?_
  refine W.widen (k := 0) (n := 0) (Nat.le_of_ble_eq_true rfl) (Nat.le_of_ble_eq_true rfl) ?_
  exact W.lret (v := (-1)) hx hb hr (fun t ht hW => ⟨⟨(-1), (), rfl, rfl, trivial⟩, hS.F ht⟩) hS.2.2 dX12_days_38
def u_c_X12_reads : List Cond := .code yX12_reads cX12_reads 8 (some .boolean) :: ([.fieldLink RX12 145 "ShellHeapModel" "thrown" "I", .methodLink RX12 288 yX12_isReader, .static yX12_isReader, .initialized RX12, .code yX12_isReader cX12_isReader 1 (some .boolean), .fieldLink RX12 78 "ShellHeapModel" "reads" "[I"] ++ wsX120)
set_option maxRecDepth 20000 in
theorem gw_c_X12_reads_c_X12_isReader_288 : GoodIn u_c_X12_reads (va_wsS RX12 288 yX12_isReader u_c_X12_isReader) := goodIn_r _ [2, 3, 4, 5] (by decide +kernel) (by decide +kernel)
set_option maxHeartbeats 4000000 in
set_option maxRecDepth 100000 in
theorem c_X12_reads (l : Launch) (dC : Nat → ClassId) (dI : Nat → Nat → Nat) (sz : Nat) (h0 : Nat) (p1 : Int32) (p2 : Int32) (p3 : Int32) (p4 : Int32) (p5 : Int32) (p6 : Int32) (h0_0 : Value) (h0_1 : Value) (h0_2 : Value) (h0_3 : Value) (h0_4 : Value) (h0_5 : Value) (h0_6 : Value) (h0_7 : Value) (h0_8 : Value) (h0_9 : Value) (h0_10 : Value) (h0_11 : Value) (h0_12 : Value) (h0_13 : Value) (h0_14 : Value) (h0_15 : Value) (h0_16 : Value) (h0_17 : Value) (h0_18 : Value) (h0_19 : Value) (h0_20 : Value) (h0_21 : Value) (h0_22 : Value) (h0_23 : Value) (h0_24 : Value) (h0_25 : Value) (h0_26 : Value) (h0_27 : Value) (h0_28 : Value) (h0_29 : Value) (h0_30 : Value) (h0_31 : Value) (h0_32 : Value) (h0_33 : Value) (h0_34 : Value) (h1 : Nat) (h0_36 : Value) (h0_37 : Value) (h0_38 : Value) (h0_39 : Value) (h0_40 : Value) (h0_41 : Value) (h0_42 : Value) (h0_43 : Value) (h0_44 : Value) (h0_45 : Value) (h0_46 : Value) (h0_47 : Value) (h0_48 : Value) (h0_49 : Value) (h0_50 : Value) (h0_51 : Value) (h0_52 : Value) (h0_53 : Value) (h0_54 : Value) (h0_55 : Value) (h0_56 : Value) (h0_57 : Value) (h0_58 : Value) (h0_59 : Value) (h0_60 : Value) (h0_61 : Value) (h0_62 : Value) (h0_63 : Value) (h0_64 : Value) (h0_65 : Value) (h0_66 : Value) (h0_67 : Value) (h0_68 : Value) (h0_69 : Value) (ch1 : ClassId) (fh1 : Nat → Int32) : Met l yX12_reads u_c_X12_reads ({ frames := 1, cells := 0, slots := 0, locals := 20 }) (va_Pc [.ref h0, .int p1, .int p2, .int p3, .int p4, .int p5, .int p6] (z_C (dC, dI) vwCl [(h0, .inr (12, [h0_0, h0_1, h0_2, h0_3, h0_4, h0_5, h0_6, h0_7, h0_8, h0_9, h0_10, h0_11, h0_12, h0_13, h0_14, h0_15, h0_16, h0_17, h0_18, h0_19, h0_20, h0_21, h0_22, h0_23, h0_24, h0_25, h0_26, h0_27, h0_28, h0_29, h0_30, h0_31, h0_32, h0_33, h0_34, .ref h1, h0_36, h0_37, h0_38, h0_39, h0_40, h0_41, h0_42, h0_43, h0_44, h0_45, h0_46, h0_47, h0_48, h0_49, h0_50, h0_51, h0_52, h0_53, h0_54, h0_55, h0_56, h0_57, h0_58, h0_59, h0_60, h0_61, h0_62, h0_63, h0_64, h0_65, h0_66, h0_67, h0_68, h0_69])), (h1, .inl (ch1, 48, .inl fh1))] [(ch1, .int)] sz)) (va_Qi (fun (r : Int32) (_ : Unit) => r = v_reads p1 p2 p3 p4 p5 p6) (fun (_ : Unit) (_ : State) => True) (va_A [(h0, .inr (12, [h0_0, h0_1, h0_2, h0_3, h0_4, h0_5, h0_6, h0_7, h0_8, h0_9, h0_10, h0_11, h0_12, h0_13, h0_14, h0_15, h0_16, h0_17, h0_18, h0_19, h0_20, h0_21, h0_22, h0_23, h0_24, h0_25, h0_26, h0_27, h0_28, h0_29, h0_30, h0_31, h0_32, h0_33, h0_34, .ref h1, h0_36, h0_37, h0_38, h0_39, h0_40, h0_41, h0_42, h0_43, h0_44, h0_45, h0_46, h0_47, h0_48, h0_49, h0_50, h0_51, h0_52, h0_53, h0_54, h0_55, h0_56, h0_57, h0_58, h0_59, h0_60, h0_61, h0_62, h0_63, h0_64, h0_65, h0_66, h0_67, h0_68, h0_69])), (h1, .inl (ch1, 48, .inl fh1))] sz)) 0 0 (va_A [(h0, .inr (12, [h0_0, h0_1, h0_2, h0_3, h0_4, h0_5, h0_6, h0_7, h0_8, h0_9, h0_10, h0_11, h0_12, h0_13, h0_14, h0_15, h0_16, h0_17, h0_18, h0_19, h0_20, h0_21, h0_22, h0_23, h0_24, h0_25, h0_26, h0_27, h0_28, h0_29, h0_30, h0_31, h0_32, h0_33, h0_34, .ref h1, h0_36, h0_37, h0_38, h0_39, h0_40, h0_41, h0_42, h0_43, h0_44, h0_45, h0_46, h0_47, h0_48, h0_49, h0_50, h0_51, h0_52, h0_53, h0_54, h0_55, h0_56, h0_57, h0_58, h0_59, h0_60, h0_61, h0_62, h0_63, h0_64, h0_65, h0_66, h0_67, h0_68, h0_69])), (h1, .inl (ch1, 48, .inl fh1))] sz) := by
  refine Met.ofW (cc := cX12_reads) (maxL := 8) (ret := (some .boolean)) (by decide) rfl ?_
  intro p e s m args below meth c s₁ B hml hv
  obtain ⟨rfl, hsz, hP, hK, hD0⟩ := hv
  have hx := B.exec
  have hb := B.bytes
  have hr := B.returns
  have hts := atoms_spec (ws := u_c_X12_reads) B.pre
  have hown : s.vm.findClass RX12 = some m.cls := findClass_of_methodNamed B.named
  have hlocks := B.notSynchronized
  subst hsz
  have hD := hD0.self (sz := s.heap.size)
  generalize hAe : va_A [(h0, .inr (12, [h0_0, h0_1, h0_2, h0_3, h0_4, h0_5, h0_6, h0_7, h0_8, h0_9, h0_10, h0_11, h0_12, h0_13, h0_14, h0_15, h0_16, h0_17, h0_18, h0_19, h0_20, h0_21, h0_22, h0_23, h0_24, h0_25, h0_26, h0_27, h0_28, h0_29, h0_30, h0_31, h0_32, h0_33, h0_34, .ref h1, h0_36, h0_37, h0_38, h0_39, h0_40, h0_41, h0_42, h0_43, h0_44, h0_45, h0_46, h0_47, h0_48, h0_49, h0_50, h0_51, h0_52, h0_53, h0_54, h0_55, h0_56, h0_57, h0_58, h0_59, h0_60, h0_61, h0_62, h0_63, h0_64, h0_65, h0_66, h0_67, h0_68, h0_69])), (h1, .inl (ch1, 48, .inl fh1))] s.heap.size = A at hD ⊢
  have hA : ∀ q : Nat, s.heap.size ≤ q → A q := fun q h => by rw [← hAe]; exact Or.inr h
  have hS : va_S A s.heap s.heap [] := va_S.rf
  have hP : va_P (dC, dI) vwCl [(h0, .inr (12, [h0_0, h0_1, h0_2, h0_3, h0_4, h0_5, h0_6, h0_7, h0_8, h0_9, h0_10, h0_11, h0_12, h0_13, h0_14, h0_15, h0_16, h0_17, h0_18, h0_19, h0_20, h0_21, h0_22, h0_23, h0_24, h0_25, h0_26, h0_27, h0_28, h0_29, h0_30, h0_31, h0_32, h0_33, h0_34, .ref h1, h0_36, h0_37, h0_38, h0_39, h0_40, h0_41, h0_42, h0_43, h0_44, h0_45, h0_46, h0_47, h0_48, h0_49, h0_50, h0_51, h0_52, h0_53, h0_54, h0_55, h0_56, h0_57, h0_58, h0_59, h0_60, h0_61, h0_62, h0_63, h0_64, h0_65, h0_66, h0_67, h0_68, h0_69])), (h1, .inl (ch1, 48, .inl fh1))] s.heap := hP
  have w__fieldLink_RX12_145_ShellHeapModel_thrown_I_ := hts (.fieldLink RX12 145 "ShellHeapModel" "thrown" "I") (by decide +kernel)
  have hiX12 := show ∀ w ∈ u_ws RX12 TX12 70, w ∈ u_c_X12_reads by decide +kernel
  have w__fieldLink_RX12_78_ShellHeapModel_reads_I_ := hts (.fieldLink RX12 78 "ShellHeapModel" "reads" "[I") (by decide +kernel)
  have hl := lv_entry ([.ref h0, .int p1, .int p2, .int p3, .int p4, .int p5, .int p6]) (n := 8) (Nat.le_of_ble_eq_true rfl)
  rw [lg_entry_eq]
  generalize (lg_sl ([.ref h0, .int p1, .int p2, .int p3, .int p4, .int p5, .int p6]) ++ List.replicate (8 - (lg_sl ([.ref h0, .int p1, .int p2, .int p3, .int p4, .int p5, .int p6])).length) Slot.unset).toArray = ls at hl ⊢
  have hl : lv_has ls 8 [(0, .ref h0), (1, .int p1), (2, .int p2), (3, .int p3), (4, .int p4), (5, .int p5), (6, .int p6)] := hl
  refine lv_aload_n hx hb dX12_reads_0 rfl (lv_at hl 0 rfl) ?_
  refine lv_iconst (v := 0) hx hb dX12_reads_1 (by decide) ?_
  refine va_put (D := (dC, dI)) (ci := 12) (v := .int 0) (ty := .int) (C := RX12) (T := TX12) (N := 70) hx hb hts hiX12 tyX12 tyX12_ok nmX12 hown hK hP hD hS 0 rfl rfl 2 (by decide) w__fieldLink_RX12_145_ShellHeapModel_thrown_I_ (fun _ h9 => h9) rfl (by decide +kernel) rfl rfl (Nat.le_of_ble_eq_true rfl) dX12_reads_2 (fun H_1 locs hP hD hS => ?_)
  have hP : va_P (dC, dI) vwCl [(h0, .inr (12, [h0_0, h0_1, .int 0, h0_3, h0_4, h0_5, h0_6, h0_7, h0_8, h0_9, h0_10, h0_11, h0_12, h0_13, h0_14, h0_15, h0_16, h0_17, h0_18, h0_19, h0_20, h0_21, h0_22, h0_23, h0_24, h0_25, h0_26, h0_27, h0_28, h0_29, h0_30, h0_31, h0_32, h0_33, h0_34, .ref h1, h0_36, h0_37, h0_38, h0_39, h0_40, h0_41, h0_42, h0_43, h0_44, h0_45, h0_46, h0_47, h0_48, h0_49, h0_50, h0_51, h0_52, h0_53, h0_54, h0_55, h0_56, h0_57, h0_58, h0_59, h0_60, h0_61, h0_62, h0_63, h0_64, h0_65, h0_66, h0_67, h0_68, h0_69])), (h1, .inl (ch1, 48, .inl fh1))] H_1 := hP
  have hD : va_D A [(h0, .inr (12, [h0_0, h0_1, .int 0, h0_3, h0_4, h0_5, h0_6, h0_7, h0_8, h0_9, h0_10, h0_11, h0_12, h0_13, h0_14, h0_15, h0_16, h0_17, h0_18, h0_19, h0_20, h0_21, h0_22, h0_23, h0_24, h0_25, h0_26, h0_27, h0_28, h0_29, h0_30, h0_31, h0_32, h0_33, h0_34, .ref h1, h0_36, h0_37, h0_38, h0_39, h0_40, h0_41, h0_42, h0_43, h0_44, h0_45, h0_46, h0_47, h0_48, h0_49, h0_50, h0_51, h0_52, h0_53, h0_54, h0_55, h0_56, h0_57, h0_58, h0_59, h0_60, h0_61, h0_62, h0_63, h0_64, h0_65, h0_66, h0_67, h0_68, h0_69])), (h1, .inl (ch1, 48, .inl fh1))] := hD
  refine lv_iload_n hx hb dX12_reads_5 rfl (lv_at hl 1 rfl) ?_
  have hPc := hP.sub (ws' := []) [] rfl
  have hDc := hD.sub (ws' := []) [] (by decide) rfl
  have hKc := hK.sub (tys' := []) [] rfl
  have hFc := va_free (ws := []) (wc := []) (z_D0 _) hS hA [] rfl
  refine va_calli (va_runS (As := [.int p1]) (rest := []) ⟨hx, hb, hml, hown, hts⟩ (c_X12_isReader l dC dI H_1.size p1) (va_cwS 1 hts gw_c_X12_reads_c_X12_isReader_288 rfl rfl rfl (by decide +kernel) ⟨Nat.le_of_ble_eq_true rfl, Nat.le_of_ble_eq_true rfl⟩) ⟨z_blind, z_pre hPc hKc hDc⟩ rfl rfl hl.1 rfl (lv_room (Nat.le_of_ble_eq_true rfl)) dX12_reads_6 ⟨Nat.le_of_ble_eq_true rfl, Nat.le_of_ble_eq_true rfl⟩) hS (fun q _ h => hFc q h) hFc (fun r_3 u t H_2 locs ht hvm hw_4 hB hz1 hk1 hS => ?_)
  have hP := z_pure hP hk1
  have hP : va_P (dC, dI) vwCl [(h0, .inr (12, [h0_0, h0_1, .int 0, h0_3, h0_4, h0_5, h0_6, h0_7, h0_8, h0_9, h0_10, h0_11, h0_12, h0_13, h0_14, h0_15, h0_16, h0_17, h0_18, h0_19, h0_20, h0_21, h0_22, h0_23, h0_24, h0_25, h0_26, h0_27, h0_28, h0_29, h0_30, h0_31, h0_32, h0_33, h0_34, .ref h1, h0_36, h0_37, h0_38, h0_39, h0_40, h0_41, h0_42, h0_43, h0_44, h0_45, h0_46, h0_47, h0_48, h0_49, h0_50, h0_51, h0_52, h0_53, h0_54, h0_55, h0_56, h0_57, h0_58, h0_59, h0_60, h0_61, h0_62, h0_63, h0_64, h0_65, h0_66, h0_67, h0_68, h0_69])), (h1, .inl (ch1, 48, .inl fh1))] H_2 := hP
  have hD : va_D A [(h0, .inr (12, [h0_0, h0_1, .int 0, h0_3, h0_4, h0_5, h0_6, h0_7, h0_8, h0_9, h0_10, h0_11, h0_12, h0_13, h0_14, h0_15, h0_16, h0_17, h0_18, h0_19, h0_20, h0_21, h0_22, h0_23, h0_24, h0_25, h0_26, h0_27, h0_28, h0_29, h0_30, h0_31, h0_32, h0_33, h0_34, .ref h1, h0_36, h0_37, h0_38, h0_39, h0_40, h0_41, h0_42, h0_43, h0_44, h0_45, h0_46, h0_47, h0_48, h0_49, h0_50, h0_51, h0_52, h0_53, h0_54, h0_55, h0_56, h0_57, h0_58, h0_59, h0_60, h0_61, h0_62, h0_63, h0_64, h0_65, h0_66, h0_67, h0_68, h0_69])), (h1, .inl (ch1, 48, .inl fh1))] := hD
  clear hPc hDc hKc
  rcases hw_4 with ⟨rfl, hw_4⟩ | ⟨rfl, hw_4⟩
  · have hw_4 : (0 ≤ p1.toInt ∧ p1.toInt < 3) := hw_4
    refine lv_if_eq (tgt := 82) hx hb dX12_reads_9 (by decide) (fun c_5 => absurd c_5 (by decide)) (fun _ => ?_)
    refine lv_iload_n hx hb dX12_reads_12 rfl (lv_at hl 2 rfl) ?_
    refine lv_if_lt (tgt := 82) hx hb dX12_reads_13 (by decide) (fun c_6 => ?_) (fun c_6 => ?_)
    · have k_7 : (p2).toInt < (0 : Int) := z_lt c_6
      refine lv_iconst (v := 0) hx hb dX12_reads_82 (by decide) ?_
      refine W.widen (k := 0) (n := 0) (Nat.le_of_ble_eq_true rfl) (Nat.le_of_ble_eq_true rfl) ?_
      exact W.zret (v := 0) hx hb hr (by rfl) (fun t ht hW => ⟨⟨0, (), rfl, (by first | (unfold v_reads; rw [if_pos (by omega)]) | (unfold v_reads; rw [if_neg (by omega)]) | decide), trivial⟩, hS.F ht⟩) hS.2.2 dX12_reads_83
    · have k_8 : (p2).toInt ≥ (0 : Int) := z_nlt c_6
      refine lv_iload_n hx hb dX12_reads_16 rfl (lv_at hl 2 rfl) ?_
      refine lv_iconst (v := 3) hx hb dX12_reads_17 (by decide) ?_
      refine lv_icmp_gt (tgt := 82) hx hb dX12_reads_18 (by decide) (fun c_9 => ?_) (fun c_9 => ?_)
      · have k_10 : (3 : Int) < (p2).toInt := z_lt c_9
        refine lv_iconst (v := 0) hx hb dX12_reads_82 (by decide) ?_
        refine W.widen (k := 0) (n := 0) (Nat.le_of_ble_eq_true rfl) (Nat.le_of_ble_eq_true rfl) ?_
        exact W.zret (v := 0) hx hb hr (by rfl) (fun t ht hW => ⟨⟨0, (), rfl, (by first | (unfold v_reads; rw [if_pos (by omega)]) | (unfold v_reads; rw [if_neg (by omega)]) | decide), trivial⟩, hS.F ht⟩) hS.2.2 dX12_reads_83
      · have k_11 : (3 : Int) ≥ (p2).toInt := z_nlt c_9
        refine lv_iload_n hx hb dX12_reads_21 rfl (lv_at hl 3 rfl) ?_
        refine lv_if_lt (tgt := 82) hx hb dX12_reads_22 (by decide) (fun c_12 => ?_) (fun c_12 => ?_)
        · have k_13 : (p3).toInt < (0 : Int) := z_lt c_12
          refine lv_iconst (v := 0) hx hb dX12_reads_82 (by decide) ?_
          refine W.widen (k := 0) (n := 0) (Nat.le_of_ble_eq_true rfl) (Nat.le_of_ble_eq_true rfl) ?_
          exact W.zret (v := 0) hx hb hr (by rfl) (fun t ht hW => ⟨⟨0, (), rfl, (by first | (unfold v_reads; rw [if_pos (by omega)]) | (unfold v_reads; rw [if_neg (by omega)]) | decide), trivial⟩, hS.F ht⟩) hS.2.2 dX12_reads_83
        · have k_14 : (p3).toInt ≥ (0 : Int) := z_nlt c_12
          refine lv_iload hx hb dX12_reads_25 (lv_at hl 4 rfl) ?_
          refine lv_if_lt (tgt := 82) hx hb dX12_reads_27 (by decide) (fun c_15 => ?_) (fun c_15 => ?_)
          · have k_16 : (p4).toInt < (0 : Int) := z_lt c_15
            refine lv_iconst (v := 0) hx hb dX12_reads_82 (by decide) ?_
            refine W.widen (k := 0) (n := 0) (Nat.le_of_ble_eq_true rfl) (Nat.le_of_ble_eq_true rfl) ?_
            exact W.zret (v := 0) hx hb hr (by rfl) (fun t ht hW => ⟨⟨0, (), rfl, (by first | (unfold v_reads; rw [if_pos (by omega)]) | (unfold v_reads; rw [if_neg (by omega)]) | decide), trivial⟩, hS.F ht⟩) hS.2.2 dX12_reads_83
          · have k_17 : (p4).toInt ≥ (0 : Int) := z_nlt c_15
            refine lv_iload hx hb dX12_reads_30 (lv_at hl 5 rfl) ?_
            refine lv_if_lt (tgt := 82) hx hb dX12_reads_32 (by decide) (fun c_18 => ?_) (fun c_18 => ?_)
            · have k_19 : (p5).toInt < (0 : Int) := z_lt c_18
              refine lv_iconst (v := 0) hx hb dX12_reads_82 (by decide) ?_
              refine W.widen (k := 0) (n := 0) (Nat.le_of_ble_eq_true rfl) (Nat.le_of_ble_eq_true rfl) ?_
              exact W.zret (v := 0) hx hb hr (by rfl) (fun t ht hW => ⟨⟨0, (), rfl, (by first | (unfold v_reads; rw [if_pos (by omega)]) | (unfold v_reads; rw [if_neg (by omega)]) | decide), trivial⟩, hS.F ht⟩) hS.2.2 dX12_reads_83
            · have k_20 : (p5).toInt ≥ (0 : Int) := z_nlt c_18
              refine lv_iload hx hb dX12_reads_35 (lv_at hl 6 rfl) ?_
              refine lv_if_lt (tgt := 82) hx hb dX12_reads_37 (by decide) (fun c_21 => ?_) (fun c_21 => ?_)
              · have k_22 : (p6).toInt < (0 : Int) := z_lt c_21
                refine lv_iconst (v := 0) hx hb dX12_reads_82 (by decide) ?_
                refine W.widen (k := 0) (n := 0) (Nat.le_of_ble_eq_true rfl) (Nat.le_of_ble_eq_true rfl) ?_
                exact W.zret (v := 0) hx hb hr (by rfl) (fun t ht hW => ⟨⟨0, (), rfl, (by first | (unfold v_reads; rw [if_pos (by omega)]) | (unfold v_reads; rw [if_neg (by omega)]) | decide), trivial⟩, hS.F ht⟩) hS.2.2 dX12_reads_83
              · have k_23 : (p6).toInt ≥ (0 : Int) := z_nlt c_21
                refine lv_iload_n hx hb dX12_reads_40 rfl (lv_at hl 3 rfl) ?_
                refine lv_bipush (v := 16) hx hb dX12_reads_41 (by decide) ?_
                refine lv_icmp_gt (tgt := 82) hx hb dX12_reads_43 (by decide) (fun c_24 => ?_) (fun c_24 => ?_)
                · have k_25 : (16 : Int) < (p3).toInt := z_lt c_24
                  refine lv_iconst (v := 0) hx hb dX12_reads_82 (by decide) ?_
                  refine W.widen (k := 0) (n := 0) (Nat.le_of_ble_eq_true rfl) (Nat.le_of_ble_eq_true rfl) ?_
                  exact W.zret (v := 0) hx hb hr (by rfl) (fun t ht hW => ⟨⟨0, (), rfl, (by first | (unfold v_reads; rw [if_pos (by omega)]) | (unfold v_reads; rw [if_neg (by omega)]) | decide), trivial⟩, hS.F ht⟩) hS.2.2 dX12_reads_83
                · have k_26 : (16 : Int) ≥ (p3).toInt := z_nlt c_24
                  refine lv_iload hx hb dX12_reads_46 (lv_at hl 4 rfl) ?_
                  refine lv_bipush (v := 16) hx hb dX12_reads_48 (by decide) ?_
                  refine lv_icmp_gt (tgt := 82) hx hb dX12_reads_50 (by decide) (fun c_27 => ?_) (fun c_27 => ?_)
                  · have k_28 : (16 : Int) < (p4).toInt := z_lt c_27
                    refine lv_iconst (v := 0) hx hb dX12_reads_82 (by decide) ?_
                    refine W.widen (k := 0) (n := 0) (Nat.le_of_ble_eq_true rfl) (Nat.le_of_ble_eq_true rfl) ?_
                    exact W.zret (v := 0) hx hb hr (by rfl) (fun t ht hW => ⟨⟨0, (), rfl, (by first | (unfold v_reads; rw [if_pos (by omega)]) | (unfold v_reads; rw [if_neg (by omega)]) | decide), trivial⟩, hS.F ht⟩) hS.2.2 dX12_reads_83
                  · have k_29 : (16 : Int) ≥ (p4).toInt := z_nlt c_27
                    refine lv_iload hx hb dX12_reads_53 (lv_at hl 5 rfl) ?_
                    refine lv_bipush (v := 16) hx hb dX12_reads_55 (by decide) ?_
                    refine lv_icmp_gt (tgt := 82) hx hb dX12_reads_57 (by decide) (fun c_30 => ?_) (fun c_30 => ?_)
                    · have k_31 : (16 : Int) < (p5).toInt := z_lt c_30
                      refine lv_iconst (v := 0) hx hb dX12_reads_82 (by decide) ?_
                      refine W.widen (k := 0) (n := 0) (Nat.le_of_ble_eq_true rfl) (Nat.le_of_ble_eq_true rfl) ?_
                      exact W.zret (v := 0) hx hb hr (by rfl) (fun t ht hW => ⟨⟨0, (), rfl, (by first | (unfold v_reads; rw [if_pos (by omega)]) | (unfold v_reads; rw [if_neg (by omega)]) | decide), trivial⟩, hS.F ht⟩) hS.2.2 dX12_reads_83
                    · have k_32 : (16 : Int) ≥ (p5).toInt := z_nlt c_30
                      refine lv_iload hx hb dX12_reads_60 (lv_at hl 6 rfl) ?_
                      refine lv_bipush (v := 16) hx hb dX12_reads_62 (by decide) ?_
                      refine lv_icmp_gt (tgt := 82) hx hb dX12_reads_64 (by decide) (fun c_33 => ?_) (fun c_33 => ?_)
                      · have k_34 : (16 : Int) < (p6).toInt := z_lt c_33
                        refine lv_iconst (v := 0) hx hb dX12_reads_82 (by decide) ?_
                        refine W.widen (k := 0) (n := 0) (Nat.le_of_ble_eq_true rfl) (Nat.le_of_ble_eq_true rfl) ?_
                        exact W.zret (v := 0) hx hb hr (by rfl) (fun t ht hW => ⟨⟨0, (), rfl, (by first | (unfold v_reads; rw [if_pos (by omega)]) | (unfold v_reads; rw [if_neg (by omega)]) | decide), trivial⟩, hS.F ht⟩) hS.2.2 dX12_reads_83
                      · have k_35 : (16 : Int) ≥ (p6).toInt := z_nlt c_33
                        refine lv_iload_n hx hb dX12_reads_67 rfl (lv_at hl 3 rfl) ?_
                        refine lv_iload hx hb dX12_reads_68 (lv_at hl 4 rfl) ?_
                        refine lv_iadd hx hb dX12_reads_70 ?_
                        refine lv_iload hx hb dX12_reads_71 (lv_at hl 5 rfl) ?_
                        refine lv_iadd hx hb dX12_reads_73 ?_
                        refine lv_iload hx hb dX12_reads_74 (lv_at hl 6 rfl) ?_
                        refine lv_iadd hx hb dX12_reads_76 ?_
                        refine lv_bipush (v := 16) hx hb dX12_reads_77 (by decide) ?_
                        refine lv_icmp_eq (tgt := 84) hx hb dX12_reads_79 (by decide) (fun c_36 => ?_) (fun c_36 => ?_)
                        · have k_37 : ((((p3 + p4) + p5) + p6)).toInt = (16 : Int) := z_eq c_36
                          obtain ⟨a_38, ha_38, rfl⟩ := z_nat p1 3 (by omega) (by omega) (by decide)
                          obtain ⟨a_39, ha_39, rfl⟩ := z_nat p2 4 (by omega) (by omega) (by decide)
                          refine lv_bipush (v := 16) hx hb dX12_reads_84 (by decide) ?_
                          refine lv_iload_n hx hb dX12_reads_86 rfl (lv_at hl 1 rfl) ?_
                          refine lv_imul hx hb dX12_reads_87 ?_
                          refine lv_topi (fun x_40 e_41 => ?_)
                          obtain rfl : x_40 = (nI (16 * a_38)) := e_41.trans (pk_mul 16 a_38)
                          refine lv_iconst (v := 4) hx hb dX12_reads_88 (by decide) ?_
                          refine lv_iload_n hx hb dX12_reads_89 rfl (lv_at hl 2 rfl) ?_
                          refine lv_imul hx hb dX12_reads_90 ?_
                          refine lv_topi (fun x_42 e_43 => ?_)
                          obtain rfl : x_42 = (nI (4 * a_39)) := e_43.trans (pk_mul 4 a_39)
                          refine lv_iadd hx hb dX12_reads_91 ?_
                          refine lv_topi (fun x_44 e_45 => ?_)
                          obtain rfl : x_44 = (nI ((16 * a_38) + (4 * a_39))) := e_45.trans (nI_add (16 * a_38) (4 * a_39))
                          refine lv_istore (lv' := [(7, .int (nI ((16 * a_38) + (4 * a_39)))), (0, .ref h0), (1, .int (nI a_38)), (2, .int (nI a_39)), (3, .int p3), (4, .int p4), (5, .int p5), (6, .int p6)]) hx hb dX12_reads_92 hl (by decide) rfl (fun ls hl => ?_)
                          refine lv_aload_n hx hb dX12_reads_94 rfl (lv_at hl 1 rfl) ?_
                          refine va_get (D := (dC, dI)) (ci := 12) (v := .ref h1) (C := RX12) (T := TX12) (N := 70) hx hb hts hiX12 hown hK hP 0 rfl rfl 35 (by decide) w__fieldLink_RX12_78_ShellHeapModel_reads_I_ (fun _ h9 => h9) rfl dX12_reads_95 ?_
                          refine lv_iload hx hb dX12_reads_98 (lv_at hl 0 rfl) ?_
                          refine lv_iload_n hx hb dX12_reads_100 rfl (lv_at hl 4 rfl) ?_
                          refine va_iast hx hb hK hP hD hS 1 0 rfl rfl (vp_in_nI (show (16 * a_38) + (4 * a_39) < 48 by omega) (by decide)) dX12_reads_101 (fun H_46 locs hP hD hS => ?_)
                          have hP : va_P (dC, dI) vwCl [(h0, .inr (12, [h0_0, h0_1, .int 0, h0_3, h0_4, h0_5, h0_6, h0_7, h0_8, h0_9, h0_10, h0_11, h0_12, h0_13, h0_14, h0_15, h0_16, h0_17, h0_18, h0_19, h0_20, h0_21, h0_22, h0_23, h0_24, h0_25, h0_26, h0_27, h0_28, h0_29, h0_30, h0_31, h0_32, h0_33, h0_34, .ref h1, h0_36, h0_37, h0_38, h0_39, h0_40, h0_41, h0_42, h0_43, h0_44, h0_45, h0_46, h0_47, h0_48, h0_49, h0_50, h0_51, h0_52, h0_53, h0_54, h0_55, h0_56, h0_57, h0_58, h0_59, h0_60, h0_61, h0_62, h0_63, h0_64, h0_65, h0_66, h0_67, h0_68, h0_69])), (h1, .inl (ch1, 48, .inl (upd fh1 ((nI ((16 * a_38) + (4 * a_39))) : Int32).toNatClampNeg p3)))] H_46 := hP
                          have hD : va_D A [(h0, .inr (12, [h0_0, h0_1, .int 0, h0_3, h0_4, h0_5, h0_6, h0_7, h0_8, h0_9, h0_10, h0_11, h0_12, h0_13, h0_14, h0_15, h0_16, h0_17, h0_18, h0_19, h0_20, h0_21, h0_22, h0_23, h0_24, h0_25, h0_26, h0_27, h0_28, h0_29, h0_30, h0_31, h0_32, h0_33, h0_34, .ref h1, h0_36, h0_37, h0_38, h0_39, h0_40, h0_41, h0_42, h0_43, h0_44, h0_45, h0_46, h0_47, h0_48, h0_49, h0_50, h0_51, h0_52, h0_53, h0_54, h0_55, h0_56, h0_57, h0_58, h0_59, h0_60, h0_61, h0_62, h0_63, h0_64, h0_65, h0_66, h0_67, h0_68, h0_69])), (h1, .inl (ch1, 48, .inl (upd fh1 ((nI ((16 * a_38) + (4 * a_39))) : Int32).toNatClampNeg p3)))] := hD
                          generalize (upd fh1 ((nI ((16 * a_38) + (4 * a_39))) : Int32).toNatClampNeg p3) = f_47 at hP hD
                          refine lv_aload_n hx hb dX12_reads_102 rfl (lv_at hl 1 rfl) ?_
                          refine va_get (D := (dC, dI)) (ci := 12) (v := .ref h1) (C := RX12) (T := TX12) (N := 70) hx hb hts hiX12 hown hK hP 0 rfl rfl 35 (by decide) w__fieldLink_RX12_78_ShellHeapModel_reads_I_ (fun _ h9 => h9) rfl dX12_reads_103 ?_
                          refine lv_iload hx hb dX12_reads_106 (lv_at hl 0 rfl) ?_
                          refine lv_iconst (v := 1) hx hb dX12_reads_108 (by decide) ?_
                          refine lv_iadd hx hb dX12_reads_109 ?_
                          refine lv_topi (fun x_48 e_49 => ?_)
                          obtain rfl : x_48 = (nI (((16 * a_38) + (4 * a_39)) + 1)) := e_49.trans (nI_add ((16 * a_38) + (4 * a_39)) 1)
                          refine lv_iload hx hb dX12_reads_110 (lv_at hl 5 rfl) ?_
                          refine va_iast hx hb hK hP hD hS 1 0 rfl rfl (vp_in_nI (show ((16 * a_38) + (4 * a_39)) + 1 < 48 by omega) (by decide)) dX12_reads_112 (fun H_50 locs hP hD hS => ?_)
                          have hP : va_P (dC, dI) vwCl [(h0, .inr (12, [h0_0, h0_1, .int 0, h0_3, h0_4, h0_5, h0_6, h0_7, h0_8, h0_9, h0_10, h0_11, h0_12, h0_13, h0_14, h0_15, h0_16, h0_17, h0_18, h0_19, h0_20, h0_21, h0_22, h0_23, h0_24, h0_25, h0_26, h0_27, h0_28, h0_29, h0_30, h0_31, h0_32, h0_33, h0_34, .ref h1, h0_36, h0_37, h0_38, h0_39, h0_40, h0_41, h0_42, h0_43, h0_44, h0_45, h0_46, h0_47, h0_48, h0_49, h0_50, h0_51, h0_52, h0_53, h0_54, h0_55, h0_56, h0_57, h0_58, h0_59, h0_60, h0_61, h0_62, h0_63, h0_64, h0_65, h0_66, h0_67, h0_68, h0_69])), (h1, .inl (ch1, 48, .inl (upd f_47 ((nI (((16 * a_38) + (4 * a_39)) + 1)) : Int32).toNatClampNeg p4)))] H_50 := hP
                          have hD : va_D A [(h0, .inr (12, [h0_0, h0_1, .int 0, h0_3, h0_4, h0_5, h0_6, h0_7, h0_8, h0_9, h0_10, h0_11, h0_12, h0_13, h0_14, h0_15, h0_16, h0_17, h0_18, h0_19, h0_20, h0_21, h0_22, h0_23, h0_24, h0_25, h0_26, h0_27, h0_28, h0_29, h0_30, h0_31, h0_32, h0_33, h0_34, .ref h1, h0_36, h0_37, h0_38, h0_39, h0_40, h0_41, h0_42, h0_43, h0_44, h0_45, h0_46, h0_47, h0_48, h0_49, h0_50, h0_51, h0_52, h0_53, h0_54, h0_55, h0_56, h0_57, h0_58, h0_59, h0_60, h0_61, h0_62, h0_63, h0_64, h0_65, h0_66, h0_67, h0_68, h0_69])), (h1, .inl (ch1, 48, .inl (upd f_47 ((nI (((16 * a_38) + (4 * a_39)) + 1)) : Int32).toNatClampNeg p4)))] := hD
                          generalize (upd f_47 ((nI (((16 * a_38) + (4 * a_39)) + 1)) : Int32).toNatClampNeg p4) = f_51 at hP hD
                          refine lv_aload_n hx hb dX12_reads_113 rfl (lv_at hl 1 rfl) ?_
                          refine va_get (D := (dC, dI)) (ci := 12) (v := .ref h1) (C := RX12) (T := TX12) (N := 70) hx hb hts hiX12 hown hK hP 0 rfl rfl 35 (by decide) w__fieldLink_RX12_78_ShellHeapModel_reads_I_ (fun _ h9 => h9) rfl dX12_reads_114 ?_
                          refine lv_iload hx hb dX12_reads_117 (lv_at hl 0 rfl) ?_
                          refine lv_iconst (v := 2) hx hb dX12_reads_119 (by decide) ?_
                          refine lv_iadd hx hb dX12_reads_120 ?_
                          refine lv_topi (fun x_52 e_53 => ?_)
                          obtain rfl : x_52 = (nI (((16 * a_38) + (4 * a_39)) + 2)) := e_53.trans (nI_add ((16 * a_38) + (4 * a_39)) 2)
                          refine lv_iload hx hb dX12_reads_121 (lv_at hl 6 rfl) ?_
                          refine va_iast hx hb hK hP hD hS 1 0 rfl rfl (vp_in_nI (show ((16 * a_38) + (4 * a_39)) + 2 < 48 by omega) (by decide)) dX12_reads_123 (fun H_54 locs hP hD hS => ?_)
                          have hP : va_P (dC, dI) vwCl [(h0, .inr (12, [h0_0, h0_1, .int 0, h0_3, h0_4, h0_5, h0_6, h0_7, h0_8, h0_9, h0_10, h0_11, h0_12, h0_13, h0_14, h0_15, h0_16, h0_17, h0_18, h0_19, h0_20, h0_21, h0_22, h0_23, h0_24, h0_25, h0_26, h0_27, h0_28, h0_29, h0_30, h0_31, h0_32, h0_33, h0_34, .ref h1, h0_36, h0_37, h0_38, h0_39, h0_40, h0_41, h0_42, h0_43, h0_44, h0_45, h0_46, h0_47, h0_48, h0_49, h0_50, h0_51, h0_52, h0_53, h0_54, h0_55, h0_56, h0_57, h0_58, h0_59, h0_60, h0_61, h0_62, h0_63, h0_64, h0_65, h0_66, h0_67, h0_68, h0_69])), (h1, .inl (ch1, 48, .inl (upd f_51 ((nI (((16 * a_38) + (4 * a_39)) + 2)) : Int32).toNatClampNeg p5)))] H_54 := hP
                          have hD : va_D A [(h0, .inr (12, [h0_0, h0_1, .int 0, h0_3, h0_4, h0_5, h0_6, h0_7, h0_8, h0_9, h0_10, h0_11, h0_12, h0_13, h0_14, h0_15, h0_16, h0_17, h0_18, h0_19, h0_20, h0_21, h0_22, h0_23, h0_24, h0_25, h0_26, h0_27, h0_28, h0_29, h0_30, h0_31, h0_32, h0_33, h0_34, .ref h1, h0_36, h0_37, h0_38, h0_39, h0_40, h0_41, h0_42, h0_43, h0_44, h0_45, h0_46, h0_47, h0_48, h0_49, h0_50, h0_51, h0_52, h0_53, h0_54, h0_55, h0_56, h0_57, h0_58, h0_59, h0_60, h0_61, h0_62, h0_63, h0_64, h0_65, h0_66, h0_67, h0_68, h0_69])), (h1, .inl (ch1, 48, .inl (upd f_51 ((nI (((16 * a_38) + (4 * a_39)) + 2)) : Int32).toNatClampNeg p5)))] := hD
                          generalize (upd f_51 ((nI (((16 * a_38) + (4 * a_39)) + 2)) : Int32).toNatClampNeg p5) = f_55 at hP hD
                          refine lv_aload_n hx hb dX12_reads_124 rfl (lv_at hl 1 rfl) ?_
                          refine va_get (D := (dC, dI)) (ci := 12) (v := .ref h1) (C := RX12) (T := TX12) (N := 70) hx hb hts hiX12 hown hK hP 0 rfl rfl 35 (by decide) w__fieldLink_RX12_78_ShellHeapModel_reads_I_ (fun _ h9 => h9) rfl dX12_reads_125 ?_
                          refine lv_iload hx hb dX12_reads_128 (lv_at hl 0 rfl) ?_
                          refine lv_iconst (v := 3) hx hb dX12_reads_130 (by decide) ?_
                          refine lv_iadd hx hb dX12_reads_131 ?_
                          refine lv_topi (fun x_56 e_57 => ?_)
                          obtain rfl : x_56 = (nI (((16 * a_38) + (4 * a_39)) + 3)) := e_57.trans (nI_add ((16 * a_38) + (4 * a_39)) 3)
                          refine lv_iload hx hb dX12_reads_132 (lv_at hl 7 rfl) ?_
                          refine va_iast hx hb hK hP hD hS 1 0 rfl rfl (vp_in_nI (show ((16 * a_38) + (4 * a_39)) + 3 < 48 by omega) (by decide)) dX12_reads_134 (fun H_58 locs hP hD hS => ?_)
                          have hP : va_P (dC, dI) vwCl [(h0, .inr (12, [h0_0, h0_1, .int 0, h0_3, h0_4, h0_5, h0_6, h0_7, h0_8, h0_9, h0_10, h0_11, h0_12, h0_13, h0_14, h0_15, h0_16, h0_17, h0_18, h0_19, h0_20, h0_21, h0_22, h0_23, h0_24, h0_25, h0_26, h0_27, h0_28, h0_29, h0_30, h0_31, h0_32, h0_33, h0_34, .ref h1, h0_36, h0_37, h0_38, h0_39, h0_40, h0_41, h0_42, h0_43, h0_44, h0_45, h0_46, h0_47, h0_48, h0_49, h0_50, h0_51, h0_52, h0_53, h0_54, h0_55, h0_56, h0_57, h0_58, h0_59, h0_60, h0_61, h0_62, h0_63, h0_64, h0_65, h0_66, h0_67, h0_68, h0_69])), (h1, .inl (ch1, 48, .inl (upd f_55 ((nI (((16 * a_38) + (4 * a_39)) + 3)) : Int32).toNatClampNeg p6)))] H_58 := hP
                          have hD : va_D A [(h0, .inr (12, [h0_0, h0_1, .int 0, h0_3, h0_4, h0_5, h0_6, h0_7, h0_8, h0_9, h0_10, h0_11, h0_12, h0_13, h0_14, h0_15, h0_16, h0_17, h0_18, h0_19, h0_20, h0_21, h0_22, h0_23, h0_24, h0_25, h0_26, h0_27, h0_28, h0_29, h0_30, h0_31, h0_32, h0_33, h0_34, .ref h1, h0_36, h0_37, h0_38, h0_39, h0_40, h0_41, h0_42, h0_43, h0_44, h0_45, h0_46, h0_47, h0_48, h0_49, h0_50, h0_51, h0_52, h0_53, h0_54, h0_55, h0_56, h0_57, h0_58, h0_59, h0_60, h0_61, h0_62, h0_63, h0_64, h0_65, h0_66, h0_67, h0_68, h0_69])), (h1, .inl (ch1, 48, .inl (upd f_55 ((nI (((16 * a_38) + (4 * a_39)) + 3)) : Int32).toNatClampNeg p6)))] := hD
                          generalize (upd f_55 ((nI (((16 * a_38) + (4 * a_39)) + 3)) : Int32).toNatClampNeg p6) = f_59 at hP hD
                          refine lv_iconst (v := 1) hx hb dX12_reads_135 (by decide) ?_
                          refine W.widen (k := 0) (n := 0) (Nat.le_of_ble_eq_true rfl) (Nat.le_of_ble_eq_true rfl) ?_
                          exact W.zret (v := 1) hx hb hr (by rfl) (fun t ht hW => ⟨⟨1, (), rfl, (by first | (unfold v_reads; rw [if_pos (by omega)]) | (unfold v_reads; rw [if_neg (by omega)]) | decide), trivial⟩, hS.F ht⟩) hS.2.2 dX12_reads_136
                        · have k_60 : ((((p3 + p4) + p5) + p6)).toInt ≠ (16 : Int) := z_ne c_36
                          refine lv_iconst (v := 0) hx hb dX12_reads_82 (by decide) ?_
                          refine W.widen (k := 0) (n := 0) (Nat.le_of_ble_eq_true rfl) (Nat.le_of_ble_eq_true rfl) ?_
                          exact W.zret (v := 0) hx hb hr (by rfl) (fun t ht hW => ⟨⟨0, (), rfl, (by first | (unfold v_reads; rw [if_pos (by omega)]) | (unfold v_reads; rw [if_neg (by omega)]) | decide), trivial⟩, hS.F ht⟩) hS.2.2 dX12_reads_83
  · have hw_4 : ¬ (0 ≤ p1.toInt ∧ p1.toInt < 3) := hw_4
    refine lv_if_eq (tgt := 82) hx hb dX12_reads_9 (by decide) (fun _ => ?_) (fun c_61 => absurd (by decide) c_61)
    refine lv_iconst (v := 0) hx hb dX12_reads_82 (by decide) ?_
    refine W.widen (k := 0) (n := 0) (Nat.le_of_ble_eq_true rfl) (Nat.le_of_ble_eq_true rfl) ?_
    exact W.zret (v := 0) hx hb hr (by rfl) (fun t ht hW => ⟨⟨0, (), rfl, (by first | (unfold v_reads; rw [if_pos (by omega)]) | (unfold v_reads; rw [if_neg (by omega)]) | decide), trivial⟩, hS.F ht⟩) hS.2.2 dX12_reads_83
def u_c_X12_readings : List Cond := .code yX12_readings cX12_readings 9 (some .int) :: ([.fieldLink RX12 145 "ShellHeapModel" "thrown" "I", .methodLink RX12 157 yX12_isLayer, .instanceMethod yX12_isLayer, .selects RX12 yX12_isLayer yX12_isLayer, .initialized RX12, .code yX12_isLayer cX12_isLayer 2 (some .boolean), .fieldLink RX12 151 "ShellHeapModel" "layers" "I"] ++ wsX120)
set_option maxRecDepth 20000 in
theorem gw_c_X12_readings_c_X12_isLayer_157 : GoodIn u_c_X12_readings (wsV RX12 157 RX12 yX12_isLayer u_c_X12_isLayer) := goodIn_r _ [2, 3, 4, 5, 6, 7, 8, 9, 10, 11, 12, 13, 14, 15, 16, 17, 18, 19, 20, 21, 22, 23, 24, 25, 26, 27, 28, 29, 30, 31, 32, 33, 34, 35, 36, 37, 38, 39, 40, 41, 42, 43, 44, 45, 46, 47, 48, 49, 50, 51, 52, 53, 54, 55, 56, 57, 58, 59, 60, 61, 62, 63, 64, 65, 66, 67, 68, 69, 70, 71, 72, 73, 74, 75, 76, 77] (by decide +kernel) (by decide +kernel)
set_option maxHeartbeats 4000000 in
set_option maxRecDepth 100000 in
theorem c_X12_readings (l : Launch) (dC : Nat → ClassId) (dI : Nat → Nat → Nat) (sz : Nat) (h0 : Nat) (p1 : Int32) (p2 : Int32) (p3 : Int32) (p4 : Int32) (p5 : Int32) (p6 : Int32) (h0_0 : Value) (h0_1 : Value) (h0_2 : Value) (h0_5 : Value) (h0_6 : Value) (h0_7 : Value) (h0_8 : Value) (h0_9 : Value) (h0_10 : Value) (h0_11 : Value) (h0_12 : Value) (h0_13 : Value) (h0_14 : Value) (h0_15 : Value) (h0_16 : Value) (h0_17 : Value) (h0_18 : Value) (h0_19 : Value) (h0_20 : Value) (h0_21 : Value) (h0_22 : Value) (h0_23 : Value) (h0_24 : Value) (h0_25 : Value) (h0_26 : Value) (h0_27 : Value) (h0_28 : Value) (h0_29 : Value) (h0_30 : Value) (h0_31 : Value) (h0_32 : Value) (h0_33 : Value) (h0_34 : Value) (h0_35 : Value) (h0_36 : Value) (h0_37 : Value) (h0_38 : Value) (h0_39 : Value) (h0_40 : Value) (h0_41 : Value) (h0_42 : Value) (h0_43 : Value) (h0_44 : Value) (h0_45 : Value) (h0_46 : Value) (h0_47 : Value) (h0_48 : Value) (h0_49 : Value) (h0_50 : Value) (h0_51 : Value) (h0_52 : Value) (h0_53 : Value) (h0_54 : Value) (h0_55 : Value) (h0_56 : Value) (h0_57 : Value) (h0_58 : Value) (h0_59 : Value) (h0_60 : Value) (h0_61 : Value) (h0_62 : Value) (h0_63 : Value) (h0_64 : Value) (h0_65 : Value) (h0_66 : Value) (h0_67 : Value) (h0_68 : Value) (h0_69 : Value) : Met l yX12_readings u_c_X12_readings ({ frames := 1, cells := 0, slots := 0, locals := 21 }) (va_Pc [.ref h0, .int p1, .int p2, .int p3, .int p4, .int p5, .int p6] (z_C (dC, dI) vwCl [(h0, .inr (12, [h0_0, h0_1, h0_2, .int 0, .int 0, h0_5, h0_6, h0_7, h0_8, h0_9, h0_10, h0_11, h0_12, h0_13, h0_14, h0_15, h0_16, h0_17, h0_18, h0_19, h0_20, h0_21, h0_22, h0_23, h0_24, h0_25, h0_26, h0_27, h0_28, h0_29, h0_30, h0_31, h0_32, h0_33, h0_34, h0_35, h0_36, h0_37, h0_38, h0_39, h0_40, h0_41, h0_42, h0_43, h0_44, h0_45, h0_46, h0_47, h0_48, h0_49, h0_50, h0_51, h0_52, h0_53, h0_54, h0_55, h0_56, h0_57, h0_58, h0_59, h0_60, h0_61, h0_62, h0_63, h0_64, h0_65, h0_66, h0_67, h0_68, h0_69]))] [] sz)) (va_Qi (fun (r : Int32) (_ : Unit) => r = (-1)) (fun (_ : Unit) (_ : State) => True) (va_A [(h0, .inr (12, [h0_0, h0_1, h0_2, .int 0, .int 0, h0_5, h0_6, h0_7, h0_8, h0_9, h0_10, h0_11, h0_12, h0_13, h0_14, h0_15, h0_16, h0_17, h0_18, h0_19, h0_20, h0_21, h0_22, h0_23, h0_24, h0_25, h0_26, h0_27, h0_28, h0_29, h0_30, h0_31, h0_32, h0_33, h0_34, h0_35, h0_36, h0_37, h0_38, h0_39, h0_40, h0_41, h0_42, h0_43, h0_44, h0_45, h0_46, h0_47, h0_48, h0_49, h0_50, h0_51, h0_52, h0_53, h0_54, h0_55, h0_56, h0_57, h0_58, h0_59, h0_60, h0_61, h0_62, h0_63, h0_64, h0_65, h0_66, h0_67, h0_68, h0_69]))] sz)) 0 0 (va_A [(h0, .inr (12, [h0_0, h0_1, h0_2, .int 0, .int 0, h0_5, h0_6, h0_7, h0_8, h0_9, h0_10, h0_11, h0_12, h0_13, h0_14, h0_15, h0_16, h0_17, h0_18, h0_19, h0_20, h0_21, h0_22, h0_23, h0_24, h0_25, h0_26, h0_27, h0_28, h0_29, h0_30, h0_31, h0_32, h0_33, h0_34, h0_35, h0_36, h0_37, h0_38, h0_39, h0_40, h0_41, h0_42, h0_43, h0_44, h0_45, h0_46, h0_47, h0_48, h0_49, h0_50, h0_51, h0_52, h0_53, h0_54, h0_55, h0_56, h0_57, h0_58, h0_59, h0_60, h0_61, h0_62, h0_63, h0_64, h0_65, h0_66, h0_67, h0_68, h0_69]))] sz) := by
  refine Met.ofW (cc := cX12_readings) (maxL := 9) (ret := (some .int)) (by decide) rfl ?_
  intro p e s m args below meth c s₁ B hml hv
  obtain ⟨rfl, hsz, hP, hK, hD0⟩ := hv
  have hx := B.exec
  have hb := B.bytes
  have hr := B.returns
  have hts := atoms_spec (ws := u_c_X12_readings) B.pre
  have hown : s.vm.findClass RX12 = some m.cls := findClass_of_methodNamed B.named
  have hlocks := B.notSynchronized
  subst hsz
  have hD := hD0.self (sz := s.heap.size)
  generalize hAe : va_A [(h0, .inr (12, [h0_0, h0_1, h0_2, .int 0, .int 0, h0_5, h0_6, h0_7, h0_8, h0_9, h0_10, h0_11, h0_12, h0_13, h0_14, h0_15, h0_16, h0_17, h0_18, h0_19, h0_20, h0_21, h0_22, h0_23, h0_24, h0_25, h0_26, h0_27, h0_28, h0_29, h0_30, h0_31, h0_32, h0_33, h0_34, h0_35, h0_36, h0_37, h0_38, h0_39, h0_40, h0_41, h0_42, h0_43, h0_44, h0_45, h0_46, h0_47, h0_48, h0_49, h0_50, h0_51, h0_52, h0_53, h0_54, h0_55, h0_56, h0_57, h0_58, h0_59, h0_60, h0_61, h0_62, h0_63, h0_64, h0_65, h0_66, h0_67, h0_68, h0_69]))] s.heap.size = A at hD ⊢
  have hA : ∀ q : Nat, s.heap.size ≤ q → A q := fun q h => by rw [← hAe]; exact Or.inr h
  have hS : va_S A s.heap s.heap [] := va_S.rf
  have hP : va_P (dC, dI) vwCl [(h0, .inr (12, [h0_0, h0_1, h0_2, .int 0, .int 0, h0_5, h0_6, h0_7, h0_8, h0_9, h0_10, h0_11, h0_12, h0_13, h0_14, h0_15, h0_16, h0_17, h0_18, h0_19, h0_20, h0_21, h0_22, h0_23, h0_24, h0_25, h0_26, h0_27, h0_28, h0_29, h0_30, h0_31, h0_32, h0_33, h0_34, h0_35, h0_36, h0_37, h0_38, h0_39, h0_40, h0_41, h0_42, h0_43, h0_44, h0_45, h0_46, h0_47, h0_48, h0_49, h0_50, h0_51, h0_52, h0_53, h0_54, h0_55, h0_56, h0_57, h0_58, h0_59, h0_60, h0_61, h0_62, h0_63, h0_64, h0_65, h0_66, h0_67, h0_68, h0_69]))] s.heap := hP
  have w__fieldLink_RX12_145_ShellHeapModel_thrown_I_ := hts (.fieldLink RX12 145 "ShellHeapModel" "thrown" "I") (by decide +kernel)
  have hiX12 := show ∀ w ∈ u_ws RX12 TX12 70, w ∈ u_c_X12_readings by decide +kernel
  have hl := lv_entry ([.ref h0, .int p1, .int p2, .int p3, .int p4, .int p5, .int p6]) (n := 9) (Nat.le_of_ble_eq_true rfl)
  rw [lg_entry_eq]
  generalize (lg_sl ([.ref h0, .int p1, .int p2, .int p3, .int p4, .int p5, .int p6]) ++ List.replicate (9 - (lg_sl ([.ref h0, .int p1, .int p2, .int p3, .int p4, .int p5, .int p6])).length) Slot.unset).toArray = ls at hl ⊢
  have hl : lv_has ls 9 [(0, .ref h0), (1, .int p1), (2, .int p2), (3, .int p3), (4, .int p4), (5, .int p5), (6, .int p6)] := hl
  refine lv_aload_n hx hb dX12_readings_0 rfl (lv_at hl 0 rfl) ?_
  refine lv_iconst (v := 0) hx hb dX12_readings_1 (by decide) ?_
  refine va_put (D := (dC, dI)) (ci := 12) (v := .int 0) (ty := .int) (C := RX12) (T := TX12) (N := 70) hx hb hts hiX12 tyX12 tyX12_ok nmX12 hown hK hP hD hS 0 rfl rfl 2 (by decide) w__fieldLink_RX12_145_ShellHeapModel_thrown_I_ (fun _ h9 => h9) rfl (by decide +kernel) rfl rfl (Nat.le_of_ble_eq_true rfl) dX12_readings_2 (fun H_1 locs hP hD hS => ?_)
  have hP : va_P (dC, dI) vwCl [(h0, .inr (12, [h0_0, h0_1, .int 0, .int 0, .int 0, h0_5, h0_6, h0_7, h0_8, h0_9, h0_10, h0_11, h0_12, h0_13, h0_14, h0_15, h0_16, h0_17, h0_18, h0_19, h0_20, h0_21, h0_22, h0_23, h0_24, h0_25, h0_26, h0_27, h0_28, h0_29, h0_30, h0_31, h0_32, h0_33, h0_34, h0_35, h0_36, h0_37, h0_38, h0_39, h0_40, h0_41, h0_42, h0_43, h0_44, h0_45, h0_46, h0_47, h0_48, h0_49, h0_50, h0_51, h0_52, h0_53, h0_54, h0_55, h0_56, h0_57, h0_58, h0_59, h0_60, h0_61, h0_62, h0_63, h0_64, h0_65, h0_66, h0_67, h0_68, h0_69]))] H_1 := hP
  have hD : va_D A [(h0, .inr (12, [h0_0, h0_1, .int 0, .int 0, .int 0, h0_5, h0_6, h0_7, h0_8, h0_9, h0_10, h0_11, h0_12, h0_13, h0_14, h0_15, h0_16, h0_17, h0_18, h0_19, h0_20, h0_21, h0_22, h0_23, h0_24, h0_25, h0_26, h0_27, h0_28, h0_29, h0_30, h0_31, h0_32, h0_33, h0_34, h0_35, h0_36, h0_37, h0_38, h0_39, h0_40, h0_41, h0_42, h0_43, h0_44, h0_45, h0_46, h0_47, h0_48, h0_49, h0_50, h0_51, h0_52, h0_53, h0_54, h0_55, h0_56, h0_57, h0_58, h0_59, h0_60, h0_61, h0_62, h0_63, h0_64, h0_65, h0_66, h0_67, h0_68, h0_69]))] := hD
  refine lv_aload_n hx hb dX12_readings_5 rfl (lv_at hl 0 rfl) ?_
  refine lv_iload_n hx hb dX12_readings_6 rfl (lv_at hl 1 rfl) ?_
  have hPc := hP.sub (ws' := [(h0, .inr (12, [h0_0, h0_1, .int 0, .int 0, .int 0, h0_5, h0_6, h0_7, h0_8, h0_9, h0_10, h0_11, h0_12, h0_13, h0_14, h0_15, h0_16, h0_17, h0_18, h0_19, h0_20, h0_21, h0_22, h0_23, h0_24, h0_25, h0_26, h0_27, h0_28, h0_29, h0_30, h0_31, h0_32, h0_33, h0_34, h0_35, h0_36, h0_37, h0_38, h0_39, h0_40, h0_41, h0_42, h0_43, h0_44, h0_45, h0_46, h0_47, h0_48, h0_49, h0_50, h0_51, h0_52, h0_53, h0_54, h0_55, h0_56, h0_57, h0_58, h0_59, h0_60, h0_61, h0_62, h0_63, h0_64, h0_65, h0_66, h0_67, h0_68, h0_69]))]) [0] rfl
  have hDc := hD.sub (ws' := [(h0, .inr (12, [h0_0, h0_1, .int 0, .int 0, .int 0, h0_5, h0_6, h0_7, h0_8, h0_9, h0_10, h0_11, h0_12, h0_13, h0_14, h0_15, h0_16, h0_17, h0_18, h0_19, h0_20, h0_21, h0_22, h0_23, h0_24, h0_25, h0_26, h0_27, h0_28, h0_29, h0_30, h0_31, h0_32, h0_33, h0_34, h0_35, h0_36, h0_37, h0_38, h0_39, h0_40, h0_41, h0_42, h0_43, h0_44, h0_45, h0_46, h0_47, h0_48, h0_49, h0_50, h0_51, h0_52, h0_53, h0_54, h0_55, h0_56, h0_57, h0_58, h0_59, h0_60, h0_61, h0_62, h0_63, h0_64, h0_65, h0_66, h0_67, h0_68, h0_69]))]) [0] (by decide) rfl
  have hKc := hK.sub (tys' := []) [] rfl
  have hFc := va_free (ws := []) (wc := []) (z_D0 _) hS hA [] rfl
  refine va_calli (va_runV (As := [.int p1]) (rest := []) ⟨hx, hb, hml, hown, hts⟩ (c_X12_isLayer l dC dI H_1.size h0 p1 h0_0 h0_1 (.int 0) (.int 0) h0_5 h0_6 h0_7 h0_8 h0_9 h0_10 h0_11 h0_12 h0_13 h0_14 h0_15 h0_16 h0_17 h0_18 h0_19 h0_20 h0_21 h0_22 h0_23 h0_24 h0_25 h0_26 h0_27 h0_28 h0_29 h0_30 h0_31 h0_32 h0_33 h0_34 h0_35 h0_36 h0_37 h0_38 h0_39 h0_40 h0_41 h0_42 h0_43 h0_44 h0_45 h0_46 h0_47 h0_48 h0_49 h0_50 h0_51 h0_52 h0_53 h0_54 h0_55 h0_56 h0_57 h0_58 h0_59 h0_60 h0_61 h0_62 h0_63 h0_64 h0_65 h0_66 h0_67 h0_68 h0_69) (cwV 1 hts gw_c_X12_readings_c_X12_isLayer_157 rfl rfl rfl (by decide +kernel) ⟨Nat.le_of_ble_eq_true rfl, Nat.le_of_ble_eq_true rfl⟩) ⟨z_blind, va_recv hKc hPc (ci := 12) (q0 := 0) rfl rfl, z_pre hPc hKc hDc⟩ rfl rfl hl.1 rfl (lv_room (Nat.le_of_ble_eq_true rfl)) dX12_readings_7 ⟨Nat.le_of_ble_eq_true rfl, Nat.le_of_ble_eq_true rfl⟩) hS (fun q _ h => hFc q h) hFc (fun r_3 u t H_2 locs ht hvm hw_4 hB hz1 hk1 hS => ?_)
  have hP := z_pure hP hk1
  have hP : va_P (dC, dI) vwCl [(h0, .inr (12, [h0_0, h0_1, .int 0, .int 0, .int 0, h0_5, h0_6, h0_7, h0_8, h0_9, h0_10, h0_11, h0_12, h0_13, h0_14, h0_15, h0_16, h0_17, h0_18, h0_19, h0_20, h0_21, h0_22, h0_23, h0_24, h0_25, h0_26, h0_27, h0_28, h0_29, h0_30, h0_31, h0_32, h0_33, h0_34, h0_35, h0_36, h0_37, h0_38, h0_39, h0_40, h0_41, h0_42, h0_43, h0_44, h0_45, h0_46, h0_47, h0_48, h0_49, h0_50, h0_51, h0_52, h0_53, h0_54, h0_55, h0_56, h0_57, h0_58, h0_59, h0_60, h0_61, h0_62, h0_63, h0_64, h0_65, h0_66, h0_67, h0_68, h0_69]))] H_2 := hP
  have hD : va_D A [(h0, .inr (12, [h0_0, h0_1, .int 0, .int 0, .int 0, h0_5, h0_6, h0_7, h0_8, h0_9, h0_10, h0_11, h0_12, h0_13, h0_14, h0_15, h0_16, h0_17, h0_18, h0_19, h0_20, h0_21, h0_22, h0_23, h0_24, h0_25, h0_26, h0_27, h0_28, h0_29, h0_30, h0_31, h0_32, h0_33, h0_34, h0_35, h0_36, h0_37, h0_38, h0_39, h0_40, h0_41, h0_42, h0_43, h0_44, h0_45, h0_46, h0_47, h0_48, h0_49, h0_50, h0_51, h0_52, h0_53, h0_54, h0_55, h0_56, h0_57, h0_58, h0_59, h0_60, h0_61, h0_62, h0_63, h0_64, h0_65, h0_66, h0_67, h0_68, h0_69]))] := hD
  clear hPc hDc hKc
  obtain rfl : r_3 = 0 := hw_4
  refine lv_if_eq (tgt := 64) hx hb dX12_readings_10 (by decide) (fun _ => ?_) (fun c_5 => absurd (by decide) c_5)
  refine lv_iconst (v := (-1)) hx hb dX12_readings_64 (by decide) ?_
  refine W.widen (k := 0) (n := 0) (Nat.le_of_ble_eq_true rfl) (Nat.le_of_ble_eq_true rfl) ?_
  exact W.iret (v := (-1)) hx hb hr (fun t ht hW => ⟨⟨(-1), (), rfl, rfl, trivial⟩, hS.F ht⟩) hS.2.2 dX12_readings_65
def u_c_X12_season : List Cond := .code yX12_season cX12_season 4 (some .int) :: ([.fieldLink RX12 145 "ShellHeapModel" "thrown" "I", .methodLink RX12 157 yX12_isLayer, .instanceMethod yX12_isLayer, .selects RX12 yX12_isLayer yX12_isLayer, .initialized RX12, .code yX12_isLayer cX12_isLayer 2 (some .boolean), .fieldLink RX12 151 "ShellHeapModel" "layers" "I"] ++ wsX120)
set_option maxRecDepth 20000 in
theorem gw_c_X12_season_c_X12_isLayer_157 : GoodIn u_c_X12_season (wsV RX12 157 RX12 yX12_isLayer u_c_X12_isLayer) := goodIn_r _ [2, 3, 4, 5, 6, 7, 8, 9, 10, 11, 12, 13, 14, 15, 16, 17, 18, 19, 20, 21, 22, 23, 24, 25, 26, 27, 28, 29, 30, 31, 32, 33, 34, 35, 36, 37, 38, 39, 40, 41, 42, 43, 44, 45, 46, 47, 48, 49, 50, 51, 52, 53, 54, 55, 56, 57, 58, 59, 60, 61, 62, 63, 64, 65, 66, 67, 68, 69, 70, 71, 72, 73, 74, 75, 76, 77] (by decide +kernel) (by decide +kernel)
set_option maxHeartbeats 4000000 in
set_option maxRecDepth 100000 in
theorem c_X12_season (l : Launch) (dC : Nat → ClassId) (dI : Nat → Nat → Nat) (sz : Nat) (h0 : Nat) (p1 : Int32) (p2 : Int32) (p3 : Int32) (h0_0 : Value) (h0_1 : Value) (h0_2 : Value) (h0_5 : Value) (h0_6 : Value) (h0_7 : Value) (h0_8 : Value) (h0_9 : Value) (h0_10 : Value) (h0_11 : Value) (h0_12 : Value) (h0_13 : Value) (h0_14 : Value) (h0_15 : Value) (h0_16 : Value) (h0_17 : Value) (h0_18 : Value) (h0_19 : Value) (h0_20 : Value) (h0_21 : Value) (h0_22 : Value) (h0_23 : Value) (h0_24 : Value) (h0_25 : Value) (h0_26 : Value) (h0_27 : Value) (h0_28 : Value) (h0_29 : Value) (h0_30 : Value) (h0_31 : Value) (h0_32 : Value) (h0_33 : Value) (h0_34 : Value) (h0_35 : Value) (h0_36 : Value) (h0_37 : Value) (h0_38 : Value) (h0_39 : Value) (h0_40 : Value) (h0_41 : Value) (h0_42 : Value) (h0_43 : Value) (h0_44 : Value) (h0_45 : Value) (h0_46 : Value) (h0_47 : Value) (h0_48 : Value) (h0_49 : Value) (h0_50 : Value) (h0_51 : Value) (h0_52 : Value) (h0_53 : Value) (h0_54 : Value) (h0_55 : Value) (h0_56 : Value) (h0_57 : Value) (h0_58 : Value) (h0_59 : Value) (h0_60 : Value) (h0_61 : Value) (h0_62 : Value) (h0_63 : Value) (h0_64 : Value) (h0_65 : Value) (h0_66 : Value) (h0_67 : Value) (h0_68 : Value) (h0_69 : Value) : Met l yX12_season u_c_X12_season ({ frames := 1, cells := 0, slots := 0, locals := 21 }) (va_Pc [.ref h0, .int p1, .int p2, .int p3] (z_C (dC, dI) vwCl [(h0, .inr (12, [h0_0, h0_1, h0_2, .int 0, .int 0, h0_5, h0_6, h0_7, h0_8, h0_9, h0_10, h0_11, h0_12, h0_13, h0_14, h0_15, h0_16, h0_17, h0_18, h0_19, h0_20, h0_21, h0_22, h0_23, h0_24, h0_25, h0_26, h0_27, h0_28, h0_29, h0_30, h0_31, h0_32, h0_33, h0_34, h0_35, h0_36, h0_37, h0_38, h0_39, h0_40, h0_41, h0_42, h0_43, h0_44, h0_45, h0_46, h0_47, h0_48, h0_49, h0_50, h0_51, h0_52, h0_53, h0_54, h0_55, h0_56, h0_57, h0_58, h0_59, h0_60, h0_61, h0_62, h0_63, h0_64, h0_65, h0_66, h0_67, h0_68, h0_69]))] [] sz)) (va_Qi (fun (r : Int32) (_ : Unit) => r = (-1)) (fun (_ : Unit) (_ : State) => True) (va_A [(h0, .inr (12, [h0_0, h0_1, h0_2, .int 0, .int 0, h0_5, h0_6, h0_7, h0_8, h0_9, h0_10, h0_11, h0_12, h0_13, h0_14, h0_15, h0_16, h0_17, h0_18, h0_19, h0_20, h0_21, h0_22, h0_23, h0_24, h0_25, h0_26, h0_27, h0_28, h0_29, h0_30, h0_31, h0_32, h0_33, h0_34, h0_35, h0_36, h0_37, h0_38, h0_39, h0_40, h0_41, h0_42, h0_43, h0_44, h0_45, h0_46, h0_47, h0_48, h0_49, h0_50, h0_51, h0_52, h0_53, h0_54, h0_55, h0_56, h0_57, h0_58, h0_59, h0_60, h0_61, h0_62, h0_63, h0_64, h0_65, h0_66, h0_67, h0_68, h0_69]))] sz)) 0 0 (va_A [(h0, .inr (12, [h0_0, h0_1, h0_2, .int 0, .int 0, h0_5, h0_6, h0_7, h0_8, h0_9, h0_10, h0_11, h0_12, h0_13, h0_14, h0_15, h0_16, h0_17, h0_18, h0_19, h0_20, h0_21, h0_22, h0_23, h0_24, h0_25, h0_26, h0_27, h0_28, h0_29, h0_30, h0_31, h0_32, h0_33, h0_34, h0_35, h0_36, h0_37, h0_38, h0_39, h0_40, h0_41, h0_42, h0_43, h0_44, h0_45, h0_46, h0_47, h0_48, h0_49, h0_50, h0_51, h0_52, h0_53, h0_54, h0_55, h0_56, h0_57, h0_58, h0_59, h0_60, h0_61, h0_62, h0_63, h0_64, h0_65, h0_66, h0_67, h0_68, h0_69]))] sz) := by
  refine Met.ofW (cc := cX12_season) (maxL := 4) (ret := (some .int)) (by decide) rfl ?_
  intro p e s m args below meth c s₁ B hml hv
  obtain ⟨rfl, hsz, hP, hK, hD0⟩ := hv
  have hx := B.exec
  have hb := B.bytes
  have hr := B.returns
  have hts := atoms_spec (ws := u_c_X12_season) B.pre
  have hown : s.vm.findClass RX12 = some m.cls := findClass_of_methodNamed B.named
  have hlocks := B.notSynchronized
  subst hsz
  have hD := hD0.self (sz := s.heap.size)
  generalize hAe : va_A [(h0, .inr (12, [h0_0, h0_1, h0_2, .int 0, .int 0, h0_5, h0_6, h0_7, h0_8, h0_9, h0_10, h0_11, h0_12, h0_13, h0_14, h0_15, h0_16, h0_17, h0_18, h0_19, h0_20, h0_21, h0_22, h0_23, h0_24, h0_25, h0_26, h0_27, h0_28, h0_29, h0_30, h0_31, h0_32, h0_33, h0_34, h0_35, h0_36, h0_37, h0_38, h0_39, h0_40, h0_41, h0_42, h0_43, h0_44, h0_45, h0_46, h0_47, h0_48, h0_49, h0_50, h0_51, h0_52, h0_53, h0_54, h0_55, h0_56, h0_57, h0_58, h0_59, h0_60, h0_61, h0_62, h0_63, h0_64, h0_65, h0_66, h0_67, h0_68, h0_69]))] s.heap.size = A at hD ⊢
  have hA : ∀ q : Nat, s.heap.size ≤ q → A q := fun q h => by rw [← hAe]; exact Or.inr h
  have hS : va_S A s.heap s.heap [] := va_S.rf
  have hP : va_P (dC, dI) vwCl [(h0, .inr (12, [h0_0, h0_1, h0_2, .int 0, .int 0, h0_5, h0_6, h0_7, h0_8, h0_9, h0_10, h0_11, h0_12, h0_13, h0_14, h0_15, h0_16, h0_17, h0_18, h0_19, h0_20, h0_21, h0_22, h0_23, h0_24, h0_25, h0_26, h0_27, h0_28, h0_29, h0_30, h0_31, h0_32, h0_33, h0_34, h0_35, h0_36, h0_37, h0_38, h0_39, h0_40, h0_41, h0_42, h0_43, h0_44, h0_45, h0_46, h0_47, h0_48, h0_49, h0_50, h0_51, h0_52, h0_53, h0_54, h0_55, h0_56, h0_57, h0_58, h0_59, h0_60, h0_61, h0_62, h0_63, h0_64, h0_65, h0_66, h0_67, h0_68, h0_69]))] s.heap := hP
  have w__fieldLink_RX12_145_ShellHeapModel_thrown_I_ := hts (.fieldLink RX12 145 "ShellHeapModel" "thrown" "I") (by decide +kernel)
  have hiX12 := show ∀ w ∈ u_ws RX12 TX12 70, w ∈ u_c_X12_season by decide +kernel
  have hl := lv_entry ([.ref h0, .int p1, .int p2, .int p3]) (n := 4) (Nat.le_of_ble_eq_true rfl)
  rw [lg_entry_eq]
  generalize (lg_sl ([.ref h0, .int p1, .int p2, .int p3]) ++ List.replicate (4 - (lg_sl ([.ref h0, .int p1, .int p2, .int p3])).length) Slot.unset).toArray = ls at hl ⊢
  have hl : lv_has ls 4 [(0, .ref h0), (1, .int p1), (2, .int p2), (3, .int p3)] := hl
  refine lv_aload_n hx hb dX12_season_0 rfl (lv_at hl 0 rfl) ?_
  refine lv_iconst (v := 0) hx hb dX12_season_1 (by decide) ?_
  refine va_put (D := (dC, dI)) (ci := 12) (v := .int 0) (ty := .int) (C := RX12) (T := TX12) (N := 70) hx hb hts hiX12 tyX12 tyX12_ok nmX12 hown hK hP hD hS 0 rfl rfl 2 (by decide) w__fieldLink_RX12_145_ShellHeapModel_thrown_I_ (fun _ h9 => h9) rfl (by decide +kernel) rfl rfl (Nat.le_of_ble_eq_true rfl) dX12_season_2 (fun H_1 locs hP hD hS => ?_)
  have hP : va_P (dC, dI) vwCl [(h0, .inr (12, [h0_0, h0_1, .int 0, .int 0, .int 0, h0_5, h0_6, h0_7, h0_8, h0_9, h0_10, h0_11, h0_12, h0_13, h0_14, h0_15, h0_16, h0_17, h0_18, h0_19, h0_20, h0_21, h0_22, h0_23, h0_24, h0_25, h0_26, h0_27, h0_28, h0_29, h0_30, h0_31, h0_32, h0_33, h0_34, h0_35, h0_36, h0_37, h0_38, h0_39, h0_40, h0_41, h0_42, h0_43, h0_44, h0_45, h0_46, h0_47, h0_48, h0_49, h0_50, h0_51, h0_52, h0_53, h0_54, h0_55, h0_56, h0_57, h0_58, h0_59, h0_60, h0_61, h0_62, h0_63, h0_64, h0_65, h0_66, h0_67, h0_68, h0_69]))] H_1 := hP
  have hD : va_D A [(h0, .inr (12, [h0_0, h0_1, .int 0, .int 0, .int 0, h0_5, h0_6, h0_7, h0_8, h0_9, h0_10, h0_11, h0_12, h0_13, h0_14, h0_15, h0_16, h0_17, h0_18, h0_19, h0_20, h0_21, h0_22, h0_23, h0_24, h0_25, h0_26, h0_27, h0_28, h0_29, h0_30, h0_31, h0_32, h0_33, h0_34, h0_35, h0_36, h0_37, h0_38, h0_39, h0_40, h0_41, h0_42, h0_43, h0_44, h0_45, h0_46, h0_47, h0_48, h0_49, h0_50, h0_51, h0_52, h0_53, h0_54, h0_55, h0_56, h0_57, h0_58, h0_59, h0_60, h0_61, h0_62, h0_63, h0_64, h0_65, h0_66, h0_67, h0_68, h0_69]))] := hD
  refine lv_aload_n hx hb dX12_season_5 rfl (lv_at hl 0 rfl) ?_
  refine lv_iload_n hx hb dX12_season_6 rfl (lv_at hl 1 rfl) ?_
  have hPc := hP.sub (ws' := [(h0, .inr (12, [h0_0, h0_1, .int 0, .int 0, .int 0, h0_5, h0_6, h0_7, h0_8, h0_9, h0_10, h0_11, h0_12, h0_13, h0_14, h0_15, h0_16, h0_17, h0_18, h0_19, h0_20, h0_21, h0_22, h0_23, h0_24, h0_25, h0_26, h0_27, h0_28, h0_29, h0_30, h0_31, h0_32, h0_33, h0_34, h0_35, h0_36, h0_37, h0_38, h0_39, h0_40, h0_41, h0_42, h0_43, h0_44, h0_45, h0_46, h0_47, h0_48, h0_49, h0_50, h0_51, h0_52, h0_53, h0_54, h0_55, h0_56, h0_57, h0_58, h0_59, h0_60, h0_61, h0_62, h0_63, h0_64, h0_65, h0_66, h0_67, h0_68, h0_69]))]) [0] rfl
  have hDc := hD.sub (ws' := [(h0, .inr (12, [h0_0, h0_1, .int 0, .int 0, .int 0, h0_5, h0_6, h0_7, h0_8, h0_9, h0_10, h0_11, h0_12, h0_13, h0_14, h0_15, h0_16, h0_17, h0_18, h0_19, h0_20, h0_21, h0_22, h0_23, h0_24, h0_25, h0_26, h0_27, h0_28, h0_29, h0_30, h0_31, h0_32, h0_33, h0_34, h0_35, h0_36, h0_37, h0_38, h0_39, h0_40, h0_41, h0_42, h0_43, h0_44, h0_45, h0_46, h0_47, h0_48, h0_49, h0_50, h0_51, h0_52, h0_53, h0_54, h0_55, h0_56, h0_57, h0_58, h0_59, h0_60, h0_61, h0_62, h0_63, h0_64, h0_65, h0_66, h0_67, h0_68, h0_69]))]) [0] (by decide) rfl
  have hKc := hK.sub (tys' := []) [] rfl
  have hFc := va_free (ws := []) (wc := []) (z_D0 _) hS hA [] rfl
  refine va_calli (va_runV (As := [.int p1]) (rest := []) ⟨hx, hb, hml, hown, hts⟩ (c_X12_isLayer l dC dI H_1.size h0 p1 h0_0 h0_1 (.int 0) (.int 0) h0_5 h0_6 h0_7 h0_8 h0_9 h0_10 h0_11 h0_12 h0_13 h0_14 h0_15 h0_16 h0_17 h0_18 h0_19 h0_20 h0_21 h0_22 h0_23 h0_24 h0_25 h0_26 h0_27 h0_28 h0_29 h0_30 h0_31 h0_32 h0_33 h0_34 h0_35 h0_36 h0_37 h0_38 h0_39 h0_40 h0_41 h0_42 h0_43 h0_44 h0_45 h0_46 h0_47 h0_48 h0_49 h0_50 h0_51 h0_52 h0_53 h0_54 h0_55 h0_56 h0_57 h0_58 h0_59 h0_60 h0_61 h0_62 h0_63 h0_64 h0_65 h0_66 h0_67 h0_68 h0_69) (cwV 1 hts gw_c_X12_season_c_X12_isLayer_157 rfl rfl rfl (by decide +kernel) ⟨Nat.le_of_ble_eq_true rfl, Nat.le_of_ble_eq_true rfl⟩) ⟨z_blind, va_recv hKc hPc (ci := 12) (q0 := 0) rfl rfl, z_pre hPc hKc hDc⟩ rfl rfl hl.1 rfl (lv_room (Nat.le_of_ble_eq_true rfl)) dX12_season_7 ⟨Nat.le_of_ble_eq_true rfl, Nat.le_of_ble_eq_true rfl⟩) hS (fun q _ h => hFc q h) hFc (fun r_3 u t H_2 locs ht hvm hw_4 hB hz1 hk1 hS => ?_)
  have hP := z_pure hP hk1
  have hP : va_P (dC, dI) vwCl [(h0, .inr (12, [h0_0, h0_1, .int 0, .int 0, .int 0, h0_5, h0_6, h0_7, h0_8, h0_9, h0_10, h0_11, h0_12, h0_13, h0_14, h0_15, h0_16, h0_17, h0_18, h0_19, h0_20, h0_21, h0_22, h0_23, h0_24, h0_25, h0_26, h0_27, h0_28, h0_29, h0_30, h0_31, h0_32, h0_33, h0_34, h0_35, h0_36, h0_37, h0_38, h0_39, h0_40, h0_41, h0_42, h0_43, h0_44, h0_45, h0_46, h0_47, h0_48, h0_49, h0_50, h0_51, h0_52, h0_53, h0_54, h0_55, h0_56, h0_57, h0_58, h0_59, h0_60, h0_61, h0_62, h0_63, h0_64, h0_65, h0_66, h0_67, h0_68, h0_69]))] H_2 := hP
  have hD : va_D A [(h0, .inr (12, [h0_0, h0_1, .int 0, .int 0, .int 0, h0_5, h0_6, h0_7, h0_8, h0_9, h0_10, h0_11, h0_12, h0_13, h0_14, h0_15, h0_16, h0_17, h0_18, h0_19, h0_20, h0_21, h0_22, h0_23, h0_24, h0_25, h0_26, h0_27, h0_28, h0_29, h0_30, h0_31, h0_32, h0_33, h0_34, h0_35, h0_36, h0_37, h0_38, h0_39, h0_40, h0_41, h0_42, h0_43, h0_44, h0_45, h0_46, h0_47, h0_48, h0_49, h0_50, h0_51, h0_52, h0_53, h0_54, h0_55, h0_56, h0_57, h0_58, h0_59, h0_60, h0_61, h0_62, h0_63, h0_64, h0_65, h0_66, h0_67, h0_68, h0_69]))] := hD
  clear hPc hDc hKc
  obtain rfl : r_3 = 0 := hw_4
  refine lv_if_eq (tgt := 29) hx hb dX12_season_10 (by decide) (fun _ => ?_) (fun c_5 => absurd (by decide) c_5)
  refine lv_iconst (v := (-1)) hx hb dX12_season_29 (by decide) ?_
  refine W.widen (k := 0) (n := 0) (Nat.le_of_ble_eq_true rfl) (Nat.le_of_ble_eq_true rfl) ?_
  exact W.iret (v := (-1)) hx hb hr (fun t ht hW => ⟨⟨(-1), (), rfl, rfl, trivial⟩, hS.F ht⟩) hS.2.2 dX12_season_30
def u_c_X12_stay : List Cond := .code yX12_stay cX12_stay 2 (some .int) :: ([.fieldLink RX12 145 "ShellHeapModel" "thrown" "I", .methodLink RX12 157 yX12_isLayer, .instanceMethod yX12_isLayer, .selects RX12 yX12_isLayer yX12_isLayer, .initialized RX12, .code yX12_isLayer cX12_isLayer 2 (some .boolean), .fieldLink RX12 151 "ShellHeapModel" "layers" "I"] ++ wsX120)
set_option maxRecDepth 20000 in
theorem gw_c_X12_stay_c_X12_isLayer_157 : GoodIn u_c_X12_stay (wsV RX12 157 RX12 yX12_isLayer u_c_X12_isLayer) := goodIn_r _ [2, 3, 4, 5, 6, 7, 8, 9, 10, 11, 12, 13, 14, 15, 16, 17, 18, 19, 20, 21, 22, 23, 24, 25, 26, 27, 28, 29, 30, 31, 32, 33, 34, 35, 36, 37, 38, 39, 40, 41, 42, 43, 44, 45, 46, 47, 48, 49, 50, 51, 52, 53, 54, 55, 56, 57, 58, 59, 60, 61, 62, 63, 64, 65, 66, 67, 68, 69, 70, 71, 72, 73, 74, 75, 76, 77] (by decide +kernel) (by decide +kernel)
set_option maxHeartbeats 4000000 in
set_option maxRecDepth 100000 in
theorem c_X12_stay (l : Launch) (dC : Nat → ClassId) (dI : Nat → Nat → Nat) (sz : Nat) (h0 : Nat) (p1 : Int32) (h0_0 : Value) (h0_1 : Value) (h0_2 : Value) (h0_5 : Value) (h0_6 : Value) (h0_7 : Value) (h0_8 : Value) (h0_9 : Value) (h0_10 : Value) (h0_11 : Value) (h0_12 : Value) (h0_13 : Value) (h0_14 : Value) (h0_15 : Value) (h0_16 : Value) (h0_17 : Value) (h0_18 : Value) (h0_19 : Value) (h0_20 : Value) (h0_21 : Value) (h0_22 : Value) (h0_23 : Value) (h0_24 : Value) (h0_25 : Value) (h0_26 : Value) (h0_27 : Value) (h0_28 : Value) (h0_29 : Value) (h0_30 : Value) (h0_31 : Value) (h0_32 : Value) (h0_33 : Value) (h0_34 : Value) (h0_35 : Value) (h0_36 : Value) (h0_37 : Value) (h0_38 : Value) (h0_39 : Value) (h0_40 : Value) (h0_41 : Value) (h0_42 : Value) (h0_43 : Value) (h0_44 : Value) (h0_45 : Value) (h0_46 : Value) (h0_47 : Value) (h0_48 : Value) (h0_49 : Value) (h0_50 : Value) (h0_51 : Value) (h0_52 : Value) (h0_53 : Value) (h0_54 : Value) (h0_55 : Value) (h0_56 : Value) (h0_57 : Value) (h0_58 : Value) (h0_59 : Value) (h0_60 : Value) (h0_61 : Value) (h0_62 : Value) (h0_63 : Value) (h0_64 : Value) (h0_65 : Value) (h0_66 : Value) (h0_67 : Value) (h0_68 : Value) (h0_69 : Value) : Met l yX12_stay u_c_X12_stay ({ frames := 1, cells := 0, slots := 0, locals := 21 }) (va_Pc [.ref h0, .int p1] (z_C (dC, dI) vwCl [(h0, .inr (12, [h0_0, h0_1, h0_2, .int 0, .int 0, h0_5, h0_6, h0_7, h0_8, h0_9, h0_10, h0_11, h0_12, h0_13, h0_14, h0_15, h0_16, h0_17, h0_18, h0_19, h0_20, h0_21, h0_22, h0_23, h0_24, h0_25, h0_26, h0_27, h0_28, h0_29, h0_30, h0_31, h0_32, h0_33, h0_34, h0_35, h0_36, h0_37, h0_38, h0_39, h0_40, h0_41, h0_42, h0_43, h0_44, h0_45, h0_46, h0_47, h0_48, h0_49, h0_50, h0_51, h0_52, h0_53, h0_54, h0_55, h0_56, h0_57, h0_58, h0_59, h0_60, h0_61, h0_62, h0_63, h0_64, h0_65, h0_66, h0_67, h0_68, h0_69]))] [] sz)) (va_Qi (fun (r : Int32) (_ : Unit) => r = (-1)) (fun (_ : Unit) (_ : State) => True) (va_A [(h0, .inr (12, [h0_0, h0_1, h0_2, .int 0, .int 0, h0_5, h0_6, h0_7, h0_8, h0_9, h0_10, h0_11, h0_12, h0_13, h0_14, h0_15, h0_16, h0_17, h0_18, h0_19, h0_20, h0_21, h0_22, h0_23, h0_24, h0_25, h0_26, h0_27, h0_28, h0_29, h0_30, h0_31, h0_32, h0_33, h0_34, h0_35, h0_36, h0_37, h0_38, h0_39, h0_40, h0_41, h0_42, h0_43, h0_44, h0_45, h0_46, h0_47, h0_48, h0_49, h0_50, h0_51, h0_52, h0_53, h0_54, h0_55, h0_56, h0_57, h0_58, h0_59, h0_60, h0_61, h0_62, h0_63, h0_64, h0_65, h0_66, h0_67, h0_68, h0_69]))] sz)) 0 0 (va_A [(h0, .inr (12, [h0_0, h0_1, h0_2, .int 0, .int 0, h0_5, h0_6, h0_7, h0_8, h0_9, h0_10, h0_11, h0_12, h0_13, h0_14, h0_15, h0_16, h0_17, h0_18, h0_19, h0_20, h0_21, h0_22, h0_23, h0_24, h0_25, h0_26, h0_27, h0_28, h0_29, h0_30, h0_31, h0_32, h0_33, h0_34, h0_35, h0_36, h0_37, h0_38, h0_39, h0_40, h0_41, h0_42, h0_43, h0_44, h0_45, h0_46, h0_47, h0_48, h0_49, h0_50, h0_51, h0_52, h0_53, h0_54, h0_55, h0_56, h0_57, h0_58, h0_59, h0_60, h0_61, h0_62, h0_63, h0_64, h0_65, h0_66, h0_67, h0_68, h0_69]))] sz) := by
  refine Met.ofW (cc := cX12_stay) (maxL := 2) (ret := (some .int)) (by decide) rfl ?_
  intro p e s m args below meth c s₁ B hml hv
  obtain ⟨rfl, hsz, hP, hK, hD0⟩ := hv
  have hx := B.exec
  have hb := B.bytes
  have hr := B.returns
  have hts := atoms_spec (ws := u_c_X12_stay) B.pre
  have hown : s.vm.findClass RX12 = some m.cls := findClass_of_methodNamed B.named
  have hlocks := B.notSynchronized
  subst hsz
  have hD := hD0.self (sz := s.heap.size)
  generalize hAe : va_A [(h0, .inr (12, [h0_0, h0_1, h0_2, .int 0, .int 0, h0_5, h0_6, h0_7, h0_8, h0_9, h0_10, h0_11, h0_12, h0_13, h0_14, h0_15, h0_16, h0_17, h0_18, h0_19, h0_20, h0_21, h0_22, h0_23, h0_24, h0_25, h0_26, h0_27, h0_28, h0_29, h0_30, h0_31, h0_32, h0_33, h0_34, h0_35, h0_36, h0_37, h0_38, h0_39, h0_40, h0_41, h0_42, h0_43, h0_44, h0_45, h0_46, h0_47, h0_48, h0_49, h0_50, h0_51, h0_52, h0_53, h0_54, h0_55, h0_56, h0_57, h0_58, h0_59, h0_60, h0_61, h0_62, h0_63, h0_64, h0_65, h0_66, h0_67, h0_68, h0_69]))] s.heap.size = A at hD ⊢
  have hA : ∀ q : Nat, s.heap.size ≤ q → A q := fun q h => by rw [← hAe]; exact Or.inr h
  have hS : va_S A s.heap s.heap [] := va_S.rf
  have hP : va_P (dC, dI) vwCl [(h0, .inr (12, [h0_0, h0_1, h0_2, .int 0, .int 0, h0_5, h0_6, h0_7, h0_8, h0_9, h0_10, h0_11, h0_12, h0_13, h0_14, h0_15, h0_16, h0_17, h0_18, h0_19, h0_20, h0_21, h0_22, h0_23, h0_24, h0_25, h0_26, h0_27, h0_28, h0_29, h0_30, h0_31, h0_32, h0_33, h0_34, h0_35, h0_36, h0_37, h0_38, h0_39, h0_40, h0_41, h0_42, h0_43, h0_44, h0_45, h0_46, h0_47, h0_48, h0_49, h0_50, h0_51, h0_52, h0_53, h0_54, h0_55, h0_56, h0_57, h0_58, h0_59, h0_60, h0_61, h0_62, h0_63, h0_64, h0_65, h0_66, h0_67, h0_68, h0_69]))] s.heap := hP
  have w__fieldLink_RX12_145_ShellHeapModel_thrown_I_ := hts (.fieldLink RX12 145 "ShellHeapModel" "thrown" "I") (by decide +kernel)
  have hiX12 := show ∀ w ∈ u_ws RX12 TX12 70, w ∈ u_c_X12_stay by decide +kernel
  have hl := lv_entry ([.ref h0, .int p1]) (n := 2) (Nat.le_of_ble_eq_true rfl)
  rw [lg_entry_eq]
  generalize (lg_sl ([.ref h0, .int p1]) ++ List.replicate (2 - (lg_sl ([.ref h0, .int p1])).length) Slot.unset).toArray = ls at hl ⊢
  have hl : lv_has ls 2 [(0, .ref h0), (1, .int p1)] := hl
  refine lv_aload_n hx hb dX12_stay_0 rfl (lv_at hl 0 rfl) ?_
  refine lv_iconst (v := 0) hx hb dX12_stay_1 (by decide) ?_
  refine va_put (D := (dC, dI)) (ci := 12) (v := .int 0) (ty := .int) (C := RX12) (T := TX12) (N := 70) hx hb hts hiX12 tyX12 tyX12_ok nmX12 hown hK hP hD hS 0 rfl rfl 2 (by decide) w__fieldLink_RX12_145_ShellHeapModel_thrown_I_ (fun _ h9 => h9) rfl (by decide +kernel) rfl rfl (Nat.le_of_ble_eq_true rfl) dX12_stay_2 (fun H_1 locs hP hD hS => ?_)
  have hP : va_P (dC, dI) vwCl [(h0, .inr (12, [h0_0, h0_1, .int 0, .int 0, .int 0, h0_5, h0_6, h0_7, h0_8, h0_9, h0_10, h0_11, h0_12, h0_13, h0_14, h0_15, h0_16, h0_17, h0_18, h0_19, h0_20, h0_21, h0_22, h0_23, h0_24, h0_25, h0_26, h0_27, h0_28, h0_29, h0_30, h0_31, h0_32, h0_33, h0_34, h0_35, h0_36, h0_37, h0_38, h0_39, h0_40, h0_41, h0_42, h0_43, h0_44, h0_45, h0_46, h0_47, h0_48, h0_49, h0_50, h0_51, h0_52, h0_53, h0_54, h0_55, h0_56, h0_57, h0_58, h0_59, h0_60, h0_61, h0_62, h0_63, h0_64, h0_65, h0_66, h0_67, h0_68, h0_69]))] H_1 := hP
  have hD : va_D A [(h0, .inr (12, [h0_0, h0_1, .int 0, .int 0, .int 0, h0_5, h0_6, h0_7, h0_8, h0_9, h0_10, h0_11, h0_12, h0_13, h0_14, h0_15, h0_16, h0_17, h0_18, h0_19, h0_20, h0_21, h0_22, h0_23, h0_24, h0_25, h0_26, h0_27, h0_28, h0_29, h0_30, h0_31, h0_32, h0_33, h0_34, h0_35, h0_36, h0_37, h0_38, h0_39, h0_40, h0_41, h0_42, h0_43, h0_44, h0_45, h0_46, h0_47, h0_48, h0_49, h0_50, h0_51, h0_52, h0_53, h0_54, h0_55, h0_56, h0_57, h0_58, h0_59, h0_60, h0_61, h0_62, h0_63, h0_64, h0_65, h0_66, h0_67, h0_68, h0_69]))] := hD
  refine lv_aload_n hx hb dX12_stay_5 rfl (lv_at hl 0 rfl) ?_
  refine lv_iload_n hx hb dX12_stay_6 rfl (lv_at hl 1 rfl) ?_
  have hPc := hP.sub (ws' := [(h0, .inr (12, [h0_0, h0_1, .int 0, .int 0, .int 0, h0_5, h0_6, h0_7, h0_8, h0_9, h0_10, h0_11, h0_12, h0_13, h0_14, h0_15, h0_16, h0_17, h0_18, h0_19, h0_20, h0_21, h0_22, h0_23, h0_24, h0_25, h0_26, h0_27, h0_28, h0_29, h0_30, h0_31, h0_32, h0_33, h0_34, h0_35, h0_36, h0_37, h0_38, h0_39, h0_40, h0_41, h0_42, h0_43, h0_44, h0_45, h0_46, h0_47, h0_48, h0_49, h0_50, h0_51, h0_52, h0_53, h0_54, h0_55, h0_56, h0_57, h0_58, h0_59, h0_60, h0_61, h0_62, h0_63, h0_64, h0_65, h0_66, h0_67, h0_68, h0_69]))]) [0] rfl
  have hDc := hD.sub (ws' := [(h0, .inr (12, [h0_0, h0_1, .int 0, .int 0, .int 0, h0_5, h0_6, h0_7, h0_8, h0_9, h0_10, h0_11, h0_12, h0_13, h0_14, h0_15, h0_16, h0_17, h0_18, h0_19, h0_20, h0_21, h0_22, h0_23, h0_24, h0_25, h0_26, h0_27, h0_28, h0_29, h0_30, h0_31, h0_32, h0_33, h0_34, h0_35, h0_36, h0_37, h0_38, h0_39, h0_40, h0_41, h0_42, h0_43, h0_44, h0_45, h0_46, h0_47, h0_48, h0_49, h0_50, h0_51, h0_52, h0_53, h0_54, h0_55, h0_56, h0_57, h0_58, h0_59, h0_60, h0_61, h0_62, h0_63, h0_64, h0_65, h0_66, h0_67, h0_68, h0_69]))]) [0] (by decide) rfl
  have hKc := hK.sub (tys' := []) [] rfl
  have hFc := va_free (ws := []) (wc := []) (z_D0 _) hS hA [] rfl
  refine va_calli (va_runV (As := [.int p1]) (rest := []) ⟨hx, hb, hml, hown, hts⟩ (c_X12_isLayer l dC dI H_1.size h0 p1 h0_0 h0_1 (.int 0) (.int 0) h0_5 h0_6 h0_7 h0_8 h0_9 h0_10 h0_11 h0_12 h0_13 h0_14 h0_15 h0_16 h0_17 h0_18 h0_19 h0_20 h0_21 h0_22 h0_23 h0_24 h0_25 h0_26 h0_27 h0_28 h0_29 h0_30 h0_31 h0_32 h0_33 h0_34 h0_35 h0_36 h0_37 h0_38 h0_39 h0_40 h0_41 h0_42 h0_43 h0_44 h0_45 h0_46 h0_47 h0_48 h0_49 h0_50 h0_51 h0_52 h0_53 h0_54 h0_55 h0_56 h0_57 h0_58 h0_59 h0_60 h0_61 h0_62 h0_63 h0_64 h0_65 h0_66 h0_67 h0_68 h0_69) (cwV 1 hts gw_c_X12_stay_c_X12_isLayer_157 rfl rfl rfl (by decide +kernel) ⟨Nat.le_of_ble_eq_true rfl, Nat.le_of_ble_eq_true rfl⟩) ⟨z_blind, va_recv hKc hPc (ci := 12) (q0 := 0) rfl rfl, z_pre hPc hKc hDc⟩ rfl rfl hl.1 rfl (lv_room (Nat.le_of_ble_eq_true rfl)) dX12_stay_7 ⟨Nat.le_of_ble_eq_true rfl, Nat.le_of_ble_eq_true rfl⟩) hS (fun q _ h => hFc q h) hFc (fun r_3 u t H_2 locs ht hvm hw_4 hB hz1 hk1 hS => ?_)
  have hP := z_pure hP hk1
  have hP : va_P (dC, dI) vwCl [(h0, .inr (12, [h0_0, h0_1, .int 0, .int 0, .int 0, h0_5, h0_6, h0_7, h0_8, h0_9, h0_10, h0_11, h0_12, h0_13, h0_14, h0_15, h0_16, h0_17, h0_18, h0_19, h0_20, h0_21, h0_22, h0_23, h0_24, h0_25, h0_26, h0_27, h0_28, h0_29, h0_30, h0_31, h0_32, h0_33, h0_34, h0_35, h0_36, h0_37, h0_38, h0_39, h0_40, h0_41, h0_42, h0_43, h0_44, h0_45, h0_46, h0_47, h0_48, h0_49, h0_50, h0_51, h0_52, h0_53, h0_54, h0_55, h0_56, h0_57, h0_58, h0_59, h0_60, h0_61, h0_62, h0_63, h0_64, h0_65, h0_66, h0_67, h0_68, h0_69]))] H_2 := hP
  have hD : va_D A [(h0, .inr (12, [h0_0, h0_1, .int 0, .int 0, .int 0, h0_5, h0_6, h0_7, h0_8, h0_9, h0_10, h0_11, h0_12, h0_13, h0_14, h0_15, h0_16, h0_17, h0_18, h0_19, h0_20, h0_21, h0_22, h0_23, h0_24, h0_25, h0_26, h0_27, h0_28, h0_29, h0_30, h0_31, h0_32, h0_33, h0_34, h0_35, h0_36, h0_37, h0_38, h0_39, h0_40, h0_41, h0_42, h0_43, h0_44, h0_45, h0_46, h0_47, h0_48, h0_49, h0_50, h0_51, h0_52, h0_53, h0_54, h0_55, h0_56, h0_57, h0_58, h0_59, h0_60, h0_61, h0_62, h0_63, h0_64, h0_65, h0_66, h0_67, h0_68, h0_69]))] := hD
  clear hPc hDc hKc
  obtain rfl : r_3 = 0 := hw_4
  refine lv_if_ne (tgt := 15) hx hb dX12_stay_10 (by decide) (fun c_5 => absurd c_5 (by decide)) (fun _ => ?_)
  refine lv_iconst (v := (-1)) hx hb dX12_stay_13 (by decide) ?_
  refine W.widen (k := 0) (n := 0) (Nat.le_of_ble_eq_true rfl) (Nat.le_of_ble_eq_true rfl) ?_
  exact W.iret (v := (-1)) hx hb hr (fun t ht hW => ⟨⟨(-1), (), rfl, rfl, trivial⟩, hS.F ht⟩) hS.2.2 dX12_stay_14
def u_c_X12_measure : List Cond := .code yX12_measure cX12_measure 5 (some .int) :: ([.fieldLink RX12 145 "ShellHeapModel" "thrown" "I", .methodLink RX12 157 yX12_isLayer, .instanceMethod yX12_isLayer, .selects RX12 yX12_isLayer yX12_isLayer, .initialized RX12, .code yX12_isLayer cX12_isLayer 2 (some .boolean), .fieldLink RX12 151 "ShellHeapModel" "layers" "I"] ++ wsX120)
set_option maxRecDepth 20000 in
theorem gw_c_X12_measure_c_X12_isLayer_157 : GoodIn u_c_X12_measure (wsV RX12 157 RX12 yX12_isLayer u_c_X12_isLayer) := goodIn_r _ [2, 3, 4, 5, 6, 7, 8, 9, 10, 11, 12, 13, 14, 15, 16, 17, 18, 19, 20, 21, 22, 23, 24, 25, 26, 27, 28, 29, 30, 31, 32, 33, 34, 35, 36, 37, 38, 39, 40, 41, 42, 43, 44, 45, 46, 47, 48, 49, 50, 51, 52, 53, 54, 55, 56, 57, 58, 59, 60, 61, 62, 63, 64, 65, 66, 67, 68, 69, 70, 71, 72, 73, 74, 75, 76, 77] (by decide +kernel) (by decide +kernel)
set_option maxHeartbeats 4000000 in
set_option maxRecDepth 100000 in
theorem c_X12_measure (l : Launch) (dC : Nat → ClassId) (dI : Nat → Nat → Nat) (sz : Nat) (h0 : Nat) (p1 : Int32) (p2 : Int32) (p3 : Int32) (p4 : Int32) (h0_0 : Value) (h0_1 : Value) (h0_2 : Value) (h0_5 : Value) (h0_6 : Value) (h0_7 : Value) (h0_8 : Value) (h0_9 : Value) (h0_10 : Value) (h0_11 : Value) (h0_12 : Value) (h0_13 : Value) (h0_14 : Value) (h0_15 : Value) (h0_16 : Value) (h0_17 : Value) (h0_18 : Value) (h0_19 : Value) (h0_20 : Value) (h0_21 : Value) (h0_22 : Value) (h0_23 : Value) (h0_24 : Value) (h0_25 : Value) (h0_26 : Value) (h0_27 : Value) (h0_28 : Value) (h0_29 : Value) (h0_30 : Value) (h0_31 : Value) (h0_32 : Value) (h0_33 : Value) (h0_34 : Value) (h0_35 : Value) (h0_36 : Value) (h0_37 : Value) (h0_38 : Value) (h0_39 : Value) (h0_40 : Value) (h0_41 : Value) (h0_42 : Value) (h0_43 : Value) (h0_44 : Value) (h0_45 : Value) (h0_46 : Value) (h0_47 : Value) (h0_48 : Value) (h0_49 : Value) (h0_50 : Value) (h0_51 : Value) (h0_52 : Value) (h0_53 : Value) (h0_54 : Value) (h0_55 : Value) (h0_56 : Value) (h0_57 : Value) (h0_58 : Value) (h0_59 : Value) (h0_60 : Value) (h0_61 : Value) (h0_62 : Value) (h0_63 : Value) (h0_64 : Value) (h0_65 : Value) (h0_66 : Value) (h0_67 : Value) (h0_68 : Value) (h0_69 : Value) : Met l yX12_measure u_c_X12_measure ({ frames := 1, cells := 0, slots := 0, locals := 21 }) (va_Pc [.ref h0, .int p1, .int p2, .int p3, .int p4] (z_C (dC, dI) vwCl [(h0, .inr (12, [h0_0, h0_1, h0_2, .int 0, .int 0, h0_5, h0_6, h0_7, h0_8, h0_9, h0_10, h0_11, h0_12, h0_13, h0_14, h0_15, h0_16, h0_17, h0_18, h0_19, h0_20, h0_21, h0_22, h0_23, h0_24, h0_25, h0_26, h0_27, h0_28, h0_29, h0_30, h0_31, h0_32, h0_33, h0_34, h0_35, h0_36, h0_37, h0_38, h0_39, h0_40, h0_41, h0_42, h0_43, h0_44, h0_45, h0_46, h0_47, h0_48, h0_49, h0_50, h0_51, h0_52, h0_53, h0_54, h0_55, h0_56, h0_57, h0_58, h0_59, h0_60, h0_61, h0_62, h0_63, h0_64, h0_65, h0_66, h0_67, h0_68, h0_69]))] [] sz)) (va_Qi (fun (r : Int32) (_ : Unit) => r = (-1)) (fun (_ : Unit) (_ : State) => True) (va_A [(h0, .inr (12, [h0_0, h0_1, h0_2, .int 0, .int 0, h0_5, h0_6, h0_7, h0_8, h0_9, h0_10, h0_11, h0_12, h0_13, h0_14, h0_15, h0_16, h0_17, h0_18, h0_19, h0_20, h0_21, h0_22, h0_23, h0_24, h0_25, h0_26, h0_27, h0_28, h0_29, h0_30, h0_31, h0_32, h0_33, h0_34, h0_35, h0_36, h0_37, h0_38, h0_39, h0_40, h0_41, h0_42, h0_43, h0_44, h0_45, h0_46, h0_47, h0_48, h0_49, h0_50, h0_51, h0_52, h0_53, h0_54, h0_55, h0_56, h0_57, h0_58, h0_59, h0_60, h0_61, h0_62, h0_63, h0_64, h0_65, h0_66, h0_67, h0_68, h0_69]))] sz)) 0 0 (va_A [(h0, .inr (12, [h0_0, h0_1, h0_2, .int 0, .int 0, h0_5, h0_6, h0_7, h0_8, h0_9, h0_10, h0_11, h0_12, h0_13, h0_14, h0_15, h0_16, h0_17, h0_18, h0_19, h0_20, h0_21, h0_22, h0_23, h0_24, h0_25, h0_26, h0_27, h0_28, h0_29, h0_30, h0_31, h0_32, h0_33, h0_34, h0_35, h0_36, h0_37, h0_38, h0_39, h0_40, h0_41, h0_42, h0_43, h0_44, h0_45, h0_46, h0_47, h0_48, h0_49, h0_50, h0_51, h0_52, h0_53, h0_54, h0_55, h0_56, h0_57, h0_58, h0_59, h0_60, h0_61, h0_62, h0_63, h0_64, h0_65, h0_66, h0_67, h0_68, h0_69]))] sz) := by
  refine Met.ofW (cc := cX12_measure) (maxL := 5) (ret := (some .int)) (by decide) rfl ?_
  intro p e s m args below meth c s₁ B hml hv
  obtain ⟨rfl, hsz, hP, hK, hD0⟩ := hv
  have hx := B.exec
  have hb := B.bytes
  have hr := B.returns
  have hts := atoms_spec (ws := u_c_X12_measure) B.pre
  have hown : s.vm.findClass RX12 = some m.cls := findClass_of_methodNamed B.named
  have hlocks := B.notSynchronized
  subst hsz
  have hD := hD0.self (sz := s.heap.size)
  generalize hAe : va_A [(h0, .inr (12, [h0_0, h0_1, h0_2, .int 0, .int 0, h0_5, h0_6, h0_7, h0_8, h0_9, h0_10, h0_11, h0_12, h0_13, h0_14, h0_15, h0_16, h0_17, h0_18, h0_19, h0_20, h0_21, h0_22, h0_23, h0_24, h0_25, h0_26, h0_27, h0_28, h0_29, h0_30, h0_31, h0_32, h0_33, h0_34, h0_35, h0_36, h0_37, h0_38, h0_39, h0_40, h0_41, h0_42, h0_43, h0_44, h0_45, h0_46, h0_47, h0_48, h0_49, h0_50, h0_51, h0_52, h0_53, h0_54, h0_55, h0_56, h0_57, h0_58, h0_59, h0_60, h0_61, h0_62, h0_63, h0_64, h0_65, h0_66, h0_67, h0_68, h0_69]))] s.heap.size = A at hD ⊢
  have hA : ∀ q : Nat, s.heap.size ≤ q → A q := fun q h => by rw [← hAe]; exact Or.inr h
  have hS : va_S A s.heap s.heap [] := va_S.rf
  have hP : va_P (dC, dI) vwCl [(h0, .inr (12, [h0_0, h0_1, h0_2, .int 0, .int 0, h0_5, h0_6, h0_7, h0_8, h0_9, h0_10, h0_11, h0_12, h0_13, h0_14, h0_15, h0_16, h0_17, h0_18, h0_19, h0_20, h0_21, h0_22, h0_23, h0_24, h0_25, h0_26, h0_27, h0_28, h0_29, h0_30, h0_31, h0_32, h0_33, h0_34, h0_35, h0_36, h0_37, h0_38, h0_39, h0_40, h0_41, h0_42, h0_43, h0_44, h0_45, h0_46, h0_47, h0_48, h0_49, h0_50, h0_51, h0_52, h0_53, h0_54, h0_55, h0_56, h0_57, h0_58, h0_59, h0_60, h0_61, h0_62, h0_63, h0_64, h0_65, h0_66, h0_67, h0_68, h0_69]))] s.heap := hP
  have w__fieldLink_RX12_145_ShellHeapModel_thrown_I_ := hts (.fieldLink RX12 145 "ShellHeapModel" "thrown" "I") (by decide +kernel)
  have hiX12 := show ∀ w ∈ u_ws RX12 TX12 70, w ∈ u_c_X12_measure by decide +kernel
  have hl := lv_entry ([.ref h0, .int p1, .int p2, .int p3, .int p4]) (n := 5) (Nat.le_of_ble_eq_true rfl)
  rw [lg_entry_eq]
  generalize (lg_sl ([.ref h0, .int p1, .int p2, .int p3, .int p4]) ++ List.replicate (5 - (lg_sl ([.ref h0, .int p1, .int p2, .int p3, .int p4])).length) Slot.unset).toArray = ls at hl ⊢
  have hl : lv_has ls 5 [(0, .ref h0), (1, .int p1), (2, .int p2), (3, .int p3), (4, .int p4)] := hl
  refine lv_aload_n hx hb dX12_measure_0 rfl (lv_at hl 0 rfl) ?_
  refine lv_iconst (v := 0) hx hb dX12_measure_1 (by decide) ?_
  refine va_put (D := (dC, dI)) (ci := 12) (v := .int 0) (ty := .int) (C := RX12) (T := TX12) (N := 70) hx hb hts hiX12 tyX12 tyX12_ok nmX12 hown hK hP hD hS 0 rfl rfl 2 (by decide) w__fieldLink_RX12_145_ShellHeapModel_thrown_I_ (fun _ h9 => h9) rfl (by decide +kernel) rfl rfl (Nat.le_of_ble_eq_true rfl) dX12_measure_2 (fun H_1 locs hP hD hS => ?_)
  have hP : va_P (dC, dI) vwCl [(h0, .inr (12, [h0_0, h0_1, .int 0, .int 0, .int 0, h0_5, h0_6, h0_7, h0_8, h0_9, h0_10, h0_11, h0_12, h0_13, h0_14, h0_15, h0_16, h0_17, h0_18, h0_19, h0_20, h0_21, h0_22, h0_23, h0_24, h0_25, h0_26, h0_27, h0_28, h0_29, h0_30, h0_31, h0_32, h0_33, h0_34, h0_35, h0_36, h0_37, h0_38, h0_39, h0_40, h0_41, h0_42, h0_43, h0_44, h0_45, h0_46, h0_47, h0_48, h0_49, h0_50, h0_51, h0_52, h0_53, h0_54, h0_55, h0_56, h0_57, h0_58, h0_59, h0_60, h0_61, h0_62, h0_63, h0_64, h0_65, h0_66, h0_67, h0_68, h0_69]))] H_1 := hP
  have hD : va_D A [(h0, .inr (12, [h0_0, h0_1, .int 0, .int 0, .int 0, h0_5, h0_6, h0_7, h0_8, h0_9, h0_10, h0_11, h0_12, h0_13, h0_14, h0_15, h0_16, h0_17, h0_18, h0_19, h0_20, h0_21, h0_22, h0_23, h0_24, h0_25, h0_26, h0_27, h0_28, h0_29, h0_30, h0_31, h0_32, h0_33, h0_34, h0_35, h0_36, h0_37, h0_38, h0_39, h0_40, h0_41, h0_42, h0_43, h0_44, h0_45, h0_46, h0_47, h0_48, h0_49, h0_50, h0_51, h0_52, h0_53, h0_54, h0_55, h0_56, h0_57, h0_58, h0_59, h0_60, h0_61, h0_62, h0_63, h0_64, h0_65, h0_66, h0_67, h0_68, h0_69]))] := hD
  refine lv_aload_n hx hb dX12_measure_5 rfl (lv_at hl 0 rfl) ?_
  refine lv_iload_n hx hb dX12_measure_6 rfl (lv_at hl 1 rfl) ?_
  have hPc := hP.sub (ws' := [(h0, .inr (12, [h0_0, h0_1, .int 0, .int 0, .int 0, h0_5, h0_6, h0_7, h0_8, h0_9, h0_10, h0_11, h0_12, h0_13, h0_14, h0_15, h0_16, h0_17, h0_18, h0_19, h0_20, h0_21, h0_22, h0_23, h0_24, h0_25, h0_26, h0_27, h0_28, h0_29, h0_30, h0_31, h0_32, h0_33, h0_34, h0_35, h0_36, h0_37, h0_38, h0_39, h0_40, h0_41, h0_42, h0_43, h0_44, h0_45, h0_46, h0_47, h0_48, h0_49, h0_50, h0_51, h0_52, h0_53, h0_54, h0_55, h0_56, h0_57, h0_58, h0_59, h0_60, h0_61, h0_62, h0_63, h0_64, h0_65, h0_66, h0_67, h0_68, h0_69]))]) [0] rfl
  have hDc := hD.sub (ws' := [(h0, .inr (12, [h0_0, h0_1, .int 0, .int 0, .int 0, h0_5, h0_6, h0_7, h0_8, h0_9, h0_10, h0_11, h0_12, h0_13, h0_14, h0_15, h0_16, h0_17, h0_18, h0_19, h0_20, h0_21, h0_22, h0_23, h0_24, h0_25, h0_26, h0_27, h0_28, h0_29, h0_30, h0_31, h0_32, h0_33, h0_34, h0_35, h0_36, h0_37, h0_38, h0_39, h0_40, h0_41, h0_42, h0_43, h0_44, h0_45, h0_46, h0_47, h0_48, h0_49, h0_50, h0_51, h0_52, h0_53, h0_54, h0_55, h0_56, h0_57, h0_58, h0_59, h0_60, h0_61, h0_62, h0_63, h0_64, h0_65, h0_66, h0_67, h0_68, h0_69]))]) [0] (by decide) rfl
  have hKc := hK.sub (tys' := []) [] rfl
  have hFc := va_free (ws := []) (wc := []) (z_D0 _) hS hA [] rfl
  refine va_calli (va_runV (As := [.int p1]) (rest := []) ⟨hx, hb, hml, hown, hts⟩ (c_X12_isLayer l dC dI H_1.size h0 p1 h0_0 h0_1 (.int 0) (.int 0) h0_5 h0_6 h0_7 h0_8 h0_9 h0_10 h0_11 h0_12 h0_13 h0_14 h0_15 h0_16 h0_17 h0_18 h0_19 h0_20 h0_21 h0_22 h0_23 h0_24 h0_25 h0_26 h0_27 h0_28 h0_29 h0_30 h0_31 h0_32 h0_33 h0_34 h0_35 h0_36 h0_37 h0_38 h0_39 h0_40 h0_41 h0_42 h0_43 h0_44 h0_45 h0_46 h0_47 h0_48 h0_49 h0_50 h0_51 h0_52 h0_53 h0_54 h0_55 h0_56 h0_57 h0_58 h0_59 h0_60 h0_61 h0_62 h0_63 h0_64 h0_65 h0_66 h0_67 h0_68 h0_69) (cwV 1 hts gw_c_X12_measure_c_X12_isLayer_157 rfl rfl rfl (by decide +kernel) ⟨Nat.le_of_ble_eq_true rfl, Nat.le_of_ble_eq_true rfl⟩) ⟨z_blind, va_recv hKc hPc (ci := 12) (q0 := 0) rfl rfl, z_pre hPc hKc hDc⟩ rfl rfl hl.1 rfl (lv_room (Nat.le_of_ble_eq_true rfl)) dX12_measure_7 ⟨Nat.le_of_ble_eq_true rfl, Nat.le_of_ble_eq_true rfl⟩) hS (fun q _ h => hFc q h) hFc (fun r_3 u t H_2 locs ht hvm hw_4 hB hz1 hk1 hS => ?_)
  have hP := z_pure hP hk1
  have hP : va_P (dC, dI) vwCl [(h0, .inr (12, [h0_0, h0_1, .int 0, .int 0, .int 0, h0_5, h0_6, h0_7, h0_8, h0_9, h0_10, h0_11, h0_12, h0_13, h0_14, h0_15, h0_16, h0_17, h0_18, h0_19, h0_20, h0_21, h0_22, h0_23, h0_24, h0_25, h0_26, h0_27, h0_28, h0_29, h0_30, h0_31, h0_32, h0_33, h0_34, h0_35, h0_36, h0_37, h0_38, h0_39, h0_40, h0_41, h0_42, h0_43, h0_44, h0_45, h0_46, h0_47, h0_48, h0_49, h0_50, h0_51, h0_52, h0_53, h0_54, h0_55, h0_56, h0_57, h0_58, h0_59, h0_60, h0_61, h0_62, h0_63, h0_64, h0_65, h0_66, h0_67, h0_68, h0_69]))] H_2 := hP
  have hD : va_D A [(h0, .inr (12, [h0_0, h0_1, .int 0, .int 0, .int 0, h0_5, h0_6, h0_7, h0_8, h0_9, h0_10, h0_11, h0_12, h0_13, h0_14, h0_15, h0_16, h0_17, h0_18, h0_19, h0_20, h0_21, h0_22, h0_23, h0_24, h0_25, h0_26, h0_27, h0_28, h0_29, h0_30, h0_31, h0_32, h0_33, h0_34, h0_35, h0_36, h0_37, h0_38, h0_39, h0_40, h0_41, h0_42, h0_43, h0_44, h0_45, h0_46, h0_47, h0_48, h0_49, h0_50, h0_51, h0_52, h0_53, h0_54, h0_55, h0_56, h0_57, h0_58, h0_59, h0_60, h0_61, h0_62, h0_63, h0_64, h0_65, h0_66, h0_67, h0_68, h0_69]))] := hD
  clear hPc hDc hKc
  obtain rfl : r_3 = 0 := hw_4
  refine lv_if_eq (tgt := 55) hx hb dX12_measure_10 (by decide) (fun _ => ?_) (fun c_5 => absurd (by decide) c_5)
  refine lv_iconst (v := (-1)) hx hb dX12_measure_55 (by decide) ?_
  refine W.widen (k := 0) (n := 0) (Nat.le_of_ble_eq_true rfl) (Nat.le_of_ble_eq_true rfl) ?_
  exact W.iret (v := (-1)) hx hb hr (fun t ht hW => ⟨⟨(-1), (), rfl, rfl, trivial⟩, hS.F ht⟩) hS.2.2 dX12_measure_56
def u_c_X12_middle : List Cond := .code yX12_middle cX12_middle 5 (some .int) :: ([.fieldLink RX12 145 "ShellHeapModel" "thrown" "I", .methodLink RX12 157 yX12_isLayer, .instanceMethod yX12_isLayer, .selects RX12 yX12_isLayer yX12_isLayer, .initialized RX12, .code yX12_isLayer cX12_isLayer 2 (some .boolean), .fieldLink RX12 151 "ShellHeapModel" "layers" "I"] ++ wsX120)
set_option maxRecDepth 20000 in
theorem gw_c_X12_middle_c_X12_isLayer_157 : GoodIn u_c_X12_middle (wsV RX12 157 RX12 yX12_isLayer u_c_X12_isLayer) := goodIn_r _ [2, 3, 4, 5, 6, 7, 8, 9, 10, 11, 12, 13, 14, 15, 16, 17, 18, 19, 20, 21, 22, 23, 24, 25, 26, 27, 28, 29, 30, 31, 32, 33, 34, 35, 36, 37, 38, 39, 40, 41, 42, 43, 44, 45, 46, 47, 48, 49, 50, 51, 52, 53, 54, 55, 56, 57, 58, 59, 60, 61, 62, 63, 64, 65, 66, 67, 68, 69, 70, 71, 72, 73, 74, 75, 76, 77] (by decide +kernel) (by decide +kernel)
set_option maxHeartbeats 4000000 in
set_option maxRecDepth 100000 in
theorem c_X12_middle (l : Launch) (dC : Nat → ClassId) (dI : Nat → Nat → Nat) (sz : Nat) (h0 : Nat) (p1 : Int32) (p2 : Int32) (h0_0 : Value) (h0_1 : Value) (h0_2 : Value) (h0_5 : Value) (h0_6 : Value) (h0_7 : Value) (h0_8 : Value) (h0_9 : Value) (h0_10 : Value) (h0_11 : Value) (h0_12 : Value) (h0_13 : Value) (h0_14 : Value) (h0_15 : Value) (h0_16 : Value) (h0_17 : Value) (h0_18 : Value) (h0_19 : Value) (h0_20 : Value) (h0_21 : Value) (h0_22 : Value) (h0_23 : Value) (h0_24 : Value) (h0_25 : Value) (h0_26 : Value) (h0_27 : Value) (h0_28 : Value) (h0_29 : Value) (h0_30 : Value) (h0_31 : Value) (h0_32 : Value) (h0_33 : Value) (h0_34 : Value) (h0_35 : Value) (h0_36 : Value) (h0_37 : Value) (h0_38 : Value) (h0_39 : Value) (h0_40 : Value) (h0_41 : Value) (h0_42 : Value) (h0_43 : Value) (h0_44 : Value) (h0_45 : Value) (h0_46 : Value) (h0_47 : Value) (h0_48 : Value) (h0_49 : Value) (h0_50 : Value) (h0_51 : Value) (h0_52 : Value) (h0_53 : Value) (h0_54 : Value) (h0_55 : Value) (h0_56 : Value) (h0_57 : Value) (h0_58 : Value) (h0_59 : Value) (h0_60 : Value) (h0_61 : Value) (h0_62 : Value) (h0_63 : Value) (h0_64 : Value) (h0_65 : Value) (h0_66 : Value) (h0_67 : Value) (h0_68 : Value) (h0_69 : Value) : Met l yX12_middle u_c_X12_middle ({ frames := 1, cells := 0, slots := 0, locals := 21 }) (va_Pc [.ref h0, .int p1, .int p2] (z_C (dC, dI) vwCl [(h0, .inr (12, [h0_0, h0_1, h0_2, .int 0, .int 0, h0_5, h0_6, h0_7, h0_8, h0_9, h0_10, h0_11, h0_12, h0_13, h0_14, h0_15, h0_16, h0_17, h0_18, h0_19, h0_20, h0_21, h0_22, h0_23, h0_24, h0_25, h0_26, h0_27, h0_28, h0_29, h0_30, h0_31, h0_32, h0_33, h0_34, h0_35, h0_36, h0_37, h0_38, h0_39, h0_40, h0_41, h0_42, h0_43, h0_44, h0_45, h0_46, h0_47, h0_48, h0_49, h0_50, h0_51, h0_52, h0_53, h0_54, h0_55, h0_56, h0_57, h0_58, h0_59, h0_60, h0_61, h0_62, h0_63, h0_64, h0_65, h0_66, h0_67, h0_68, h0_69]))] [] sz)) (va_Qi (fun (r : Int32) (_ : Unit) => r = (-2)) (fun (_ : Unit) (_ : State) => True) (va_A [(h0, .inr (12, [h0_0, h0_1, h0_2, .int 0, .int 0, h0_5, h0_6, h0_7, h0_8, h0_9, h0_10, h0_11, h0_12, h0_13, h0_14, h0_15, h0_16, h0_17, h0_18, h0_19, h0_20, h0_21, h0_22, h0_23, h0_24, h0_25, h0_26, h0_27, h0_28, h0_29, h0_30, h0_31, h0_32, h0_33, h0_34, h0_35, h0_36, h0_37, h0_38, h0_39, h0_40, h0_41, h0_42, h0_43, h0_44, h0_45, h0_46, h0_47, h0_48, h0_49, h0_50, h0_51, h0_52, h0_53, h0_54, h0_55, h0_56, h0_57, h0_58, h0_59, h0_60, h0_61, h0_62, h0_63, h0_64, h0_65, h0_66, h0_67, h0_68, h0_69]))] sz)) 0 0 (va_A [(h0, .inr (12, [h0_0, h0_1, h0_2, .int 0, .int 0, h0_5, h0_6, h0_7, h0_8, h0_9, h0_10, h0_11, h0_12, h0_13, h0_14, h0_15, h0_16, h0_17, h0_18, h0_19, h0_20, h0_21, h0_22, h0_23, h0_24, h0_25, h0_26, h0_27, h0_28, h0_29, h0_30, h0_31, h0_32, h0_33, h0_34, h0_35, h0_36, h0_37, h0_38, h0_39, h0_40, h0_41, h0_42, h0_43, h0_44, h0_45, h0_46, h0_47, h0_48, h0_49, h0_50, h0_51, h0_52, h0_53, h0_54, h0_55, h0_56, h0_57, h0_58, h0_59, h0_60, h0_61, h0_62, h0_63, h0_64, h0_65, h0_66, h0_67, h0_68, h0_69]))] sz) := by
  refine Met.ofW (cc := cX12_middle) (maxL := 5) (ret := (some .int)) (by decide) rfl ?_
  intro p e s m args below meth c s₁ B hml hv
  obtain ⟨rfl, hsz, hP, hK, hD0⟩ := hv
  have hx := B.exec
  have hb := B.bytes
  have hr := B.returns
  have hts := atoms_spec (ws := u_c_X12_middle) B.pre
  have hown : s.vm.findClass RX12 = some m.cls := findClass_of_methodNamed B.named
  have hlocks := B.notSynchronized
  subst hsz
  have hD := hD0.self (sz := s.heap.size)
  generalize hAe : va_A [(h0, .inr (12, [h0_0, h0_1, h0_2, .int 0, .int 0, h0_5, h0_6, h0_7, h0_8, h0_9, h0_10, h0_11, h0_12, h0_13, h0_14, h0_15, h0_16, h0_17, h0_18, h0_19, h0_20, h0_21, h0_22, h0_23, h0_24, h0_25, h0_26, h0_27, h0_28, h0_29, h0_30, h0_31, h0_32, h0_33, h0_34, h0_35, h0_36, h0_37, h0_38, h0_39, h0_40, h0_41, h0_42, h0_43, h0_44, h0_45, h0_46, h0_47, h0_48, h0_49, h0_50, h0_51, h0_52, h0_53, h0_54, h0_55, h0_56, h0_57, h0_58, h0_59, h0_60, h0_61, h0_62, h0_63, h0_64, h0_65, h0_66, h0_67, h0_68, h0_69]))] s.heap.size = A at hD ⊢
  have hA : ∀ q : Nat, s.heap.size ≤ q → A q := fun q h => by rw [← hAe]; exact Or.inr h
  have hS : va_S A s.heap s.heap [] := va_S.rf
  have hP : va_P (dC, dI) vwCl [(h0, .inr (12, [h0_0, h0_1, h0_2, .int 0, .int 0, h0_5, h0_6, h0_7, h0_8, h0_9, h0_10, h0_11, h0_12, h0_13, h0_14, h0_15, h0_16, h0_17, h0_18, h0_19, h0_20, h0_21, h0_22, h0_23, h0_24, h0_25, h0_26, h0_27, h0_28, h0_29, h0_30, h0_31, h0_32, h0_33, h0_34, h0_35, h0_36, h0_37, h0_38, h0_39, h0_40, h0_41, h0_42, h0_43, h0_44, h0_45, h0_46, h0_47, h0_48, h0_49, h0_50, h0_51, h0_52, h0_53, h0_54, h0_55, h0_56, h0_57, h0_58, h0_59, h0_60, h0_61, h0_62, h0_63, h0_64, h0_65, h0_66, h0_67, h0_68, h0_69]))] s.heap := hP
  have w__fieldLink_RX12_145_ShellHeapModel_thrown_I_ := hts (.fieldLink RX12 145 "ShellHeapModel" "thrown" "I") (by decide +kernel)
  have hiX12 := show ∀ w ∈ u_ws RX12 TX12 70, w ∈ u_c_X12_middle by decide +kernel
  have hl := lv_entry ([.ref h0, .int p1, .int p2]) (n := 5) (Nat.le_of_ble_eq_true rfl)
  rw [lg_entry_eq]
  generalize (lg_sl ([.ref h0, .int p1, .int p2]) ++ List.replicate (5 - (lg_sl ([.ref h0, .int p1, .int p2])).length) Slot.unset).toArray = ls at hl ⊢
  have hl : lv_has ls 5 [(0, .ref h0), (1, .int p1), (2, .int p2)] := hl
  refine lv_aload_n hx hb dX12_middle_0 rfl (lv_at hl 0 rfl) ?_
  refine lv_iconst (v := 0) hx hb dX12_middle_1 (by decide) ?_
  refine va_put (D := (dC, dI)) (ci := 12) (v := .int 0) (ty := .int) (C := RX12) (T := TX12) (N := 70) hx hb hts hiX12 tyX12 tyX12_ok nmX12 hown hK hP hD hS 0 rfl rfl 2 (by decide) w__fieldLink_RX12_145_ShellHeapModel_thrown_I_ (fun _ h9 => h9) rfl (by decide +kernel) rfl rfl (Nat.le_of_ble_eq_true rfl) dX12_middle_2 (fun H_1 locs hP hD hS => ?_)
  have hP : va_P (dC, dI) vwCl [(h0, .inr (12, [h0_0, h0_1, .int 0, .int 0, .int 0, h0_5, h0_6, h0_7, h0_8, h0_9, h0_10, h0_11, h0_12, h0_13, h0_14, h0_15, h0_16, h0_17, h0_18, h0_19, h0_20, h0_21, h0_22, h0_23, h0_24, h0_25, h0_26, h0_27, h0_28, h0_29, h0_30, h0_31, h0_32, h0_33, h0_34, h0_35, h0_36, h0_37, h0_38, h0_39, h0_40, h0_41, h0_42, h0_43, h0_44, h0_45, h0_46, h0_47, h0_48, h0_49, h0_50, h0_51, h0_52, h0_53, h0_54, h0_55, h0_56, h0_57, h0_58, h0_59, h0_60, h0_61, h0_62, h0_63, h0_64, h0_65, h0_66, h0_67, h0_68, h0_69]))] H_1 := hP
  have hD : va_D A [(h0, .inr (12, [h0_0, h0_1, .int 0, .int 0, .int 0, h0_5, h0_6, h0_7, h0_8, h0_9, h0_10, h0_11, h0_12, h0_13, h0_14, h0_15, h0_16, h0_17, h0_18, h0_19, h0_20, h0_21, h0_22, h0_23, h0_24, h0_25, h0_26, h0_27, h0_28, h0_29, h0_30, h0_31, h0_32, h0_33, h0_34, h0_35, h0_36, h0_37, h0_38, h0_39, h0_40, h0_41, h0_42, h0_43, h0_44, h0_45, h0_46, h0_47, h0_48, h0_49, h0_50, h0_51, h0_52, h0_53, h0_54, h0_55, h0_56, h0_57, h0_58, h0_59, h0_60, h0_61, h0_62, h0_63, h0_64, h0_65, h0_66, h0_67, h0_68, h0_69]))] := hD
  refine lv_aload_n hx hb dX12_middle_5 rfl (lv_at hl 0 rfl) ?_
  refine lv_iload_n hx hb dX12_middle_6 rfl (lv_at hl 1 rfl) ?_
  have hPc := hP.sub (ws' := [(h0, .inr (12, [h0_0, h0_1, .int 0, .int 0, .int 0, h0_5, h0_6, h0_7, h0_8, h0_9, h0_10, h0_11, h0_12, h0_13, h0_14, h0_15, h0_16, h0_17, h0_18, h0_19, h0_20, h0_21, h0_22, h0_23, h0_24, h0_25, h0_26, h0_27, h0_28, h0_29, h0_30, h0_31, h0_32, h0_33, h0_34, h0_35, h0_36, h0_37, h0_38, h0_39, h0_40, h0_41, h0_42, h0_43, h0_44, h0_45, h0_46, h0_47, h0_48, h0_49, h0_50, h0_51, h0_52, h0_53, h0_54, h0_55, h0_56, h0_57, h0_58, h0_59, h0_60, h0_61, h0_62, h0_63, h0_64, h0_65, h0_66, h0_67, h0_68, h0_69]))]) [0] rfl
  have hDc := hD.sub (ws' := [(h0, .inr (12, [h0_0, h0_1, .int 0, .int 0, .int 0, h0_5, h0_6, h0_7, h0_8, h0_9, h0_10, h0_11, h0_12, h0_13, h0_14, h0_15, h0_16, h0_17, h0_18, h0_19, h0_20, h0_21, h0_22, h0_23, h0_24, h0_25, h0_26, h0_27, h0_28, h0_29, h0_30, h0_31, h0_32, h0_33, h0_34, h0_35, h0_36, h0_37, h0_38, h0_39, h0_40, h0_41, h0_42, h0_43, h0_44, h0_45, h0_46, h0_47, h0_48, h0_49, h0_50, h0_51, h0_52, h0_53, h0_54, h0_55, h0_56, h0_57, h0_58, h0_59, h0_60, h0_61, h0_62, h0_63, h0_64, h0_65, h0_66, h0_67, h0_68, h0_69]))]) [0] (by decide) rfl
  have hKc := hK.sub (tys' := []) [] rfl
  have hFc := va_free (ws := []) (wc := []) (z_D0 _) hS hA [] rfl
  refine va_calli (va_runV (As := [.int p1]) (rest := []) ⟨hx, hb, hml, hown, hts⟩ (c_X12_isLayer l dC dI H_1.size h0 p1 h0_0 h0_1 (.int 0) (.int 0) h0_5 h0_6 h0_7 h0_8 h0_9 h0_10 h0_11 h0_12 h0_13 h0_14 h0_15 h0_16 h0_17 h0_18 h0_19 h0_20 h0_21 h0_22 h0_23 h0_24 h0_25 h0_26 h0_27 h0_28 h0_29 h0_30 h0_31 h0_32 h0_33 h0_34 h0_35 h0_36 h0_37 h0_38 h0_39 h0_40 h0_41 h0_42 h0_43 h0_44 h0_45 h0_46 h0_47 h0_48 h0_49 h0_50 h0_51 h0_52 h0_53 h0_54 h0_55 h0_56 h0_57 h0_58 h0_59 h0_60 h0_61 h0_62 h0_63 h0_64 h0_65 h0_66 h0_67 h0_68 h0_69) (cwV 1 hts gw_c_X12_middle_c_X12_isLayer_157 rfl rfl rfl (by decide +kernel) ⟨Nat.le_of_ble_eq_true rfl, Nat.le_of_ble_eq_true rfl⟩) ⟨z_blind, va_recv hKc hPc (ci := 12) (q0 := 0) rfl rfl, z_pre hPc hKc hDc⟩ rfl rfl hl.1 rfl (lv_room (Nat.le_of_ble_eq_true rfl)) dX12_middle_7 ⟨Nat.le_of_ble_eq_true rfl, Nat.le_of_ble_eq_true rfl⟩) hS (fun q _ h => hFc q h) hFc (fun r_3 u t H_2 locs ht hvm hw_4 hB hz1 hk1 hS => ?_)
  have hP := z_pure hP hk1
  have hP : va_P (dC, dI) vwCl [(h0, .inr (12, [h0_0, h0_1, .int 0, .int 0, .int 0, h0_5, h0_6, h0_7, h0_8, h0_9, h0_10, h0_11, h0_12, h0_13, h0_14, h0_15, h0_16, h0_17, h0_18, h0_19, h0_20, h0_21, h0_22, h0_23, h0_24, h0_25, h0_26, h0_27, h0_28, h0_29, h0_30, h0_31, h0_32, h0_33, h0_34, h0_35, h0_36, h0_37, h0_38, h0_39, h0_40, h0_41, h0_42, h0_43, h0_44, h0_45, h0_46, h0_47, h0_48, h0_49, h0_50, h0_51, h0_52, h0_53, h0_54, h0_55, h0_56, h0_57, h0_58, h0_59, h0_60, h0_61, h0_62, h0_63, h0_64, h0_65, h0_66, h0_67, h0_68, h0_69]))] H_2 := hP
  have hD : va_D A [(h0, .inr (12, [h0_0, h0_1, .int 0, .int 0, .int 0, h0_5, h0_6, h0_7, h0_8, h0_9, h0_10, h0_11, h0_12, h0_13, h0_14, h0_15, h0_16, h0_17, h0_18, h0_19, h0_20, h0_21, h0_22, h0_23, h0_24, h0_25, h0_26, h0_27, h0_28, h0_29, h0_30, h0_31, h0_32, h0_33, h0_34, h0_35, h0_36, h0_37, h0_38, h0_39, h0_40, h0_41, h0_42, h0_43, h0_44, h0_45, h0_46, h0_47, h0_48, h0_49, h0_50, h0_51, h0_52, h0_53, h0_54, h0_55, h0_56, h0_57, h0_58, h0_59, h0_60, h0_61, h0_62, h0_63, h0_64, h0_65, h0_66, h0_67, h0_68, h0_69]))] := hD
  clear hPc hDc hKc
  obtain rfl : r_3 = 0 := hw_4
  refine lv_if_eq (tgt := 22) hx hb dX12_middle_10 (by decide) (fun _ => ?_) (fun c_5 => absurd (by decide) c_5)
  refine lv_bipush (v := (-2)) hx hb dX12_middle_22 (by decide) ?_
  refine W.widen (k := 0) (n := 0) (Nat.le_of_ble_eq_true rfl) (Nat.le_of_ble_eq_true rfl) ?_
  exact W.iret (v := (-2)) hx hb hr (fun t ht hW => ⟨⟨(-2), (), rfl, rfl, trivial⟩, hS.F ht⟩) hS.2.2 dX12_middle_24
def u_c_X12_cause : List Cond := .code yX12_cause cX12_cause 3 (some .long) :: ([.fieldLink RX12 145 "ShellHeapModel" "thrown" "I", .constantLong RX12 396 (-9223372036854775808), .fieldLink RX12 390 "ShellHeapModel" "causes" "I"] ++ wsX120)
set_option maxHeartbeats 4000000 in
set_option maxRecDepth 100000 in
theorem c_X12_cause (l : Launch) (dC : Nat → ClassId) (dI : Nat → Nat → Nat) (sz : Nat) (h0 : Nat) (p1 : Int32) (p2 : Int32) (h0_0 : Value) (h0_1 : Value) (h0_2 : Value) (h0_3 : Value) (h0_4 : Value) (h0_5 : Value) (h0_6 : Value) (h0_7 : Value) (h0_8 : Value) (h0_9 : Value) (h0_10 : Value) (h0_11 : Value) (h0_12 : Value) (h0_13 : Value) (h0_14 : Value) (h0_15 : Value) (h0_16 : Value) (h0_17 : Value) (h0_18 : Value) (h0_19 : Value) (h0_20 : Value) (h0_21 : Value) (h0_22 : Value) (h0_23 : Value) (h0_24 : Value) (h0_25 : Value) (h0_26 : Value) (h0_27 : Value) (h0_28 : Value) (h0_29 : Value) (h0_30 : Value) (h0_31 : Value) (h0_32 : Value) (h0_33 : Value) (h0_34 : Value) (h0_35 : Value) (h0_36 : Value) (h0_37 : Value) (h0_38 : Value) (h0_39 : Value) (h0_40 : Value) (h0_41 : Value) (h0_42 : Value) (h0_43 : Value) (h0_45 : Value) (h0_46 : Value) (h0_47 : Value) (h0_48 : Value) (h0_49 : Value) (h0_50 : Value) (h0_51 : Value) (h0_52 : Value) (h0_53 : Value) (h0_54 : Value) (h0_55 : Value) (h0_56 : Value) (h0_57 : Value) (h0_58 : Value) (h0_59 : Value) (h0_60 : Value) (h0_61 : Value) (h0_62 : Value) (h0_63 : Value) (h0_64 : Value) (h0_65 : Value) (h0_66 : Value) (h0_67 : Value) (h0_68 : Value) (h0_69 : Value) : Met l yX12_cause u_c_X12_cause ({ frames := 0, cells := 0, slots := 0, locals := 0 }) (va_Pc [.ref h0, .int p1, .int p2] (z_C (dC, dI) vwCl [(h0, .inr (12, [h0_0, h0_1, h0_2, h0_3, h0_4, h0_5, h0_6, h0_7, h0_8, h0_9, h0_10, h0_11, h0_12, h0_13, h0_14, h0_15, h0_16, h0_17, h0_18, h0_19, h0_20, h0_21, h0_22, h0_23, h0_24, h0_25, h0_26, h0_27, h0_28, h0_29, h0_30, h0_31, h0_32, h0_33, h0_34, h0_35, h0_36, h0_37, h0_38, h0_39, h0_40, h0_41, h0_42, h0_43, .int 0, h0_45, h0_46, h0_47, h0_48, h0_49, h0_50, h0_51, h0_52, h0_53, h0_54, h0_55, h0_56, h0_57, h0_58, h0_59, h0_60, h0_61, h0_62, h0_63, h0_64, h0_65, h0_66, h0_67, h0_68, h0_69]))] [] sz)) (va_Ql (fun (r : Int64) (_ : Unit) => r = (-9223372036854775808)) (fun (_ : Unit) (_ : State) => True) (va_A [(h0, .inr (12, [h0_0, h0_1, h0_2, h0_3, h0_4, h0_5, h0_6, h0_7, h0_8, h0_9, h0_10, h0_11, h0_12, h0_13, h0_14, h0_15, h0_16, h0_17, h0_18, h0_19, h0_20, h0_21, h0_22, h0_23, h0_24, h0_25, h0_26, h0_27, h0_28, h0_29, h0_30, h0_31, h0_32, h0_33, h0_34, h0_35, h0_36, h0_37, h0_38, h0_39, h0_40, h0_41, h0_42, h0_43, .int 0, h0_45, h0_46, h0_47, h0_48, h0_49, h0_50, h0_51, h0_52, h0_53, h0_54, h0_55, h0_56, h0_57, h0_58, h0_59, h0_60, h0_61, h0_62, h0_63, h0_64, h0_65, h0_66, h0_67, h0_68, h0_69]))] sz)) 0 0 (va_A [(h0, .inr (12, [h0_0, h0_1, h0_2, h0_3, h0_4, h0_5, h0_6, h0_7, h0_8, h0_9, h0_10, h0_11, h0_12, h0_13, h0_14, h0_15, h0_16, h0_17, h0_18, h0_19, h0_20, h0_21, h0_22, h0_23, h0_24, h0_25, h0_26, h0_27, h0_28, h0_29, h0_30, h0_31, h0_32, h0_33, h0_34, h0_35, h0_36, h0_37, h0_38, h0_39, h0_40, h0_41, h0_42, h0_43, .int 0, h0_45, h0_46, h0_47, h0_48, h0_49, h0_50, h0_51, h0_52, h0_53, h0_54, h0_55, h0_56, h0_57, h0_58, h0_59, h0_60, h0_61, h0_62, h0_63, h0_64, h0_65, h0_66, h0_67, h0_68, h0_69]))] sz) := by
  refine Met.ofW (cc := cX12_cause) (maxL := 3) (ret := (some .long)) (by decide) rfl ?_
  intro p e s m args below meth c s₁ B hml hv
  obtain ⟨rfl, hsz, hP, hK, hD0⟩ := hv
  have hx := B.exec
  have hb := B.bytes
  have hr := B.returns
  have hts := atoms_spec (ws := u_c_X12_cause) B.pre
  have hown : s.vm.findClass RX12 = some m.cls := findClass_of_methodNamed B.named
  have hlocks := B.notSynchronized
  subst hsz
  have hD := hD0.self (sz := s.heap.size)
  generalize hAe : va_A [(h0, .inr (12, [h0_0, h0_1, h0_2, h0_3, h0_4, h0_5, h0_6, h0_7, h0_8, h0_9, h0_10, h0_11, h0_12, h0_13, h0_14, h0_15, h0_16, h0_17, h0_18, h0_19, h0_20, h0_21, h0_22, h0_23, h0_24, h0_25, h0_26, h0_27, h0_28, h0_29, h0_30, h0_31, h0_32, h0_33, h0_34, h0_35, h0_36, h0_37, h0_38, h0_39, h0_40, h0_41, h0_42, h0_43, .int 0, h0_45, h0_46, h0_47, h0_48, h0_49, h0_50, h0_51, h0_52, h0_53, h0_54, h0_55, h0_56, h0_57, h0_58, h0_59, h0_60, h0_61, h0_62, h0_63, h0_64, h0_65, h0_66, h0_67, h0_68, h0_69]))] s.heap.size = A at hD ⊢
  have hA : ∀ q : Nat, s.heap.size ≤ q → A q := fun q h => by rw [← hAe]; exact Or.inr h
  have hS : va_S A s.heap s.heap [] := va_S.rf
  have hP : va_P (dC, dI) vwCl [(h0, .inr (12, [h0_0, h0_1, h0_2, h0_3, h0_4, h0_5, h0_6, h0_7, h0_8, h0_9, h0_10, h0_11, h0_12, h0_13, h0_14, h0_15, h0_16, h0_17, h0_18, h0_19, h0_20, h0_21, h0_22, h0_23, h0_24, h0_25, h0_26, h0_27, h0_28, h0_29, h0_30, h0_31, h0_32, h0_33, h0_34, h0_35, h0_36, h0_37, h0_38, h0_39, h0_40, h0_41, h0_42, h0_43, .int 0, h0_45, h0_46, h0_47, h0_48, h0_49, h0_50, h0_51, h0_52, h0_53, h0_54, h0_55, h0_56, h0_57, h0_58, h0_59, h0_60, h0_61, h0_62, h0_63, h0_64, h0_65, h0_66, h0_67, h0_68, h0_69]))] s.heap := hP
  have w__fieldLink_RX12_145_ShellHeapModel_thrown_I_ := hts (.fieldLink RX12 145 "ShellHeapModel" "thrown" "I") (by decide +kernel)
  have hiX12 := show ∀ w ∈ u_ws RX12 TX12 70, w ∈ u_c_X12_cause by decide +kernel
  have w__constantLong_RX12_396_9223372036854775808_ := hts (.constantLong RX12 396 (-9223372036854775808)) (by decide +kernel)
  have w__fieldLink_RX12_390_ShellHeapModel_causes_I_ := hts (.fieldLink RX12 390 "ShellHeapModel" "causes" "I") (by decide +kernel)
  have hl := lv_entry ([.ref h0, .int p1, .int p2]) (n := 3) (Nat.le_of_ble_eq_true rfl)
  rw [lg_entry_eq]
  generalize (lg_sl ([.ref h0, .int p1, .int p2]) ++ List.replicate (3 - (lg_sl ([.ref h0, .int p1, .int p2])).length) Slot.unset).toArray = ls at hl ⊢
  have hl : lv_has ls 3 [(0, .ref h0), (1, .int p1), (2, .int p2)] := hl
  refine lv_aload_n hx hb dX12_cause_0 rfl (lv_at hl 0 rfl) ?_
  refine lv_iconst (v := 0) hx hb dX12_cause_1 (by decide) ?_
  refine va_put (D := (dC, dI)) (ci := 12) (v := .int 0) (ty := .int) (C := RX12) (T := TX12) (N := 70) hx hb hts hiX12 tyX12 tyX12_ok nmX12 hown hK hP hD hS 0 rfl rfl 2 (by decide) w__fieldLink_RX12_145_ShellHeapModel_thrown_I_ (fun _ h9 => h9) rfl (by decide +kernel) rfl rfl (Nat.le_of_ble_eq_true rfl) dX12_cause_2 (fun H_1 locs hP hD hS => ?_)
  have hP : va_P (dC, dI) vwCl [(h0, .inr (12, [h0_0, h0_1, .int 0, h0_3, h0_4, h0_5, h0_6, h0_7, h0_8, h0_9, h0_10, h0_11, h0_12, h0_13, h0_14, h0_15, h0_16, h0_17, h0_18, h0_19, h0_20, h0_21, h0_22, h0_23, h0_24, h0_25, h0_26, h0_27, h0_28, h0_29, h0_30, h0_31, h0_32, h0_33, h0_34, h0_35, h0_36, h0_37, h0_38, h0_39, h0_40, h0_41, h0_42, h0_43, .int 0, h0_45, h0_46, h0_47, h0_48, h0_49, h0_50, h0_51, h0_52, h0_53, h0_54, h0_55, h0_56, h0_57, h0_58, h0_59, h0_60, h0_61, h0_62, h0_63, h0_64, h0_65, h0_66, h0_67, h0_68, h0_69]))] H_1 := hP
  have hD : va_D A [(h0, .inr (12, [h0_0, h0_1, .int 0, h0_3, h0_4, h0_5, h0_6, h0_7, h0_8, h0_9, h0_10, h0_11, h0_12, h0_13, h0_14, h0_15, h0_16, h0_17, h0_18, h0_19, h0_20, h0_21, h0_22, h0_23, h0_24, h0_25, h0_26, h0_27, h0_28, h0_29, h0_30, h0_31, h0_32, h0_33, h0_34, h0_35, h0_36, h0_37, h0_38, h0_39, h0_40, h0_41, h0_42, h0_43, .int 0, h0_45, h0_46, h0_47, h0_48, h0_49, h0_50, h0_51, h0_52, h0_53, h0_54, h0_55, h0_56, h0_57, h0_58, h0_59, h0_60, h0_61, h0_62, h0_63, h0_64, h0_65, h0_66, h0_67, h0_68, h0_69]))] := hD
  refine lv_iload_n hx hb dX12_cause_5 rfl (lv_at hl 1 rfl) ?_
  refine lv_if_lt (tgt := 25) hx hb dX12_cause_6 (by decide) (fun c_2 => ?_) (fun c_2 => ?_)
  · have k_3 : (p1).toInt < (0 : Int) := z_lt c_2
    refine lv_ldc2 (v := (-9223372036854775808)) hx hb hown w__constantLong_RX12_396_9223372036854775808_ dX12_cause_25 ?_
    refine W.widen (k := 0) (n := 0) (Nat.le_of_ble_eq_true rfl) (Nat.le_of_ble_eq_true rfl) ?_
    exact W.lret (v := (-9223372036854775808)) hx hb hr (fun t ht hW => ⟨⟨(-9223372036854775808), (), rfl, rfl, trivial⟩, hS.F ht⟩) hS.2.2 dX12_cause_28
  · have k_4 : (p1).toInt ≥ (0 : Int) := z_nlt c_2
    refine lv_iload_n hx hb dX12_cause_9 rfl (lv_at hl 1 rfl) ?_
    refine lv_aload_n hx hb dX12_cause_10 rfl (lv_at hl 0 rfl) ?_
    refine va_get (D := (dC, dI)) (ci := 12) (v := .int 0) (C := RX12) (T := TX12) (N := 70) hx hb hts hiX12 hown hK hP 0 rfl rfl 44 (by decide) w__fieldLink_RX12_390_ShellHeapModel_causes_I_ (fun _ h9 => h9) rfl dX12_cause_11 ?_
    refine lv_icmp_ge (tgt := 25) hx hb dX12_cause_14 (by decide) (fun _ => ?_) (fun c_5 => ?_)
    rotate_left
    · exfalso
      have k_6 : (0 : Int) > (p1).toInt := z_nle c_5
      omega
    refine lv_ldc2 (v := (-9223372036854775808)) hx hb hown w__constantLong_RX12_396_9223372036854775808_ dX12_cause_25 ?_
    refine W.widen (k := 0) (n := 0) (Nat.le_of_ble_eq_true rfl) (Nat.le_of_ble_eq_true rfl) ?_
    exact W.lret (v := (-9223372036854775808)) hx hb hr (fun t ht hW => ⟨⟨(-9223372036854775808), (), rfl, rfl, trivial⟩, hS.F ht⟩) hS.2.2 dX12_cause_28
def u_c_X12_why : List Cond := .code yX12_why cX12_why 7 (some .int) :: ([.fieldLink RX12 145 "ShellHeapModel" "thrown" "I", .methodLink RX12 157 yX12_isLayer, .instanceMethod yX12_isLayer, .selects RX12 yX12_isLayer yX12_isLayer, .initialized RX12, .code yX12_isLayer cX12_isLayer 2 (some .boolean), .fieldLink RX12 151 "ShellHeapModel" "layers" "I"] ++ wsX120)
set_option maxRecDepth 20000 in
theorem gw_c_X12_why_c_X12_isLayer_157 : GoodIn u_c_X12_why (wsV RX12 157 RX12 yX12_isLayer u_c_X12_isLayer) := goodIn_r _ [2, 3, 4, 5, 6, 7, 8, 9, 10, 11, 12, 13, 14, 15, 16, 17, 18, 19, 20, 21, 22, 23, 24, 25, 26, 27, 28, 29, 30, 31, 32, 33, 34, 35, 36, 37, 38, 39, 40, 41, 42, 43, 44, 45, 46, 47, 48, 49, 50, 51, 52, 53, 54, 55, 56, 57, 58, 59, 60, 61, 62, 63, 64, 65, 66, 67, 68, 69, 70, 71, 72, 73, 74, 75, 76, 77] (by decide +kernel) (by decide +kernel)
set_option maxHeartbeats 4000000 in
set_option maxRecDepth 100000 in
theorem c_X12_why (l : Launch) (dC : Nat → ClassId) (dI : Nat → Nat → Nat) (sz : Nat) (h0 : Nat) (p1 : Int32) (h0_0 : Value) (h0_1 : Value) (h0_2 : Value) (h0_5 : Value) (h0_6 : Value) (h0_7 : Value) (h0_8 : Value) (h0_9 : Value) (h0_10 : Value) (h0_11 : Value) (h0_12 : Value) (h0_13 : Value) (h0_14 : Value) (h0_15 : Value) (h0_16 : Value) (h0_17 : Value) (h0_18 : Value) (h0_19 : Value) (h0_20 : Value) (h0_21 : Value) (h0_22 : Value) (h0_23 : Value) (h0_24 : Value) (h0_25 : Value) (h0_26 : Value) (h0_27 : Value) (h0_28 : Value) (h0_29 : Value) (h0_30 : Value) (h0_31 : Value) (h0_32 : Value) (h0_33 : Value) (h0_34 : Value) (h0_35 : Value) (h0_36 : Value) (h0_37 : Value) (h0_38 : Value) (h0_39 : Value) (h0_40 : Value) (h0_41 : Value) (h0_42 : Value) (h0_43 : Value) (h0_44 : Value) (h0_45 : Value) (h0_46 : Value) (h0_47 : Value) (h0_48 : Value) (h0_49 : Value) (h0_50 : Value) (h0_51 : Value) (h0_52 : Value) (h0_53 : Value) (h0_54 : Value) (h0_55 : Value) (h0_56 : Value) (h0_57 : Value) (h0_58 : Value) (h0_59 : Value) (h0_60 : Value) (h0_61 : Value) (h0_62 : Value) (h0_63 : Value) (h0_64 : Value) (h0_65 : Value) (h0_66 : Value) (h0_67 : Value) (h0_68 : Value) (h0_69 : Value) : Met l yX12_why u_c_X12_why ({ frames := 1, cells := 0, slots := 0, locals := 21 }) (va_Pc [.ref h0, .int p1] (z_C (dC, dI) vwCl [(h0, .inr (12, [h0_0, h0_1, h0_2, .int 0, .int 0, h0_5, h0_6, h0_7, h0_8, h0_9, h0_10, h0_11, h0_12, h0_13, h0_14, h0_15, h0_16, h0_17, h0_18, h0_19, h0_20, h0_21, h0_22, h0_23, h0_24, h0_25, h0_26, h0_27, h0_28, h0_29, h0_30, h0_31, h0_32, h0_33, h0_34, h0_35, h0_36, h0_37, h0_38, h0_39, h0_40, h0_41, h0_42, h0_43, h0_44, h0_45, h0_46, h0_47, h0_48, h0_49, h0_50, h0_51, h0_52, h0_53, h0_54, h0_55, h0_56, h0_57, h0_58, h0_59, h0_60, h0_61, h0_62, h0_63, h0_64, h0_65, h0_66, h0_67, h0_68, h0_69]))] [] sz)) (va_Qi (fun (r : Int32) (_ : Unit) => r = (-1)) (fun (_ : Unit) (_ : State) => True) (va_A [(h0, .inr (12, [h0_0, h0_1, h0_2, .int 0, .int 0, h0_5, h0_6, h0_7, h0_8, h0_9, h0_10, h0_11, h0_12, h0_13, h0_14, h0_15, h0_16, h0_17, h0_18, h0_19, h0_20, h0_21, h0_22, h0_23, h0_24, h0_25, h0_26, h0_27, h0_28, h0_29, h0_30, h0_31, h0_32, h0_33, h0_34, h0_35, h0_36, h0_37, h0_38, h0_39, h0_40, h0_41, h0_42, h0_43, h0_44, h0_45, h0_46, h0_47, h0_48, h0_49, h0_50, h0_51, h0_52, h0_53, h0_54, h0_55, h0_56, h0_57, h0_58, h0_59, h0_60, h0_61, h0_62, h0_63, h0_64, h0_65, h0_66, h0_67, h0_68, h0_69]))] sz)) 0 0 (va_A [(h0, .inr (12, [h0_0, h0_1, h0_2, .int 0, .int 0, h0_5, h0_6, h0_7, h0_8, h0_9, h0_10, h0_11, h0_12, h0_13, h0_14, h0_15, h0_16, h0_17, h0_18, h0_19, h0_20, h0_21, h0_22, h0_23, h0_24, h0_25, h0_26, h0_27, h0_28, h0_29, h0_30, h0_31, h0_32, h0_33, h0_34, h0_35, h0_36, h0_37, h0_38, h0_39, h0_40, h0_41, h0_42, h0_43, h0_44, h0_45, h0_46, h0_47, h0_48, h0_49, h0_50, h0_51, h0_52, h0_53, h0_54, h0_55, h0_56, h0_57, h0_58, h0_59, h0_60, h0_61, h0_62, h0_63, h0_64, h0_65, h0_66, h0_67, h0_68, h0_69]))] sz) := by
  refine Met.ofW (cc := cX12_why) (maxL := 7) (ret := (some .int)) (by decide) rfl ?_
  intro p e s m args below meth c s₁ B hml hv
  obtain ⟨rfl, hsz, hP, hK, hD0⟩ := hv
  have hx := B.exec
  have hb := B.bytes
  have hr := B.returns
  have hts := atoms_spec (ws := u_c_X12_why) B.pre
  have hown : s.vm.findClass RX12 = some m.cls := findClass_of_methodNamed B.named
  have hlocks := B.notSynchronized
  subst hsz
  have hD := hD0.self (sz := s.heap.size)
  generalize hAe : va_A [(h0, .inr (12, [h0_0, h0_1, h0_2, .int 0, .int 0, h0_5, h0_6, h0_7, h0_8, h0_9, h0_10, h0_11, h0_12, h0_13, h0_14, h0_15, h0_16, h0_17, h0_18, h0_19, h0_20, h0_21, h0_22, h0_23, h0_24, h0_25, h0_26, h0_27, h0_28, h0_29, h0_30, h0_31, h0_32, h0_33, h0_34, h0_35, h0_36, h0_37, h0_38, h0_39, h0_40, h0_41, h0_42, h0_43, h0_44, h0_45, h0_46, h0_47, h0_48, h0_49, h0_50, h0_51, h0_52, h0_53, h0_54, h0_55, h0_56, h0_57, h0_58, h0_59, h0_60, h0_61, h0_62, h0_63, h0_64, h0_65, h0_66, h0_67, h0_68, h0_69]))] s.heap.size = A at hD ⊢
  have hA : ∀ q : Nat, s.heap.size ≤ q → A q := fun q h => by rw [← hAe]; exact Or.inr h
  have hS : va_S A s.heap s.heap [] := va_S.rf
  have hP : va_P (dC, dI) vwCl [(h0, .inr (12, [h0_0, h0_1, h0_2, .int 0, .int 0, h0_5, h0_6, h0_7, h0_8, h0_9, h0_10, h0_11, h0_12, h0_13, h0_14, h0_15, h0_16, h0_17, h0_18, h0_19, h0_20, h0_21, h0_22, h0_23, h0_24, h0_25, h0_26, h0_27, h0_28, h0_29, h0_30, h0_31, h0_32, h0_33, h0_34, h0_35, h0_36, h0_37, h0_38, h0_39, h0_40, h0_41, h0_42, h0_43, h0_44, h0_45, h0_46, h0_47, h0_48, h0_49, h0_50, h0_51, h0_52, h0_53, h0_54, h0_55, h0_56, h0_57, h0_58, h0_59, h0_60, h0_61, h0_62, h0_63, h0_64, h0_65, h0_66, h0_67, h0_68, h0_69]))] s.heap := hP
  have w__fieldLink_RX12_145_ShellHeapModel_thrown_I_ := hts (.fieldLink RX12 145 "ShellHeapModel" "thrown" "I") (by decide +kernel)
  have hiX12 := show ∀ w ∈ u_ws RX12 TX12 70, w ∈ u_c_X12_why by decide +kernel
  have hl := lv_entry ([.ref h0, .int p1]) (n := 7) (Nat.le_of_ble_eq_true rfl)
  rw [lg_entry_eq]
  generalize (lg_sl ([.ref h0, .int p1]) ++ List.replicate (7 - (lg_sl ([.ref h0, .int p1])).length) Slot.unset).toArray = ls at hl ⊢
  have hl : lv_has ls 7 [(0, .ref h0), (1, .int p1)] := hl
  refine lv_aload_n hx hb dX12_why_0 rfl (lv_at hl 0 rfl) ?_
  refine lv_iconst (v := 0) hx hb dX12_why_1 (by decide) ?_
  refine va_put (D := (dC, dI)) (ci := 12) (v := .int 0) (ty := .int) (C := RX12) (T := TX12) (N := 70) hx hb hts hiX12 tyX12 tyX12_ok nmX12 hown hK hP hD hS 0 rfl rfl 2 (by decide) w__fieldLink_RX12_145_ShellHeapModel_thrown_I_ (fun _ h9 => h9) rfl (by decide +kernel) rfl rfl (Nat.le_of_ble_eq_true rfl) dX12_why_2 (fun H_1 locs hP hD hS => ?_)
  have hP : va_P (dC, dI) vwCl [(h0, .inr (12, [h0_0, h0_1, .int 0, .int 0, .int 0, h0_5, h0_6, h0_7, h0_8, h0_9, h0_10, h0_11, h0_12, h0_13, h0_14, h0_15, h0_16, h0_17, h0_18, h0_19, h0_20, h0_21, h0_22, h0_23, h0_24, h0_25, h0_26, h0_27, h0_28, h0_29, h0_30, h0_31, h0_32, h0_33, h0_34, h0_35, h0_36, h0_37, h0_38, h0_39, h0_40, h0_41, h0_42, h0_43, h0_44, h0_45, h0_46, h0_47, h0_48, h0_49, h0_50, h0_51, h0_52, h0_53, h0_54, h0_55, h0_56, h0_57, h0_58, h0_59, h0_60, h0_61, h0_62, h0_63, h0_64, h0_65, h0_66, h0_67, h0_68, h0_69]))] H_1 := hP
  have hD : va_D A [(h0, .inr (12, [h0_0, h0_1, .int 0, .int 0, .int 0, h0_5, h0_6, h0_7, h0_8, h0_9, h0_10, h0_11, h0_12, h0_13, h0_14, h0_15, h0_16, h0_17, h0_18, h0_19, h0_20, h0_21, h0_22, h0_23, h0_24, h0_25, h0_26, h0_27, h0_28, h0_29, h0_30, h0_31, h0_32, h0_33, h0_34, h0_35, h0_36, h0_37, h0_38, h0_39, h0_40, h0_41, h0_42, h0_43, h0_44, h0_45, h0_46, h0_47, h0_48, h0_49, h0_50, h0_51, h0_52, h0_53, h0_54, h0_55, h0_56, h0_57, h0_58, h0_59, h0_60, h0_61, h0_62, h0_63, h0_64, h0_65, h0_66, h0_67, h0_68, h0_69]))] := hD
  refine lv_aload_n hx hb dX12_why_5 rfl (lv_at hl 0 rfl) ?_
  refine lv_iload_n hx hb dX12_why_6 rfl (lv_at hl 1 rfl) ?_
  have hPc := hP.sub (ws' := [(h0, .inr (12, [h0_0, h0_1, .int 0, .int 0, .int 0, h0_5, h0_6, h0_7, h0_8, h0_9, h0_10, h0_11, h0_12, h0_13, h0_14, h0_15, h0_16, h0_17, h0_18, h0_19, h0_20, h0_21, h0_22, h0_23, h0_24, h0_25, h0_26, h0_27, h0_28, h0_29, h0_30, h0_31, h0_32, h0_33, h0_34, h0_35, h0_36, h0_37, h0_38, h0_39, h0_40, h0_41, h0_42, h0_43, h0_44, h0_45, h0_46, h0_47, h0_48, h0_49, h0_50, h0_51, h0_52, h0_53, h0_54, h0_55, h0_56, h0_57, h0_58, h0_59, h0_60, h0_61, h0_62, h0_63, h0_64, h0_65, h0_66, h0_67, h0_68, h0_69]))]) [0] rfl
  have hDc := hD.sub (ws' := [(h0, .inr (12, [h0_0, h0_1, .int 0, .int 0, .int 0, h0_5, h0_6, h0_7, h0_8, h0_9, h0_10, h0_11, h0_12, h0_13, h0_14, h0_15, h0_16, h0_17, h0_18, h0_19, h0_20, h0_21, h0_22, h0_23, h0_24, h0_25, h0_26, h0_27, h0_28, h0_29, h0_30, h0_31, h0_32, h0_33, h0_34, h0_35, h0_36, h0_37, h0_38, h0_39, h0_40, h0_41, h0_42, h0_43, h0_44, h0_45, h0_46, h0_47, h0_48, h0_49, h0_50, h0_51, h0_52, h0_53, h0_54, h0_55, h0_56, h0_57, h0_58, h0_59, h0_60, h0_61, h0_62, h0_63, h0_64, h0_65, h0_66, h0_67, h0_68, h0_69]))]) [0] (by decide) rfl
  have hKc := hK.sub (tys' := []) [] rfl
  have hFc := va_free (ws := []) (wc := []) (z_D0 _) hS hA [] rfl
  refine va_calli (va_runV (As := [.int p1]) (rest := []) ⟨hx, hb, hml, hown, hts⟩ (c_X12_isLayer l dC dI H_1.size h0 p1 h0_0 h0_1 (.int 0) (.int 0) h0_5 h0_6 h0_7 h0_8 h0_9 h0_10 h0_11 h0_12 h0_13 h0_14 h0_15 h0_16 h0_17 h0_18 h0_19 h0_20 h0_21 h0_22 h0_23 h0_24 h0_25 h0_26 h0_27 h0_28 h0_29 h0_30 h0_31 h0_32 h0_33 h0_34 h0_35 h0_36 h0_37 h0_38 h0_39 h0_40 h0_41 h0_42 h0_43 h0_44 h0_45 h0_46 h0_47 h0_48 h0_49 h0_50 h0_51 h0_52 h0_53 h0_54 h0_55 h0_56 h0_57 h0_58 h0_59 h0_60 h0_61 h0_62 h0_63 h0_64 h0_65 h0_66 h0_67 h0_68 h0_69) (cwV 1 hts gw_c_X12_why_c_X12_isLayer_157 rfl rfl rfl (by decide +kernel) ⟨Nat.le_of_ble_eq_true rfl, Nat.le_of_ble_eq_true rfl⟩) ⟨z_blind, va_recv hKc hPc (ci := 12) (q0 := 0) rfl rfl, z_pre hPc hKc hDc⟩ rfl rfl hl.1 rfl (lv_room (Nat.le_of_ble_eq_true rfl)) dX12_why_7 ⟨Nat.le_of_ble_eq_true rfl, Nat.le_of_ble_eq_true rfl⟩) hS (fun q _ h => hFc q h) hFc (fun r_3 u t H_2 locs ht hvm hw_4 hB hz1 hk1 hS => ?_)
  have hP := z_pure hP hk1
  have hP : va_P (dC, dI) vwCl [(h0, .inr (12, [h0_0, h0_1, .int 0, .int 0, .int 0, h0_5, h0_6, h0_7, h0_8, h0_9, h0_10, h0_11, h0_12, h0_13, h0_14, h0_15, h0_16, h0_17, h0_18, h0_19, h0_20, h0_21, h0_22, h0_23, h0_24, h0_25, h0_26, h0_27, h0_28, h0_29, h0_30, h0_31, h0_32, h0_33, h0_34, h0_35, h0_36, h0_37, h0_38, h0_39, h0_40, h0_41, h0_42, h0_43, h0_44, h0_45, h0_46, h0_47, h0_48, h0_49, h0_50, h0_51, h0_52, h0_53, h0_54, h0_55, h0_56, h0_57, h0_58, h0_59, h0_60, h0_61, h0_62, h0_63, h0_64, h0_65, h0_66, h0_67, h0_68, h0_69]))] H_2 := hP
  have hD : va_D A [(h0, .inr (12, [h0_0, h0_1, .int 0, .int 0, .int 0, h0_5, h0_6, h0_7, h0_8, h0_9, h0_10, h0_11, h0_12, h0_13, h0_14, h0_15, h0_16, h0_17, h0_18, h0_19, h0_20, h0_21, h0_22, h0_23, h0_24, h0_25, h0_26, h0_27, h0_28, h0_29, h0_30, h0_31, h0_32, h0_33, h0_34, h0_35, h0_36, h0_37, h0_38, h0_39, h0_40, h0_41, h0_42, h0_43, h0_44, h0_45, h0_46, h0_47, h0_48, h0_49, h0_50, h0_51, h0_52, h0_53, h0_54, h0_55, h0_56, h0_57, h0_58, h0_59, h0_60, h0_61, h0_62, h0_63, h0_64, h0_65, h0_66, h0_67, h0_68, h0_69]))] := hD
  clear hPc hDc hKc
  obtain rfl : r_3 = 0 := hw_4
  refine lv_if_ne (tgt := 15) hx hb dX12_why_10 (by decide) (fun c_5 => absurd c_5 (by decide)) (fun _ => ?_)
  refine lv_iconst (v := (-1)) hx hb dX12_why_13 (by decide) ?_
  refine W.widen (k := 0) (n := 0) (Nat.le_of_ble_eq_true rfl) (Nat.le_of_ble_eq_true rfl) ?_
  exact W.iret (v := (-1)) hx hb hr (fun t ht hW => ⟨⟨(-1), (), rfl, rfl, trivial⟩, hS.F ht⟩) hS.2.2 dX12_why_14
def u_c_X12_thrown_0 : List Cond := .code yX12_thrown cX12_thrown 1 (some .int) :: ([.fieldLink RX12 145 "ShellHeapModel" "thrown" "I"] ++ wsX120)
set_option maxHeartbeats 4000000 in
set_option maxRecDepth 100000 in
theorem c_X12_thrown_0 (l : Launch) (dC : Nat → ClassId) (dI : Nat → Nat → Nat) (sz : Nat) (h0 : Nat) (h0_0 : Value) (h0_1 : Value) (h0_3 : Value) (h0_4 : Value) (h0_5 : Value) (h0_6 : Value) (h0_7 : Value) (h0_8 : Value) (h0_9 : Value) (h0_10 : Value) (h0_11 : Value) (h0_12 : Value) (h0_13 : Value) (h0_14 : Value) (h0_15 : Value) (h0_16 : Value) (h0_17 : Value) (h0_18 : Value) (h0_19 : Value) (h0_20 : Value) (h0_21 : Value) (h0_22 : Value) (h0_23 : Value) (h0_24 : Value) (h0_25 : Value) (h0_26 : Value) (h0_27 : Value) (h0_28 : Value) (h0_29 : Value) (h0_30 : Value) (h0_31 : Value) (h0_32 : Value) (h0_33 : Value) (h0_34 : Value) (h0_35 : Value) (h0_36 : Value) (h0_37 : Value) (h0_38 : Value) (h0_39 : Value) (h0_40 : Value) (h0_41 : Value) (h0_42 : Value) (h0_43 : Value) (h0_44 : Value) (h0_45 : Value) (h0_46 : Value) (h0_47 : Value) (h0_48 : Value) (h0_49 : Value) (h0_50 : Value) (h0_51 : Value) (h0_52 : Value) (h0_53 : Value) (h0_54 : Value) (h0_55 : Value) (h0_56 : Value) (h0_57 : Value) (h0_58 : Value) (h0_59 : Value) (h0_60 : Value) (h0_61 : Value) (h0_62 : Value) (h0_63 : Value) (h0_64 : Value) (h0_65 : Value) (h0_66 : Value) (h0_67 : Value) (h0_68 : Value) (h0_69 : Value) : Met l yX12_thrown u_c_X12_thrown_0 ({ frames := 0, cells := 0, slots := 0, locals := 0 }) (va_Pc [.ref h0] (z_C (dC, dI) vwCl [(h0, .inr (12, [h0_0, h0_1, .int 0, h0_3, h0_4, h0_5, h0_6, h0_7, h0_8, h0_9, h0_10, h0_11, h0_12, h0_13, h0_14, h0_15, h0_16, h0_17, h0_18, h0_19, h0_20, h0_21, h0_22, h0_23, h0_24, h0_25, h0_26, h0_27, h0_28, h0_29, h0_30, h0_31, h0_32, h0_33, h0_34, h0_35, h0_36, h0_37, h0_38, h0_39, h0_40, h0_41, h0_42, h0_43, h0_44, h0_45, h0_46, h0_47, h0_48, h0_49, h0_50, h0_51, h0_52, h0_53, h0_54, h0_55, h0_56, h0_57, h0_58, h0_59, h0_60, h0_61, h0_62, h0_63, h0_64, h0_65, h0_66, h0_67, h0_68, h0_69]))] [] sz)) (va_Qi (fun (r : Int32) (_ : Unit) => r = 0) (fun (_ : Unit) (_ : State) => True) (va_A [] sz)) 0 0 (va_A [] sz) := by
  refine Met.ofW (cc := cX12_thrown) (maxL := 1) (ret := (some .int)) (by decide) rfl ?_
  intro p e s m args below meth c s₁ B hml hv
  obtain ⟨rfl, hsz, hP, hK, hD0⟩ := hv
  have hx := B.exec
  have hb := B.bytes
  have hr := B.returns
  have hts := atoms_spec (ws := u_c_X12_thrown_0) B.pre
  have hown : s.vm.findClass RX12 = some m.cls := findClass_of_methodNamed B.named
  have hlocks := B.notSynchronized
  subst hsz
  have hD := hD0
  generalize hAe : va_A [] s.heap.size = A
  have hA : ∀ q : Nat, s.heap.size ≤ q → A q := fun q h => by rw [← hAe]; exact Or.inr h
  have hS : va_S A s.heap s.heap [] := va_S.rf
  have hP : va_P (dC, dI) vwCl [(h0, .inr (12, [h0_0, h0_1, .int 0, h0_3, h0_4, h0_5, h0_6, h0_7, h0_8, h0_9, h0_10, h0_11, h0_12, h0_13, h0_14, h0_15, h0_16, h0_17, h0_18, h0_19, h0_20, h0_21, h0_22, h0_23, h0_24, h0_25, h0_26, h0_27, h0_28, h0_29, h0_30, h0_31, h0_32, h0_33, h0_34, h0_35, h0_36, h0_37, h0_38, h0_39, h0_40, h0_41, h0_42, h0_43, h0_44, h0_45, h0_46, h0_47, h0_48, h0_49, h0_50, h0_51, h0_52, h0_53, h0_54, h0_55, h0_56, h0_57, h0_58, h0_59, h0_60, h0_61, h0_62, h0_63, h0_64, h0_65, h0_66, h0_67, h0_68, h0_69]))] s.heap := hP
  have w__fieldLink_RX12_145_ShellHeapModel_thrown_I_ := hts (.fieldLink RX12 145 "ShellHeapModel" "thrown" "I") (by decide +kernel)
  have hiX12 := show ∀ w ∈ u_ws RX12 TX12 70, w ∈ u_c_X12_thrown_0 by decide +kernel
  have hl := lv_entry ([.ref h0]) (n := 1) (Nat.le_of_ble_eq_true rfl)
  rw [lg_entry_eq]
  generalize (lg_sl ([.ref h0]) ++ List.replicate (1 - (lg_sl ([.ref h0])).length) Slot.unset).toArray = ls at hl ⊢
  have hl : lv_has ls 1 [(0, .ref h0)] := hl
  refine lv_aload_n hx hb dX12_thrown_0 rfl (lv_at hl 0 rfl) ?_
  refine va_get (D := (dC, dI)) (ci := 12) (v := .int 0) (C := RX12) (T := TX12) (N := 70) hx hb hts hiX12 hown hK hP 0 rfl rfl 2 (by decide) w__fieldLink_RX12_145_ShellHeapModel_thrown_I_ (fun _ h9 => h9) rfl dX12_thrown_1 ?_
  refine W.widen (k := 0) (n := 0) (Nat.le_of_ble_eq_true rfl) (Nat.le_of_ble_eq_true rfl) ?_
  exact W.iret (v := 0) hx hb hr (fun t ht hW => ⟨⟨0, (), rfl, rfl, trivial⟩, hS.F ht⟩) hS.2.2 dX12_thrown_4
def u_c_X12_thrown_1 : List Cond := .code yX12_thrown cX12_thrown 1 (some .int) :: ([.fieldLink RX12 145 "ShellHeapModel" "thrown" "I"] ++ wsX120)
set_option maxHeartbeats 4000000 in
set_option maxRecDepth 100000 in
theorem c_X12_thrown_1 (l : Launch) (dC : Nat → ClassId) (dI : Nat → Nat → Nat) (sz : Nat) (h0 : Nat) (h0_0 : Value) (h0_1 : Value) (h0_3 : Value) (h0_4 : Value) (h0_5 : Value) (h0_6 : Value) (h0_7 : Value) (h0_8 : Value) (h0_9 : Value) (h0_10 : Value) (h0_11 : Value) (h0_12 : Value) (h0_13 : Value) (h0_14 : Value) (h0_15 : Value) (h0_16 : Value) (h0_17 : Value) (h0_18 : Value) (h0_19 : Value) (h0_20 : Value) (h0_21 : Value) (h0_22 : Value) (h0_23 : Value) (h0_24 : Value) (h0_25 : Value) (h0_26 : Value) (h0_27 : Value) (h0_28 : Value) (h0_29 : Value) (h0_30 : Value) (h0_31 : Value) (h0_32 : Value) (h0_33 : Value) (h0_34 : Value) (h0_35 : Value) (h0_36 : Value) (h0_37 : Value) (h0_38 : Value) (h0_39 : Value) (h0_40 : Value) (h0_41 : Value) (h0_42 : Value) (h0_43 : Value) (h0_44 : Value) (h0_45 : Value) (h0_46 : Value) (h0_47 : Value) (h0_48 : Value) (h0_49 : Value) (h0_50 : Value) (h0_51 : Value) (h0_52 : Value) (h0_53 : Value) (h0_54 : Value) (h0_55 : Value) (h0_56 : Value) (h0_57 : Value) (h0_58 : Value) (h0_59 : Value) (h0_60 : Value) (h0_61 : Value) (h0_62 : Value) (h0_63 : Value) (h0_64 : Value) (h0_65 : Value) (h0_66 : Value) (h0_67 : Value) (h0_68 : Value) (h0_69 : Value) : Met l yX12_thrown u_c_X12_thrown_1 ({ frames := 0, cells := 0, slots := 0, locals := 0 }) (va_Pc [.ref h0] (z_C (dC, dI) vwCl [(h0, .inr (12, [h0_0, h0_1, .int 1, h0_3, h0_4, h0_5, h0_6, h0_7, h0_8, h0_9, h0_10, h0_11, h0_12, h0_13, h0_14, h0_15, h0_16, h0_17, h0_18, h0_19, h0_20, h0_21, h0_22, h0_23, h0_24, h0_25, h0_26, h0_27, h0_28, h0_29, h0_30, h0_31, h0_32, h0_33, h0_34, h0_35, h0_36, h0_37, h0_38, h0_39, h0_40, h0_41, h0_42, h0_43, h0_44, h0_45, h0_46, h0_47, h0_48, h0_49, h0_50, h0_51, h0_52, h0_53, h0_54, h0_55, h0_56, h0_57, h0_58, h0_59, h0_60, h0_61, h0_62, h0_63, h0_64, h0_65, h0_66, h0_67, h0_68, h0_69]))] [] sz)) (va_Qi (fun (r : Int32) (_ : Unit) => r = 1) (fun (_ : Unit) (_ : State) => True) (va_A [] sz)) 0 0 (va_A [] sz) := by
  refine Met.ofW (cc := cX12_thrown) (maxL := 1) (ret := (some .int)) (by decide) rfl ?_
  intro p e s m args below meth c s₁ B hml hv
  obtain ⟨rfl, hsz, hP, hK, hD0⟩ := hv
  have hx := B.exec
  have hb := B.bytes
  have hr := B.returns
  have hts := atoms_spec (ws := u_c_X12_thrown_1) B.pre
  have hown : s.vm.findClass RX12 = some m.cls := findClass_of_methodNamed B.named
  have hlocks := B.notSynchronized
  subst hsz
  have hD := hD0
  generalize hAe : va_A [] s.heap.size = A
  have hA : ∀ q : Nat, s.heap.size ≤ q → A q := fun q h => by rw [← hAe]; exact Or.inr h
  have hS : va_S A s.heap s.heap [] := va_S.rf
  have hP : va_P (dC, dI) vwCl [(h0, .inr (12, [h0_0, h0_1, .int 1, h0_3, h0_4, h0_5, h0_6, h0_7, h0_8, h0_9, h0_10, h0_11, h0_12, h0_13, h0_14, h0_15, h0_16, h0_17, h0_18, h0_19, h0_20, h0_21, h0_22, h0_23, h0_24, h0_25, h0_26, h0_27, h0_28, h0_29, h0_30, h0_31, h0_32, h0_33, h0_34, h0_35, h0_36, h0_37, h0_38, h0_39, h0_40, h0_41, h0_42, h0_43, h0_44, h0_45, h0_46, h0_47, h0_48, h0_49, h0_50, h0_51, h0_52, h0_53, h0_54, h0_55, h0_56, h0_57, h0_58, h0_59, h0_60, h0_61, h0_62, h0_63, h0_64, h0_65, h0_66, h0_67, h0_68, h0_69]))] s.heap := hP
  have w__fieldLink_RX12_145_ShellHeapModel_thrown_I_ := hts (.fieldLink RX12 145 "ShellHeapModel" "thrown" "I") (by decide +kernel)
  have hiX12 := show ∀ w ∈ u_ws RX12 TX12 70, w ∈ u_c_X12_thrown_1 by decide +kernel
  have hl := lv_entry ([.ref h0]) (n := 1) (Nat.le_of_ble_eq_true rfl)
  rw [lg_entry_eq]
  generalize (lg_sl ([.ref h0]) ++ List.replicate (1 - (lg_sl ([.ref h0])).length) Slot.unset).toArray = ls at hl ⊢
  have hl : lv_has ls 1 [(0, .ref h0)] := hl
  refine lv_aload_n hx hb dX12_thrown_0 rfl (lv_at hl 0 rfl) ?_
  refine va_get (D := (dC, dI)) (ci := 12) (v := .int 1) (C := RX12) (T := TX12) (N := 70) hx hb hts hiX12 hown hK hP 0 rfl rfl 2 (by decide) w__fieldLink_RX12_145_ShellHeapModel_thrown_I_ (fun _ h9 => h9) rfl dX12_thrown_1 ?_
  refine W.widen (k := 0) (n := 0) (Nat.le_of_ble_eq_true rfl) (Nat.le_of_ble_eq_true rfl) ?_
  exact W.iret (v := 1) hx hb hr (fun t ht hW => ⟨⟨1, (), rfl, rfl, trivial⟩, hS.F ht⟩) hS.2.2 dX12_thrown_4
def u_c_X12_fails : List Cond := .code yX12_fails cX12_fails 2 (some .int) :: ([.fieldLink RX12 145 "ShellHeapModel" "thrown" "I"] ++ wsX120)
set_option maxHeartbeats 4000000 in
set_option maxRecDepth 100000 in
theorem c_X12_fails (l : Launch) (dC : Nat → ClassId) (dI : Nat → Nat → Nat) (sz : Nat) (h0 : Nat) (h0_0 : Value) (h0_1 : Value) (h0_2 : Value) (h0_3 : Value) (h0_4 : Value) (h0_5 : Value) (h0_6 : Value) (h0_7 : Value) (h0_8 : Value) (h0_9 : Value) (h0_10 : Value) (h0_11 : Value) (h0_12 : Value) (h0_13 : Value) (h0_14 : Value) (h0_15 : Value) (h0_16 : Value) (h0_17 : Value) (h0_18 : Value) (h0_19 : Value) (h0_20 : Value) (h0_21 : Value) (h0_22 : Value) (h0_23 : Value) (h0_24 : Value) (h0_25 : Value) (h0_26 : Value) (h0_27 : Value) (h0_28 : Value) (h0_29 : Value) (h0_30 : Value) (h0_31 : Value) (h0_32 : Value) (h0_33 : Value) (h0_34 : Value) (h0_35 : Value) (h0_36 : Value) (h0_37 : Value) (h0_38 : Value) (h0_39 : Value) (h0_40 : Value) (h0_41 : Value) (h0_42 : Value) (h0_43 : Value) (h0_44 : Value) (h0_45 : Value) (h0_46 : Value) (h0_47 : Value) (h0_48 : Value) (h0_49 : Value) (h0_50 : Value) (h0_51 : Value) (h0_52 : Value) (h0_53 : Value) (h0_54 : Value) (h0_55 : Value) (h0_56 : Value) (h0_57 : Value) (h0_58 : Value) (h0_59 : Value) (h0_60 : Value) (h0_61 : Value) (h0_62 : Value) (h0_63 : Value) (h0_64 : Value) (h0_65 : Value) (h0_66 : Value) (h0_67 : Value) (h0_68 : Value) (h0_69 : Value) : Met l yX12_fails u_c_X12_fails ({ frames := 0, cells := 0, slots := 0, locals := 0 }) (va_Pc [.ref h0, .int 1] (z_C (dC, dI) vwCl [(h0, .inr (12, [h0_0, h0_1, h0_2, h0_3, h0_4, h0_5, h0_6, h0_7, h0_8, h0_9, h0_10, h0_11, h0_12, h0_13, h0_14, h0_15, h0_16, h0_17, h0_18, h0_19, h0_20, h0_21, h0_22, h0_23, h0_24, h0_25, h0_26, h0_27, h0_28, h0_29, h0_30, h0_31, h0_32, h0_33, h0_34, h0_35, h0_36, h0_37, h0_38, h0_39, h0_40, h0_41, h0_42, h0_43, h0_44, h0_45, h0_46, h0_47, h0_48, h0_49, h0_50, h0_51, h0_52, h0_53, h0_54, h0_55, h0_56, h0_57, h0_58, h0_59, h0_60, h0_61, h0_62, h0_63, h0_64, h0_65, h0_66, h0_67, h0_68, h0_69]))] [] sz)) (va_Qi (fun (r : Int32) (_ : Unit) => r = 0) (fun (_ : Unit) (t : State) => va_P (dC, dI) vwCl [(h0, .inr (12, [h0_0, h0_1, .int 1, h0_3, h0_4, h0_5, h0_6, h0_7, h0_8, h0_9, h0_10, h0_11, h0_12, h0_13, h0_14, h0_15, h0_16, h0_17, h0_18, h0_19, h0_20, h0_21, h0_22, h0_23, h0_24, h0_25, h0_26, h0_27, h0_28, h0_29, h0_30, h0_31, h0_32, h0_33, h0_34, h0_35, h0_36, h0_37, h0_38, h0_39, h0_40, h0_41, h0_42, h0_43, h0_44, h0_45, h0_46, h0_47, h0_48, h0_49, h0_50, h0_51, h0_52, h0_53, h0_54, h0_55, h0_56, h0_57, h0_58, h0_59, h0_60, h0_61, h0_62, h0_63, h0_64, h0_65, h0_66, h0_67, h0_68, h0_69]))] t.heap ∧ va_K (dC, dI) vwCl [] t ∧ va_D (va_A [(h0, .inr (12, [h0_0, h0_1, h0_2, h0_3, h0_4, h0_5, h0_6, h0_7, h0_8, h0_9, h0_10, h0_11, h0_12, h0_13, h0_14, h0_15, h0_16, h0_17, h0_18, h0_19, h0_20, h0_21, h0_22, h0_23, h0_24, h0_25, h0_26, h0_27, h0_28, h0_29, h0_30, h0_31, h0_32, h0_33, h0_34, h0_35, h0_36, h0_37, h0_38, h0_39, h0_40, h0_41, h0_42, h0_43, h0_44, h0_45, h0_46, h0_47, h0_48, h0_49, h0_50, h0_51, h0_52, h0_53, h0_54, h0_55, h0_56, h0_57, h0_58, h0_59, h0_60, h0_61, h0_62, h0_63, h0_64, h0_65, h0_66, h0_67, h0_68, h0_69]))] sz) [(h0, .inr (12, [h0_0, h0_1, .int 1, h0_3, h0_4, h0_5, h0_6, h0_7, h0_8, h0_9, h0_10, h0_11, h0_12, h0_13, h0_14, h0_15, h0_16, h0_17, h0_18, h0_19, h0_20, h0_21, h0_22, h0_23, h0_24, h0_25, h0_26, h0_27, h0_28, h0_29, h0_30, h0_31, h0_32, h0_33, h0_34, h0_35, h0_36, h0_37, h0_38, h0_39, h0_40, h0_41, h0_42, h0_43, h0_44, h0_45, h0_46, h0_47, h0_48, h0_49, h0_50, h0_51, h0_52, h0_53, h0_54, h0_55, h0_56, h0_57, h0_58, h0_59, h0_60, h0_61, h0_62, h0_63, h0_64, h0_65, h0_66, h0_67, h0_68, h0_69]))]) (va_A [(h0, .inr (12, [h0_0, h0_1, h0_2, h0_3, h0_4, h0_5, h0_6, h0_7, h0_8, h0_9, h0_10, h0_11, h0_12, h0_13, h0_14, h0_15, h0_16, h0_17, h0_18, h0_19, h0_20, h0_21, h0_22, h0_23, h0_24, h0_25, h0_26, h0_27, h0_28, h0_29, h0_30, h0_31, h0_32, h0_33, h0_34, h0_35, h0_36, h0_37, h0_38, h0_39, h0_40, h0_41, h0_42, h0_43, h0_44, h0_45, h0_46, h0_47, h0_48, h0_49, h0_50, h0_51, h0_52, h0_53, h0_54, h0_55, h0_56, h0_57, h0_58, h0_59, h0_60, h0_61, h0_62, h0_63, h0_64, h0_65, h0_66, h0_67, h0_68, h0_69]))] sz)) 0 0 (va_A [(h0, .inr (12, [h0_0, h0_1, h0_2, h0_3, h0_4, h0_5, h0_6, h0_7, h0_8, h0_9, h0_10, h0_11, h0_12, h0_13, h0_14, h0_15, h0_16, h0_17, h0_18, h0_19, h0_20, h0_21, h0_22, h0_23, h0_24, h0_25, h0_26, h0_27, h0_28, h0_29, h0_30, h0_31, h0_32, h0_33, h0_34, h0_35, h0_36, h0_37, h0_38, h0_39, h0_40, h0_41, h0_42, h0_43, h0_44, h0_45, h0_46, h0_47, h0_48, h0_49, h0_50, h0_51, h0_52, h0_53, h0_54, h0_55, h0_56, h0_57, h0_58, h0_59, h0_60, h0_61, h0_62, h0_63, h0_64, h0_65, h0_66, h0_67, h0_68, h0_69]))] sz) := by
  refine Met.ofW (cc := cX12_fails) (maxL := 2) (ret := (some .int)) (by decide) rfl ?_
  intro p e s m args below meth c s₁ B hml hv
  obtain ⟨rfl, hsz, hP, hK, hD0⟩ := hv
  have hx := B.exec
  have hb := B.bytes
  have hr := B.returns
  have hts := atoms_spec (ws := u_c_X12_fails) B.pre
  have hown : s.vm.findClass RX12 = some m.cls := findClass_of_methodNamed B.named
  have hlocks := B.notSynchronized
  subst hsz
  have hD := hD0.self (sz := s.heap.size)
  generalize hAe : va_A [(h0, .inr (12, [h0_0, h0_1, h0_2, h0_3, h0_4, h0_5, h0_6, h0_7, h0_8, h0_9, h0_10, h0_11, h0_12, h0_13, h0_14, h0_15, h0_16, h0_17, h0_18, h0_19, h0_20, h0_21, h0_22, h0_23, h0_24, h0_25, h0_26, h0_27, h0_28, h0_29, h0_30, h0_31, h0_32, h0_33, h0_34, h0_35, h0_36, h0_37, h0_38, h0_39, h0_40, h0_41, h0_42, h0_43, h0_44, h0_45, h0_46, h0_47, h0_48, h0_49, h0_50, h0_51, h0_52, h0_53, h0_54, h0_55, h0_56, h0_57, h0_58, h0_59, h0_60, h0_61, h0_62, h0_63, h0_64, h0_65, h0_66, h0_67, h0_68, h0_69]))] s.heap.size = A at hD ⊢
  have hA : ∀ q : Nat, s.heap.size ≤ q → A q := fun q h => by rw [← hAe]; exact Or.inr h
  have hS : va_S A s.heap s.heap [] := va_S.rf
  have hP : va_P (dC, dI) vwCl [(h0, .inr (12, [h0_0, h0_1, h0_2, h0_3, h0_4, h0_5, h0_6, h0_7, h0_8, h0_9, h0_10, h0_11, h0_12, h0_13, h0_14, h0_15, h0_16, h0_17, h0_18, h0_19, h0_20, h0_21, h0_22, h0_23, h0_24, h0_25, h0_26, h0_27, h0_28, h0_29, h0_30, h0_31, h0_32, h0_33, h0_34, h0_35, h0_36, h0_37, h0_38, h0_39, h0_40, h0_41, h0_42, h0_43, h0_44, h0_45, h0_46, h0_47, h0_48, h0_49, h0_50, h0_51, h0_52, h0_53, h0_54, h0_55, h0_56, h0_57, h0_58, h0_59, h0_60, h0_61, h0_62, h0_63, h0_64, h0_65, h0_66, h0_67, h0_68, h0_69]))] s.heap := hP
  have w__fieldLink_RX12_145_ShellHeapModel_thrown_I_ := hts (.fieldLink RX12 145 "ShellHeapModel" "thrown" "I") (by decide +kernel)
  have hiX12 := show ∀ w ∈ u_ws RX12 TX12 70, w ∈ u_c_X12_fails by decide +kernel
  have hl := lv_entry ([.ref h0, .int 1]) (n := 2) (Nat.le_of_ble_eq_true rfl)
  rw [lg_entry_eq]
  generalize (lg_sl ([.ref h0, .int 1]) ++ List.replicate (2 - (lg_sl ([.ref h0, .int 1])).length) Slot.unset).toArray = ls at hl ⊢
  have hl : lv_has ls 2 [(0, .ref h0), (1, .int 1)] := hl
  refine lv_aload_n hx hb dX12_fails_0 rfl (lv_at hl 0 rfl) ?_
  refine lv_iload_n hx hb dX12_fails_1 rfl (lv_at hl 1 rfl) ?_
  refine va_put (D := (dC, dI)) (ci := 12) (v := .int 1) (ty := .int) (C := RX12) (T := TX12) (N := 70) hx hb hts hiX12 tyX12 tyX12_ok nmX12 hown hK hP hD hS 0 rfl rfl 2 (by decide) w__fieldLink_RX12_145_ShellHeapModel_thrown_I_ (fun _ h9 => h9) rfl (by decide +kernel) rfl rfl (Nat.le_of_ble_eq_true rfl) dX12_fails_2 (fun H_1 locs hP hD hS => ?_)
  have hP : va_P (dC, dI) vwCl [(h0, .inr (12, [h0_0, h0_1, .int 1, h0_3, h0_4, h0_5, h0_6, h0_7, h0_8, h0_9, h0_10, h0_11, h0_12, h0_13, h0_14, h0_15, h0_16, h0_17, h0_18, h0_19, h0_20, h0_21, h0_22, h0_23, h0_24, h0_25, h0_26, h0_27, h0_28, h0_29, h0_30, h0_31, h0_32, h0_33, h0_34, h0_35, h0_36, h0_37, h0_38, h0_39, h0_40, h0_41, h0_42, h0_43, h0_44, h0_45, h0_46, h0_47, h0_48, h0_49, h0_50, h0_51, h0_52, h0_53, h0_54, h0_55, h0_56, h0_57, h0_58, h0_59, h0_60, h0_61, h0_62, h0_63, h0_64, h0_65, h0_66, h0_67, h0_68, h0_69]))] H_1 := hP
  have hD : va_D A [(h0, .inr (12, [h0_0, h0_1, .int 1, h0_3, h0_4, h0_5, h0_6, h0_7, h0_8, h0_9, h0_10, h0_11, h0_12, h0_13, h0_14, h0_15, h0_16, h0_17, h0_18, h0_19, h0_20, h0_21, h0_22, h0_23, h0_24, h0_25, h0_26, h0_27, h0_28, h0_29, h0_30, h0_31, h0_32, h0_33, h0_34, h0_35, h0_36, h0_37, h0_38, h0_39, h0_40, h0_41, h0_42, h0_43, h0_44, h0_45, h0_46, h0_47, h0_48, h0_49, h0_50, h0_51, h0_52, h0_53, h0_54, h0_55, h0_56, h0_57, h0_58, h0_59, h0_60, h0_61, h0_62, h0_63, h0_64, h0_65, h0_66, h0_67, h0_68, h0_69]))] := hD
  refine lv_iconst (v := 0) hx hb dX12_fails_5 (by decide) ?_
  have hP9 := hP.sub (ws' := [(h0, .inr (12, [h0_0, h0_1, .int 1, h0_3, h0_4, h0_5, h0_6, h0_7, h0_8, h0_9, h0_10, h0_11, h0_12, h0_13, h0_14, h0_15, h0_16, h0_17, h0_18, h0_19, h0_20, h0_21, h0_22, h0_23, h0_24, h0_25, h0_26, h0_27, h0_28, h0_29, h0_30, h0_31, h0_32, h0_33, h0_34, h0_35, h0_36, h0_37, h0_38, h0_39, h0_40, h0_41, h0_42, h0_43, h0_44, h0_45, h0_46, h0_47, h0_48, h0_49, h0_50, h0_51, h0_52, h0_53, h0_54, h0_55, h0_56, h0_57, h0_58, h0_59, h0_60, h0_61, h0_62, h0_63, h0_64, h0_65, h0_66, h0_67, h0_68, h0_69]))]) [0] rfl
  have hD9 := hD.sub (ws' := [(h0, .inr (12, [h0_0, h0_1, .int 1, h0_3, h0_4, h0_5, h0_6, h0_7, h0_8, h0_9, h0_10, h0_11, h0_12, h0_13, h0_14, h0_15, h0_16, h0_17, h0_18, h0_19, h0_20, h0_21, h0_22, h0_23, h0_24, h0_25, h0_26, h0_27, h0_28, h0_29, h0_30, h0_31, h0_32, h0_33, h0_34, h0_35, h0_36, h0_37, h0_38, h0_39, h0_40, h0_41, h0_42, h0_43, h0_44, h0_45, h0_46, h0_47, h0_48, h0_49, h0_50, h0_51, h0_52, h0_53, h0_54, h0_55, h0_56, h0_57, h0_58, h0_59, h0_60, h0_61, h0_62, h0_63, h0_64, h0_65, h0_66, h0_67, h0_68, h0_69]))]) [0] (by decide) rfl
  have hK9 := hK.sub (tys' := []) [] rfl
  refine W.widen (k := 0) (n := 0) (Nat.le_of_ble_eq_true rfl) (Nat.le_of_ble_eq_true rfl) ?_
  exact W.iret (v := 0) hx hb hr (fun t ht hW => ⟨⟨0, (), rfl, rfl, ⟨by rw [ht]; exact hP9, va_K.moved hW.alike hK9, hD9⟩⟩, hS.F ht⟩) hS.2.2 dX12_fails_6
def u_c_X12_take : List Cond := .code yX12_take cX12_take 3 none :: ([.fieldLink RX12 207 "ShellHeapModel" "next" "I", .fieldLink RX12 204 "ShellHeapModel" "stop" "I", .fieldLink RX12 201 "ShellHeapModel" "place" "I", .fieldLink RX12 221 "ShellHeapModel" "kindNow" "I"] ++ wsX120)
set_option maxHeartbeats 4000000 in
set_option maxRecDepth 100000 in
theorem c_X12_take (l : Launch) (dC : Nat → ClassId) (dI : Nat → Nat → Nat) (sz : Nat) (h0 : Nat) (h0_0 : Value) (h0_1 : Value) (h0_2 : Value) (h0_3 : Value) (h0_4 : Value) (h0_5 : Value) (h0_6 : Value) (h0_7 : Value) (h0_8 : Value) (h0_9 : Value) (h0_10 : Value) (h0_11 : Value) (h0_12 : Value) (h0_13 : Value) (h0_14 : Value) (h0_15 : Value) (h0_16 : Value) (h0_17 : Value) (h0_18 : Value) (h0_19 : Value) (h0_20 : Value) (h0_21 : Value) (h0_22 : Value) (h0_23 : Value) (h0_24 : Value) (h0_25 : Value) (h0_26 : Value) (h0_27 : Value) (h0_28 : Value) (h0_29 : Value) (h0_32 : Value) (h0_33 : Value) (h0_34 : Value) (h0_35 : Value) (h0_36 : Value) (h0_37 : Value) (h0_38 : Value) (h0_39 : Value) (h0_40 : Value) (h0_41 : Value) (h0_42 : Value) (h0_43 : Value) (h0_44 : Value) (h0_45 : Value) (h0_46 : Value) (h0_47 : Value) (h0_48 : Value) (h0_49 : Value) (h0_50 : Value) (h0_51 : Value) (h0_52 : Value) (h0_53 : Value) (h0_54 : Value) (h0_55 : Value) (h0_56 : Value) (h0_57 : Value) (h0_58 : Value) (h0_59 : Value) (h0_60 : Value) (h0_61 : Value) (h0_62 : Value) (h0_63 : Value) (h0_64 : Value) (h0_65 : Value) (h0_66 : Value) (h0_67 : Value) (h0_68 : Value) (h0_69 : Value) : Met l yX12_take u_c_X12_take ({ frames := 0, cells := 0, slots := 0, locals := 0 }) (va_Pc [.ref h0, .int 0] (z_C (dC, dI) vwCl [(h0, .inr (12, [h0_0, h0_1, h0_2, h0_3, h0_4, h0_5, h0_6, h0_7, h0_8, h0_9, h0_10, h0_11, h0_12, h0_13, h0_14, h0_15, h0_16, h0_17, h0_18, h0_19, h0_20, h0_21, h0_22, h0_23, h0_24, h0_25, h0_26, h0_27, h0_28, h0_29, .int 0, .int 0, h0_32, h0_33, h0_34, h0_35, h0_36, h0_37, h0_38, h0_39, h0_40, h0_41, h0_42, h0_43, h0_44, h0_45, h0_46, h0_47, h0_48, h0_49, h0_50, h0_51, h0_52, h0_53, h0_54, h0_55, h0_56, h0_57, h0_58, h0_59, h0_60, h0_61, h0_62, h0_63, h0_64, h0_65, h0_66, h0_67, h0_68, h0_69]))] [] sz)) (va_Qv (fun (_ : Unit) => True) (fun (_ : Unit) (t : State) => va_P (dC, dI) vwCl [(h0, .inr (12, [h0_0, h0_1, h0_2, h0_3, h0_4, h0_5, h0_6, h0_7, h0_8, h0_9, h0_10, h0_11, h0_12, h0_13, h0_14, h0_15, h0_16, h0_17, h0_18, h0_19, h0_20, h0_21, h0_22, h0_23, h0_24, h0_25, h0_26, h0_27, h0_28, h0_29, .int 0, .int 0, .int 0, h0_33, .int 0, h0_35, h0_36, h0_37, h0_38, h0_39, h0_40, h0_41, h0_42, h0_43, h0_44, h0_45, h0_46, h0_47, h0_48, h0_49, h0_50, h0_51, h0_52, h0_53, h0_54, h0_55, h0_56, h0_57, h0_58, h0_59, h0_60, h0_61, h0_62, h0_63, h0_64, h0_65, h0_66, h0_67, h0_68, h0_69]))] t.heap ∧ va_K (dC, dI) vwCl [] t ∧ va_D (va_A [(h0, .inr (12, [h0_0, h0_1, h0_2, h0_3, h0_4, h0_5, h0_6, h0_7, h0_8, h0_9, h0_10, h0_11, h0_12, h0_13, h0_14, h0_15, h0_16, h0_17, h0_18, h0_19, h0_20, h0_21, h0_22, h0_23, h0_24, h0_25, h0_26, h0_27, h0_28, h0_29, .int 0, .int 0, h0_32, h0_33, h0_34, h0_35, h0_36, h0_37, h0_38, h0_39, h0_40, h0_41, h0_42, h0_43, h0_44, h0_45, h0_46, h0_47, h0_48, h0_49, h0_50, h0_51, h0_52, h0_53, h0_54, h0_55, h0_56, h0_57, h0_58, h0_59, h0_60, h0_61, h0_62, h0_63, h0_64, h0_65, h0_66, h0_67, h0_68, h0_69]))] sz) [(h0, .inr (12, [h0_0, h0_1, h0_2, h0_3, h0_4, h0_5, h0_6, h0_7, h0_8, h0_9, h0_10, h0_11, h0_12, h0_13, h0_14, h0_15, h0_16, h0_17, h0_18, h0_19, h0_20, h0_21, h0_22, h0_23, h0_24, h0_25, h0_26, h0_27, h0_28, h0_29, .int 0, .int 0, .int 0, h0_33, .int 0, h0_35, h0_36, h0_37, h0_38, h0_39, h0_40, h0_41, h0_42, h0_43, h0_44, h0_45, h0_46, h0_47, h0_48, h0_49, h0_50, h0_51, h0_52, h0_53, h0_54, h0_55, h0_56, h0_57, h0_58, h0_59, h0_60, h0_61, h0_62, h0_63, h0_64, h0_65, h0_66, h0_67, h0_68, h0_69]))]) (va_A [(h0, .inr (12, [h0_0, h0_1, h0_2, h0_3, h0_4, h0_5, h0_6, h0_7, h0_8, h0_9, h0_10, h0_11, h0_12, h0_13, h0_14, h0_15, h0_16, h0_17, h0_18, h0_19, h0_20, h0_21, h0_22, h0_23, h0_24, h0_25, h0_26, h0_27, h0_28, h0_29, .int 0, .int 0, h0_32, h0_33, h0_34, h0_35, h0_36, h0_37, h0_38, h0_39, h0_40, h0_41, h0_42, h0_43, h0_44, h0_45, h0_46, h0_47, h0_48, h0_49, h0_50, h0_51, h0_52, h0_53, h0_54, h0_55, h0_56, h0_57, h0_58, h0_59, h0_60, h0_61, h0_62, h0_63, h0_64, h0_65, h0_66, h0_67, h0_68, h0_69]))] sz)) 0 0 (va_A [(h0, .inr (12, [h0_0, h0_1, h0_2, h0_3, h0_4, h0_5, h0_6, h0_7, h0_8, h0_9, h0_10, h0_11, h0_12, h0_13, h0_14, h0_15, h0_16, h0_17, h0_18, h0_19, h0_20, h0_21, h0_22, h0_23, h0_24, h0_25, h0_26, h0_27, h0_28, h0_29, .int 0, .int 0, h0_32, h0_33, h0_34, h0_35, h0_36, h0_37, h0_38, h0_39, h0_40, h0_41, h0_42, h0_43, h0_44, h0_45, h0_46, h0_47, h0_48, h0_49, h0_50, h0_51, h0_52, h0_53, h0_54, h0_55, h0_56, h0_57, h0_58, h0_59, h0_60, h0_61, h0_62, h0_63, h0_64, h0_65, h0_66, h0_67, h0_68, h0_69]))] sz) := by
  refine Met.ofW (cc := cX12_take) (maxL := 3) (ret := none) (by decide) rfl ?_
  intro p e s m args below meth c s₁ B hml hv
  obtain ⟨rfl, hsz, hP, hK, hD0⟩ := hv
  have hx := B.exec
  have hb := B.bytes
  have hr := B.returns
  have hts := atoms_spec (ws := u_c_X12_take) B.pre
  have hown : s.vm.findClass RX12 = some m.cls := findClass_of_methodNamed B.named
  have hlocks := B.notSynchronized
  subst hsz
  have hD := hD0.self (sz := s.heap.size)
  generalize hAe : va_A [(h0, .inr (12, [h0_0, h0_1, h0_2, h0_3, h0_4, h0_5, h0_6, h0_7, h0_8, h0_9, h0_10, h0_11, h0_12, h0_13, h0_14, h0_15, h0_16, h0_17, h0_18, h0_19, h0_20, h0_21, h0_22, h0_23, h0_24, h0_25, h0_26, h0_27, h0_28, h0_29, .int 0, .int 0, h0_32, h0_33, h0_34, h0_35, h0_36, h0_37, h0_38, h0_39, h0_40, h0_41, h0_42, h0_43, h0_44, h0_45, h0_46, h0_47, h0_48, h0_49, h0_50, h0_51, h0_52, h0_53, h0_54, h0_55, h0_56, h0_57, h0_58, h0_59, h0_60, h0_61, h0_62, h0_63, h0_64, h0_65, h0_66, h0_67, h0_68, h0_69]))] s.heap.size = A at hD ⊢
  have hA : ∀ q : Nat, s.heap.size ≤ q → A q := fun q h => by rw [← hAe]; exact Or.inr h
  have hS : va_S A s.heap s.heap [] := va_S.rf
  have hP : va_P (dC, dI) vwCl [(h0, .inr (12, [h0_0, h0_1, h0_2, h0_3, h0_4, h0_5, h0_6, h0_7, h0_8, h0_9, h0_10, h0_11, h0_12, h0_13, h0_14, h0_15, h0_16, h0_17, h0_18, h0_19, h0_20, h0_21, h0_22, h0_23, h0_24, h0_25, h0_26, h0_27, h0_28, h0_29, .int 0, .int 0, h0_32, h0_33, h0_34, h0_35, h0_36, h0_37, h0_38, h0_39, h0_40, h0_41, h0_42, h0_43, h0_44, h0_45, h0_46, h0_47, h0_48, h0_49, h0_50, h0_51, h0_52, h0_53, h0_54, h0_55, h0_56, h0_57, h0_58, h0_59, h0_60, h0_61, h0_62, h0_63, h0_64, h0_65, h0_66, h0_67, h0_68, h0_69]))] s.heap := hP
  have w__fieldLink_RX12_207_ShellHeapModel_next_I_ := hts (.fieldLink RX12 207 "ShellHeapModel" "next" "I") (by decide +kernel)
  have hiX12 := show ∀ w ∈ u_ws RX12 TX12 70, w ∈ u_c_X12_take by decide +kernel
  have w__fieldLink_RX12_204_ShellHeapModel_stop_I_ := hts (.fieldLink RX12 204 "ShellHeapModel" "stop" "I") (by decide +kernel)
  have w__fieldLink_RX12_201_ShellHeapModel_place_I_ := hts (.fieldLink RX12 201 "ShellHeapModel" "place" "I") (by decide +kernel)
  have w__fieldLink_RX12_221_ShellHeapModel_kindNow_I_ := hts (.fieldLink RX12 221 "ShellHeapModel" "kindNow" "I") (by decide +kernel)
  have hl := lv_entry ([.ref h0, .int 0]) (n := 3) (Nat.le_of_ble_eq_true rfl)
  rw [lg_entry_eq]
  generalize (lg_sl ([.ref h0, .int 0]) ++ List.replicate (3 - (lg_sl ([.ref h0, .int 0])).length) Slot.unset).toArray = ls at hl ⊢
  have hl : lv_has ls 3 [(0, .ref h0), (1, .int 0)] := hl
  refine lv_aload_n hx hb dX12_take_0 rfl (lv_at hl 0 rfl) ?_
  refine va_get (D := (dC, dI)) (ci := 12) (v := .int 0) (C := RX12) (T := TX12) (N := 70) hx hb hts hiX12 hown hK hP 0 rfl rfl 31 (by decide) w__fieldLink_RX12_207_ShellHeapModel_next_I_ (fun _ h9 => h9) rfl dX12_take_1 ?_
  refine lv_aload_n hx hb dX12_take_4 rfl (lv_at hl 0 rfl) ?_
  refine va_get (D := (dC, dI)) (ci := 12) (v := .int 0) (C := RX12) (T := TX12) (N := 70) hx hb hts hiX12 hown hK hP 0 rfl rfl 30 (by decide) w__fieldLink_RX12_204_ShellHeapModel_stop_I_ (fun _ h9 => h9) rfl dX12_take_5 ?_
  refine lv_icmp_ge (tgt := 52) hx hb dX12_take_8 (by decide) (fun _ => ?_) (fun c_1 => absurd (by decide) c_1)
  refine lv_aload_n hx hb dX12_take_52 rfl (lv_at hl 0 rfl) ?_
  refine lv_aload_n hx hb dX12_take_53 rfl (lv_at hl 0 rfl) ?_
  refine va_get (D := (dC, dI)) (ci := 12) (v := .int 0) (C := RX12) (T := TX12) (N := 70) hx hb hts hiX12 hown hK hP 0 rfl rfl 31 (by decide) w__fieldLink_RX12_207_ShellHeapModel_next_I_ (fun _ h9 => h9) rfl dX12_take_54 ?_
  refine va_put (D := (dC, dI)) (ci := 12) (v := .int 0) (ty := .int) (C := RX12) (T := TX12) (N := 70) hx hb hts hiX12 tyX12 tyX12_ok nmX12 hown hK hP hD hS 0 rfl rfl 34 (by decide) w__fieldLink_RX12_201_ShellHeapModel_place_I_ (fun _ h9 => h9) rfl (by decide +kernel) rfl rfl (Nat.le_of_ble_eq_true rfl) dX12_take_57 (fun H_2 locs hP hD hS => ?_)
  have hP : va_P (dC, dI) vwCl [(h0, .inr (12, [h0_0, h0_1, h0_2, h0_3, h0_4, h0_5, h0_6, h0_7, h0_8, h0_9, h0_10, h0_11, h0_12, h0_13, h0_14, h0_15, h0_16, h0_17, h0_18, h0_19, h0_20, h0_21, h0_22, h0_23, h0_24, h0_25, h0_26, h0_27, h0_28, h0_29, .int 0, .int 0, h0_32, h0_33, .int 0, h0_35, h0_36, h0_37, h0_38, h0_39, h0_40, h0_41, h0_42, h0_43, h0_44, h0_45, h0_46, h0_47, h0_48, h0_49, h0_50, h0_51, h0_52, h0_53, h0_54, h0_55, h0_56, h0_57, h0_58, h0_59, h0_60, h0_61, h0_62, h0_63, h0_64, h0_65, h0_66, h0_67, h0_68, h0_69]))] H_2 := hP
  have hD : va_D A [(h0, .inr (12, [h0_0, h0_1, h0_2, h0_3, h0_4, h0_5, h0_6, h0_7, h0_8, h0_9, h0_10, h0_11, h0_12, h0_13, h0_14, h0_15, h0_16, h0_17, h0_18, h0_19, h0_20, h0_21, h0_22, h0_23, h0_24, h0_25, h0_26, h0_27, h0_28, h0_29, .int 0, .int 0, h0_32, h0_33, .int 0, h0_35, h0_36, h0_37, h0_38, h0_39, h0_40, h0_41, h0_42, h0_43, h0_44, h0_45, h0_46, h0_47, h0_48, h0_49, h0_50, h0_51, h0_52, h0_53, h0_54, h0_55, h0_56, h0_57, h0_58, h0_59, h0_60, h0_61, h0_62, h0_63, h0_64, h0_65, h0_66, h0_67, h0_68, h0_69]))] := hD
  refine lv_aload_n hx hb dX12_take_60 rfl (lv_at hl 0 rfl) ?_
  refine va_get (D := (dC, dI)) (ci := 12) (v := .int 0) (C := RX12) (T := TX12) (N := 70) hx hb hts hiX12 hown hK hP 0 rfl rfl 31 (by decide) w__fieldLink_RX12_207_ShellHeapModel_next_I_ (fun _ h9 => h9) rfl dX12_take_61 ?_
  refine lv_aload_n hx hb dX12_take_64 rfl (lv_at hl 0 rfl) ?_
  refine va_get (D := (dC, dI)) (ci := 12) (v := .int 0) (C := RX12) (T := TX12) (N := 70) hx hb hts hiX12 hown hK hP 0 rfl rfl 30 (by decide) w__fieldLink_RX12_204_ShellHeapModel_stop_I_ (fun _ h9 => h9) rfl dX12_take_65 ?_
  refine lv_icmp_ne (tgt := 79) hx hb dX12_take_68 (by decide) (fun c_3 => absurd c_3 (by decide)) (fun _ => ?_)
  refine lv_aload_n hx hb dX12_take_71 rfl (lv_at hl 0 rfl) ?_
  refine lv_iconst (v := 0) hx hb dX12_take_72 (by decide) ?_
  refine va_put (D := (dC, dI)) (ci := 12) (v := .int 0) (ty := .int) (C := RX12) (T := TX12) (N := 70) hx hb hts hiX12 tyX12 tyX12_ok nmX12 hown hK hP hD hS 0 rfl rfl 32 (by decide) w__fieldLink_RX12_221_ShellHeapModel_kindNow_I_ (fun _ h9 => h9) rfl (by decide +kernel) rfl rfl (Nat.le_of_ble_eq_true rfl) dX12_take_73 (fun H_4 locs hP hD hS => ?_)
  have hP : va_P (dC, dI) vwCl [(h0, .inr (12, [h0_0, h0_1, h0_2, h0_3, h0_4, h0_5, h0_6, h0_7, h0_8, h0_9, h0_10, h0_11, h0_12, h0_13, h0_14, h0_15, h0_16, h0_17, h0_18, h0_19, h0_20, h0_21, h0_22, h0_23, h0_24, h0_25, h0_26, h0_27, h0_28, h0_29, .int 0, .int 0, .int 0, h0_33, .int 0, h0_35, h0_36, h0_37, h0_38, h0_39, h0_40, h0_41, h0_42, h0_43, h0_44, h0_45, h0_46, h0_47, h0_48, h0_49, h0_50, h0_51, h0_52, h0_53, h0_54, h0_55, h0_56, h0_57, h0_58, h0_59, h0_60, h0_61, h0_62, h0_63, h0_64, h0_65, h0_66, h0_67, h0_68, h0_69]))] H_4 := hP
  have hD : va_D A [(h0, .inr (12, [h0_0, h0_1, h0_2, h0_3, h0_4, h0_5, h0_6, h0_7, h0_8, h0_9, h0_10, h0_11, h0_12, h0_13, h0_14, h0_15, h0_16, h0_17, h0_18, h0_19, h0_20, h0_21, h0_22, h0_23, h0_24, h0_25, h0_26, h0_27, h0_28, h0_29, .int 0, .int 0, .int 0, h0_33, .int 0, h0_35, h0_36, h0_37, h0_38, h0_39, h0_40, h0_41, h0_42, h0_43, h0_44, h0_45, h0_46, h0_47, h0_48, h0_49, h0_50, h0_51, h0_52, h0_53, h0_54, h0_55, h0_56, h0_57, h0_58, h0_59, h0_60, h0_61, h0_62, h0_63, h0_64, h0_65, h0_66, h0_67, h0_68, h0_69]))] := hD
  refine lv_goto (tgt := 342) hx hb dX12_take_76 (by decide) ?_
  have hP9 := hP.sub (ws' := [(h0, .inr (12, [h0_0, h0_1, h0_2, h0_3, h0_4, h0_5, h0_6, h0_7, h0_8, h0_9, h0_10, h0_11, h0_12, h0_13, h0_14, h0_15, h0_16, h0_17, h0_18, h0_19, h0_20, h0_21, h0_22, h0_23, h0_24, h0_25, h0_26, h0_27, h0_28, h0_29, .int 0, .int 0, .int 0, h0_33, .int 0, h0_35, h0_36, h0_37, h0_38, h0_39, h0_40, h0_41, h0_42, h0_43, h0_44, h0_45, h0_46, h0_47, h0_48, h0_49, h0_50, h0_51, h0_52, h0_53, h0_54, h0_55, h0_56, h0_57, h0_58, h0_59, h0_60, h0_61, h0_62, h0_63, h0_64, h0_65, h0_66, h0_67, h0_68, h0_69]))]) [0] rfl
  have hD9 := hD.sub (ws' := [(h0, .inr (12, [h0_0, h0_1, h0_2, h0_3, h0_4, h0_5, h0_6, h0_7, h0_8, h0_9, h0_10, h0_11, h0_12, h0_13, h0_14, h0_15, h0_16, h0_17, h0_18, h0_19, h0_20, h0_21, h0_22, h0_23, h0_24, h0_25, h0_26, h0_27, h0_28, h0_29, .int 0, .int 0, .int 0, h0_33, .int 0, h0_35, h0_36, h0_37, h0_38, h0_39, h0_40, h0_41, h0_42, h0_43, h0_44, h0_45, h0_46, h0_47, h0_48, h0_49, h0_50, h0_51, h0_52, h0_53, h0_54, h0_55, h0_56, h0_57, h0_58, h0_59, h0_60, h0_61, h0_62, h0_63, h0_64, h0_65, h0_66, h0_67, h0_68, h0_69]))]) [0] (by decide) rfl
  have hK9 := hK.sub (tys' := []) [] rfl
  refine W.widen (k := 0) (n := 0) (Nat.le_of_ble_eq_true rfl) (Nat.le_of_ble_eq_true rfl) ?_
  exact W.vret hx hb hr (fun t ht hW => ⟨⟨(), rfl, trivial, ⟨by rw [ht]; exact hP9, va_K.moved hW.alike hK9, hD9⟩⟩, hS.F ht⟩) hS.2.2 dX12_take_342
def u_c_X12_begins : List Cond := .code yX12_begins cX12_begins 3 none :: ([.fieldLink RX12 204 "ShellHeapModel" "stop" "I", .fieldLink RX12 148 "ShellHeapModel" "tapeSize" "I", .fieldLink RX12 198 "ShellHeapModel" "fault" "I", .fieldLink RX12 75 "ShellHeapModel" "faultPlace" "I", .fieldLink RX12 207 "ShellHeapModel" "next" "I", .methodLink RX12 236 yX12_take, .instanceMethod yX12_take, .selects RX12 yX12_take yX12_take, .initialized RX12, .code yX12_take cX12_take 3 none, .fieldLink RX12 201 "ShellHeapModel" "place" "I", .fieldLink RX12 221 "ShellHeapModel" "kindNow" "I"] ++ wsX120)
set_option maxRecDepth 20000 in
theorem gw_c_X12_begins_c_X12_take_236 : GoodIn u_c_X12_begins (wsV RX12 236 RX12 yX12_take u_c_X12_take) := goodIn_r _ [6, 7, 8, 9, 10, 5, 1, 11, 12, 13, 14, 15, 16, 17, 18, 19, 20, 21, 22, 23, 24, 25, 26, 27, 28, 29, 30, 31, 32, 33, 34, 35, 36, 37, 38, 39, 40, 41, 42, 43, 44, 45, 46, 47, 48, 49, 50, 51, 52, 53, 54, 55, 56, 57, 58, 59, 60, 61, 62, 63, 64, 65, 66, 67, 68, 69, 70, 71, 72, 73, 74, 75, 76, 77, 78, 79, 80, 81, 82] (by decide +kernel) (by decide +kernel)
set_option maxHeartbeats 4000000 in
set_option maxRecDepth 100000 in
theorem c_X12_begins (l : Launch) (dC : Nat → ClassId) (dI : Nat → Nat → Nat) (sz : Nat) (h0 : Nat) (h0_0 : Value) (h0_1 : Value) (h0_2 : Value) (h0_3 : Value) (h0_4 : Value) (h0_5 : Value) (h0_6 : Value) (h0_7 : Value) (h0_8 : Value) (h0_9 : Value) (h0_10 : Value) (h0_11 : Value) (h0_12 : Value) (h0_13 : Value) (h0_14 : Value) (h0_15 : Value) (h0_16 : Value) (h0_17 : Value) (h0_18 : Value) (h0_19 : Value) (h0_20 : Value) (h0_21 : Value) (h0_22 : Value) (h0_23 : Value) (h0_24 : Value) (h0_25 : Value) (h0_26 : Value) (h0_27 : Value) (h0_28 : Value) (h0_29 : Value) (h0_30 : Value) (h0_31 : Value) (h0_32 : Value) (h0_33 : Value) (h0_34 : Value) (h0_35 : Value) (h0_36 : Value) (h0_37 : Value) (h0_38 : Value) (h0_39 : Value) (h0_40 : Value) (h0_41 : Value) (h0_42 : Value) (h0_43 : Value) (h0_44 : Value) (h0_45 : Value) (h0_46 : Value) (h0_47 : Value) (h0_48 : Value) (h0_49 : Value) (h0_50 : Value) (h0_51 : Value) (h0_52 : Value) (h0_53 : Value) (h0_54 : Value) (h0_55 : Value) (h0_56 : Value) (h0_57 : Value) (h0_58 : Value) (h0_59 : Value) (h0_60 : Value) (h0_61 : Value) (h0_62 : Value) (h0_63 : Value) (h0_64 : Value) (h0_65 : Value) (h0_66 : Value) (h0_67 : Value) (h0_68 : Value) (h0_69 : Value) : Met l yX12_begins u_c_X12_begins ({ frames := 1, cells := 0, slots := 0, locals := 22 }) (va_Pc [.ref h0, .int 0, .int 0] (z_C (dC, dI) vwCl [(h0, .inr (12, [h0_0, h0_1, h0_2, h0_3, h0_4, h0_5, h0_6, h0_7, h0_8, h0_9, h0_10, h0_11, h0_12, h0_13, h0_14, h0_15, h0_16, h0_17, h0_18, h0_19, h0_20, h0_21, h0_22, h0_23, h0_24, h0_25, h0_26, h0_27, h0_28, h0_29, h0_30, h0_31, h0_32, h0_33, h0_34, h0_35, h0_36, h0_37, h0_38, h0_39, h0_40, h0_41, h0_42, h0_43, h0_44, h0_45, h0_46, h0_47, h0_48, h0_49, h0_50, h0_51, h0_52, h0_53, h0_54, h0_55, h0_56, h0_57, h0_58, h0_59, h0_60, h0_61, h0_62, h0_63, h0_64, h0_65, h0_66, h0_67, h0_68, h0_69]))] [] sz)) (va_Qv (fun (_ : Unit) => True) (fun (_ : Unit) (t : State) => va_P (dC, dI) vwCl [(h0, .inr (12, [h0_0, .int 0, h0_2, h0_3, h0_4, h0_5, h0_6, h0_7, h0_8, h0_9, h0_10, h0_11, h0_12, h0_13, h0_14, h0_15, h0_16, h0_17, h0_18, h0_19, h0_20, h0_21, h0_22, h0_23, h0_24, h0_25, h0_26, h0_27, .int 0, .int (-1), .int 0, .int 0, .int 0, h0_33, .int 0, h0_35, h0_36, h0_37, h0_38, h0_39, h0_40, h0_41, h0_42, h0_43, h0_44, h0_45, h0_46, h0_47, h0_48, h0_49, h0_50, h0_51, h0_52, h0_53, h0_54, h0_55, h0_56, h0_57, h0_58, h0_59, h0_60, h0_61, h0_62, h0_63, h0_64, h0_65, h0_66, h0_67, h0_68, h0_69]))] t.heap ∧ va_K (dC, dI) vwCl [] t ∧ va_D (va_A [(h0, .inr (12, [h0_0, h0_1, h0_2, h0_3, h0_4, h0_5, h0_6, h0_7, h0_8, h0_9, h0_10, h0_11, h0_12, h0_13, h0_14, h0_15, h0_16, h0_17, h0_18, h0_19, h0_20, h0_21, h0_22, h0_23, h0_24, h0_25, h0_26, h0_27, h0_28, h0_29, h0_30, h0_31, h0_32, h0_33, h0_34, h0_35, h0_36, h0_37, h0_38, h0_39, h0_40, h0_41, h0_42, h0_43, h0_44, h0_45, h0_46, h0_47, h0_48, h0_49, h0_50, h0_51, h0_52, h0_53, h0_54, h0_55, h0_56, h0_57, h0_58, h0_59, h0_60, h0_61, h0_62, h0_63, h0_64, h0_65, h0_66, h0_67, h0_68, h0_69]))] sz) [(h0, .inr (12, [h0_0, .int 0, h0_2, h0_3, h0_4, h0_5, h0_6, h0_7, h0_8, h0_9, h0_10, h0_11, h0_12, h0_13, h0_14, h0_15, h0_16, h0_17, h0_18, h0_19, h0_20, h0_21, h0_22, h0_23, h0_24, h0_25, h0_26, h0_27, .int 0, .int (-1), .int 0, .int 0, .int 0, h0_33, .int 0, h0_35, h0_36, h0_37, h0_38, h0_39, h0_40, h0_41, h0_42, h0_43, h0_44, h0_45, h0_46, h0_47, h0_48, h0_49, h0_50, h0_51, h0_52, h0_53, h0_54, h0_55, h0_56, h0_57, h0_58, h0_59, h0_60, h0_61, h0_62, h0_63, h0_64, h0_65, h0_66, h0_67, h0_68, h0_69]))]) (va_A [(h0, .inr (12, [h0_0, h0_1, h0_2, h0_3, h0_4, h0_5, h0_6, h0_7, h0_8, h0_9, h0_10, h0_11, h0_12, h0_13, h0_14, h0_15, h0_16, h0_17, h0_18, h0_19, h0_20, h0_21, h0_22, h0_23, h0_24, h0_25, h0_26, h0_27, h0_28, h0_29, h0_30, h0_31, h0_32, h0_33, h0_34, h0_35, h0_36, h0_37, h0_38, h0_39, h0_40, h0_41, h0_42, h0_43, h0_44, h0_45, h0_46, h0_47, h0_48, h0_49, h0_50, h0_51, h0_52, h0_53, h0_54, h0_55, h0_56, h0_57, h0_58, h0_59, h0_60, h0_61, h0_62, h0_63, h0_64, h0_65, h0_66, h0_67, h0_68, h0_69]))] sz)) 0 0 (va_A [(h0, .inr (12, [h0_0, h0_1, h0_2, h0_3, h0_4, h0_5, h0_6, h0_7, h0_8, h0_9, h0_10, h0_11, h0_12, h0_13, h0_14, h0_15, h0_16, h0_17, h0_18, h0_19, h0_20, h0_21, h0_22, h0_23, h0_24, h0_25, h0_26, h0_27, h0_28, h0_29, h0_30, h0_31, h0_32, h0_33, h0_34, h0_35, h0_36, h0_37, h0_38, h0_39, h0_40, h0_41, h0_42, h0_43, h0_44, h0_45, h0_46, h0_47, h0_48, h0_49, h0_50, h0_51, h0_52, h0_53, h0_54, h0_55, h0_56, h0_57, h0_58, h0_59, h0_60, h0_61, h0_62, h0_63, h0_64, h0_65, h0_66, h0_67, h0_68, h0_69]))] sz) := by
  refine Met.ofW (cc := cX12_begins) (maxL := 3) (ret := none) (by decide) rfl ?_
  intro p e s m args below meth c s₁ B hml hv
  obtain ⟨rfl, hsz, hP, hK, hD0⟩ := hv
  have hx := B.exec
  have hb := B.bytes
  have hr := B.returns
  have hts := atoms_spec (ws := u_c_X12_begins) B.pre
  have hown : s.vm.findClass RX12 = some m.cls := findClass_of_methodNamed B.named
  have hlocks := B.notSynchronized
  subst hsz
  have hD := hD0.self (sz := s.heap.size)
  generalize hAe : va_A [(h0, .inr (12, [h0_0, h0_1, h0_2, h0_3, h0_4, h0_5, h0_6, h0_7, h0_8, h0_9, h0_10, h0_11, h0_12, h0_13, h0_14, h0_15, h0_16, h0_17, h0_18, h0_19, h0_20, h0_21, h0_22, h0_23, h0_24, h0_25, h0_26, h0_27, h0_28, h0_29, h0_30, h0_31, h0_32, h0_33, h0_34, h0_35, h0_36, h0_37, h0_38, h0_39, h0_40, h0_41, h0_42, h0_43, h0_44, h0_45, h0_46, h0_47, h0_48, h0_49, h0_50, h0_51, h0_52, h0_53, h0_54, h0_55, h0_56, h0_57, h0_58, h0_59, h0_60, h0_61, h0_62, h0_63, h0_64, h0_65, h0_66, h0_67, h0_68, h0_69]))] s.heap.size = A at hD ⊢
  have hA : ∀ q : Nat, s.heap.size ≤ q → A q := fun q h => by rw [← hAe]; exact Or.inr h
  have hS : va_S A s.heap s.heap [] := va_S.rf
  have hP : va_P (dC, dI) vwCl [(h0, .inr (12, [h0_0, h0_1, h0_2, h0_3, h0_4, h0_5, h0_6, h0_7, h0_8, h0_9, h0_10, h0_11, h0_12, h0_13, h0_14, h0_15, h0_16, h0_17, h0_18, h0_19, h0_20, h0_21, h0_22, h0_23, h0_24, h0_25, h0_26, h0_27, h0_28, h0_29, h0_30, h0_31, h0_32, h0_33, h0_34, h0_35, h0_36, h0_37, h0_38, h0_39, h0_40, h0_41, h0_42, h0_43, h0_44, h0_45, h0_46, h0_47, h0_48, h0_49, h0_50, h0_51, h0_52, h0_53, h0_54, h0_55, h0_56, h0_57, h0_58, h0_59, h0_60, h0_61, h0_62, h0_63, h0_64, h0_65, h0_66, h0_67, h0_68, h0_69]))] s.heap := hP
  have w__fieldLink_RX12_204_ShellHeapModel_stop_I_ := hts (.fieldLink RX12 204 "ShellHeapModel" "stop" "I") (by decide +kernel)
  have hiX12 := show ∀ w ∈ u_ws RX12 TX12 70, w ∈ u_c_X12_begins by decide +kernel
  have w__fieldLink_RX12_148_ShellHeapModel_tapeSize_I_ := hts (.fieldLink RX12 148 "ShellHeapModel" "tapeSize" "I") (by decide +kernel)
  have w__fieldLink_RX12_198_ShellHeapModel_fault_I_ := hts (.fieldLink RX12 198 "ShellHeapModel" "fault" "I") (by decide +kernel)
  have w__fieldLink_RX12_75_ShellHeapModel_faultPlace_I_ := hts (.fieldLink RX12 75 "ShellHeapModel" "faultPlace" "I") (by decide +kernel)
  have w__fieldLink_RX12_207_ShellHeapModel_next_I_ := hts (.fieldLink RX12 207 "ShellHeapModel" "next" "I") (by decide +kernel)
  have hl := lv_entry ([.ref h0, .int 0, .int 0]) (n := 3) (Nat.le_of_ble_eq_true rfl)
  rw [lg_entry_eq]
  generalize (lg_sl ([.ref h0, .int 0, .int 0]) ++ List.replicate (3 - (lg_sl ([.ref h0, .int 0, .int 0])).length) Slot.unset).toArray = ls at hl ⊢
  have hl : lv_has ls 3 [(0, .ref h0), (1, .int 0), (2, .int 0)] := hl
  refine lv_aload_n hx hb dX12_begins_0 rfl (lv_at hl 0 rfl) ?_
  refine lv_iload_n hx hb dX12_begins_1 rfl (lv_at hl 1 rfl) ?_
  refine va_put (D := (dC, dI)) (ci := 12) (v := .int 0) (ty := .int) (C := RX12) (T := TX12) (N := 70) hx hb hts hiX12 tyX12 tyX12_ok nmX12 hown hK hP hD hS 0 rfl rfl 30 (by decide) w__fieldLink_RX12_204_ShellHeapModel_stop_I_ (fun _ h9 => h9) rfl (by decide +kernel) rfl rfl (Nat.le_of_ble_eq_true rfl) dX12_begins_2 (fun H_1 locs hP hD hS => ?_)
  have hP : va_P (dC, dI) vwCl [(h0, .inr (12, [h0_0, h0_1, h0_2, h0_3, h0_4, h0_5, h0_6, h0_7, h0_8, h0_9, h0_10, h0_11, h0_12, h0_13, h0_14, h0_15, h0_16, h0_17, h0_18, h0_19, h0_20, h0_21, h0_22, h0_23, h0_24, h0_25, h0_26, h0_27, h0_28, h0_29, .int 0, h0_31, h0_32, h0_33, h0_34, h0_35, h0_36, h0_37, h0_38, h0_39, h0_40, h0_41, h0_42, h0_43, h0_44, h0_45, h0_46, h0_47, h0_48, h0_49, h0_50, h0_51, h0_52, h0_53, h0_54, h0_55, h0_56, h0_57, h0_58, h0_59, h0_60, h0_61, h0_62, h0_63, h0_64, h0_65, h0_66, h0_67, h0_68, h0_69]))] H_1 := hP
  have hD : va_D A [(h0, .inr (12, [h0_0, h0_1, h0_2, h0_3, h0_4, h0_5, h0_6, h0_7, h0_8, h0_9, h0_10, h0_11, h0_12, h0_13, h0_14, h0_15, h0_16, h0_17, h0_18, h0_19, h0_20, h0_21, h0_22, h0_23, h0_24, h0_25, h0_26, h0_27, h0_28, h0_29, .int 0, h0_31, h0_32, h0_33, h0_34, h0_35, h0_36, h0_37, h0_38, h0_39, h0_40, h0_41, h0_42, h0_43, h0_44, h0_45, h0_46, h0_47, h0_48, h0_49, h0_50, h0_51, h0_52, h0_53, h0_54, h0_55, h0_56, h0_57, h0_58, h0_59, h0_60, h0_61, h0_62, h0_63, h0_64, h0_65, h0_66, h0_67, h0_68, h0_69]))] := hD
  refine lv_aload_n hx hb dX12_begins_5 rfl (lv_at hl 0 rfl) ?_
  refine lv_iconst (v := 0) hx hb dX12_begins_6 (by decide) ?_
  refine va_put (D := (dC, dI)) (ci := 12) (v := .int 0) (ty := .int) (C := RX12) (T := TX12) (N := 70) hx hb hts hiX12 tyX12 tyX12_ok nmX12 hown hK hP hD hS 0 rfl rfl 1 (by decide) w__fieldLink_RX12_148_ShellHeapModel_tapeSize_I_ (fun _ h9 => h9) rfl (by decide +kernel) rfl rfl (Nat.le_of_ble_eq_true rfl) dX12_begins_7 (fun H_2 locs hP hD hS => ?_)
  have hP : va_P (dC, dI) vwCl [(h0, .inr (12, [h0_0, .int 0, h0_2, h0_3, h0_4, h0_5, h0_6, h0_7, h0_8, h0_9, h0_10, h0_11, h0_12, h0_13, h0_14, h0_15, h0_16, h0_17, h0_18, h0_19, h0_20, h0_21, h0_22, h0_23, h0_24, h0_25, h0_26, h0_27, h0_28, h0_29, .int 0, h0_31, h0_32, h0_33, h0_34, h0_35, h0_36, h0_37, h0_38, h0_39, h0_40, h0_41, h0_42, h0_43, h0_44, h0_45, h0_46, h0_47, h0_48, h0_49, h0_50, h0_51, h0_52, h0_53, h0_54, h0_55, h0_56, h0_57, h0_58, h0_59, h0_60, h0_61, h0_62, h0_63, h0_64, h0_65, h0_66, h0_67, h0_68, h0_69]))] H_2 := hP
  have hD : va_D A [(h0, .inr (12, [h0_0, .int 0, h0_2, h0_3, h0_4, h0_5, h0_6, h0_7, h0_8, h0_9, h0_10, h0_11, h0_12, h0_13, h0_14, h0_15, h0_16, h0_17, h0_18, h0_19, h0_20, h0_21, h0_22, h0_23, h0_24, h0_25, h0_26, h0_27, h0_28, h0_29, .int 0, h0_31, h0_32, h0_33, h0_34, h0_35, h0_36, h0_37, h0_38, h0_39, h0_40, h0_41, h0_42, h0_43, h0_44, h0_45, h0_46, h0_47, h0_48, h0_49, h0_50, h0_51, h0_52, h0_53, h0_54, h0_55, h0_56, h0_57, h0_58, h0_59, h0_60, h0_61, h0_62, h0_63, h0_64, h0_65, h0_66, h0_67, h0_68, h0_69]))] := hD
  refine lv_aload_n hx hb dX12_begins_10 rfl (lv_at hl 0 rfl) ?_
  refine lv_iconst (v := 0) hx hb dX12_begins_11 (by decide) ?_
  refine va_put (D := (dC, dI)) (ci := 12) (v := .int 0) (ty := .int) (C := RX12) (T := TX12) (N := 70) hx hb hts hiX12 tyX12 tyX12_ok nmX12 hown hK hP hD hS 0 rfl rfl 28 (by decide) w__fieldLink_RX12_198_ShellHeapModel_fault_I_ (fun _ h9 => h9) rfl (by decide +kernel) rfl rfl (Nat.le_of_ble_eq_true rfl) dX12_begins_12 (fun H_3 locs hP hD hS => ?_)
  have hP : va_P (dC, dI) vwCl [(h0, .inr (12, [h0_0, .int 0, h0_2, h0_3, h0_4, h0_5, h0_6, h0_7, h0_8, h0_9, h0_10, h0_11, h0_12, h0_13, h0_14, h0_15, h0_16, h0_17, h0_18, h0_19, h0_20, h0_21, h0_22, h0_23, h0_24, h0_25, h0_26, h0_27, .int 0, h0_29, .int 0, h0_31, h0_32, h0_33, h0_34, h0_35, h0_36, h0_37, h0_38, h0_39, h0_40, h0_41, h0_42, h0_43, h0_44, h0_45, h0_46, h0_47, h0_48, h0_49, h0_50, h0_51, h0_52, h0_53, h0_54, h0_55, h0_56, h0_57, h0_58, h0_59, h0_60, h0_61, h0_62, h0_63, h0_64, h0_65, h0_66, h0_67, h0_68, h0_69]))] H_3 := hP
  have hD : va_D A [(h0, .inr (12, [h0_0, .int 0, h0_2, h0_3, h0_4, h0_5, h0_6, h0_7, h0_8, h0_9, h0_10, h0_11, h0_12, h0_13, h0_14, h0_15, h0_16, h0_17, h0_18, h0_19, h0_20, h0_21, h0_22, h0_23, h0_24, h0_25, h0_26, h0_27, .int 0, h0_29, .int 0, h0_31, h0_32, h0_33, h0_34, h0_35, h0_36, h0_37, h0_38, h0_39, h0_40, h0_41, h0_42, h0_43, h0_44, h0_45, h0_46, h0_47, h0_48, h0_49, h0_50, h0_51, h0_52, h0_53, h0_54, h0_55, h0_56, h0_57, h0_58, h0_59, h0_60, h0_61, h0_62, h0_63, h0_64, h0_65, h0_66, h0_67, h0_68, h0_69]))] := hD
  refine lv_aload_n hx hb dX12_begins_15 rfl (lv_at hl 0 rfl) ?_
  refine lv_iconst (v := (-1)) hx hb dX12_begins_16 (by decide) ?_
  refine va_put (D := (dC, dI)) (ci := 12) (v := .int (-1)) (ty := .int) (C := RX12) (T := TX12) (N := 70) hx hb hts hiX12 tyX12 tyX12_ok nmX12 hown hK hP hD hS 0 rfl rfl 29 (by decide) w__fieldLink_RX12_75_ShellHeapModel_faultPlace_I_ (fun _ h9 => h9) rfl (by decide +kernel) rfl rfl (Nat.le_of_ble_eq_true rfl) dX12_begins_17 (fun H_4 locs hP hD hS => ?_)
  have hP : va_P (dC, dI) vwCl [(h0, .inr (12, [h0_0, .int 0, h0_2, h0_3, h0_4, h0_5, h0_6, h0_7, h0_8, h0_9, h0_10, h0_11, h0_12, h0_13, h0_14, h0_15, h0_16, h0_17, h0_18, h0_19, h0_20, h0_21, h0_22, h0_23, h0_24, h0_25, h0_26, h0_27, .int 0, .int (-1), .int 0, h0_31, h0_32, h0_33, h0_34, h0_35, h0_36, h0_37, h0_38, h0_39, h0_40, h0_41, h0_42, h0_43, h0_44, h0_45, h0_46, h0_47, h0_48, h0_49, h0_50, h0_51, h0_52, h0_53, h0_54, h0_55, h0_56, h0_57, h0_58, h0_59, h0_60, h0_61, h0_62, h0_63, h0_64, h0_65, h0_66, h0_67, h0_68, h0_69]))] H_4 := hP
  have hD : va_D A [(h0, .inr (12, [h0_0, .int 0, h0_2, h0_3, h0_4, h0_5, h0_6, h0_7, h0_8, h0_9, h0_10, h0_11, h0_12, h0_13, h0_14, h0_15, h0_16, h0_17, h0_18, h0_19, h0_20, h0_21, h0_22, h0_23, h0_24, h0_25, h0_26, h0_27, .int 0, .int (-1), .int 0, h0_31, h0_32, h0_33, h0_34, h0_35, h0_36, h0_37, h0_38, h0_39, h0_40, h0_41, h0_42, h0_43, h0_44, h0_45, h0_46, h0_47, h0_48, h0_49, h0_50, h0_51, h0_52, h0_53, h0_54, h0_55, h0_56, h0_57, h0_58, h0_59, h0_60, h0_61, h0_62, h0_63, h0_64, h0_65, h0_66, h0_67, h0_68, h0_69]))] := hD
  refine lv_aload_n hx hb dX12_begins_20 rfl (lv_at hl 0 rfl) ?_
  refine lv_iconst (v := 0) hx hb dX12_begins_21 (by decide) ?_
  refine va_put (D := (dC, dI)) (ci := 12) (v := .int 0) (ty := .int) (C := RX12) (T := TX12) (N := 70) hx hb hts hiX12 tyX12 tyX12_ok nmX12 hown hK hP hD hS 0 rfl rfl 31 (by decide) w__fieldLink_RX12_207_ShellHeapModel_next_I_ (fun _ h9 => h9) rfl (by decide +kernel) rfl rfl (Nat.le_of_ble_eq_true rfl) dX12_begins_22 (fun H_5 locs hP hD hS => ?_)
  have hP : va_P (dC, dI) vwCl [(h0, .inr (12, [h0_0, .int 0, h0_2, h0_3, h0_4, h0_5, h0_6, h0_7, h0_8, h0_9, h0_10, h0_11, h0_12, h0_13, h0_14, h0_15, h0_16, h0_17, h0_18, h0_19, h0_20, h0_21, h0_22, h0_23, h0_24, h0_25, h0_26, h0_27, .int 0, .int (-1), .int 0, .int 0, h0_32, h0_33, h0_34, h0_35, h0_36, h0_37, h0_38, h0_39, h0_40, h0_41, h0_42, h0_43, h0_44, h0_45, h0_46, h0_47, h0_48, h0_49, h0_50, h0_51, h0_52, h0_53, h0_54, h0_55, h0_56, h0_57, h0_58, h0_59, h0_60, h0_61, h0_62, h0_63, h0_64, h0_65, h0_66, h0_67, h0_68, h0_69]))] H_5 := hP
  have hD : va_D A [(h0, .inr (12, [h0_0, .int 0, h0_2, h0_3, h0_4, h0_5, h0_6, h0_7, h0_8, h0_9, h0_10, h0_11, h0_12, h0_13, h0_14, h0_15, h0_16, h0_17, h0_18, h0_19, h0_20, h0_21, h0_22, h0_23, h0_24, h0_25, h0_26, h0_27, .int 0, .int (-1), .int 0, .int 0, h0_32, h0_33, h0_34, h0_35, h0_36, h0_37, h0_38, h0_39, h0_40, h0_41, h0_42, h0_43, h0_44, h0_45, h0_46, h0_47, h0_48, h0_49, h0_50, h0_51, h0_52, h0_53, h0_54, h0_55, h0_56, h0_57, h0_58, h0_59, h0_60, h0_61, h0_62, h0_63, h0_64, h0_65, h0_66, h0_67, h0_68, h0_69]))] := hD
  refine lv_aload_n hx hb dX12_begins_25 rfl (lv_at hl 0 rfl) ?_
  refine lv_iload_n hx hb dX12_begins_26 rfl (lv_at hl 2 rfl) ?_
  have hPc := hP.sub (ws' := [(h0, .inr (12, [h0_0, .int 0, h0_2, h0_3, h0_4, h0_5, h0_6, h0_7, h0_8, h0_9, h0_10, h0_11, h0_12, h0_13, h0_14, h0_15, h0_16, h0_17, h0_18, h0_19, h0_20, h0_21, h0_22, h0_23, h0_24, h0_25, h0_26, h0_27, .int 0, .int (-1), .int 0, .int 0, h0_32, h0_33, h0_34, h0_35, h0_36, h0_37, h0_38, h0_39, h0_40, h0_41, h0_42, h0_43, h0_44, h0_45, h0_46, h0_47, h0_48, h0_49, h0_50, h0_51, h0_52, h0_53, h0_54, h0_55, h0_56, h0_57, h0_58, h0_59, h0_60, h0_61, h0_62, h0_63, h0_64, h0_65, h0_66, h0_67, h0_68, h0_69]))]) [0] rfl
  have hDc := hD.sub (ws' := [(h0, .inr (12, [h0_0, .int 0, h0_2, h0_3, h0_4, h0_5, h0_6, h0_7, h0_8, h0_9, h0_10, h0_11, h0_12, h0_13, h0_14, h0_15, h0_16, h0_17, h0_18, h0_19, h0_20, h0_21, h0_22, h0_23, h0_24, h0_25, h0_26, h0_27, .int 0, .int (-1), .int 0, .int 0, h0_32, h0_33, h0_34, h0_35, h0_36, h0_37, h0_38, h0_39, h0_40, h0_41, h0_42, h0_43, h0_44, h0_45, h0_46, h0_47, h0_48, h0_49, h0_50, h0_51, h0_52, h0_53, h0_54, h0_55, h0_56, h0_57, h0_58, h0_59, h0_60, h0_61, h0_62, h0_63, h0_64, h0_65, h0_66, h0_67, h0_68, h0_69]))]) [0] (by decide) rfl
  have hKc := hK.sub (tys' := []) [] rfl
  have hFc := va_free (wc := [(h0, .inr (12, [h0_0, .int 0, h0_2, h0_3, h0_4, h0_5, h0_6, h0_7, h0_8, h0_9, h0_10, h0_11, h0_12, h0_13, h0_14, h0_15, h0_16, h0_17, h0_18, h0_19, h0_20, h0_21, h0_22, h0_23, h0_24, h0_25, h0_26, h0_27, .int 0, .int (-1), .int 0, .int 0, h0_32, h0_33, h0_34, h0_35, h0_36, h0_37, h0_38, h0_39, h0_40, h0_41, h0_42, h0_43, h0_44, h0_45, h0_46, h0_47, h0_48, h0_49, h0_50, h0_51, h0_52, h0_53, h0_54, h0_55, h0_56, h0_57, h0_58, h0_59, h0_60, h0_61, h0_62, h0_63, h0_64, h0_65, h0_66, h0_67, h0_68, h0_69]))]) hD hS hA [0] rfl
  refine va_callv (va_runV (As := [.int 0]) (rest := []) ⟨hx, hb, hml, hown, hts⟩ (c_X12_take l dC dI H_5.size h0 h0_0 (.int 0) h0_2 h0_3 h0_4 h0_5 h0_6 h0_7 h0_8 h0_9 h0_10 h0_11 h0_12 h0_13 h0_14 h0_15 h0_16 h0_17 h0_18 h0_19 h0_20 h0_21 h0_22 h0_23 h0_24 h0_25 h0_26 h0_27 (.int 0) (.int (-1)) h0_32 h0_33 h0_34 h0_35 h0_36 h0_37 h0_38 h0_39 h0_40 h0_41 h0_42 h0_43 h0_44 h0_45 h0_46 h0_47 h0_48 h0_49 h0_50 h0_51 h0_52 h0_53 h0_54 h0_55 h0_56 h0_57 h0_58 h0_59 h0_60 h0_61 h0_62 h0_63 h0_64 h0_65 h0_66 h0_67 h0_68 h0_69) (cwV 1 hts gw_c_X12_begins_c_X12_take_236 rfl rfl rfl (by decide +kernel) ⟨Nat.le_of_ble_eq_true rfl, Nat.le_of_ble_eq_true rfl⟩) ⟨z_blind, va_recv hKc hPc (ci := 12) (q0 := 0) rfl rfl, z_pre hPc hKc hDc⟩ rfl rfl hl.1 rfl (lv_room (Nat.le_of_ble_eq_true rfl)) dX12_begins_27 ⟨Nat.le_of_ble_eq_true rfl, Nat.le_of_ble_eq_true rfl⟩) hS (fun q _ h => hFc q h) hFc (fun u t H_6 locs ht hvm hw_8 hB hz1 hk1 hS => ?_)
  obtain ⟨hP1, hK1, hD1⟩ := hB
  rw [ht] at hP1
  have hK1 := va_K.moved hvm.symm hK1
  obtain ⟨hP, hD⟩ := va_join (wr := []) (w1 := [(h0, .inr (12, [h0_0, .int 0, h0_2, h0_3, h0_4, h0_5, h0_6, h0_7, h0_8, h0_9, h0_10, h0_11, h0_12, h0_13, h0_14, h0_15, h0_16, h0_17, h0_18, h0_19, h0_20, h0_21, h0_22, h0_23, h0_24, h0_25, h0_26, h0_27, .int 0, .int (-1), .int 0, .int 0, .int 0, h0_33, .int 0, h0_35, h0_36, h0_37, h0_38, h0_39, h0_40, h0_41, h0_42, h0_43, h0_44, h0_45, h0_46, h0_47, h0_48, h0_49, h0_50, h0_51, h0_52, h0_53, h0_54, h0_55, h0_56, h0_57, h0_58, h0_59, h0_60, h0_61, h0_62, h0_63, h0_64, h0_65, h0_66, h0_67, h0_68, h0_69]))]) hP hD [0] [] rfl rfl (by decide) (by decide) hk1 hFc hP1 hD1
  have hP : va_P (dC, dI) vwCl [(h0, .inr (12, [h0_0, .int 0, h0_2, h0_3, h0_4, h0_5, h0_6, h0_7, h0_8, h0_9, h0_10, h0_11, h0_12, h0_13, h0_14, h0_15, h0_16, h0_17, h0_18, h0_19, h0_20, h0_21, h0_22, h0_23, h0_24, h0_25, h0_26, h0_27, .int 0, .int (-1), .int 0, .int 0, .int 0, h0_33, .int 0, h0_35, h0_36, h0_37, h0_38, h0_39, h0_40, h0_41, h0_42, h0_43, h0_44, h0_45, h0_46, h0_47, h0_48, h0_49, h0_50, h0_51, h0_52, h0_53, h0_54, h0_55, h0_56, h0_57, h0_58, h0_59, h0_60, h0_61, h0_62, h0_63, h0_64, h0_65, h0_66, h0_67, h0_68, h0_69]))] H_6 := hP
  have hD : va_D A [(h0, .inr (12, [h0_0, .int 0, h0_2, h0_3, h0_4, h0_5, h0_6, h0_7, h0_8, h0_9, h0_10, h0_11, h0_12, h0_13, h0_14, h0_15, h0_16, h0_17, h0_18, h0_19, h0_20, h0_21, h0_22, h0_23, h0_24, h0_25, h0_26, h0_27, .int 0, .int (-1), .int 0, .int 0, .int 0, h0_33, .int 0, h0_35, h0_36, h0_37, h0_38, h0_39, h0_40, h0_41, h0_42, h0_43, h0_44, h0_45, h0_46, h0_47, h0_48, h0_49, h0_50, h0_51, h0_52, h0_53, h0_54, h0_55, h0_56, h0_57, h0_58, h0_59, h0_60, h0_61, h0_62, h0_63, h0_64, h0_65, h0_66, h0_67, h0_68, h0_69]))] := hD
  clear hPc hDc hKc
  have hP9 := hP.sub (ws' := [(h0, .inr (12, [h0_0, .int 0, h0_2, h0_3, h0_4, h0_5, h0_6, h0_7, h0_8, h0_9, h0_10, h0_11, h0_12, h0_13, h0_14, h0_15, h0_16, h0_17, h0_18, h0_19, h0_20, h0_21, h0_22, h0_23, h0_24, h0_25, h0_26, h0_27, .int 0, .int (-1), .int 0, .int 0, .int 0, h0_33, .int 0, h0_35, h0_36, h0_37, h0_38, h0_39, h0_40, h0_41, h0_42, h0_43, h0_44, h0_45, h0_46, h0_47, h0_48, h0_49, h0_50, h0_51, h0_52, h0_53, h0_54, h0_55, h0_56, h0_57, h0_58, h0_59, h0_60, h0_61, h0_62, h0_63, h0_64, h0_65, h0_66, h0_67, h0_68, h0_69]))]) [0] rfl
  have hD9 := hD.sub (ws' := [(h0, .inr (12, [h0_0, .int 0, h0_2, h0_3, h0_4, h0_5, h0_6, h0_7, h0_8, h0_9, h0_10, h0_11, h0_12, h0_13, h0_14, h0_15, h0_16, h0_17, h0_18, h0_19, h0_20, h0_21, h0_22, h0_23, h0_24, h0_25, h0_26, h0_27, .int 0, .int (-1), .int 0, .int 0, .int 0, h0_33, .int 0, h0_35, h0_36, h0_37, h0_38, h0_39, h0_40, h0_41, h0_42, h0_43, h0_44, h0_45, h0_46, h0_47, h0_48, h0_49, h0_50, h0_51, h0_52, h0_53, h0_54, h0_55, h0_56, h0_57, h0_58, h0_59, h0_60, h0_61, h0_62, h0_63, h0_64, h0_65, h0_66, h0_67, h0_68, h0_69]))]) [0] (by decide) rfl
  have hK9 := hK.sub (tys' := []) [] rfl
  refine W.widen (k := 0) (n := 0) (Nat.le_of_ble_eq_true rfl) (Nat.le_of_ble_eq_true rfl) ?_
  exact W.vret hx hb hr (fun t ht hW => ⟨⟨(), rfl, trivial, ⟨by rw [ht]; exact hP9, va_K.moved hW.alike hK9, hD9⟩⟩, hS.F ht⟩) hS.2.2 dX12_begins_30
def u_c_X12_rules : List Cond := .code yX12_rules cX12_rules 3 (some .int) :: ([.fieldLink RX12 145 "ShellHeapModel" "thrown" "I", .fieldLink RX12 148 "ShellHeapModel" "tapeSize" "I", .methodLink RX12 250 yX12_begins, .instanceMethod yX12_begins, .selects RX12 yX12_begins yX12_begins, .initialized RX12, .code yX12_begins cX12_begins 3 none, .fieldLink RX12 204 "ShellHeapModel" "stop" "I", .fieldLink RX12 198 "ShellHeapModel" "fault" "I", .fieldLink RX12 75 "ShellHeapModel" "faultPlace" "I", .fieldLink RX12 207 "ShellHeapModel" "next" "I", .methodLink RX12 236 yX12_take, .instanceMethod yX12_take, .selects RX12 yX12_take yX12_take, .code yX12_take cX12_take 3 none, .fieldLink RX12 201 "ShellHeapModel" "place" "I", .fieldLink RX12 221 "ShellHeapModel" "kindNow" "I", .fieldLink RX12 378 "ShellHeapModel" "causesRead" "I", .fieldLink RX12 317 "ShellHeapModel" "knotsRead" "I", .fieldLink RX12 320 "ShellHeapModel" "orderMany" "I", .fieldLink RX12 390 "ShellHeapModel" "causes" "I", .fieldLink RX12 393 "ShellHeapModel" "knots" "I", .fieldLink RX12 105 "ShellHeapModel" "causeFirst" "[I", .fieldLink RX12 108 "ShellHeapModel" "causeMany" "[I"] ++ wsX120)
set_option maxRecDepth 20000 in
theorem gw_c_X12_rules_c_X12_begins_250 : GoodIn u_c_X12_rules (wsV RX12 250 RX12 yX12_begins u_c_X12_begins) := goodIn_r _ [3, 4, 5, 6, 7, 8, 2, 9, 10, 11, 12, 13, 14, 6, 15, 16, 17, 25, 26, 27, 28, 29, 30, 31, 32, 33, 34, 35, 36, 37, 38, 39, 40, 41, 42, 43, 44, 45, 46, 47, 48, 49, 50, 51, 52, 53, 54, 55, 56, 57, 58, 59, 60, 61, 62, 63, 64, 65, 66, 67, 68, 69, 70, 71, 72, 73, 74, 75, 76, 77, 78, 79, 80, 81, 82, 83, 84, 85, 86, 87, 88, 89, 90, 91, 92, 93, 94] (by decide +kernel) (by decide +kernel)
set_option maxHeartbeats 4000000 in
set_option maxRecDepth 100000 in
theorem c_X12_rules (l : Launch) (dC : Nat → ClassId) (dI : Nat → Nat → Nat) (sz : Nat) (h0 : Nat) (p1 : Int32) (h0_0 : Value) (h0_2 : Value) (h0_3 : Value) (h0_4 : Value) (h0_5 : Value) (h0_6 : Value) (h0_7 : Value) (h0_8 : Value) (h0_9 : Value) (h0_10 : Value) (h0_11 : Value) (h0_12 : Value) (h0_13 : Value) (h0_14 : Value) (h0_15 : Value) (h0_16 : Value) (h0_17 : Value) (h0_18 : Value) (h0_19 : Value) (h0_20 : Value) (h0_21 : Value) (h0_22 : Value) (h0_23 : Value) (h0_24 : Value) (h0_25 : Value) (h0_26 : Value) (h0_27 : Value) (h0_28 : Value) (h0_29 : Value) (h0_30 : Value) (h0_31 : Value) (h0_32 : Value) (h0_33 : Value) (h0_34 : Value) (h0_35 : Value) (h0_36 : Value) (h0_37 : Value) (h0_38 : Value) (h0_39 : Value) (h0_40 : Value) (h0_41 : Value) (h0_42 : Value) (h0_43 : Value) (h0_44 : Value) (h0_45 : Value) (h0_46 : Value) (h0_47 : Value) (h0_48 : Value) (h0_49 : Value) (h1 : Nat) (h2 : Nat) (h0_52 : Value) (h0_53 : Value) (h0_54 : Value) (h0_55 : Value) (h0_56 : Value) (h0_57 : Value) (h0_58 : Value) (h0_59 : Value) (h0_60 : Value) (h0_61 : Value) (h0_62 : Value) (h0_63 : Value) (h0_64 : Value) (h0_65 : Value) (h0_66 : Value) (h0_67 : Value) (h0_68 : Value) (h0_69 : Value) (ch1 : ClassId) (fh1 : Nat → Int32) (ch2 : ClassId) (fh2 : Nat → Int32) : Met l yX12_rules u_c_X12_rules ({ frames := 2, cells := 0, slots := 0, locals := 44 }) (va_Pc [.ref h0, .int p1] (z_C (dC, dI) vwCl [(h0, .inr (12, [h0_0, .int 0, h0_2, h0_3, h0_4, h0_5, h0_6, h0_7, h0_8, h0_9, h0_10, h0_11, h0_12, h0_13, h0_14, h0_15, h0_16, h0_17, h0_18, h0_19, h0_20, h0_21, h0_22, h0_23, h0_24, h0_25, h0_26, h0_27, h0_28, h0_29, h0_30, h0_31, h0_32, h0_33, h0_34, h0_35, h0_36, h0_37, h0_38, h0_39, h0_40, h0_41, h0_42, h0_43, h0_44, h0_45, h0_46, h0_47, h0_48, h0_49, .ref h1, .ref h2, h0_52, h0_53, h0_54, h0_55, h0_56, h0_57, h0_58, h0_59, h0_60, h0_61, h0_62, h0_63, h0_64, h0_65, h0_66, h0_67, h0_68, h0_69])), (h1, .inl (ch1, 12, .inl fh1)), (h2, .inl (ch2, 12, .inl fh2))] [(ch1, .int), (ch2, .int)] sz)) (va_Qi (fun (r : Int32) (_ : Unit) => r = v_rules p1) (fun (_ : Unit) (_ : State) => True) (va_A [(h0, .inr (12, [h0_0, .int 0, h0_2, h0_3, h0_4, h0_5, h0_6, h0_7, h0_8, h0_9, h0_10, h0_11, h0_12, h0_13, h0_14, h0_15, h0_16, h0_17, h0_18, h0_19, h0_20, h0_21, h0_22, h0_23, h0_24, h0_25, h0_26, h0_27, h0_28, h0_29, h0_30, h0_31, h0_32, h0_33, h0_34, h0_35, h0_36, h0_37, h0_38, h0_39, h0_40, h0_41, h0_42, h0_43, h0_44, h0_45, h0_46, h0_47, h0_48, h0_49, .ref h1, .ref h2, h0_52, h0_53, h0_54, h0_55, h0_56, h0_57, h0_58, h0_59, h0_60, h0_61, h0_62, h0_63, h0_64, h0_65, h0_66, h0_67, h0_68, h0_69])), (h1, .inl (ch1, 12, .inl fh1)), (h2, .inl (ch2, 12, .inl fh2))] sz)) 0 0 (va_A [(h0, .inr (12, [h0_0, .int 0, h0_2, h0_3, h0_4, h0_5, h0_6, h0_7, h0_8, h0_9, h0_10, h0_11, h0_12, h0_13, h0_14, h0_15, h0_16, h0_17, h0_18, h0_19, h0_20, h0_21, h0_22, h0_23, h0_24, h0_25, h0_26, h0_27, h0_28, h0_29, h0_30, h0_31, h0_32, h0_33, h0_34, h0_35, h0_36, h0_37, h0_38, h0_39, h0_40, h0_41, h0_42, h0_43, h0_44, h0_45, h0_46, h0_47, h0_48, h0_49, .ref h1, .ref h2, h0_52, h0_53, h0_54, h0_55, h0_56, h0_57, h0_58, h0_59, h0_60, h0_61, h0_62, h0_63, h0_64, h0_65, h0_66, h0_67, h0_68, h0_69])), (h1, .inl (ch1, 12, .inl fh1)), (h2, .inl (ch2, 12, .inl fh2))] sz) := by
  refine Met.ofW (cc := cX12_rules) (maxL := 3) (ret := (some .int)) (by decide) rfl ?_
  intro p e s m args below meth c s₁ B hml hv
  obtain ⟨rfl, hsz, hP, hK, hD0⟩ := hv
  have hx := B.exec
  have hb := B.bytes
  have hr := B.returns
  have hts := atoms_spec (ws := u_c_X12_rules) B.pre
  have hown : s.vm.findClass RX12 = some m.cls := findClass_of_methodNamed B.named
  have hlocks := B.notSynchronized
  subst hsz
  have hD := hD0.self (sz := s.heap.size)
  generalize hAe : va_A [(h0, .inr (12, [h0_0, .int 0, h0_2, h0_3, h0_4, h0_5, h0_6, h0_7, h0_8, h0_9, h0_10, h0_11, h0_12, h0_13, h0_14, h0_15, h0_16, h0_17, h0_18, h0_19, h0_20, h0_21, h0_22, h0_23, h0_24, h0_25, h0_26, h0_27, h0_28, h0_29, h0_30, h0_31, h0_32, h0_33, h0_34, h0_35, h0_36, h0_37, h0_38, h0_39, h0_40, h0_41, h0_42, h0_43, h0_44, h0_45, h0_46, h0_47, h0_48, h0_49, .ref h1, .ref h2, h0_52, h0_53, h0_54, h0_55, h0_56, h0_57, h0_58, h0_59, h0_60, h0_61, h0_62, h0_63, h0_64, h0_65, h0_66, h0_67, h0_68, h0_69])), (h1, .inl (ch1, 12, .inl fh1)), (h2, .inl (ch2, 12, .inl fh2))] s.heap.size = A at hD ⊢
  have hA : ∀ q : Nat, s.heap.size ≤ q → A q := fun q h => by rw [← hAe]; exact Or.inr h
  have hS : va_S A s.heap s.heap [] := va_S.rf
  have hP : va_P (dC, dI) vwCl [(h0, .inr (12, [h0_0, .int 0, h0_2, h0_3, h0_4, h0_5, h0_6, h0_7, h0_8, h0_9, h0_10, h0_11, h0_12, h0_13, h0_14, h0_15, h0_16, h0_17, h0_18, h0_19, h0_20, h0_21, h0_22, h0_23, h0_24, h0_25, h0_26, h0_27, h0_28, h0_29, h0_30, h0_31, h0_32, h0_33, h0_34, h0_35, h0_36, h0_37, h0_38, h0_39, h0_40, h0_41, h0_42, h0_43, h0_44, h0_45, h0_46, h0_47, h0_48, h0_49, .ref h1, .ref h2, h0_52, h0_53, h0_54, h0_55, h0_56, h0_57, h0_58, h0_59, h0_60, h0_61, h0_62, h0_63, h0_64, h0_65, h0_66, h0_67, h0_68, h0_69])), (h1, .inl (ch1, 12, .inl fh1)), (h2, .inl (ch2, 12, .inl fh2))] s.heap := hP
  have w__fieldLink_RX12_145_ShellHeapModel_thrown_I_ := hts (.fieldLink RX12 145 "ShellHeapModel" "thrown" "I") (by decide +kernel)
  have hiX12 := show ∀ w ∈ u_ws RX12 TX12 70, w ∈ u_c_X12_rules by decide +kernel
  have w__fieldLink_RX12_148_ShellHeapModel_tapeSize_I_ := hts (.fieldLink RX12 148 "ShellHeapModel" "tapeSize" "I") (by decide +kernel)
  have w__fieldLink_RX12_378_ShellHeapModel_causesRead_I_ := hts (.fieldLink RX12 378 "ShellHeapModel" "causesRead" "I") (by decide +kernel)
  have w__fieldLink_RX12_317_ShellHeapModel_knotsRead_I_ := hts (.fieldLink RX12 317 "ShellHeapModel" "knotsRead" "I") (by decide +kernel)
  have w__fieldLink_RX12_320_ShellHeapModel_orderMany_I_ := hts (.fieldLink RX12 320 "ShellHeapModel" "orderMany" "I") (by decide +kernel)
  have w__fieldLink_RX12_221_ShellHeapModel_kindNow_I_ := hts (.fieldLink RX12 221 "ShellHeapModel" "kindNow" "I") (by decide +kernel)
  have w__fieldLink_RX12_390_ShellHeapModel_causes_I_ := hts (.fieldLink RX12 390 "ShellHeapModel" "causes" "I") (by decide +kernel)
  have w__fieldLink_RX12_393_ShellHeapModel_knots_I_ := hts (.fieldLink RX12 393 "ShellHeapModel" "knots" "I") (by decide +kernel)
  have w__fieldLink_RX12_105_ShellHeapModel_causeFirst_I_ := hts (.fieldLink RX12 105 "ShellHeapModel" "causeFirst" "[I") (by decide +kernel)
  have w__fieldLink_RX12_108_ShellHeapModel_causeMany_I_ := hts (.fieldLink RX12 108 "ShellHeapModel" "causeMany" "[I") (by decide +kernel)
  have hl := lv_entry ([.ref h0, .int p1]) (n := 3) (Nat.le_of_ble_eq_true rfl)
  rw [lg_entry_eq]
  generalize (lg_sl ([.ref h0, .int p1]) ++ List.replicate (3 - (lg_sl ([.ref h0, .int p1])).length) Slot.unset).toArray = ls at hl ⊢
  have hl : lv_has ls 3 [(0, .ref h0), (1, .int p1)] := hl
  refine lv_aload_n hx hb dX12_rules_0 rfl (lv_at hl 0 rfl) ?_
  refine lv_iconst (v := 0) hx hb dX12_rules_1 (by decide) ?_
  refine va_put (D := (dC, dI)) (ci := 12) (v := .int 0) (ty := .int) (C := RX12) (T := TX12) (N := 70) hx hb hts hiX12 tyX12 tyX12_ok nmX12 hown hK hP hD hS 0 rfl rfl 2 (by decide) w__fieldLink_RX12_145_ShellHeapModel_thrown_I_ (fun _ h9 => h9) rfl (by decide +kernel) rfl rfl (Nat.le_of_ble_eq_true rfl) dX12_rules_2 (fun H_1 locs hP hD hS => ?_)
  have hP : va_P (dC, dI) vwCl [(h0, .inr (12, [h0_0, .int 0, .int 0, h0_3, h0_4, h0_5, h0_6, h0_7, h0_8, h0_9, h0_10, h0_11, h0_12, h0_13, h0_14, h0_15, h0_16, h0_17, h0_18, h0_19, h0_20, h0_21, h0_22, h0_23, h0_24, h0_25, h0_26, h0_27, h0_28, h0_29, h0_30, h0_31, h0_32, h0_33, h0_34, h0_35, h0_36, h0_37, h0_38, h0_39, h0_40, h0_41, h0_42, h0_43, h0_44, h0_45, h0_46, h0_47, h0_48, h0_49, .ref h1, .ref h2, h0_52, h0_53, h0_54, h0_55, h0_56, h0_57, h0_58, h0_59, h0_60, h0_61, h0_62, h0_63, h0_64, h0_65, h0_66, h0_67, h0_68, h0_69])), (h1, .inl (ch1, 12, .inl fh1)), (h2, .inl (ch2, 12, .inl fh2))] H_1 := hP
  have hD : va_D A [(h0, .inr (12, [h0_0, .int 0, .int 0, h0_3, h0_4, h0_5, h0_6, h0_7, h0_8, h0_9, h0_10, h0_11, h0_12, h0_13, h0_14, h0_15, h0_16, h0_17, h0_18, h0_19, h0_20, h0_21, h0_22, h0_23, h0_24, h0_25, h0_26, h0_27, h0_28, h0_29, h0_30, h0_31, h0_32, h0_33, h0_34, h0_35, h0_36, h0_37, h0_38, h0_39, h0_40, h0_41, h0_42, h0_43, h0_44, h0_45, h0_46, h0_47, h0_48, h0_49, .ref h1, .ref h2, h0_52, h0_53, h0_54, h0_55, h0_56, h0_57, h0_58, h0_59, h0_60, h0_61, h0_62, h0_63, h0_64, h0_65, h0_66, h0_67, h0_68, h0_69])), (h1, .inl (ch1, 12, .inl fh1)), (h2, .inl (ch2, 12, .inl fh2))] := hD
  refine lv_iload_n hx hb dX12_rules_5 rfl (lv_at hl 1 rfl) ?_
  refine lv_if_lt (tgt := 17) hx hb dX12_rules_6 (by decide) (fun c_2 => ?_) (fun c_2 => ?_)
  · have k_3 : (p1).toInt < (0 : Int) := z_lt c_2
    refine lv_bipush (v := (-2)) hx hb dX12_rules_17 (by decide) ?_
    refine W.widen (k := 0) (n := 0) (Nat.le_of_ble_eq_true rfl) (Nat.le_of_ble_eq_true rfl) ?_
    exact W.iret (v := (-2)) hx hb hr (fun t ht hW => ⟨⟨(-2), (), rfl, (by first | (unfold v_rules; rw [if_pos (by omega)]) | (unfold v_rules; rw [if_neg (by omega)]) | decide), trivial⟩, hS.F ht⟩) hS.2.2 dX12_rules_19
  · have k_4 : (p1).toInt ≥ (0 : Int) := z_nlt c_2
    refine lv_iload_n hx hb dX12_rules_9 rfl (lv_at hl 1 rfl) ?_
    refine lv_aload_n hx hb dX12_rules_10 rfl (lv_at hl 0 rfl) ?_
    refine va_get (D := (dC, dI)) (ci := 12) (v := .int 0) (C := RX12) (T := TX12) (N := 70) hx hb hts hiX12 hown hK hP 0 rfl rfl 1 (by decide) w__fieldLink_RX12_148_ShellHeapModel_tapeSize_I_ (fun _ h9 => h9) rfl dX12_rules_11 ?_
    refine lv_icmp_le (tgt := 20) hx hb dX12_rules_14 (by decide) (fun c_5 => ?_) (fun c_5 => ?_)
    · have k_6 : (p1).toInt ≤ (0 : Int) := z_le c_5
      obtain rfl : p1 = 0 := z_eq' (show (p1).toInt = (0 : Int) by omega)
      refine lv_aload_n hx hb dX12_rules_20 rfl (lv_at hl 0 rfl) ?_
      refine lv_iload_n hx hb dX12_rules_21 rfl (lv_at hl 1 rfl) ?_
      refine lv_iconst (v := 0) hx hb dX12_rules_22 (by decide) ?_
      have hPc := hP.sub (ws' := [(h0, .inr (12, [h0_0, .int 0, .int 0, h0_3, h0_4, h0_5, h0_6, h0_7, h0_8, h0_9, h0_10, h0_11, h0_12, h0_13, h0_14, h0_15, h0_16, h0_17, h0_18, h0_19, h0_20, h0_21, h0_22, h0_23, h0_24, h0_25, h0_26, h0_27, h0_28, h0_29, h0_30, h0_31, h0_32, h0_33, h0_34, h0_35, h0_36, h0_37, h0_38, h0_39, h0_40, h0_41, h0_42, h0_43, h0_44, h0_45, h0_46, h0_47, h0_48, h0_49, .ref h1, .ref h2, h0_52, h0_53, h0_54, h0_55, h0_56, h0_57, h0_58, h0_59, h0_60, h0_61, h0_62, h0_63, h0_64, h0_65, h0_66, h0_67, h0_68, h0_69]))]) [0] rfl
      have hDc := hD.sub (ws' := [(h0, .inr (12, [h0_0, .int 0, .int 0, h0_3, h0_4, h0_5, h0_6, h0_7, h0_8, h0_9, h0_10, h0_11, h0_12, h0_13, h0_14, h0_15, h0_16, h0_17, h0_18, h0_19, h0_20, h0_21, h0_22, h0_23, h0_24, h0_25, h0_26, h0_27, h0_28, h0_29, h0_30, h0_31, h0_32, h0_33, h0_34, h0_35, h0_36, h0_37, h0_38, h0_39, h0_40, h0_41, h0_42, h0_43, h0_44, h0_45, h0_46, h0_47, h0_48, h0_49, .ref h1, .ref h2, h0_52, h0_53, h0_54, h0_55, h0_56, h0_57, h0_58, h0_59, h0_60, h0_61, h0_62, h0_63, h0_64, h0_65, h0_66, h0_67, h0_68, h0_69]))]) [0] (by decide) rfl
      have hKc := hK.sub (tys' := []) [] rfl
      have hFc := va_free (wc := [(h0, .inr (12, [h0_0, .int 0, .int 0, h0_3, h0_4, h0_5, h0_6, h0_7, h0_8, h0_9, h0_10, h0_11, h0_12, h0_13, h0_14, h0_15, h0_16, h0_17, h0_18, h0_19, h0_20, h0_21, h0_22, h0_23, h0_24, h0_25, h0_26, h0_27, h0_28, h0_29, h0_30, h0_31, h0_32, h0_33, h0_34, h0_35, h0_36, h0_37, h0_38, h0_39, h0_40, h0_41, h0_42, h0_43, h0_44, h0_45, h0_46, h0_47, h0_48, h0_49, .ref h1, .ref h2, h0_52, h0_53, h0_54, h0_55, h0_56, h0_57, h0_58, h0_59, h0_60, h0_61, h0_62, h0_63, h0_64, h0_65, h0_66, h0_67, h0_68, h0_69]))]) hD hS hA [0] rfl
      refine va_callv (va_runV (As := [.int 0, .int 0]) (rest := []) ⟨hx, hb, hml, hown, hts⟩ (c_X12_begins l dC dI H_1.size h0 h0_0 (.int 0) (.int 0) h0_3 h0_4 h0_5 h0_6 h0_7 h0_8 h0_9 h0_10 h0_11 h0_12 h0_13 h0_14 h0_15 h0_16 h0_17 h0_18 h0_19 h0_20 h0_21 h0_22 h0_23 h0_24 h0_25 h0_26 h0_27 h0_28 h0_29 h0_30 h0_31 h0_32 h0_33 h0_34 h0_35 h0_36 h0_37 h0_38 h0_39 h0_40 h0_41 h0_42 h0_43 h0_44 h0_45 h0_46 h0_47 h0_48 h0_49 (.ref h1) (.ref h2) h0_52 h0_53 h0_54 h0_55 h0_56 h0_57 h0_58 h0_59 h0_60 h0_61 h0_62 h0_63 h0_64 h0_65 h0_66 h0_67 h0_68 h0_69) (cwV 2 hts gw_c_X12_rules_c_X12_begins_250 rfl rfl rfl (by decide +kernel) ⟨Nat.le_of_ble_eq_true rfl, Nat.le_of_ble_eq_true rfl⟩) ⟨z_blind, va_recv hKc hPc (ci := 12) (q0 := 0) rfl rfl, z_pre hPc hKc hDc⟩ rfl rfl hl.1 rfl (lv_room (Nat.le_of_ble_eq_true rfl)) dX12_rules_23 ⟨Nat.le_of_ble_eq_true rfl, Nat.le_of_ble_eq_true rfl⟩) hS (fun q _ h => hFc q h) hFc (fun u t H_7 locs ht hvm hw_9 hB hz1 hk1 hS => ?_)
      obtain ⟨hP1, hK1, hD1⟩ := hB
      rw [ht] at hP1
      have hK1 := va_K.moved hvm.symm hK1
      obtain ⟨hP, hD⟩ := va_join (wr := [(h1, .inl (ch1, 12, .inl fh1)), (h2, .inl (ch2, 12, .inl fh2))]) (w1 := [(h0, .inr (12, [h0_0, .int 0, .int 0, h0_3, h0_4, h0_5, h0_6, h0_7, h0_8, h0_9, h0_10, h0_11, h0_12, h0_13, h0_14, h0_15, h0_16, h0_17, h0_18, h0_19, h0_20, h0_21, h0_22, h0_23, h0_24, h0_25, h0_26, h0_27, .int 0, .int (-1), .int 0, .int 0, .int 0, h0_33, .int 0, h0_35, h0_36, h0_37, h0_38, h0_39, h0_40, h0_41, h0_42, h0_43, h0_44, h0_45, h0_46, h0_47, h0_48, h0_49, .ref h1, .ref h2, h0_52, h0_53, h0_54, h0_55, h0_56, h0_57, h0_58, h0_59, h0_60, h0_61, h0_62, h0_63, h0_64, h0_65, h0_66, h0_67, h0_68, h0_69]))]) hP hD [0] [1, 2] rfl rfl (by decide) (by decide) hk1 hFc hP1 hD1
      have hP : va_P (dC, dI) vwCl [(h1, .inl (ch1, 12, .inl fh1)), (h2, .inl (ch2, 12, .inl fh2)), (h0, .inr (12, [h0_0, .int 0, .int 0, h0_3, h0_4, h0_5, h0_6, h0_7, h0_8, h0_9, h0_10, h0_11, h0_12, h0_13, h0_14, h0_15, h0_16, h0_17, h0_18, h0_19, h0_20, h0_21, h0_22, h0_23, h0_24, h0_25, h0_26, h0_27, .int 0, .int (-1), .int 0, .int 0, .int 0, h0_33, .int 0, h0_35, h0_36, h0_37, h0_38, h0_39, h0_40, h0_41, h0_42, h0_43, h0_44, h0_45, h0_46, h0_47, h0_48, h0_49, .ref h1, .ref h2, h0_52, h0_53, h0_54, h0_55, h0_56, h0_57, h0_58, h0_59, h0_60, h0_61, h0_62, h0_63, h0_64, h0_65, h0_66, h0_67, h0_68, h0_69]))] H_7 := hP
      have hD : va_D A [(h1, .inl (ch1, 12, .inl fh1)), (h2, .inl (ch2, 12, .inl fh2)), (h0, .inr (12, [h0_0, .int 0, .int 0, h0_3, h0_4, h0_5, h0_6, h0_7, h0_8, h0_9, h0_10, h0_11, h0_12, h0_13, h0_14, h0_15, h0_16, h0_17, h0_18, h0_19, h0_20, h0_21, h0_22, h0_23, h0_24, h0_25, h0_26, h0_27, .int 0, .int (-1), .int 0, .int 0, .int 0, h0_33, .int 0, h0_35, h0_36, h0_37, h0_38, h0_39, h0_40, h0_41, h0_42, h0_43, h0_44, h0_45, h0_46, h0_47, h0_48, h0_49, .ref h1, .ref h2, h0_52, h0_53, h0_54, h0_55, h0_56, h0_57, h0_58, h0_59, h0_60, h0_61, h0_62, h0_63, h0_64, h0_65, h0_66, h0_67, h0_68, h0_69]))] := hD
      clear hPc hDc hKc
      refine lv_aload_n hx hb dX12_rules_26 rfl (lv_at hl 0 rfl) ?_
      refine lv_iconst (v := 0) hx hb dX12_rules_27 (by decide) ?_
      refine va_put (D := (dC, dI)) (ci := 12) (v := .int 0) (ty := .int) (C := RX12) (T := TX12) (N := 70) hx hb hts hiX12 tyX12 tyX12_ok nmX12 hown hK hP hD hS 2 rfl rfl 45 (by decide) w__fieldLink_RX12_378_ShellHeapModel_causesRead_I_ (fun _ h9 => h9) rfl (by decide +kernel) rfl rfl (Nat.le_of_ble_eq_true rfl) dX12_rules_28 (fun H_10 locs hP hD hS => ?_)
      have hP : va_P (dC, dI) vwCl [(h1, .inl (ch1, 12, .inl fh1)), (h2, .inl (ch2, 12, .inl fh2)), (h0, .inr (12, [h0_0, .int 0, .int 0, h0_3, h0_4, h0_5, h0_6, h0_7, h0_8, h0_9, h0_10, h0_11, h0_12, h0_13, h0_14, h0_15, h0_16, h0_17, h0_18, h0_19, h0_20, h0_21, h0_22, h0_23, h0_24, h0_25, h0_26, h0_27, .int 0, .int (-1), .int 0, .int 0, .int 0, h0_33, .int 0, h0_35, h0_36, h0_37, h0_38, h0_39, h0_40, h0_41, h0_42, h0_43, h0_44, .int 0, h0_46, h0_47, h0_48, h0_49, .ref h1, .ref h2, h0_52, h0_53, h0_54, h0_55, h0_56, h0_57, h0_58, h0_59, h0_60, h0_61, h0_62, h0_63, h0_64, h0_65, h0_66, h0_67, h0_68, h0_69]))] H_10 := hP
      have hD : va_D A [(h1, .inl (ch1, 12, .inl fh1)), (h2, .inl (ch2, 12, .inl fh2)), (h0, .inr (12, [h0_0, .int 0, .int 0, h0_3, h0_4, h0_5, h0_6, h0_7, h0_8, h0_9, h0_10, h0_11, h0_12, h0_13, h0_14, h0_15, h0_16, h0_17, h0_18, h0_19, h0_20, h0_21, h0_22, h0_23, h0_24, h0_25, h0_26, h0_27, .int 0, .int (-1), .int 0, .int 0, .int 0, h0_33, .int 0, h0_35, h0_36, h0_37, h0_38, h0_39, h0_40, h0_41, h0_42, h0_43, h0_44, .int 0, h0_46, h0_47, h0_48, h0_49, .ref h1, .ref h2, h0_52, h0_53, h0_54, h0_55, h0_56, h0_57, h0_58, h0_59, h0_60, h0_61, h0_62, h0_63, h0_64, h0_65, h0_66, h0_67, h0_68, h0_69]))] := hD
      refine lv_aload_n hx hb dX12_rules_31 rfl (lv_at hl 0 rfl) ?_
      refine lv_iconst (v := 0) hx hb dX12_rules_32 (by decide) ?_
      refine va_put (D := (dC, dI)) (ci := 12) (v := .int 0) (ty := .int) (C := RX12) (T := TX12) (N := 70) hx hb hts hiX12 tyX12 tyX12_ok nmX12 hown hK hP hD hS 2 rfl rfl 47 (by decide) w__fieldLink_RX12_317_ShellHeapModel_knotsRead_I_ (fun _ h9 => h9) rfl (by decide +kernel) rfl rfl (Nat.le_of_ble_eq_true rfl) dX12_rules_33 (fun H_11 locs hP hD hS => ?_)
      have hP : va_P (dC, dI) vwCl [(h1, .inl (ch1, 12, .inl fh1)), (h2, .inl (ch2, 12, .inl fh2)), (h0, .inr (12, [h0_0, .int 0, .int 0, h0_3, h0_4, h0_5, h0_6, h0_7, h0_8, h0_9, h0_10, h0_11, h0_12, h0_13, h0_14, h0_15, h0_16, h0_17, h0_18, h0_19, h0_20, h0_21, h0_22, h0_23, h0_24, h0_25, h0_26, h0_27, .int 0, .int (-1), .int 0, .int 0, .int 0, h0_33, .int 0, h0_35, h0_36, h0_37, h0_38, h0_39, h0_40, h0_41, h0_42, h0_43, h0_44, .int 0, h0_46, .int 0, h0_48, h0_49, .ref h1, .ref h2, h0_52, h0_53, h0_54, h0_55, h0_56, h0_57, h0_58, h0_59, h0_60, h0_61, h0_62, h0_63, h0_64, h0_65, h0_66, h0_67, h0_68, h0_69]))] H_11 := hP
      have hD : va_D A [(h1, .inl (ch1, 12, .inl fh1)), (h2, .inl (ch2, 12, .inl fh2)), (h0, .inr (12, [h0_0, .int 0, .int 0, h0_3, h0_4, h0_5, h0_6, h0_7, h0_8, h0_9, h0_10, h0_11, h0_12, h0_13, h0_14, h0_15, h0_16, h0_17, h0_18, h0_19, h0_20, h0_21, h0_22, h0_23, h0_24, h0_25, h0_26, h0_27, .int 0, .int (-1), .int 0, .int 0, .int 0, h0_33, .int 0, h0_35, h0_36, h0_37, h0_38, h0_39, h0_40, h0_41, h0_42, h0_43, h0_44, .int 0, h0_46, .int 0, h0_48, h0_49, .ref h1, .ref h2, h0_52, h0_53, h0_54, h0_55, h0_56, h0_57, h0_58, h0_59, h0_60, h0_61, h0_62, h0_63, h0_64, h0_65, h0_66, h0_67, h0_68, h0_69]))] := hD
      refine lv_aload_n hx hb dX12_rules_36 rfl (lv_at hl 0 rfl) ?_
      refine lv_iconst (v := 0) hx hb dX12_rules_37 (by decide) ?_
      refine va_put (D := (dC, dI)) (ci := 12) (v := .int 0) (ty := .int) (C := RX12) (T := TX12) (N := 70) hx hb hts hiX12 tyX12 tyX12_ok nmX12 hown hK hP hD hS 2 rfl rfl 58 (by decide) w__fieldLink_RX12_320_ShellHeapModel_orderMany_I_ (fun _ h9 => h9) rfl (by decide +kernel) rfl rfl (Nat.le_of_ble_eq_true rfl) dX12_rules_38 (fun H_12 locs hP hD hS => ?_)
      have hP : va_P (dC, dI) vwCl [(h1, .inl (ch1, 12, .inl fh1)), (h2, .inl (ch2, 12, .inl fh2)), (h0, .inr (12, [h0_0, .int 0, .int 0, h0_3, h0_4, h0_5, h0_6, h0_7, h0_8, h0_9, h0_10, h0_11, h0_12, h0_13, h0_14, h0_15, h0_16, h0_17, h0_18, h0_19, h0_20, h0_21, h0_22, h0_23, h0_24, h0_25, h0_26, h0_27, .int 0, .int (-1), .int 0, .int 0, .int 0, h0_33, .int 0, h0_35, h0_36, h0_37, h0_38, h0_39, h0_40, h0_41, h0_42, h0_43, h0_44, .int 0, h0_46, .int 0, h0_48, h0_49, .ref h1, .ref h2, h0_52, h0_53, h0_54, h0_55, h0_56, h0_57, .int 0, h0_59, h0_60, h0_61, h0_62, h0_63, h0_64, h0_65, h0_66, h0_67, h0_68, h0_69]))] H_12 := hP
      have hD : va_D A [(h1, .inl (ch1, 12, .inl fh1)), (h2, .inl (ch2, 12, .inl fh2)), (h0, .inr (12, [h0_0, .int 0, .int 0, h0_3, h0_4, h0_5, h0_6, h0_7, h0_8, h0_9, h0_10, h0_11, h0_12, h0_13, h0_14, h0_15, h0_16, h0_17, h0_18, h0_19, h0_20, h0_21, h0_22, h0_23, h0_24, h0_25, h0_26, h0_27, .int 0, .int (-1), .int 0, .int 0, .int 0, h0_33, .int 0, h0_35, h0_36, h0_37, h0_38, h0_39, h0_40, h0_41, h0_42, h0_43, h0_44, .int 0, h0_46, .int 0, h0_48, h0_49, .ref h1, .ref h2, h0_52, h0_53, h0_54, h0_55, h0_56, h0_57, .int 0, h0_59, h0_60, h0_61, h0_62, h0_63, h0_64, h0_65, h0_66, h0_67, h0_68, h0_69]))] := hD
      refine lv_aload_n hx hb dX12_rules_41 rfl (lv_at hl 0 rfl) ?_
      refine va_get (D := (dC, dI)) (ci := 12) (v := .int 0) (C := RX12) (T := TX12) (N := 70) hx hb hts hiX12 hown hK hP 2 rfl rfl 32 (by decide) w__fieldLink_RX12_221_ShellHeapModel_kindNow_I_ (fun _ h9 => h9) rfl dX12_rules_42 ?_
      refine lv_if_eq (tgt := 57) hx hb dX12_rules_45 (by decide) (fun _ => ?_) (fun c_13 => absurd (by decide) c_13)
      refine lv_aload_n hx hb dX12_rules_57 rfl (lv_at hl 0 rfl) ?_
      refine lv_aload_n hx hb dX12_rules_58 rfl (lv_at hl 0 rfl) ?_
      refine va_get (D := (dC, dI)) (ci := 12) (v := .int 0) (C := RX12) (T := TX12) (N := 70) hx hb hts hiX12 hown hK hP 2 rfl rfl 45 (by decide) w__fieldLink_RX12_378_ShellHeapModel_causesRead_I_ (fun _ h9 => h9) rfl dX12_rules_59 ?_
      refine va_put (D := (dC, dI)) (ci := 12) (v := .int 0) (ty := .int) (C := RX12) (T := TX12) (N := 70) hx hb hts hiX12 tyX12 tyX12_ok nmX12 hown hK hP hD hS 2 rfl rfl 44 (by decide) w__fieldLink_RX12_390_ShellHeapModel_causes_I_ (fun _ h9 => h9) rfl (by decide +kernel) rfl rfl (Nat.le_of_ble_eq_true rfl) dX12_rules_62 (fun H_14 locs hP hD hS => ?_)
      have hP : va_P (dC, dI) vwCl [(h1, .inl (ch1, 12, .inl fh1)), (h2, .inl (ch2, 12, .inl fh2)), (h0, .inr (12, [h0_0, .int 0, .int 0, h0_3, h0_4, h0_5, h0_6, h0_7, h0_8, h0_9, h0_10, h0_11, h0_12, h0_13, h0_14, h0_15, h0_16, h0_17, h0_18, h0_19, h0_20, h0_21, h0_22, h0_23, h0_24, h0_25, h0_26, h0_27, .int 0, .int (-1), .int 0, .int 0, .int 0, h0_33, .int 0, h0_35, h0_36, h0_37, h0_38, h0_39, h0_40, h0_41, h0_42, h0_43, .int 0, .int 0, h0_46, .int 0, h0_48, h0_49, .ref h1, .ref h2, h0_52, h0_53, h0_54, h0_55, h0_56, h0_57, .int 0, h0_59, h0_60, h0_61, h0_62, h0_63, h0_64, h0_65, h0_66, h0_67, h0_68, h0_69]))] H_14 := hP
      have hD : va_D A [(h1, .inl (ch1, 12, .inl fh1)), (h2, .inl (ch2, 12, .inl fh2)), (h0, .inr (12, [h0_0, .int 0, .int 0, h0_3, h0_4, h0_5, h0_6, h0_7, h0_8, h0_9, h0_10, h0_11, h0_12, h0_13, h0_14, h0_15, h0_16, h0_17, h0_18, h0_19, h0_20, h0_21, h0_22, h0_23, h0_24, h0_25, h0_26, h0_27, .int 0, .int (-1), .int 0, .int 0, .int 0, h0_33, .int 0, h0_35, h0_36, h0_37, h0_38, h0_39, h0_40, h0_41, h0_42, h0_43, .int 0, .int 0, h0_46, .int 0, h0_48, h0_49, .ref h1, .ref h2, h0_52, h0_53, h0_54, h0_55, h0_56, h0_57, .int 0, h0_59, h0_60, h0_61, h0_62, h0_63, h0_64, h0_65, h0_66, h0_67, h0_68, h0_69]))] := hD
      refine lv_aload_n hx hb dX12_rules_65 rfl (lv_at hl 0 rfl) ?_
      refine lv_aload_n hx hb dX12_rules_66 rfl (lv_at hl 0 rfl) ?_
      refine va_get (D := (dC, dI)) (ci := 12) (v := .int 0) (C := RX12) (T := TX12) (N := 70) hx hb hts hiX12 hown hK hP 2 rfl rfl 47 (by decide) w__fieldLink_RX12_317_ShellHeapModel_knotsRead_I_ (fun _ h9 => h9) rfl dX12_rules_67 ?_
      refine va_put (D := (dC, dI)) (ci := 12) (v := .int 0) (ty := .int) (C := RX12) (T := TX12) (N := 70) hx hb hts hiX12 tyX12 tyX12_ok nmX12 hown hK hP hD hS 2 rfl rfl 46 (by decide) w__fieldLink_RX12_393_ShellHeapModel_knots_I_ (fun _ h9 => h9) rfl (by decide +kernel) rfl rfl (Nat.le_of_ble_eq_true rfl) dX12_rules_70 (fun H_15 locs hP hD hS => ?_)
      have hP : va_P (dC, dI) vwCl [(h1, .inl (ch1, 12, .inl fh1)), (h2, .inl (ch2, 12, .inl fh2)), (h0, .inr (12, [h0_0, .int 0, .int 0, h0_3, h0_4, h0_5, h0_6, h0_7, h0_8, h0_9, h0_10, h0_11, h0_12, h0_13, h0_14, h0_15, h0_16, h0_17, h0_18, h0_19, h0_20, h0_21, h0_22, h0_23, h0_24, h0_25, h0_26, h0_27, .int 0, .int (-1), .int 0, .int 0, .int 0, h0_33, .int 0, h0_35, h0_36, h0_37, h0_38, h0_39, h0_40, h0_41, h0_42, h0_43, .int 0, .int 0, .int 0, .int 0, h0_48, h0_49, .ref h1, .ref h2, h0_52, h0_53, h0_54, h0_55, h0_56, h0_57, .int 0, h0_59, h0_60, h0_61, h0_62, h0_63, h0_64, h0_65, h0_66, h0_67, h0_68, h0_69]))] H_15 := hP
      have hD : va_D A [(h1, .inl (ch1, 12, .inl fh1)), (h2, .inl (ch2, 12, .inl fh2)), (h0, .inr (12, [h0_0, .int 0, .int 0, h0_3, h0_4, h0_5, h0_6, h0_7, h0_8, h0_9, h0_10, h0_11, h0_12, h0_13, h0_14, h0_15, h0_16, h0_17, h0_18, h0_19, h0_20, h0_21, h0_22, h0_23, h0_24, h0_25, h0_26, h0_27, .int 0, .int (-1), .int 0, .int 0, .int 0, h0_33, .int 0, h0_35, h0_36, h0_37, h0_38, h0_39, h0_40, h0_41, h0_42, h0_43, .int 0, .int 0, .int 0, .int 0, h0_48, h0_49, .ref h1, .ref h2, h0_52, h0_53, h0_54, h0_55, h0_56, h0_57, .int 0, h0_59, h0_60, h0_61, h0_62, h0_63, h0_64, h0_65, h0_66, h0_67, h0_68, h0_69]))] := hD
      refine lv_iconst (v := 0) hx hb dX12_rules_73 (by decide) ?_
      refine lv_istore_n (lv' := [(2, .int 0), (0, .ref h0), (1, .int 0)]) hx hb dX12_rules_74 rfl hl (by decide) rfl (fun ls hl => ?_)
      refine lv_iload_n hx hb dX12_rules_75 rfl (lv_at hl 0 rfl) ?_
      refine lv_bipush (v := 6) hx hb dX12_rules_76 (by decide) ?_
      refine lv_icmp_ge (tgt := 117) hx hb dX12_rules_78 (by decide) (fun c_16 => absurd c_16 (by decide)) (fun _ => ?_)
      refine lv_aload_n hx hb dX12_rules_81 rfl (lv_at hl 1 rfl) ?_
      refine va_get (D := (dC, dI)) (ci := 12) (v := .ref h1) (C := RX12) (T := TX12) (N := 70) hx hb hts hiX12 hown hK hP 2 rfl rfl 50 (by decide) w__fieldLink_RX12_105_ShellHeapModel_causeFirst_I_ (fun _ h9 => h9) rfl dX12_rules_82 ?_
      refine lv_iload_n hx hb dX12_rules_85 rfl (lv_at hl 0 rfl) ?_
      refine lv_aload_n hx hb dX12_rules_86 rfl (lv_at hl 1 rfl) ?_
      refine va_get (D := (dC, dI)) (ci := 12) (v := .ref h1) (C := RX12) (T := TX12) (N := 70) hx hb hts hiX12 hown hK hP 2 rfl rfl 50 (by decide) w__fieldLink_RX12_105_ShellHeapModel_causeFirst_I_ (fun _ h9 => h9) rfl dX12_rules_87 ?_
      refine lv_bipush (v := 6) hx hb dX12_rules_90 (by decide) ?_
      refine lv_iload_n hx hb dX12_rules_92 rfl (lv_at hl 0 rfl) ?_
      refine lv_iadd hx hb dX12_rules_93 ?_
      refine lv_topi (fun x_17 e_18 => ?_)
      obtain rfl : x_17 = 6 := e_18.trans (by decide)
      refine va_iald hx hb hK hP 0 0 rfl rfl (by unfold vp_in; decide) dX12_rules_94 ?_
      refine lv_topi (fun x_19 e_20 => ?_)
      refine va_iast hx hb hK hP hD hS 0 0 rfl rfl (by unfold vp_in; decide) dX12_rules_95 (fun H_21 locs hP hD hS => ?_)
      have hP : va_P (dC, dI) vwCl [(h1, .inl (ch1, 12, .inl (upd fh1 (0 : Int32).toNatClampNeg x_19))), (h2, .inl (ch2, 12, .inl fh2)), (h0, .inr (12, [h0_0, .int 0, .int 0, h0_3, h0_4, h0_5, h0_6, h0_7, h0_8, h0_9, h0_10, h0_11, h0_12, h0_13, h0_14, h0_15, h0_16, h0_17, h0_18, h0_19, h0_20, h0_21, h0_22, h0_23, h0_24, h0_25, h0_26, h0_27, .int 0, .int (-1), .int 0, .int 0, .int 0, h0_33, .int 0, h0_35, h0_36, h0_37, h0_38, h0_39, h0_40, h0_41, h0_42, h0_43, .int 0, .int 0, .int 0, .int 0, h0_48, h0_49, .ref h1, .ref h2, h0_52, h0_53, h0_54, h0_55, h0_56, h0_57, .int 0, h0_59, h0_60, h0_61, h0_62, h0_63, h0_64, h0_65, h0_66, h0_67, h0_68, h0_69]))] H_21 := hP
      have hD : va_D A [(h1, .inl (ch1, 12, .inl (upd fh1 (0 : Int32).toNatClampNeg x_19))), (h2, .inl (ch2, 12, .inl fh2)), (h0, .inr (12, [h0_0, .int 0, .int 0, h0_3, h0_4, h0_5, h0_6, h0_7, h0_8, h0_9, h0_10, h0_11, h0_12, h0_13, h0_14, h0_15, h0_16, h0_17, h0_18, h0_19, h0_20, h0_21, h0_22, h0_23, h0_24, h0_25, h0_26, h0_27, .int 0, .int (-1), .int 0, .int 0, .int 0, h0_33, .int 0, h0_35, h0_36, h0_37, h0_38, h0_39, h0_40, h0_41, h0_42, h0_43, .int 0, .int 0, .int 0, .int 0, h0_48, h0_49, .ref h1, .ref h2, h0_52, h0_53, h0_54, h0_55, h0_56, h0_57, .int 0, h0_59, h0_60, h0_61, h0_62, h0_63, h0_64, h0_65, h0_66, h0_67, h0_68, h0_69]))] := hD
      generalize (upd fh1 (0 : Int32).toNatClampNeg x_19) = f_22 at hP hD
      refine lv_aload_n hx hb dX12_rules_96 rfl (lv_at hl 1 rfl) ?_
      refine va_get (D := (dC, dI)) (ci := 12) (v := .ref h2) (C := RX12) (T := TX12) (N := 70) hx hb hts hiX12 hown hK hP 2 rfl rfl 51 (by decide) w__fieldLink_RX12_108_ShellHeapModel_causeMany_I_ (fun _ h9 => h9) rfl dX12_rules_97 ?_
      refine lv_iload_n hx hb dX12_rules_100 rfl (lv_at hl 0 rfl) ?_
      refine lv_aload_n hx hb dX12_rules_101 rfl (lv_at hl 1 rfl) ?_
      refine va_get (D := (dC, dI)) (ci := 12) (v := .ref h2) (C := RX12) (T := TX12) (N := 70) hx hb hts hiX12 hown hK hP 2 rfl rfl 51 (by decide) w__fieldLink_RX12_108_ShellHeapModel_causeMany_I_ (fun _ h9 => h9) rfl dX12_rules_102 ?_
      refine lv_bipush (v := 6) hx hb dX12_rules_105 (by decide) ?_
      refine lv_iload_n hx hb dX12_rules_107 rfl (lv_at hl 0 rfl) ?_
      refine lv_iadd hx hb dX12_rules_108 ?_
      refine lv_topi (fun x_23 e_24 => ?_)
      obtain rfl : x_23 = 6 := e_24.trans (by decide)
      refine va_iald hx hb hK hP 1 1 rfl rfl (by unfold vp_in; decide) dX12_rules_109 ?_
      refine lv_topi (fun x_25 e_26 => ?_)
      refine va_iast hx hb hK hP hD hS 1 1 rfl rfl (by unfold vp_in; decide) dX12_rules_110 (fun H_27 locs hP hD hS => ?_)
      have hP : va_P (dC, dI) vwCl [(h1, .inl (ch1, 12, .inl f_22)), (h2, .inl (ch2, 12, .inl (upd fh2 (0 : Int32).toNatClampNeg x_25))), (h0, .inr (12, [h0_0, .int 0, .int 0, h0_3, h0_4, h0_5, h0_6, h0_7, h0_8, h0_9, h0_10, h0_11, h0_12, h0_13, h0_14, h0_15, h0_16, h0_17, h0_18, h0_19, h0_20, h0_21, h0_22, h0_23, h0_24, h0_25, h0_26, h0_27, .int 0, .int (-1), .int 0, .int 0, .int 0, h0_33, .int 0, h0_35, h0_36, h0_37, h0_38, h0_39, h0_40, h0_41, h0_42, h0_43, .int 0, .int 0, .int 0, .int 0, h0_48, h0_49, .ref h1, .ref h2, h0_52, h0_53, h0_54, h0_55, h0_56, h0_57, .int 0, h0_59, h0_60, h0_61, h0_62, h0_63, h0_64, h0_65, h0_66, h0_67, h0_68, h0_69]))] H_27 := hP
      have hD : va_D A [(h1, .inl (ch1, 12, .inl f_22)), (h2, .inl (ch2, 12, .inl (upd fh2 (0 : Int32).toNatClampNeg x_25))), (h0, .inr (12, [h0_0, .int 0, .int 0, h0_3, h0_4, h0_5, h0_6, h0_7, h0_8, h0_9, h0_10, h0_11, h0_12, h0_13, h0_14, h0_15, h0_16, h0_17, h0_18, h0_19, h0_20, h0_21, h0_22, h0_23, h0_24, h0_25, h0_26, h0_27, .int 0, .int (-1), .int 0, .int 0, .int 0, h0_33, .int 0, h0_35, h0_36, h0_37, h0_38, h0_39, h0_40, h0_41, h0_42, h0_43, .int 0, .int 0, .int 0, .int 0, h0_48, h0_49, .ref h1, .ref h2, h0_52, h0_53, h0_54, h0_55, h0_56, h0_57, .int 0, h0_59, h0_60, h0_61, h0_62, h0_63, h0_64, h0_65, h0_66, h0_67, h0_68, h0_69]))] := hD
      generalize (upd fh2 (0 : Int32).toNatClampNeg x_25) = f_28 at hP hD
      refine lv_iinc (v := 1) (lv' := [(2, .int 1), (0, .ref h0), (1, .int 0)]) hx hb dX12_rules_111 hl (k := 0) rfl (by decide) (by decide) rfl (fun ls hl => ?_)
      refine lv_goto (tgt := 75) hx hb dX12_rules_114 (by decide) ?_
      refine lv_iload_n hx hb dX12_rules_75 rfl (lv_at hl 0 rfl) ?_
      refine lv_bipush (v := 6) hx hb dX12_rules_76 (by decide) ?_
      refine lv_icmp_ge (tgt := 117) hx hb dX12_rules_78 (by decide) (fun c_29 => absurd c_29 (by decide)) (fun _ => ?_)
      refine lv_aload_n hx hb dX12_rules_81 rfl (lv_at hl 1 rfl) ?_
      refine va_get (D := (dC, dI)) (ci := 12) (v := .ref h1) (C := RX12) (T := TX12) (N := 70) hx hb hts hiX12 hown hK hP 2 rfl rfl 50 (by decide) w__fieldLink_RX12_105_ShellHeapModel_causeFirst_I_ (fun _ h9 => h9) rfl dX12_rules_82 ?_
      refine lv_iload_n hx hb dX12_rules_85 rfl (lv_at hl 0 rfl) ?_
      refine lv_aload_n hx hb dX12_rules_86 rfl (lv_at hl 1 rfl) ?_
      refine va_get (D := (dC, dI)) (ci := 12) (v := .ref h1) (C := RX12) (T := TX12) (N := 70) hx hb hts hiX12 hown hK hP 2 rfl rfl 50 (by decide) w__fieldLink_RX12_105_ShellHeapModel_causeFirst_I_ (fun _ h9 => h9) rfl dX12_rules_87 ?_
      refine lv_bipush (v := 6) hx hb dX12_rules_90 (by decide) ?_
      refine lv_iload_n hx hb dX12_rules_92 rfl (lv_at hl 0 rfl) ?_
      refine lv_iadd hx hb dX12_rules_93 ?_
      refine lv_topi (fun x_30 e_31 => ?_)
      obtain rfl : x_30 = 7 := e_31.trans (by decide)
      refine va_iald hx hb hK hP 0 0 rfl rfl (by unfold vp_in; decide) dX12_rules_94 ?_
      refine lv_topi (fun x_32 e_33 => ?_)
      refine va_iast hx hb hK hP hD hS 0 0 rfl rfl (by unfold vp_in; decide) dX12_rules_95 (fun H_34 locs hP hD hS => ?_)
      have hP : va_P (dC, dI) vwCl [(h1, .inl (ch1, 12, .inl (upd f_22 (1 : Int32).toNatClampNeg x_32))), (h2, .inl (ch2, 12, .inl f_28)), (h0, .inr (12, [h0_0, .int 0, .int 0, h0_3, h0_4, h0_5, h0_6, h0_7, h0_8, h0_9, h0_10, h0_11, h0_12, h0_13, h0_14, h0_15, h0_16, h0_17, h0_18, h0_19, h0_20, h0_21, h0_22, h0_23, h0_24, h0_25, h0_26, h0_27, .int 0, .int (-1), .int 0, .int 0, .int 0, h0_33, .int 0, h0_35, h0_36, h0_37, h0_38, h0_39, h0_40, h0_41, h0_42, h0_43, .int 0, .int 0, .int 0, .int 0, h0_48, h0_49, .ref h1, .ref h2, h0_52, h0_53, h0_54, h0_55, h0_56, h0_57, .int 0, h0_59, h0_60, h0_61, h0_62, h0_63, h0_64, h0_65, h0_66, h0_67, h0_68, h0_69]))] H_34 := hP
      have hD : va_D A [(h1, .inl (ch1, 12, .inl (upd f_22 (1 : Int32).toNatClampNeg x_32))), (h2, .inl (ch2, 12, .inl f_28)), (h0, .inr (12, [h0_0, .int 0, .int 0, h0_3, h0_4, h0_5, h0_6, h0_7, h0_8, h0_9, h0_10, h0_11, h0_12, h0_13, h0_14, h0_15, h0_16, h0_17, h0_18, h0_19, h0_20, h0_21, h0_22, h0_23, h0_24, h0_25, h0_26, h0_27, .int 0, .int (-1), .int 0, .int 0, .int 0, h0_33, .int 0, h0_35, h0_36, h0_37, h0_38, h0_39, h0_40, h0_41, h0_42, h0_43, .int 0, .int 0, .int 0, .int 0, h0_48, h0_49, .ref h1, .ref h2, h0_52, h0_53, h0_54, h0_55, h0_56, h0_57, .int 0, h0_59, h0_60, h0_61, h0_62, h0_63, h0_64, h0_65, h0_66, h0_67, h0_68, h0_69]))] := hD
      generalize (upd f_22 (1 : Int32).toNatClampNeg x_32) = f_35 at hP hD
      refine lv_aload_n hx hb dX12_rules_96 rfl (lv_at hl 1 rfl) ?_
      refine va_get (D := (dC, dI)) (ci := 12) (v := .ref h2) (C := RX12) (T := TX12) (N := 70) hx hb hts hiX12 hown hK hP 2 rfl rfl 51 (by decide) w__fieldLink_RX12_108_ShellHeapModel_causeMany_I_ (fun _ h9 => h9) rfl dX12_rules_97 ?_
      refine lv_iload_n hx hb dX12_rules_100 rfl (lv_at hl 0 rfl) ?_
      refine lv_aload_n hx hb dX12_rules_101 rfl (lv_at hl 1 rfl) ?_
      refine va_get (D := (dC, dI)) (ci := 12) (v := .ref h2) (C := RX12) (T := TX12) (N := 70) hx hb hts hiX12 hown hK hP 2 rfl rfl 51 (by decide) w__fieldLink_RX12_108_ShellHeapModel_causeMany_I_ (fun _ h9 => h9) rfl dX12_rules_102 ?_
      refine lv_bipush (v := 6) hx hb dX12_rules_105 (by decide) ?_
      refine lv_iload_n hx hb dX12_rules_107 rfl (lv_at hl 0 rfl) ?_
      refine lv_iadd hx hb dX12_rules_108 ?_
      refine lv_topi (fun x_36 e_37 => ?_)
      obtain rfl : x_36 = 7 := e_37.trans (by decide)
      refine va_iald hx hb hK hP 1 1 rfl rfl (by unfold vp_in; decide) dX12_rules_109 ?_
      refine lv_topi (fun x_38 e_39 => ?_)
      refine va_iast hx hb hK hP hD hS 1 1 rfl rfl (by unfold vp_in; decide) dX12_rules_110 (fun H_40 locs hP hD hS => ?_)
      have hP : va_P (dC, dI) vwCl [(h1, .inl (ch1, 12, .inl f_35)), (h2, .inl (ch2, 12, .inl (upd f_28 (1 : Int32).toNatClampNeg x_38))), (h0, .inr (12, [h0_0, .int 0, .int 0, h0_3, h0_4, h0_5, h0_6, h0_7, h0_8, h0_9, h0_10, h0_11, h0_12, h0_13, h0_14, h0_15, h0_16, h0_17, h0_18, h0_19, h0_20, h0_21, h0_22, h0_23, h0_24, h0_25, h0_26, h0_27, .int 0, .int (-1), .int 0, .int 0, .int 0, h0_33, .int 0, h0_35, h0_36, h0_37, h0_38, h0_39, h0_40, h0_41, h0_42, h0_43, .int 0, .int 0, .int 0, .int 0, h0_48, h0_49, .ref h1, .ref h2, h0_52, h0_53, h0_54, h0_55, h0_56, h0_57, .int 0, h0_59, h0_60, h0_61, h0_62, h0_63, h0_64, h0_65, h0_66, h0_67, h0_68, h0_69]))] H_40 := hP
      have hD : va_D A [(h1, .inl (ch1, 12, .inl f_35)), (h2, .inl (ch2, 12, .inl (upd f_28 (1 : Int32).toNatClampNeg x_38))), (h0, .inr (12, [h0_0, .int 0, .int 0, h0_3, h0_4, h0_5, h0_6, h0_7, h0_8, h0_9, h0_10, h0_11, h0_12, h0_13, h0_14, h0_15, h0_16, h0_17, h0_18, h0_19, h0_20, h0_21, h0_22, h0_23, h0_24, h0_25, h0_26, h0_27, .int 0, .int (-1), .int 0, .int 0, .int 0, h0_33, .int 0, h0_35, h0_36, h0_37, h0_38, h0_39, h0_40, h0_41, h0_42, h0_43, .int 0, .int 0, .int 0, .int 0, h0_48, h0_49, .ref h1, .ref h2, h0_52, h0_53, h0_54, h0_55, h0_56, h0_57, .int 0, h0_59, h0_60, h0_61, h0_62, h0_63, h0_64, h0_65, h0_66, h0_67, h0_68, h0_69]))] := hD
      generalize (upd f_28 (1 : Int32).toNatClampNeg x_38) = f_41 at hP hD
      refine lv_iinc (v := 2) (lv' := [(2, .int 2), (0, .ref h0), (1, .int 0)]) hx hb dX12_rules_111 hl (k := 0) rfl (by decide) (by decide) rfl (fun ls hl => ?_)
      refine lv_goto (tgt := 75) hx hb dX12_rules_114 (by decide) ?_
      refine lv_iload_n hx hb dX12_rules_75 rfl (lv_at hl 0 rfl) ?_
      refine lv_bipush (v := 6) hx hb dX12_rules_76 (by decide) ?_
      refine lv_icmp_ge (tgt := 117) hx hb dX12_rules_78 (by decide) (fun c_42 => absurd c_42 (by decide)) (fun _ => ?_)
      refine lv_aload_n hx hb dX12_rules_81 rfl (lv_at hl 1 rfl) ?_
      refine va_get (D := (dC, dI)) (ci := 12) (v := .ref h1) (C := RX12) (T := TX12) (N := 70) hx hb hts hiX12 hown hK hP 2 rfl rfl 50 (by decide) w__fieldLink_RX12_105_ShellHeapModel_causeFirst_I_ (fun _ h9 => h9) rfl dX12_rules_82 ?_
      refine lv_iload_n hx hb dX12_rules_85 rfl (lv_at hl 0 rfl) ?_
      refine lv_aload_n hx hb dX12_rules_86 rfl (lv_at hl 1 rfl) ?_
      refine va_get (D := (dC, dI)) (ci := 12) (v := .ref h1) (C := RX12) (T := TX12) (N := 70) hx hb hts hiX12 hown hK hP 2 rfl rfl 50 (by decide) w__fieldLink_RX12_105_ShellHeapModel_causeFirst_I_ (fun _ h9 => h9) rfl dX12_rules_87 ?_
      refine lv_bipush (v := 6) hx hb dX12_rules_90 (by decide) ?_
      refine lv_iload_n hx hb dX12_rules_92 rfl (lv_at hl 0 rfl) ?_
      refine lv_iadd hx hb dX12_rules_93 ?_
      refine lv_topi (fun x_43 e_44 => ?_)
      obtain rfl : x_43 = 8 := e_44.trans (by decide)
      refine va_iald hx hb hK hP 0 0 rfl rfl (by unfold vp_in; decide) dX12_rules_94 ?_
      refine lv_topi (fun x_45 e_46 => ?_)
      refine va_iast hx hb hK hP hD hS 0 0 rfl rfl (by unfold vp_in; decide) dX12_rules_95 (fun H_47 locs hP hD hS => ?_)
      have hP : va_P (dC, dI) vwCl [(h1, .inl (ch1, 12, .inl (upd f_35 (2 : Int32).toNatClampNeg x_45))), (h2, .inl (ch2, 12, .inl f_41)), (h0, .inr (12, [h0_0, .int 0, .int 0, h0_3, h0_4, h0_5, h0_6, h0_7, h0_8, h0_9, h0_10, h0_11, h0_12, h0_13, h0_14, h0_15, h0_16, h0_17, h0_18, h0_19, h0_20, h0_21, h0_22, h0_23, h0_24, h0_25, h0_26, h0_27, .int 0, .int (-1), .int 0, .int 0, .int 0, h0_33, .int 0, h0_35, h0_36, h0_37, h0_38, h0_39, h0_40, h0_41, h0_42, h0_43, .int 0, .int 0, .int 0, .int 0, h0_48, h0_49, .ref h1, .ref h2, h0_52, h0_53, h0_54, h0_55, h0_56, h0_57, .int 0, h0_59, h0_60, h0_61, h0_62, h0_63, h0_64, h0_65, h0_66, h0_67, h0_68, h0_69]))] H_47 := hP
      have hD : va_D A [(h1, .inl (ch1, 12, .inl (upd f_35 (2 : Int32).toNatClampNeg x_45))), (h2, .inl (ch2, 12, .inl f_41)), (h0, .inr (12, [h0_0, .int 0, .int 0, h0_3, h0_4, h0_5, h0_6, h0_7, h0_8, h0_9, h0_10, h0_11, h0_12, h0_13, h0_14, h0_15, h0_16, h0_17, h0_18, h0_19, h0_20, h0_21, h0_22, h0_23, h0_24, h0_25, h0_26, h0_27, .int 0, .int (-1), .int 0, .int 0, .int 0, h0_33, .int 0, h0_35, h0_36, h0_37, h0_38, h0_39, h0_40, h0_41, h0_42, h0_43, .int 0, .int 0, .int 0, .int 0, h0_48, h0_49, .ref h1, .ref h2, h0_52, h0_53, h0_54, h0_55, h0_56, h0_57, .int 0, h0_59, h0_60, h0_61, h0_62, h0_63, h0_64, h0_65, h0_66, h0_67, h0_68, h0_69]))] := hD
      generalize (upd f_35 (2 : Int32).toNatClampNeg x_45) = f_48 at hP hD
      refine lv_aload_n hx hb dX12_rules_96 rfl (lv_at hl 1 rfl) ?_
      refine va_get (D := (dC, dI)) (ci := 12) (v := .ref h2) (C := RX12) (T := TX12) (N := 70) hx hb hts hiX12 hown hK hP 2 rfl rfl 51 (by decide) w__fieldLink_RX12_108_ShellHeapModel_causeMany_I_ (fun _ h9 => h9) rfl dX12_rules_97 ?_
      refine lv_iload_n hx hb dX12_rules_100 rfl (lv_at hl 0 rfl) ?_
      refine lv_aload_n hx hb dX12_rules_101 rfl (lv_at hl 1 rfl) ?_
      refine va_get (D := (dC, dI)) (ci := 12) (v := .ref h2) (C := RX12) (T := TX12) (N := 70) hx hb hts hiX12 hown hK hP 2 rfl rfl 51 (by decide) w__fieldLink_RX12_108_ShellHeapModel_causeMany_I_ (fun _ h9 => h9) rfl dX12_rules_102 ?_
      refine lv_bipush (v := 6) hx hb dX12_rules_105 (by decide) ?_
      refine lv_iload_n hx hb dX12_rules_107 rfl (lv_at hl 0 rfl) ?_
      refine lv_iadd hx hb dX12_rules_108 ?_
      refine lv_topi (fun x_49 e_50 => ?_)
      obtain rfl : x_49 = 8 := e_50.trans (by decide)
      refine va_iald hx hb hK hP 1 1 rfl rfl (by unfold vp_in; decide) dX12_rules_109 ?_
      refine lv_topi (fun x_51 e_52 => ?_)
      refine va_iast hx hb hK hP hD hS 1 1 rfl rfl (by unfold vp_in; decide) dX12_rules_110 (fun H_53 locs hP hD hS => ?_)
      have hP : va_P (dC, dI) vwCl [(h1, .inl (ch1, 12, .inl f_48)), (h2, .inl (ch2, 12, .inl (upd f_41 (2 : Int32).toNatClampNeg x_51))), (h0, .inr (12, [h0_0, .int 0, .int 0, h0_3, h0_4, h0_5, h0_6, h0_7, h0_8, h0_9, h0_10, h0_11, h0_12, h0_13, h0_14, h0_15, h0_16, h0_17, h0_18, h0_19, h0_20, h0_21, h0_22, h0_23, h0_24, h0_25, h0_26, h0_27, .int 0, .int (-1), .int 0, .int 0, .int 0, h0_33, .int 0, h0_35, h0_36, h0_37, h0_38, h0_39, h0_40, h0_41, h0_42, h0_43, .int 0, .int 0, .int 0, .int 0, h0_48, h0_49, .ref h1, .ref h2, h0_52, h0_53, h0_54, h0_55, h0_56, h0_57, .int 0, h0_59, h0_60, h0_61, h0_62, h0_63, h0_64, h0_65, h0_66, h0_67, h0_68, h0_69]))] H_53 := hP
      have hD : va_D A [(h1, .inl (ch1, 12, .inl f_48)), (h2, .inl (ch2, 12, .inl (upd f_41 (2 : Int32).toNatClampNeg x_51))), (h0, .inr (12, [h0_0, .int 0, .int 0, h0_3, h0_4, h0_5, h0_6, h0_7, h0_8, h0_9, h0_10, h0_11, h0_12, h0_13, h0_14, h0_15, h0_16, h0_17, h0_18, h0_19, h0_20, h0_21, h0_22, h0_23, h0_24, h0_25, h0_26, h0_27, .int 0, .int (-1), .int 0, .int 0, .int 0, h0_33, .int 0, h0_35, h0_36, h0_37, h0_38, h0_39, h0_40, h0_41, h0_42, h0_43, .int 0, .int 0, .int 0, .int 0, h0_48, h0_49, .ref h1, .ref h2, h0_52, h0_53, h0_54, h0_55, h0_56, h0_57, .int 0, h0_59, h0_60, h0_61, h0_62, h0_63, h0_64, h0_65, h0_66, h0_67, h0_68, h0_69]))] := hD
      generalize (upd f_41 (2 : Int32).toNatClampNeg x_51) = f_54 at hP hD
      refine lv_iinc (v := 3) (lv' := [(2, .int 3), (0, .ref h0), (1, .int 0)]) hx hb dX12_rules_111 hl (k := 0) rfl (by decide) (by decide) rfl (fun ls hl => ?_)
      refine lv_goto (tgt := 75) hx hb dX12_rules_114 (by decide) ?_
      refine lv_iload_n hx hb dX12_rules_75 rfl (lv_at hl 0 rfl) ?_
      refine lv_bipush (v := 6) hx hb dX12_rules_76 (by decide) ?_
      refine lv_icmp_ge (tgt := 117) hx hb dX12_rules_78 (by decide) (fun c_55 => absurd c_55 (by decide)) (fun _ => ?_)
      refine lv_aload_n hx hb dX12_rules_81 rfl (lv_at hl 1 rfl) ?_
      refine va_get (D := (dC, dI)) (ci := 12) (v := .ref h1) (C := RX12) (T := TX12) (N := 70) hx hb hts hiX12 hown hK hP 2 rfl rfl 50 (by decide) w__fieldLink_RX12_105_ShellHeapModel_causeFirst_I_ (fun _ h9 => h9) rfl dX12_rules_82 ?_
      refine lv_iload_n hx hb dX12_rules_85 rfl (lv_at hl 0 rfl) ?_
      refine lv_aload_n hx hb dX12_rules_86 rfl (lv_at hl 1 rfl) ?_
      refine va_get (D := (dC, dI)) (ci := 12) (v := .ref h1) (C := RX12) (T := TX12) (N := 70) hx hb hts hiX12 hown hK hP 2 rfl rfl 50 (by decide) w__fieldLink_RX12_105_ShellHeapModel_causeFirst_I_ (fun _ h9 => h9) rfl dX12_rules_87 ?_
      refine lv_bipush (v := 6) hx hb dX12_rules_90 (by decide) ?_
      refine lv_iload_n hx hb dX12_rules_92 rfl (lv_at hl 0 rfl) ?_
      refine lv_iadd hx hb dX12_rules_93 ?_
      refine lv_topi (fun x_56 e_57 => ?_)
      obtain rfl : x_56 = 9 := e_57.trans (by decide)
      refine va_iald hx hb hK hP 0 0 rfl rfl (by unfold vp_in; decide) dX12_rules_94 ?_
      refine lv_topi (fun x_58 e_59 => ?_)
      refine va_iast hx hb hK hP hD hS 0 0 rfl rfl (by unfold vp_in; decide) dX12_rules_95 (fun H_60 locs hP hD hS => ?_)
      have hP : va_P (dC, dI) vwCl [(h1, .inl (ch1, 12, .inl (upd f_48 (3 : Int32).toNatClampNeg x_58))), (h2, .inl (ch2, 12, .inl f_54)), (h0, .inr (12, [h0_0, .int 0, .int 0, h0_3, h0_4, h0_5, h0_6, h0_7, h0_8, h0_9, h0_10, h0_11, h0_12, h0_13, h0_14, h0_15, h0_16, h0_17, h0_18, h0_19, h0_20, h0_21, h0_22, h0_23, h0_24, h0_25, h0_26, h0_27, .int 0, .int (-1), .int 0, .int 0, .int 0, h0_33, .int 0, h0_35, h0_36, h0_37, h0_38, h0_39, h0_40, h0_41, h0_42, h0_43, .int 0, .int 0, .int 0, .int 0, h0_48, h0_49, .ref h1, .ref h2, h0_52, h0_53, h0_54, h0_55, h0_56, h0_57, .int 0, h0_59, h0_60, h0_61, h0_62, h0_63, h0_64, h0_65, h0_66, h0_67, h0_68, h0_69]))] H_60 := hP
      have hD : va_D A [(h1, .inl (ch1, 12, .inl (upd f_48 (3 : Int32).toNatClampNeg x_58))), (h2, .inl (ch2, 12, .inl f_54)), (h0, .inr (12, [h0_0, .int 0, .int 0, h0_3, h0_4, h0_5, h0_6, h0_7, h0_8, h0_9, h0_10, h0_11, h0_12, h0_13, h0_14, h0_15, h0_16, h0_17, h0_18, h0_19, h0_20, h0_21, h0_22, h0_23, h0_24, h0_25, h0_26, h0_27, .int 0, .int (-1), .int 0, .int 0, .int 0, h0_33, .int 0, h0_35, h0_36, h0_37, h0_38, h0_39, h0_40, h0_41, h0_42, h0_43, .int 0, .int 0, .int 0, .int 0, h0_48, h0_49, .ref h1, .ref h2, h0_52, h0_53, h0_54, h0_55, h0_56, h0_57, .int 0, h0_59, h0_60, h0_61, h0_62, h0_63, h0_64, h0_65, h0_66, h0_67, h0_68, h0_69]))] := hD
      generalize (upd f_48 (3 : Int32).toNatClampNeg x_58) = f_61 at hP hD
      refine lv_aload_n hx hb dX12_rules_96 rfl (lv_at hl 1 rfl) ?_
      refine va_get (D := (dC, dI)) (ci := 12) (v := .ref h2) (C := RX12) (T := TX12) (N := 70) hx hb hts hiX12 hown hK hP 2 rfl rfl 51 (by decide) w__fieldLink_RX12_108_ShellHeapModel_causeMany_I_ (fun _ h9 => h9) rfl dX12_rules_97 ?_
      refine lv_iload_n hx hb dX12_rules_100 rfl (lv_at hl 0 rfl) ?_
      refine lv_aload_n hx hb dX12_rules_101 rfl (lv_at hl 1 rfl) ?_
      refine va_get (D := (dC, dI)) (ci := 12) (v := .ref h2) (C := RX12) (T := TX12) (N := 70) hx hb hts hiX12 hown hK hP 2 rfl rfl 51 (by decide) w__fieldLink_RX12_108_ShellHeapModel_causeMany_I_ (fun _ h9 => h9) rfl dX12_rules_102 ?_
      refine lv_bipush (v := 6) hx hb dX12_rules_105 (by decide) ?_
      refine lv_iload_n hx hb dX12_rules_107 rfl (lv_at hl 0 rfl) ?_
      refine lv_iadd hx hb dX12_rules_108 ?_
      refine lv_topi (fun x_62 e_63 => ?_)
      obtain rfl : x_62 = 9 := e_63.trans (by decide)
      refine va_iald hx hb hK hP 1 1 rfl rfl (by unfold vp_in; decide) dX12_rules_109 ?_
      refine lv_topi (fun x_64 e_65 => ?_)
      refine va_iast hx hb hK hP hD hS 1 1 rfl rfl (by unfold vp_in; decide) dX12_rules_110 (fun H_66 locs hP hD hS => ?_)
      have hP : va_P (dC, dI) vwCl [(h1, .inl (ch1, 12, .inl f_61)), (h2, .inl (ch2, 12, .inl (upd f_54 (3 : Int32).toNatClampNeg x_64))), (h0, .inr (12, [h0_0, .int 0, .int 0, h0_3, h0_4, h0_5, h0_6, h0_7, h0_8, h0_9, h0_10, h0_11, h0_12, h0_13, h0_14, h0_15, h0_16, h0_17, h0_18, h0_19, h0_20, h0_21, h0_22, h0_23, h0_24, h0_25, h0_26, h0_27, .int 0, .int (-1), .int 0, .int 0, .int 0, h0_33, .int 0, h0_35, h0_36, h0_37, h0_38, h0_39, h0_40, h0_41, h0_42, h0_43, .int 0, .int 0, .int 0, .int 0, h0_48, h0_49, .ref h1, .ref h2, h0_52, h0_53, h0_54, h0_55, h0_56, h0_57, .int 0, h0_59, h0_60, h0_61, h0_62, h0_63, h0_64, h0_65, h0_66, h0_67, h0_68, h0_69]))] H_66 := hP
      have hD : va_D A [(h1, .inl (ch1, 12, .inl f_61)), (h2, .inl (ch2, 12, .inl (upd f_54 (3 : Int32).toNatClampNeg x_64))), (h0, .inr (12, [h0_0, .int 0, .int 0, h0_3, h0_4, h0_5, h0_6, h0_7, h0_8, h0_9, h0_10, h0_11, h0_12, h0_13, h0_14, h0_15, h0_16, h0_17, h0_18, h0_19, h0_20, h0_21, h0_22, h0_23, h0_24, h0_25, h0_26, h0_27, .int 0, .int (-1), .int 0, .int 0, .int 0, h0_33, .int 0, h0_35, h0_36, h0_37, h0_38, h0_39, h0_40, h0_41, h0_42, h0_43, .int 0, .int 0, .int 0, .int 0, h0_48, h0_49, .ref h1, .ref h2, h0_52, h0_53, h0_54, h0_55, h0_56, h0_57, .int 0, h0_59, h0_60, h0_61, h0_62, h0_63, h0_64, h0_65, h0_66, h0_67, h0_68, h0_69]))] := hD
      generalize (upd f_54 (3 : Int32).toNatClampNeg x_64) = f_67 at hP hD
      refine lv_iinc (v := 4) (lv' := [(2, .int 4), (0, .ref h0), (1, .int 0)]) hx hb dX12_rules_111 hl (k := 0) rfl (by decide) (by decide) rfl (fun ls hl => ?_)
      refine lv_goto (tgt := 75) hx hb dX12_rules_114 (by decide) ?_
      refine lv_iload_n hx hb dX12_rules_75 rfl (lv_at hl 0 rfl) ?_
      refine lv_bipush (v := 6) hx hb dX12_rules_76 (by decide) ?_
      refine lv_icmp_ge (tgt := 117) hx hb dX12_rules_78 (by decide) (fun c_68 => absurd c_68 (by decide)) (fun _ => ?_)
      refine lv_aload_n hx hb dX12_rules_81 rfl (lv_at hl 1 rfl) ?_
      refine va_get (D := (dC, dI)) (ci := 12) (v := .ref h1) (C := RX12) (T := TX12) (N := 70) hx hb hts hiX12 hown hK hP 2 rfl rfl 50 (by decide) w__fieldLink_RX12_105_ShellHeapModel_causeFirst_I_ (fun _ h9 => h9) rfl dX12_rules_82 ?_
      refine lv_iload_n hx hb dX12_rules_85 rfl (lv_at hl 0 rfl) ?_
      refine lv_aload_n hx hb dX12_rules_86 rfl (lv_at hl 1 rfl) ?_
      refine va_get (D := (dC, dI)) (ci := 12) (v := .ref h1) (C := RX12) (T := TX12) (N := 70) hx hb hts hiX12 hown hK hP 2 rfl rfl 50 (by decide) w__fieldLink_RX12_105_ShellHeapModel_causeFirst_I_ (fun _ h9 => h9) rfl dX12_rules_87 ?_
      refine lv_bipush (v := 6) hx hb dX12_rules_90 (by decide) ?_
      refine lv_iload_n hx hb dX12_rules_92 rfl (lv_at hl 0 rfl) ?_
      refine lv_iadd hx hb dX12_rules_93 ?_
      refine lv_topi (fun x_69 e_70 => ?_)
      obtain rfl : x_69 = 10 := e_70.trans (by decide)
      refine va_iald hx hb hK hP 0 0 rfl rfl (by unfold vp_in; decide) dX12_rules_94 ?_
      refine lv_topi (fun x_71 e_72 => ?_)
      refine va_iast hx hb hK hP hD hS 0 0 rfl rfl (by unfold vp_in; decide) dX12_rules_95 (fun H_73 locs hP hD hS => ?_)
      have hP : va_P (dC, dI) vwCl [(h1, .inl (ch1, 12, .inl (upd f_61 (4 : Int32).toNatClampNeg x_71))), (h2, .inl (ch2, 12, .inl f_67)), (h0, .inr (12, [h0_0, .int 0, .int 0, h0_3, h0_4, h0_5, h0_6, h0_7, h0_8, h0_9, h0_10, h0_11, h0_12, h0_13, h0_14, h0_15, h0_16, h0_17, h0_18, h0_19, h0_20, h0_21, h0_22, h0_23, h0_24, h0_25, h0_26, h0_27, .int 0, .int (-1), .int 0, .int 0, .int 0, h0_33, .int 0, h0_35, h0_36, h0_37, h0_38, h0_39, h0_40, h0_41, h0_42, h0_43, .int 0, .int 0, .int 0, .int 0, h0_48, h0_49, .ref h1, .ref h2, h0_52, h0_53, h0_54, h0_55, h0_56, h0_57, .int 0, h0_59, h0_60, h0_61, h0_62, h0_63, h0_64, h0_65, h0_66, h0_67, h0_68, h0_69]))] H_73 := hP
      have hD : va_D A [(h1, .inl (ch1, 12, .inl (upd f_61 (4 : Int32).toNatClampNeg x_71))), (h2, .inl (ch2, 12, .inl f_67)), (h0, .inr (12, [h0_0, .int 0, .int 0, h0_3, h0_4, h0_5, h0_6, h0_7, h0_8, h0_9, h0_10, h0_11, h0_12, h0_13, h0_14, h0_15, h0_16, h0_17, h0_18, h0_19, h0_20, h0_21, h0_22, h0_23, h0_24, h0_25, h0_26, h0_27, .int 0, .int (-1), .int 0, .int 0, .int 0, h0_33, .int 0, h0_35, h0_36, h0_37, h0_38, h0_39, h0_40, h0_41, h0_42, h0_43, .int 0, .int 0, .int 0, .int 0, h0_48, h0_49, .ref h1, .ref h2, h0_52, h0_53, h0_54, h0_55, h0_56, h0_57, .int 0, h0_59, h0_60, h0_61, h0_62, h0_63, h0_64, h0_65, h0_66, h0_67, h0_68, h0_69]))] := hD
      generalize (upd f_61 (4 : Int32).toNatClampNeg x_71) = f_74 at hP hD
      refine lv_aload_n hx hb dX12_rules_96 rfl (lv_at hl 1 rfl) ?_
      refine va_get (D := (dC, dI)) (ci := 12) (v := .ref h2) (C := RX12) (T := TX12) (N := 70) hx hb hts hiX12 hown hK hP 2 rfl rfl 51 (by decide) w__fieldLink_RX12_108_ShellHeapModel_causeMany_I_ (fun _ h9 => h9) rfl dX12_rules_97 ?_
      refine lv_iload_n hx hb dX12_rules_100 rfl (lv_at hl 0 rfl) ?_
      refine lv_aload_n hx hb dX12_rules_101 rfl (lv_at hl 1 rfl) ?_
      refine va_get (D := (dC, dI)) (ci := 12) (v := .ref h2) (C := RX12) (T := TX12) (N := 70) hx hb hts hiX12 hown hK hP 2 rfl rfl 51 (by decide) w__fieldLink_RX12_108_ShellHeapModel_causeMany_I_ (fun _ h9 => h9) rfl dX12_rules_102 ?_
      refine lv_bipush (v := 6) hx hb dX12_rules_105 (by decide) ?_
      refine lv_iload_n hx hb dX12_rules_107 rfl (lv_at hl 0 rfl) ?_
      refine lv_iadd hx hb dX12_rules_108 ?_
      refine lv_topi (fun x_75 e_76 => ?_)
      obtain rfl : x_75 = 10 := e_76.trans (by decide)
      refine va_iald hx hb hK hP 1 1 rfl rfl (by unfold vp_in; decide) dX12_rules_109 ?_
      refine lv_topi (fun x_77 e_78 => ?_)
      refine va_iast hx hb hK hP hD hS 1 1 rfl rfl (by unfold vp_in; decide) dX12_rules_110 (fun H_79 locs hP hD hS => ?_)
      have hP : va_P (dC, dI) vwCl [(h1, .inl (ch1, 12, .inl f_74)), (h2, .inl (ch2, 12, .inl (upd f_67 (4 : Int32).toNatClampNeg x_77))), (h0, .inr (12, [h0_0, .int 0, .int 0, h0_3, h0_4, h0_5, h0_6, h0_7, h0_8, h0_9, h0_10, h0_11, h0_12, h0_13, h0_14, h0_15, h0_16, h0_17, h0_18, h0_19, h0_20, h0_21, h0_22, h0_23, h0_24, h0_25, h0_26, h0_27, .int 0, .int (-1), .int 0, .int 0, .int 0, h0_33, .int 0, h0_35, h0_36, h0_37, h0_38, h0_39, h0_40, h0_41, h0_42, h0_43, .int 0, .int 0, .int 0, .int 0, h0_48, h0_49, .ref h1, .ref h2, h0_52, h0_53, h0_54, h0_55, h0_56, h0_57, .int 0, h0_59, h0_60, h0_61, h0_62, h0_63, h0_64, h0_65, h0_66, h0_67, h0_68, h0_69]))] H_79 := hP
      have hD : va_D A [(h1, .inl (ch1, 12, .inl f_74)), (h2, .inl (ch2, 12, .inl (upd f_67 (4 : Int32).toNatClampNeg x_77))), (h0, .inr (12, [h0_0, .int 0, .int 0, h0_3, h0_4, h0_5, h0_6, h0_7, h0_8, h0_9, h0_10, h0_11, h0_12, h0_13, h0_14, h0_15, h0_16, h0_17, h0_18, h0_19, h0_20, h0_21, h0_22, h0_23, h0_24, h0_25, h0_26, h0_27, .int 0, .int (-1), .int 0, .int 0, .int 0, h0_33, .int 0, h0_35, h0_36, h0_37, h0_38, h0_39, h0_40, h0_41, h0_42, h0_43, .int 0, .int 0, .int 0, .int 0, h0_48, h0_49, .ref h1, .ref h2, h0_52, h0_53, h0_54, h0_55, h0_56, h0_57, .int 0, h0_59, h0_60, h0_61, h0_62, h0_63, h0_64, h0_65, h0_66, h0_67, h0_68, h0_69]))] := hD
      generalize (upd f_67 (4 : Int32).toNatClampNeg x_77) = f_80 at hP hD
      refine lv_iinc (v := 5) (lv' := [(2, .int 5), (0, .ref h0), (1, .int 0)]) hx hb dX12_rules_111 hl (k := 0) rfl (by decide) (by decide) rfl (fun ls hl => ?_)
      refine lv_goto (tgt := 75) hx hb dX12_rules_114 (by decide) ?_
      refine lv_iload_n hx hb dX12_rules_75 rfl (lv_at hl 0 rfl) ?_
      refine lv_bipush (v := 6) hx hb dX12_rules_76 (by decide) ?_
      refine lv_icmp_ge (tgt := 117) hx hb dX12_rules_78 (by decide) (fun c_81 => absurd c_81 (by decide)) (fun _ => ?_)
      refine lv_aload_n hx hb dX12_rules_81 rfl (lv_at hl 1 rfl) ?_
      refine va_get (D := (dC, dI)) (ci := 12) (v := .ref h1) (C := RX12) (T := TX12) (N := 70) hx hb hts hiX12 hown hK hP 2 rfl rfl 50 (by decide) w__fieldLink_RX12_105_ShellHeapModel_causeFirst_I_ (fun _ h9 => h9) rfl dX12_rules_82 ?_
      refine lv_iload_n hx hb dX12_rules_85 rfl (lv_at hl 0 rfl) ?_
      refine lv_aload_n hx hb dX12_rules_86 rfl (lv_at hl 1 rfl) ?_
      refine va_get (D := (dC, dI)) (ci := 12) (v := .ref h1) (C := RX12) (T := TX12) (N := 70) hx hb hts hiX12 hown hK hP 2 rfl rfl 50 (by decide) w__fieldLink_RX12_105_ShellHeapModel_causeFirst_I_ (fun _ h9 => h9) rfl dX12_rules_87 ?_
      refine lv_bipush (v := 6) hx hb dX12_rules_90 (by decide) ?_
      refine lv_iload_n hx hb dX12_rules_92 rfl (lv_at hl 0 rfl) ?_
      refine lv_iadd hx hb dX12_rules_93 ?_
      refine lv_topi (fun x_82 e_83 => ?_)
      obtain rfl : x_82 = 11 := e_83.trans (by decide)
      refine va_iald hx hb hK hP 0 0 rfl rfl (by unfold vp_in; decide) dX12_rules_94 ?_
      refine lv_topi (fun x_84 e_85 => ?_)
      refine va_iast hx hb hK hP hD hS 0 0 rfl rfl (by unfold vp_in; decide) dX12_rules_95 (fun H_86 locs hP hD hS => ?_)
      have hP : va_P (dC, dI) vwCl [(h1, .inl (ch1, 12, .inl (upd f_74 (5 : Int32).toNatClampNeg x_84))), (h2, .inl (ch2, 12, .inl f_80)), (h0, .inr (12, [h0_0, .int 0, .int 0, h0_3, h0_4, h0_5, h0_6, h0_7, h0_8, h0_9, h0_10, h0_11, h0_12, h0_13, h0_14, h0_15, h0_16, h0_17, h0_18, h0_19, h0_20, h0_21, h0_22, h0_23, h0_24, h0_25, h0_26, h0_27, .int 0, .int (-1), .int 0, .int 0, .int 0, h0_33, .int 0, h0_35, h0_36, h0_37, h0_38, h0_39, h0_40, h0_41, h0_42, h0_43, .int 0, .int 0, .int 0, .int 0, h0_48, h0_49, .ref h1, .ref h2, h0_52, h0_53, h0_54, h0_55, h0_56, h0_57, .int 0, h0_59, h0_60, h0_61, h0_62, h0_63, h0_64, h0_65, h0_66, h0_67, h0_68, h0_69]))] H_86 := hP
      have hD : va_D A [(h1, .inl (ch1, 12, .inl (upd f_74 (5 : Int32).toNatClampNeg x_84))), (h2, .inl (ch2, 12, .inl f_80)), (h0, .inr (12, [h0_0, .int 0, .int 0, h0_3, h0_4, h0_5, h0_6, h0_7, h0_8, h0_9, h0_10, h0_11, h0_12, h0_13, h0_14, h0_15, h0_16, h0_17, h0_18, h0_19, h0_20, h0_21, h0_22, h0_23, h0_24, h0_25, h0_26, h0_27, .int 0, .int (-1), .int 0, .int 0, .int 0, h0_33, .int 0, h0_35, h0_36, h0_37, h0_38, h0_39, h0_40, h0_41, h0_42, h0_43, .int 0, .int 0, .int 0, .int 0, h0_48, h0_49, .ref h1, .ref h2, h0_52, h0_53, h0_54, h0_55, h0_56, h0_57, .int 0, h0_59, h0_60, h0_61, h0_62, h0_63, h0_64, h0_65, h0_66, h0_67, h0_68, h0_69]))] := hD
      generalize (upd f_74 (5 : Int32).toNatClampNeg x_84) = f_87 at hP hD
      refine lv_aload_n hx hb dX12_rules_96 rfl (lv_at hl 1 rfl) ?_
      refine va_get (D := (dC, dI)) (ci := 12) (v := .ref h2) (C := RX12) (T := TX12) (N := 70) hx hb hts hiX12 hown hK hP 2 rfl rfl 51 (by decide) w__fieldLink_RX12_108_ShellHeapModel_causeMany_I_ (fun _ h9 => h9) rfl dX12_rules_97 ?_
      refine lv_iload_n hx hb dX12_rules_100 rfl (lv_at hl 0 rfl) ?_
      refine lv_aload_n hx hb dX12_rules_101 rfl (lv_at hl 1 rfl) ?_
      refine va_get (D := (dC, dI)) (ci := 12) (v := .ref h2) (C := RX12) (T := TX12) (N := 70) hx hb hts hiX12 hown hK hP 2 rfl rfl 51 (by decide) w__fieldLink_RX12_108_ShellHeapModel_causeMany_I_ (fun _ h9 => h9) rfl dX12_rules_102 ?_
      refine lv_bipush (v := 6) hx hb dX12_rules_105 (by decide) ?_
      refine lv_iload_n hx hb dX12_rules_107 rfl (lv_at hl 0 rfl) ?_
      refine lv_iadd hx hb dX12_rules_108 ?_
      refine lv_topi (fun x_88 e_89 => ?_)
      obtain rfl : x_88 = 11 := e_89.trans (by decide)
      refine va_iald hx hb hK hP 1 1 rfl rfl (by unfold vp_in; decide) dX12_rules_109 ?_
      refine lv_topi (fun x_90 e_91 => ?_)
      refine va_iast hx hb hK hP hD hS 1 1 rfl rfl (by unfold vp_in; decide) dX12_rules_110 (fun H_92 locs hP hD hS => ?_)
      have hP : va_P (dC, dI) vwCl [(h1, .inl (ch1, 12, .inl f_87)), (h2, .inl (ch2, 12, .inl (upd f_80 (5 : Int32).toNatClampNeg x_90))), (h0, .inr (12, [h0_0, .int 0, .int 0, h0_3, h0_4, h0_5, h0_6, h0_7, h0_8, h0_9, h0_10, h0_11, h0_12, h0_13, h0_14, h0_15, h0_16, h0_17, h0_18, h0_19, h0_20, h0_21, h0_22, h0_23, h0_24, h0_25, h0_26, h0_27, .int 0, .int (-1), .int 0, .int 0, .int 0, h0_33, .int 0, h0_35, h0_36, h0_37, h0_38, h0_39, h0_40, h0_41, h0_42, h0_43, .int 0, .int 0, .int 0, .int 0, h0_48, h0_49, .ref h1, .ref h2, h0_52, h0_53, h0_54, h0_55, h0_56, h0_57, .int 0, h0_59, h0_60, h0_61, h0_62, h0_63, h0_64, h0_65, h0_66, h0_67, h0_68, h0_69]))] H_92 := hP
      have hD : va_D A [(h1, .inl (ch1, 12, .inl f_87)), (h2, .inl (ch2, 12, .inl (upd f_80 (5 : Int32).toNatClampNeg x_90))), (h0, .inr (12, [h0_0, .int 0, .int 0, h0_3, h0_4, h0_5, h0_6, h0_7, h0_8, h0_9, h0_10, h0_11, h0_12, h0_13, h0_14, h0_15, h0_16, h0_17, h0_18, h0_19, h0_20, h0_21, h0_22, h0_23, h0_24, h0_25, h0_26, h0_27, .int 0, .int (-1), .int 0, .int 0, .int 0, h0_33, .int 0, h0_35, h0_36, h0_37, h0_38, h0_39, h0_40, h0_41, h0_42, h0_43, .int 0, .int 0, .int 0, .int 0, h0_48, h0_49, .ref h1, .ref h2, h0_52, h0_53, h0_54, h0_55, h0_56, h0_57, .int 0, h0_59, h0_60, h0_61, h0_62, h0_63, h0_64, h0_65, h0_66, h0_67, h0_68, h0_69]))] := hD
      generalize (upd f_80 (5 : Int32).toNatClampNeg x_90) = f_93 at hP hD
      refine lv_iinc (v := 6) (lv' := [(2, .int 6), (0, .ref h0), (1, .int 0)]) hx hb dX12_rules_111 hl (k := 0) rfl (by decide) (by decide) rfl (fun ls hl => ?_)
      refine lv_goto (tgt := 75) hx hb dX12_rules_114 (by decide) ?_
      refine lv_iload_n hx hb dX12_rules_75 rfl (lv_at hl 0 rfl) ?_
      refine lv_bipush (v := 6) hx hb dX12_rules_76 (by decide) ?_
      refine lv_icmp_ge (tgt := 117) hx hb dX12_rules_78 (by decide) (fun _ => ?_) (fun c_94 => absurd (by decide) c_94)
      refine lv_iconst (v := 0) hx hb dX12_rules_117 (by decide) ?_
      refine lv_istore_n (lv' := [(2, .int 0), (0, .ref h0), (1, .int 0)]) hx hb dX12_rules_118 rfl hl (by decide) rfl (fun ls hl => ?_)
      refine lv_iload_n hx hb dX12_rules_119 rfl (lv_at hl 0 rfl) ?_
      refine lv_aload_n hx hb dX12_rules_120 rfl (lv_at hl 1 rfl) ?_
      refine va_get (D := (dC, dI)) (ci := 12) (v := .int 0) (C := RX12) (T := TX12) (N := 70) hx hb hts hiX12 hown hK hP 2 rfl rfl 46 (by decide) w__fieldLink_RX12_393_ShellHeapModel_knots_I_ (fun _ h9 => h9) rfl dX12_rules_121 ?_
      refine lv_icmp_ge (tgt := 232) hx hb dX12_rules_124 (by decide) (fun _ => ?_) (fun c_95 => absurd (by decide) c_95)
      refine lv_aload_n hx hb dX12_rules_232 rfl (lv_at hl 1 rfl) ?_
      refine va_get (D := (dC, dI)) (ci := 12) (v := .int 0) (C := RX12) (T := TX12) (N := 70) hx hb hts hiX12 hown hK hP 2 rfl rfl 44 (by decide) w__fieldLink_RX12_390_ShellHeapModel_causes_I_ (fun _ h9 => h9) rfl dX12_rules_233 ?_
      refine W.widen (k := 0) (n := 0) (Nat.le_of_ble_eq_true rfl) (Nat.le_of_ble_eq_true rfl) ?_
      exact W.iret (v := 0) hx hb hr (fun t ht hW => ⟨⟨0, (), rfl, (by first | (unfold v_rules; rw [if_pos (by omega)]) | (unfold v_rules; rw [if_neg (by omega)]) | decide), trivial⟩, hS.F ht⟩) hS.2.2 dX12_rules_236
    · have k_96 : (p1).toInt > (0 : Int) := z_nle c_5
      refine lv_bipush (v := (-2)) hx hb dX12_rules_17 (by decide) ?_
      refine W.widen (k := 0) (n := 0) (Nat.le_of_ble_eq_true rfl) (Nat.le_of_ble_eq_true rfl) ?_
      exact W.iret (v := (-2)) hx hb hr (fun t ht hW => ⟨⟨(-2), (), rfl, (by first | (unfold v_rules; rw [if_pos (by omega)]) | (unfold v_rules; rw [if_neg (by omega)]) | decide), trivial⟩, hS.F ht⟩) hS.2.2 dX12_rules_19
