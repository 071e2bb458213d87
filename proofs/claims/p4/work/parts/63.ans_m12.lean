def u_s_X11_kindA : List Cond := .code yX11_kind cX11_kind 3 (some .int) :: ([.fieldLink RX11 42 "ShellHeap" "pantry" "LShellHeap$Pantry;", .methodLink RX11 200 yX5_name, .instanceMethod yX5_name, .selects RX5 yX5_name yX5_name, .initialized RX5, .code yX5_name cX5_name 4 (some .int), .fieldLink RX5 41 "ShellHeap$Pantry" "kinds" "I", .fieldLink RX5 11 "ShellHeap$Pantry" "meats" "[I", .fieldLink RX5 15 "ShellHeap$Pantry" "valvesOf" "[I", .fieldLink RX5 25 "ShellHeap$Pantry" "keeps" "[I"] ++ wsX110 ++ wsX50)
set_option maxRecDepth 20000 in
theorem gw_s_X11_kindA_s_X5_nameA_200 : GoodIn u_s_X11_kindA (wsV RX11 200 RX5 yX5_name u_s_X5_nameA) := z_gr _ [2, 3, 4, 5, 6, 7, 8, 9, 10, 21, 22, 23, 24, 25, 26, 27, 28, 29, 30] rfl (by decide +kernel)
set_option maxHeartbeats 4000000 in
set_option maxRecDepth 100000 in
theorem s_X11_kindA (l : Launch) (dC : Nat → ClassId) (dI : Nat → Nat → Nat) (sz : Nat) (h0 : Nat) (p1 : Int32) (p2 : Int32) (h0_0 : Value) (h0_1 : Value) (h0_2 : Value) (h0_3 : Value) (hp9 : Nat) (h0_5 : Value) (h0_6 : Value) (h0_7 : Value) (h0_8 : Value) (h0_9 : Value) (h1 : Nat) (h2 : Nat) (hp9_2 : Value) (hp9_3 : Value) (h3 : Nat) (hp9_5 : Value) (hp9_6 : Value) (hp9_7 : Value) (hp9_8 : Value) (pk : Int32) (ch1 : ClassId) (fh1 : Nat → Int32) (ch2 : ClassId) (fh2 : Nat → Int32) (ch3 : ClassId) (fh3 : Nat → Int32) (hB_pk : ((0 : Int) ≤ (pk).toInt ∧ (pk).toInt ≤ (6 : Int))) : Met l yX11_kind u_s_X11_kindA ({ frames := 1, cells := 0, slots := 0, locals := 23 }) (va_Pc [.ref h0, .int p1, .int p2] (z_C (dC, dI) vwCl [(h0, .inr (11, [h0_0, h0_1, h0_2, h0_3, .ref hp9, h0_5, h0_6, h0_7, h0_8, h0_9])), (hp9, .inr (5, [.ref h1, .ref h2, hp9_2, hp9_3, .ref h3, hp9_5, hp9_6, hp9_7, hp9_8, .int pk])), (h1, .inl (ch1, 6, .inl fh1)), (h2, .inl (ch2, 6, .inl fh2)), (h3, .inl (ch3, 24, .inl fh3))] [(ch1, .int), (ch2, .int), (ch3, .int)] sz)) (va_Qi (fun (r : Int32) (_ : Unit) => r = v_kiA pk p1 p2) (fun (_ : Unit) (t : State) => ∃ (n_hp9_kinds : Int32), ∃ (g_h1 : Nat → Int32), ∃ (g_h2 : Nat → Int32), ∃ (g_h3 : Nat → Int32), ((0 : Int) ≤ (n_hp9_kinds).toInt ∧ (n_hp9_kinds).toInt ≤ (6 : Int)) ∧ (n_hp9_kinds = v_kiN pk p1 p2) ∧ va_P (dC, dI) vwCl [(h0, .inr (11, [h0_0, h0_1, h0_2, h0_3, .ref hp9, h0_5, h0_6, h0_7, h0_8, h0_9])), (hp9, .inr (5, [.ref h1, .ref h2, hp9_2, hp9_3, .ref h3, hp9_5, hp9_6, hp9_7, hp9_8, .int n_hp9_kinds])), (h1, .inl (ch1, 6, .inl g_h1)), (h2, .inl (ch2, 6, .inl g_h2)), (h3, .inl (ch3, 24, .inl g_h3))] t.heap ∧ va_K (dC, dI) vwCl [] t ∧ va_D (va_A [(h0, .inr (11, [h0_0, h0_1, h0_2, h0_3, .ref hp9, h0_5, h0_6, h0_7, h0_8, h0_9])), (hp9, .inr (5, [.ref h1, .ref h2, hp9_2, hp9_3, .ref h3, hp9_5, hp9_6, hp9_7, hp9_8, .int pk])), (h1, .inl (ch1, 6, .inl fh1)), (h2, .inl (ch2, 6, .inl fh2)), (h3, .inl (ch3, 24, .inl fh3))] sz) [(h0, .inr (11, [h0_0, h0_1, h0_2, h0_3, .ref hp9, h0_5, h0_6, h0_7, h0_8, h0_9])), (hp9, .inr (5, [.ref h1, .ref h2, hp9_2, hp9_3, .ref h3, hp9_5, hp9_6, hp9_7, hp9_8, .int n_hp9_kinds])), (h1, .inl (ch1, 6, .inl g_h1)), (h2, .inl (ch2, 6, .inl g_h2)), (h3, .inl (ch3, 24, .inl g_h3))]) (va_A [(h0, .inr (11, [h0_0, h0_1, h0_2, h0_3, .ref hp9, h0_5, h0_6, h0_7, h0_8, h0_9])), (hp9, .inr (5, [.ref h1, .ref h2, hp9_2, hp9_3, .ref h3, hp9_5, hp9_6, hp9_7, hp9_8, .int pk])), (h1, .inl (ch1, 6, .inl fh1)), (h2, .inl (ch2, 6, .inl fh2)), (h3, .inl (ch3, 24, .inl fh3))] sz)) 0 0 (va_A [(h0, .inr (11, [h0_0, h0_1, h0_2, h0_3, .ref hp9, h0_5, h0_6, h0_7, h0_8, h0_9])), (hp9, .inr (5, [.ref h1, .ref h2, hp9_2, hp9_3, .ref h3, hp9_5, hp9_6, hp9_7, hp9_8, .int pk])), (h1, .inl (ch1, 6, .inl fh1)), (h2, .inl (ch2, 6, .inl fh2)), (h3, .inl (ch3, 24, .inl fh3))] sz) := by
  refine Met.ofW (cc := cX11_kind) (maxL := 3) (ret := (some .int)) (by decide) rfl ?_
  intro p e s m args below meth c s₁ B hml hv
  obtain ⟨rfl, hsz, hP, hK, hD0⟩ := hv
  have hx := B.exec
  have hb := B.bytes
  have hr := B.returns
  have hts := atoms_spec (ws := u_s_X11_kindA) B.pre
  have hown : s.vm.findClass RX11 = some m.cls := findClass_of_methodNamed B.named
  have hlocks := B.notSynchronized
  subst hsz
  have hD := hD0.self (sz := s.heap.size)
  generalize hAe : va_A [(h0, .inr (11, [h0_0, h0_1, h0_2, h0_3, .ref hp9, h0_5, h0_6, h0_7, h0_8, h0_9])), (hp9, .inr (5, [.ref h1, .ref h2, hp9_2, hp9_3, .ref h3, hp9_5, hp9_6, hp9_7, hp9_8, .int pk])), (h1, .inl (ch1, 6, .inl fh1)), (h2, .inl (ch2, 6, .inl fh2)), (h3, .inl (ch3, 24, .inl fh3))] s.heap.size = A at hD ⊢
  have hA : ∀ q : Nat, s.heap.size ≤ q → A q := fun q h => by rw [← hAe]; exact Or.inr h
  have hS : va_S A s.heap s.heap [] := va_S.rf
  have hP : va_P (dC, dI) vwCl [(h0, .inr (11, [h0_0, h0_1, h0_2, h0_3, .ref hp9, h0_5, h0_6, h0_7, h0_8, h0_9])), (hp9, .inr (5, [.ref h1, .ref h2, hp9_2, hp9_3, .ref h3, hp9_5, hp9_6, hp9_7, hp9_8, .int pk])), (h1, .inl (ch1, 6, .inl fh1)), (h2, .inl (ch2, 6, .inl fh2)), (h3, .inl (ch3, 24, .inl fh3))] s.heap := hP
  have w__fieldLink_RX11_42_ShellHeap_pantry_LShellHeap_Pantry_ := hts (.fieldLink RX11 42 "ShellHeap" "pantry" "LShellHeap$Pantry;") (by decide +kernel)
  have hiX11 := show ∀ w ∈ u_ws RX11 TX11 10, w ∈ u_s_X11_kindA by decide +kernel
  have krr_p1 := z_rng p1
  have krr_p2 := z_rng p2
  have hl := lv_entry ([.ref h0, .int p1, .int p2]) (n := 3) (Nat.le_of_ble_eq_true rfl)
  rw [lg_entry_eq]
  generalize (lg_sl ([.ref h0, .int p1, .int p2]) ++ List.replicate (3 - (lg_sl ([.ref h0, .int p1, .int p2])).length) Slot.unset).toArray = ls at hl ⊢
  have hl : lv_has ls 3 [(0, .ref h0), (1, .int p1), (2, .int p2)] := hl
  refine lv_aload_n hx hb dX11_kind_0 rfl (lv_at hl 0 rfl) ?_
  refine va_get (D := (dC, dI)) (ci := 11) (v := .ref hp9) (C := RX11) (T := TX11) (N := 10) hx hb hts hiX11 hown hK hP 0 rfl rfl 4 (by decide) w__fieldLink_RX11_42_ShellHeap_pantry_LShellHeap_Pantry_ (fun _ h9 => h9) rfl dX11_kind_1 ?_
  refine lv_iload_n hx hb dX11_kind_4 rfl (lv_at hl 1 rfl) ?_
  refine lv_iload_n hx hb dX11_kind_5 rfl (lv_at hl 2 rfl) ?_
  have hPc := hP.sub (ws' := [(hp9, .inr (5, [.ref h1, .ref h2, hp9_2, hp9_3, .ref h3, hp9_5, hp9_6, hp9_7, hp9_8, .int pk])), (h1, .inl (ch1, 6, .inl fh1)), (h2, .inl (ch2, 6, .inl fh2)), (h3, .inl (ch3, 24, .inl fh3))]) [1, 2, 3, 4] rfl
  have hDc := hD.sub (ws' := [(hp9, .inr (5, [.ref h1, .ref h2, hp9_2, hp9_3, .ref h3, hp9_5, hp9_6, hp9_7, hp9_8, .int pk])), (h1, .inl (ch1, 6, .inl fh1)), (h2, .inl (ch2, 6, .inl fh2)), (h3, .inl (ch3, 24, .inl fh3))]) [1, 2, 3, 4] (by decide) rfl
  have hKc := hK.sub (tys' := [(ch1, .int), (ch2, .int), (ch3, .int)]) [0, 1, 2] rfl
  have hFc := va_free (wc := [(hp9, .inr (5, [.ref h1, .ref h2, hp9_2, hp9_3, .ref h3, hp9_5, hp9_6, hp9_7, hp9_8, .int pk])), (h1, .inl (ch1, 6, .inl fh1)), (h2, .inl (ch2, 6, .inl fh2)), (h3, .inl (ch3, 24, .inl fh3))]) hD hS hA [1, 2, 3, 4] rfl
  refine va_calli (va_runV (As := [.int p1, .int p2]) (rest := []) ⟨hx, hb, hml, hown, hts⟩ (s_X5_nameA l dC dI s.heap.size hp9 p1 p2 h1 h2 hp9_2 hp9_3 h3 hp9_5 hp9_6 hp9_7 hp9_8 pk ch1 fh1 ch2 fh2 ch3 fh3 (by first | omega | decide)) (cwV 2 hts gw_s_X11_kindA_s_X5_nameA_200 rfl rfl rfl (by decide +kernel) ⟨Nat.le_of_ble_eq_true rfl, Nat.le_of_ble_eq_true rfl⟩) ⟨z_blind, va_recv hKc hPc (ci := 5) (q0 := 0) rfl rfl, z_pre hPc hKc hDc⟩ rfl rfl hl.1 rfl (lv_room (Nat.le_of_ble_eq_true rfl)) dX11_kind_6 ⟨Nat.le_of_ble_eq_true rfl, Nat.le_of_ble_eq_true rfl⟩) hS (fun q _ h => hFc q h) hFc (fun r_2 u t H_1 locs ht hvm hw_3 hB hz1 hk1 hS => ?_)
  obtain ⟨n_h0_kinds_4, g_h1_5, g_h2_6, g_h3_7, hp_8, hp_9, hP1, hK1, hD1⟩ := hB
  rw [ht] at hP1
  have hK1 := va_K.moved hvm.symm hK1
  obtain ⟨hP, hD⟩ := va_join (wr := [(h0, .inr (11, [h0_0, h0_1, h0_2, h0_3, .ref hp9, h0_5, h0_6, h0_7, h0_8, h0_9]))]) (w1 := [(hp9, .inr (5, [.ref h1, .ref h2, hp9_2, hp9_3, .ref h3, hp9_5, hp9_6, hp9_7, hp9_8, .int n_h0_kinds_4])), (h1, .inl (ch1, 6, .inl g_h1_5)), (h2, .inl (ch2, 6, .inl g_h2_6)), (h3, .inl (ch3, 24, .inl g_h3_7))]) hP hD [1, 2, 3, 4] [0] rfl rfl (by decide) (by decide) hk1 hFc hP1 hD1
  have hp_9 : n_h0_kinds_4 = v_kiN pk p1 p2 := hp_9
  have hP : va_P (dC, dI) vwCl [(h0, .inr (11, [h0_0, h0_1, h0_2, h0_3, .ref hp9, h0_5, h0_6, h0_7, h0_8, h0_9])), (hp9, .inr (5, [.ref h1, .ref h2, hp9_2, hp9_3, .ref h3, hp9_5, hp9_6, hp9_7, hp9_8, .int n_h0_kinds_4])), (h1, .inl (ch1, 6, .inl g_h1_5)), (h2, .inl (ch2, 6, .inl g_h2_6)), (h3, .inl (ch3, 24, .inl g_h3_7))] H_1 := hP
  have hD : va_D A [(h0, .inr (11, [h0_0, h0_1, h0_2, h0_3, .ref hp9, h0_5, h0_6, h0_7, h0_8, h0_9])), (hp9, .inr (5, [.ref h1, .ref h2, hp9_2, hp9_3, .ref h3, hp9_5, hp9_6, hp9_7, hp9_8, .int n_h0_kinds_4])), (h1, .inl (ch1, 6, .inl g_h1_5)), (h2, .inl (ch2, 6, .inl g_h2_6)), (h3, .inl (ch3, 24, .inl g_h3_7))] := hD
  clear hPc hDc hKc
  have hP9 := hP.sub (ws' := [(h0, .inr (11, [h0_0, h0_1, h0_2, h0_3, .ref hp9, h0_5, h0_6, h0_7, h0_8, h0_9])), (hp9, .inr (5, [.ref h1, .ref h2, hp9_2, hp9_3, .ref h3, hp9_5, hp9_6, hp9_7, hp9_8, .int n_h0_kinds_4])), (h1, .inl (ch1, 6, .inl g_h1_5)), (h2, .inl (ch2, 6, .inl g_h2_6)), (h3, .inl (ch3, 24, .inl g_h3_7))]) [0, 1, 2, 3, 4] rfl
  have hD9 := hD.sub (ws' := [(h0, .inr (11, [h0_0, h0_1, h0_2, h0_3, .ref hp9, h0_5, h0_6, h0_7, h0_8, h0_9])), (hp9, .inr (5, [.ref h1, .ref h2, hp9_2, hp9_3, .ref h3, hp9_5, hp9_6, hp9_7, hp9_8, .int n_h0_kinds_4])), (h1, .inl (ch1, 6, .inl g_h1_5)), (h2, .inl (ch2, 6, .inl g_h2_6)), (h3, .inl (ch3, 24, .inl g_h3_7))]) [0, 1, 2, 3, 4] (by decide) rfl
  have hK9 := hK.sub (tys' := []) [] rfl
  refine W.widen (k := 0) (n := 0) (Nat.le_of_ble_eq_true rfl) (Nat.le_of_ble_eq_true rfl) ?_
  exact W.iret (v := r_2) hx hb hr (fun t ht hW => ⟨⟨r_2, (), rfl, (show r_2 = v_kiA pk p1 p2 from hw_3), ⟨n_h0_kinds_4, g_h1_5, g_h2_6, g_h3_7, (by first | omega | decide), hp_9, by rw [ht]; exact hP9, va_K.moved hW.alike hK9, hD9⟩⟩, hS.F ht⟩) hS.2.2 dX11_kind_9
def u_s_X12_kindA : List Cond := .code yX12_kind cX12_kind 3 (some .int) :: ([.fieldLink RX12 145 "ShellHeapModel" "thrown" "I", .fieldLink RX12 192 "ShellHeapModel" "kinds" "I", .fieldLink RX12 63 "ShellHeapModel" "meat" "[I", .fieldLink RX12 66 "ShellHeapModel" "valves" "[I"] ++ wsX120)
set_option maxHeartbeats 4000000 in
set_option maxRecDepth 100000 in
theorem s_X12_kindA (l : Launch) (dC : Nat → ClassId) (dI : Nat → Nat → Nat) (sz : Nat) (h0 : Nat) (p1 : Int32) (p2 : Int32) (h0_0 : Value) (h0_1 : Value) (mx : Int32) (h0_3 : Value) (h0_4 : Value) (h0_5 : Value) (h0_6 : Value) (h0_7 : Value) (h0_8 : Value) (h0_9 : Value) (h0_10 : Value) (h0_11 : Value) (h0_12 : Value) (h0_13 : Value) (h0_14 : Value) (h0_15 : Value) (h0_16 : Value) (h0_17 : Value) (h0_18 : Value) (h0_19 : Value) (h0_20 : Value) (h0_21 : Value) (h0_22 : Value) (mk : Int32) (h1 : Nat) (h2 : Nat) (h0_26 : Value) (h0_27 : Value) (h0_28 : Value) (h0_29 : Value) (h0_30 : Value) (h0_31 : Value) (h0_32 : Value) (h0_33 : Value) (h0_34 : Value) (h0_35 : Value) (h0_36 : Value) (h0_37 : Value) (h0_38 : Value) (h0_39 : Value) (h0_40 : Value) (h0_41 : Value) (h0_42 : Value) (h0_43 : Value) (h0_44 : Value) (h0_45 : Value) (h0_46 : Value) (h0_47 : Value) (h0_48 : Value) (h0_49 : Value) (h0_50 : Value) (h0_51 : Value) (h0_52 : Value) (h0_53 : Value) (h0_54 : Value) (h0_55 : Value) (h0_56 : Value) (h0_57 : Value) (h0_58 : Value) (h0_59 : Value) (h0_60 : Value) (h0_61 : Value) (h0_62 : Value) (h0_63 : Value) (h0_64 : Value) (h0_65 : Value) (h0_66 : Value) (h0_67 : Value) (h0_68 : Value) (h0_69 : Value) (ch1 : ClassId) (fh1 : Nat → Int32) (ch2 : ClassId) (fh2 : Nat → Int32) (hB_mk : ((0 : Int) ≤ (mk).toInt ∧ (mk).toInt ≤ (6 : Int))) : Met l yX12_kind u_s_X12_kindA ({ frames := 0, cells := 0, slots := 0, locals := 0 }) (va_Pc [.ref h0, .int p1, .int p2] (z_C (dC, dI) vwCl [(h0, .inr (12, [h0_0, h0_1, .int mx, h0_3, h0_4, h0_5, h0_6, h0_7, h0_8, h0_9, h0_10, h0_11, h0_12, h0_13, h0_14, h0_15, h0_16, h0_17, h0_18, h0_19, h0_20, h0_21, h0_22, .int mk, .ref h1, .ref h2, h0_26, h0_27, h0_28, h0_29, h0_30, h0_31, h0_32, h0_33, h0_34, h0_35, h0_36, h0_37, h0_38, h0_39, h0_40, h0_41, h0_42, h0_43, h0_44, h0_45, h0_46, h0_47, h0_48, h0_49, h0_50, h0_51, h0_52, h0_53, h0_54, h0_55, h0_56, h0_57, h0_58, h0_59, h0_60, h0_61, h0_62, h0_63, h0_64, h0_65, h0_66, h0_67, h0_68, h0_69])), (h1, .inl (ch1, 6, .inl fh1)), (h2, .inl (ch2, 6, .inl fh2))] [(ch1, .int), (ch2, .int)] sz)) (va_Qi (fun (r : Int32) (_ : Unit) => r = v_kiA mk p1 p2) (fun (_ : Unit) (t : State) => ∃ (n_h0_thrown : Int32), ∃ (n_h0_kinds : Int32), ∃ (g_h1 : Nat → Int32), ∃ (g_h2 : Nat → Int32), ((0 : Int) ≤ (n_h0_kinds).toInt ∧ (n_h0_kinds).toInt ≤ (6 : Int)) ∧ (n_h0_kinds = v_kiN mk p1 p2) ∧ va_P (dC, dI) vwCl [(h0, .inr (12, [h0_0, h0_1, .int n_h0_thrown, h0_3, h0_4, h0_5, h0_6, h0_7, h0_8, h0_9, h0_10, h0_11, h0_12, h0_13, h0_14, h0_15, h0_16, h0_17, h0_18, h0_19, h0_20, h0_21, h0_22, .int n_h0_kinds, .ref h1, .ref h2, h0_26, h0_27, h0_28, h0_29, h0_30, h0_31, h0_32, h0_33, h0_34, h0_35, h0_36, h0_37, h0_38, h0_39, h0_40, h0_41, h0_42, h0_43, h0_44, h0_45, h0_46, h0_47, h0_48, h0_49, h0_50, h0_51, h0_52, h0_53, h0_54, h0_55, h0_56, h0_57, h0_58, h0_59, h0_60, h0_61, h0_62, h0_63, h0_64, h0_65, h0_66, h0_67, h0_68, h0_69])), (h1, .inl (ch1, 6, .inl g_h1)), (h2, .inl (ch2, 6, .inl g_h2))] t.heap ∧ va_K (dC, dI) vwCl [] t ∧ va_D (va_A [(h0, .inr (12, [h0_0, h0_1, .int mx, h0_3, h0_4, h0_5, h0_6, h0_7, h0_8, h0_9, h0_10, h0_11, h0_12, h0_13, h0_14, h0_15, h0_16, h0_17, h0_18, h0_19, h0_20, h0_21, h0_22, .int mk, .ref h1, .ref h2, h0_26, h0_27, h0_28, h0_29, h0_30, h0_31, h0_32, h0_33, h0_34, h0_35, h0_36, h0_37, h0_38, h0_39, h0_40, h0_41, h0_42, h0_43, h0_44, h0_45, h0_46, h0_47, h0_48, h0_49, h0_50, h0_51, h0_52, h0_53, h0_54, h0_55, h0_56, h0_57, h0_58, h0_59, h0_60, h0_61, h0_62, h0_63, h0_64, h0_65, h0_66, h0_67, h0_68, h0_69])), (h1, .inl (ch1, 6, .inl fh1)), (h2, .inl (ch2, 6, .inl fh2))] sz) [(h0, .inr (12, [h0_0, h0_1, .int n_h0_thrown, h0_3, h0_4, h0_5, h0_6, h0_7, h0_8, h0_9, h0_10, h0_11, h0_12, h0_13, h0_14, h0_15, h0_16, h0_17, h0_18, h0_19, h0_20, h0_21, h0_22, .int n_h0_kinds, .ref h1, .ref h2, h0_26, h0_27, h0_28, h0_29, h0_30, h0_31, h0_32, h0_33, h0_34, h0_35, h0_36, h0_37, h0_38, h0_39, h0_40, h0_41, h0_42, h0_43, h0_44, h0_45, h0_46, h0_47, h0_48, h0_49, h0_50, h0_51, h0_52, h0_53, h0_54, h0_55, h0_56, h0_57, h0_58, h0_59, h0_60, h0_61, h0_62, h0_63, h0_64, h0_65, h0_66, h0_67, h0_68, h0_69])), (h1, .inl (ch1, 6, .inl g_h1)), (h2, .inl (ch2, 6, .inl g_h2))]) (va_A [(h0, .inr (12, [h0_0, h0_1, .int mx, h0_3, h0_4, h0_5, h0_6, h0_7, h0_8, h0_9, h0_10, h0_11, h0_12, h0_13, h0_14, h0_15, h0_16, h0_17, h0_18, h0_19, h0_20, h0_21, h0_22, .int mk, .ref h1, .ref h2, h0_26, h0_27, h0_28, h0_29, h0_30, h0_31, h0_32, h0_33, h0_34, h0_35, h0_36, h0_37, h0_38, h0_39, h0_40, h0_41, h0_42, h0_43, h0_44, h0_45, h0_46, h0_47, h0_48, h0_49, h0_50, h0_51, h0_52, h0_53, h0_54, h0_55, h0_56, h0_57, h0_58, h0_59, h0_60, h0_61, h0_62, h0_63, h0_64, h0_65, h0_66, h0_67, h0_68, h0_69])), (h1, .inl (ch1, 6, .inl fh1)), (h2, .inl (ch2, 6, .inl fh2))] sz)) 0 0 (va_A [(h0, .inr (12, [h0_0, h0_1, .int mx, h0_3, h0_4, h0_5, h0_6, h0_7, h0_8, h0_9, h0_10, h0_11, h0_12, h0_13, h0_14, h0_15, h0_16, h0_17, h0_18, h0_19, h0_20, h0_21, h0_22, .int mk, .ref h1, .ref h2, h0_26, h0_27, h0_28, h0_29, h0_30, h0_31, h0_32, h0_33, h0_34, h0_35, h0_36, h0_37, h0_38, h0_39, h0_40, h0_41, h0_42, h0_43, h0_44, h0_45, h0_46, h0_47, h0_48, h0_49, h0_50, h0_51, h0_52, h0_53, h0_54, h0_55, h0_56, h0_57, h0_58, h0_59, h0_60, h0_61, h0_62, h0_63, h0_64, h0_65, h0_66, h0_67, h0_68, h0_69])), (h1, .inl (ch1, 6, .inl fh1)), (h2, .inl (ch2, 6, .inl fh2))] sz) := by
  refine Met.ofW (cc := cX12_kind) (maxL := 3) (ret := (some .int)) (by decide) rfl ?_
  intro p e s m args below meth c s₁ B hml hv
  obtain ⟨rfl, hsz, hP, hK, hD0⟩ := hv
  have hx := B.exec
  have hb := B.bytes
  have hr := B.returns
  have hts := atoms_spec (ws := u_s_X12_kindA) B.pre
  have hown : s.vm.findClass RX12 = some m.cls := findClass_of_methodNamed B.named
  have hlocks := B.notSynchronized
  subst hsz
  have hD := hD0.self (sz := s.heap.size)
  generalize hAe : va_A [(h0, .inr (12, [h0_0, h0_1, .int mx, h0_3, h0_4, h0_5, h0_6, h0_7, h0_8, h0_9, h0_10, h0_11, h0_12, h0_13, h0_14, h0_15, h0_16, h0_17, h0_18, h0_19, h0_20, h0_21, h0_22, .int mk, .ref h1, .ref h2, h0_26, h0_27, h0_28, h0_29, h0_30, h0_31, h0_32, h0_33, h0_34, h0_35, h0_36, h0_37, h0_38, h0_39, h0_40, h0_41, h0_42, h0_43, h0_44, h0_45, h0_46, h0_47, h0_48, h0_49, h0_50, h0_51, h0_52, h0_53, h0_54, h0_55, h0_56, h0_57, h0_58, h0_59, h0_60, h0_61, h0_62, h0_63, h0_64, h0_65, h0_66, h0_67, h0_68, h0_69])), (h1, .inl (ch1, 6, .inl fh1)), (h2, .inl (ch2, 6, .inl fh2))] s.heap.size = A at hD ⊢
  have hA : ∀ q : Nat, s.heap.size ≤ q → A q := fun q h => by rw [← hAe]; exact Or.inr h
  have hS : va_S A s.heap s.heap [] := va_S.rf
  have hP : va_P (dC, dI) vwCl [(h0, .inr (12, [h0_0, h0_1, .int mx, h0_3, h0_4, h0_5, h0_6, h0_7, h0_8, h0_9, h0_10, h0_11, h0_12, h0_13, h0_14, h0_15, h0_16, h0_17, h0_18, h0_19, h0_20, h0_21, h0_22, .int mk, .ref h1, .ref h2, h0_26, h0_27, h0_28, h0_29, h0_30, h0_31, h0_32, h0_33, h0_34, h0_35, h0_36, h0_37, h0_38, h0_39, h0_40, h0_41, h0_42, h0_43, h0_44, h0_45, h0_46, h0_47, h0_48, h0_49, h0_50, h0_51, h0_52, h0_53, h0_54, h0_55, h0_56, h0_57, h0_58, h0_59, h0_60, h0_61, h0_62, h0_63, h0_64, h0_65, h0_66, h0_67, h0_68, h0_69])), (h1, .inl (ch1, 6, .inl fh1)), (h2, .inl (ch2, 6, .inl fh2))] s.heap := hP
  have w__fieldLink_RX12_145_ShellHeapModel_thrown_I_ := hts (.fieldLink RX12 145 "ShellHeapModel" "thrown" "I") (by decide +kernel)
  have hiX12 := show ∀ w ∈ u_ws RX12 TX12 70, w ∈ u_s_X12_kindA by decide +kernel
  have w__fieldLink_RX12_192_ShellHeapModel_kinds_I_ := hts (.fieldLink RX12 192 "ShellHeapModel" "kinds" "I") (by decide +kernel)
  have w__fieldLink_RX12_63_ShellHeapModel_meat_I_ := hts (.fieldLink RX12 63 "ShellHeapModel" "meat" "[I") (by decide +kernel)
  have w__fieldLink_RX12_66_ShellHeapModel_valves_I_ := hts (.fieldLink RX12 66 "ShellHeapModel" "valves" "[I") (by decide +kernel)
  have krr_p1 := z_rng p1
  have krr_p2 := z_rng p2
  have hl := lv_entry ([.ref h0, .int p1, .int p2]) (n := 3) (Nat.le_of_ble_eq_true rfl)
  rw [lg_entry_eq]
  generalize (lg_sl ([.ref h0, .int p1, .int p2]) ++ List.replicate (3 - (lg_sl ([.ref h0, .int p1, .int p2])).length) Slot.unset).toArray = ls at hl ⊢
  have hl : lv_has ls 3 [(0, .ref h0), (1, .int p1), (2, .int p2)] := hl
  refine lv_aload_n hx hb dX12_kind_0 rfl (lv_at hl 0 rfl) ?_
  refine lv_iconst (v := 0) hx hb dX12_kind_1 (by decide) ?_
  refine va_put (D := (dC, dI)) (ci := 12) (v := .int 0) (ty := .int) (C := RX12) (T := TX12) (N := 70) hx hb hts hiX12 tyX12 tyX12_ok nmX12 hown hK hP hD hS 0 rfl rfl 2 (by decide) w__fieldLink_RX12_145_ShellHeapModel_thrown_I_ (fun _ h9 => h9) rfl (by decide +kernel) rfl rfl (Nat.le_of_ble_eq_true rfl) dX12_kind_2 (fun H_1 locs hP hD hS => ?_)
  have hP : va_P (dC, dI) vwCl [(h0, .inr (12, [h0_0, h0_1, .int 0, h0_3, h0_4, h0_5, h0_6, h0_7, h0_8, h0_9, h0_10, h0_11, h0_12, h0_13, h0_14, h0_15, h0_16, h0_17, h0_18, h0_19, h0_20, h0_21, h0_22, .int mk, .ref h1, .ref h2, h0_26, h0_27, h0_28, h0_29, h0_30, h0_31, h0_32, h0_33, h0_34, h0_35, h0_36, h0_37, h0_38, h0_39, h0_40, h0_41, h0_42, h0_43, h0_44, h0_45, h0_46, h0_47, h0_48, h0_49, h0_50, h0_51, h0_52, h0_53, h0_54, h0_55, h0_56, h0_57, h0_58, h0_59, h0_60, h0_61, h0_62, h0_63, h0_64, h0_65, h0_66, h0_67, h0_68, h0_69])), (h1, .inl (ch1, 6, .inl fh1)), (h2, .inl (ch2, 6, .inl fh2))] H_1 := hP
  have hD : va_D A [(h0, .inr (12, [h0_0, h0_1, .int 0, h0_3, h0_4, h0_5, h0_6, h0_7, h0_8, h0_9, h0_10, h0_11, h0_12, h0_13, h0_14, h0_15, h0_16, h0_17, h0_18, h0_19, h0_20, h0_21, h0_22, .int mk, .ref h1, .ref h2, h0_26, h0_27, h0_28, h0_29, h0_30, h0_31, h0_32, h0_33, h0_34, h0_35, h0_36, h0_37, h0_38, h0_39, h0_40, h0_41, h0_42, h0_43, h0_44, h0_45, h0_46, h0_47, h0_48, h0_49, h0_50, h0_51, h0_52, h0_53, h0_54, h0_55, h0_56, h0_57, h0_58, h0_59, h0_60, h0_61, h0_62, h0_63, h0_64, h0_65, h0_66, h0_67, h0_68, h0_69])), (h1, .inl (ch1, 6, .inl fh1)), (h2, .inl (ch2, 6, .inl fh2))] := hD
  refine lv_aload_n hx hb dX12_kind_5 rfl (lv_at hl 0 rfl) ?_
  refine va_get (D := (dC, dI)) (ci := 12) (v := .int mk) (C := RX12) (T := TX12) (N := 70) hx hb hts hiX12 hown hK hP 0 rfl rfl 23 (by decide) w__fieldLink_RX12_192_ShellHeapModel_kinds_I_ (fun _ h9 => h9) rfl dX12_kind_6 ?_
  refine lv_bipush (v := 6) hx hb dX12_kind_9 (by decide) ?_
  refine lv_icmp_eq (tgt := 35) hx hb dX12_kind_11 (by decide) (fun c_2 => ?_) (fun c_2 => ?_)
  · have k_3 : (mk).toInt = (6 : Int) := z_eq c_2
    refine lv_iconst (v := (-1)) hx hb dX12_kind_35 (by decide) ?_
    have hP9 := hP.sub (ws' := [(h0, .inr (12, [h0_0, h0_1, .int 0, h0_3, h0_4, h0_5, h0_6, h0_7, h0_8, h0_9, h0_10, h0_11, h0_12, h0_13, h0_14, h0_15, h0_16, h0_17, h0_18, h0_19, h0_20, h0_21, h0_22, .int mk, .ref h1, .ref h2, h0_26, h0_27, h0_28, h0_29, h0_30, h0_31, h0_32, h0_33, h0_34, h0_35, h0_36, h0_37, h0_38, h0_39, h0_40, h0_41, h0_42, h0_43, h0_44, h0_45, h0_46, h0_47, h0_48, h0_49, h0_50, h0_51, h0_52, h0_53, h0_54, h0_55, h0_56, h0_57, h0_58, h0_59, h0_60, h0_61, h0_62, h0_63, h0_64, h0_65, h0_66, h0_67, h0_68, h0_69])), (h1, .inl (ch1, 6, .inl fh1)), (h2, .inl (ch2, 6, .inl fh2))]) [0, 1, 2] rfl
    have hD9 := hD.sub (ws' := [(h0, .inr (12, [h0_0, h0_1, .int 0, h0_3, h0_4, h0_5, h0_6, h0_7, h0_8, h0_9, h0_10, h0_11, h0_12, h0_13, h0_14, h0_15, h0_16, h0_17, h0_18, h0_19, h0_20, h0_21, h0_22, .int mk, .ref h1, .ref h2, h0_26, h0_27, h0_28, h0_29, h0_30, h0_31, h0_32, h0_33, h0_34, h0_35, h0_36, h0_37, h0_38, h0_39, h0_40, h0_41, h0_42, h0_43, h0_44, h0_45, h0_46, h0_47, h0_48, h0_49, h0_50, h0_51, h0_52, h0_53, h0_54, h0_55, h0_56, h0_57, h0_58, h0_59, h0_60, h0_61, h0_62, h0_63, h0_64, h0_65, h0_66, h0_67, h0_68, h0_69])), (h1, .inl (ch1, 6, .inl fh1)), (h2, .inl (ch2, 6, .inl fh2))]) [0, 1, 2] (by decide) rfl
    have hK9 := hK.sub (tys' := []) [] rfl
    refine W.widen (k := 0) (n := 0) (Nat.le_of_ble_eq_true rfl) (Nat.le_of_ble_eq_true rfl) ?_
    exact W.iret (v := (-1)) hx hb hr (fun t ht hW => ⟨⟨(-1), (), rfl, (show (-1) = v_kiA mk p1 p2 by unfold v_kiA; rw [if_neg (by omega)]), ⟨0, mk, fh1, fh2, (by first | omega | decide), (show mk = v_kiN mk p1 p2 by unfold v_kiN; rw [if_neg (by omega)]), by rw [ht]; exact hP9, va_K.moved hW.alike hK9, hD9⟩⟩, hS.F ht⟩) hS.2.2 dX12_kind_36
  · have k_4 : (mk).toInt ≠ (6 : Int) := z_ne c_2
    refine lv_iload_n hx hb dX12_kind_14 rfl (lv_at hl 1 rfl) ?_
    refine lv_if_lt (tgt := 35) hx hb dX12_kind_15 (by decide) (fun c_5 => ?_) (fun c_5 => ?_)
    · have k_6 : (p1).toInt < (0 : Int) := z_lt c_5
      refine lv_iconst (v := (-1)) hx hb dX12_kind_35 (by decide) ?_
      have hP9 := hP.sub (ws' := [(h0, .inr (12, [h0_0, h0_1, .int 0, h0_3, h0_4, h0_5, h0_6, h0_7, h0_8, h0_9, h0_10, h0_11, h0_12, h0_13, h0_14, h0_15, h0_16, h0_17, h0_18, h0_19, h0_20, h0_21, h0_22, .int mk, .ref h1, .ref h2, h0_26, h0_27, h0_28, h0_29, h0_30, h0_31, h0_32, h0_33, h0_34, h0_35, h0_36, h0_37, h0_38, h0_39, h0_40, h0_41, h0_42, h0_43, h0_44, h0_45, h0_46, h0_47, h0_48, h0_49, h0_50, h0_51, h0_52, h0_53, h0_54, h0_55, h0_56, h0_57, h0_58, h0_59, h0_60, h0_61, h0_62, h0_63, h0_64, h0_65, h0_66, h0_67, h0_68, h0_69])), (h1, .inl (ch1, 6, .inl fh1)), (h2, .inl (ch2, 6, .inl fh2))]) [0, 1, 2] rfl
      have hD9 := hD.sub (ws' := [(h0, .inr (12, [h0_0, h0_1, .int 0, h0_3, h0_4, h0_5, h0_6, h0_7, h0_8, h0_9, h0_10, h0_11, h0_12, h0_13, h0_14, h0_15, h0_16, h0_17, h0_18, h0_19, h0_20, h0_21, h0_22, .int mk, .ref h1, .ref h2, h0_26, h0_27, h0_28, h0_29, h0_30, h0_31, h0_32, h0_33, h0_34, h0_35, h0_36, h0_37, h0_38, h0_39, h0_40, h0_41, h0_42, h0_43, h0_44, h0_45, h0_46, h0_47, h0_48, h0_49, h0_50, h0_51, h0_52, h0_53, h0_54, h0_55, h0_56, h0_57, h0_58, h0_59, h0_60, h0_61, h0_62, h0_63, h0_64, h0_65, h0_66, h0_67, h0_68, h0_69])), (h1, .inl (ch1, 6, .inl fh1)), (h2, .inl (ch2, 6, .inl fh2))]) [0, 1, 2] (by decide) rfl
      have hK9 := hK.sub (tys' := []) [] rfl
      refine W.widen (k := 0) (n := 0) (Nat.le_of_ble_eq_true rfl) (Nat.le_of_ble_eq_true rfl) ?_
      exact W.iret (v := (-1)) hx hb hr (fun t ht hW => ⟨⟨(-1), (), rfl, (show (-1) = v_kiA mk p1 p2 by unfold v_kiA; rw [if_neg (by omega)]), ⟨0, mk, fh1, fh2, (by first | omega | decide), (show mk = v_kiN mk p1 p2 by unfold v_kiN; rw [if_neg (by omega)]), by rw [ht]; exact hP9, va_K.moved hW.alike hK9, hD9⟩⟩, hS.F ht⟩) hS.2.2 dX12_kind_36
    · have k_7 : (p1).toInt ≥ (0 : Int) := z_nlt c_5
      refine lv_iload_n hx hb dX12_kind_18 rfl (lv_at hl 1 rfl) ?_
      refine lv_sipush (v := 999) hx hb dX12_kind_19 (by decide) ?_
      refine lv_icmp_gt (tgt := 35) hx hb dX12_kind_22 (by decide) (fun c_8 => ?_) (fun c_8 => ?_)
      · have k_9 : (999 : Int) < (p1).toInt := z_lt c_8
        refine lv_iconst (v := (-1)) hx hb dX12_kind_35 (by decide) ?_
        have hP9 := hP.sub (ws' := [(h0, .inr (12, [h0_0, h0_1, .int 0, h0_3, h0_4, h0_5, h0_6, h0_7, h0_8, h0_9, h0_10, h0_11, h0_12, h0_13, h0_14, h0_15, h0_16, h0_17, h0_18, h0_19, h0_20, h0_21, h0_22, .int mk, .ref h1, .ref h2, h0_26, h0_27, h0_28, h0_29, h0_30, h0_31, h0_32, h0_33, h0_34, h0_35, h0_36, h0_37, h0_38, h0_39, h0_40, h0_41, h0_42, h0_43, h0_44, h0_45, h0_46, h0_47, h0_48, h0_49, h0_50, h0_51, h0_52, h0_53, h0_54, h0_55, h0_56, h0_57, h0_58, h0_59, h0_60, h0_61, h0_62, h0_63, h0_64, h0_65, h0_66, h0_67, h0_68, h0_69])), (h1, .inl (ch1, 6, .inl fh1)), (h2, .inl (ch2, 6, .inl fh2))]) [0, 1, 2] rfl
        have hD9 := hD.sub (ws' := [(h0, .inr (12, [h0_0, h0_1, .int 0, h0_3, h0_4, h0_5, h0_6, h0_7, h0_8, h0_9, h0_10, h0_11, h0_12, h0_13, h0_14, h0_15, h0_16, h0_17, h0_18, h0_19, h0_20, h0_21, h0_22, .int mk, .ref h1, .ref h2, h0_26, h0_27, h0_28, h0_29, h0_30, h0_31, h0_32, h0_33, h0_34, h0_35, h0_36, h0_37, h0_38, h0_39, h0_40, h0_41, h0_42, h0_43, h0_44, h0_45, h0_46, h0_47, h0_48, h0_49, h0_50, h0_51, h0_52, h0_53, h0_54, h0_55, h0_56, h0_57, h0_58, h0_59, h0_60, h0_61, h0_62, h0_63, h0_64, h0_65, h0_66, h0_67, h0_68, h0_69])), (h1, .inl (ch1, 6, .inl fh1)), (h2, .inl (ch2, 6, .inl fh2))]) [0, 1, 2] (by decide) rfl
        have hK9 := hK.sub (tys' := []) [] rfl
        refine W.widen (k := 0) (n := 0) (Nat.le_of_ble_eq_true rfl) (Nat.le_of_ble_eq_true rfl) ?_
        exact W.iret (v := (-1)) hx hb hr (fun t ht hW => ⟨⟨(-1), (), rfl, (show (-1) = v_kiA mk p1 p2 by unfold v_kiA; rw [if_neg (by omega)]), ⟨0, mk, fh1, fh2, (by first | omega | decide), (show mk = v_kiN mk p1 p2 by unfold v_kiN; rw [if_neg (by omega)]), by rw [ht]; exact hP9, va_K.moved hW.alike hK9, hD9⟩⟩, hS.F ht⟩) hS.2.2 dX12_kind_36
      · have k_10 : (999 : Int) ≥ (p1).toInt := z_nlt c_8
        refine lv_iload_n hx hb dX12_kind_25 rfl (lv_at hl 2 rfl) ?_
        refine lv_iconst (v := 1) hx hb dX12_kind_26 (by decide) ?_
        refine lv_icmp_lt (tgt := 35) hx hb dX12_kind_27 (by decide) (fun c_11 => ?_) (fun c_11 => ?_)
        · have k_12 : (p2).toInt < (1 : Int) := z_lt c_11
          refine lv_iconst (v := (-1)) hx hb dX12_kind_35 (by decide) ?_
          have hP9 := hP.sub (ws' := [(h0, .inr (12, [h0_0, h0_1, .int 0, h0_3, h0_4, h0_5, h0_6, h0_7, h0_8, h0_9, h0_10, h0_11, h0_12, h0_13, h0_14, h0_15, h0_16, h0_17, h0_18, h0_19, h0_20, h0_21, h0_22, .int mk, .ref h1, .ref h2, h0_26, h0_27, h0_28, h0_29, h0_30, h0_31, h0_32, h0_33, h0_34, h0_35, h0_36, h0_37, h0_38, h0_39, h0_40, h0_41, h0_42, h0_43, h0_44, h0_45, h0_46, h0_47, h0_48, h0_49, h0_50, h0_51, h0_52, h0_53, h0_54, h0_55, h0_56, h0_57, h0_58, h0_59, h0_60, h0_61, h0_62, h0_63, h0_64, h0_65, h0_66, h0_67, h0_68, h0_69])), (h1, .inl (ch1, 6, .inl fh1)), (h2, .inl (ch2, 6, .inl fh2))]) [0, 1, 2] rfl
          have hD9 := hD.sub (ws' := [(h0, .inr (12, [h0_0, h0_1, .int 0, h0_3, h0_4, h0_5, h0_6, h0_7, h0_8, h0_9, h0_10, h0_11, h0_12, h0_13, h0_14, h0_15, h0_16, h0_17, h0_18, h0_19, h0_20, h0_21, h0_22, .int mk, .ref h1, .ref h2, h0_26, h0_27, h0_28, h0_29, h0_30, h0_31, h0_32, h0_33, h0_34, h0_35, h0_36, h0_37, h0_38, h0_39, h0_40, h0_41, h0_42, h0_43, h0_44, h0_45, h0_46, h0_47, h0_48, h0_49, h0_50, h0_51, h0_52, h0_53, h0_54, h0_55, h0_56, h0_57, h0_58, h0_59, h0_60, h0_61, h0_62, h0_63, h0_64, h0_65, h0_66, h0_67, h0_68, h0_69])), (h1, .inl (ch1, 6, .inl fh1)), (h2, .inl (ch2, 6, .inl fh2))]) [0, 1, 2] (by decide) rfl
          have hK9 := hK.sub (tys' := []) [] rfl
          refine W.widen (k := 0) (n := 0) (Nat.le_of_ble_eq_true rfl) (Nat.le_of_ble_eq_true rfl) ?_
          exact W.iret (v := (-1)) hx hb hr (fun t ht hW => ⟨⟨(-1), (), rfl, (show (-1) = v_kiA mk p1 p2 by unfold v_kiA; rw [if_neg (by omega)]), ⟨0, mk, fh1, fh2, (by first | omega | decide), (show mk = v_kiN mk p1 p2 by unfold v_kiN; rw [if_neg (by omega)]), by rw [ht]; exact hP9, va_K.moved hW.alike hK9, hD9⟩⟩, hS.F ht⟩) hS.2.2 dX12_kind_36
        · have k_13 : (p2).toInt ≥ (1 : Int) := z_nlt c_11
          refine lv_iload_n hx hb dX12_kind_30 rfl (lv_at hl 2 rfl) ?_
          refine lv_iconst (v := 2) hx hb dX12_kind_31 (by decide) ?_
          refine lv_icmp_le (tgt := 37) hx hb dX12_kind_32 (by decide) (fun c_14 => ?_) (fun c_14 => ?_)
          · have k_15 : (p2).toInt ≤ (2 : Int) := z_le c_14
            refine lv_aload_n hx hb dX12_kind_37 rfl (lv_at hl 0 rfl) ?_
            refine va_get (D := (dC, dI)) (ci := 12) (v := .ref h1) (C := RX12) (T := TX12) (N := 70) hx hb hts hiX12 hown hK hP 0 rfl rfl 24 (by decide) w__fieldLink_RX12_63_ShellHeapModel_meat_I_ (fun _ h9 => h9) rfl dX12_kind_38 ?_
            refine lv_aload_n hx hb dX12_kind_41 rfl (lv_at hl 0 rfl) ?_
            refine va_get (D := (dC, dI)) (ci := 12) (v := .int mk) (C := RX12) (T := TX12) (N := 70) hx hb hts hiX12 hown hK hP 0 rfl rfl 23 (by decide) w__fieldLink_RX12_192_ShellHeapModel_kinds_I_ (fun _ h9 => h9) rfl dX12_kind_42 ?_
            refine lv_iload_n hx hb dX12_kind_45 rfl (lv_at hl 1 rfl) ?_
            refine va_iast hx hb hK hP hD hS 1 0 rfl rfl (z_vpin (by omega) (by omega)) dX12_kind_46 (fun H_16 locs hP hD hS => ?_)
            have hP : va_P (dC, dI) vwCl [(h0, .inr (12, [h0_0, h0_1, .int 0, h0_3, h0_4, h0_5, h0_6, h0_7, h0_8, h0_9, h0_10, h0_11, h0_12, h0_13, h0_14, h0_15, h0_16, h0_17, h0_18, h0_19, h0_20, h0_21, h0_22, .int mk, .ref h1, .ref h2, h0_26, h0_27, h0_28, h0_29, h0_30, h0_31, h0_32, h0_33, h0_34, h0_35, h0_36, h0_37, h0_38, h0_39, h0_40, h0_41, h0_42, h0_43, h0_44, h0_45, h0_46, h0_47, h0_48, h0_49, h0_50, h0_51, h0_52, h0_53, h0_54, h0_55, h0_56, h0_57, h0_58, h0_59, h0_60, h0_61, h0_62, h0_63, h0_64, h0_65, h0_66, h0_67, h0_68, h0_69])), (h1, .inl (ch1, 6, .inl (upd fh1 (mk : Int32).toNatClampNeg p1))), (h2, .inl (ch2, 6, .inl fh2))] H_16 := hP
            have hD : va_D A [(h0, .inr (12, [h0_0, h0_1, .int 0, h0_3, h0_4, h0_5, h0_6, h0_7, h0_8, h0_9, h0_10, h0_11, h0_12, h0_13, h0_14, h0_15, h0_16, h0_17, h0_18, h0_19, h0_20, h0_21, h0_22, .int mk, .ref h1, .ref h2, h0_26, h0_27, h0_28, h0_29, h0_30, h0_31, h0_32, h0_33, h0_34, h0_35, h0_36, h0_37, h0_38, h0_39, h0_40, h0_41, h0_42, h0_43, h0_44, h0_45, h0_46, h0_47, h0_48, h0_49, h0_50, h0_51, h0_52, h0_53, h0_54, h0_55, h0_56, h0_57, h0_58, h0_59, h0_60, h0_61, h0_62, h0_63, h0_64, h0_65, h0_66, h0_67, h0_68, h0_69])), (h1, .inl (ch1, 6, .inl (upd fh1 (mk : Int32).toNatClampNeg p1))), (h2, .inl (ch2, 6, .inl fh2))] := hD
            generalize (upd fh1 (mk : Int32).toNatClampNeg p1) = f_17 at hP hD
            refine lv_aload_n hx hb dX12_kind_47 rfl (lv_at hl 0 rfl) ?_
            refine va_get (D := (dC, dI)) (ci := 12) (v := .ref h2) (C := RX12) (T := TX12) (N := 70) hx hb hts hiX12 hown hK hP 0 rfl rfl 25 (by decide) w__fieldLink_RX12_66_ShellHeapModel_valves_I_ (fun _ h9 => h9) rfl dX12_kind_48 ?_
            refine lv_aload_n hx hb dX12_kind_51 rfl (lv_at hl 0 rfl) ?_
            refine va_get (D := (dC, dI)) (ci := 12) (v := .int mk) (C := RX12) (T := TX12) (N := 70) hx hb hts hiX12 hown hK hP 0 rfl rfl 23 (by decide) w__fieldLink_RX12_192_ShellHeapModel_kinds_I_ (fun _ h9 => h9) rfl dX12_kind_52 ?_
            refine lv_iload_n hx hb dX12_kind_55 rfl (lv_at hl 2 rfl) ?_
            refine va_iast hx hb hK hP hD hS 2 1 rfl rfl (z_vpin (by omega) (by omega)) dX12_kind_56 (fun H_18 locs hP hD hS => ?_)
            have hP : va_P (dC, dI) vwCl [(h0, .inr (12, [h0_0, h0_1, .int 0, h0_3, h0_4, h0_5, h0_6, h0_7, h0_8, h0_9, h0_10, h0_11, h0_12, h0_13, h0_14, h0_15, h0_16, h0_17, h0_18, h0_19, h0_20, h0_21, h0_22, .int mk, .ref h1, .ref h2, h0_26, h0_27, h0_28, h0_29, h0_30, h0_31, h0_32, h0_33, h0_34, h0_35, h0_36, h0_37, h0_38, h0_39, h0_40, h0_41, h0_42, h0_43, h0_44, h0_45, h0_46, h0_47, h0_48, h0_49, h0_50, h0_51, h0_52, h0_53, h0_54, h0_55, h0_56, h0_57, h0_58, h0_59, h0_60, h0_61, h0_62, h0_63, h0_64, h0_65, h0_66, h0_67, h0_68, h0_69])), (h1, .inl (ch1, 6, .inl f_17)), (h2, .inl (ch2, 6, .inl (upd fh2 (mk : Int32).toNatClampNeg p2)))] H_18 := hP
            have hD : va_D A [(h0, .inr (12, [h0_0, h0_1, .int 0, h0_3, h0_4, h0_5, h0_6, h0_7, h0_8, h0_9, h0_10, h0_11, h0_12, h0_13, h0_14, h0_15, h0_16, h0_17, h0_18, h0_19, h0_20, h0_21, h0_22, .int mk, .ref h1, .ref h2, h0_26, h0_27, h0_28, h0_29, h0_30, h0_31, h0_32, h0_33, h0_34, h0_35, h0_36, h0_37, h0_38, h0_39, h0_40, h0_41, h0_42, h0_43, h0_44, h0_45, h0_46, h0_47, h0_48, h0_49, h0_50, h0_51, h0_52, h0_53, h0_54, h0_55, h0_56, h0_57, h0_58, h0_59, h0_60, h0_61, h0_62, h0_63, h0_64, h0_65, h0_66, h0_67, h0_68, h0_69])), (h1, .inl (ch1, 6, .inl f_17)), (h2, .inl (ch2, 6, .inl (upd fh2 (mk : Int32).toNatClampNeg p2)))] := hD
            generalize (upd fh2 (mk : Int32).toNatClampNeg p2) = f_19 at hP hD
            refine lv_aload_n hx hb dX12_kind_57 rfl (lv_at hl 0 rfl) ?_
            refine lv_dup hx hb dX12_kind_58 rfl ?_
            refine va_get (D := (dC, dI)) (ci := 12) (v := .int mk) (C := RX12) (T := TX12) (N := 70) hx hb hts hiX12 hown hK hP 0 rfl rfl 23 (by decide) w__fieldLink_RX12_192_ShellHeapModel_kinds_I_ (fun _ h9 => h9) rfl dX12_kind_59 ?_
            refine lv_iconst (v := 1) hx hb dX12_kind_62 (by decide) ?_
            refine lv_iadd hx hb dX12_kind_63 ?_
            refine lv_topi (fun z_20 ez_20 => ?_)
            have kz_20 : (z_20).toInt = (mk).toInt + (1 : Int) := by rw [ez_20]; exact z_add (a := (mk).toInt) (b := (1 : Int)) rfl rfl (by omega) (by omega)
            refine va_put (D := (dC, dI)) (ci := 12) (v := .int z_20) (ty := .int) (C := RX12) (T := TX12) (N := 70) hx hb hts hiX12 tyX12 tyX12_ok nmX12 hown hK hP hD hS 0 rfl rfl 23 (by decide) w__fieldLink_RX12_192_ShellHeapModel_kinds_I_ (fun _ h9 => h9) rfl (by decide +kernel) rfl rfl (Nat.le_of_ble_eq_true rfl) dX12_kind_64 (fun H_21 locs hP hD hS => ?_)
            have hP : va_P (dC, dI) vwCl [(h0, .inr (12, [h0_0, h0_1, .int 0, h0_3, h0_4, h0_5, h0_6, h0_7, h0_8, h0_9, h0_10, h0_11, h0_12, h0_13, h0_14, h0_15, h0_16, h0_17, h0_18, h0_19, h0_20, h0_21, h0_22, .int z_20, .ref h1, .ref h2, h0_26, h0_27, h0_28, h0_29, h0_30, h0_31, h0_32, h0_33, h0_34, h0_35, h0_36, h0_37, h0_38, h0_39, h0_40, h0_41, h0_42, h0_43, h0_44, h0_45, h0_46, h0_47, h0_48, h0_49, h0_50, h0_51, h0_52, h0_53, h0_54, h0_55, h0_56, h0_57, h0_58, h0_59, h0_60, h0_61, h0_62, h0_63, h0_64, h0_65, h0_66, h0_67, h0_68, h0_69])), (h1, .inl (ch1, 6, .inl f_17)), (h2, .inl (ch2, 6, .inl f_19))] H_21 := hP
            have hD : va_D A [(h0, .inr (12, [h0_0, h0_1, .int 0, h0_3, h0_4, h0_5, h0_6, h0_7, h0_8, h0_9, h0_10, h0_11, h0_12, h0_13, h0_14, h0_15, h0_16, h0_17, h0_18, h0_19, h0_20, h0_21, h0_22, .int z_20, .ref h1, .ref h2, h0_26, h0_27, h0_28, h0_29, h0_30, h0_31, h0_32, h0_33, h0_34, h0_35, h0_36, h0_37, h0_38, h0_39, h0_40, h0_41, h0_42, h0_43, h0_44, h0_45, h0_46, h0_47, h0_48, h0_49, h0_50, h0_51, h0_52, h0_53, h0_54, h0_55, h0_56, h0_57, h0_58, h0_59, h0_60, h0_61, h0_62, h0_63, h0_64, h0_65, h0_66, h0_67, h0_68, h0_69])), (h1, .inl (ch1, 6, .inl f_17)), (h2, .inl (ch2, 6, .inl f_19))] := hD
            refine lv_aload_n hx hb dX12_kind_67 rfl (lv_at hl 0 rfl) ?_
            refine va_get (D := (dC, dI)) (ci := 12) (v := .int z_20) (C := RX12) (T := TX12) (N := 70) hx hb hts hiX12 hown hK hP 0 rfl rfl 23 (by decide) w__fieldLink_RX12_192_ShellHeapModel_kinds_I_ (fun _ h9 => h9) rfl dX12_kind_68 ?_
            refine lv_iconst (v := 1) hx hb dX12_kind_71 (by decide) ?_
            refine lv_isub hx hb dX12_kind_72 ?_
            refine lv_topi (fun z_22 ez_22 => ?_)
            have kz_22 : (z_22).toInt = (z_20).toInt - (1 : Int) := by rw [ez_22]; exact z_sub (a := (z_20).toInt) (b := (1 : Int)) rfl rfl (by omega) (by omega)
            have hP9 := hP.sub (ws' := [(h0, .inr (12, [h0_0, h0_1, .int 0, h0_3, h0_4, h0_5, h0_6, h0_7, h0_8, h0_9, h0_10, h0_11, h0_12, h0_13, h0_14, h0_15, h0_16, h0_17, h0_18, h0_19, h0_20, h0_21, h0_22, .int z_20, .ref h1, .ref h2, h0_26, h0_27, h0_28, h0_29, h0_30, h0_31, h0_32, h0_33, h0_34, h0_35, h0_36, h0_37, h0_38, h0_39, h0_40, h0_41, h0_42, h0_43, h0_44, h0_45, h0_46, h0_47, h0_48, h0_49, h0_50, h0_51, h0_52, h0_53, h0_54, h0_55, h0_56, h0_57, h0_58, h0_59, h0_60, h0_61, h0_62, h0_63, h0_64, h0_65, h0_66, h0_67, h0_68, h0_69])), (h1, .inl (ch1, 6, .inl f_17)), (h2, .inl (ch2, 6, .inl f_19))]) [0, 1, 2] rfl
            have hD9 := hD.sub (ws' := [(h0, .inr (12, [h0_0, h0_1, .int 0, h0_3, h0_4, h0_5, h0_6, h0_7, h0_8, h0_9, h0_10, h0_11, h0_12, h0_13, h0_14, h0_15, h0_16, h0_17, h0_18, h0_19, h0_20, h0_21, h0_22, .int z_20, .ref h1, .ref h2, h0_26, h0_27, h0_28, h0_29, h0_30, h0_31, h0_32, h0_33, h0_34, h0_35, h0_36, h0_37, h0_38, h0_39, h0_40, h0_41, h0_42, h0_43, h0_44, h0_45, h0_46, h0_47, h0_48, h0_49, h0_50, h0_51, h0_52, h0_53, h0_54, h0_55, h0_56, h0_57, h0_58, h0_59, h0_60, h0_61, h0_62, h0_63, h0_64, h0_65, h0_66, h0_67, h0_68, h0_69])), (h1, .inl (ch1, 6, .inl f_17)), (h2, .inl (ch2, 6, .inl f_19))]) [0, 1, 2] (by decide) rfl
            have hK9 := hK.sub (tys' := []) [] rfl
            refine W.widen (k := 0) (n := 0) (Nat.le_of_ble_eq_true rfl) (Nat.le_of_ble_eq_true rfl) ?_
            exact W.iret (v := z_22) hx hb hr (fun t ht hW => ⟨⟨z_22, (), rfl, (show z_22 = v_kiA mk p1 p2 by unfold v_kiA; rw [if_pos (by omega)]; first | exact ez_22 | exact z_ii (by omega)), ⟨0, z_20, f_17, f_19, (by first | omega | decide), (show z_20 = v_kiN mk p1 p2 by unfold v_kiN; rw [if_pos (by omega)]; exact ez_20), by rw [ht]; exact hP9, va_K.moved hW.alike hK9, hD9⟩⟩, hS.F ht⟩) hS.2.2 dX12_kind_73
          · have k_23 : (p2).toInt > (2 : Int) := z_nle c_14
            refine lv_iconst (v := (-1)) hx hb dX12_kind_35 (by decide) ?_
            have hP9 := hP.sub (ws' := [(h0, .inr (12, [h0_0, h0_1, .int 0, h0_3, h0_4, h0_5, h0_6, h0_7, h0_8, h0_9, h0_10, h0_11, h0_12, h0_13, h0_14, h0_15, h0_16, h0_17, h0_18, h0_19, h0_20, h0_21, h0_22, .int mk, .ref h1, .ref h2, h0_26, h0_27, h0_28, h0_29, h0_30, h0_31, h0_32, h0_33, h0_34, h0_35, h0_36, h0_37, h0_38, h0_39, h0_40, h0_41, h0_42, h0_43, h0_44, h0_45, h0_46, h0_47, h0_48, h0_49, h0_50, h0_51, h0_52, h0_53, h0_54, h0_55, h0_56, h0_57, h0_58, h0_59, h0_60, h0_61, h0_62, h0_63, h0_64, h0_65, h0_66, h0_67, h0_68, h0_69])), (h1, .inl (ch1, 6, .inl fh1)), (h2, .inl (ch2, 6, .inl fh2))]) [0, 1, 2] rfl
            have hD9 := hD.sub (ws' := [(h0, .inr (12, [h0_0, h0_1, .int 0, h0_3, h0_4, h0_5, h0_6, h0_7, h0_8, h0_9, h0_10, h0_11, h0_12, h0_13, h0_14, h0_15, h0_16, h0_17, h0_18, h0_19, h0_20, h0_21, h0_22, .int mk, .ref h1, .ref h2, h0_26, h0_27, h0_28, h0_29, h0_30, h0_31, h0_32, h0_33, h0_34, h0_35, h0_36, h0_37, h0_38, h0_39, h0_40, h0_41, h0_42, h0_43, h0_44, h0_45, h0_46, h0_47, h0_48, h0_49, h0_50, h0_51, h0_52, h0_53, h0_54, h0_55, h0_56, h0_57, h0_58, h0_59, h0_60, h0_61, h0_62, h0_63, h0_64, h0_65, h0_66, h0_67, h0_68, h0_69])), (h1, .inl (ch1, 6, .inl fh1)), (h2, .inl (ch2, 6, .inl fh2))]) [0, 1, 2] (by decide) rfl
            have hK9 := hK.sub (tys' := []) [] rfl
            refine W.widen (k := 0) (n := 0) (Nat.le_of_ble_eq_true rfl) (Nat.le_of_ble_eq_true rfl) ?_
            exact W.iret (v := (-1)) hx hb hr (fun t ht hW => ⟨⟨(-1), (), rfl, (show (-1) = v_kiA mk p1 p2 by unfold v_kiA; rw [if_neg (by omega)]), ⟨0, mk, fh1, fh2, (by first | omega | decide), (show mk = v_kiN mk p1 p2 by unfold v_kiN; rw [if_neg (by omega)]), by rw [ht]; exact hP9, va_K.moved hW.alike hK9, hD9⟩⟩, hS.F ht⟩) hS.2.2 dX12_kind_36
def u_s_X10_put3 : List Cond := .code yX10_put cX10_put 3 none :: ([.fieldLink RX10 26 "ShellHeap$Tape" "fed" "I", .fieldLink RX10 11 "ShellHeap$Tape" "bytes" "[I"] ++ wsX100)
set_option maxHeartbeats 4000000 in
set_option maxRecDepth 100000 in
theorem s_X10_put3 (l : Launch) (dC : Nat → ClassId) (dI : Nat → Nat → Nat) (sz : Nat) (h0 : Nat) (p1 : Int32) (h1 : Nat) (h0_1 : Value) (h0_2 : Value) (h0_3 : Value) (tf : Int32) (h0_5 : Value) (h0_6 : Value) (h0_7 : Value) (h0_8 : Value) (h0_9 : Value) (h0_10 : Value) (ch1 : ClassId) (fh1 : Nat → Int32) (hB_tf : ((0 : Int) ≤ (tf).toInt ∧ (tf).toInt ≤ (696 : Int))) (hI_h1 : ∀ j : Nat, ((0 : Int) ≤ (fh1 j).toInt ∧ (fh1 j).toInt ≤ (255 : Int))) : Met l yX10_put u_s_X10_put3 ({ frames := 0, cells := 0, slots := 0, locals := 0 }) (va_Pc [.ref h0, .int p1] (z_C (dC, dI) vwCl [(h0, .inr (10, [.ref h1, h0_1, h0_2, h0_3, .int tf, h0_5, h0_6, h0_7, h0_8, h0_9, h0_10])), (h1, .inl (ch1, 700, .inl fh1))] [(ch1, .int)] sz)) (va_Qv (fun (_ : Unit) => True) (fun (_ : Unit) (t : State) => ∃ (n_h0_fed : Int32), ∃ (g_h1 : Nat → Int32), ((4 : Int) ≤ (n_h0_fed).toInt ∧ (n_h0_fed).toInt ≤ (700 : Int)) ∧ (∀ j : Nat, ((0 : Int) ≤ (g_h1 j).toInt ∧ (g_h1 j).toInt ≤ (255 : Int))) ∧ (n_h0_fed.toInt = tf.toInt + 4) ∧ (g_h1 = f_fe fh1 tf.toNatClampNeg (f_b4 p1) 4) ∧ va_P (dC, dI) vwCl [(h0, .inr (10, [.ref h1, h0_1, h0_2, h0_3, .int n_h0_fed, h0_5, h0_6, h0_7, h0_8, h0_9, h0_10])), (h1, .inl (ch1, 700, .inl g_h1))] t.heap ∧ va_K (dC, dI) vwCl [] t ∧ va_D (va_A [(h0, .inr (10, [.ref h1, h0_1, h0_2, h0_3, .int tf, h0_5, h0_6, h0_7, h0_8, h0_9, h0_10])), (h1, .inl (ch1, 700, .inl fh1))] sz) [(h0, .inr (10, [.ref h1, h0_1, h0_2, h0_3, .int n_h0_fed, h0_5, h0_6, h0_7, h0_8, h0_9, h0_10])), (h1, .inl (ch1, 700, .inl g_h1))]) (va_A [(h0, .inr (10, [.ref h1, h0_1, h0_2, h0_3, .int tf, h0_5, h0_6, h0_7, h0_8, h0_9, h0_10])), (h1, .inl (ch1, 700, .inl fh1))] sz)) 0 0 (va_A [(h0, .inr (10, [.ref h1, h0_1, h0_2, h0_3, .int tf, h0_5, h0_6, h0_7, h0_8, h0_9, h0_10])), (h1, .inl (ch1, 700, .inl fh1))] sz) := by
  refine Met.ofW (cc := cX10_put) (maxL := 3) (ret := none) (by decide) rfl ?_
  intro p e s m args below meth c s₁ B hml hv
  obtain ⟨rfl, hsz, hP, hK, hD0⟩ := hv
  have hx := B.exec
  have hb := B.bytes
  have hr := B.returns
  have hts := atoms_spec (ws := u_s_X10_put3) B.pre
  have hown : s.vm.findClass RX10 = some m.cls := findClass_of_methodNamed B.named
  have hlocks := B.notSynchronized
  subst hsz
  have hD := hD0.self (sz := s.heap.size)
  generalize hAe : va_A [(h0, .inr (10, [.ref h1, h0_1, h0_2, h0_3, .int tf, h0_5, h0_6, h0_7, h0_8, h0_9, h0_10])), (h1, .inl (ch1, 700, .inl fh1))] s.heap.size = A at hD ⊢
  have hA : ∀ q : Nat, s.heap.size ≤ q → A q := fun q h => by rw [← hAe]; exact Or.inr h
  have hS : va_S A s.heap s.heap [] := va_S.rf
  have hP : va_P (dC, dI) vwCl [(h0, .inr (10, [.ref h1, h0_1, h0_2, h0_3, .int tf, h0_5, h0_6, h0_7, h0_8, h0_9, h0_10])), (h1, .inl (ch1, 700, .inl fh1))] s.heap := hP
  have w__fieldLink_RX10_26_ShellHeap_Tape_fed_I_ := hts (.fieldLink RX10 26 "ShellHeap$Tape" "fed" "I") (by decide +kernel)
  have hiX10 := show ∀ w ∈ u_ws RX10 TX10 11, w ∈ u_s_X10_put3 by decide +kernel
  have w__fieldLink_RX10_11_ShellHeap_Tape_bytes_I_ := hts (.fieldLink RX10 11 "ShellHeap$Tape" "bytes" "[I") (by decide +kernel)
  have krr_p1 := z_rng p1
  have hl := lv_entry ([.ref h0, .int p1]) (n := 3) (Nat.le_of_ble_eq_true rfl)
  rw [lg_entry_eq]
  generalize (lg_sl ([.ref h0, .int p1]) ++ List.replicate (3 - (lg_sl ([.ref h0, .int p1])).length) Slot.unset).toArray = ls at hl ⊢
  have hl : lv_has ls 3 [(0, .ref h0), (1, .int p1)] := hl
  refine lv_bipush (v := 24) hx hb dX10_put_0 (by decide) ?_
  refine lv_istore_n (lv' := [(2, .int 24), (0, .ref h0), (1, .int p1)]) hx hb dX10_put_2 rfl hl (by decide) rfl (fun ls hl => ?_)
  refine lv_iload_n hx hb dX10_put_3 rfl (lv_at hl 0 rfl) ?_
  refine lv_if_lt (tgt := 49) hx hb dX10_put_4 (by decide) (fun c_1 => absurd c_1 (by decide)) (fun _ => ?_)
  refine lv_aload_n hx hb dX10_put_7 rfl (lv_at hl 1 rfl) ?_
  refine va_get (D := (dC, dI)) (ci := 10) (v := .int tf) (C := RX10) (T := TX10) (N := 11) hx hb hts hiX10 hown hK hP 0 rfl rfl 4 (by decide) w__fieldLink_RX10_26_ShellHeap_Tape_fed_I_ (fun _ h9 => h9) rfl dX10_put_8 ?_
  refine lv_sipush (v := 700) hx hb dX10_put_11 (by decide) ?_
  refine lv_icmp_ge (tgt := 49) hx hb dX10_put_14 (by decide) (fun c_2 => ?_) (fun c_2 => ?_)
  · exfalso
    have k_3 : (700 : Int) ≤ (tf).toInt := z_le c_2
    omega
  refine lv_aload_n hx hb dX10_put_17 rfl (lv_at hl 1 rfl) ?_
  refine va_get (D := (dC, dI)) (ci := 10) (v := .ref h1) (C := RX10) (T := TX10) (N := 11) hx hb hts hiX10 hown hK hP 0 rfl rfl 0 (by decide) w__fieldLink_RX10_11_ShellHeap_Tape_bytes_I_ (fun _ h9 => h9) rfl dX10_put_18 ?_
  refine lv_aload_n hx hb dX10_put_21 rfl (lv_at hl 1 rfl) ?_
  refine va_get (D := (dC, dI)) (ci := 10) (v := .int tf) (C := RX10) (T := TX10) (N := 11) hx hb hts hiX10 hown hK hP 0 rfl rfl 4 (by decide) w__fieldLink_RX10_26_ShellHeap_Tape_fed_I_ (fun _ h9 => h9) rfl dX10_put_22 ?_
  refine lv_iload_n hx hb dX10_put_25 rfl (lv_at hl 2 rfl) ?_
  refine lv_iload_n hx hb dX10_put_26 rfl (lv_at hl 0 rfl) ?_
  refine lv_iushr hx hb dX10_put_27 rfl ?_
  refine lv_topi (fun z_4 ez_4 => ?_)
  refine lv_sipush (v := 255) hx hb dX10_put_28 (by decide) ?_
  refine lv_iand hx hb dX10_put_31 ?_
  refine lv_topi (fun z_5 ez_5 => ?_)
  have kz_5 : (0 : Int) ≤ (z_5).toInt ∧ (z_5).toInt ≤ (255 : Int) := by rw [ez_5]; exact z_and _ 8 (by decide) (by decide)
  refine va_iast hx hb hK hP hD hS 1 0 rfl rfl (z_vpin (by omega) (by omega)) dX10_put_32 (fun H_6 locs hP hD hS => ?_)
  have hP : va_P (dC, dI) vwCl [(h0, .inr (10, [.ref h1, h0_1, h0_2, h0_3, .int tf, h0_5, h0_6, h0_7, h0_8, h0_9, h0_10])), (h1, .inl (ch1, 700, .inl (upd fh1 (tf : Int32).toNatClampNeg z_5)))] H_6 := hP
  have hD : va_D A [(h0, .inr (10, [.ref h1, h0_1, h0_2, h0_3, .int tf, h0_5, h0_6, h0_7, h0_8, h0_9, h0_10])), (h1, .inl (ch1, 700, .inl (upd fh1 (tf : Int32).toNatClampNeg z_5)))] := hD
  have hI_f_7 : ∀ j : Nat, ((0 : Int) ≤ ((upd fh1 (tf : Int32).toNatClampNeg z_5) j).toInt ∧ ((upd fh1 (tf : Int32).toNatClampNeg z_5) j).toInt ≤ (255 : Int)) := z_updP (P := fun v => ((0 : Int) ≤ (v).toInt ∧ (v).toInt ≤ (255 : Int))) hI_h1 (show ((0 : Int) ≤ (z_5).toInt ∧ (z_5).toInt ≤ (255 : Int)) from by first | omega | decide)
  have hfe_8 : (upd fh1 (tf : Int32).toNatClampNeg z_5) = f_fe fh1 (tf).toNatClampNeg (f_b4 p1) 1 := f_fe_s (k := 0) rfl (by have h8 : (tf : Int32).toNatClampNeg = (tf).toInt.toNat := rfl; have h9 : (tf).toNatClampNeg = (tf).toInt.toNat := rfl; omega) (by rw [ez_5, ez_4]; exact f_us0 p1)
  generalize (upd fh1 (tf : Int32).toNatClampNeg z_5) = f_7 at hP hD hI_f_7 hfe_8
  refine lv_aload_n hx hb dX10_put_33 rfl (lv_at hl 1 rfl) ?_
  refine lv_dup hx hb dX10_put_34 rfl ?_
  refine va_get (D := (dC, dI)) (ci := 10) (v := .int tf) (C := RX10) (T := TX10) (N := 11) hx hb hts hiX10 hown hK hP 0 rfl rfl 4 (by decide) w__fieldLink_RX10_26_ShellHeap_Tape_fed_I_ (fun _ h9 => h9) rfl dX10_put_35 ?_
  refine lv_iconst (v := 1) hx hb dX10_put_38 (by decide) ?_
  refine lv_iadd hx hb dX10_put_39 ?_
  refine lv_topi (fun z_9 ez_9 => ?_)
  have kz_9 : (z_9).toInt = (tf).toInt + (1 : Int) := by rw [ez_9]; exact z_add (a := (tf).toInt) (b := (1 : Int)) rfl rfl (by omega) (by omega)
  refine va_put (D := (dC, dI)) (ci := 10) (v := .int z_9) (ty := .int) (C := RX10) (T := TX10) (N := 11) hx hb hts hiX10 tyX10 tyX10_ok nmX10 hown hK hP hD hS 0 rfl rfl 4 (by decide) w__fieldLink_RX10_26_ShellHeap_Tape_fed_I_ (fun _ h9 => h9) rfl (by decide +kernel) rfl rfl (Nat.le_of_ble_eq_true rfl) dX10_put_40 (fun H_10 locs hP hD hS => ?_)
  have hP : va_P (dC, dI) vwCl [(h0, .inr (10, [.ref h1, h0_1, h0_2, h0_3, .int z_9, h0_5, h0_6, h0_7, h0_8, h0_9, h0_10])), (h1, .inl (ch1, 700, .inl f_7))] H_10 := hP
  have hD : va_D A [(h0, .inr (10, [.ref h1, h0_1, h0_2, h0_3, .int z_9, h0_5, h0_6, h0_7, h0_8, h0_9, h0_10])), (h1, .inl (ch1, 700, .inl f_7))] := hD
  refine lv_iinc (v := 16) (lv' := [(2, .int 16), (0, .ref h0), (1, .int p1)]) hx hb dX10_put_43 hl (k := 0) rfl (by decide) (by decide) rfl (fun ls hl => ?_)
  refine lv_goto (tgt := 3) hx hb dX10_put_46 (by decide) ?_
  refine lv_iload_n hx hb dX10_put_3 rfl (lv_at hl 0 rfl) ?_
  refine lv_if_lt (tgt := 49) hx hb dX10_put_4 (by decide) (fun c_11 => absurd c_11 (by decide)) (fun _ => ?_)
  refine lv_aload_n hx hb dX10_put_7 rfl (lv_at hl 1 rfl) ?_
  refine va_get (D := (dC, dI)) (ci := 10) (v := .int z_9) (C := RX10) (T := TX10) (N := 11) hx hb hts hiX10 hown hK hP 0 rfl rfl 4 (by decide) w__fieldLink_RX10_26_ShellHeap_Tape_fed_I_ (fun _ h9 => h9) rfl dX10_put_8 ?_
  refine lv_sipush (v := 700) hx hb dX10_put_11 (by decide) ?_
  refine lv_icmp_ge (tgt := 49) hx hb dX10_put_14 (by decide) (fun c_12 => ?_) (fun c_12 => ?_)
  · exfalso
    have k_13 : (700 : Int) ≤ (z_9).toInt := z_le c_12
    omega
  refine lv_aload_n hx hb dX10_put_17 rfl (lv_at hl 1 rfl) ?_
  refine va_get (D := (dC, dI)) (ci := 10) (v := .ref h1) (C := RX10) (T := TX10) (N := 11) hx hb hts hiX10 hown hK hP 0 rfl rfl 0 (by decide) w__fieldLink_RX10_11_ShellHeap_Tape_bytes_I_ (fun _ h9 => h9) rfl dX10_put_18 ?_
  refine lv_aload_n hx hb dX10_put_21 rfl (lv_at hl 1 rfl) ?_
  refine va_get (D := (dC, dI)) (ci := 10) (v := .int z_9) (C := RX10) (T := TX10) (N := 11) hx hb hts hiX10 hown hK hP 0 rfl rfl 4 (by decide) w__fieldLink_RX10_26_ShellHeap_Tape_fed_I_ (fun _ h9 => h9) rfl dX10_put_22 ?_
  refine lv_iload_n hx hb dX10_put_25 rfl (lv_at hl 2 rfl) ?_
  refine lv_iload_n hx hb dX10_put_26 rfl (lv_at hl 0 rfl) ?_
  refine lv_iushr hx hb dX10_put_27 rfl ?_
  refine lv_topi (fun z_14 ez_14 => ?_)
  refine lv_sipush (v := 255) hx hb dX10_put_28 (by decide) ?_
  refine lv_iand hx hb dX10_put_31 ?_
  refine lv_topi (fun z_15 ez_15 => ?_)
  have kz_15 : (0 : Int) ≤ (z_15).toInt ∧ (z_15).toInt ≤ (255 : Int) := by rw [ez_15]; exact z_and _ 8 (by decide) (by decide)
  refine va_iast hx hb hK hP hD hS 1 0 rfl rfl (z_vpin (by omega) (by omega)) dX10_put_32 (fun H_16 locs hP hD hS => ?_)
  have hP : va_P (dC, dI) vwCl [(h0, .inr (10, [.ref h1, h0_1, h0_2, h0_3, .int z_9, h0_5, h0_6, h0_7, h0_8, h0_9, h0_10])), (h1, .inl (ch1, 700, .inl (upd f_7 (z_9 : Int32).toNatClampNeg z_15)))] H_16 := hP
  have hD : va_D A [(h0, .inr (10, [.ref h1, h0_1, h0_2, h0_3, .int z_9, h0_5, h0_6, h0_7, h0_8, h0_9, h0_10])), (h1, .inl (ch1, 700, .inl (upd f_7 (z_9 : Int32).toNatClampNeg z_15)))] := hD
  have hI_f_17 : ∀ j : Nat, ((0 : Int) ≤ ((upd f_7 (z_9 : Int32).toNatClampNeg z_15) j).toInt ∧ ((upd f_7 (z_9 : Int32).toNatClampNeg z_15) j).toInt ≤ (255 : Int)) := z_updP (P := fun v => ((0 : Int) ≤ (v).toInt ∧ (v).toInt ≤ (255 : Int))) hI_f_7 (show ((0 : Int) ≤ (z_15).toInt ∧ (z_15).toInt ≤ (255 : Int)) from by first | omega | decide)
  have hfe_18 : (upd f_7 (z_9 : Int32).toNatClampNeg z_15) = f_fe fh1 (tf).toNatClampNeg (f_b4 p1) 2 := f_fe_s (k := 1) hfe_8 (by have h8 : (z_9 : Int32).toNatClampNeg = (z_9).toInt.toNat := rfl; have h9 : (tf).toNatClampNeg = (tf).toInt.toNat := rfl; omega) (by rw [ez_15, ez_14]; exact f_us1 p1)
  generalize (upd f_7 (z_9 : Int32).toNatClampNeg z_15) = f_17 at hP hD hI_f_17 hfe_18
  refine lv_aload_n hx hb dX10_put_33 rfl (lv_at hl 1 rfl) ?_
  refine lv_dup hx hb dX10_put_34 rfl ?_
  refine va_get (D := (dC, dI)) (ci := 10) (v := .int z_9) (C := RX10) (T := TX10) (N := 11) hx hb hts hiX10 hown hK hP 0 rfl rfl 4 (by decide) w__fieldLink_RX10_26_ShellHeap_Tape_fed_I_ (fun _ h9 => h9) rfl dX10_put_35 ?_
  refine lv_iconst (v := 1) hx hb dX10_put_38 (by decide) ?_
  refine lv_iadd hx hb dX10_put_39 ?_
  refine lv_topi (fun z_19 ez_19 => ?_)
  have kz_19 : (z_19).toInt = (z_9).toInt + (1 : Int) := by rw [ez_19]; exact z_add (a := (z_9).toInt) (b := (1 : Int)) rfl rfl (by omega) (by omega)
  refine va_put (D := (dC, dI)) (ci := 10) (v := .int z_19) (ty := .int) (C := RX10) (T := TX10) (N := 11) hx hb hts hiX10 tyX10 tyX10_ok nmX10 hown hK hP hD hS 0 rfl rfl 4 (by decide) w__fieldLink_RX10_26_ShellHeap_Tape_fed_I_ (fun _ h9 => h9) rfl (by decide +kernel) rfl rfl (Nat.le_of_ble_eq_true rfl) dX10_put_40 (fun H_20 locs hP hD hS => ?_)
  have hP : va_P (dC, dI) vwCl [(h0, .inr (10, [.ref h1, h0_1, h0_2, h0_3, .int z_19, h0_5, h0_6, h0_7, h0_8, h0_9, h0_10])), (h1, .inl (ch1, 700, .inl f_17))] H_20 := hP
  have hD : va_D A [(h0, .inr (10, [.ref h1, h0_1, h0_2, h0_3, .int z_19, h0_5, h0_6, h0_7, h0_8, h0_9, h0_10])), (h1, .inl (ch1, 700, .inl f_17))] := hD
  refine lv_iinc (v := 8) (lv' := [(2, .int 8), (0, .ref h0), (1, .int p1)]) hx hb dX10_put_43 hl (k := 0) rfl (by decide) (by decide) rfl (fun ls hl => ?_)
  refine lv_goto (tgt := 3) hx hb dX10_put_46 (by decide) ?_
  refine lv_iload_n hx hb dX10_put_3 rfl (lv_at hl 0 rfl) ?_
  refine lv_if_lt (tgt := 49) hx hb dX10_put_4 (by decide) (fun c_21 => absurd c_21 (by decide)) (fun _ => ?_)
  refine lv_aload_n hx hb dX10_put_7 rfl (lv_at hl 1 rfl) ?_
  refine va_get (D := (dC, dI)) (ci := 10) (v := .int z_19) (C := RX10) (T := TX10) (N := 11) hx hb hts hiX10 hown hK hP 0 rfl rfl 4 (by decide) w__fieldLink_RX10_26_ShellHeap_Tape_fed_I_ (fun _ h9 => h9) rfl dX10_put_8 ?_
  refine lv_sipush (v := 700) hx hb dX10_put_11 (by decide) ?_
  refine lv_icmp_ge (tgt := 49) hx hb dX10_put_14 (by decide) (fun c_22 => ?_) (fun c_22 => ?_)
  · exfalso
    have k_23 : (700 : Int) ≤ (z_19).toInt := z_le c_22
    omega
  refine lv_aload_n hx hb dX10_put_17 rfl (lv_at hl 1 rfl) ?_
  refine va_get (D := (dC, dI)) (ci := 10) (v := .ref h1) (C := RX10) (T := TX10) (N := 11) hx hb hts hiX10 hown hK hP 0 rfl rfl 0 (by decide) w__fieldLink_RX10_11_ShellHeap_Tape_bytes_I_ (fun _ h9 => h9) rfl dX10_put_18 ?_
  refine lv_aload_n hx hb dX10_put_21 rfl (lv_at hl 1 rfl) ?_
  refine va_get (D := (dC, dI)) (ci := 10) (v := .int z_19) (C := RX10) (T := TX10) (N := 11) hx hb hts hiX10 hown hK hP 0 rfl rfl 4 (by decide) w__fieldLink_RX10_26_ShellHeap_Tape_fed_I_ (fun _ h9 => h9) rfl dX10_put_22 ?_
  refine lv_iload_n hx hb dX10_put_25 rfl (lv_at hl 2 rfl) ?_
  refine lv_iload_n hx hb dX10_put_26 rfl (lv_at hl 0 rfl) ?_
  refine lv_iushr hx hb dX10_put_27 rfl ?_
  refine lv_topi (fun z_24 ez_24 => ?_)
  refine lv_sipush (v := 255) hx hb dX10_put_28 (by decide) ?_
  refine lv_iand hx hb dX10_put_31 ?_
  refine lv_topi (fun z_25 ez_25 => ?_)
  have kz_25 : (0 : Int) ≤ (z_25).toInt ∧ (z_25).toInt ≤ (255 : Int) := by rw [ez_25]; exact z_and _ 8 (by decide) (by decide)
  refine va_iast hx hb hK hP hD hS 1 0 rfl rfl (z_vpin (by omega) (by omega)) dX10_put_32 (fun H_26 locs hP hD hS => ?_)
  have hP : va_P (dC, dI) vwCl [(h0, .inr (10, [.ref h1, h0_1, h0_2, h0_3, .int z_19, h0_5, h0_6, h0_7, h0_8, h0_9, h0_10])), (h1, .inl (ch1, 700, .inl (upd f_17 (z_19 : Int32).toNatClampNeg z_25)))] H_26 := hP
  have hD : va_D A [(h0, .inr (10, [.ref h1, h0_1, h0_2, h0_3, .int z_19, h0_5, h0_6, h0_7, h0_8, h0_9, h0_10])), (h1, .inl (ch1, 700, .inl (upd f_17 (z_19 : Int32).toNatClampNeg z_25)))] := hD
  have hI_f_27 : ∀ j : Nat, ((0 : Int) ≤ ((upd f_17 (z_19 : Int32).toNatClampNeg z_25) j).toInt ∧ ((upd f_17 (z_19 : Int32).toNatClampNeg z_25) j).toInt ≤ (255 : Int)) := z_updP (P := fun v => ((0 : Int) ≤ (v).toInt ∧ (v).toInt ≤ (255 : Int))) hI_f_17 (show ((0 : Int) ≤ (z_25).toInt ∧ (z_25).toInt ≤ (255 : Int)) from by first | omega | decide)
  have hfe_28 : (upd f_17 (z_19 : Int32).toNatClampNeg z_25) = f_fe fh1 (tf).toNatClampNeg (f_b4 p1) 3 := f_fe_s (k := 2) hfe_18 (by have h8 : (z_19 : Int32).toNatClampNeg = (z_19).toInt.toNat := rfl; have h9 : (tf).toNatClampNeg = (tf).toInt.toNat := rfl; omega) (by rw [ez_25, ez_24]; exact f_us2 p1)
  generalize (upd f_17 (z_19 : Int32).toNatClampNeg z_25) = f_27 at hP hD hI_f_27 hfe_28
  refine lv_aload_n hx hb dX10_put_33 rfl (lv_at hl 1 rfl) ?_
  refine lv_dup hx hb dX10_put_34 rfl ?_
  refine va_get (D := (dC, dI)) (ci := 10) (v := .int z_19) (C := RX10) (T := TX10) (N := 11) hx hb hts hiX10 hown hK hP 0 rfl rfl 4 (by decide) w__fieldLink_RX10_26_ShellHeap_Tape_fed_I_ (fun _ h9 => h9) rfl dX10_put_35 ?_
  refine lv_iconst (v := 1) hx hb dX10_put_38 (by decide) ?_
  refine lv_iadd hx hb dX10_put_39 ?_
  refine lv_topi (fun z_29 ez_29 => ?_)
  have kz_29 : (z_29).toInt = (z_19).toInt + (1 : Int) := by rw [ez_29]; exact z_add (a := (z_19).toInt) (b := (1 : Int)) rfl rfl (by omega) (by omega)
  refine va_put (D := (dC, dI)) (ci := 10) (v := .int z_29) (ty := .int) (C := RX10) (T := TX10) (N := 11) hx hb hts hiX10 tyX10 tyX10_ok nmX10 hown hK hP hD hS 0 rfl rfl 4 (by decide) w__fieldLink_RX10_26_ShellHeap_Tape_fed_I_ (fun _ h9 => h9) rfl (by decide +kernel) rfl rfl (Nat.le_of_ble_eq_true rfl) dX10_put_40 (fun H_30 locs hP hD hS => ?_)
  have hP : va_P (dC, dI) vwCl [(h0, .inr (10, [.ref h1, h0_1, h0_2, h0_3, .int z_29, h0_5, h0_6, h0_7, h0_8, h0_9, h0_10])), (h1, .inl (ch1, 700, .inl f_27))] H_30 := hP
  have hD : va_D A [(h0, .inr (10, [.ref h1, h0_1, h0_2, h0_3, .int z_29, h0_5, h0_6, h0_7, h0_8, h0_9, h0_10])), (h1, .inl (ch1, 700, .inl f_27))] := hD
  refine lv_iinc (v := 0) (lv' := [(2, .int 0), (0, .ref h0), (1, .int p1)]) hx hb dX10_put_43 hl (k := 0) rfl (by decide) (by decide) rfl (fun ls hl => ?_)
  refine lv_goto (tgt := 3) hx hb dX10_put_46 (by decide) ?_
  refine lv_iload_n hx hb dX10_put_3 rfl (lv_at hl 0 rfl) ?_
  refine lv_if_lt (tgt := 49) hx hb dX10_put_4 (by decide) (fun c_31 => absurd c_31 (by decide)) (fun _ => ?_)
  refine lv_aload_n hx hb dX10_put_7 rfl (lv_at hl 1 rfl) ?_
  refine va_get (D := (dC, dI)) (ci := 10) (v := .int z_29) (C := RX10) (T := TX10) (N := 11) hx hb hts hiX10 hown hK hP 0 rfl rfl 4 (by decide) w__fieldLink_RX10_26_ShellHeap_Tape_fed_I_ (fun _ h9 => h9) rfl dX10_put_8 ?_
  refine lv_sipush (v := 700) hx hb dX10_put_11 (by decide) ?_
  refine lv_icmp_ge (tgt := 49) hx hb dX10_put_14 (by decide) (fun c_32 => ?_) (fun c_32 => ?_)
  · exfalso
    have k_33 : (700 : Int) ≤ (z_29).toInt := z_le c_32
    omega
  refine lv_aload_n hx hb dX10_put_17 rfl (lv_at hl 1 rfl) ?_
  refine va_get (D := (dC, dI)) (ci := 10) (v := .ref h1) (C := RX10) (T := TX10) (N := 11) hx hb hts hiX10 hown hK hP 0 rfl rfl 0 (by decide) w__fieldLink_RX10_11_ShellHeap_Tape_bytes_I_ (fun _ h9 => h9) rfl dX10_put_18 ?_
  refine lv_aload_n hx hb dX10_put_21 rfl (lv_at hl 1 rfl) ?_
  refine va_get (D := (dC, dI)) (ci := 10) (v := .int z_29) (C := RX10) (T := TX10) (N := 11) hx hb hts hiX10 hown hK hP 0 rfl rfl 4 (by decide) w__fieldLink_RX10_26_ShellHeap_Tape_fed_I_ (fun _ h9 => h9) rfl dX10_put_22 ?_
  refine lv_iload_n hx hb dX10_put_25 rfl (lv_at hl 2 rfl) ?_
  refine lv_iload_n hx hb dX10_put_26 rfl (lv_at hl 0 rfl) ?_
  refine lv_iushr hx hb dX10_put_27 rfl ?_
  refine lv_topi (fun z_34 ez_34 => ?_)
  refine lv_sipush (v := 255) hx hb dX10_put_28 (by decide) ?_
  refine lv_iand hx hb dX10_put_31 ?_
  refine lv_topi (fun z_35 ez_35 => ?_)
  have kz_35 : (0 : Int) ≤ (z_35).toInt ∧ (z_35).toInt ≤ (255 : Int) := by rw [ez_35]; exact z_and _ 8 (by decide) (by decide)
  refine va_iast hx hb hK hP hD hS 1 0 rfl rfl (z_vpin (by omega) (by omega)) dX10_put_32 (fun H_36 locs hP hD hS => ?_)
  have hP : va_P (dC, dI) vwCl [(h0, .inr (10, [.ref h1, h0_1, h0_2, h0_3, .int z_29, h0_5, h0_6, h0_7, h0_8, h0_9, h0_10])), (h1, .inl (ch1, 700, .inl (upd f_27 (z_29 : Int32).toNatClampNeg z_35)))] H_36 := hP
  have hD : va_D A [(h0, .inr (10, [.ref h1, h0_1, h0_2, h0_3, .int z_29, h0_5, h0_6, h0_7, h0_8, h0_9, h0_10])), (h1, .inl (ch1, 700, .inl (upd f_27 (z_29 : Int32).toNatClampNeg z_35)))] := hD
  have hI_f_37 : ∀ j : Nat, ((0 : Int) ≤ ((upd f_27 (z_29 : Int32).toNatClampNeg z_35) j).toInt ∧ ((upd f_27 (z_29 : Int32).toNatClampNeg z_35) j).toInt ≤ (255 : Int)) := z_updP (P := fun v => ((0 : Int) ≤ (v).toInt ∧ (v).toInt ≤ (255 : Int))) hI_f_27 (show ((0 : Int) ≤ (z_35).toInt ∧ (z_35).toInt ≤ (255 : Int)) from by first | omega | decide)
  have hfe_38 : (upd f_27 (z_29 : Int32).toNatClampNeg z_35) = f_fe fh1 (tf).toNatClampNeg (f_b4 p1) 4 := f_fe_s (k := 3) hfe_28 (by have h8 : (z_29 : Int32).toNatClampNeg = (z_29).toInt.toNat := rfl; have h9 : (tf).toNatClampNeg = (tf).toInt.toNat := rfl; omega) (by rw [ez_35, ez_34]; exact f_us3 p1)
  generalize (upd f_27 (z_29 : Int32).toNatClampNeg z_35) = f_37 at hP hD hI_f_37 hfe_38
  refine lv_aload_n hx hb dX10_put_33 rfl (lv_at hl 1 rfl) ?_
  refine lv_dup hx hb dX10_put_34 rfl ?_
  refine va_get (D := (dC, dI)) (ci := 10) (v := .int z_29) (C := RX10) (T := TX10) (N := 11) hx hb hts hiX10 hown hK hP 0 rfl rfl 4 (by decide) w__fieldLink_RX10_26_ShellHeap_Tape_fed_I_ (fun _ h9 => h9) rfl dX10_put_35 ?_
  refine lv_iconst (v := 1) hx hb dX10_put_38 (by decide) ?_
  refine lv_iadd hx hb dX10_put_39 ?_
  refine lv_topi (fun z_39 ez_39 => ?_)
  have kz_39 : (z_39).toInt = (z_29).toInt + (1 : Int) := by rw [ez_39]; exact z_add (a := (z_29).toInt) (b := (1 : Int)) rfl rfl (by omega) (by omega)
  refine va_put (D := (dC, dI)) (ci := 10) (v := .int z_39) (ty := .int) (C := RX10) (T := TX10) (N := 11) hx hb hts hiX10 tyX10 tyX10_ok nmX10 hown hK hP hD hS 0 rfl rfl 4 (by decide) w__fieldLink_RX10_26_ShellHeap_Tape_fed_I_ (fun _ h9 => h9) rfl (by decide +kernel) rfl rfl (Nat.le_of_ble_eq_true rfl) dX10_put_40 (fun H_40 locs hP hD hS => ?_)
  have hP : va_P (dC, dI) vwCl [(h0, .inr (10, [.ref h1, h0_1, h0_2, h0_3, .int z_39, h0_5, h0_6, h0_7, h0_8, h0_9, h0_10])), (h1, .inl (ch1, 700, .inl f_37))] H_40 := hP
  have hD : va_D A [(h0, .inr (10, [.ref h1, h0_1, h0_2, h0_3, .int z_39, h0_5, h0_6, h0_7, h0_8, h0_9, h0_10])), (h1, .inl (ch1, 700, .inl f_37))] := hD
  refine lv_iinc (v := (-8)) (lv' := [(2, .int (-8)), (0, .ref h0), (1, .int p1)]) hx hb dX10_put_43 hl (k := 0) rfl (by decide) (by decide) rfl (fun ls hl => ?_)
  refine lv_goto (tgt := 3) hx hb dX10_put_46 (by decide) ?_
  refine lv_iload_n hx hb dX10_put_3 rfl (lv_at hl 0 rfl) ?_
  refine lv_if_lt (tgt := 49) hx hb dX10_put_4 (by decide) (fun _ => ?_) (fun c_41 => absurd (by decide) c_41)
  have hP9 := hP.sub (ws' := [(h0, .inr (10, [.ref h1, h0_1, h0_2, h0_3, .int z_39, h0_5, h0_6, h0_7, h0_8, h0_9, h0_10])), (h1, .inl (ch1, 700, .inl f_37))]) [0, 1] rfl
  have hD9 := hD.sub (ws' := [(h0, .inr (10, [.ref h1, h0_1, h0_2, h0_3, .int z_39, h0_5, h0_6, h0_7, h0_8, h0_9, h0_10])), (h1, .inl (ch1, 700, .inl f_37))]) [0, 1] (by decide) rfl
  have hK9 := hK.sub (tys' := []) [] rfl
  refine W.widen (k := 0) (n := 0) (Nat.le_of_ble_eq_true rfl) (Nat.le_of_ble_eq_true rfl) ?_
  exact W.vret hx hb hr (fun t ht hW => ⟨⟨(), rfl, trivial, ⟨z_39, f_37, (by first | omega | decide), hI_f_37, (show z_39.toInt = tf.toInt + 4 by omega), (show f_37 = f_fe fh1 tf.toNatClampNeg (f_b4 p1) 4 from hfe_38), by rw [ht]; exact hP9, va_K.moved hW.alike hK9, hD9⟩⟩, hS.F ht⟩) hS.2.2 dX10_put_49
def u_s_X10_hasRoomA : List Cond := .code yX10_hasRoom cX10_hasRoom 1 (some .boolean) :: ([.fieldLink RX10 26 "ShellHeap$Tape" "fed" "I"] ++ wsX100)
set_option maxHeartbeats 4000000 in
set_option maxRecDepth 100000 in
theorem s_X10_hasRoomA (l : Launch) (dC : Nat → ClassId) (dI : Nat → Nat → Nat) (sz : Nat) (h0 : Nat) (h0_0 : Value) (h0_1 : Value) (h0_2 : Value) (h0_3 : Value) (tf : Int32) (h0_5 : Value) (h0_6 : Value) (h0_7 : Value) (h0_8 : Value) (h0_9 : Value) (h0_10 : Value) (hB_tf : ((0 : Int) ≤ (tf).toInt ∧ (tf).toInt ≤ (700 : Int))) : Met l yX10_hasRoom u_s_X10_hasRoomA ({ frames := 0, cells := 0, slots := 0, locals := 0 }) (va_Pc [.ref h0] (z_C (dC, dI) vwCl [(h0, .inr (10, [h0_0, h0_1, h0_2, h0_3, .int tf, h0_5, h0_6, h0_7, h0_8, h0_9, h0_10]))] [] sz)) (va_Qi (fun (r : Int32) (_ : Unit) => (r = 1 ∧ (tf.toInt ≤ 680)) ∨ (r = 0 ∧ (680 < tf.toInt))) (fun (_ : Unit) (_ : State) => True) (va_A [] sz)) 0 0 (va_A [] sz) := by
  refine Met.ofW (cc := cX10_hasRoom) (maxL := 1) (ret := (some .boolean)) (by decide) rfl ?_
  intro p e s m args below meth c s₁ B hml hv
  obtain ⟨rfl, hsz, hP, hK, hD0⟩ := hv
  have hx := B.exec
  have hb := B.bytes
  have hr := B.returns
  have hts := atoms_spec (ws := u_s_X10_hasRoomA) B.pre
  have hown : s.vm.findClass RX10 = some m.cls := findClass_of_methodNamed B.named
  have hlocks := B.notSynchronized
  subst hsz
  have hD := hD0
  generalize hAe : va_A [] s.heap.size = A
  have hA : ∀ q : Nat, s.heap.size ≤ q → A q := fun q h => by rw [← hAe]; exact Or.inr h
  have hS : va_S A s.heap s.heap [] := va_S.rf
  have hP : va_P (dC, dI) vwCl [(h0, .inr (10, [h0_0, h0_1, h0_2, h0_3, .int tf, h0_5, h0_6, h0_7, h0_8, h0_9, h0_10]))] s.heap := hP
  have w__fieldLink_RX10_26_ShellHeap_Tape_fed_I_ := hts (.fieldLink RX10 26 "ShellHeap$Tape" "fed" "I") (by decide +kernel)
  have hiX10 := show ∀ w ∈ u_ws RX10 TX10 11, w ∈ u_s_X10_hasRoomA by decide +kernel
  have hl := lv_entry ([.ref h0]) (n := 1) (Nat.le_of_ble_eq_true rfl)
  rw [lg_entry_eq]
  generalize (lg_sl ([.ref h0]) ++ List.replicate (1 - (lg_sl ([.ref h0])).length) Slot.unset).toArray = ls at hl ⊢
  have hl : lv_has ls 1 [(0, .ref h0)] := hl
  refine lv_aload_n hx hb dX10_hasRoom_0 rfl (lv_at hl 0 rfl) ?_
  refine va_get (D := (dC, dI)) (ci := 10) (v := .int tf) (C := RX10) (T := TX10) (N := 11) hx hb hts hiX10 hown hK hP 0 rfl rfl 4 (by decide) w__fieldLink_RX10_26_ShellHeap_Tape_fed_I_ (fun _ h9 => h9) rfl dX10_hasRoom_1 ?_
  refine lv_bipush (v := 20) hx hb dX10_hasRoom_4 (by decide) ?_
  refine lv_iadd hx hb dX10_hasRoom_6 ?_
  refine lv_topi (fun z_1 ez_1 => ?_)
  have kz_1 : (z_1).toInt = (tf).toInt + (20 : Int) := by rw [ez_1]; exact z_add (a := (tf).toInt) (b := (20 : Int)) rfl rfl (by omega) (by omega)
  refine lv_sipush (v := 700) hx hb dX10_hasRoom_7 (by decide) ?_
  refine lv_icmp_gt (tgt := 17) hx hb dX10_hasRoom_10 (by decide) (fun c_2 => ?_) (fun c_2 => ?_)
  · have k_3 : (700 : Int) < (z_1).toInt := z_lt c_2
    refine lv_iconst (v := 0) hx hb dX10_hasRoom_17 (by decide) ?_
    refine W.widen (k := 0) (n := 0) (Nat.le_of_ble_eq_true rfl) (Nat.le_of_ble_eq_true rfl) ?_
    exact W.zret (v := 0) hx hb hr (by rfl) (fun t ht hW => ⟨⟨0, (), rfl, (Or.inr (⟨rfl, by first | omega | decide⟩)), trivial⟩, hS.F ht⟩) hS.2.2 dX10_hasRoom_18
  · have k_4 : (700 : Int) ≥ (z_1).toInt := z_nlt c_2
    refine lv_iconst (v := 1) hx hb dX10_hasRoom_13 (by decide) ?_
    refine lv_goto (tgt := 18) hx hb dX10_hasRoom_14 (by decide) ?_
    refine W.widen (k := 0) (n := 0) (Nat.le_of_ble_eq_true rfl) (Nat.le_of_ble_eq_true rfl) ?_
    exact W.zret (v := 1) hx hb hr (by rfl) (fun t ht hW => ⟨⟨1, (), rfl, (Or.inl (⟨rfl, by first | omega | decide⟩)), trivial⟩, hS.F ht⟩) hS.2.2 dX10_hasRoom_18
def u_s_X11_feed3 : List Cond := .code yX11_feed cX11_feed 6 (some .int) :: ([.fieldLink RX11 10 "ShellHeap" "tape" "LShellHeap$Tape;", .methodLink RX11 87 yX10_hasRoom, .instanceMethod yX10_hasRoom, .selects RX10 yX10_hasRoom yX10_hasRoom, .initialized RX10, .code yX10_hasRoom cX10_hasRoom 1 (some .boolean), .fieldLink RX10 26 "ShellHeap$Tape" "fed" "I", .methodLink RX11 91 yX10_put, .instanceMethod yX10_put, .selects RX10 yX10_put yX10_put, .code yX10_put cX10_put 3 none, .fieldLink RX10 11 "ShellHeap$Tape" "bytes" "[I", .fieldLink RX11 95 "ShellHeap$Tape" "fed" "I"] ++ wsX110 ++ wsX100)
set_option maxRecDepth 20000 in
theorem gw_s_X11_feed3_s_X10_hasRoomA_87 : GoodIn u_s_X11_feed3 (wsV RX11 87 RX10 yX10_hasRoom u_s_X10_hasRoomA) := z_gr _ [2, 3, 4, 5, 6, 7, 24, 25, 26, 27, 28, 29, 30, 31, 32, 33, 34] rfl (by decide +kernel)
set_option maxRecDepth 20000 in
theorem gw_s_X11_feed3_s_X10_put3_91 : GoodIn u_s_X11_feed3 (wsV RX11 91 RX10 yX10_put u_s_X10_put3) := z_gr _ [8, 9, 10, 5, 11, 7, 12, 24, 25, 26, 27, 28, 29, 30, 31, 32, 33, 34] rfl (by decide +kernel)
set_option maxHeartbeats 4000000 in
set_option maxRecDepth 100000 in
theorem s_X11_feed3 (l : Launch) (dC : Nat → ClassId) (dI : Nat → Nat → Nat) (sz : Nat) (h0 : Nat) (p1 : Int32) (p2 : Int32) (p3 : Int32) (p4 : Int32) (p5 : Int32) (htp : Nat) (h0_1 : Value) (h0_2 : Value) (h0_3 : Value) (h0_4 : Value) (h0_5 : Value) (h0_6 : Value) (h0_7 : Value) (h0_8 : Value) (h0_9 : Value) (h1 : Nat) (htp_1 : Value) (htp_2 : Value) (htp_3 : Value) (tf : Int32) (htp_5 : Value) (htp_6 : Value) (htp_7 : Value) (htp_8 : Value) (htp_9 : Value) (htp_10 : Value) (ch1 : ClassId) (fh1 : Nat → Int32) (hB_tf : ((0 : Int) ≤ (tf).toInt ∧ (tf).toInt ≤ (700 : Int))) (hI_h1 : ∀ j : Nat, ((0 : Int) ≤ (fh1 j).toInt ∧ (fh1 j).toInt ≤ (255 : Int))) : Met l yX11_feed u_s_X11_feed3 ({ frames := 1, cells := 0, slots := 0, locals := 22 }) (va_Pc [.ref h0, .int p1, .int p2, .int p3, .int p4, .int p5] (z_C (dC, dI) vwCl [(h0, .inr (11, [.ref htp, h0_1, h0_2, h0_3, h0_4, h0_5, h0_6, h0_7, h0_8, h0_9])), (htp, .inr (10, [.ref h1, htp_1, htp_2, htp_3, .int tf, htp_5, htp_6, htp_7, htp_8, htp_9, htp_10])), (h1, .inl (ch1, 700, .inl fh1))] [(ch1, .int)] sz)) (va_Qi (fun (r : Int32) (_ : Unit) => r = v_feA tf) (fun (_ : Unit) (t : State) => ∃ (n_htp_fed : Int32), ∃ (g_h1 : Nat → Int32), ((0 : Int) ≤ (n_htp_fed).toInt ∧ (n_htp_fed).toInt ≤ (700 : Int)) ∧ (∀ j : Nat, ((0 : Int) ≤ (g_h1 j).toInt ∧ (g_h1 j).toInt ≤ (255 : Int))) ∧ (n_htp_fed = v_feN tf) ∧ (g_h1 = v_feB fh1 tf p1 p2 p3 p4 p5) ∧ va_P (dC, dI) vwCl [(h0, .inr (11, [.ref htp, h0_1, h0_2, h0_3, h0_4, h0_5, h0_6, h0_7, h0_8, h0_9])), (htp, .inr (10, [.ref h1, htp_1, htp_2, htp_3, .int n_htp_fed, htp_5, htp_6, htp_7, htp_8, htp_9, htp_10])), (h1, .inl (ch1, 700, .inl g_h1))] t.heap ∧ va_K (dC, dI) vwCl [] t ∧ va_D (va_A [(h0, .inr (11, [.ref htp, h0_1, h0_2, h0_3, h0_4, h0_5, h0_6, h0_7, h0_8, h0_9])), (htp, .inr (10, [.ref h1, htp_1, htp_2, htp_3, .int tf, htp_5, htp_6, htp_7, htp_8, htp_9, htp_10])), (h1, .inl (ch1, 700, .inl fh1))] sz) [(h0, .inr (11, [.ref htp, h0_1, h0_2, h0_3, h0_4, h0_5, h0_6, h0_7, h0_8, h0_9])), (htp, .inr (10, [.ref h1, htp_1, htp_2, htp_3, .int n_htp_fed, htp_5, htp_6, htp_7, htp_8, htp_9, htp_10])), (h1, .inl (ch1, 700, .inl g_h1))]) (va_A [(h0, .inr (11, [.ref htp, h0_1, h0_2, h0_3, h0_4, h0_5, h0_6, h0_7, h0_8, h0_9])), (htp, .inr (10, [.ref h1, htp_1, htp_2, htp_3, .int tf, htp_5, htp_6, htp_7, htp_8, htp_9, htp_10])), (h1, .inl (ch1, 700, .inl fh1))] sz)) 0 0 (va_A [(h0, .inr (11, [.ref htp, h0_1, h0_2, h0_3, h0_4, h0_5, h0_6, h0_7, h0_8, h0_9])), (htp, .inr (10, [.ref h1, htp_1, htp_2, htp_3, .int tf, htp_5, htp_6, htp_7, htp_8, htp_9, htp_10])), (h1, .inl (ch1, 700, .inl fh1))] sz) := by
  refine Met.ofW (cc := cX11_feed) (maxL := 6) (ret := (some .int)) (by decide) rfl ?_
  intro p e s m args below meth c s₁ B hml hv
  obtain ⟨rfl, hsz, hP, hK, hD0⟩ := hv
  have hx := B.exec
  have hb := B.bytes
  have hr := B.returns
  have hts := atoms_spec (ws := u_s_X11_feed3) B.pre
  have hown : s.vm.findClass RX11 = some m.cls := findClass_of_methodNamed B.named
  have hlocks := B.notSynchronized
  subst hsz
  have hD := hD0.self (sz := s.heap.size)
  generalize hAe : va_A [(h0, .inr (11, [.ref htp, h0_1, h0_2, h0_3, h0_4, h0_5, h0_6, h0_7, h0_8, h0_9])), (htp, .inr (10, [.ref h1, htp_1, htp_2, htp_3, .int tf, htp_5, htp_6, htp_7, htp_8, htp_9, htp_10])), (h1, .inl (ch1, 700, .inl fh1))] s.heap.size = A at hD ⊢
  have hA : ∀ q : Nat, s.heap.size ≤ q → A q := fun q h => by rw [← hAe]; exact Or.inr h
  have hS : va_S A s.heap s.heap [] := va_S.rf
  have hP : va_P (dC, dI) vwCl [(h0, .inr (11, [.ref htp, h0_1, h0_2, h0_3, h0_4, h0_5, h0_6, h0_7, h0_8, h0_9])), (htp, .inr (10, [.ref h1, htp_1, htp_2, htp_3, .int tf, htp_5, htp_6, htp_7, htp_8, htp_9, htp_10])), (h1, .inl (ch1, 700, .inl fh1))] s.heap := hP
  have w__fieldLink_RX11_10_ShellHeap_tape_LShellHeap_Tape_ := hts (.fieldLink RX11 10 "ShellHeap" "tape" "LShellHeap$Tape;") (by decide +kernel)
  have hiX11 := show ∀ w ∈ u_ws RX11 TX11 10, w ∈ u_s_X11_feed3 by decide +kernel
  have w__fieldLink_RX11_95_ShellHeap_Tape_fed_I_ := hts (.fieldLink RX11 95 "ShellHeap$Tape" "fed" "I") (by decide +kernel)
  have hiX10 := show ∀ w ∈ u_ws RX10 TX10 11, w ∈ u_s_X11_feed3 by decide +kernel
  have krr_p1 := z_rng p1
  have krr_p2 := z_rng p2
  have krr_p3 := z_rng p3
  have krr_p4 := z_rng p4
  have krr_p5 := z_rng p5
  have hl := lv_entry ([.ref h0, .int p1, .int p2, .int p3, .int p4, .int p5]) (n := 6) (Nat.le_of_ble_eq_true rfl)
  rw [lg_entry_eq]
  generalize (lg_sl ([.ref h0, .int p1, .int p2, .int p3, .int p4, .int p5]) ++ List.replicate (6 - (lg_sl ([.ref h0, .int p1, .int p2, .int p3, .int p4, .int p5])).length) Slot.unset).toArray = ls at hl ⊢
  have hl : lv_has ls 6 [(0, .ref h0), (1, .int p1), (2, .int p2), (3, .int p3), (4, .int p4), (5, .int p5)] := hl
  refine lv_aload_n hx hb dX11_feed_0 rfl (lv_at hl 0 rfl) ?_
  refine va_get (D := (dC, dI)) (ci := 11) (v := .ref htp) (C := RX11) (T := TX11) (N := 10) hx hb hts hiX11 hown hK hP 0 rfl rfl 0 (by decide) w__fieldLink_RX11_10_ShellHeap_tape_LShellHeap_Tape_ (fun _ h9 => h9) rfl dX11_feed_1 ?_
  have hPc := hP.sub (ws' := [(htp, .inr (10, [.ref h1, htp_1, htp_2, htp_3, .int tf, htp_5, htp_6, htp_7, htp_8, htp_9, htp_10]))]) [1] rfl
  have hDc := hD.sub (ws' := [(htp, .inr (10, [.ref h1, htp_1, htp_2, htp_3, .int tf, htp_5, htp_6, htp_7, htp_8, htp_9, htp_10]))]) [1] (by decide) rfl
  have hKc := hK.sub (tys' := []) [] rfl
  have hFc := va_free (ws := []) (wc := []) (z_D0 _) hS hA [] rfl
  refine va_calli (va_runV (As := []) (rest := []) ⟨hx, hb, hml, hown, hts⟩ (s_X10_hasRoomA l dC dI s.heap.size htp (.ref h1) htp_1 htp_2 htp_3 tf htp_5 htp_6 htp_7 htp_8 htp_9 htp_10 (by first | omega | decide)) (cwV 0 hts gw_s_X11_feed3_s_X10_hasRoomA_87 rfl rfl rfl (by decide +kernel) ⟨Nat.le_of_ble_eq_true rfl, Nat.le_of_ble_eq_true rfl⟩) ⟨z_blind, va_recv hKc hPc (ci := 10) (q0 := 0) rfl rfl, z_pre hPc hKc hDc⟩ rfl rfl hl.1 rfl (lv_room (Nat.le_of_ble_eq_true rfl)) dX11_feed_4 ⟨Nat.le_of_ble_eq_true rfl, Nat.le_of_ble_eq_true rfl⟩) hS (fun q _ h => hFc q h) hFc (fun r_2 u t H_1 locs ht hvm hw_3 hB hz1 hk1 hS => ?_)
  have hP := z_pure hP hk1
  have hP : va_P (dC, dI) vwCl [(h0, .inr (11, [.ref htp, h0_1, h0_2, h0_3, h0_4, h0_5, h0_6, h0_7, h0_8, h0_9])), (htp, .inr (10, [.ref h1, htp_1, htp_2, htp_3, .int tf, htp_5, htp_6, htp_7, htp_8, htp_9, htp_10])), (h1, .inl (ch1, 700, .inl fh1))] H_1 := hP
  have hD : va_D A [(h0, .inr (11, [.ref htp, h0_1, h0_2, h0_3, h0_4, h0_5, h0_6, h0_7, h0_8, h0_9])), (htp, .inr (10, [.ref h1, htp_1, htp_2, htp_3, .int tf, htp_5, htp_6, htp_7, htp_8, htp_9, htp_10])), (h1, .inl (ch1, 700, .inl fh1))] := hD
  clear hPc hDc hKc
  rcases hw_3 with ⟨rfl, hw_3⟩ | ⟨rfl, hw_3⟩
  · have hw_3 : (tf.toInt ≤ 680) := hw_3
    refine lv_if_ne (tgt := 12) hx hb dX11_feed_7 (by decide) (fun _ => ?_) (fun c_4 => absurd c_4 (by decide))
    refine lv_aload_n hx hb dX11_feed_12 rfl (lv_at hl 0 rfl) ?_
    refine va_get (D := (dC, dI)) (ci := 11) (v := .ref htp) (C := RX11) (T := TX11) (N := 10) hx hb hts hiX11 hown hK hP 0 rfl rfl 0 (by decide) w__fieldLink_RX11_10_ShellHeap_tape_LShellHeap_Tape_ (fun _ h9 => h9) rfl dX11_feed_13 ?_
    refine lv_iload_n hx hb dX11_feed_16 rfl (lv_at hl 1 rfl) ?_
    have hPc := hP.sub (ws' := [(htp, .inr (10, [.ref h1, htp_1, htp_2, htp_3, .int tf, htp_5, htp_6, htp_7, htp_8, htp_9, htp_10])), (h1, .inl (ch1, 700, .inl fh1))]) [1, 2] rfl
    have hDc := hD.sub (ws' := [(htp, .inr (10, [.ref h1, htp_1, htp_2, htp_3, .int tf, htp_5, htp_6, htp_7, htp_8, htp_9, htp_10])), (h1, .inl (ch1, 700, .inl fh1))]) [1, 2] (by decide) rfl
    have hKc := hK.sub (tys' := [(ch1, .int)]) [0] rfl
    have hFc := va_free (wc := [(htp, .inr (10, [.ref h1, htp_1, htp_2, htp_3, .int tf, htp_5, htp_6, htp_7, htp_8, htp_9, htp_10])), (h1, .inl (ch1, 700, .inl fh1))]) hD hS hA [1, 2] rfl
    refine va_callv (va_runV (As := [.int p1]) (rest := []) ⟨hx, hb, hml, hown, hts⟩ (s_X10_put3 l dC dI H_1.size htp p1 h1 htp_1 htp_2 htp_3 tf htp_5 htp_6 htp_7 htp_8 htp_9 htp_10 ch1 fh1 (by first | omega | decide) hI_h1) (cwV 1 hts gw_s_X11_feed3_s_X10_put3_91 rfl rfl rfl (by decide +kernel) ⟨Nat.le_of_ble_eq_true rfl, Nat.le_of_ble_eq_true rfl⟩) ⟨z_blind, va_recv hKc hPc (ci := 10) (q0 := 0) rfl rfl, z_pre hPc hKc hDc⟩ rfl rfl hl.1 rfl (lv_room (Nat.le_of_ble_eq_true rfl)) dX11_feed_17 ⟨Nat.le_of_ble_eq_true rfl, Nat.le_of_ble_eq_true rfl⟩) hS (fun q _ h => hFc q h) hFc (fun u t H_5 locs ht hvm hw_7 hB hz1 hk1 hS => ?_)
    obtain ⟨n_h0_fed_8, g_h1_9, hp_10, hp_11, hp_12, hp_13, hP1, hK1, hD1⟩ := hB
    rw [ht] at hP1
    have hK1 := va_K.moved hvm.symm hK1
    obtain ⟨hP, hD⟩ := va_join (wr := [(h0, .inr (11, [.ref htp, h0_1, h0_2, h0_3, h0_4, h0_5, h0_6, h0_7, h0_8, h0_9]))]) (w1 := [(htp, .inr (10, [.ref h1, htp_1, htp_2, htp_3, .int n_h0_fed_8, htp_5, htp_6, htp_7, htp_8, htp_9, htp_10])), (h1, .inl (ch1, 700, .inl g_h1_9))]) hP hD [1, 2] [0] rfl rfl (by decide) (by decide) hk1 hFc hP1 hD1
    have hp_12 : n_h0_fed_8.toInt = tf.toInt + 4 := hp_12
    have hp_13 : g_h1_9 = f_fe fh1 tf.toNatClampNeg (f_b4 p1) 4 := hp_13
    have hP : va_P (dC, dI) vwCl [(h0, .inr (11, [.ref htp, h0_1, h0_2, h0_3, h0_4, h0_5, h0_6, h0_7, h0_8, h0_9])), (htp, .inr (10, [.ref h1, htp_1, htp_2, htp_3, .int n_h0_fed_8, htp_5, htp_6, htp_7, htp_8, htp_9, htp_10])), (h1, .inl (ch1, 700, .inl g_h1_9))] H_5 := hP
    have hD : va_D A [(h0, .inr (11, [.ref htp, h0_1, h0_2, h0_3, h0_4, h0_5, h0_6, h0_7, h0_8, h0_9])), (htp, .inr (10, [.ref h1, htp_1, htp_2, htp_3, .int n_h0_fed_8, htp_5, htp_6, htp_7, htp_8, htp_9, htp_10])), (h1, .inl (ch1, 700, .inl g_h1_9))] := hD
    clear hPc hDc hKc
    have hfd_14 := f_fe_j (w := f_by p1 p2 p3 p4 p5) (k := 0) rfl hp_13 (Nat.add_zero _).symm (f_by4_0 p1 p2 p3 p4 p5)
    refine lv_aload_n hx hb dX11_feed_20 rfl (lv_at hl 0 rfl) ?_
    refine va_get (D := (dC, dI)) (ci := 11) (v := .ref htp) (C := RX11) (T := TX11) (N := 10) hx hb hts hiX11 hown hK hP 0 rfl rfl 0 (by decide) w__fieldLink_RX11_10_ShellHeap_tape_LShellHeap_Tape_ (fun _ h9 => h9) rfl dX11_feed_21 ?_
    refine lv_iload_n hx hb dX11_feed_24 rfl (lv_at hl 2 rfl) ?_
    have hPc := hP.sub (ws' := [(htp, .inr (10, [.ref h1, htp_1, htp_2, htp_3, .int n_h0_fed_8, htp_5, htp_6, htp_7, htp_8, htp_9, htp_10])), (h1, .inl (ch1, 700, .inl g_h1_9))]) [1, 2] rfl
    have hDc := hD.sub (ws' := [(htp, .inr (10, [.ref h1, htp_1, htp_2, htp_3, .int n_h0_fed_8, htp_5, htp_6, htp_7, htp_8, htp_9, htp_10])), (h1, .inl (ch1, 700, .inl g_h1_9))]) [1, 2] (by decide) rfl
    have hKc := hK.sub (tys' := [(ch1, .int)]) [0] rfl
    have hFc := va_free (wc := [(htp, .inr (10, [.ref h1, htp_1, htp_2, htp_3, .int n_h0_fed_8, htp_5, htp_6, htp_7, htp_8, htp_9, htp_10])), (h1, .inl (ch1, 700, .inl g_h1_9))]) hD hS hA [1, 2] rfl
    refine va_callv (va_runV (As := [.int p2]) (rest := []) ⟨hx, hb, hml, hown, hts⟩ (s_X10_put3 l dC dI H_5.size htp p2 h1 htp_1 htp_2 htp_3 n_h0_fed_8 htp_5 htp_6 htp_7 htp_8 htp_9 htp_10 ch1 g_h1_9 (by first | omega | decide) hp_11) (cwV 1 hts gw_s_X11_feed3_s_X10_put3_91 rfl rfl rfl (by decide +kernel) ⟨Nat.le_of_ble_eq_true rfl, Nat.le_of_ble_eq_true rfl⟩) ⟨z_blind, va_recv hKc hPc (ci := 10) (q0 := 0) rfl rfl, z_pre hPc hKc hDc⟩ rfl rfl hl.1 rfl (lv_room (Nat.le_of_ble_eq_true rfl)) dX11_feed_25 ⟨Nat.le_of_ble_eq_true rfl, Nat.le_of_ble_eq_true rfl⟩) hS (fun q _ h => hFc q h) hFc (fun u t H_15 locs ht hvm hw_17 hB hz1 hk1 hS => ?_)
    obtain ⟨n_h0_fed_18, g_h1_19, hp_20, hp_21, hp_22, hp_23, hP1, hK1, hD1⟩ := hB
    rw [ht] at hP1
    have hK1 := va_K.moved hvm.symm hK1
    obtain ⟨hP, hD⟩ := va_join (wr := [(h0, .inr (11, [.ref htp, h0_1, h0_2, h0_3, h0_4, h0_5, h0_6, h0_7, h0_8, h0_9]))]) (w1 := [(htp, .inr (10, [.ref h1, htp_1, htp_2, htp_3, .int n_h0_fed_18, htp_5, htp_6, htp_7, htp_8, htp_9, htp_10])), (h1, .inl (ch1, 700, .inl g_h1_19))]) hP hD [1, 2] [0] rfl rfl (by decide) (by decide) hk1 hFc hP1 hD1
    have hp_22 : n_h0_fed_18.toInt = n_h0_fed_8.toInt + 4 := hp_22
    have hp_23 : g_h1_19 = f_fe g_h1_9 n_h0_fed_8.toNatClampNeg (f_b4 p2) 4 := hp_23
    have hP : va_P (dC, dI) vwCl [(h0, .inr (11, [.ref htp, h0_1, h0_2, h0_3, h0_4, h0_5, h0_6, h0_7, h0_8, h0_9])), (htp, .inr (10, [.ref h1, htp_1, htp_2, htp_3, .int n_h0_fed_18, htp_5, htp_6, htp_7, htp_8, htp_9, htp_10])), (h1, .inl (ch1, 700, .inl g_h1_19))] H_15 := hP
    have hD : va_D A [(h0, .inr (11, [.ref htp, h0_1, h0_2, h0_3, h0_4, h0_5, h0_6, h0_7, h0_8, h0_9])), (htp, .inr (10, [.ref h1, htp_1, htp_2, htp_3, .int n_h0_fed_18, htp_5, htp_6, htp_7, htp_8, htp_9, htp_10])), (h1, .inl (ch1, 700, .inl g_h1_19))] := hD
    clear hPc hDc hKc
    have hfd_24 := f_fe_j hfd_14 hp_23 (by have h8 : (n_h0_fed_8 : Int32).toNatClampNeg = (n_h0_fed_8).toInt.toNat := rfl; have h9 : (tf).toNatClampNeg = (tf).toInt.toNat := rfl; omega) (f_by4_1 p1 p2 p3 p4 p5)
    refine lv_aload_n hx hb dX11_feed_28 rfl (lv_at hl 0 rfl) ?_
    refine va_get (D := (dC, dI)) (ci := 11) (v := .ref htp) (C := RX11) (T := TX11) (N := 10) hx hb hts hiX11 hown hK hP 0 rfl rfl 0 (by decide) w__fieldLink_RX11_10_ShellHeap_tape_LShellHeap_Tape_ (fun _ h9 => h9) rfl dX11_feed_29 ?_
    refine lv_iload_n hx hb dX11_feed_32 rfl (lv_at hl 3 rfl) ?_
    have hPc := hP.sub (ws' := [(htp, .inr (10, [.ref h1, htp_1, htp_2, htp_3, .int n_h0_fed_18, htp_5, htp_6, htp_7, htp_8, htp_9, htp_10])), (h1, .inl (ch1, 700, .inl g_h1_19))]) [1, 2] rfl
    have hDc := hD.sub (ws' := [(htp, .inr (10, [.ref h1, htp_1, htp_2, htp_3, .int n_h0_fed_18, htp_5, htp_6, htp_7, htp_8, htp_9, htp_10])), (h1, .inl (ch1, 700, .inl g_h1_19))]) [1, 2] (by decide) rfl
    have hKc := hK.sub (tys' := [(ch1, .int)]) [0] rfl
    have hFc := va_free (wc := [(htp, .inr (10, [.ref h1, htp_1, htp_2, htp_3, .int n_h0_fed_18, htp_5, htp_6, htp_7, htp_8, htp_9, htp_10])), (h1, .inl (ch1, 700, .inl g_h1_19))]) hD hS hA [1, 2] rfl
    refine va_callv (va_runV (As := [.int p3]) (rest := []) ⟨hx, hb, hml, hown, hts⟩ (s_X10_put3 l dC dI H_15.size htp p3 h1 htp_1 htp_2 htp_3 n_h0_fed_18 htp_5 htp_6 htp_7 htp_8 htp_9 htp_10 ch1 g_h1_19 (by first | omega | decide) hp_21) (cwV 1 hts gw_s_X11_feed3_s_X10_put3_91 rfl rfl rfl (by decide +kernel) ⟨Nat.le_of_ble_eq_true rfl, Nat.le_of_ble_eq_true rfl⟩) ⟨z_blind, va_recv hKc hPc (ci := 10) (q0 := 0) rfl rfl, z_pre hPc hKc hDc⟩ rfl rfl hl.1 rfl (lv_room (Nat.le_of_ble_eq_true rfl)) dX11_feed_33 ⟨Nat.le_of_ble_eq_true rfl, Nat.le_of_ble_eq_true rfl⟩) hS (fun q _ h => hFc q h) hFc (fun u t H_25 locs ht hvm hw_27 hB hz1 hk1 hS => ?_)
    obtain ⟨n_h0_fed_28, g_h1_29, hp_30, hp_31, hp_32, hp_33, hP1, hK1, hD1⟩ := hB
    rw [ht] at hP1
    have hK1 := va_K.moved hvm.symm hK1
    obtain ⟨hP, hD⟩ := va_join (wr := [(h0, .inr (11, [.ref htp, h0_1, h0_2, h0_3, h0_4, h0_5, h0_6, h0_7, h0_8, h0_9]))]) (w1 := [(htp, .inr (10, [.ref h1, htp_1, htp_2, htp_3, .int n_h0_fed_28, htp_5, htp_6, htp_7, htp_8, htp_9, htp_10])), (h1, .inl (ch1, 700, .inl g_h1_29))]) hP hD [1, 2] [0] rfl rfl (by decide) (by decide) hk1 hFc hP1 hD1
    have hp_32 : n_h0_fed_28.toInt = n_h0_fed_18.toInt + 4 := hp_32
    have hp_33 : g_h1_29 = f_fe g_h1_19 n_h0_fed_18.toNatClampNeg (f_b4 p3) 4 := hp_33
    have hP : va_P (dC, dI) vwCl [(h0, .inr (11, [.ref htp, h0_1, h0_2, h0_3, h0_4, h0_5, h0_6, h0_7, h0_8, h0_9])), (htp, .inr (10, [.ref h1, htp_1, htp_2, htp_3, .int n_h0_fed_28, htp_5, htp_6, htp_7, htp_8, htp_9, htp_10])), (h1, .inl (ch1, 700, .inl g_h1_29))] H_25 := hP
    have hD : va_D A [(h0, .inr (11, [.ref htp, h0_1, h0_2, h0_3, h0_4, h0_5, h0_6, h0_7, h0_8, h0_9])), (htp, .inr (10, [.ref h1, htp_1, htp_2, htp_3, .int n_h0_fed_28, htp_5, htp_6, htp_7, htp_8, htp_9, htp_10])), (h1, .inl (ch1, 700, .inl g_h1_29))] := hD
    clear hPc hDc hKc
    have hfd_34 := f_fe_j hfd_24 hp_33 (by have h8 : (n_h0_fed_18 : Int32).toNatClampNeg = (n_h0_fed_18).toInt.toNat := rfl; have h9 : (tf).toNatClampNeg = (tf).toInt.toNat := rfl; omega) (f_by4_2 p1 p2 p3 p4 p5)
    refine lv_aload_n hx hb dX11_feed_36 rfl (lv_at hl 0 rfl) ?_
    refine va_get (D := (dC, dI)) (ci := 11) (v := .ref htp) (C := RX11) (T := TX11) (N := 10) hx hb hts hiX11 hown hK hP 0 rfl rfl 0 (by decide) w__fieldLink_RX11_10_ShellHeap_tape_LShellHeap_Tape_ (fun _ h9 => h9) rfl dX11_feed_37 ?_
    refine lv_iload hx hb dX11_feed_40 (lv_at hl 4 rfl) ?_
    have hPc := hP.sub (ws' := [(htp, .inr (10, [.ref h1, htp_1, htp_2, htp_3, .int n_h0_fed_28, htp_5, htp_6, htp_7, htp_8, htp_9, htp_10])), (h1, .inl (ch1, 700, .inl g_h1_29))]) [1, 2] rfl
    have hDc := hD.sub (ws' := [(htp, .inr (10, [.ref h1, htp_1, htp_2, htp_3, .int n_h0_fed_28, htp_5, htp_6, htp_7, htp_8, htp_9, htp_10])), (h1, .inl (ch1, 700, .inl g_h1_29))]) [1, 2] (by decide) rfl
    have hKc := hK.sub (tys' := [(ch1, .int)]) [0] rfl
    have hFc := va_free (wc := [(htp, .inr (10, [.ref h1, htp_1, htp_2, htp_3, .int n_h0_fed_28, htp_5, htp_6, htp_7, htp_8, htp_9, htp_10])), (h1, .inl (ch1, 700, .inl g_h1_29))]) hD hS hA [1, 2] rfl
    refine va_callv (va_runV (As := [.int p4]) (rest := []) ⟨hx, hb, hml, hown, hts⟩ (s_X10_put3 l dC dI H_25.size htp p4 h1 htp_1 htp_2 htp_3 n_h0_fed_28 htp_5 htp_6 htp_7 htp_8 htp_9 htp_10 ch1 g_h1_29 (by first | omega | decide) hp_31) (cwV 1 hts gw_s_X11_feed3_s_X10_put3_91 rfl rfl rfl (by decide +kernel) ⟨Nat.le_of_ble_eq_true rfl, Nat.le_of_ble_eq_true rfl⟩) ⟨z_blind, va_recv hKc hPc (ci := 10) (q0 := 0) rfl rfl, z_pre hPc hKc hDc⟩ rfl rfl hl.1 rfl (lv_room (Nat.le_of_ble_eq_true rfl)) dX11_feed_42 ⟨Nat.le_of_ble_eq_true rfl, Nat.le_of_ble_eq_true rfl⟩) hS (fun q _ h => hFc q h) hFc (fun u t H_35 locs ht hvm hw_37 hB hz1 hk1 hS => ?_)
    obtain ⟨n_h0_fed_38, g_h1_39, hp_40, hp_41, hp_42, hp_43, hP1, hK1, hD1⟩ := hB
    rw [ht] at hP1
    have hK1 := va_K.moved hvm.symm hK1
    obtain ⟨hP, hD⟩ := va_join (wr := [(h0, .inr (11, [.ref htp, h0_1, h0_2, h0_3, h0_4, h0_5, h0_6, h0_7, h0_8, h0_9]))]) (w1 := [(htp, .inr (10, [.ref h1, htp_1, htp_2, htp_3, .int n_h0_fed_38, htp_5, htp_6, htp_7, htp_8, htp_9, htp_10])), (h1, .inl (ch1, 700, .inl g_h1_39))]) hP hD [1, 2] [0] rfl rfl (by decide) (by decide) hk1 hFc hP1 hD1
    have hp_42 : n_h0_fed_38.toInt = n_h0_fed_28.toInt + 4 := hp_42
    have hp_43 : g_h1_39 = f_fe g_h1_29 n_h0_fed_28.toNatClampNeg (f_b4 p4) 4 := hp_43
    have hP : va_P (dC, dI) vwCl [(h0, .inr (11, [.ref htp, h0_1, h0_2, h0_3, h0_4, h0_5, h0_6, h0_7, h0_8, h0_9])), (htp, .inr (10, [.ref h1, htp_1, htp_2, htp_3, .int n_h0_fed_38, htp_5, htp_6, htp_7, htp_8, htp_9, htp_10])), (h1, .inl (ch1, 700, .inl g_h1_39))] H_35 := hP
    have hD : va_D A [(h0, .inr (11, [.ref htp, h0_1, h0_2, h0_3, h0_4, h0_5, h0_6, h0_7, h0_8, h0_9])), (htp, .inr (10, [.ref h1, htp_1, htp_2, htp_3, .int n_h0_fed_38, htp_5, htp_6, htp_7, htp_8, htp_9, htp_10])), (h1, .inl (ch1, 700, .inl g_h1_39))] := hD
    clear hPc hDc hKc
    have hfd_44 := f_fe_j hfd_34 hp_43 (by have h8 : (n_h0_fed_28 : Int32).toNatClampNeg = (n_h0_fed_28).toInt.toNat := rfl; have h9 : (tf).toNatClampNeg = (tf).toInt.toNat := rfl; omega) (f_by4_3 p1 p2 p3 p4 p5)
    refine lv_aload_n hx hb dX11_feed_45 rfl (lv_at hl 0 rfl) ?_
    refine va_get (D := (dC, dI)) (ci := 11) (v := .ref htp) (C := RX11) (T := TX11) (N := 10) hx hb hts hiX11 hown hK hP 0 rfl rfl 0 (by decide) w__fieldLink_RX11_10_ShellHeap_tape_LShellHeap_Tape_ (fun _ h9 => h9) rfl dX11_feed_46 ?_
    refine lv_iload hx hb dX11_feed_49 (lv_at hl 5 rfl) ?_
    have hPc := hP.sub (ws' := [(htp, .inr (10, [.ref h1, htp_1, htp_2, htp_3, .int n_h0_fed_38, htp_5, htp_6, htp_7, htp_8, htp_9, htp_10])), (h1, .inl (ch1, 700, .inl g_h1_39))]) [1, 2] rfl
    have hDc := hD.sub (ws' := [(htp, .inr (10, [.ref h1, htp_1, htp_2, htp_3, .int n_h0_fed_38, htp_5, htp_6, htp_7, htp_8, htp_9, htp_10])), (h1, .inl (ch1, 700, .inl g_h1_39))]) [1, 2] (by decide) rfl
    have hKc := hK.sub (tys' := [(ch1, .int)]) [0] rfl
    have hFc := va_free (wc := [(htp, .inr (10, [.ref h1, htp_1, htp_2, htp_3, .int n_h0_fed_38, htp_5, htp_6, htp_7, htp_8, htp_9, htp_10])), (h1, .inl (ch1, 700, .inl g_h1_39))]) hD hS hA [1, 2] rfl
    refine va_callv (va_runV (As := [.int p5]) (rest := []) ⟨hx, hb, hml, hown, hts⟩ (s_X10_put3 l dC dI H_35.size htp p5 h1 htp_1 htp_2 htp_3 n_h0_fed_38 htp_5 htp_6 htp_7 htp_8 htp_9 htp_10 ch1 g_h1_39 (by first | omega | decide) hp_41) (cwV 1 hts gw_s_X11_feed3_s_X10_put3_91 rfl rfl rfl (by decide +kernel) ⟨Nat.le_of_ble_eq_true rfl, Nat.le_of_ble_eq_true rfl⟩) ⟨z_blind, va_recv hKc hPc (ci := 10) (q0 := 0) rfl rfl, z_pre hPc hKc hDc⟩ rfl rfl hl.1 rfl (lv_room (Nat.le_of_ble_eq_true rfl)) dX11_feed_51 ⟨Nat.le_of_ble_eq_true rfl, Nat.le_of_ble_eq_true rfl⟩) hS (fun q _ h => hFc q h) hFc (fun u t H_45 locs ht hvm hw_47 hB hz1 hk1 hS => ?_)
    obtain ⟨n_h0_fed_48, g_h1_49, hp_50, hp_51, hp_52, hp_53, hP1, hK1, hD1⟩ := hB
    rw [ht] at hP1
    have hK1 := va_K.moved hvm.symm hK1
    obtain ⟨hP, hD⟩ := va_join (wr := [(h0, .inr (11, [.ref htp, h0_1, h0_2, h0_3, h0_4, h0_5, h0_6, h0_7, h0_8, h0_9]))]) (w1 := [(htp, .inr (10, [.ref h1, htp_1, htp_2, htp_3, .int n_h0_fed_48, htp_5, htp_6, htp_7, htp_8, htp_9, htp_10])), (h1, .inl (ch1, 700, .inl g_h1_49))]) hP hD [1, 2] [0] rfl rfl (by decide) (by decide) hk1 hFc hP1 hD1
    have hp_52 : n_h0_fed_48.toInt = n_h0_fed_38.toInt + 4 := hp_52
    have hp_53 : g_h1_49 = f_fe g_h1_39 n_h0_fed_38.toNatClampNeg (f_b4 p5) 4 := hp_53
    have hP : va_P (dC, dI) vwCl [(h0, .inr (11, [.ref htp, h0_1, h0_2, h0_3, h0_4, h0_5, h0_6, h0_7, h0_8, h0_9])), (htp, .inr (10, [.ref h1, htp_1, htp_2, htp_3, .int n_h0_fed_48, htp_5, htp_6, htp_7, htp_8, htp_9, htp_10])), (h1, .inl (ch1, 700, .inl g_h1_49))] H_45 := hP
    have hD : va_D A [(h0, .inr (11, [.ref htp, h0_1, h0_2, h0_3, h0_4, h0_5, h0_6, h0_7, h0_8, h0_9])), (htp, .inr (10, [.ref h1, htp_1, htp_2, htp_3, .int n_h0_fed_48, htp_5, htp_6, htp_7, htp_8, htp_9, htp_10])), (h1, .inl (ch1, 700, .inl g_h1_49))] := hD
    clear hPc hDc hKc
    have hfd_54 := f_fe_j hfd_44 hp_53 (by have h8 : (n_h0_fed_38 : Int32).toNatClampNeg = (n_h0_fed_38).toInt.toNat := rfl; have h9 : (tf).toNatClampNeg = (tf).toInt.toNat := rfl; omega) (f_by4_4 p1 p2 p3 p4 p5)
    refine lv_aload_n hx hb dX11_feed_54 rfl (lv_at hl 0 rfl) ?_
    refine va_get (D := (dC, dI)) (ci := 11) (v := .ref htp) (C := RX11) (T := TX11) (N := 10) hx hb hts hiX11 hown hK hP 0 rfl rfl 0 (by decide) w__fieldLink_RX11_10_ShellHeap_tape_LShellHeap_Tape_ (fun _ h9 => h9) rfl dX11_feed_55 ?_
    refine va_get (D := (dC, dI)) (ci := 10) (v := .int n_h0_fed_48) (C := RX10) (T := TX10) (N := 11) hx hb hts hiX10 hown hK hP 1 rfl rfl 4 (by decide) w__fieldLink_RX11_95_ShellHeap_Tape_fed_I_ (fun _ h9 => h9) rfl dX11_feed_58 ?_
    have hP9 := hP.sub (ws' := [(h0, .inr (11, [.ref htp, h0_1, h0_2, h0_3, h0_4, h0_5, h0_6, h0_7, h0_8, h0_9])), (htp, .inr (10, [.ref h1, htp_1, htp_2, htp_3, .int n_h0_fed_48, htp_5, htp_6, htp_7, htp_8, htp_9, htp_10])), (h1, .inl (ch1, 700, .inl g_h1_49))]) [0, 1, 2] rfl
    have hD9 := hD.sub (ws' := [(h0, .inr (11, [.ref htp, h0_1, h0_2, h0_3, h0_4, h0_5, h0_6, h0_7, h0_8, h0_9])), (htp, .inr (10, [.ref h1, htp_1, htp_2, htp_3, .int n_h0_fed_48, htp_5, htp_6, htp_7, htp_8, htp_9, htp_10])), (h1, .inl (ch1, 700, .inl g_h1_49))]) [0, 1, 2] (by decide) rfl
    have hK9 := hK.sub (tys' := []) [] rfl
    refine W.widen (k := 0) (n := 0) (Nat.le_of_ble_eq_true rfl) (Nat.le_of_ble_eq_true rfl) ?_
    exact W.iret (v := n_h0_fed_48) hx hb hr (fun t ht hW => ⟨⟨n_h0_fed_48, (), rfl, (show n_h0_fed_48 = v_feA tf by unfold v_feA; rw [if_pos (by omega)]; exact z_ii (by rw [z_add (a := (tf).toInt) (b := (20 : Int)) rfl rfl (by omega) (by omega)]; omega)), ⟨n_h0_fed_48, g_h1_49, (by first | omega | decide), hp_51, (show n_h0_fed_48 = v_feN tf by unfold v_feN; rw [if_pos (by omega)]; exact z_ii (by rw [z_add (a := (tf).toInt) (b := (20 : Int)) rfl rfl (by omega) (by omega)]; omega)), (show g_h1_49 = v_feB fh1 tf p1 p2 p3 p4 p5 by unfold v_feB; rw [if_pos (by omega)]; exact hfd_54), by rw [ht]; exact hP9, va_K.moved hW.alike hK9, hD9⟩⟩, hS.F ht⟩) hS.2.2 dX11_feed_61
  · have hw_3 : (680 < tf.toInt) := hw_3
    refine lv_if_ne (tgt := 12) hx hb dX11_feed_7 (by decide) (fun c_55 => absurd c_55 (by decide)) (fun _ => ?_)
    refine lv_iconst (v := (-1)) hx hb dX11_feed_10 (by decide) ?_
    have hP9 := hP.sub (ws' := [(h0, .inr (11, [.ref htp, h0_1, h0_2, h0_3, h0_4, h0_5, h0_6, h0_7, h0_8, h0_9])), (htp, .inr (10, [.ref h1, htp_1, htp_2, htp_3, .int tf, htp_5, htp_6, htp_7, htp_8, htp_9, htp_10])), (h1, .inl (ch1, 700, .inl fh1))]) [0, 1, 2] rfl
    have hD9 := hD.sub (ws' := [(h0, .inr (11, [.ref htp, h0_1, h0_2, h0_3, h0_4, h0_5, h0_6, h0_7, h0_8, h0_9])), (htp, .inr (10, [.ref h1, htp_1, htp_2, htp_3, .int tf, htp_5, htp_6, htp_7, htp_8, htp_9, htp_10])), (h1, .inl (ch1, 700, .inl fh1))]) [0, 1, 2] (by decide) rfl
    have hK9 := hK.sub (tys' := []) [] rfl
    refine W.widen (k := 0) (n := 0) (Nat.le_of_ble_eq_true rfl) (Nat.le_of_ble_eq_true rfl) ?_
    exact W.iret (v := (-1)) hx hb hr (fun t ht hW => ⟨⟨(-1), (), rfl, (show (-1) = v_feA tf by unfold v_feA; rw [if_neg (by omega)]), ⟨tf, fh1, (by first | omega | decide), hI_h1, (show tf = v_feN tf by unfold v_feN; rw [if_neg (by omega)]), (show fh1 = v_feB fh1 tf p1 p2 p3 p4 p5 by unfold v_feB; rw [if_neg (by omega)]), by rw [ht]; exact hP9, va_K.moved hW.alike hK9, hD9⟩⟩, hS.F ht⟩) hS.2.2 dX11_feed_11
