def u_c_X11_count_in : List Cond := .code yX11_count cX11_count 2 (some .int) :: ([.fieldLink RX11 28 "ShellHeap" "known" "LShellHeap$Known;", .fieldLink RX11 19 "ShellHeap" "book" "LShellHeap$Book;", .fieldLink RX11 121 "ShellHeap$Book" "notes" "I", .methodLink RX11 143 yX4_look, .instanceMethod yX4_look, .selects RX4 yX4_look yX4_look, .initialized RX4, .code yX4_look cX4_look 2 none, .fieldLink RX4 9 "ShellHeap$Known" "notesSeen" "I", .fieldLink RX4 41 "ShellHeap$Known" "book" "LShellHeap$Book;", .fieldLink RX4 45 "ShellHeap$Book" "layers" "I", .fieldLink RX4 15 "ShellHeap$Known" "layersSeen" "I", .methodLink RX4 50 yX4_findStruck, .instanceMethod yX4_findStruck, .selects RX4 yX4_findStruck yX4_findStruck, .code yX4_findStruck cX4_findStruck 2 none, .methodLink RX4 53 yX4_joinBeds, .instanceMethod yX4_joinBeds, .selects RX4 yX4_joinBeds yX4_joinBeds, .code yX4_joinBeds cX4_joinBeds 2 none, .methodLink RX4 56 yX4_findLater, .instanceMethod yX4_findLater, .selects RX4 yX4_findLater yX4_findLater, .code yX4_findLater cX4_findLater 3 none, .methodLink RX4 59 yX4_hasRing, .instanceMethod yX4_hasRing, .selects RX4 yX4_hasRing yX4_hasRing, .code yX4_hasRing cX4_hasRing 2 (some .boolean), .fieldLink RX4 38 "ShellHeap$Known" "clash" "I", .methodLink RX4 63 yX4_setRanks, .instanceMethod yX4_setRanks, .selects RX4 yX4_setRanks yX4_setRanks, .code yX4_setRanks cX4_setRanks 3 none, .methodLink RX4 66 yX4_setSpans, .instanceMethod yX4_setSpans, .selects RX4 yX4_setSpans yX4_setSpans, .code yX4_setSpans cX4_setSpans 3 none, .methodLink RX4 105 yX4_leadYears, .instanceMethod yX4_leadYears, .selects RX4 yX4_leadYears yX4_leadYears, .code yX4_leadYears cX4_leadYears 3 none, .methodLink RX11 281 yX4_bedsInAll, .instanceMethod yX4_bedsInAll, .selects RX4 yX4_bedsInAll yX4_bedsInAll, .code yX4_bedsInAll cX4_bedsInAll 3 (some .int), .fieldLink RX11 137 "ShellHeap$Book" "layers" "I", .fieldLink RX11 35 "ShellHeap" "ground" "LShellHeap$Ground;", .fieldLink RX11 181 "ShellHeap$Ground" "columns" "I", .fieldLink RX11 42 "ShellHeap" "pantry" "LShellHeap$Pantry;", .fieldLink RX11 285 "ShellHeap$Pantry" "kinds" "I", .fieldLink RX11 56 "ShellHeap" "sizes" "LShellHeap$Sizes;", .fieldLink RX11 288 "ShellHeap$Sizes" "measured" "I", .fieldLink RX11 74 "ShellHeap" "rulesReader" "LShellHeap$RulesReader;", .fieldLink RX11 106 "ShellHeap$RulesReader" "standing" "LShellHeap$Rules;", .fieldLink RX11 110 "ShellHeap$Rules" "causes" "I", .fieldLink RX11 291 "ShellHeap$Rules" "knots" "I"] ++ wsX110 ++ wsX00 ++ wsX40 ++ wsX20 ++ wsX50 ++ wsX90 ++ wsX80 ++ wsX70)
set_option maxRecDepth 20000 in
theorem gw_c_X11_count_in_c_X4_look_143 : GoodIn u_c_X11_count_in (wsV RX11 143 RX4 yX4_look u_c_X4_look) := goodIn_r _ [4, 5, 6, 7, 8, 9, 10, 11, 12, 13, 14, 15, 7, 16, 17, 18, 19, 20, 21, 22, 23, 24, 25, 26, 27, 28, 29, 30, 31, 32, 33, 34, 35, 36, 37, 38, 39, 40, 41, 73, 74, 75, 76, 77, 78, 79, 80, 81, 82, 67, 68, 69, 70, 71, 72] (by decide +kernel) (by decide +kernel)
set_option maxRecDepth 20000 in
theorem gw_c_X11_count_in_c_X4_bedsInAll_281 : GoodIn u_c_X11_count_in (wsV RX11 281 RX4 yX4_bedsInAll u_c_X4_bedsInAll) := goodIn_r _ [42, 43, 44, 7, 45, 12, 73, 74, 75, 76, 77, 78, 79, 80, 81, 82] (by decide +kernel) (by decide +kernel)
set_option maxHeartbeats 4000000 in
set_option maxRecDepth 100000 in
theorem c_X11_count_in (l : Launch) (dC : Nat → ClassId) (dI : Nat → Nat → Nat) (sz : Nat) (h0 : Nat) (p1 : Int32) (h0_0 : Value) (h1 : Nat) (h2 : Nat) (h3 : Nat) (h4 : Nat) (h0_5 : Value) (h5 : Nat) (h0_7 : Value) (h6 : Nat) (h0_9 : Value) (h1_0 : Value) (h1_1 : Value) (h1_2 : Value) (h1_3 : Value) (h2_3 : Value) (h2_4 : Value) (h2_5 : Value) (h2_6 : Value) (h2_7 : Value) (h2_8 : Value) (h2_9 : Value) (h3_0 : Value) (h3_1 : Value) (h3_2 : Value) (h3_3 : Value) (h3_4 : Value) (h3_5 : Value) (h3_6 : Value) (h3_8 : Value) (h3_9 : Value) (h3_10 : Value) (h4_0 : Value) (h4_1 : Value) (h4_2 : Value) (h4_3 : Value) (h4_4 : Value) (h4_5 : Value) (h4_6 : Value) (h4_7 : Value) (h4_8 : Value) (h5_0 : Value) (h5_1 : Value) (h5_2 : Value) (h6_0 : Value) (h6_1 : Value) (h6_2 : Value) (h6_3 : Value) (h6_4 : Value) (h6_5 : Value) (h6_6 : Value) (h6_7 : Value) (h7 : Nat) (h7_0 : Value) (h7_1 : Value) (h7_2 : Value) (h7_3 : Value) (hq : 0 ≤ p1.toInt ∧ p1.toInt ≤ 7) : Met l yX11_count u_c_X11_count_in ({ frames := 3, cells := 0, slots := 0, locals := 65 }) (va_Pc [.ref h0, .int p1] (z_C (dC, dI) vwCl [(h0, .inr (11, [h0_0, .ref h1, .ref h2, .ref h3, .ref h4, h0_5, .ref h5, h0_7, .ref h6, h0_9])), (h1, .inr (0, [h1_0, h1_1, h1_2, h1_3, .int 0, .int 0])), (h2, .inr (4, [.ref h1, .int (-1), .int (-1), h2_3, h2_4, h2_5, h2_6, h2_7, h2_8, h2_9])), (h3, .inr (2, [h3_0, h3_1, h3_2, h3_3, h3_4, h3_5, h3_6, .int 0, h3_8, h3_9, h3_10])), (h4, .inr (5, [h4_0, h4_1, h4_2, h4_3, h4_4, h4_5, h4_6, h4_7, h4_8, .int 0])), (h5, .inr (9, [h5_0, h5_1, h5_2, .int 0])), (h6, .inr (8, [h6_0, h6_1, h6_2, h6_3, h6_4, h6_5, h6_6, h6_7, .ref h7])), (h7, .inr (7, [h7_0, h7_1, h7_2, h7_3, .int 0, .int 0]))] [] sz)) (va_Qi (fun (r : Int32) (_ : Unit) => r = 0) (fun (_ : Unit) (_ : State) => True) (va_A [(h0, .inr (11, [h0_0, .ref h1, .ref h2, .ref h3, .ref h4, h0_5, .ref h5, h0_7, .ref h6, h0_9])), (h1, .inr (0, [h1_0, h1_1, h1_2, h1_3, .int 0, .int 0])), (h2, .inr (4, [.ref h1, .int (-1), .int (-1), h2_3, h2_4, h2_5, h2_6, h2_7, h2_8, h2_9])), (h3, .inr (2, [h3_0, h3_1, h3_2, h3_3, h3_4, h3_5, h3_6, .int 0, h3_8, h3_9, h3_10])), (h4, .inr (5, [h4_0, h4_1, h4_2, h4_3, h4_4, h4_5, h4_6, h4_7, h4_8, .int 0])), (h5, .inr (9, [h5_0, h5_1, h5_2, .int 0])), (h6, .inr (8, [h6_0, h6_1, h6_2, h6_3, h6_4, h6_5, h6_6, h6_7, .ref h7])), (h7, .inr (7, [h7_0, h7_1, h7_2, h7_3, .int 0, .int 0]))] sz)) 0 0 (va_A [(h0, .inr (11, [h0_0, .ref h1, .ref h2, .ref h3, .ref h4, h0_5, .ref h5, h0_7, .ref h6, h0_9])), (h1, .inr (0, [h1_0, h1_1, h1_2, h1_3, .int 0, .int 0])), (h2, .inr (4, [.ref h1, .int (-1), .int (-1), h2_3, h2_4, h2_5, h2_6, h2_7, h2_8, h2_9])), (h3, .inr (2, [h3_0, h3_1, h3_2, h3_3, h3_4, h3_5, h3_6, .int 0, h3_8, h3_9, h3_10])), (h4, .inr (5, [h4_0, h4_1, h4_2, h4_3, h4_4, h4_5, h4_6, h4_7, h4_8, .int 0])), (h5, .inr (9, [h5_0, h5_1, h5_2, .int 0])), (h6, .inr (8, [h6_0, h6_1, h6_2, h6_3, h6_4, h6_5, h6_6, h6_7, .ref h7])), (h7, .inr (7, [h7_0, h7_1, h7_2, h7_3, .int 0, .int 0]))] sz) := by
  refine Met.ofW (cc := cX11_count) (maxL := 2) (ret := (some .int)) (by decide) rfl ?_
  intro p e s m args below meth c s₁ B hml hv
  obtain ⟨rfl, hsz, hP, hK, hD0⟩ := hv
  have hx := B.exec
  have hb := B.bytes
  have hr := B.returns
  have hts := atoms_spec (ws := u_c_X11_count_in) B.pre
  have hown : s.vm.findClass RX11 = some m.cls := findClass_of_methodNamed B.named
  have hlocks := B.notSynchronized
  subst hsz
  have hD := hD0.self (sz := s.heap.size)
  generalize hAe : va_A [(h0, .inr (11, [h0_0, .ref h1, .ref h2, .ref h3, .ref h4, h0_5, .ref h5, h0_7, .ref h6, h0_9])), (h1, .inr (0, [h1_0, h1_1, h1_2, h1_3, .int 0, .int 0])), (h2, .inr (4, [.ref h1, .int (-1), .int (-1), h2_3, h2_4, h2_5, h2_6, h2_7, h2_8, h2_9])), (h3, .inr (2, [h3_0, h3_1, h3_2, h3_3, h3_4, h3_5, h3_6, .int 0, h3_8, h3_9, h3_10])), (h4, .inr (5, [h4_0, h4_1, h4_2, h4_3, h4_4, h4_5, h4_6, h4_7, h4_8, .int 0])), (h5, .inr (9, [h5_0, h5_1, h5_2, .int 0])), (h6, .inr (8, [h6_0, h6_1, h6_2, h6_3, h6_4, h6_5, h6_6, h6_7, .ref h7])), (h7, .inr (7, [h7_0, h7_1, h7_2, h7_3, .int 0, .int 0]))] s.heap.size = A at hD ⊢
  have hA : ∀ q : Nat, s.heap.size ≤ q → A q := fun q h => by rw [← hAe]; exact Or.inr h
  have hS : va_S A s.heap s.heap [] := va_S.rf
  have hP : va_P (dC, dI) vwCl [(h0, .inr (11, [h0_0, .ref h1, .ref h2, .ref h3, .ref h4, h0_5, .ref h5, h0_7, .ref h6, h0_9])), (h1, .inr (0, [h1_0, h1_1, h1_2, h1_3, .int 0, .int 0])), (h2, .inr (4, [.ref h1, .int (-1), .int (-1), h2_3, h2_4, h2_5, h2_6, h2_7, h2_8, h2_9])), (h3, .inr (2, [h3_0, h3_1, h3_2, h3_3, h3_4, h3_5, h3_6, .int 0, h3_8, h3_9, h3_10])), (h4, .inr (5, [h4_0, h4_1, h4_2, h4_3, h4_4, h4_5, h4_6, h4_7, h4_8, .int 0])), (h5, .inr (9, [h5_0, h5_1, h5_2, .int 0])), (h6, .inr (8, [h6_0, h6_1, h6_2, h6_3, h6_4, h6_5, h6_6, h6_7, .ref h7])), (h7, .inr (7, [h7_0, h7_1, h7_2, h7_3, .int 0, .int 0]))] s.heap := hP
  have w__fieldLink_RX11_28_ShellHeap_known_LShellHeap_Known_ := hts (.fieldLink RX11 28 "ShellHeap" "known" "LShellHeap$Known;") (by decide +kernel)
  have hiX11 := show ∀ w ∈ u_ws RX11 TX11 10, w ∈ u_c_X11_count_in by decide +kernel
  have w__fieldLink_RX11_19_ShellHeap_book_LShellHeap_Book_ := hts (.fieldLink RX11 19 "ShellHeap" "book" "LShellHeap$Book;") (by decide +kernel)
  have w__fieldLink_RX11_121_ShellHeap_Book_notes_I_ := hts (.fieldLink RX11 121 "ShellHeap$Book" "notes" "I") (by decide +kernel)
  have hiX0 := show ∀ w ∈ u_ws RX0 TX0 6, w ∈ u_c_X11_count_in by decide +kernel
  have w__fieldLink_RX11_137_ShellHeap_Book_layers_I_ := hts (.fieldLink RX11 137 "ShellHeap$Book" "layers" "I") (by decide +kernel)
  have w__fieldLink_RX11_35_ShellHeap_ground_LShellHeap_Ground_ := hts (.fieldLink RX11 35 "ShellHeap" "ground" "LShellHeap$Ground;") (by decide +kernel)
  have w__fieldLink_RX11_181_ShellHeap_Ground_columns_I_ := hts (.fieldLink RX11 181 "ShellHeap$Ground" "columns" "I") (by decide +kernel)
  have hiX2 := show ∀ w ∈ u_ws RX2 TX2 11, w ∈ u_c_X11_count_in by decide +kernel
  have w__fieldLink_RX11_42_ShellHeap_pantry_LShellHeap_Pantry_ := hts (.fieldLink RX11 42 "ShellHeap" "pantry" "LShellHeap$Pantry;") (by decide +kernel)
  have w__fieldLink_RX11_285_ShellHeap_Pantry_kinds_I_ := hts (.fieldLink RX11 285 "ShellHeap$Pantry" "kinds" "I") (by decide +kernel)
  have hiX5 := show ∀ w ∈ u_ws RX5 TX5 10, w ∈ u_c_X11_count_in by decide +kernel
  have w__fieldLink_RX11_56_ShellHeap_sizes_LShellHeap_Sizes_ := hts (.fieldLink RX11 56 "ShellHeap" "sizes" "LShellHeap$Sizes;") (by decide +kernel)
  have w__fieldLink_RX11_288_ShellHeap_Sizes_measured_I_ := hts (.fieldLink RX11 288 "ShellHeap$Sizes" "measured" "I") (by decide +kernel)
  have hiX9 := show ∀ w ∈ u_ws RX9 TX9 4, w ∈ u_c_X11_count_in by decide +kernel
  have w__fieldLink_RX11_74_ShellHeap_rulesReader_LShellHeap_RulesReader_ := hts (.fieldLink RX11 74 "ShellHeap" "rulesReader" "LShellHeap$RulesReader;") (by decide +kernel)
  have w__fieldLink_RX11_106_ShellHeap_RulesReader_standing_LShellHeap_Rules_ := hts (.fieldLink RX11 106 "ShellHeap$RulesReader" "standing" "LShellHeap$Rules;") (by decide +kernel)
  have hiX8 := show ∀ w ∈ u_ws RX8 TX8 9, w ∈ u_c_X11_count_in by decide +kernel
  have w__fieldLink_RX11_110_ShellHeap_Rules_causes_I_ := hts (.fieldLink RX11 110 "ShellHeap$Rules" "causes" "I") (by decide +kernel)
  have hiX7 := show ∀ w ∈ u_ws RX7 TX7 6, w ∈ u_c_X11_count_in by decide +kernel
  have w__fieldLink_RX11_291_ShellHeap_Rules_knots_I_ := hts (.fieldLink RX11 291 "ShellHeap$Rules" "knots" "I") (by decide +kernel)
  have hl := lv_entry ([.ref h0, .int p1]) (n := 2) (Nat.le_of_ble_eq_true rfl)
  rw [lg_entry_eq]
  generalize (lg_sl ([.ref h0, .int p1]) ++ List.replicate (2 - (lg_sl ([.ref h0, .int p1])).length) Slot.unset).toArray = ls at hl ⊢
  have hl : lv_has ls 2 [(0, .ref h0), (1, .int p1)] := hl
  refine lv_iload_n hx hb dX11_count_0 rfl (lv_at hl 1 rfl) ?_
  rcases z_sw p1 (0) (7) with hsw | hsw
  · exfalso; omega
  · rcases (show (p1).toInt = (0 : Int) ∨ ¬ (p1).toInt = (0 : Int) from Classical.em _) with he | he
    · obtain rfl : p1 = 0 := z_eq' he
      refine lv_tableIn (tgt := 48) hx hb dX11_count_1 (by decide) (by decide) (off := 47) rfl (by decide) ?_
      refine lv_aload_n hx hb dX11_count_48 rfl (lv_at hl 0 rfl) ?_
      refine va_get (D := (dC, dI)) (ci := 11) (v := .ref h2) (C := RX11) (T := TX11) (N := 10) hx hb hts hiX11 hown hK hP 0 rfl rfl 2 (by decide) w__fieldLink_RX11_28_ShellHeap_known_LShellHeap_Known_ (fun _ h9 => h9) rfl dX11_count_49 ?_
      refine lv_aload_n hx hb dX11_count_52 rfl (lv_at hl 0 rfl) ?_
      refine va_get (D := (dC, dI)) (ci := 11) (v := .ref h1) (C := RX11) (T := TX11) (N := 10) hx hb hts hiX11 hown hK hP 0 rfl rfl 1 (by decide) w__fieldLink_RX11_19_ShellHeap_book_LShellHeap_Book_ (fun _ h9 => h9) rfl dX11_count_53 ?_
      refine va_get (D := (dC, dI)) (ci := 0) (v := .int 0) (C := RX0) (T := TX0) (N := 6) hx hb hts hiX0 hown hK hP 1 rfl rfl 4 (by decide) w__fieldLink_RX11_121_ShellHeap_Book_notes_I_ (fun _ h9 => h9) rfl dX11_count_56 ?_
      have hPc := hP.sub (ws' := [(h2, .inr (4, [.ref h1, .int (-1), .int (-1), h2_3, h2_4, h2_5, h2_6, h2_7, h2_8, h2_9])), (h1, .inr (0, [h1_0, h1_1, h1_2, h1_3, .int 0, .int 0]))]) [2, 1] rfl
      have hDc := hD.sub (ws' := [(h2, .inr (4, [.ref h1, .int (-1), .int (-1), h2_3, h2_4, h2_5, h2_6, h2_7, h2_8, h2_9])), (h1, .inr (0, [h1_0, h1_1, h1_2, h1_3, .int 0, .int 0]))]) [2, 1] (by decide) rfl
      have hKc := hK.sub (tys' := []) [] rfl
      have hFc := va_free (wc := [(h2, .inr (4, [.ref h1, .int (-1), .int (-1), h2_3, h2_4, h2_5, h2_6, h2_7, h2_8, h2_9])), (h1, .inr (0, [h1_0, h1_1, h1_2, h1_3, .int 0, .int 0]))]) hD hS hA [2, 1] rfl
      refine va_callv (va_runV (As := [.int 0]) (rest := []) ⟨hx, hb, hml, hown, hts⟩ (c_X4_look l dC dI s.heap.size h2 h1 h2_3 h2_4 h2_5 h2_6 h2_7 h2_8 h2_9 h1_0 h1_1 h1_2 h1_3) (cwV 1 hts gw_c_X11_count_in_c_X4_look_143 rfl rfl rfl (by decide +kernel) ⟨Nat.le_of_ble_eq_true rfl, Nat.le_of_ble_eq_true rfl⟩) ⟨z_blind, va_recv hKc hPc (ci := 4) (q0 := 0) rfl rfl, z_pre hPc hKc hDc⟩ rfl rfl hl.1 rfl (lv_room (Nat.le_of_ble_eq_true rfl)) dX11_count_59 ⟨Nat.le_of_ble_eq_true rfl, Nat.le_of_ble_eq_true rfl⟩) hS (fun q _ h => hFc q h) hFc (fun u t H_1 locs ht hvm hw_3 hB hz1 hk1 hS => ?_)
      obtain ⟨hP1, hK1, hD1⟩ := hB
      rw [ht] at hP1
      have hK1 := va_K.moved hvm.symm hK1
      obtain ⟨hP, hD⟩ := va_join (wr := [(h0, .inr (11, [h0_0, .ref h1, .ref h2, .ref h3, .ref h4, h0_5, .ref h5, h0_7, .ref h6, h0_9])), (h3, .inr (2, [h3_0, h3_1, h3_2, h3_3, h3_4, h3_5, h3_6, .int 0, h3_8, h3_9, h3_10])), (h4, .inr (5, [h4_0, h4_1, h4_2, h4_3, h4_4, h4_5, h4_6, h4_7, h4_8, .int 0])), (h5, .inr (9, [h5_0, h5_1, h5_2, .int 0])), (h6, .inr (8, [h6_0, h6_1, h6_2, h6_3, h6_4, h6_5, h6_6, h6_7, .ref h7])), (h7, .inr (7, [h7_0, h7_1, h7_2, h7_3, .int 0, .int 0]))]) (w1 := [(h2, .inr (4, [.ref h1, .int 0, .int 0, h2_3, h2_4, h2_5, h2_6, h2_7, h2_8, .int 0])), (h1, .inr (0, [h1_0, h1_1, h1_2, h1_3, .int 0, .int 0]))]) hP hD [2, 1] [0, 3, 4, 5, 6, 7] rfl rfl (by decide) (by decide) hk1 hFc hP1 hD1
      have hP : va_P (dC, dI) vwCl [(h0, .inr (11, [h0_0, .ref h1, .ref h2, .ref h3, .ref h4, h0_5, .ref h5, h0_7, .ref h6, h0_9])), (h3, .inr (2, [h3_0, h3_1, h3_2, h3_3, h3_4, h3_5, h3_6, .int 0, h3_8, h3_9, h3_10])), (h4, .inr (5, [h4_0, h4_1, h4_2, h4_3, h4_4, h4_5, h4_6, h4_7, h4_8, .int 0])), (h5, .inr (9, [h5_0, h5_1, h5_2, .int 0])), (h6, .inr (8, [h6_0, h6_1, h6_2, h6_3, h6_4, h6_5, h6_6, h6_7, .ref h7])), (h7, .inr (7, [h7_0, h7_1, h7_2, h7_3, .int 0, .int 0])), (h2, .inr (4, [.ref h1, .int 0, .int 0, h2_3, h2_4, h2_5, h2_6, h2_7, h2_8, .int 0])), (h1, .inr (0, [h1_0, h1_1, h1_2, h1_3, .int 0, .int 0]))] H_1 := hP
      have hD : va_D A [(h0, .inr (11, [h0_0, .ref h1, .ref h2, .ref h3, .ref h4, h0_5, .ref h5, h0_7, .ref h6, h0_9])), (h3, .inr (2, [h3_0, h3_1, h3_2, h3_3, h3_4, h3_5, h3_6, .int 0, h3_8, h3_9, h3_10])), (h4, .inr (5, [h4_0, h4_1, h4_2, h4_3, h4_4, h4_5, h4_6, h4_7, h4_8, .int 0])), (h5, .inr (9, [h5_0, h5_1, h5_2, .int 0])), (h6, .inr (8, [h6_0, h6_1, h6_2, h6_3, h6_4, h6_5, h6_6, h6_7, .ref h7])), (h7, .inr (7, [h7_0, h7_1, h7_2, h7_3, .int 0, .int 0])), (h2, .inr (4, [.ref h1, .int 0, .int 0, h2_3, h2_4, h2_5, h2_6, h2_7, h2_8, .int 0])), (h1, .inr (0, [h1_0, h1_1, h1_2, h1_3, .int 0, .int 0]))] := hD
      clear hPc hDc hKc
      refine lv_aload_n hx hb dX11_count_62 rfl (lv_at hl 0 rfl) ?_
      refine va_get (D := (dC, dI)) (ci := 11) (v := .ref h2) (C := RX11) (T := TX11) (N := 10) hx hb hts hiX11 hown hK hP 0 rfl rfl 2 (by decide) w__fieldLink_RX11_28_ShellHeap_known_LShellHeap_Known_ (fun _ h9 => h9) rfl dX11_count_63 ?_
      have hPc := hP.sub (ws' := [(h2, .inr (4, [.ref h1, .int 0, .int 0, h2_3, h2_4, h2_5, h2_6, h2_7, h2_8, .int 0]))]) [6] rfl
      have hDc := hD.sub (ws' := [(h2, .inr (4, [.ref h1, .int 0, .int 0, h2_3, h2_4, h2_5, h2_6, h2_7, h2_8, .int 0]))]) [6] (by decide) rfl
      have hKc := hK.sub (tys' := []) [] rfl
      have hFc := va_free (ws := []) (wc := []) (z_D0 _) hS hA [] rfl
      refine va_calli (va_runV (As := []) (rest := []) ⟨hx, hb, hml, hown, hts⟩ (c_X4_bedsInAll l dC dI H_1.size h2 (.ref h1) h2_3 h2_4 h2_5 h2_6 h2_7 h2_8 (.int 0)) (cwV 0 hts gw_c_X11_count_in_c_X4_bedsInAll_281 rfl rfl rfl (by decide +kernel) ⟨Nat.le_of_ble_eq_true rfl, Nat.le_of_ble_eq_true rfl⟩) ⟨z_blind, va_recv hKc hPc (ci := 4) (q0 := 0) rfl rfl, z_pre hPc hKc hDc⟩ rfl rfl hl.1 rfl (lv_room (Nat.le_of_ble_eq_true rfl)) dX11_count_66 ⟨Nat.le_of_ble_eq_true rfl, Nat.le_of_ble_eq_true rfl⟩) hS (fun q _ h => hFc q h) hFc (fun r_5 u t H_4 locs ht hvm hw_6 hB hz1 hk1 hS => ?_)
      have hP := z_pure hP hk1
      have hP : va_P (dC, dI) vwCl [(h0, .inr (11, [h0_0, .ref h1, .ref h2, .ref h3, .ref h4, h0_5, .ref h5, h0_7, .ref h6, h0_9])), (h3, .inr (2, [h3_0, h3_1, h3_2, h3_3, h3_4, h3_5, h3_6, .int 0, h3_8, h3_9, h3_10])), (h4, .inr (5, [h4_0, h4_1, h4_2, h4_3, h4_4, h4_5, h4_6, h4_7, h4_8, .int 0])), (h5, .inr (9, [h5_0, h5_1, h5_2, .int 0])), (h6, .inr (8, [h6_0, h6_1, h6_2, h6_3, h6_4, h6_5, h6_6, h6_7, .ref h7])), (h7, .inr (7, [h7_0, h7_1, h7_2, h7_3, .int 0, .int 0])), (h2, .inr (4, [.ref h1, .int 0, .int 0, h2_3, h2_4, h2_5, h2_6, h2_7, h2_8, .int 0])), (h1, .inr (0, [h1_0, h1_1, h1_2, h1_3, .int 0, .int 0]))] H_4 := hP
      have hD : va_D A [(h0, .inr (11, [h0_0, .ref h1, .ref h2, .ref h3, .ref h4, h0_5, .ref h5, h0_7, .ref h6, h0_9])), (h3, .inr (2, [h3_0, h3_1, h3_2, h3_3, h3_4, h3_5, h3_6, .int 0, h3_8, h3_9, h3_10])), (h4, .inr (5, [h4_0, h4_1, h4_2, h4_3, h4_4, h4_5, h4_6, h4_7, h4_8, .int 0])), (h5, .inr (9, [h5_0, h5_1, h5_2, .int 0])), (h6, .inr (8, [h6_0, h6_1, h6_2, h6_3, h6_4, h6_5, h6_6, h6_7, .ref h7])), (h7, .inr (7, [h7_0, h7_1, h7_2, h7_3, .int 0, .int 0])), (h2, .inr (4, [.ref h1, .int 0, .int 0, h2_3, h2_4, h2_5, h2_6, h2_7, h2_8, .int 0])), (h1, .inr (0, [h1_0, h1_1, h1_2, h1_3, .int 0, .int 0]))] := hD
      clear hPc hDc hKc
      obtain rfl : r_5 = 0 := hw_6
      refine W.widen (k := 0) (n := 0) (Nat.le_of_ble_eq_true rfl) (Nat.le_of_ble_eq_true rfl) ?_
      exact W.iret (v := 0) hx hb hr (fun t ht hW => ⟨⟨0, (), rfl, rfl, trivial⟩, hS.F ht⟩) hS.2.2 dX11_count_69
    · rcases (show (p1).toInt = (1 : Int) ∨ ¬ (p1).toInt = (1 : Int) from Classical.em _) with he | he
      · obtain rfl : p1 = 1 := z_eq' he
        refine lv_tableIn (tgt := 70) hx hb dX11_count_1 (by decide) (by decide) (off := 69) rfl (by decide) ?_
        refine lv_aload_n hx hb dX11_count_70 rfl (lv_at hl 0 rfl) ?_
        refine va_get (D := (dC, dI)) (ci := 11) (v := .ref h1) (C := RX11) (T := TX11) (N := 10) hx hb hts hiX11 hown hK hP 0 rfl rfl 1 (by decide) w__fieldLink_RX11_19_ShellHeap_book_LShellHeap_Book_ (fun _ h9 => h9) rfl dX11_count_71 ?_
        refine va_get (D := (dC, dI)) (ci := 0) (v := .int 0) (C := RX0) (T := TX0) (N := 6) hx hb hts hiX0 hown hK hP 1 rfl rfl 5 (by decide) w__fieldLink_RX11_137_ShellHeap_Book_layers_I_ (fun _ h9 => h9) rfl dX11_count_74 ?_
        refine W.widen (k := 0) (n := 0) (Nat.le_of_ble_eq_true rfl) (Nat.le_of_ble_eq_true rfl) ?_
        exact W.iret (v := 0) hx hb hr (fun t ht hW => ⟨⟨0, (), rfl, rfl, trivial⟩, hS.F ht⟩) hS.2.2 dX11_count_77
      · rcases (show (p1).toInt = (2 : Int) ∨ ¬ (p1).toInt = (2 : Int) from Classical.em _) with he | he
        · obtain rfl : p1 = 2 := z_eq' he
          refine lv_tableIn (tgt := 78) hx hb dX11_count_1 (by decide) (by decide) (off := 77) rfl (by decide) ?_
          refine lv_aload_n hx hb dX11_count_78 rfl (lv_at hl 0 rfl) ?_
          refine va_get (D := (dC, dI)) (ci := 11) (v := .ref h1) (C := RX11) (T := TX11) (N := 10) hx hb hts hiX11 hown hK hP 0 rfl rfl 1 (by decide) w__fieldLink_RX11_19_ShellHeap_book_LShellHeap_Book_ (fun _ h9 => h9) rfl dX11_count_79 ?_
          refine va_get (D := (dC, dI)) (ci := 0) (v := .int 0) (C := RX0) (T := TX0) (N := 6) hx hb hts hiX0 hown hK hP 1 rfl rfl 4 (by decide) w__fieldLink_RX11_121_ShellHeap_Book_notes_I_ (fun _ h9 => h9) rfl dX11_count_82 ?_
          refine W.widen (k := 0) (n := 0) (Nat.le_of_ble_eq_true rfl) (Nat.le_of_ble_eq_true rfl) ?_
          exact W.iret (v := 0) hx hb hr (fun t ht hW => ⟨⟨0, (), rfl, rfl, trivial⟩, hS.F ht⟩) hS.2.2 dX11_count_85
        · rcases (show (p1).toInt = (3 : Int) ∨ ¬ (p1).toInt = (3 : Int) from Classical.em _) with he | he
          · obtain rfl : p1 = 3 := z_eq' he
            refine lv_tableIn (tgt := 86) hx hb dX11_count_1 (by decide) (by decide) (off := 85) rfl (by decide) ?_
            refine lv_aload_n hx hb dX11_count_86 rfl (lv_at hl 0 rfl) ?_
            refine va_get (D := (dC, dI)) (ci := 11) (v := .ref h3) (C := RX11) (T := TX11) (N := 10) hx hb hts hiX11 hown hK hP 0 rfl rfl 3 (by decide) w__fieldLink_RX11_35_ShellHeap_ground_LShellHeap_Ground_ (fun _ h9 => h9) rfl dX11_count_87 ?_
            refine va_get (D := (dC, dI)) (ci := 2) (v := .int 0) (C := RX2) (T := TX2) (N := 11) hx hb hts hiX2 hown hK hP 3 rfl rfl 7 (by decide) w__fieldLink_RX11_181_ShellHeap_Ground_columns_I_ (fun _ h9 => h9) rfl dX11_count_90 ?_
            refine W.widen (k := 0) (n := 0) (Nat.le_of_ble_eq_true rfl) (Nat.le_of_ble_eq_true rfl) ?_
            exact W.iret (v := 0) hx hb hr (fun t ht hW => ⟨⟨0, (), rfl, rfl, trivial⟩, hS.F ht⟩) hS.2.2 dX11_count_93
          · rcases (show (p1).toInt = (4 : Int) ∨ ¬ (p1).toInt = (4 : Int) from Classical.em _) with he | he
            · obtain rfl : p1 = 4 := z_eq' he
              refine lv_tableIn (tgt := 94) hx hb dX11_count_1 (by decide) (by decide) (off := 93) rfl (by decide) ?_
              refine lv_aload_n hx hb dX11_count_94 rfl (lv_at hl 0 rfl) ?_
              refine va_get (D := (dC, dI)) (ci := 11) (v := .ref h4) (C := RX11) (T := TX11) (N := 10) hx hb hts hiX11 hown hK hP 0 rfl rfl 4 (by decide) w__fieldLink_RX11_42_ShellHeap_pantry_LShellHeap_Pantry_ (fun _ h9 => h9) rfl dX11_count_95 ?_
              refine va_get (D := (dC, dI)) (ci := 5) (v := .int 0) (C := RX5) (T := TX5) (N := 10) hx hb hts hiX5 hown hK hP 4 rfl rfl 9 (by decide) w__fieldLink_RX11_285_ShellHeap_Pantry_kinds_I_ (fun _ h9 => h9) rfl dX11_count_98 ?_
              refine W.widen (k := 0) (n := 0) (Nat.le_of_ble_eq_true rfl) (Nat.le_of_ble_eq_true rfl) ?_
              exact W.iret (v := 0) hx hb hr (fun t ht hW => ⟨⟨0, (), rfl, rfl, trivial⟩, hS.F ht⟩) hS.2.2 dX11_count_101
            · rcases (show (p1).toInt = (5 : Int) ∨ ¬ (p1).toInt = (5 : Int) from Classical.em _) with he | he
              · obtain rfl : p1 = 5 := z_eq' he
                refine lv_tableIn (tgt := 102) hx hb dX11_count_1 (by decide) (by decide) (off := 101) rfl (by decide) ?_
                refine lv_aload_n hx hb dX11_count_102 rfl (lv_at hl 0 rfl) ?_
                refine va_get (D := (dC, dI)) (ci := 11) (v := .ref h5) (C := RX11) (T := TX11) (N := 10) hx hb hts hiX11 hown hK hP 0 rfl rfl 6 (by decide) w__fieldLink_RX11_56_ShellHeap_sizes_LShellHeap_Sizes_ (fun _ h9 => h9) rfl dX11_count_103 ?_
                refine va_get (D := (dC, dI)) (ci := 9) (v := .int 0) (C := RX9) (T := TX9) (N := 4) hx hb hts hiX9 hown hK hP 5 rfl rfl 3 (by decide) w__fieldLink_RX11_288_ShellHeap_Sizes_measured_I_ (fun _ h9 => h9) rfl dX11_count_106 ?_
                refine W.widen (k := 0) (n := 0) (Nat.le_of_ble_eq_true rfl) (Nat.le_of_ble_eq_true rfl) ?_
                exact W.iret (v := 0) hx hb hr (fun t ht hW => ⟨⟨0, (), rfl, rfl, trivial⟩, hS.F ht⟩) hS.2.2 dX11_count_109
              · rcases (show (p1).toInt = (6 : Int) ∨ ¬ (p1).toInt = (6 : Int) from Classical.em _) with he | he
                · obtain rfl : p1 = 6 := z_eq' he
                  refine lv_tableIn (tgt := 110) hx hb dX11_count_1 (by decide) (by decide) (off := 109) rfl (by decide) ?_
                  refine lv_aload_n hx hb dX11_count_110 rfl (lv_at hl 0 rfl) ?_
                  refine va_get (D := (dC, dI)) (ci := 11) (v := .ref h6) (C := RX11) (T := TX11) (N := 10) hx hb hts hiX11 hown hK hP 0 rfl rfl 8 (by decide) w__fieldLink_RX11_74_ShellHeap_rulesReader_LShellHeap_RulesReader_ (fun _ h9 => h9) rfl dX11_count_111 ?_
                  refine va_get (D := (dC, dI)) (ci := 8) (v := .ref h7) (C := RX8) (T := TX8) (N := 9) hx hb hts hiX8 hown hK hP 6 rfl rfl 8 (by decide) w__fieldLink_RX11_106_ShellHeap_RulesReader_standing_LShellHeap_Rules_ (fun _ h9 => h9) rfl dX11_count_114 ?_
                  refine va_get (D := (dC, dI)) (ci := 7) (v := .int 0) (C := RX7) (T := TX7) (N := 6) hx hb hts hiX7 hown hK hP 7 rfl rfl 4 (by decide) w__fieldLink_RX11_110_ShellHeap_Rules_causes_I_ (fun _ h9 => h9) rfl dX11_count_117 ?_
                  refine W.widen (k := 0) (n := 0) (Nat.le_of_ble_eq_true rfl) (Nat.le_of_ble_eq_true rfl) ?_
                  exact W.iret (v := 0) hx hb hr (fun t ht hW => ⟨⟨0, (), rfl, rfl, trivial⟩, hS.F ht⟩) hS.2.2 dX11_count_120
                · rcases (show (p1).toInt = (7 : Int) ∨ ¬ (p1).toInt = (7 : Int) from Classical.em _) with he | he
                  · obtain rfl : p1 = 7 := z_eq' he
                    refine lv_tableIn (tgt := 121) hx hb dX11_count_1 (by decide) (by decide) (off := 120) rfl (by decide) ?_
                    refine lv_aload_n hx hb dX11_count_121 rfl (lv_at hl 0 rfl) ?_
                    refine va_get (D := (dC, dI)) (ci := 11) (v := .ref h6) (C := RX11) (T := TX11) (N := 10) hx hb hts hiX11 hown hK hP 0 rfl rfl 8 (by decide) w__fieldLink_RX11_74_ShellHeap_rulesReader_LShellHeap_RulesReader_ (fun _ h9 => h9) rfl dX11_count_122 ?_
                    refine va_get (D := (dC, dI)) (ci := 8) (v := .ref h7) (C := RX8) (T := TX8) (N := 9) hx hb hts hiX8 hown hK hP 6 rfl rfl 8 (by decide) w__fieldLink_RX11_106_ShellHeap_RulesReader_standing_LShellHeap_Rules_ (fun _ h9 => h9) rfl dX11_count_125 ?_
                    refine va_get (D := (dC, dI)) (ci := 7) (v := .int 0) (C := RX7) (T := TX7) (N := 6) hx hb hts hiX7 hown hK hP 7 rfl rfl 5 (by decide) w__fieldLink_RX11_291_ShellHeap_Rules_knots_I_ (fun _ h9 => h9) rfl dX11_count_128 ?_
                    refine W.widen (k := 0) (n := 0) (Nat.le_of_ble_eq_true rfl) (Nat.le_of_ble_eq_true rfl) ?_
                    exact W.iret (v := 0) hx hb hr (fun t ht hW => ⟨⟨0, (), rfl, rfl, trivial⟩, hS.F ht⟩) hS.2.2 dX11_count_131
                  · exfalso; omega
