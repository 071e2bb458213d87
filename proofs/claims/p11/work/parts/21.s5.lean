def u_s_X4_counts : List Cond := .code yX4_counts cX4_counts 3 (some .boolean) :: ([.fieldLink RX4 9 "ShellHeap$Known" "notesSeen" "I", .fieldLink RX4 18 "ShellHeap$Known" "struck" "[Z", .fieldLink RX4 41 "ShellHeap$Known" "book" "LShellHeap$Book;", .fieldLink RX4 69 "ShellHeap$Book" "sort" "[I"] ++ (wsX40 ++ (wsX00 ++ [])))
theorem gd_s_X4_counts : z_gd u_s_X4_counts := z_gdc (by decide +kernel) (z_gda gdX4 (z_gda gdX0 (z_gd0)))
set_option maxHeartbeats 4000000 in
set_option maxRecDepth 100000 in
theorem s_X4_counts (l : Launch) (dC : Nat → ClassId) (dI : Nat → Nat → Nat) (sz : Nat) (h0 : Nat) (p1 : Int32) (p2 : Int32) (h1 : Nat) (kn : Int32) (h0_2 : Value) (hk9 : Nat) (h0_4 : Value) (h0_5 : Value) (h0_6 : Value) (h0_7 : Value) (h0_8 : Value) (h0_9 : Value) (hs : Nat) (h1_1 : Value) (h1_2 : Value) (h1_3 : Value) (h1_4 : Value) (h1_5 : Value) (chk9 : ClassId) (fhk9 : Nat → Int32) (chs : ClassId) (fhs : Nat → Int32) (hB_kn : ((-1 : Int) ≤ (kn).toInt ∧ (kn).toInt ≤ (80 : Int))) (hB_p1 : ((0 : Int) ≤ (p1).toInt ∧ (p1).toInt ≤ (79 : Int))) : Met l yX4_counts u_s_X4_counts ({ frames := 0, cells := 0, slots := 0, locals := 0 }) (va_Pc [.ref h0, .int p1, .int p2] (z_C (dC, dI) vwCl [(h0, .inr (4, [.ref h1, .int kn, h0_2, .ref hk9, h0_4, h0_5, h0_6, h0_7, h0_8, h0_9])), (h1, .inr (0, [.ref hs, h1_1, h1_2, h1_3, h1_4, h1_5])), (hk9, .inl (chk9, 80, .inl fhk9)), (hs, .inl (chs, 80, .inl fhs))] [(chk9, .boolean), (chs, .int)] sz)) (va_Qi (fun (r : Int32) (_ : Unit) => (r = 1 ∧ (p1.toInt < kn.toInt ∧ fhs p1.toNatClampNeg = p2)) ∨ (r = 0 ∧ True)) (fun (_ : Unit) (_ : State) => True) (va_A [] sz)) 0 0 (va_A [] sz) := by
  refine Met.ofW (cc := cX4_counts) (maxL := 3) (ret := (some .boolean)) (by decide) rfl ?_
  intro p e s m args below meth c s₁ B hml hv
  obtain ⟨rfl, hsz, hP, hK, hD0⟩ := hv
  have hx := B.exec
  have hb := B.bytes
  have hr := B.returns
  have hts := atoms_spec (ws := u_s_X4_counts) B.pre
  have hown : s.vm.findClass RX4 = some m.cls := findClass_of_methodNamed B.named
  have hlocks := B.notSynchronized
  subst hsz
  have hD := hD0
  generalize hAe : va_A [] s.heap.size = A
  have hA : ∀ q : Nat, s.heap.size ≤ q → A q := fun q h => by rw [← hAe]; exact Or.inr h
  have hS : va_S A s.heap s.heap [] := va_S.rf
  have hP : va_P (dC, dI) vwCl [(h0, .inr (4, [.ref h1, .int kn, h0_2, .ref hk9, h0_4, h0_5, h0_6, h0_7, h0_8, h0_9])), (h1, .inr (0, [.ref hs, h1_1, h1_2, h1_3, h1_4, h1_5])), (hk9, .inl (chk9, 80, .inl fhk9)), (hs, .inl (chs, 80, .inl fhs))] s.heap := hP
  have w__fieldLink_RX4_9_ShellHeap_Known_notesSeen_I_ := hts (.fieldLink RX4 9 "ShellHeap$Known" "notesSeen" "I") (z_mc (z_ml z_m0))
  have hiX4 := show ∀ w ∈ u_ws RX4 TX4 10, w ∈ u_s_X4_counts from fun w h => z_mc (z_mr (z_ml h))
  have w__fieldLink_RX4_18_ShellHeap_Known_struck_Z_ := hts (.fieldLink RX4 18 "ShellHeap$Known" "struck" "[Z") (z_mc (z_ml z_m1))
  have w__fieldLink_RX4_41_ShellHeap_Known_book_LShellHeap_Book_ := hts (.fieldLink RX4 41 "ShellHeap$Known" "book" "LShellHeap$Book;") (z_mc (z_ml z_m2))
  have w__fieldLink_RX4_69_ShellHeap_Book_sort_I_ := hts (.fieldLink RX4 69 "ShellHeap$Book" "sort" "[I") (z_mc (z_ml z_m3))
  have hiX0 := show ∀ w ∈ u_ws RX0 TX0 6, w ∈ u_s_X4_counts from fun w h => z_mc (z_mr (z_mr (z_ml h)))
  have krr_p2 := z_rng p2
  have hl := lv_entry ([.ref h0, .int p1, .int p2]) (n := 3) (Nat.le_of_ble_eq_true rfl)
  rw [lg_entry_eq]
  generalize (lg_sl ([.ref h0, .int p1, .int p2]) ++ List.replicate (3 - (lg_sl ([.ref h0, .int p1, .int p2])).length) Slot.unset).toArray = ls at hl ⊢
  have hl : lv_has ls 3 [(0, .ref h0), (1, .int p1), (2, .int p2)] := hl
  refine lv_iload_n hx hb dX4_counts_0 rfl (lv_at hl 1 rfl) ?_
  refine lv_aload_n hx hb dX4_counts_1 rfl (lv_at hl 0 rfl) ?_
  refine va_get (D := (dC, dI)) (ci := 4) (v := .int kn) (C := RX4) (T := TX4) (N := 10) hx hb hts hiX4 hown hK hP 0 rfl rfl 1 (by decide) w__fieldLink_RX4_9_ShellHeap_Known_notesSeen_I_ (fun _ h9 => h9) rfl dX4_counts_2 ?_
  refine lv_icmp_ge (tgt := 34) hx hb dX4_counts_5 (by decide) (fun c_1 => ?_) (fun c_1 => ?_)
  · have k_2 : (kn).toInt ≤ (p1).toInt := z_le c_1
    refine lv_iconst (v := 0) hx hb dX4_counts_34 (by decide) ?_
    refine W.widen (k := 0) (n := 0) (Nat.le_of_ble_eq_true rfl) (Nat.le_of_ble_eq_true rfl) ?_
    exact W.zret (v := 0) hx hb hr (by rfl) (fun t ht hW => ⟨⟨0, (), rfl, (Or.inr (⟨rfl, by first | omega | decide⟩)), trivial⟩, hS.F ht⟩) hS.2.2 dX4_counts_35
  · have k_3 : (kn).toInt > (p1).toInt := z_nle c_1
    refine lv_aload_n hx hb dX4_counts_8 rfl (lv_at hl 0 rfl) ?_
    refine va_get (D := (dC, dI)) (ci := 4) (v := .ref hk9) (C := RX4) (T := TX4) (N := 10) hx hb hts hiX4 hown hK hP 0 rfl rfl 3 (by decide) w__fieldLink_RX4_18_ShellHeap_Known_struck_Z_ (fun _ h9 => h9) rfl dX4_counts_9 ?_
    refine lv_iload_n hx hb dX4_counts_12 rfl (lv_at hl 1 rfl) ?_
    refine va_zald hx hb hK hP 2 0 rfl rfl (z_vpinB hB_p1 (by decide) (by decide)) dX4_counts_13 ?_
    refine lv_topi (fun z_4 ez_4 => ?_)
    refine lv_if_ne (tgt := 34) hx hb dX4_counts_14 (by decide) (fun c_5 => ?_) (fun c_5 => ?_)
    · have k_6 : (z_4).toInt ≠ (0 : Int) := z_ne c_5
      refine lv_iconst (v := 0) hx hb dX4_counts_34 (by decide) ?_
      refine W.widen (k := 0) (n := 0) (Nat.le_of_ble_eq_true rfl) (Nat.le_of_ble_eq_true rfl) ?_
      exact W.zret (v := 0) hx hb hr (by rfl) (fun t ht hW => ⟨⟨0, (), rfl, (Or.inr (⟨rfl, by first | omega | decide⟩)), trivial⟩, hS.F ht⟩) hS.2.2 dX4_counts_35
    · have k_7 : (z_4).toInt = (0 : Int) := z_eq c_5
      obtain rfl : z_4 = 0 := z_eq' (show (z_4).toInt = (0 : Int) by omega)
      refine lv_aload_n hx hb dX4_counts_17 rfl (lv_at hl 0 rfl) ?_
      refine va_get (D := (dC, dI)) (ci := 4) (v := .ref h1) (C := RX4) (T := TX4) (N := 10) hx hb hts hiX4 hown hK hP 0 rfl rfl 0 (by decide) w__fieldLink_RX4_41_ShellHeap_Known_book_LShellHeap_Book_ (fun _ h9 => h9) rfl dX4_counts_18 ?_
      refine va_get (D := (dC, dI)) (ci := 0) (v := .ref hs) (C := RX0) (T := TX0) (N := 6) hx hb hts hiX0 hown hK hP 1 rfl rfl 0 (by decide) w__fieldLink_RX4_69_ShellHeap_Book_sort_I_ (fun _ h9 => h9) rfl dX4_counts_21 ?_
      refine lv_iload_n hx hb dX4_counts_24 rfl (lv_at hl 1 rfl) ?_
      refine va_iald hx hb hK hP 3 1 rfl rfl (z_vpinB hB_p1 (by decide) (by decide)) dX4_counts_25 ?_
      refine lv_topi (fun z_9 ez_9 => ?_)
      refine lv_iload_n hx hb dX4_counts_26 rfl (lv_at hl 2 rfl) ?_
      refine lv_icmp_ne (tgt := 34) hx hb dX4_counts_27 (by decide) (fun c_10 => ?_) (fun c_10 => ?_)
      · have k_11 : (z_9).toInt ≠ (p2).toInt := z_ne c_10
        refine lv_iconst (v := 0) hx hb dX4_counts_34 (by decide) ?_
        refine W.widen (k := 0) (n := 0) (Nat.le_of_ble_eq_true rfl) (Nat.le_of_ble_eq_true rfl) ?_
        exact W.zret (v := 0) hx hb hr (by rfl) (fun t ht hW => ⟨⟨0, (), rfl, (Or.inr (⟨rfl, by first | omega | decide⟩)), trivial⟩, hS.F ht⟩) hS.2.2 dX4_counts_35
      · have k_12 : (z_9).toInt = (p2).toInt := z_eq c_10
        refine lv_iconst (v := 1) hx hb dX4_counts_30 (by decide) ?_
        refine lv_goto (tgt := 35) hx hb dX4_counts_31 (by decide) ?_
        refine W.widen (k := 0) (n := 0) (Nat.le_of_ble_eq_true rfl) (Nat.le_of_ble_eq_true rfl) ?_
        exact W.zret (v := 1) hx hb hr (by rfl) (fun t ht hW => ⟨⟨1, (), rfl, (Or.inl (⟨rfl, ⟨by omega, by rw [← ez_9]; exact z_eq' (by omega)⟩⟩)), trivial⟩, hS.F ht⟩) hS.2.2 dX4_counts_35
def u_s_X4_areFindsIn : List Cond := .code yX4_areFindsIn cX4_areFindsIn 3 (some .boolean) :: ([.methodLink RX4 72 yX4_counts, .instanceMethod yX4_counts, .selects RX4 yX4_counts yX4_counts, .initialized RX4, .fieldLink RX4 41 "ShellHeap$Known" "book" "LShellHeap$Book;", .fieldLink RX4 76 "ShellHeap$Book" "a" "[I"] ++ (wsX40 ++ (wsX00 ++ (u_s_X4_counts ++ []))))
theorem gd_s_X4_areFindsIn : z_gd u_s_X4_areFindsIn := z_gdc (by decide +kernel) (z_gda gdX4 (z_gda gdX0 (z_gda gd_s_X4_counts (z_gd0))))
set_option maxRecDepth 20000 in
theorem gw_s_X4_areFindsIn_s_X4_counts_72 : GoodIn u_s_X4_areFindsIn (wsV RX4 72 RX4 yX4_counts u_s_X4_counts) := z_gV (z_gr _ [1, 2, 3, 4] rfl (by decide +kernel)) (fun w h => ⟨z_mc (z_mr (z_mr (z_mr (z_ml h)))), gd_s_X4_counts w h⟩)
set_option maxHeartbeats 4000000 in
set_option maxRecDepth 100000 in
theorem s_X4_areFindsIn (l : Launch) (dC : Nat → ClassId) (dI : Nat → Nat → Nat) (sz : Nat) (h0 : Nat) (p1 : Int32) (p2 : Int32) (h1 : Nat) (kn : Int32) (h0_2 : Value) (hk9 : Nat) (h0_4 : Value) (h0_5 : Value) (h0_6 : Value) (h0_7 : Value) (h0_8 : Value) (h0_9 : Value) (hs : Nat) (ha : Nat) (h1_2 : Value) (h1_3 : Value) (h1_4 : Value) (h1_5 : Value) (chk9 : ClassId) (fhk9 : Nat → Int32) (chs : ClassId) (fhs : Nat → Int32) (cha : ClassId) (fha : Nat → Int32) (hB_kn : ((-1 : Int) ≤ (kn).toInt ∧ (kn).toInt ≤ (80 : Int))) (hB_p1 : ((0 : Int) ≤ (p1).toInt ∧ (p1).toInt ≤ (79 : Int))) (hI_ha : ∀ j : Nat, ((0 : Int) ≤ (fha j).toInt ∧ (fha j).toInt ≤ (79 : Int))) : Met l yX4_areFindsIn u_s_X4_areFindsIn ({ frames := 1, cells := 0, slots := 0, locals := 22 }) (va_Pc [.ref h0, .int p1, .int p2] (z_C (dC, dI) vwCl [(h0, .inr (4, [.ref h1, .int kn, h0_2, .ref hk9, h0_4, h0_5, h0_6, h0_7, h0_8, h0_9])), (h1, .inr (0, [.ref hs, .ref ha, h1_2, h1_3, h1_4, h1_5])), (hk9, .inl (chk9, 80, .inl fhk9)), (hs, .inl (chs, 80, .inl fhs)), (ha, .inl (cha, 80, .inl fha))] [(chk9, .boolean), (chs, .int), (cha, .int)] sz)) (va_Qi (fun (r : Int32) (_ : Unit) => ((0 : Int) ≤ (r).toInt ∧ (r).toInt ≤ (1 : Int))) (fun (_ : Unit) (_ : State) => True) (va_A [] sz)) 0 0 (va_A [] sz) := by
  refine Met.ofW (cc := cX4_areFindsIn) (maxL := 3) (ret := (some .boolean)) (by decide) rfl ?_
  intro p e s m args below meth c s₁ B hml hv
  obtain ⟨rfl, hsz, hP, hK, hD0⟩ := hv
  have hx := B.exec
  have hb := B.bytes
  have hr := B.returns
  have hts := atoms_spec (ws := u_s_X4_areFindsIn) B.pre
  have hown : s.vm.findClass RX4 = some m.cls := findClass_of_methodNamed B.named
  have hlocks := B.notSynchronized
  subst hsz
  have hD := hD0
  generalize hAe : va_A [] s.heap.size = A
  have hA : ∀ q : Nat, s.heap.size ≤ q → A q := fun q h => by rw [← hAe]; exact Or.inr h
  have hS : va_S A s.heap s.heap [] := va_S.rf
  have hP : va_P (dC, dI) vwCl [(h0, .inr (4, [.ref h1, .int kn, h0_2, .ref hk9, h0_4, h0_5, h0_6, h0_7, h0_8, h0_9])), (h1, .inr (0, [.ref hs, .ref ha, h1_2, h1_3, h1_4, h1_5])), (hk9, .inl (chk9, 80, .inl fhk9)), (hs, .inl (chs, 80, .inl fhs)), (ha, .inl (cha, 80, .inl fha))] s.heap := hP
  have w__fieldLink_RX4_41_ShellHeap_Known_book_LShellHeap_Book_ := hts (.fieldLink RX4 41 "ShellHeap$Known" "book" "LShellHeap$Book;") (z_mc (z_ml z_m4))
  have hiX4 := show ∀ w ∈ u_ws RX4 TX4 10, w ∈ u_s_X4_areFindsIn from fun w h => z_mc (z_mr (z_ml h))
  have w__fieldLink_RX4_76_ShellHeap_Book_a_I_ := hts (.fieldLink RX4 76 "ShellHeap$Book" "a" "[I") (z_mc (z_ml z_m5))
  have hiX0 := show ∀ w ∈ u_ws RX0 TX0 6, w ∈ u_s_X4_areFindsIn from fun w h => z_mc (z_mr (z_mr (z_ml h)))
  have krr_p2 := z_rng p2
  have hl := lv_entry ([.ref h0, .int p1, .int p2]) (n := 3) (Nat.le_of_ble_eq_true rfl)
  rw [lg_entry_eq]
  generalize (lg_sl ([.ref h0, .int p1, .int p2]) ++ List.replicate (3 - (lg_sl ([.ref h0, .int p1, .int p2])).length) Slot.unset).toArray = ls at hl ⊢
  have hl : lv_has ls 3 [(0, .ref h0), (1, .int p1), (2, .int p2)] := hl
  refine lv_aload_n hx hb dX4_areFindsIn_0 rfl (lv_at hl 0 rfl) ?_
  refine lv_iload_n hx hb dX4_areFindsIn_1 rfl (lv_at hl 1 rfl) ?_
  refine lv_iconst (v := 4) hx hb dX4_areFindsIn_2 (by decide) ?_
  obtain ⟨hPc, hDc⟩ := z_sub2 (ws' := [(h0, .inr (4, [.ref h1, .int kn, h0_2, .ref hk9, h0_4, h0_5, h0_6, h0_7, h0_8, h0_9])), (h1, .inr (0, [.ref hs, .ref ha, h1_2, h1_3, h1_4, h1_5])), (hk9, .inl (chk9, 80, .inl fhk9)), (hs, .inl (chs, 80, .inl fhs))]) hP hD [0, 1, 2, 3] (by decide) rfl
  have hKc := hK.sub (tys' := [(chk9, .boolean), (chs, .int)]) [0, 1] rfl
  have hFc := va_free (ws := []) (wc := []) (z_D0 _) hS hA [] rfl
  refine va_calli (va_runV (As := [.int p1, .int 4]) (rest := []) ⟨hx, hb, hml, hown, hts⟩ (s_X4_counts l dC dI s.heap.size h0 p1 4 h1 kn h0_2 hk9 h0_4 h0_5 h0_6 h0_7 h0_8 h0_9 hs (.ref ha) h1_2 h1_3 h1_4 h1_5 chk9 fhk9 chs fhs hB_kn hB_p1) (cwV 2 hts gw_s_X4_areFindsIn_s_X4_counts_72 rfl rfl rfl (by decide +kernel) ⟨Nat.le_of_ble_eq_true rfl, Nat.le_of_ble_eq_true rfl⟩) ⟨z_blind, va_recv hKc hPc (ci := 4) (q0 := 0) rfl rfl, z_pre hPc hKc hDc⟩ rfl rfl hl.1 rfl (lv_room (Nat.le_of_ble_eq_true rfl)) dX4_areFindsIn_3 ⟨Nat.le_of_ble_eq_true rfl, Nat.le_of_ble_eq_true rfl⟩) hS (fun q _ h => hFc q h) hFc (fun r_2 u t H_1 locs ht hvm hw_3 hB hz1 hk1 hS => ?_)
  replace hP := z_pure hP hk1
  clear hPc hDc hKc
  rcases hw_3 with ⟨rfl, hw_3⟩ | ⟨rfl, hw_3⟩
  · have hw_3 : (p1.toInt < kn.toInt ∧ fhs p1.toNatClampNeg = 4) := hw_3
    refine lv_if_eq (tgt := 29) hx hb dX4_areFindsIn_6 (by decide) (fun c_4 => absurd c_4 (by decide)) (fun _ => ?_)
    refine lv_iload_n hx hb dX4_areFindsIn_9 rfl (lv_at hl 2 rfl) ?_
    refine lv_aload_n hx hb dX4_areFindsIn_10 rfl (lv_at hl 0 rfl) ?_
    refine va_get (D := (dC, dI)) (ci := 4) (v := .ref h1) (C := RX4) (T := TX4) (N := 10) hx hb hts hiX4 hown hK hP 0 rfl rfl 0 (by decide) w__fieldLink_RX4_41_ShellHeap_Known_book_LShellHeap_Book_ (fun _ h9 => h9) rfl dX4_areFindsIn_11 ?_
    refine va_get (D := (dC, dI)) (ci := 0) (v := .ref ha) (C := RX0) (T := TX0) (N := 6) hx hb hts hiX0 hown hK hP 1 rfl rfl 1 (by decide) w__fieldLink_RX4_76_ShellHeap_Book_a_I_ (fun _ h9 => h9) rfl dX4_areFindsIn_14 ?_
    refine lv_iload_n hx hb dX4_areFindsIn_17 rfl (lv_at hl 1 rfl) ?_
    refine va_iald hx hb hK hP 4 2 rfl rfl (z_vpinB hB_p1 (by decide) (by decide)) dX4_areFindsIn_18 ?_
    refine lv_topi (fun z_5 ez_5 => ?_)
    have kz_5 : ((0 : Int) ≤ (z_5).toInt ∧ (z_5).toInt ≤ (79 : Int)) := by rw [ez_5]; exact hI_ha _
    refine lv_ishr hx hb dX4_areFindsIn_19 ?_
    refine lv_topi (fun z_6 ez_6 => ?_)
    refine lv_iconst (v := 1) hx hb dX4_areFindsIn_20 (by decide) ?_
    refine lv_iand hx hb dX4_areFindsIn_21 ?_
    refine lv_topi (fun z_7 ez_7 => ?_)
    have kz_7 : (0 : Int) ≤ (z_7).toInt ∧ (z_7).toInt ≤ (1 : Int) := by rw [ez_7]; exact z_and _ 1 (by decide) (by decide)
    refine lv_if_eq (tgt := 29) hx hb dX4_areFindsIn_22 (by decide) (fun c_8 => ?_) (fun c_8 => ?_)
    · have k_9 : (z_7).toInt = (0 : Int) := z_eq c_8
      obtain rfl : z_7 = 0 := z_eq' (show (z_7).toInt = (0 : Int) by omega)
      refine lv_iconst (v := 0) hx hb dX4_areFindsIn_29 (by decide) ?_
      refine W.widen (k := 0) (n := 0) (Nat.le_of_ble_eq_true rfl) (Nat.le_of_ble_eq_true rfl) ?_
      exact W.zret (v := 0) hx hb hr (by rfl) (fun t ht hW => ⟨⟨0, (), rfl, (show ((0 : Int) ≤ (0 : Int) ∧ (0 : Int) ≤ (1 : Int)) by decide), trivial⟩, hS.F ht⟩) hS.2.2 dX4_areFindsIn_30
    · have k_11 : (z_7).toInt ≠ (0 : Int) := z_ne c_8
      obtain rfl : z_7 = 1 := z_eq' (show (z_7).toInt = (1 : Int) by omega)
      refine lv_iconst (v := 1) hx hb dX4_areFindsIn_25 (by decide) ?_
      refine lv_goto (tgt := 30) hx hb dX4_areFindsIn_26 (by decide) ?_
      refine W.widen (k := 0) (n := 0) (Nat.le_of_ble_eq_true rfl) (Nat.le_of_ble_eq_true rfl) ?_
      exact W.zret (v := 1) hx hb hr (by rfl) (fun t ht hW => ⟨⟨1, (), rfl, (show ((0 : Int) ≤ (1 : Int) ∧ (1 : Int) ≤ (1 : Int)) by decide), trivial⟩, hS.F ht⟩) hS.2.2 dX4_areFindsIn_30
  · have hw_3 : True := hw_3
    refine lv_if_eq (tgt := 29) hx hb dX4_areFindsIn_6 (by decide) (fun _ => ?_) (fun c_13 => absurd (by decide) c_13)
    refine lv_iconst (v := 0) hx hb dX4_areFindsIn_29 (by decide) ?_
    refine W.widen (k := 0) (n := 0) (Nat.le_of_ble_eq_true rfl) (Nat.le_of_ble_eq_true rfl) ?_
    exact W.zret (v := 0) hx hb hr (by rfl) (fun t ht hW => ⟨⟨0, (), rfl, (show ((0 : Int) ≤ (0 : Int) ∧ (0 : Int) ≤ (1 : Int)) by decide), trivial⟩, hS.F ht⟩) hS.2.2 dX4_areFindsIn_30
