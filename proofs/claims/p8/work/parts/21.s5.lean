def u_s_X4_counts : List Cond := .code yX4_counts cX4_counts 3 (some .boolean) :: ([.fieldLink RX4 9 "ShellHeap$Known" "notesSeen" "I", .fieldLink RX4 18 "ShellHeap$Known" "struck" "[Z", .fieldLink RX4 41 "ShellHeap$Known" "book" "LShellHeap$Book;", .fieldLink RX4 69 "ShellHeap$Book" "sort" "[I"] ++ (wsX40 ++ (wsX00 ++ [])))
theorem gd_s_X4_counts : z_gd u_s_X4_counts := z_gdc (by decide +kernel) (z_gda gdX4 (z_gda gdX0 (z_gd0)))
set_option maxHeartbeats 4000000 in
set_option maxRecDepth 100000 in
theorem s_X4_counts (l : Launch) (dC : Nat → ClassId) (dI : Nat → Nat → Nat) (sz : Nat) (h0 : Nat) (p1 : Int32) (p2 : Int32) (h1 : Nat) (kn : Int32) (h0_2 : Value) (hk9 : Nat) (h0_4 : Value) (h0_5 : Value) (h0_6 : Value) (h0_7 : Value) (h0_8 : Value) (h0_9 : Value) (hs : Nat) (h1_1 : Value) (h1_2 : Value) (h1_3 : Value) (h1_4 : Value) (h1_5 : Value) (chk9 : ClassId) (fhk9 : Nat → Int32) (chs : ClassId) (fhs : Nat → Int32) (hB_kn : ((-1 : Int) ≤ (kn).toInt ∧ (kn).toInt ≤ (80 : Int))) (hB_p1 : ((0 : Int) ≤ (p1).toInt ∧ (p1).toInt ≤ (79 : Int))) : Met l yX4_counts u_s_X4_counts ({ frames := 0, cells := 0, slots := 0, locals := 0 }) (va_Pc [.ref h0, .int p1, .int p2] (z_C (dC, dI) vwCl [(h0, .inr (4, [.ref h1, .int kn, h0_2, .ref hk9, h0_4, h0_5, h0_6, h0_7, h0_8, h0_9])), (h1, .inr (0, [.ref hs, h1_1, h1_2, h1_3, h1_4, h1_5])), (hk9, .inl (chk9, 80, .inl fhk9)), (hs, .inl (chs, 80, .inl fhs))] [(chk9, .boolean), (chs, .int)] sz)) (va_Qi (fun (r : Int32) (_ : Unit) => (r = 1 ∧ (p1.toInt < kn.toInt ∧ fhs p1.toNatClampNeg = p2)) ∨ (r = 0 ∧ True)) (fun (_ : Unit) (_ : State) => True) (va_A [] sz)) 0 0 (va_A [] sz) := by
  refine Met.ofW (cc := cX4_counts) (maxL := 3) (ret := (some .boolean)) (by decide) rfl ?_
  intro p e s m args below meth c s₁ B hml hv
  obtain ⟨rfl, hsz, hP, hK, hD0⟩ := hv
  have hx := B.exec
  have hb := B.bytes
  have hr := B.returns
  have hts := atoms_spec (ws := u_s_X4_counts) B.pre
  have hown : s.vm.findClass RX4 = some m.cls := findClass_of_methodNamed B.named
  have hlocks := B.notSynchronized
  subst hsz
  have hD := hD0
  generalize hAe : va_A [] s.heap.size = A
  have hA : ∀ q : Nat, s.heap.size ≤ q → A q := fun q h => by rw [← hAe]; exact Or.inr h
  have hS : va_S A s.heap s.heap [] := va_S.rf
  have hP : va_P (dC, dI) vwCl [(h0, .inr (4, [.ref h1, .int kn, h0_2, .ref hk9, h0_4, h0_5, h0_6, h0_7, h0_8, h0_9])), (h1, .inr (0, [.ref hs, h1_1, h1_2, h1_3, h1_4, h1_5])), (hk9, .inl (chk9, 80, .inl fhk9)), (hs, .inl (chs, 80, .inl fhs))] s.heap := hP
  have w__fieldLink_RX4_9_ShellHeap_Known_notesSeen_I_ := hts (.fieldLink RX4 9 "ShellHeap$Known" "notesSeen" "I") (z_mc (z_ml z_m0))
  have hiX4 := show ∀ w ∈ u_ws RX4 TX4 10, w ∈ u_s_X4_counts from fun w h => z_mc (z_mr (z_ml h))
  have w__fieldLink_RX4_18_ShellHeap_Known_struck_Z_ := hts (.fieldLink RX4 18 "ShellHeap$Known" "struck" "[Z") (z_mc (z_ml z_m1))
  have w__fieldLink_RX4_41_ShellHeap_Known_book_LShellHeap_Book_ := hts (.fieldLink RX4 41 "ShellHeap$Known" "book" "LShellHeap$Book;") (z_mc (z_ml z_m2))
  have w__fieldLink_RX4_69_ShellHeap_Book_sort_I_ := hts (.fieldLink RX4 69 "ShellHeap$Book" "sort" "[I") (z_mc (z_ml z_m3))
  have hiX0 := show ∀ w ∈ u_ws RX0 TX0 6, w ∈ u_s_X4_counts from fun w h => z_mc (z_mr (z_mr (z_ml h)))
  have krr_p2 := z_rng p2
  have hl := lv_entry ([.ref h0, .int p1, .int p2]) (n := 3) (Nat.le_of_ble_eq_true rfl)
  rw [lg_entry_eq]
  generalize (lg_sl ([.ref h0, .int p1, .int p2]) ++ List.replicate (3 - (lg_sl ([.ref h0, .int p1, .int p2])).length) Slot.unset).toArray = ls at hl ⊢
  have hl : lv_has ls 3 [(0, .ref h0), (1, .int p1), (2, .int p2)] := hl
  refine lv_iload_n hx hb dX4_counts_0 rfl (lv_at hl 1 rfl) ?_
  refine lv_aload_n hx hb dX4_counts_1 rfl (lv_at hl 0 rfl) ?_
  refine va_get (D := (dC, dI)) (ci := 4) (v := .int kn) (C := RX4) (T := TX4) (N := 10) hx hb hts hiX4 hown hK hP 0 rfl rfl 1 (by decide) w__fieldLink_RX4_9_ShellHeap_Known_notesSeen_I_ (fun _ h9 => h9) rfl dX4_counts_2 ?_
  refine lv_icmp_ge (tgt := 34) hx hb dX4_counts_5 (by decide) (fun c_1 => ?_) (fun c_1 => ?_)
  · have k_2 : (kn).toInt ≤ (p1).toInt := z_le c_1
    refine lv_iconst (v := 0) hx hb dX4_counts_34 (by decide) ?_
    refine W.widen (k := 0) (n := 0) (Nat.le_of_ble_eq_true rfl) (Nat.le_of_ble_eq_true rfl) ?_
    exact W.zret (v := 0) hx hb hr (by rfl) (fun t ht hW => ⟨⟨0, (), rfl, (Or.inr (⟨rfl, by first | omega | decide⟩)), trivial⟩, hS.F ht⟩) hS.2.2 dX4_counts_35
  · have k_3 : (kn).toInt > (p1).toInt := z_nle c_1
    refine lv_aload_n hx hb dX4_counts_8 rfl (lv_at hl 0 rfl) ?_
    refine va_get (D := (dC, dI)) (ci := 4) (v := .ref hk9) (C := RX4) (T := TX4) (N := 10) hx hb hts hiX4 hown hK hP 0 rfl rfl 3 (by decide) w__fieldLink_RX4_18_ShellHeap_Known_struck_Z_ (fun _ h9 => h9) rfl dX4_counts_9 ?_
    refine lv_iload_n hx hb dX4_counts_12 rfl (lv_at hl 1 rfl) ?_
    refine va_zald hx hb hK hP 2 0 rfl rfl (z_vpinB hB_p1 (by decide) (by decide)) dX4_counts_13 ?_
    refine lv_topi (fun z_4 ez_4 => ?_)
    refine lv_if_ne (tgt := 34) hx hb dX4_counts_14 (by decide) (fun c_5 => ?_) (fun c_5 => ?_)
    · have k_6 : (z_4).toInt ≠ (0 : Int) := z_ne c_5
      refine lv_iconst (v := 0) hx hb dX4_counts_34 (by decide) ?_
      refine W.widen (k := 0) (n := 0) (Nat.le_of_ble_eq_true rfl) (Nat.le_of_ble_eq_true rfl) ?_
      exact W.zret (v := 0) hx hb hr (by rfl) (fun t ht hW => ⟨⟨0, (), rfl, (Or.inr (⟨rfl, by first | omega | decide⟩)), trivial⟩, hS.F ht⟩) hS.2.2 dX4_counts_35
    · have k_7 : (z_4).toInt = (0 : Int) := z_eq c_5
      obtain rfl : z_4 = 0 := z_eq' (show (z_4).toInt = (0 : Int) by omega)
      refine lv_aload_n hx hb dX4_counts_17 rfl (lv_at hl 0 rfl) ?_
      refine va_get (D := (dC, dI)) (ci := 4) (v := .ref h1) (C := RX4) (T := TX4) (N := 10) hx hb hts hiX4 hown hK hP 0 rfl rfl 0 (by decide) w__fieldLink_RX4_41_ShellHeap_Known_book_LShellHeap_Book_ (fun _ h9 => h9) rfl dX4_counts_18 ?_
      refine va_get (D := (dC, dI)) (ci := 0) (v := .ref hs) (C := RX0) (T := TX0) (N := 6) hx hb hts hiX0 hown hK hP 1 rfl rfl 0 (by decide) w__fieldLink_RX4_69_ShellHeap_Book_sort_I_ (fun _ h9 => h9) rfl dX4_counts_21 ?_
      refine lv_iload_n hx hb dX4_counts_24 rfl (lv_at hl 1 rfl) ?_
      refine va_iald hx hb hK hP 3 1 rfl rfl (z_vpinB hB_p1 (by decide) (by decide)) dX4_counts_25 ?_
      refine lv_topi (fun z_9 ez_9 => ?_)
      refine lv_iload_n hx hb dX4_counts_26 rfl (lv_at hl 2 rfl) ?_
      refine lv_icmp_ne (tgt := 34) hx hb dX4_counts_27 (by decide) (fun c_10 => ?_) (fun c_10 => ?_)
      · have k_11 : (z_9).toInt ≠ (p2).toInt := z_ne c_10
        refine lv_iconst (v := 0) hx hb dX4_counts_34 (by decide) ?_
        refine W.widen (k := 0) (n := 0) (Nat.le_of_ble_eq_true rfl) (Nat.le_of_ble_eq_true rfl) ?_
        exact W.zret (v := 0) hx hb hr (by rfl) (fun t ht hW => ⟨⟨0, (), rfl, (Or.inr (⟨rfl, by first | omega | decide⟩)), trivial⟩, hS.F ht⟩) hS.2.2 dX4_counts_35
      · have k_12 : (z_9).toInt = (p2).toInt := z_eq c_10
        refine lv_iconst (v := 1) hx hb dX4_counts_30 (by decide) ?_
        refine lv_goto (tgt := 35) hx hb dX4_counts_31 (by decide) ?_
        refine W.widen (k := 0) (n := 0) (Nat.le_of_ble_eq_true rfl) (Nat.le_of_ble_eq_true rfl) ?_
        exact W.zret (v := 1) hx hb hr (by rfl) (fun t ht hW => ⟨⟨1, (), rfl, (Or.inl (⟨rfl, ⟨by omega, by rw [← ez_9]; exact z_eq' (by omega)⟩⟩)), trivial⟩, hS.F ht⟩) hS.2.2 dX4_counts_35
def u_s_X4_areFindsIn : List Cond := .code yX4_areFindsIn cX4_areFindsIn 3 (some .boolean) :: ([.methodLink RX4 72 yX4_counts, .instanceMethod yX4_counts, .selects RX4 yX4_counts yX4_counts, .initialized RX4, .fieldLink RX4 41 "ShellHeap$Known" "book" "LShellHeap$Book;", .fieldLink RX4 76 "ShellHeap$Book" "a" "[I"] ++ (wsX40 ++ (wsX00 ++ (u_s_X4_counts ++ []))))
theorem gd_s_X4_areFindsIn : z_gd u_s_X4_areFindsIn := z_gdc (by decide +kernel) (z_gda gdX4 (z_gda gdX0 (z_gda gd_s_X4_counts (z_gd0))))
set_option maxRecDepth 20000 in
theorem gw_s_X4_areFindsIn_s_X4_counts_72 : GoodIn u_s_X4_areFindsIn (wsV RX4 72 RX4 yX4_counts u_s_X4_counts) := z_gV (z_gr _ [1, 2, 3, 4] rfl (by decide +kernel)) (fun w h => ⟨z_mc (z_mr (z_mr (z_mr (z_ml h)))), gd_s_X4_counts w h⟩)
set_option maxHeartbeats 4000000 in
set_option maxRecDepth 100000 in
theorem s_X4_areFindsIn (l : Launch) (dC : Nat → ClassId) (dI : Nat → Nat → Nat) (sz : Nat) (h0 : Nat) (p1 : Int32) (p2 : Int32) (h1 : Nat) (kn : Int32) (h0_2 : Value) (hk9 : Nat) (h0_4 : Value) (h0_5 : Value) (h0_6 : Value) (h0_7 : Value) (h0_8 : Value) (h0_9 : Value) (hs : Nat) (ha : Nat) (h1_2 : Value) (h1_3 : Value) (h1_4 : Value) (h1_5 : Value) (chk9 : ClassId) (fhk9 : Nat → Int32) (chs : ClassId) (fhs : Nat → Int32) (cha : ClassId) (fha : Nat → Int32) (hB_kn : ((-1 : Int) ≤ (kn).toInt ∧ (kn).toInt ≤ (80 : Int))) (hB_p1 : ((0 : Int) ≤ (p1).toInt ∧ (p1).toInt ≤ (79 : Int))) (hI_ha : ∀ j : Nat, ((0 : Int) ≤ (fha j).toInt ∧ (fha j).toInt ≤ (79 : Int))) : Met l yX4_areFindsIn u_s_X4_areFindsIn ({ frames := 1, cells := 0, slots := 0, locals := 22 }) (va_Pc [.ref h0, .int p1, .int p2] (z_C (dC, dI) vwCl [(h0, .inr (4, [.ref h1, .int kn, h0_2, .ref hk9, h0_4, h0_5, h0_6, h0_7, h0_8, h0_9])), (h1, .inr (0, [.ref hs, .ref ha, h1_2, h1_3, h1_4, h1_5])), (hk9, .inl (chk9, 80, .inl fhk9)), (hs, .inl (chs, 80, .inl fhs)), (ha, .inl (cha, 80, .inl fha))] [(chk9, .boolean), (chs, .int), (cha, .int)] sz)) (va_Qi (fun (r : Int32) (_ : Unit) => ((0 : Int) ≤ (r).toInt ∧ (r).toInt ≤ (1 : Int))) (fun (_ : Unit) (_ : State) => True) (va_A [] sz)) 0 0 (va_A [] sz) := by
  refine Met.ofW (cc := cX4_areFindsIn) (maxL := 3) (ret := (some .boolean)) (by decide) rfl ?_
  intro p e s m args below meth c s₁ B hml hv
  obtain ⟨rfl, hsz, hP, hK, hD0⟩ := hv
  have hx := B.exec
  have hb := B.bytes
  have hr := B.returns
  have hts := atoms_spec (ws := u_s_X4_areFindsIn) B.pre
  have hown : s.vm.findClass RX4 = some m.cls := findClass_of_methodNamed B.named
  have hlocks := B.notSynchronized
  subst hsz
  have hD := hD0
  generalize hAe : va_A [] s.heap.size = A
  have hA : ∀ q : Nat, s.heap.size ≤ q → A q := fun q h => by rw [← hAe]; exact Or.inr h
  have hS : va_S A s.heap s.heap [] := va_S.rf
  have hP : va_P (dC, dI) vwCl [(h0, .inr (4, [.ref h1, .int kn, h0_2, .ref hk9, h0_4, h0_5, h0_6, h0_7, h0_8, h0_9])), (h1, .inr (0, [.ref hs, .ref ha, h1_2, h1_3, h1_4, h1_5])), (hk9, .inl (chk9, 80, .inl fhk9)), (hs, .inl (chs, 80, .inl fhs)), (ha, .inl (cha, 80, .inl fha))] s.heap := hP
  have w__fieldLink_RX4_41_ShellHeap_Known_book_LShellHeap_Book_ := hts (.fieldLink RX4 41 "ShellHeap$Known" "book" "LShellHeap$Book;") (z_mc (z_ml z_m4))
  have hiX4 := show ∀ w ∈ u_ws RX4 TX4 10, w ∈ u_s_X4_areFindsIn from fun w h => z_mc (z_mr (z_ml h))
  have w__fieldLink_RX4_76_ShellHeap_Book_a_I_ := hts (.fieldLink RX4 76 "ShellHeap$Book" "a" "[I") (z_mc (z_ml z_m5))
  have hiX0 := show ∀ w ∈ u_ws RX0 TX0 6, w ∈ u_s_X4_areFindsIn from fun w h => z_mc (z_mr (z_mr (z_ml h)))
  have krr_p2 := z_rng p2
  have hl := lv_entry ([.ref h0, .int p1, .int p2]) (n := 3) (Nat.le_of_ble_eq_true rfl)
  rw [lg_entry_eq]
  generalize (lg_sl ([.ref h0, .int p1, .int p2]) ++ List.replicate (3 - (lg_sl ([.ref h0, .int p1, .int p2])).length) Slot.unset).toArray = ls at hl ⊢
  have hl : lv_has ls 3 [(0, .ref h0), (1, .int p1), (2, .int p2)] := hl
  refine lv_aload_n hx hb dX4_areFindsIn_0 rfl (lv_at hl 0 rfl) ?_
  refine lv_iload_n hx hb dX4_areFindsIn_1 rfl (lv_at hl 1 rfl) ?_
  refine lv_iconst (v := 4) hx hb dX4_areFindsIn_2 (by decide) ?_
  obtain ⟨hPc, hDc⟩ := z_sub2 (ws' := [(h0, .inr (4, [.ref h1, .int kn, h0_2, .ref hk9, h0_4, h0_5, h0_6, h0_7, h0_8, h0_9])), (h1, .inr (0, [.ref hs, .ref ha, h1_2, h1_3, h1_4, h1_5])), (hk9, .inl (chk9, 80, .inl fhk9)), (hs, .inl (chs, 80, .inl fhs))]) hP hD [0, 1, 2, 3] (by decide) rfl
  have hKc := hK.sub (tys' := [(chk9, .boolean), (chs, .int)]) [0, 1] rfl
  have hFc := va_free (ws := []) (wc := []) (z_D0 _) hS hA [] rfl
  refine va_calli (va_runV (As := [.int p1, .int 4]) (rest := []) ⟨hx, hb, hml, hown, hts⟩ (s_X4_counts l dC dI s.heap.size h0 p1 4 h1 kn h0_2 hk9 h0_4 h0_5 h0_6 h0_7 h0_8 h0_9 hs (.ref ha) h1_2 h1_3 h1_4 h1_5 chk9 fhk9 chs fhs hB_kn hB_p1) (cwV 2 hts gw_s_X4_areFindsIn_s_X4_counts_72 rfl rfl rfl (by decide +kernel) ⟨Nat.le_of_ble_eq_true rfl, Nat.le_of_ble_eq_true rfl⟩) ⟨z_blind, va_recv hKc hPc (ci := 4) (q0 := 0) rfl rfl, z_pre hPc hKc hDc⟩ rfl rfl hl.1 rfl (lv_room (Nat.le_of_ble_eq_true rfl)) dX4_areFindsIn_3 ⟨Nat.le_of_ble_eq_true rfl, Nat.le_of_ble_eq_true rfl⟩) hS (fun q _ h => hFc q h) hFc (fun r_2 u t H_1 locs ht hvm hw_3 hB hz1 hk1 hS => ?_)
  replace hP := z_pure hP hk1
  clear hPc hDc hKc
  rcases hw_3 with ⟨rfl, hw_3⟩ | ⟨rfl, hw_3⟩
  · have hw_3 : (p1.toInt < kn.toInt ∧ fhs p1.toNatClampNeg = 4) := hw_3
    refine lv_if_eq (tgt := 29) hx hb dX4_areFindsIn_6 (by decide) (fun c_4 => absurd c_4 (by decide)) (fun _ => ?_)
    refine lv_iload_n hx hb dX4_areFindsIn_9 rfl (lv_at hl 2 rfl) ?_
    refine lv_aload_n hx hb dX4_areFindsIn_10 rfl (lv_at hl 0 rfl) ?_
    refine va_get (D := (dC, dI)) (ci := 4) (v := .ref h1) (C := RX4) (T := TX4) (N := 10) hx hb hts hiX4 hown hK hP 0 rfl rfl 0 (by decide) w__fieldLink_RX4_41_ShellHeap_Known_book_LShellHeap_Book_ (fun _ h9 => h9) rfl dX4_areFindsIn_11 ?_
    refine va_get (D := (dC, dI)) (ci := 0) (v := .ref ha) (C := RX0) (T := TX0) (N := 6) hx hb hts hiX0 hown hK hP 1 rfl rfl 1 (by decide) w__fieldLink_RX4_76_ShellHeap_Book_a_I_ (fun _ h9 => h9) rfl dX4_areFindsIn_14 ?_
    refine lv_iload_n hx hb dX4_areFindsIn_17 rfl (lv_at hl 1 rfl) ?_
    refine va_iald hx hb hK hP 4 2 rfl rfl (z_vpinB hB_p1 (by decide) (by decide)) dX4_areFindsIn_18 ?_
    refine lv_topi (fun z_5 ez_5 => ?_)
    have kz_5 : ((0 : Int) ≤ (z_5).toInt ∧ (z_5).toInt ≤ (79 : Int)) := by rw [ez_5]; exact hI_ha _
    refine lv_ishr hx hb dX4_areFindsIn_19 ?_
    refine lv_topi (fun z_6 ez_6 => ?_)
    refine lv_iconst (v := 1) hx hb dX4_areFindsIn_20 (by decide) ?_
    refine lv_iand hx hb dX4_areFindsIn_21 ?_
    refine lv_topi (fun z_7 ez_7 => ?_)
    have kz_7 : (0 : Int) ≤ (z_7).toInt ∧ (z_7).toInt ≤ (1 : Int) := by rw [ez_7]; exact z_and _ 1 (by decide) (by decide)
    refine lv_if_eq (tgt := 29) hx hb dX4_areFindsIn_22 (by decide) (fun c_8 => ?_) (fun c_8 => ?_)
    · have k_9 : (z_7).toInt = (0 : Int) := z_eq c_8
      obtain rfl : z_7 = 0 := z_eq' (show (z_7).toInt = (0 : Int) by omega)
      refine lv_iconst (v := 0) hx hb dX4_areFindsIn_29 (by decide) ?_
      refine W.widen (k := 0) (n := 0) (Nat.le_of_ble_eq_true rfl) (Nat.le_of_ble_eq_true rfl) ?_
      exact W.zret (v := 0) hx hb hr (by rfl) (fun t ht hW => ⟨⟨0, (), rfl, (show ((0 : Int) ≤ (0 : Int) ∧ (0 : Int) ≤ (1 : Int)) by decide), trivial⟩, hS.F ht⟩) hS.2.2 dX4_areFindsIn_30
    · have k_11 : (z_7).toInt ≠ (0 : Int) := z_ne c_8
      obtain rfl : z_7 = 1 := z_eq' (show (z_7).toInt = (1 : Int) by omega)
      refine lv_iconst (v := 1) hx hb dX4_areFindsIn_25 (by decide) ?_
      refine lv_goto (tgt := 30) hx hb dX4_areFindsIn_26 (by decide) ?_
      refine W.widen (k := 0) (n := 0) (Nat.le_of_ble_eq_true rfl) (Nat.le_of_ble_eq_true rfl) ?_
      exact W.zret (v := 1) hx hb hr (by rfl) (fun t ht hW => ⟨⟨1, (), rfl, (show ((0 : Int) ≤ (1 : Int) ∧ (1 : Int) ≤ (1 : Int)) by decide), trivial⟩, hS.F ht⟩) hS.2.2 dX4_areFindsIn_30
  · have hw_3 : True := hw_3
    refine lv_if_eq (tgt := 29) hx hb dX4_areFindsIn_6 (by decide) (fun _ => ?_) (fun c_13 => absurd (by decide) c_13)
    refine lv_iconst (v := 0) hx hb dX4_areFindsIn_29 (by decide) ?_
    refine W.widen (k := 0) (n := 0) (Nat.le_of_ble_eq_true rfl) (Nat.le_of_ble_eq_true rfl) ?_
    exact W.zret (v := 0) hx hb hr (by rfl) (fun t ht hW => ⟨⟨0, (), rfl, (show ((0 : Int) ≤ (0 : Int) ∧ (0 : Int) ≤ (1 : Int)) by decide), trivial⟩, hS.F ht⟩) hS.2.2 dX4_areFindsIn_30
def u_s_X4_findStruck : List Cond := .code yX4_findStruck cX4_findStruck 2 none :: ([.fieldLink RX4 9 "ShellHeap$Known" "notesSeen" "I", .methodLink RX4 72 yX4_counts, .instanceMethod yX4_counts, .selects RX4 yX4_counts yX4_counts, .initialized RX4, .fieldLink RX4 41 "ShellHeap$Known" "book" "LShellHeap$Book;", .fieldLink RX4 76 "ShellHeap$Book" "a" "[I", .fieldLink RX4 18 "ShellHeap$Known" "struck" "[Z"] ++ (wsX40 ++ (wsX00 ++ (u_s_X4_counts ++ []))))
theorem gd_s_X4_findStruck : z_gd u_s_X4_findStruck := z_gdc (by decide +kernel) (z_gda gdX4 (z_gda gdX0 (z_gda gd_s_X4_counts (z_gd0))))
set_option maxRecDepth 20000 in
theorem gw_s_X4_findStruck_s_X4_counts_72 : GoodIn u_s_X4_findStruck (wsV RX4 72 RX4 yX4_counts u_s_X4_counts) := z_gV (z_gr _ [2, 3, 4, 5] rfl (by decide +kernel)) (fun w h => ⟨z_mc (z_mr (z_mr (z_mr (z_ml h)))), gd_s_X4_counts w h⟩)
set_option maxHeartbeats 4000000 in
set_option maxRecDepth 100000 in
theorem s_X4_findStruck (l : Launch) (dC : Nat → ClassId) (dI : Nat → Nat → Nat) (sz : Nat) (h0 : Nat) (h1 : Nat) (kn : Int32) (h0_2 : Value) (hk9 : Nat) (h0_4 : Value) (h0_5 : Value) (h0_6 : Value) (h0_7 : Value) (h0_8 : Value) (h0_9 : Value) (hs : Nat) (ha : Nat) (h1_2 : Value) (h1_3 : Value) (h1_4 : Value) (h1_5 : Value) (chk9 : ClassId) (fhk9 : Nat → Int32) (chs : ClassId) (fhs : Nat → Int32) (cha : ClassId) (fha : Nat → Int32) (hB_kn : ((-1 : Int) ≤ (kn).toInt ∧ (kn).toInt ≤ (80 : Int))) (hI_ha : ∀ j : Nat, ((0 : Int) ≤ (fha j).toInt ∧ (fha j).toInt ≤ (79 : Int))) : Met l yX4_findStruck u_s_X4_findStruck ({ frames := 1, cells := 0, slots := 0, locals := 22 }) (va_Pc [.ref h0] (z_C (dC, dI) vwCl [(h0, .inr (4, [.ref h1, .int kn, h0_2, .ref hk9, h0_4, h0_5, h0_6, h0_7, h0_8, h0_9])), (h1, .inr (0, [.ref hs, .ref ha, h1_2, h1_3, h1_4, h1_5])), (hk9, .inl (chk9, 80, .inl fhk9)), (hs, .inl (chs, 80, .inl fhs)), (ha, .inl (cha, 80, .inl fha))] [(chk9, .boolean), (chs, .int), (cha, .int)] sz)) (va_Qv (fun (_ : Unit) => True) (fun (_ : Unit) (t : State) => ∃ (g_hk9 : Nat → Int32), va_P (dC, dI) vwCl [(h0, .inr (4, [.ref h1, .int kn, h0_2, .ref hk9, h0_4, h0_5, h0_6, h0_7, h0_8, h0_9])), (h1, .inr (0, [.ref hs, .ref ha, h1_2, h1_3, h1_4, h1_5])), (hk9, .inl (chk9, 80, .inl g_hk9)), (hs, .inl (chs, 80, .inl fhs)), (ha, .inl (cha, 80, .inl fha))] t.heap ∧ va_K (dC, dI) vwCl [] t ∧ va_D (va_A [(h0, .inr (4, [.ref h1, .int kn, h0_2, .ref hk9, h0_4, h0_5, h0_6, h0_7, h0_8, h0_9])), (h1, .inr (0, [.ref hs, .ref ha, h1_2, h1_3, h1_4, h1_5])), (hk9, .inl (chk9, 80, .inl fhk9)), (hs, .inl (chs, 80, .inl fhs)), (ha, .inl (cha, 80, .inl fha))] sz) [(h0, .inr (4, [.ref h1, .int kn, h0_2, .ref hk9, h0_4, h0_5, h0_6, h0_7, h0_8, h0_9])), (h1, .inr (0, [.ref hs, .ref ha, h1_2, h1_3, h1_4, h1_5])), (hk9, .inl (chk9, 80, .inl g_hk9)), (hs, .inl (chs, 80, .inl fhs)), (ha, .inl (cha, 80, .inl fha))]) (va_A [(h0, .inr (4, [.ref h1, .int kn, h0_2, .ref hk9, h0_4, h0_5, h0_6, h0_7, h0_8, h0_9])), (h1, .inr (0, [.ref hs, .ref ha, h1_2, h1_3, h1_4, h1_5])), (hk9, .inl (chk9, 80, .inl fhk9)), (hs, .inl (chs, 80, .inl fhs)), (ha, .inl (cha, 80, .inl fha))] sz)) 0 0 (va_A [(h0, .inr (4, [.ref h1, .int kn, h0_2, .ref hk9, h0_4, h0_5, h0_6, h0_7, h0_8, h0_9])), (h1, .inr (0, [.ref hs, .ref ha, h1_2, h1_3, h1_4, h1_5])), (hk9, .inl (chk9, 80, .inl fhk9)), (hs, .inl (chs, 80, .inl fhs)), (ha, .inl (cha, 80, .inl fha))] sz) := by
  refine Met.ofW (cc := cX4_findStruck) (maxL := 2) (ret := none) (by decide) rfl ?_
  intro p e s m args below meth c s₁ B hml hv
  obtain ⟨rfl, hsz, hP, hK, hD0⟩ := hv
  have hx := B.exec
  have hb := B.bytes
  have hr := B.returns
  have hts := atoms_spec (ws := u_s_X4_findStruck) B.pre
  have hown : s.vm.findClass RX4 = some m.cls := findClass_of_methodNamed B.named
  have hlocks := B.notSynchronized
  subst hsz
  have hD := hD0.self (sz := s.heap.size)
  generalize hAe : va_A [(h0, .inr (4, [.ref h1, .int kn, h0_2, .ref hk9, h0_4, h0_5, h0_6, h0_7, h0_8, h0_9])), (h1, .inr (0, [.ref hs, .ref ha, h1_2, h1_3, h1_4, h1_5])), (hk9, .inl (chk9, 80, .inl fhk9)), (hs, .inl (chs, 80, .inl fhs)), (ha, .inl (cha, 80, .inl fha))] s.heap.size = A at hD ⊢
  have hA : ∀ q : Nat, s.heap.size ≤ q → A q := fun q h => by rw [← hAe]; exact Or.inr h
  have hS : va_S A s.heap s.heap [] := va_S.rf
  have hP : va_P (dC, dI) vwCl [(h0, .inr (4, [.ref h1, .int kn, h0_2, .ref hk9, h0_4, h0_5, h0_6, h0_7, h0_8, h0_9])), (h1, .inr (0, [.ref hs, .ref ha, h1_2, h1_3, h1_4, h1_5])), (hk9, .inl (chk9, 80, .inl fhk9)), (hs, .inl (chs, 80, .inl fhs)), (ha, .inl (cha, 80, .inl fha))] s.heap := hP
  have w__fieldLink_RX4_9_ShellHeap_Known_notesSeen_I_ := hts (.fieldLink RX4 9 "ShellHeap$Known" "notesSeen" "I") (z_mc (z_ml z_m0))
  have hiX4 := show ∀ w ∈ u_ws RX4 TX4 10, w ∈ u_s_X4_findStruck from fun w h => z_mc (z_mr (z_ml h))
  have w__fieldLink_RX4_41_ShellHeap_Known_book_LShellHeap_Book_ := hts (.fieldLink RX4 41 "ShellHeap$Known" "book" "LShellHeap$Book;") (z_mc (z_ml z_m5))
  have w__fieldLink_RX4_76_ShellHeap_Book_a_I_ := hts (.fieldLink RX4 76 "ShellHeap$Book" "a" "[I") (z_mc (z_ml z_m6))
  have hiX0 := show ∀ w ∈ u_ws RX0 TX0 6, w ∈ u_s_X4_findStruck from fun w h => z_mc (z_mr (z_mr (z_ml h)))
  have w__fieldLink_RX4_18_ShellHeap_Known_struck_Z_ := hts (.fieldLink RX4 18 "ShellHeap$Known" "struck" "[Z") (z_mc (z_ml z_m7))
  have hl := lv_entry ([.ref h0]) (n := 2) (Nat.le_of_ble_eq_true rfl)
  rw [lg_entry_eq]
  generalize (lg_sl ([.ref h0]) ++ List.replicate (2 - (lg_sl ([.ref h0])).length) Slot.unset).toArray = ls at hl ⊢
  have hl : lv_has ls 2 [(0, .ref h0)] := hl
  refine z_nameQ (fun QQ hQQ => ?_)
  refine lv_iconst (v := 0) hx hb dX4_findStruck_0 (by decide) ?_
  refine lv_istore_n (lv' := [(1, .int 0), (0, .ref h0)]) hx hb dX4_findStruck_1 rfl hl (by decide) rfl (fun ls hl => ?_)
  have loop_1 : ∀ (n_2 : Nat) (i_4 : Int32) (f_5 : Nat → Int32) (H : Heap) (locs : List Loc) (ls : Array Slot), (81 - (i_4).toInt).toNat < n_2 → (((0 : Int) ≤ (i_4).toInt ∧ (i_4).toInt ≤ (80 : Int))) → va_P (dC, dI) vwCl [(h0, .inr (4, [.ref h1, .int kn, h0_2, .ref hk9, h0_4, h0_5, h0_6, h0_7, h0_8, h0_9])), (h1, .inr (0, [.ref hs, .ref ha, h1_2, h1_3, h1_4, h1_5])), (hk9, .inl (chk9, 80, .inl f_5)), (hs, .inl (chs, 80, .inl fhs)), (ha, .inl (cha, 80, .inl fha))] H → va_D A [(h0, .inr (4, [.ref h1, .int kn, h0_2, .ref hk9, h0_4, h0_5, h0_6, h0_7, h0_8, h0_9])), (h1, .inr (0, [.ref hs, .ref ha, h1_2, h1_3, h1_4, h1_5])), (hk9, .inl (chk9, 80, .inl f_5)), (hs, .inl (chs, 80, .inl fhs)), (ha, .inl (cha, 80, .inl fha))] → va_S A s.heap H locs → lv_has ls 2 [(1, .int i_4), (0, .ref h0)] → W p l e ({ frames := 1, cells := 0, slots := 0, locals := 22 } : Room) s m ([.ref h0] : List Value).toArray below meth c H locs 0 0 QQ (F0 m 2 ls []) := by
    intro n_2
    induction n_2 with
    | zero => intro i_4 f_5 H locs ls hm; exact absurd hm (Nat.not_lt_zero _)
    | succ n_2 ih_3 =>
      intro i_4 f_5 H locs ls hm hF_6 hP hD hS hl
      refine lv_iload_n hx hb dX4_findStruck_2 rfl (lv_at hl 0 rfl) ?_
      refine lv_aload_n hx hb dX4_findStruck_3 rfl (lv_at hl 1 rfl) ?_
      refine va_get (D := (dC, dI)) (ci := 4) (v := .int kn) (C := RX4) (T := TX4) (N := 10) hx hb hts hiX4 hown hK hP 0 rfl rfl 1 (by decide) w__fieldLink_RX4_9_ShellHeap_Known_notesSeen_I_ (fun _ h9 => h9) rfl dX4_findStruck_4 ?_
      refine lv_icmp_ge (tgt := 23) hx hb dX4_findStruck_7 (by decide) (fun c_7 => ?_) (fun c_7 => ?_)
      · have k_8 : (kn).toInt ≤ (i_4).toInt := z_le c_7
        refine lv_aload_n hx hb dX4_findStruck_23 rfl (lv_at hl 1 rfl) ?_
        refine va_get (D := (dC, dI)) (ci := 4) (v := .int kn) (C := RX4) (T := TX4) (N := 10) hx hb hts hiX4 hown hK hP 0 rfl rfl 1 (by decide) w__fieldLink_RX4_9_ShellHeap_Known_notesSeen_I_ (fun _ h9 => h9) rfl dX4_findStruck_24 ?_
        refine lv_iconst (v := 1) hx hb dX4_findStruck_27 (by decide) ?_
        refine lv_isub hx hb dX4_findStruck_28 ?_
        refine lv_topi (fun z_9 ez_9 => ?_)
        have kz_9 : (z_9).toInt = (kn).toInt - (1 : Int) := by rw [ez_9]; exact z_sub (a := (kn).toInt) (b := (1 : Int)) rfl rfl (z_mlo hB_kn.1 (by decide)) (z_mhi hB_kn.2 (by decide))
        refine lv_istore_n (lv' := [(1, .int z_9), (0, .ref h0)]) hx hb dX4_findStruck_29 rfl hl (by decide) rfl (fun ls hl => ?_)
        have loop_10 : ∀ (n_11 : Nat) (i_13 : Int32) (f_14 : Nat → Int32) (H : Heap) (locs : List Loc) (ls : Array Slot), ((i_13).toInt + 3).toNat < n_11 → (((-2 : Int) ≤ (i_13).toInt ∧ (i_13).toInt ≤ (79 : Int))) → va_P (dC, dI) vwCl [(h0, .inr (4, [.ref h1, .int kn, h0_2, .ref hk9, h0_4, h0_5, h0_6, h0_7, h0_8, h0_9])), (h1, .inr (0, [.ref hs, .ref ha, h1_2, h1_3, h1_4, h1_5])), (hk9, .inl (chk9, 80, .inl f_14)), (hs, .inl (chs, 80, .inl fhs)), (ha, .inl (cha, 80, .inl fha))] H → va_D A [(h0, .inr (4, [.ref h1, .int kn, h0_2, .ref hk9, h0_4, h0_5, h0_6, h0_7, h0_8, h0_9])), (h1, .inr (0, [.ref hs, .ref ha, h1_2, h1_3, h1_4, h1_5])), (hk9, .inl (chk9, 80, .inl f_14)), (hs, .inl (chs, 80, .inl fhs)), (ha, .inl (cha, 80, .inl fha))] → va_S A s.heap H locs → lv_has ls 2 [(1, .int i_13), (0, .ref h0)] → W p l e ({ frames := 1, cells := 0, slots := 0, locals := 22 } : Room) s m ([.ref h0] : List Value).toArray below meth c H locs 0 0 QQ (F0 m 30 ls []) := by
          intro n_11
          induction n_11 with
          | zero => intro i_13 f_14 H locs ls hm; exact absurd hm (Nat.not_lt_zero _)
          | succ n_11 ih_12 =>
            intro i_13 f_14 H locs ls hm hF_15 hP hD hS hl
            refine lv_iload_n hx hb dX4_findStruck_30 rfl (lv_at hl 0 rfl) ?_
            refine lv_if_lt (tgt := 77) hx hb dX4_findStruck_31 (by decide) (fun c_16 => ?_) (fun c_16 => ?_)
            · have k_17 : (i_13).toInt < (0 : Int) := z_lt c_16
              refine z_backQ hQQ ?_
              have hP9 := hP
              have hD9 := hD
              have hK9 := hK.sub (tys' := []) [] rfl
              refine W.widen (k := 0) (n := 0) (Nat.le_of_ble_eq_true rfl) (Nat.le_of_ble_eq_true rfl) ?_
              exact W.vret hx hb hr (fun t ht hW => ⟨⟨(), rfl, trivial, ⟨f_14, by rw [ht]; exact hP9, va_K.moved hW.alike hK9, hD9⟩⟩, hS.F ht⟩) hS.2.2 dX4_findStruck_77
            · have k_18 : (i_13).toInt ≥ (0 : Int) := z_nlt c_16
              refine lv_aload_n hx hb dX4_findStruck_34 rfl (lv_at hl 1 rfl) ?_
              refine lv_iload_n hx hb dX4_findStruck_35 rfl (lv_at hl 0 rfl) ?_
              refine lv_iconst (v := 5) hx hb dX4_findStruck_36 (by decide) ?_
              obtain ⟨hPc, hDc⟩ := z_sub2 (ws' := [(h0, .inr (4, [.ref h1, .int kn, h0_2, .ref hk9, h0_4, h0_5, h0_6, h0_7, h0_8, h0_9])), (h1, .inr (0, [.ref hs, .ref ha, h1_2, h1_3, h1_4, h1_5])), (hk9, .inl (chk9, 80, .inl f_14)), (hs, .inl (chs, 80, .inl fhs))]) hP hD [0, 1, 2, 3] (by decide) rfl
              have hKc := hK.sub (tys' := [(chk9, .boolean), (chs, .int)]) [0, 1] rfl
              have hFc := va_free (ws := []) (wc := []) (z_D0 _) hS hA [] rfl
              refine va_calli (va_runV (As := [.int i_13, .int 5]) (rest := []) ⟨hx, hb, hml, hown, hts⟩ (s_X4_counts l dC dI H.size h0 i_13 5 h1 kn h0_2 hk9 h0_4 h0_5 h0_6 h0_7 h0_8 h0_9 hs (.ref ha) h1_2 h1_3 h1_4 h1_5 chk9 f_14 chs fhs hB_kn (by first | omega | decide)) (cwV 2 hts gw_s_X4_findStruck_s_X4_counts_72 rfl rfl rfl (by decide +kernel) ⟨Nat.le_of_ble_eq_true rfl, Nat.le_of_ble_eq_true rfl⟩) ⟨z_blind, va_recv hKc hPc (ci := 4) (q0 := 0) rfl rfl, z_pre hPc hKc hDc⟩ rfl rfl hl.1 rfl (lv_room (Nat.le_of_ble_eq_true rfl)) dX4_findStruck_37 ⟨Nat.le_of_ble_eq_true rfl, Nat.le_of_ble_eq_true rfl⟩) hS (fun q _ h => hFc q h) hFc (fun r_20 u t H_19 locs ht hvm hw_21 hB hz1 hk1 hS => ?_)
              replace hP := z_pure hP hk1
              clear hPc hDc hKc
              rcases hw_21 with ⟨rfl, hw_21⟩ | ⟨rfl, hw_21⟩
              · have hw_21 : (i_13.toInt < kn.toInt ∧ fhs i_13.toNatClampNeg = 5) := hw_21
                refine lv_if_eq (tgt := 71) hx hb dX4_findStruck_40 (by decide) (fun c_22 => absurd c_22 (by decide)) (fun _ => ?_)
                refine lv_aload_n hx hb dX4_findStruck_43 rfl (lv_at hl 1 rfl) ?_
                refine va_get (D := (dC, dI)) (ci := 4) (v := .ref h1) (C := RX4) (T := TX4) (N := 10) hx hb hts hiX4 hown hK hP 0 rfl rfl 0 (by decide) w__fieldLink_RX4_41_ShellHeap_Known_book_LShellHeap_Book_ (fun _ h9 => h9) rfl dX4_findStruck_44 ?_
                refine va_get (D := (dC, dI)) (ci := 0) (v := .ref ha) (C := RX0) (T := TX0) (N := 6) hx hb hts hiX0 hown hK hP 1 rfl rfl 1 (by decide) w__fieldLink_RX4_76_ShellHeap_Book_a_I_ (fun _ h9 => h9) rfl dX4_findStruck_47 ?_
                refine lv_iload_n hx hb dX4_findStruck_50 rfl (lv_at hl 0 rfl) ?_
                refine va_iald hx hb hK hP 4 2 rfl rfl (z_vpin (by omega) (by omega)) dX4_findStruck_51 ?_
                refine lv_topi (fun z_23 ez_23 => ?_)
                have kz_23 : ((0 : Int) ≤ (z_23).toInt ∧ (z_23).toInt ≤ (79 : Int)) := by rw [ez_23]; exact hI_ha _
                refine lv_iload_n hx hb dX4_findStruck_52 rfl (lv_at hl 0 rfl) ?_
                refine lv_icmp_ge (tgt := 71) hx hb dX4_findStruck_53 (by decide) (fun c_24 => ?_) (fun c_24 => ?_)
                · have k_25 : (i_13).toInt ≤ (z_23).toInt := z_le c_24
                  obtain ⟨z_26, ez_26⟩ : ∃ y : Int32, y = i_13 + (-1) := ⟨_, rfl⟩
                  have kz_26 : (z_26).toInt = (i_13).toInt + (-1 : Int) := by rw [ez_26]; exact z_add (b := -1) rfl rfl (z_al hF_15.1 (by decide)) (z_ah hF_15.2 (by decide))
                  refine lv_iinc (v := z_26) (lv' := [(1, .int z_26), (0, .ref h0)]) hx hb dX4_findStruck_71 hl (k := 0) rfl (by rw [ez_26]; rfl) (by decide) rfl (fun ls hl => ?_)
                  refine lv_goto (tgt := 30) hx hb dX4_findStruck_74 (by decide) ?_
                  exact ih_12 z_26 f_14 _ _ _ (show ((z_26).toInt + 3).toNat < n_11 by omega) (show ((-2 : Int) ≤ (z_26).toInt ∧ (z_26).toInt ≤ (79 : Int)) by omega) hP hD hS (lv_sub hl [0, 1] rfl)
                · have k_27 : (i_13).toInt > (z_23).toInt := z_nle c_24
                  refine lv_aload_n hx hb dX4_findStruck_56 rfl (lv_at hl 1 rfl) ?_
                  refine va_get (D := (dC, dI)) (ci := 4) (v := .ref hk9) (C := RX4) (T := TX4) (N := 10) hx hb hts hiX4 hown hK hP 0 rfl rfl 3 (by decide) w__fieldLink_RX4_18_ShellHeap_Known_struck_Z_ (fun _ h9 => h9) rfl dX4_findStruck_57 ?_
                  refine lv_aload_n hx hb dX4_findStruck_60 rfl (lv_at hl 1 rfl) ?_
                  refine va_get (D := (dC, dI)) (ci := 4) (v := .ref h1) (C := RX4) (T := TX4) (N := 10) hx hb hts hiX4 hown hK hP 0 rfl rfl 0 (by decide) w__fieldLink_RX4_41_ShellHeap_Known_book_LShellHeap_Book_ (fun _ h9 => h9) rfl dX4_findStruck_61 ?_
                  refine va_get (D := (dC, dI)) (ci := 0) (v := .ref ha) (C := RX0) (T := TX0) (N := 6) hx hb hts hiX0 hown hK hP 1 rfl rfl 1 (by decide) w__fieldLink_RX4_76_ShellHeap_Book_a_I_ (fun _ h9 => h9) rfl dX4_findStruck_64 ?_
                  refine lv_iload_n hx hb dX4_findStruck_67 rfl (lv_at hl 0 rfl) ?_
                  refine va_iald hx hb hK hP 4 2 rfl rfl (z_vpin (by omega) (by omega)) dX4_findStruck_68 ?_
                  refine lv_topi (fun z_28 ez_28 => ?_)
                  have kz_28 : ((0 : Int) ≤ (z_28).toInt ∧ (z_28).toInt ≤ (79 : Int)) := by rw [ez_28]; exact hI_ha _
                  refine lv_iconst (v := 1) hx hb dX4_findStruck_69 (by decide) ?_
                  refine va_zast hx hb hK hP hD hS 2 0 rfl rfl (z_vpinB kz_28 (by decide) (by decide)) dX4_findStruck_70 (fun H_29 locs hP hD hS => ?_)
                  obtain ⟨hP, hD⟩ := z_s_2 hP hD
                  generalize (upd f_14 (z_28 : Int32).toNatClampNeg (vp_nar .boolean 1)) = f_30 at hP hD
                  obtain ⟨z_31, ez_31⟩ : ∃ y : Int32, y = i_13 + (-1) := ⟨_, rfl⟩
                  have kz_31 : (z_31).toInt = (i_13).toInt + (-1 : Int) := by rw [ez_31]; exact z_add (b := -1) rfl rfl (z_al hF_15.1 (by decide)) (z_ah hF_15.2 (by decide))
                  refine lv_iinc (v := z_31) (lv' := [(1, .int z_31), (0, .ref h0)]) hx hb dX4_findStruck_71 hl (k := 0) rfl (by rw [ez_31]; rfl) (by decide) rfl (fun ls hl => ?_)
                  refine lv_goto (tgt := 30) hx hb dX4_findStruck_74 (by decide) ?_
                  exact ih_12 z_31 f_30 _ _ _ (show ((z_31).toInt + 3).toNat < n_11 by omega) (show ((-2 : Int) ≤ (z_31).toInt ∧ (z_31).toInt ≤ (79 : Int)) by omega) hP hD hS (lv_sub hl [0, 1] rfl)
              · have hw_21 : True := hw_21
                refine lv_if_eq (tgt := 71) hx hb dX4_findStruck_40 (by decide) (fun _ => ?_) (fun c_32 => absurd (by decide) c_32)
                obtain ⟨z_33, ez_33⟩ : ∃ y : Int32, y = i_13 + (-1) := ⟨_, rfl⟩
                have kz_33 : (z_33).toInt = (i_13).toInt + (-1 : Int) := by rw [ez_33]; exact z_add (b := -1) rfl rfl (z_al hF_15.1 (by decide)) (z_ah hF_15.2 (by decide))
                refine lv_iinc (v := z_33) (lv' := [(1, .int z_33), (0, .ref h0)]) hx hb dX4_findStruck_71 hl (k := 0) rfl (by rw [ez_33]; rfl) (by decide) rfl (fun ls hl => ?_)
                refine lv_goto (tgt := 30) hx hb dX4_findStruck_74 (by decide) ?_
                exact ih_12 z_33 f_14 _ _ _ (show ((z_33).toInt + 3).toNat < n_11 by omega) (show ((-2 : Int) ≤ (z_33).toInt ∧ (z_33).toInt ≤ (79 : Int)) by omega) hP hD hS (lv_sub hl [0, 1] rfl)
        exact loop_10 _ z_9 f_5 _ _ _ (Nat.lt_succ_self _) (show ((-2 : Int) ≤ (z_9).toInt ∧ (z_9).toInt ≤ (79 : Int)) by omega) hP hD hS hl
      · have k_34 : (kn).toInt > (i_4).toInt := z_nle c_7
        refine lv_aload_n hx hb dX4_findStruck_10 rfl (lv_at hl 1 rfl) ?_
        refine va_get (D := (dC, dI)) (ci := 4) (v := .ref hk9) (C := RX4) (T := TX4) (N := 10) hx hb hts hiX4 hown hK hP 0 rfl rfl 3 (by decide) w__fieldLink_RX4_18_ShellHeap_Known_struck_Z_ (fun _ h9 => h9) rfl dX4_findStruck_11 ?_
        refine lv_iload_n hx hb dX4_findStruck_14 rfl (lv_at hl 0 rfl) ?_
        refine lv_iconst (v := 0) hx hb dX4_findStruck_15 (by decide) ?_
        refine va_zast hx hb hK hP hD hS 2 0 rfl rfl (z_vpin (by omega) (by omega)) dX4_findStruck_16 (fun H_35 locs hP hD hS => ?_)
        obtain ⟨hP, hD⟩ := z_s_2 hP hD
        generalize (upd f_5 (i_4 : Int32).toNatClampNeg (vp_nar .boolean 0)) = f_36 at hP hD
        obtain ⟨z_37, ez_37⟩ : ∃ y : Int32, y = i_4 + 1 := ⟨_, rfl⟩
        have kz_37 : (z_37).toInt = (i_4).toInt + (1 : Int) := by rw [ez_37]; exact z_add (b := 1) rfl rfl (z_al hF_6.1 (by decide)) (z_ah hF_6.2 (by decide))
        refine lv_iinc (v := z_37) (lv' := [(1, .int z_37), (0, .ref h0)]) hx hb dX4_findStruck_17 hl (k := 0) rfl (by rw [ez_37]; rfl) (by decide) rfl (fun ls hl => ?_)
        refine lv_goto (tgt := 2) hx hb dX4_findStruck_20 (by decide) ?_
        exact ih_3 z_37 f_36 _ _ _ (show (81 - (z_37).toInt).toNat < n_2 by omega) (show ((0 : Int) ≤ (z_37).toInt ∧ (z_37).toInt ≤ (80 : Int)) by omega) hP hD hS (lv_sub hl [0, 1] rfl)
  exact loop_1 _ 0 fhk9 _ _ _ (Nat.lt_succ_self _) (show ((0 : Int) ≤ (0 : Int) ∧ (0 : Int) ≤ (80 : Int)) by omega) hP hD hS hl
def u_s_X4_joinBeds : List Cond := .code yX4_joinBeds cX4_joinBeds 2 none :: ([.fieldLink RX4 15 "ShellHeap$Known" "layersSeen" "I", .fieldLink RX4 9 "ShellHeap$Known" "notesSeen" "I", .methodLink RX4 72 yX4_counts, .instanceMethod yX4_counts, .selects RX4 yX4_counts yX4_counts, .initialized RX4, .fieldLink RX4 29 "ShellHeap$Known" "bedOf" "[I", .fieldLink RX4 41 "ShellHeap$Known" "book" "LShellHeap$Book;", .fieldLink RX4 76 "ShellHeap$Book" "a" "[I", .fieldLink RX4 79 "ShellHeap$Book" "b" "[I", .methodLink RX4 82 yX4_join, .instanceMethod yX4_join, .selects RX4 yX4_join yX4_join] ++ (wsX40 ++ (wsX00 ++ (u_s_X4_counts ++ (u_s_X4_join ++ [])))))
theorem gd_s_X4_joinBeds : z_gd u_s_X4_joinBeds := z_gdc (by decide +kernel) (z_gda gdX4 (z_gda gdX0 (z_gda gd_s_X4_counts (z_gda gd_s_X4_join (z_gd0)))))
set_option maxRecDepth 20000 in
theorem gw_s_X4_joinBeds_s_X4_counts_72 : GoodIn u_s_X4_joinBeds (wsV RX4 72 RX4 yX4_counts u_s_X4_counts) := z_gV (z_gr _ [3, 4, 5, 6] rfl (by decide +kernel)) (fun w h => ⟨z_mc (z_mr (z_mr (z_mr (z_ml h)))), gd_s_X4_counts w h⟩)
set_option maxRecDepth 20000 in
theorem gw_s_X4_joinBeds_s_X4_join_82 : GoodIn u_s_X4_joinBeds (wsV RX4 82 RX4 yX4_join u_s_X4_join) := z_gV (z_gr _ [11, 12, 13, 6] rfl (by decide +kernel)) (fun w h => ⟨z_mc (z_mr (z_mr (z_mr (z_mr (z_ml h))))), gd_s_X4_join w h⟩)
set_option maxHeartbeats 4000000 in
set_option maxRecDepth 100000 in
theorem s_X4_joinBeds (l : Launch) (dC : Nat → ClassId) (dI : Nat → Nat → Nat) (sz : Nat) (h0 : Nat) (h1 : Nat) (kn : Int32) (kl : Int32) (hk9 : Nat) (h0_4 : Value) (h0_5 : Value) (hbd : Nat) (h0_7 : Value) (h0_8 : Value) (h0_9 : Value) (hs : Nat) (ha : Nat) (hb9 : Nat) (h1_3 : Value) (h1_4 : Value) (h1_5 : Value) (chk9 : ClassId) (fhk9 : Nat → Int32) (chs : ClassId) (fhs : Nat → Int32) (cha : ClassId) (fha : Nat → Int32) (chb9 : ClassId) (fhb9 : Nat → Int32) (chbd : ClassId) (fhbd : Nat → Int32) (hB_kn : ((-1 : Int) ≤ (kn).toInt ∧ (kn).toInt ≤ (80 : Int))) (hB_kl : ((-1 : Int) ≤ (kl).toInt ∧ (kl).toInt ≤ (12 : Int))) (hI_ha : ∀ j : Nat, ((0 : Int) ≤ (fha j).toInt ∧ (fha j).toInt ≤ (79 : Int))) (hI_hbd : ∀ j : Nat, ((0 : Int) ≤ (fhbd j).toInt ∧ (fhbd j).toInt ≤ (11 : Int))) (hR : ∀ j : Nat, z_rel (fhs j) (fha j) (fhb9 j)) : Met l yX4_joinBeds u_s_X4_joinBeds ({ frames := 2, cells := 0, slots := 0, locals := 38 }) (va_Pc [.ref h0] (z_C (dC, dI) vwCl [(h0, .inr (4, [.ref h1, .int kn, .int kl, .ref hk9, h0_4, h0_5, .ref hbd, h0_7, h0_8, h0_9])), (h1, .inr (0, [.ref hs, .ref ha, .ref hb9, h1_3, h1_4, h1_5])), (hk9, .inl (chk9, 80, .inl fhk9)), (hs, .inl (chs, 80, .inl fhs)), (ha, .inl (cha, 80, .inl fha)), (hb9, .inl (chb9, 80, .inl fhb9)), (hbd, .inl (chbd, 12, .inl fhbd))] [(chk9, .boolean), (chs, .int), (cha, .int), (chb9, .int), (chbd, .int)] sz)) (va_Qv (fun (_ : Unit) => True) (fun (_ : Unit) (t : State) => ∃ (g_hbd : Nat → Int32), (∀ j : Nat, ((0 : Int) ≤ (g_hbd j).toInt ∧ (g_hbd j).toInt ≤ (11 : Int))) ∧ va_P (dC, dI) vwCl [(h0, .inr (4, [.ref h1, .int kn, .int kl, .ref hk9, h0_4, h0_5, .ref hbd, h0_7, h0_8, h0_9])), (h1, .inr (0, [.ref hs, .ref ha, .ref hb9, h1_3, h1_4, h1_5])), (hk9, .inl (chk9, 80, .inl fhk9)), (hs, .inl (chs, 80, .inl fhs)), (ha, .inl (cha, 80, .inl fha)), (hb9, .inl (chb9, 80, .inl fhb9)), (hbd, .inl (chbd, 12, .inl g_hbd))] t.heap ∧ va_K (dC, dI) vwCl [] t ∧ va_D (va_A [(h0, .inr (4, [.ref h1, .int kn, .int kl, .ref hk9, h0_4, h0_5, .ref hbd, h0_7, h0_8, h0_9])), (h1, .inr (0, [.ref hs, .ref ha, .ref hb9, h1_3, h1_4, h1_5])), (hk9, .inl (chk9, 80, .inl fhk9)), (hs, .inl (chs, 80, .inl fhs)), (ha, .inl (cha, 80, .inl fha)), (hb9, .inl (chb9, 80, .inl fhb9)), (hbd, .inl (chbd, 12, .inl fhbd))] sz) [(h0, .inr (4, [.ref h1, .int kn, .int kl, .ref hk9, h0_4, h0_5, .ref hbd, h0_7, h0_8, h0_9])), (h1, .inr (0, [.ref hs, .ref ha, .ref hb9, h1_3, h1_4, h1_5])), (hk9, .inl (chk9, 80, .inl fhk9)), (hs, .inl (chs, 80, .inl fhs)), (ha, .inl (cha, 80, .inl fha)), (hb9, .inl (chb9, 80, .inl fhb9)), (hbd, .inl (chbd, 12, .inl g_hbd))]) (va_A [(h0, .inr (4, [.ref h1, .int kn, .int kl, .ref hk9, h0_4, h0_5, .ref hbd, h0_7, h0_8, h0_9])), (h1, .inr (0, [.ref hs, .ref ha, .ref hb9, h1_3, h1_4, h1_5])), (hk9, .inl (chk9, 80, .inl fhk9)), (hs, .inl (chs, 80, .inl fhs)), (ha, .inl (cha, 80, .inl fha)), (hb9, .inl (chb9, 80, .inl fhb9)), (hbd, .inl (chbd, 12, .inl fhbd))] sz)) 0 0 (va_A [(h0, .inr (4, [.ref h1, .int kn, .int kl, .ref hk9, h0_4, h0_5, .ref hbd, h0_7, h0_8, h0_9])), (h1, .inr (0, [.ref hs, .ref ha, .ref hb9, h1_3, h1_4, h1_5])), (hk9, .inl (chk9, 80, .inl fhk9)), (hs, .inl (chs, 80, .inl fhs)), (ha, .inl (cha, 80, .inl fha)), (hb9, .inl (chb9, 80, .inl fhb9)), (hbd, .inl (chbd, 12, .inl fhbd))] sz) := by
  refine Met.ofW (cc := cX4_joinBeds) (maxL := 2) (ret := none) (by decide) rfl ?_
  intro p e s m args below meth c s₁ B hml hv
  obtain ⟨rfl, hsz, hP, hK, hD0⟩ := hv
  have hx := B.exec
  have hb := B.bytes
  have hr := B.returns
  have hts := atoms_spec (ws := u_s_X4_joinBeds) B.pre
  have hown : s.vm.findClass RX4 = some m.cls := findClass_of_methodNamed B.named
  have hlocks := B.notSynchronized
  subst hsz
  have hD := hD0.self (sz := s.heap.size)
  generalize hAe : va_A [(h0, .inr (4, [.ref h1, .int kn, .int kl, .ref hk9, h0_4, h0_5, .ref hbd, h0_7, h0_8, h0_9])), (h1, .inr (0, [.ref hs, .ref ha, .ref hb9, h1_3, h1_4, h1_5])), (hk9, .inl (chk9, 80, .inl fhk9)), (hs, .inl (chs, 80, .inl fhs)), (ha, .inl (cha, 80, .inl fha)), (hb9, .inl (chb9, 80, .inl fhb9)), (hbd, .inl (chbd, 12, .inl fhbd))] s.heap.size = A at hD ⊢
  have hA : ∀ q : Nat, s.heap.size ≤ q → A q := fun q h => by rw [← hAe]; exact Or.inr h
  have hS : va_S A s.heap s.heap [] := va_S.rf
  have hP : va_P (dC, dI) vwCl [(h0, .inr (4, [.ref h1, .int kn, .int kl, .ref hk9, h0_4, h0_5, .ref hbd, h0_7, h0_8, h0_9])), (h1, .inr (0, [.ref hs, .ref ha, .ref hb9, h1_3, h1_4, h1_5])), (hk9, .inl (chk9, 80, .inl fhk9)), (hs, .inl (chs, 80, .inl fhs)), (ha, .inl (cha, 80, .inl fha)), (hb9, .inl (chb9, 80, .inl fhb9)), (hbd, .inl (chbd, 12, .inl fhbd))] s.heap := hP
  have w__fieldLink_RX4_15_ShellHeap_Known_layersSeen_I_ := hts (.fieldLink RX4 15 "ShellHeap$Known" "layersSeen" "I") (z_mc (z_ml z_m0))
  have hiX4 := show ∀ w ∈ u_ws RX4 TX4 10, w ∈ u_s_X4_joinBeds from fun w h => z_mc (z_mr (z_ml h))
  have w__fieldLink_RX4_9_ShellHeap_Known_notesSeen_I_ := hts (.fieldLink RX4 9 "ShellHeap$Known" "notesSeen" "I") (z_mc (z_ml z_m1))
  have w__fieldLink_RX4_29_ShellHeap_Known_bedOf_I_ := hts (.fieldLink RX4 29 "ShellHeap$Known" "bedOf" "[I") (z_mc (z_ml z_m6))
  have w__fieldLink_RX4_41_ShellHeap_Known_book_LShellHeap_Book_ := hts (.fieldLink RX4 41 "ShellHeap$Known" "book" "LShellHeap$Book;") (z_mc (z_ml z_m7))
  have w__fieldLink_RX4_76_ShellHeap_Book_a_I_ := hts (.fieldLink RX4 76 "ShellHeap$Book" "a" "[I") (z_mc (z_ml z_m8))
  have hiX0 := show ∀ w ∈ u_ws RX0 TX0 6, w ∈ u_s_X4_joinBeds from fun w h => z_mc (z_mr (z_mr (z_ml h)))
  have w__fieldLink_RX4_79_ShellHeap_Book_b_I_ := hts (.fieldLink RX4 79 "ShellHeap$Book" "b" "[I") (z_mc (z_ml z_m9))
  have hl := lv_entry ([.ref h0]) (n := 2) (Nat.le_of_ble_eq_true rfl)
  rw [lg_entry_eq]
  generalize (lg_sl ([.ref h0]) ++ List.replicate (2 - (lg_sl ([.ref h0])).length) Slot.unset).toArray = ls at hl ⊢
  have hl : lv_has ls 2 [(0, .ref h0)] := hl
  refine z_nameQ (fun QQ hQQ => ?_)
  refine lv_iconst (v := 0) hx hb dX4_joinBeds_0 (by decide) ?_
  refine lv_istore_n (lv' := [(1, .int 0), (0, .ref h0)]) hx hb dX4_joinBeds_1 rfl hl (by decide) rfl (fun ls hl => ?_)
  have loop_1 : ∀ (n_2 : Nat) (i_4 : Int32) (f_5 : Nat → Int32) (H : Heap) (locs : List Loc) (ls : Array Slot), (13 - (i_4).toInt).toNat < n_2 → (((0 : Int) ≤ (i_4).toInt ∧ (i_4).toInt ≤ (12 : Int))) → (∀ j : Nat, ((0 : Int) ≤ (f_5 j).toInt ∧ (f_5 j).toInt ≤ (11 : Int))) → va_P (dC, dI) vwCl [(h0, .inr (4, [.ref h1, .int kn, .int kl, .ref hk9, h0_4, h0_5, .ref hbd, h0_7, h0_8, h0_9])), (h1, .inr (0, [.ref hs, .ref ha, .ref hb9, h1_3, h1_4, h1_5])), (hk9, .inl (chk9, 80, .inl fhk9)), (hs, .inl (chs, 80, .inl fhs)), (ha, .inl (cha, 80, .inl fha)), (hb9, .inl (chb9, 80, .inl fhb9)), (hbd, .inl (chbd, 12, .inl f_5))] H → va_D A [(h0, .inr (4, [.ref h1, .int kn, .int kl, .ref hk9, h0_4, h0_5, .ref hbd, h0_7, h0_8, h0_9])), (h1, .inr (0, [.ref hs, .ref ha, .ref hb9, h1_3, h1_4, h1_5])), (hk9, .inl (chk9, 80, .inl fhk9)), (hs, .inl (chs, 80, .inl fhs)), (ha, .inl (cha, 80, .inl fha)), (hb9, .inl (chb9, 80, .inl fhb9)), (hbd, .inl (chbd, 12, .inl f_5))] → va_S A s.heap H locs → lv_has ls 2 [(1, .int i_4), (0, .ref h0)] → W p l e ({ frames := 2, cells := 0, slots := 0, locals := 38 } : Room) s m ([.ref h0] : List Value).toArray below meth c H locs 0 0 QQ (F0 m 2 ls []) := by
    intro n_2
    induction n_2 with
    | zero => intro i_4 f_5 H locs ls hm; exact absurd hm (Nat.not_lt_zero _)
    | succ n_2 ih_3 =>
      intro i_4 f_5 H locs ls hm hF_6 hI_f_5 hP hD hS hl
      refine lv_iload_n hx hb dX4_joinBeds_2 rfl (lv_at hl 0 rfl) ?_
      refine lv_aload_n hx hb dX4_joinBeds_3 rfl (lv_at hl 1 rfl) ?_
      refine va_get (D := (dC, dI)) (ci := 4) (v := .int kl) (C := RX4) (T := TX4) (N := 10) hx hb hts hiX4 hown hK hP 0 rfl rfl 2 (by decide) w__fieldLink_RX4_15_ShellHeap_Known_layersSeen_I_ (fun _ h9 => h9) rfl dX4_joinBeds_4 ?_
      refine lv_icmp_ge (tgt := 23) hx hb dX4_joinBeds_7 (by decide) (fun c_7 => ?_) (fun c_7 => ?_)
      · have k_8 : (kl).toInt ≤ (i_4).toInt := z_le c_7
        refine lv_iconst (v := 0) hx hb dX4_joinBeds_23 (by decide) ?_
        refine lv_istore_n (lv' := [(1, .int 0), (0, .ref h0)]) hx hb dX4_joinBeds_24 rfl hl (by decide) rfl (fun ls hl => ?_)
        have loop_9 : ∀ (n_10 : Nat) (i_12 : Int32) (f_13 : Nat → Int32) (H : Heap) (locs : List Loc) (ls : Array Slot), (81 - (i_12).toInt).toNat < n_10 → (((0 : Int) ≤ (i_12).toInt ∧ (i_12).toInt ≤ (80 : Int))) → (∀ j : Nat, ((0 : Int) ≤ (f_13 j).toInt ∧ (f_13 j).toInt ≤ (11 : Int))) → va_P (dC, dI) vwCl [(h0, .inr (4, [.ref h1, .int kn, .int kl, .ref hk9, h0_4, h0_5, .ref hbd, h0_7, h0_8, h0_9])), (h1, .inr (0, [.ref hs, .ref ha, .ref hb9, h1_3, h1_4, h1_5])), (hk9, .inl (chk9, 80, .inl fhk9)), (hs, .inl (chs, 80, .inl fhs)), (ha, .inl (cha, 80, .inl fha)), (hb9, .inl (chb9, 80, .inl fhb9)), (hbd, .inl (chbd, 12, .inl f_13))] H → va_D A [(h0, .inr (4, [.ref h1, .int kn, .int kl, .ref hk9, h0_4, h0_5, .ref hbd, h0_7, h0_8, h0_9])), (h1, .inr (0, [.ref hs, .ref ha, .ref hb9, h1_3, h1_4, h1_5])), (hk9, .inl (chk9, 80, .inl fhk9)), (hs, .inl (chs, 80, .inl fhs)), (ha, .inl (cha, 80, .inl fha)), (hb9, .inl (chb9, 80, .inl fhb9)), (hbd, .inl (chbd, 12, .inl f_13))] → va_S A s.heap H locs → lv_has ls 2 [(1, .int i_12), (0, .ref h0)] → W p l e ({ frames := 2, cells := 0, slots := 0, locals := 38 } : Room) s m ([.ref h0] : List Value).toArray below meth c H locs 0 0 QQ (F0 m 25 ls []) := by
          intro n_10
          induction n_10 with
          | zero => intro i_12 f_13 H locs ls hm; exact absurd hm (Nat.not_lt_zero _)
          | succ n_10 ih_11 =>
            intro i_12 f_13 H locs ls hm hF_14 hI_f_13 hP hD hS hl
            refine lv_iload_n hx hb dX4_joinBeds_25 rfl (lv_at hl 0 rfl) ?_
            refine lv_aload_n hx hb dX4_joinBeds_26 rfl (lv_at hl 1 rfl) ?_
            refine va_get (D := (dC, dI)) (ci := 4) (v := .int kn) (C := RX4) (T := TX4) (N := 10) hx hb hts hiX4 hown hK hP 0 rfl rfl 1 (by decide) w__fieldLink_RX4_9_ShellHeap_Known_notesSeen_I_ (fun _ h9 => h9) rfl dX4_joinBeds_27 ?_
            refine lv_icmp_ge (tgt := 80) hx hb dX4_joinBeds_30 (by decide) (fun c_15 => ?_) (fun c_15 => ?_)
            · have k_16 : (kn).toInt ≤ (i_12).toInt := z_le c_15
              refine z_backQ hQQ ?_
              have hP9 := hP
              have hD9 := hD
              have hK9 := hK.sub (tys' := []) [] rfl
              refine W.widen (k := 0) (n := 0) (Nat.le_of_ble_eq_true rfl) (Nat.le_of_ble_eq_true rfl) ?_
              exact W.vret hx hb hr (fun t ht hW => ⟨⟨(), rfl, trivial, ⟨f_13, hI_f_13, by rw [ht]; exact hP9, va_K.moved hW.alike hK9, hD9⟩⟩, hS.F ht⟩) hS.2.2 dX4_joinBeds_80
            · have k_17 : (kn).toInt > (i_12).toInt := z_nle c_15
              refine lv_aload_n hx hb dX4_joinBeds_33 rfl (lv_at hl 1 rfl) ?_
              refine lv_iload_n hx hb dX4_joinBeds_34 rfl (lv_at hl 0 rfl) ?_
              refine lv_iconst (v := 2) hx hb dX4_joinBeds_35 (by decide) ?_
              obtain ⟨hPc, hDc⟩ := z_sub2 (ws' := [(h0, .inr (4, [.ref h1, .int kn, .int kl, .ref hk9, h0_4, h0_5, .ref hbd, h0_7, h0_8, h0_9])), (h1, .inr (0, [.ref hs, .ref ha, .ref hb9, h1_3, h1_4, h1_5])), (hk9, .inl (chk9, 80, .inl fhk9)), (hs, .inl (chs, 80, .inl fhs))]) hP hD [0, 1, 2, 3] (by decide) rfl
              have hKc := hK.sub (tys' := [(chk9, .boolean), (chs, .int)]) [0, 1] rfl
              have hFc := va_free (ws := []) (wc := []) (z_D0 _) hS hA [] rfl
              refine va_calli (va_runV (As := [.int i_12, .int 2]) (rest := []) ⟨hx, hb, hml, hown, hts⟩ (s_X4_counts l dC dI H.size h0 i_12 2 h1 kn (.int kl) hk9 h0_4 h0_5 (.ref hbd) h0_7 h0_8 h0_9 hs (.ref ha) (.ref hb9) h1_3 h1_4 h1_5 chk9 fhk9 chs fhs hB_kn (by first | omega | decide)) (cwV 2 hts gw_s_X4_joinBeds_s_X4_counts_72 rfl rfl rfl (by decide +kernel) ⟨Nat.le_of_ble_eq_true rfl, Nat.le_of_ble_eq_true rfl⟩) ⟨z_blind, va_recv hKc hPc (ci := 4) (q0 := 0) rfl rfl, z_pre hPc hKc hDc⟩ rfl rfl hl.1 rfl (lv_room (Nat.le_of_ble_eq_true rfl)) dX4_joinBeds_36 ⟨Nat.le_of_ble_eq_true rfl, Nat.le_of_ble_eq_true rfl⟩) hS (fun q _ h => hFc q h) hFc (fun r_19 u t H_18 locs ht hvm hw_20 hB hz1 hk1 hS => ?_)
              replace hP := z_pure hP hk1
              clear hPc hDc hKc
              rcases hw_20 with ⟨rfl, hw_20⟩ | ⟨rfl, hw_20⟩
              · have hw_20 : (i_12.toInt < kn.toInt ∧ fhs i_12.toNatClampNeg = 2) := hw_20
                refine lv_if_eq (tgt := 74) hx hb dX4_joinBeds_39 (by decide) (fun c_21 => absurd c_21 (by decide)) (fun _ => ?_)
                refine lv_aload_n hx hb dX4_joinBeds_42 rfl (lv_at hl 1 rfl) ?_
                refine lv_aload_n hx hb dX4_joinBeds_43 rfl (lv_at hl 1 rfl) ?_
                refine va_get (D := (dC, dI)) (ci := 4) (v := .ref hbd) (C := RX4) (T := TX4) (N := 10) hx hb hts hiX4 hown hK hP 0 rfl rfl 6 (by decide) w__fieldLink_RX4_29_ShellHeap_Known_bedOf_I_ (fun _ h9 => h9) rfl dX4_joinBeds_44 ?_
                refine lv_aload_n hx hb dX4_joinBeds_47 rfl (lv_at hl 1 rfl) ?_
                refine va_get (D := (dC, dI)) (ci := 4) (v := .ref h1) (C := RX4) (T := TX4) (N := 10) hx hb hts hiX4 hown hK hP 0 rfl rfl 0 (by decide) w__fieldLink_RX4_41_ShellHeap_Known_book_LShellHeap_Book_ (fun _ h9 => h9) rfl dX4_joinBeds_48 ?_
                refine va_get (D := (dC, dI)) (ci := 0) (v := .ref ha) (C := RX0) (T := TX0) (N := 6) hx hb hts hiX0 hown hK hP 1 rfl rfl 1 (by decide) w__fieldLink_RX4_76_ShellHeap_Book_a_I_ (fun _ h9 => h9) rfl dX4_joinBeds_51 ?_
                refine lv_iload_n hx hb dX4_joinBeds_54 rfl (lv_at hl 0 rfl) ?_
                refine va_iald hx hb hK hP 4 2 rfl rfl (z_vpin (by omega) (by omega)) dX4_joinBeds_55 ?_
                refine lv_topi (fun z_22 ez_22 => ?_)
                have kz_22 : ((0 : Int) ≤ (z_22).toInt ∧ (z_22).toInt ≤ (79 : Int)) := by rw [ez_22]; exact hI_ha _
                have krz_22 : (z_22).toInt ≤ (11 : Int) := by rw [ez_22]; exact (hR _).2.1 (by rw [hw_20.2]; decide)
                refine va_iald hx hb hK hP 6 4 rfl rfl (z_vpin (by omega) (by omega)) dX4_joinBeds_56 ?_
                refine lv_topi (fun z_23 ez_23 => ?_)
                have kz_23 : ((0 : Int) ≤ (z_23).toInt ∧ (z_23).toInt ≤ (11 : Int)) := by rw [ez_23]; exact hI_f_13 _
                refine lv_aload_n hx hb dX4_joinBeds_57 rfl (lv_at hl 1 rfl) ?_
                refine va_get (D := (dC, dI)) (ci := 4) (v := .ref hbd) (C := RX4) (T := TX4) (N := 10) hx hb hts hiX4 hown hK hP 0 rfl rfl 6 (by decide) w__fieldLink_RX4_29_ShellHeap_Known_bedOf_I_ (fun _ h9 => h9) rfl dX4_joinBeds_58 ?_
                refine lv_aload_n hx hb dX4_joinBeds_61 rfl (lv_at hl 1 rfl) ?_
                refine va_get (D := (dC, dI)) (ci := 4) (v := .ref h1) (C := RX4) (T := TX4) (N := 10) hx hb hts hiX4 hown hK hP 0 rfl rfl 0 (by decide) w__fieldLink_RX4_41_ShellHeap_Known_book_LShellHeap_Book_ (fun _ h9 => h9) rfl dX4_joinBeds_62 ?_
                refine va_get (D := (dC, dI)) (ci := 0) (v := .ref hb9) (C := RX0) (T := TX0) (N := 6) hx hb hts hiX0 hown hK hP 1 rfl rfl 2 (by decide) w__fieldLink_RX4_79_ShellHeap_Book_b_I_ (fun _ h9 => h9) rfl dX4_joinBeds_65 ?_
                refine lv_iload_n hx hb dX4_joinBeds_68 rfl (lv_at hl 0 rfl) ?_
                refine va_iald hx hb hK hP 5 3 rfl rfl (z_vpin (by omega) (by omega)) dX4_joinBeds_69 ?_
                refine lv_topi (fun z_24 ez_24 => ?_)
                have krz_24 : (0 : Int) ≤ (z_24).toInt ∧ (z_24).toInt ≤ (11 : Int) := by rw [ez_24]; exact (hR _).2.2 (by rw [hw_20.2]; decide)
                refine va_iald hx hb hK hP 6 4 rfl rfl (z_vpin (by omega) (by omega)) dX4_joinBeds_70 ?_
                refine lv_topi (fun z_25 ez_25 => ?_)
                have kz_25 : ((0 : Int) ≤ (z_25).toInt ∧ (z_25).toInt ≤ (11 : Int)) := by rw [ez_25]; exact hI_f_13 _
                obtain ⟨hPc, hDc, hFc⟩ := z_sub3 (ws' := [(h0, .inr (4, [.ref h1, .int kn, .int kl, .ref hk9, h0_4, h0_5, .ref hbd, h0_7, h0_8, h0_9])), (hbd, .inl (chbd, 12, .inl f_13))]) hP hD hS hA [0, 6] (by decide) rfl
                have hKc := hK.sub (tys' := [(chbd, .int)]) [4] rfl
                refine va_callv (va_runV (As := [.int z_23, .int z_25]) (rest := []) ⟨hx, hb, hml, hown, hts⟩ (s_X4_join l dC dI H_18.size h0 z_23 z_25 (.ref h1) (.int kn) kl (.ref hk9) h0_4 h0_5 hbd h0_7 h0_8 h0_9 chbd f_13 hB_kl kz_23 kz_25 hI_f_13) (cwV 2 hts gw_s_X4_joinBeds_s_X4_join_82 rfl rfl rfl (by decide +kernel) ⟨Nat.le_of_ble_eq_true rfl, Nat.le_of_ble_eq_true rfl⟩) ⟨z_blind, va_recv hKc hPc (ci := 4) (q0 := 0) rfl rfl, z_pre hPc hKc hDc⟩ rfl rfl hl.1 rfl (lv_room (Nat.le_of_ble_eq_true rfl)) dX4_joinBeds_71 ⟨Nat.le_of_ble_eq_true rfl, Nat.le_of_ble_eq_true rfl⟩) hS (fun q _ h => hFc q h) hFc (fun u t H_26 locs ht hvm hw_28 hB hz1 hk1 hS => ?_)
                obtain ⟨g_h1_29, hp_30, hP1, hK1, hD1⟩ := hB
                rw [ht] at hP1
                have hK1 := va_K.moved hvm.symm hK1
                obtain ⟨hP, hD⟩ := z_ap_5 (va_join (wr := [(h1, .inr (0, [.ref hs, .ref ha, .ref hb9, h1_3, h1_4, h1_5])), (hk9, .inl (chk9, 80, .inl fhk9)), (hs, .inl (chs, 80, .inl fhs)), (ha, .inl (cha, 80, .inl fha)), (hb9, .inl (chb9, 80, .inl fhb9))]) hP hD [0, 6] [1, 2, 3, 4, 5] rfl rfl (by decide) (by decide) hk1 hFc hP1 hD1)
                clear hPc hDc hKc
                obtain ⟨z_31, ez_31⟩ : ∃ y : Int32, y = i_12 + 1 := ⟨_, rfl⟩
                have kz_31 : (z_31).toInt = (i_12).toInt + (1 : Int) := by rw [ez_31]; exact z_add (b := 1) rfl rfl (z_al hF_14.1 (by decide)) (z_ah hF_14.2 (by decide))
                refine lv_iinc (v := z_31) (lv' := [(1, .int z_31), (0, .ref h0)]) hx hb dX4_joinBeds_74 hl (k := 0) rfl (by rw [ez_31]; rfl) (by decide) rfl (fun ls hl => ?_)
                refine lv_goto (tgt := 25) hx hb dX4_joinBeds_77 (by decide) ?_
                exact ih_11 z_31 g_h1_29 _ _ _ (show (81 - (z_31).toInt).toNat < n_10 by omega) (show ((0 : Int) ≤ (z_31).toInt ∧ (z_31).toInt ≤ (80 : Int)) by omega) hp_30 (hP.sub (ws' := [(h0, .inr (4, [.ref h1, .int kn, .int kl, .ref hk9, h0_4, h0_5, .ref hbd, h0_7, h0_8, h0_9])), (h1, .inr (0, [.ref hs, .ref ha, .ref hb9, h1_3, h1_4, h1_5])), (hk9, .inl (chk9, 80, .inl fhk9)), (hs, .inl (chs, 80, .inl fhs)), (ha, .inl (cha, 80, .inl fha)), (hb9, .inl (chb9, 80, .inl fhb9)), (hbd, .inl (chbd, 12, .inl g_h1_29))]) [5, 0, 1, 2, 3, 4, 6] rfl) (hD.sub (ws' := [(h0, .inr (4, [.ref h1, .int kn, .int kl, .ref hk9, h0_4, h0_5, .ref hbd, h0_7, h0_8, h0_9])), (h1, .inr (0, [.ref hs, .ref ha, .ref hb9, h1_3, h1_4, h1_5])), (hk9, .inl (chk9, 80, .inl fhk9)), (hs, .inl (chs, 80, .inl fhs)), (ha, .inl (cha, 80, .inl fha)), (hb9, .inl (chb9, 80, .inl fhb9)), (hbd, .inl (chbd, 12, .inl g_h1_29))]) [5, 0, 1, 2, 3, 4, 6] (by decide) rfl) hS (lv_sub hl [0, 1] rfl)
              · have hw_20 : True := hw_20
                refine lv_if_eq (tgt := 74) hx hb dX4_joinBeds_39 (by decide) (fun _ => ?_) (fun c_32 => absurd (by decide) c_32)
                obtain ⟨z_33, ez_33⟩ : ∃ y : Int32, y = i_12 + 1 := ⟨_, rfl⟩
                have kz_33 : (z_33).toInt = (i_12).toInt + (1 : Int) := by rw [ez_33]; exact z_add (b := 1) rfl rfl (z_al hF_14.1 (by decide)) (z_ah hF_14.2 (by decide))
                refine lv_iinc (v := z_33) (lv' := [(1, .int z_33), (0, .ref h0)]) hx hb dX4_joinBeds_74 hl (k := 0) rfl (by rw [ez_33]; rfl) (by decide) rfl (fun ls hl => ?_)
                refine lv_goto (tgt := 25) hx hb dX4_joinBeds_77 (by decide) ?_
                exact ih_11 z_33 f_13 _ _ _ (show (81 - (z_33).toInt).toNat < n_10 by omega) (show ((0 : Int) ≤ (z_33).toInt ∧ (z_33).toInt ≤ (80 : Int)) by omega) hI_f_13 hP hD hS (lv_sub hl [0, 1] rfl)
        exact loop_9 _ 0 f_5 _ _ _ (Nat.lt_succ_self _) (show ((0 : Int) ≤ (0 : Int) ∧ (0 : Int) ≤ (80 : Int)) by omega) hI_f_5 hP hD hS hl
      · have k_34 : (kl).toInt > (i_4).toInt := z_nle c_7
        refine lv_aload_n hx hb dX4_joinBeds_10 rfl (lv_at hl 1 rfl) ?_
        refine va_get (D := (dC, dI)) (ci := 4) (v := .ref hbd) (C := RX4) (T := TX4) (N := 10) hx hb hts hiX4 hown hK hP 0 rfl rfl 6 (by decide) w__fieldLink_RX4_29_ShellHeap_Known_bedOf_I_ (fun _ h9 => h9) rfl dX4_joinBeds_11 ?_
        refine lv_iload_n hx hb dX4_joinBeds_14 rfl (lv_at hl 0 rfl) ?_
        refine lv_iload_n hx hb dX4_joinBeds_15 rfl (lv_at hl 0 rfl) ?_
        refine va_iast hx hb hK hP hD hS 6 4 rfl rfl (z_vpin (by omega) (by omega)) dX4_joinBeds_16 (fun H_35 locs hP hD hS => ?_)
        obtain ⟨hP, hD⟩ := z_s_6 hP hD
        have hI_f_36 : ∀ j : Nat, ((0 : Int) ≤ ((upd f_5 (i_4 : Int32).toNatClampNeg i_4) j).toInt ∧ ((upd f_5 (i_4 : Int32).toNatClampNeg i_4) j).toInt ≤ (11 : Int)) := z_updP (P := fun v => ((0 : Int) ≤ (v).toInt ∧ (v).toInt ≤ (11 : Int))) hI_f_5 (show ((0 : Int) ≤ (i_4).toInt ∧ (i_4).toInt ≤ (11 : Int)) from by first | omega | decide)
        generalize (upd f_5 (i_4 : Int32).toNatClampNeg i_4) = f_36 at hP hD hI_f_36
        obtain ⟨z_37, ez_37⟩ : ∃ y : Int32, y = i_4 + 1 := ⟨_, rfl⟩
        have kz_37 : (z_37).toInt = (i_4).toInt + (1 : Int) := by rw [ez_37]; exact z_add (b := 1) rfl rfl (z_al hF_6.1 (by decide)) (z_ah hF_6.2 (by decide))
        refine lv_iinc (v := z_37) (lv' := [(1, .int z_37), (0, .ref h0)]) hx hb dX4_joinBeds_17 hl (k := 0) rfl (by rw [ez_37]; rfl) (by decide) rfl (fun ls hl => ?_)
        refine lv_goto (tgt := 2) hx hb dX4_joinBeds_20 (by decide) ?_
        exact ih_3 z_37 f_36 _ _ _ (show (13 - (z_37).toInt).toNat < n_2 by omega) (show ((0 : Int) ≤ (z_37).toInt ∧ (z_37).toInt ≤ (12 : Int)) by omega) hI_f_36 hP hD hS (lv_sub hl [0, 1] rfl)
  exact loop_1 _ 0 fhbd _ _ _ (Nat.lt_succ_self _) (show ((0 : Int) ≤ (0 : Int) ∧ (0 : Int) ≤ (12 : Int)) by omega) hI_hbd hP hD hS hl
def u_s_X4_findLater : List Cond := .code yX4_findLater cX4_findLater 3 none :: ([.fieldLink RX4 15 "ShellHeap$Known" "layersSeen" "I", .fieldLink RX4 9 "ShellHeap$Known" "notesSeen" "I", .methodLink RX4 95 yX4_isLater, .instanceMethod yX4_isLater, .selects RX4 yX4_isLater yX4_isLater, .initialized RX4, .fieldLink RX4 22 "ShellHeap$Known" "later" "[I", .methodLink RX4 72 yX4_counts, .instanceMethod yX4_counts, .selects RX4 yX4_counts yX4_counts, .fieldLink RX4 29 "ShellHeap$Known" "bedOf" "[I", .fieldLink RX4 41 "ShellHeap$Known" "book" "LShellHeap$Book;", .fieldLink RX4 76 "ShellHeap$Book" "a" "[I", .fieldLink RX4 79 "ShellHeap$Book" "b" "[I"] ++ (wsX40 ++ (wsX00 ++ (u_s_X4_isLater ++ (u_s_X4_counts ++ [])))))
theorem gd_s_X4_findLater : z_gd u_s_X4_findLater := z_gdc (by decide +kernel) (z_gda gdX4 (z_gda gdX0 (z_gda gd_s_X4_isLater (z_gda gd_s_X4_counts (z_gd0)))))
set_option maxRecDepth 20000 in
theorem gw_s_X4_findLater_s_X4_isLater_95 : GoodIn u_s_X4_findLater (wsV RX4 95 RX4 yX4_isLater u_s_X4_isLater) := z_gV (z_gr _ [3, 4, 5, 6] rfl (by decide +kernel)) (fun w h => ⟨z_mc (z_mr (z_mr (z_mr (z_ml h)))), gd_s_X4_isLater w h⟩)
set_option maxRecDepth 20000 in
theorem gw_s_X4_findLater_s_X4_counts_72 : GoodIn u_s_X4_findLater (wsV RX4 72 RX4 yX4_counts u_s_X4_counts) := z_gV (z_gr _ [8, 9, 10, 6] rfl (by decide +kernel)) (fun w h => ⟨z_mc (z_mr (z_mr (z_mr (z_mr (z_ml h))))), gd_s_X4_counts w h⟩)
set_option maxHeartbeats 4000000 in
set_option maxRecDepth 100000 in
theorem s_X4_findLater (l : Launch) (dC : Nat → ClassId) (dI : Nat → Nat → Nat) (sz : Nat) (h0 : Nat) (h1 : Nat) (kn : Int32) (kl : Int32) (hk9 : Nat) (hlt : Nat) (h0_5 : Value) (hbd : Nat) (h0_7 : Value) (h0_8 : Value) (h0_9 : Value) (hs : Nat) (ha : Nat) (hb9 : Nat) (h1_3 : Value) (h1_4 : Value) (h1_5 : Value) (chk9 : ClassId) (fhk9 : Nat → Int32) (chs : ClassId) (fhs : Nat → Int32) (cha : ClassId) (fha : Nat → Int32) (chb9 : ClassId) (fhb9 : Nat → Int32) (chbd : ClassId) (fhbd : Nat → Int32) (chlt : ClassId) (fhlt : Nat → Int32) (hB_kn : ((-1 : Int) ≤ (kn).toInt ∧ (kn).toInt ≤ (80 : Int))) (hB_kl : ((-1 : Int) ≤ (kl).toInt ∧ (kl).toInt ≤ (12 : Int))) (hI_ha : ∀ j : Nat, ((0 : Int) ≤ (fha j).toInt ∧ (fha j).toInt ≤ (79 : Int))) (hI_hbd : ∀ j : Nat, ((0 : Int) ≤ (fhbd j).toInt ∧ (fhbd j).toInt ≤ (11 : Int))) (hR : ∀ j : Nat, z_rel (fhs j) (fha j) (fhb9 j)) : Met l yX4_findLater u_s_X4_findLater ({ frames := 1, cells := 0, slots := 0, locals := 22 }) (va_Pc [.ref h0] (z_C (dC, dI) vwCl [(h0, .inr (4, [.ref h1, .int kn, .int kl, .ref hk9, .ref hlt, h0_5, .ref hbd, h0_7, h0_8, h0_9])), (h1, .inr (0, [.ref hs, .ref ha, .ref hb9, h1_3, h1_4, h1_5])), (hk9, .inl (chk9, 80, .inl fhk9)), (hs, .inl (chs, 80, .inl fhs)), (ha, .inl (cha, 80, .inl fha)), (hb9, .inl (chb9, 80, .inl fhb9)), (hbd, .inl (chbd, 12, .inl fhbd)), (hlt, .inl (chlt, 12, .inl fhlt))] [(chk9, .boolean), (chs, .int), (cha, .int), (chb9, .int), (chbd, .int), (chlt, .int)] sz)) (va_Qv (fun (_ : Unit) => True) (fun (_ : Unit) (t : State) => ∃ (g_hlt : Nat → Int32), va_P (dC, dI) vwCl [(h0, .inr (4, [.ref h1, .int kn, .int kl, .ref hk9, .ref hlt, h0_5, .ref hbd, h0_7, h0_8, h0_9])), (h1, .inr (0, [.ref hs, .ref ha, .ref hb9, h1_3, h1_4, h1_5])), (hk9, .inl (chk9, 80, .inl fhk9)), (hs, .inl (chs, 80, .inl fhs)), (ha, .inl (cha, 80, .inl fha)), (hb9, .inl (chb9, 80, .inl fhb9)), (hbd, .inl (chbd, 12, .inl fhbd)), (hlt, .inl (chlt, 12, .inl g_hlt))] t.heap ∧ va_K (dC, dI) vwCl [] t ∧ va_D (va_A [(h0, .inr (4, [.ref h1, .int kn, .int kl, .ref hk9, .ref hlt, h0_5, .ref hbd, h0_7, h0_8, h0_9])), (h1, .inr (0, [.ref hs, .ref ha, .ref hb9, h1_3, h1_4, h1_5])), (hk9, .inl (chk9, 80, .inl fhk9)), (hs, .inl (chs, 80, .inl fhs)), (ha, .inl (cha, 80, .inl fha)), (hb9, .inl (chb9, 80, .inl fhb9)), (hbd, .inl (chbd, 12, .inl fhbd)), (hlt, .inl (chlt, 12, .inl fhlt))] sz) [(h0, .inr (4, [.ref h1, .int kn, .int kl, .ref hk9, .ref hlt, h0_5, .ref hbd, h0_7, h0_8, h0_9])), (h1, .inr (0, [.ref hs, .ref ha, .ref hb9, h1_3, h1_4, h1_5])), (hk9, .inl (chk9, 80, .inl fhk9)), (hs, .inl (chs, 80, .inl fhs)), (ha, .inl (cha, 80, .inl fha)), (hb9, .inl (chb9, 80, .inl fhb9)), (hbd, .inl (chbd, 12, .inl fhbd)), (hlt, .inl (chlt, 12, .inl g_hlt))]) (va_A [(h0, .inr (4, [.ref h1, .int kn, .int kl, .ref hk9, .ref hlt, h0_5, .ref hbd, h0_7, h0_8, h0_9])), (h1, .inr (0, [.ref hs, .ref ha, .ref hb9, h1_3, h1_4, h1_5])), (hk9, .inl (chk9, 80, .inl fhk9)), (hs, .inl (chs, 80, .inl fhs)), (ha, .inl (cha, 80, .inl fha)), (hb9, .inl (chb9, 80, .inl fhb9)), (hbd, .inl (chbd, 12, .inl fhbd)), (hlt, .inl (chlt, 12, .inl fhlt))] sz)) 0 0 (va_A [(h0, .inr (4, [.ref h1, .int kn, .int kl, .ref hk9, .ref hlt, h0_5, .ref hbd, h0_7, h0_8, h0_9])), (h1, .inr (0, [.ref hs, .ref ha, .ref hb9, h1_3, h1_4, h1_5])), (hk9, .inl (chk9, 80, .inl fhk9)), (hs, .inl (chs, 80, .inl fhs)), (ha, .inl (cha, 80, .inl fha)), (hb9, .inl (chb9, 80, .inl fhb9)), (hbd, .inl (chbd, 12, .inl fhbd)), (hlt, .inl (chlt, 12, .inl fhlt))] sz) := by
  refine Met.ofW (cc := cX4_findLater) (maxL := 3) (ret := none) (by decide) rfl ?_
  intro p e s m args below meth c s₁ B hml hv
  obtain ⟨rfl, hsz, hP, hK, hD0⟩ := hv
  have hx := B.exec
  have hb := B.bytes
  have hr := B.returns
  have hts := atoms_spec (ws := u_s_X4_findLater) B.pre
  have hown : s.vm.findClass RX4 = some m.cls := findClass_of_methodNamed B.named
  have hlocks := B.notSynchronized
  subst hsz
  have hD := hD0.self (sz := s.heap.size)
  generalize hAe : va_A [(h0, .inr (4, [.ref h1, .int kn, .int kl, .ref hk9, .ref hlt, h0_5, .ref hbd, h0_7, h0_8, h0_9])), (h1, .inr (0, [.ref hs, .ref ha, .ref hb9, h1_3, h1_4, h1_5])), (hk9, .inl (chk9, 80, .inl fhk9)), (hs, .inl (chs, 80, .inl fhs)), (ha, .inl (cha, 80, .inl fha)), (hb9, .inl (chb9, 80, .inl fhb9)), (hbd, .inl (chbd, 12, .inl fhbd)), (hlt, .inl (chlt, 12, .inl fhlt))] s.heap.size = A at hD ⊢
  have hA : ∀ q : Nat, s.heap.size ≤ q → A q := fun q h => by rw [← hAe]; exact Or.inr h
  have hS : va_S A s.heap s.heap [] := va_S.rf
  have hP : va_P (dC, dI) vwCl [(h0, .inr (4, [.ref h1, .int kn, .int kl, .ref hk9, .ref hlt, h0_5, .ref hbd, h0_7, h0_8, h0_9])), (h1, .inr (0, [.ref hs, .ref ha, .ref hb9, h1_3, h1_4, h1_5])), (hk9, .inl (chk9, 80, .inl fhk9)), (hs, .inl (chs, 80, .inl fhs)), (ha, .inl (cha, 80, .inl fha)), (hb9, .inl (chb9, 80, .inl fhb9)), (hbd, .inl (chbd, 12, .inl fhbd)), (hlt, .inl (chlt, 12, .inl fhlt))] s.heap := hP
  have w__fieldLink_RX4_15_ShellHeap_Known_layersSeen_I_ := hts (.fieldLink RX4 15 "ShellHeap$Known" "layersSeen" "I") (z_mc (z_ml z_m0))
  have hiX4 := show ∀ w ∈ u_ws RX4 TX4 10, w ∈ u_s_X4_findLater from fun w h => z_mc (z_mr (z_ml h))
  have w__fieldLink_RX4_9_ShellHeap_Known_notesSeen_I_ := hts (.fieldLink RX4 9 "ShellHeap$Known" "notesSeen" "I") (z_mc (z_ml z_m1))
  have w__fieldLink_RX4_22_ShellHeap_Known_later_I_ := hts (.fieldLink RX4 22 "ShellHeap$Known" "later" "[I") (z_mc (z_ml z_m6))
  have w__fieldLink_RX4_29_ShellHeap_Known_bedOf_I_ := hts (.fieldLink RX4 29 "ShellHeap$Known" "bedOf" "[I") (z_mc (z_ml z_m10))
  have w__fieldLink_RX4_41_ShellHeap_Known_book_LShellHeap_Book_ := hts (.fieldLink RX4 41 "ShellHeap$Known" "book" "LShellHeap$Book;") (z_mc (z_ml z_m11))
  have w__fieldLink_RX4_76_ShellHeap_Book_a_I_ := hts (.fieldLink RX4 76 "ShellHeap$Book" "a" "[I") (z_mc (z_ml z_m12))
  have hiX0 := show ∀ w ∈ u_ws RX0 TX0 6, w ∈ u_s_X4_findLater from fun w h => z_mc (z_mr (z_mr (z_ml h)))
  have w__fieldLink_RX4_79_ShellHeap_Book_b_I_ := hts (.fieldLink RX4 79 "ShellHeap$Book" "b" "[I") (z_mc (z_ml z_m13))
  have hl := lv_entry ([.ref h0]) (n := 3) (Nat.le_of_ble_eq_true rfl)
  rw [lg_entry_eq]
  generalize (lg_sl ([.ref h0]) ++ List.replicate (3 - (lg_sl ([.ref h0])).length) Slot.unset).toArray = ls at hl ⊢
  have hl : lv_has ls 3 [(0, .ref h0)] := hl
  refine z_nameQ (fun QQ hQQ => ?_)
  refine lv_iconst (v := 0) hx hb dX4_findLater_0 (by decide) ?_
  refine lv_istore_n (lv' := [(1, .int 0), (0, .ref h0)]) hx hb dX4_findLater_1 rfl hl (by decide) rfl (fun ls hl => ?_)
  have loop_1 : ∀ (n_2 : Nat) (i_4 : Int32) (f_5 : Nat → Int32) (H : Heap) (locs : List Loc) (ls : Array Slot), (13 - (i_4).toInt).toNat < n_2 → (((0 : Int) ≤ (i_4).toInt ∧ (i_4).toInt ≤ (12 : Int))) → va_P (dC, dI) vwCl [(h0, .inr (4, [.ref h1, .int kn, .int kl, .ref hk9, .ref hlt, h0_5, .ref hbd, h0_7, h0_8, h0_9])), (h1, .inr (0, [.ref hs, .ref ha, .ref hb9, h1_3, h1_4, h1_5])), (hk9, .inl (chk9, 80, .inl fhk9)), (hs, .inl (chs, 80, .inl fhs)), (ha, .inl (cha, 80, .inl fha)), (hb9, .inl (chb9, 80, .inl fhb9)), (hbd, .inl (chbd, 12, .inl fhbd)), (hlt, .inl (chlt, 12, .inl f_5))] H → va_D A [(h0, .inr (4, [.ref h1, .int kn, .int kl, .ref hk9, .ref hlt, h0_5, .ref hbd, h0_7, h0_8, h0_9])), (h1, .inr (0, [.ref hs, .ref ha, .ref hb9, h1_3, h1_4, h1_5])), (hk9, .inl (chk9, 80, .inl fhk9)), (hs, .inl (chs, 80, .inl fhs)), (ha, .inl (cha, 80, .inl fha)), (hb9, .inl (chb9, 80, .inl fhb9)), (hbd, .inl (chbd, 12, .inl fhbd)), (hlt, .inl (chlt, 12, .inl f_5))] → va_S A s.heap H locs → lv_has ls 3 [(1, .int i_4), (0, .ref h0)] → W p l e ({ frames := 1, cells := 0, slots := 0, locals := 22 } : Room) s m ([.ref h0] : List Value).toArray below meth c H locs 0 0 QQ (F0 m 2 ls []) := by
    intro n_2
    induction n_2 with
    | zero => intro i_4 f_5 H locs ls hm; exact absurd hm (Nat.not_lt_zero _)
    | succ n_2 ih_3 =>
      intro i_4 f_5 H locs ls hm hF_6 hP hD hS hl
      refine lv_iload_n hx hb dX4_findLater_2 rfl (lv_at hl 0 rfl) ?_
      refine lv_aload_n hx hb dX4_findLater_3 rfl (lv_at hl 1 rfl) ?_
      refine va_get (D := (dC, dI)) (ci := 4) (v := .int kl) (C := RX4) (T := TX4) (N := 10) hx hb hts hiX4 hown hK hP 0 rfl rfl 2 (by decide) w__fieldLink_RX4_15_ShellHeap_Known_layersSeen_I_ (fun _ h9 => h9) rfl dX4_findLater_4 ?_
      refine lv_icmp_ge (tgt := 23) hx hb dX4_findLater_7 (by decide) (fun c_7 => ?_) (fun c_7 => ?_)
      · have k_8 : (kl).toInt ≤ (i_4).toInt := z_le c_7
        refine lv_iconst (v := 0) hx hb dX4_findLater_23 (by decide) ?_
        refine lv_istore_n (lv' := [(1, .int 0), (0, .ref h0)]) hx hb dX4_findLater_24 rfl hl (by decide) rfl (fun ls hl => ?_)
        have loop_9 : ∀ (n_10 : Nat) (i_12 : Int32) (f_13 : Nat → Int32) (H : Heap) (locs : List Loc) (ls : Array Slot), (81 - (i_12).toInt).toNat < n_10 → (((0 : Int) ≤ (i_12).toInt ∧ (i_12).toInt ≤ (80 : Int))) → va_P (dC, dI) vwCl [(h0, .inr (4, [.ref h1, .int kn, .int kl, .ref hk9, .ref hlt, h0_5, .ref hbd, h0_7, h0_8, h0_9])), (h1, .inr (0, [.ref hs, .ref ha, .ref hb9, h1_3, h1_4, h1_5])), (hk9, .inl (chk9, 80, .inl fhk9)), (hs, .inl (chs, 80, .inl fhs)), (ha, .inl (cha, 80, .inl fha)), (hb9, .inl (chb9, 80, .inl fhb9)), (hbd, .inl (chbd, 12, .inl fhbd)), (hlt, .inl (chlt, 12, .inl f_13))] H → va_D A [(h0, .inr (4, [.ref h1, .int kn, .int kl, .ref hk9, .ref hlt, h0_5, .ref hbd, h0_7, h0_8, h0_9])), (h1, .inr (0, [.ref hs, .ref ha, .ref hb9, h1_3, h1_4, h1_5])), (hk9, .inl (chk9, 80, .inl fhk9)), (hs, .inl (chs, 80, .inl fhs)), (ha, .inl (cha, 80, .inl fha)), (hb9, .inl (chb9, 80, .inl fhb9)), (hbd, .inl (chbd, 12, .inl fhbd)), (hlt, .inl (chlt, 12, .inl f_13))] → va_S A s.heap H locs → lv_has ls 3 [(1, .int i_12), (0, .ref h0)] → W p l e ({ frames := 1, cells := 0, slots := 0, locals := 22 } : Room) s m ([.ref h0] : List Value).toArray below meth c H locs 0 0 QQ (F0 m 25 ls []) := by
          intro n_10
          induction n_10 with
          | zero => intro i_12 f_13 H locs ls hm; exact absurd hm (Nat.not_lt_zero _)
          | succ n_10 ih_11 =>
            intro i_12 f_13 H locs ls hm hF_14 hP hD hS hl
            refine lv_iload_n hx hb dX4_findLater_25 rfl (lv_at hl 0 rfl) ?_
            refine lv_aload_n hx hb dX4_findLater_26 rfl (lv_at hl 1 rfl) ?_
            refine va_get (D := (dC, dI)) (ci := 4) (v := .int kn) (C := RX4) (T := TX4) (N := 10) hx hb hts hiX4 hown hK hP 0 rfl rfl 1 (by decide) w__fieldLink_RX4_9_ShellHeap_Known_notesSeen_I_ (fun _ h9 => h9) rfl dX4_findLater_27 ?_
            refine lv_icmp_ge (tgt := 95) hx hb dX4_findLater_30 (by decide) (fun c_15 => ?_) (fun c_15 => ?_)
            · have k_16 : (kn).toInt ≤ (i_12).toInt := z_le c_15
              refine lv_iconst (v := 0) hx hb dX4_findLater_95 (by decide) ?_
              refine lv_istore_n (lv' := [(1, .int 0), (0, .ref h0)]) hx hb dX4_findLater_96 rfl hl (by decide) rfl (fun ls hl => ?_)
              have loop_17 : ∀ (n_18 : Nat) (i_20 : Int32) (f_21 : Nat → Int32) (H : Heap) (locs : List Loc) (ls : Array Slot), (13 - (i_20).toInt).toNat < n_18 → (((0 : Int) ≤ (i_20).toInt ∧ (i_20).toInt ≤ (12 : Int))) → va_P (dC, dI) vwCl [(h0, .inr (4, [.ref h1, .int kn, .int kl, .ref hk9, .ref hlt, h0_5, .ref hbd, h0_7, h0_8, h0_9])), (h1, .inr (0, [.ref hs, .ref ha, .ref hb9, h1_3, h1_4, h1_5])), (hk9, .inl (chk9, 80, .inl fhk9)), (hs, .inl (chs, 80, .inl fhs)), (ha, .inl (cha, 80, .inl fha)), (hb9, .inl (chb9, 80, .inl fhb9)), (hbd, .inl (chbd, 12, .inl fhbd)), (hlt, .inl (chlt, 12, .inl f_21))] H → va_D A [(h0, .inr (4, [.ref h1, .int kn, .int kl, .ref hk9, .ref hlt, h0_5, .ref hbd, h0_7, h0_8, h0_9])), (h1, .inr (0, [.ref hs, .ref ha, .ref hb9, h1_3, h1_4, h1_5])), (hk9, .inl (chk9, 80, .inl fhk9)), (hs, .inl (chs, 80, .inl fhs)), (ha, .inl (cha, 80, .inl fha)), (hb9, .inl (chb9, 80, .inl fhb9)), (hbd, .inl (chbd, 12, .inl fhbd)), (hlt, .inl (chlt, 12, .inl f_21))] → va_S A s.heap H locs → lv_has ls 3 [(1, .int i_20), (0, .ref h0)] → W p l e ({ frames := 1, cells := 0, slots := 0, locals := 22 } : Room) s m ([.ref h0] : List Value).toArray below meth c H locs 0 0 QQ (F0 m 97 ls []) := by
                intro n_18
                induction n_18 with
                | zero => intro i_20 f_21 H locs ls hm; exact absurd hm (Nat.not_lt_zero _)
                | succ n_18 ih_19 =>
                  intro i_20 f_21 H locs ls hm hF_22 hP hD hS hl
                  refine lv_iload_n hx hb dX4_findLater_97 rfl (lv_at hl 0 rfl) ?_
                  refine lv_aload_n hx hb dX4_findLater_98 rfl (lv_at hl 1 rfl) ?_
                  refine va_get (D := (dC, dI)) (ci := 4) (v := .int kl) (C := RX4) (T := TX4) (N := 10) hx hb hts hiX4 hown hK hP 0 rfl rfl 2 (by decide) w__fieldLink_RX4_15_ShellHeap_Known_layersSeen_I_ (fun _ h9 => h9) rfl dX4_findLater_99 ?_
                  refine lv_icmp_ge (tgt := 151) hx hb dX4_findLater_102 (by decide) (fun c_23 => ?_) (fun c_23 => ?_)
                  · have k_24 : (kl).toInt ≤ (i_20).toInt := z_le c_23
                    refine z_backQ hQQ ?_
                    have hP9 := hP
                    have hD9 := hD
                    have hK9 := hK.sub (tys' := []) [] rfl
                    refine W.widen (k := 0) (n := 0) (Nat.le_of_ble_eq_true rfl) (Nat.le_of_ble_eq_true rfl) ?_
                    exact W.vret hx hb hr (fun t ht hW => ⟨⟨(), rfl, trivial, ⟨f_21, by rw [ht]; exact hP9, va_K.moved hW.alike hK9, hD9⟩⟩, hS.F ht⟩) hS.2.2 dX4_findLater_151
                  · have k_25 : (kl).toInt > (i_20).toInt := z_nle c_23
                    refine lv_iconst (v := 0) hx hb dX4_findLater_105 (by decide) ?_
                    refine lv_istore_n (lv' := [(2, .int 0), (1, .int i_20), (0, .ref h0)]) hx hb dX4_findLater_106 rfl hl (by decide) rfl (fun ls hl => ?_)
                    have loop_26 : ∀ (n_27 : Nat) (i_29 : Int32) (f_30 : Nat → Int32) (H : Heap) (locs : List Loc) (ls : Array Slot), (13 - (i_29).toInt).toNat < n_27 → (((0 : Int) ≤ (i_29).toInt ∧ (i_29).toInt ≤ (12 : Int))) → va_P (dC, dI) vwCl [(h0, .inr (4, [.ref h1, .int kn, .int kl, .ref hk9, .ref hlt, h0_5, .ref hbd, h0_7, h0_8, h0_9])), (h1, .inr (0, [.ref hs, .ref ha, .ref hb9, h1_3, h1_4, h1_5])), (hk9, .inl (chk9, 80, .inl fhk9)), (hs, .inl (chs, 80, .inl fhs)), (ha, .inl (cha, 80, .inl fha)), (hb9, .inl (chb9, 80, .inl fhb9)), (hbd, .inl (chbd, 12, .inl fhbd)), (hlt, .inl (chlt, 12, .inl f_30))] H → va_D A [(h0, .inr (4, [.ref h1, .int kn, .int kl, .ref hk9, .ref hlt, h0_5, .ref hbd, h0_7, h0_8, h0_9])), (h1, .inr (0, [.ref hs, .ref ha, .ref hb9, h1_3, h1_4, h1_5])), (hk9, .inl (chk9, 80, .inl fhk9)), (hs, .inl (chs, 80, .inl fhs)), (ha, .inl (cha, 80, .inl fha)), (hb9, .inl (chb9, 80, .inl fhb9)), (hbd, .inl (chbd, 12, .inl fhbd)), (hlt, .inl (chlt, 12, .inl f_30))] → va_S A s.heap H locs → lv_has ls 3 [(2, .int i_29), (1, .int i_20), (0, .ref h0)] → W p l e ({ frames := 1, cells := 0, slots := 0, locals := 22 } : Room) s m ([.ref h0] : List Value).toArray below meth c H locs 0 0 QQ (F0 m 107 ls []) := by
                      intro n_27
                      induction n_27 with
                      | zero => intro i_29 f_30 H locs ls hm; exact absurd hm (Nat.not_lt_zero _)
                      | succ n_27 ih_28 =>
                        intro i_29 f_30 H locs ls hm hF_31 hP hD hS hl
                        refine lv_iload_n hx hb dX4_findLater_107 rfl (lv_at hl 0 rfl) ?_
                        refine lv_aload_n hx hb dX4_findLater_108 rfl (lv_at hl 2 rfl) ?_
                        refine va_get (D := (dC, dI)) (ci := 4) (v := .int kl) (C := RX4) (T := TX4) (N := 10) hx hb hts hiX4 hown hK hP 0 rfl rfl 2 (by decide) w__fieldLink_RX4_15_ShellHeap_Known_layersSeen_I_ (fun _ h9 => h9) rfl dX4_findLater_109 ?_
                        refine lv_icmp_ge (tgt := 145) hx hb dX4_findLater_112 (by decide) (fun c_32 => ?_) (fun c_32 => ?_)
                        · have k_33 : (kl).toInt ≤ (i_29).toInt := z_le c_32
                          obtain ⟨z_34, ez_34⟩ : ∃ y : Int32, y = i_20 + 1 := ⟨_, rfl⟩
                          have kz_34 : (z_34).toInt = (i_20).toInt + (1 : Int) := by rw [ez_34]; exact z_add (b := 1) rfl rfl (z_al hF_22.1 (by decide)) (z_ah hF_22.2 (by decide))
                          refine lv_iinc (v := z_34) (lv' := [(1, .int z_34), (2, .int i_29), (0, .ref h0)]) hx hb dX4_findLater_145 hl (k := 1) rfl (by rw [ez_34]; rfl) (by decide) rfl (fun ls hl => ?_)
                          refine lv_goto (tgt := 97) hx hb dX4_findLater_148 (by decide) ?_
                          exact ih_19 z_34 f_30 _ _ _ (show (13 - (z_34).toInt).toNat < n_18 by omega) (show ((0 : Int) ≤ (z_34).toInt ∧ (z_34).toInt ≤ (12 : Int)) by omega) hP hD hS (lv_sub hl [0, 2] rfl)
                        · have k_35 : (kl).toInt > (i_29).toInt := z_nle c_32
                          refine lv_aload_n hx hb dX4_findLater_115 rfl (lv_at hl 2 rfl) ?_
                          refine lv_iload_n hx hb dX4_findLater_116 rfl (lv_at hl 0 rfl) ?_
                          refine lv_iload_n hx hb dX4_findLater_117 rfl (lv_at hl 1 rfl) ?_
                          obtain ⟨hPc, hDc⟩ := z_sub2 (ws' := [(h0, .inr (4, [.ref h1, .int kn, .int kl, .ref hk9, .ref hlt, h0_5, .ref hbd, h0_7, h0_8, h0_9])), (hlt, .inl (chlt, 12, .inl f_30))]) hP hD [0, 7] (by decide) rfl
                          have hKc := hK.sub (tys' := [(chlt, .int)]) [5] rfl
                          have hFc := va_free (ws := []) (wc := []) (z_D0 _) hS hA [] rfl
                          refine va_calli (va_runV (As := [.int i_29, .int i_20]) (rest := []) ⟨hx, hb, hml, hown, hts⟩ (s_X4_isLater l dC dI H.size h0 i_29 i_20 (.ref h1) (.int kn) (.int kl) (.ref hk9) hlt h0_5 (.ref hbd) h0_7 h0_8 h0_9 chlt f_30 (by first | omega | decide)) (cwV 2 hts gw_s_X4_findLater_s_X4_isLater_95 rfl rfl rfl (by decide +kernel) ⟨Nat.le_of_ble_eq_true rfl, Nat.le_of_ble_eq_true rfl⟩) ⟨z_blind, va_recv hKc hPc (ci := 4) (q0 := 0) rfl rfl, z_pre hPc hKc hDc⟩ rfl rfl hl.1 rfl (lv_room (Nat.le_of_ble_eq_true rfl)) dX4_findLater_118 ⟨Nat.le_of_ble_eq_true rfl, Nat.le_of_ble_eq_true rfl⟩) hS (fun q _ h => hFc q h) hFc (fun r_37 u t H_36 locs ht hvm hw_38 hB hz1 hk1 hS => ?_)
                          replace hP := z_pure hP hk1
                          clear hPc hDc hKc
                          refine lv_if_eq (tgt := 139) hx hb dX4_findLater_121 (by decide) (fun c_39 => ?_) (fun c_39 => ?_)
                          · have k_40 : (r_37).toInt = (0 : Int) := z_eq c_39
                            obtain rfl : r_37 = 0 := z_eq' (show (r_37).toInt = (0 : Int) by omega)
                            obtain ⟨z_42, ez_42⟩ : ∃ y : Int32, y = i_29 + 1 := ⟨_, rfl⟩
                            have kz_42 : (z_42).toInt = (i_29).toInt + (1 : Int) := by rw [ez_42]; exact z_add (b := 1) rfl rfl (z_al hF_31.1 (by decide)) (z_ah hF_31.2 (by decide))
                            refine lv_iinc (v := z_42) (lv' := [(2, .int z_42), (1, .int i_20), (0, .ref h0)]) hx hb dX4_findLater_139 hl (k := 0) rfl (by rw [ez_42]; rfl) (by decide) rfl (fun ls hl => ?_)
                            refine lv_goto (tgt := 107) hx hb dX4_findLater_142 (by decide) ?_
                            exact ih_28 z_42 f_30 _ _ _ (show (13 - (z_42).toInt).toNat < n_27 by omega) (show ((0 : Int) ≤ (z_42).toInt ∧ (z_42).toInt ≤ (12 : Int)) by omega) hP hD hS (lv_sub hl [0, 1, 2] rfl)
                          · have k_43 : (r_37).toInt ≠ (0 : Int) := z_ne c_39
                            obtain rfl : r_37 = 1 := z_eq' (show (r_37).toInt = (1 : Int) by omega)
                            refine lv_aload_n hx hb dX4_findLater_124 rfl (lv_at hl 2 rfl) ?_
                            refine va_get (D := (dC, dI)) (ci := 4) (v := .ref hlt) (C := RX4) (T := TX4) (N := 10) hx hb hts hiX4 hown hK hP 0 rfl rfl 4 (by decide) w__fieldLink_RX4_22_ShellHeap_Known_later_I_ (fun _ h9 => h9) rfl dX4_findLater_125 ?_
                            refine lv_iload_n hx hb dX4_findLater_128 rfl (lv_at hl 0 rfl) ?_
                            refine lv_dup2_11 hx hb dX4_findLater_129 rfl rfl ?_
                            refine va_iald hx hb hK hP 7 5 rfl rfl (z_vpin (by omega) (by omega)) dX4_findLater_130 ?_
                            refine lv_topi (fun z_45 ez_45 => ?_)
                            refine lv_aload_n hx hb dX4_findLater_131 rfl (lv_at hl 2 rfl) ?_
                            refine va_get (D := (dC, dI)) (ci := 4) (v := .ref hlt) (C := RX4) (T := TX4) (N := 10) hx hb hts hiX4 hown hK hP 0 rfl rfl 4 (by decide) w__fieldLink_RX4_22_ShellHeap_Known_later_I_ (fun _ h9 => h9) rfl dX4_findLater_132 ?_
                            refine lv_iload_n hx hb dX4_findLater_135 rfl (lv_at hl 1 rfl) ?_
                            refine va_iald hx hb hK hP 7 5 rfl rfl (z_vpin (by omega) (by omega)) dX4_findLater_136 ?_
                            refine lv_topi (fun z_46 ez_46 => ?_)
                            refine lv_ior hx hb dX4_findLater_137 ?_
                            refine lv_topi (fun z_47 ez_47 => ?_)
                            refine va_iast hx hb hK hP hD hS 7 5 rfl rfl (z_vpin (by omega) (by omega)) dX4_findLater_138 (fun H_48 locs hP hD hS => ?_)
                            obtain ⟨hP, hD⟩ := z_s_7 hP hD
                            generalize (upd f_30 (i_29 : Int32).toNatClampNeg z_47) = f_49 at hP hD
                            obtain ⟨z_50, ez_50⟩ : ∃ y : Int32, y = i_29 + 1 := ⟨_, rfl⟩
                            have kz_50 : (z_50).toInt = (i_29).toInt + (1 : Int) := by rw [ez_50]; exact z_add (b := 1) rfl rfl (z_al hF_31.1 (by decide)) (z_ah hF_31.2 (by decide))
                            refine lv_iinc (v := z_50) (lv' := [(2, .int z_50), (1, .int i_20), (0, .ref h0)]) hx hb dX4_findLater_139 hl (k := 0) rfl (by rw [ez_50]; rfl) (by decide) rfl (fun ls hl => ?_)
                            refine lv_goto (tgt := 107) hx hb dX4_findLater_142 (by decide) ?_
                            exact ih_28 z_50 f_49 _ _ _ (show (13 - (z_50).toInt).toNat < n_27 by omega) (show ((0 : Int) ≤ (z_50).toInt ∧ (z_50).toInt ≤ (12 : Int)) by omega) hP hD hS (lv_sub hl [0, 1, 2] rfl)
                    exact loop_26 _ 0 f_21 _ _ _ (Nat.lt_succ_self _) (show ((0 : Int) ≤ (0 : Int) ∧ (0 : Int) ≤ (12 : Int)) by omega) hP hD hS hl
              exact loop_17 _ 0 f_13 _ _ _ (Nat.lt_succ_self _) (show ((0 : Int) ≤ (0 : Int) ∧ (0 : Int) ≤ (12 : Int)) by omega) hP hD hS hl
            · have k_51 : (kn).toInt > (i_12).toInt := z_nle c_15
              refine lv_aload_n hx hb dX4_findLater_33 rfl (lv_at hl 1 rfl) ?_
              refine lv_iload_n hx hb dX4_findLater_34 rfl (lv_at hl 0 rfl) ?_
              refine lv_iconst (v := 0) hx hb dX4_findLater_35 (by decide) ?_
              obtain ⟨hPc, hDc⟩ := z_sub2 (ws' := [(h0, .inr (4, [.ref h1, .int kn, .int kl, .ref hk9, .ref hlt, h0_5, .ref hbd, h0_7, h0_8, h0_9])), (h1, .inr (0, [.ref hs, .ref ha, .ref hb9, h1_3, h1_4, h1_5])), (hk9, .inl (chk9, 80, .inl fhk9)), (hs, .inl (chs, 80, .inl fhs))]) hP hD [0, 1, 2, 3] (by decide) rfl
              have hKc := hK.sub (tys' := [(chk9, .boolean), (chs, .int)]) [0, 1] rfl
              have hFc := va_free (ws := []) (wc := []) (z_D0 _) hS hA [] rfl
              refine va_calli (va_runV (As := [.int i_12, .int 0]) (rest := []) ⟨hx, hb, hml, hown, hts⟩ (s_X4_counts l dC dI H.size h0 i_12 0 h1 kn (.int kl) hk9 (.ref hlt) h0_5 (.ref hbd) h0_7 h0_8 h0_9 hs (.ref ha) (.ref hb9) h1_3 h1_4 h1_5 chk9 fhk9 chs fhs hB_kn (by first | omega | decide)) (cwV 2 hts gw_s_X4_findLater_s_X4_counts_72 rfl rfl rfl (by decide +kernel) ⟨Nat.le_of_ble_eq_true rfl, Nat.le_of_ble_eq_true rfl⟩) ⟨z_blind, va_recv hKc hPc (ci := 4) (q0 := 0) rfl rfl, z_pre hPc hKc hDc⟩ rfl rfl hl.1 rfl (lv_room (Nat.le_of_ble_eq_true rfl)) dX4_findLater_36 ⟨Nat.le_of_ble_eq_true rfl, Nat.le_of_ble_eq_true rfl⟩) hS (fun q _ h => hFc q h) hFc (fun r_53 u t H_52 locs ht hvm hw_54 hB hz1 hk1 hS => ?_)
              replace hP := z_pure hP hk1
              clear hPc hDc hKc
              rcases hw_54 with ⟨rfl, hw_54⟩ | ⟨rfl, hw_54⟩
              · have hw_54 : (i_12.toInt < kn.toInt ∧ fhs i_12.toNatClampNeg = 0) := hw_54
                refine lv_if_ne (tgt := 51) hx hb dX4_findLater_39 (by decide) (fun _ => ?_) (fun c_55 => absurd c_55 (by decide))
                refine lv_aload_n hx hb dX4_findLater_51 rfl (lv_at hl 1 rfl) ?_
                refine va_get (D := (dC, dI)) (ci := 4) (v := .ref hlt) (C := RX4) (T := TX4) (N := 10) hx hb hts hiX4 hown hK hP 0 rfl rfl 4 (by decide) w__fieldLink_RX4_22_ShellHeap_Known_later_I_ (fun _ h9 => h9) rfl dX4_findLater_52 ?_
                refine lv_aload_n hx hb dX4_findLater_55 rfl (lv_at hl 1 rfl) ?_
                refine va_get (D := (dC, dI)) (ci := 4) (v := .ref hbd) (C := RX4) (T := TX4) (N := 10) hx hb hts hiX4 hown hK hP 0 rfl rfl 6 (by decide) w__fieldLink_RX4_29_ShellHeap_Known_bedOf_I_ (fun _ h9 => h9) rfl dX4_findLater_56 ?_
                refine lv_aload_n hx hb dX4_findLater_59 rfl (lv_at hl 1 rfl) ?_
                refine va_get (D := (dC, dI)) (ci := 4) (v := .ref h1) (C := RX4) (T := TX4) (N := 10) hx hb hts hiX4 hown hK hP 0 rfl rfl 0 (by decide) w__fieldLink_RX4_41_ShellHeap_Known_book_LShellHeap_Book_ (fun _ h9 => h9) rfl dX4_findLater_60 ?_
                refine va_get (D := (dC, dI)) (ci := 0) (v := .ref ha) (C := RX0) (T := TX0) (N := 6) hx hb hts hiX0 hown hK hP 1 rfl rfl 1 (by decide) w__fieldLink_RX4_76_ShellHeap_Book_a_I_ (fun _ h9 => h9) rfl dX4_findLater_63 ?_
                refine lv_iload_n hx hb dX4_findLater_66 rfl (lv_at hl 0 rfl) ?_
                refine va_iald hx hb hK hP 4 2 rfl rfl (z_vpin (by omega) (by omega)) dX4_findLater_67 ?_
                refine lv_topi (fun z_56 ez_56 => ?_)
                have kz_56 : ((0 : Int) ≤ (z_56).toInt ∧ (z_56).toInt ≤ (79 : Int)) := by rw [ez_56]; exact hI_ha _
                have krz_56 : (z_56).toInt ≤ (11 : Int) := by rw [ez_56]; exact (hR _).2.1 (by rw [hw_54.2]; decide)
                refine va_iald hx hb hK hP 6 4 rfl rfl (z_vpin (by omega) (by omega)) dX4_findLater_68 ?_
                refine lv_topi (fun z_57 ez_57 => ?_)
                have kz_57 : ((0 : Int) ≤ (z_57).toInt ∧ (z_57).toInt ≤ (11 : Int)) := by rw [ez_57]; exact hI_hbd _
                refine lv_dup2_11 hx hb dX4_findLater_69 rfl rfl ?_
                refine va_iald hx hb hK hP 7 5 rfl rfl (z_vpinB kz_57 (by decide) (by decide)) dX4_findLater_70 ?_
                refine lv_topi (fun z_58 ez_58 => ?_)
                refine lv_iconst (v := 1) hx hb dX4_findLater_71 (by decide) ?_
                refine lv_aload_n hx hb dX4_findLater_72 rfl (lv_at hl 1 rfl) ?_
                refine va_get (D := (dC, dI)) (ci := 4) (v := .ref hbd) (C := RX4) (T := TX4) (N := 10) hx hb hts hiX4 hown hK hP 0 rfl rfl 6 (by decide) w__fieldLink_RX4_29_ShellHeap_Known_bedOf_I_ (fun _ h9 => h9) rfl dX4_findLater_73 ?_
                refine lv_aload_n hx hb dX4_findLater_76 rfl (lv_at hl 1 rfl) ?_
                refine va_get (D := (dC, dI)) (ci := 4) (v := .ref h1) (C := RX4) (T := TX4) (N := 10) hx hb hts hiX4 hown hK hP 0 rfl rfl 0 (by decide) w__fieldLink_RX4_41_ShellHeap_Known_book_LShellHeap_Book_ (fun _ h9 => h9) rfl dX4_findLater_77 ?_
                refine va_get (D := (dC, dI)) (ci := 0) (v := .ref hb9) (C := RX0) (T := TX0) (N := 6) hx hb hts hiX0 hown hK hP 1 rfl rfl 2 (by decide) w__fieldLink_RX4_79_ShellHeap_Book_b_I_ (fun _ h9 => h9) rfl dX4_findLater_80 ?_
                refine lv_iload_n hx hb dX4_findLater_83 rfl (lv_at hl 0 rfl) ?_
                refine va_iald hx hb hK hP 5 3 rfl rfl (z_vpin (by omega) (by omega)) dX4_findLater_84 ?_
                refine lv_topi (fun z_59 ez_59 => ?_)
                have krz_59 : (0 : Int) ≤ (z_59).toInt ∧ (z_59).toInt ≤ (11 : Int) := by rw [ez_59]; exact (hR _).2.2 (by rw [hw_54.2]; decide)
                refine va_iald hx hb hK hP 6 4 rfl rfl (z_vpin (by omega) (by omega)) dX4_findLater_85 ?_
                refine lv_topi (fun z_60 ez_60 => ?_)
                have kz_60 : ((0 : Int) ≤ (z_60).toInt ∧ (z_60).toInt ≤ (11 : Int)) := by rw [ez_60]; exact hI_hbd _
                refine lv_ishl hx hb dX4_findLater_86 ?_
                refine lv_topi (fun z_61 ez_61 => ?_)
                refine lv_ior hx hb dX4_findLater_87 ?_
                refine lv_topi (fun z_62 ez_62 => ?_)
                refine va_iast hx hb hK hP hD hS 7 5 rfl rfl (z_vpinB kz_57 (by decide) (by decide)) dX4_findLater_88 (fun H_63 locs hP hD hS => ?_)
                obtain ⟨hP, hD⟩ := z_s_7 hP hD
                generalize (upd f_13 (z_57 : Int32).toNatClampNeg z_62) = f_64 at hP hD
                obtain ⟨z_65, ez_65⟩ : ∃ y : Int32, y = i_12 + 1 := ⟨_, rfl⟩
                have kz_65 : (z_65).toInt = (i_12).toInt + (1 : Int) := by rw [ez_65]; exact z_add (b := 1) rfl rfl (z_al hF_14.1 (by decide)) (z_ah hF_14.2 (by decide))
                refine lv_iinc (v := z_65) (lv' := [(1, .int z_65), (0, .ref h0)]) hx hb dX4_findLater_89 hl (k := 0) rfl (by rw [ez_65]; rfl) (by decide) rfl (fun ls hl => ?_)
                refine lv_goto (tgt := 25) hx hb dX4_findLater_92 (by decide) ?_
                exact ih_11 z_65 f_64 _ _ _ (show (81 - (z_65).toInt).toNat < n_10 by omega) (show ((0 : Int) ≤ (z_65).toInt ∧ (z_65).toInt ≤ (80 : Int)) by omega) hP hD hS (lv_sub hl [0, 1] rfl)
              · have hw_54 : True := hw_54
                refine lv_if_ne (tgt := 51) hx hb dX4_findLater_39 (by decide) (fun c_66 => absurd c_66 (by decide)) (fun _ => ?_)
                refine lv_aload_n hx hb dX4_findLater_42 rfl (lv_at hl 1 rfl) ?_
                refine lv_iload_n hx hb dX4_findLater_43 rfl (lv_at hl 0 rfl) ?_
                refine lv_iconst (v := 1) hx hb dX4_findLater_44 (by decide) ?_
                obtain ⟨hPc, hDc⟩ := z_sub2 (ws' := [(h0, .inr (4, [.ref h1, .int kn, .int kl, .ref hk9, .ref hlt, h0_5, .ref hbd, h0_7, h0_8, h0_9])), (h1, .inr (0, [.ref hs, .ref ha, .ref hb9, h1_3, h1_4, h1_5])), (hk9, .inl (chk9, 80, .inl fhk9)), (hs, .inl (chs, 80, .inl fhs))]) hP hD [0, 1, 2, 3] (by decide) rfl
                have hKc := hK.sub (tys' := [(chk9, .boolean), (chs, .int)]) [0, 1] rfl
                have hFc := va_free (ws := []) (wc := []) (z_D0 _) hS hA [] rfl
                refine va_calli (va_runV (As := [.int i_12, .int 1]) (rest := []) ⟨hx, hb, hml, hown, hts⟩ (s_X4_counts l dC dI H_52.size h0 i_12 1 h1 kn (.int kl) hk9 (.ref hlt) h0_5 (.ref hbd) h0_7 h0_8 h0_9 hs (.ref ha) (.ref hb9) h1_3 h1_4 h1_5 chk9 fhk9 chs fhs hB_kn (by first | omega | decide)) (cwV 2 hts gw_s_X4_findLater_s_X4_counts_72 rfl rfl rfl (by decide +kernel) ⟨Nat.le_of_ble_eq_true rfl, Nat.le_of_ble_eq_true rfl⟩) ⟨z_blind, va_recv hKc hPc (ci := 4) (q0 := 0) rfl rfl, z_pre hPc hKc hDc⟩ rfl rfl hl.1 rfl (lv_room (Nat.le_of_ble_eq_true rfl)) dX4_findLater_45 ⟨Nat.le_of_ble_eq_true rfl, Nat.le_of_ble_eq_true rfl⟩) hS (fun q _ h => hFc q h) hFc (fun r_68 u t H_67 locs ht hvm hw_69 hB hz1 hk1 hS => ?_)
                replace hP := z_pure hP hk1
                clear hPc hDc hKc
                rcases hw_69 with ⟨rfl, hw_69⟩ | ⟨rfl, hw_69⟩
                · have hw_69 : (i_12.toInt < kn.toInt ∧ fhs i_12.toNatClampNeg = 1) := hw_69
                  refine lv_if_eq (tgt := 89) hx hb dX4_findLater_48 (by decide) (fun c_70 => absurd c_70 (by decide)) (fun _ => ?_)
                  refine lv_aload_n hx hb dX4_findLater_51 rfl (lv_at hl 1 rfl) ?_
                  refine va_get (D := (dC, dI)) (ci := 4) (v := .ref hlt) (C := RX4) (T := TX4) (N := 10) hx hb hts hiX4 hown hK hP 0 rfl rfl 4 (by decide) w__fieldLink_RX4_22_ShellHeap_Known_later_I_ (fun _ h9 => h9) rfl dX4_findLater_52 ?_
                  refine lv_aload_n hx hb dX4_findLater_55 rfl (lv_at hl 1 rfl) ?_
                  refine va_get (D := (dC, dI)) (ci := 4) (v := .ref hbd) (C := RX4) (T := TX4) (N := 10) hx hb hts hiX4 hown hK hP 0 rfl rfl 6 (by decide) w__fieldLink_RX4_29_ShellHeap_Known_bedOf_I_ (fun _ h9 => h9) rfl dX4_findLater_56 ?_
                  refine lv_aload_n hx hb dX4_findLater_59 rfl (lv_at hl 1 rfl) ?_
                  refine va_get (D := (dC, dI)) (ci := 4) (v := .ref h1) (C := RX4) (T := TX4) (N := 10) hx hb hts hiX4 hown hK hP 0 rfl rfl 0 (by decide) w__fieldLink_RX4_41_ShellHeap_Known_book_LShellHeap_Book_ (fun _ h9 => h9) rfl dX4_findLater_60 ?_
                  refine va_get (D := (dC, dI)) (ci := 0) (v := .ref ha) (C := RX0) (T := TX0) (N := 6) hx hb hts hiX0 hown hK hP 1 rfl rfl 1 (by decide) w__fieldLink_RX4_76_ShellHeap_Book_a_I_ (fun _ h9 => h9) rfl dX4_findLater_63 ?_
                  refine lv_iload_n hx hb dX4_findLater_66 rfl (lv_at hl 0 rfl) ?_
                  refine va_iald hx hb hK hP 4 2 rfl rfl (z_vpin (by omega) (by omega)) dX4_findLater_67 ?_
                  refine lv_topi (fun z_71 ez_71 => ?_)
                  have kz_71 : ((0 : Int) ≤ (z_71).toInt ∧ (z_71).toInt ≤ (79 : Int)) := by rw [ez_71]; exact hI_ha _
                  have krz_71 : (z_71).toInt ≤ (11 : Int) := by rw [ez_71]; exact (hR _).2.1 (by rw [hw_69.2]; decide)
                  refine va_iald hx hb hK hP 6 4 rfl rfl (z_vpin (by omega) (by omega)) dX4_findLater_68 ?_
                  refine lv_topi (fun z_72 ez_72 => ?_)
                  have kz_72 : ((0 : Int) ≤ (z_72).toInt ∧ (z_72).toInt ≤ (11 : Int)) := by rw [ez_72]; exact hI_hbd _
                  refine lv_dup2_11 hx hb dX4_findLater_69 rfl rfl ?_
                  refine va_iald hx hb hK hP 7 5 rfl rfl (z_vpinB kz_72 (by decide) (by decide)) dX4_findLater_70 ?_
                  refine lv_topi (fun z_73 ez_73 => ?_)
                  refine lv_iconst (v := 1) hx hb dX4_findLater_71 (by decide) ?_
                  refine lv_aload_n hx hb dX4_findLater_72 rfl (lv_at hl 1 rfl) ?_
                  refine va_get (D := (dC, dI)) (ci := 4) (v := .ref hbd) (C := RX4) (T := TX4) (N := 10) hx hb hts hiX4 hown hK hP 0 rfl rfl 6 (by decide) w__fieldLink_RX4_29_ShellHeap_Known_bedOf_I_ (fun _ h9 => h9) rfl dX4_findLater_73 ?_
                  refine lv_aload_n hx hb dX4_findLater_76 rfl (lv_at hl 1 rfl) ?_
                  refine va_get (D := (dC, dI)) (ci := 4) (v := .ref h1) (C := RX4) (T := TX4) (N := 10) hx hb hts hiX4 hown hK hP 0 rfl rfl 0 (by decide) w__fieldLink_RX4_41_ShellHeap_Known_book_LShellHeap_Book_ (fun _ h9 => h9) rfl dX4_findLater_77 ?_
                  refine va_get (D := (dC, dI)) (ci := 0) (v := .ref hb9) (C := RX0) (T := TX0) (N := 6) hx hb hts hiX0 hown hK hP 1 rfl rfl 2 (by decide) w__fieldLink_RX4_79_ShellHeap_Book_b_I_ (fun _ h9 => h9) rfl dX4_findLater_80 ?_
                  refine lv_iload_n hx hb dX4_findLater_83 rfl (lv_at hl 0 rfl) ?_
                  refine va_iald hx hb hK hP 5 3 rfl rfl (z_vpin (by omega) (by omega)) dX4_findLater_84 ?_
                  refine lv_topi (fun z_74 ez_74 => ?_)
                  have krz_74 : (0 : Int) ≤ (z_74).toInt ∧ (z_74).toInt ≤ (11 : Int) := by rw [ez_74]; exact (hR _).2.2 (by rw [hw_69.2]; decide)
                  refine va_iald hx hb hK hP 6 4 rfl rfl (z_vpin (by omega) (by omega)) dX4_findLater_85 ?_
                  refine lv_topi (fun z_75 ez_75 => ?_)
                  have kz_75 : ((0 : Int) ≤ (z_75).toInt ∧ (z_75).toInt ≤ (11 : Int)) := by rw [ez_75]; exact hI_hbd _
                  refine lv_ishl hx hb dX4_findLater_86 ?_
                  refine lv_topi (fun z_76 ez_76 => ?_)
                  refine lv_ior hx hb dX4_findLater_87 ?_
                  refine lv_topi (fun z_77 ez_77 => ?_)
                  refine va_iast hx hb hK hP hD hS 7 5 rfl rfl (z_vpinB kz_72 (by decide) (by decide)) dX4_findLater_88 (fun H_78 locs hP hD hS => ?_)
                  obtain ⟨hP, hD⟩ := z_s_7 hP hD
                  generalize (upd f_13 (z_72 : Int32).toNatClampNeg z_77) = f_79 at hP hD
                  obtain ⟨z_80, ez_80⟩ : ∃ y : Int32, y = i_12 + 1 := ⟨_, rfl⟩
                  have kz_80 : (z_80).toInt = (i_12).toInt + (1 : Int) := by rw [ez_80]; exact z_add (b := 1) rfl rfl (z_al hF_14.1 (by decide)) (z_ah hF_14.2 (by decide))
                  refine lv_iinc (v := z_80) (lv' := [(1, .int z_80), (0, .ref h0)]) hx hb dX4_findLater_89 hl (k := 0) rfl (by rw [ez_80]; rfl) (by decide) rfl (fun ls hl => ?_)
                  refine lv_goto (tgt := 25) hx hb dX4_findLater_92 (by decide) ?_
                  exact ih_11 z_80 f_79 _ _ _ (show (81 - (z_80).toInt).toNat < n_10 by omega) (show ((0 : Int) ≤ (z_80).toInt ∧ (z_80).toInt ≤ (80 : Int)) by omega) hP hD hS (lv_sub hl [0, 1] rfl)
                · have hw_69 : True := hw_69
                  refine lv_if_eq (tgt := 89) hx hb dX4_findLater_48 (by decide) (fun _ => ?_) (fun c_81 => absurd (by decide) c_81)
                  obtain ⟨z_82, ez_82⟩ : ∃ y : Int32, y = i_12 + 1 := ⟨_, rfl⟩
                  have kz_82 : (z_82).toInt = (i_12).toInt + (1 : Int) := by rw [ez_82]; exact z_add (b := 1) rfl rfl (z_al hF_14.1 (by decide)) (z_ah hF_14.2 (by decide))
                  refine lv_iinc (v := z_82) (lv' := [(1, .int z_82), (0, .ref h0)]) hx hb dX4_findLater_89 hl (k := 0) rfl (by rw [ez_82]; rfl) (by decide) rfl (fun ls hl => ?_)
                  refine lv_goto (tgt := 25) hx hb dX4_findLater_92 (by decide) ?_
                  exact ih_11 z_82 f_13 _ _ _ (show (81 - (z_82).toInt).toNat < n_10 by omega) (show ((0 : Int) ≤ (z_82).toInt ∧ (z_82).toInt ≤ (80 : Int)) by omega) hP hD hS (lv_sub hl [0, 1] rfl)
        exact loop_9 _ 0 f_5 _ _ _ (Nat.lt_succ_self _) (show ((0 : Int) ≤ (0 : Int) ∧ (0 : Int) ≤ (80 : Int)) by omega) hP hD hS hl
      · have k_83 : (kl).toInt > (i_4).toInt := z_nle c_7
        refine lv_aload_n hx hb dX4_findLater_10 rfl (lv_at hl 1 rfl) ?_
        refine va_get (D := (dC, dI)) (ci := 4) (v := .ref hlt) (C := RX4) (T := TX4) (N := 10) hx hb hts hiX4 hown hK hP 0 rfl rfl 4 (by decide) w__fieldLink_RX4_22_ShellHeap_Known_later_I_ (fun _ h9 => h9) rfl dX4_findLater_11 ?_
        refine lv_iload_n hx hb dX4_findLater_14 rfl (lv_at hl 0 rfl) ?_
        refine lv_iconst (v := 0) hx hb dX4_findLater_15 (by decide) ?_
        refine va_iast hx hb hK hP hD hS 7 5 rfl rfl (z_vpin (by omega) (by omega)) dX4_findLater_16 (fun H_84 locs hP hD hS => ?_)
        obtain ⟨hP, hD⟩ := z_s_7 hP hD
        generalize (upd f_5 (i_4 : Int32).toNatClampNeg 0) = f_85 at hP hD
        obtain ⟨z_86, ez_86⟩ : ∃ y : Int32, y = i_4 + 1 := ⟨_, rfl⟩
        have kz_86 : (z_86).toInt = (i_4).toInt + (1 : Int) := by rw [ez_86]; exact z_add (b := 1) rfl rfl (z_al hF_6.1 (by decide)) (z_ah hF_6.2 (by decide))
        refine lv_iinc (v := z_86) (lv' := [(1, .int z_86), (0, .ref h0)]) hx hb dX4_findLater_17 hl (k := 0) rfl (by rw [ez_86]; rfl) (by decide) rfl (fun ls hl => ?_)
        refine lv_goto (tgt := 2) hx hb dX4_findLater_20 (by decide) ?_
        exact ih_3 z_86 f_85 _ _ _ (show (13 - (z_86).toInt).toNat < n_2 by omega) (show ((0 : Int) ≤ (z_86).toInt ∧ (z_86).toInt ≤ (12 : Int)) by omega) hP hD hS (lv_sub hl [0, 1] rfl)
  exact loop_1 _ 0 fhlt _ _ _ (Nat.lt_succ_self _) (show ((0 : Int) ≤ (0 : Int) ∧ (0 : Int) ≤ (12 : Int)) by omega) hP hD hS hl
def u_s_X4_setSpans : List Cond := .code yX4_setSpans cX4_setSpans 3 none :: ([.fieldLink RX4 15 "ShellHeap$Known" "layersSeen" "I", .fieldLink RX4 9 "ShellHeap$Known" "notesSeen" "I", .methodLink RX4 105 yX4_leadYears, .instanceMethod yX4_leadYears, .selects RX4 yX4_leadYears yX4_leadYears, .initialized RX4, .fieldLink RX4 32 "ShellHeap$Known" "least" "[I", .fieldLink RX4 35 "ShellHeap$Known" "greatest" "[I", .fieldLink RX4 38 "ShellHeap$Known" "clash" "I", .methodLink RX4 72 yX4_counts, .instanceMethod yX4_counts, .selects RX4 yX4_counts yX4_counts, .fieldLink RX4 29 "ShellHeap$Known" "bedOf" "[I", .fieldLink RX4 41 "ShellHeap$Known" "book" "LShellHeap$Book;", .fieldLink RX4 76 "ShellHeap$Book" "a" "[I", .fieldLink RX4 79 "ShellHeap$Book" "b" "[I", .methodLink RX4 92 Lib.Math.max.name, .static Lib.Math.max.name, .initialized "java/lang/Math", .code Lib.Math.max.name Lib.Math.max.code 2 (some .int), .fieldLink RX4 102 "ShellHeap$Book" "c" "[I", .methodLink RX4 86 Lib.Math.min.name, .static Lib.Math.min.name, .code Lib.Math.min.name Lib.Math.min.code 2 (some .int)] ++ (wsX40 ++ (wsX00 ++ (u_s_X4_leadYears ++ (u_s_X4_counts ++ [])))))
theorem gd_s_X4_setSpans : z_gd u_s_X4_setSpans := z_gdc (by decide +kernel) (z_gda gdX4 (z_gda gdX0 (z_gda gd_s_X4_leadYears (z_gda gd_s_X4_counts (z_gd0)))))
set_option maxRecDepth 20000 in
theorem gw_s_X4_setSpans_s_X4_leadYears_105 : GoodIn u_s_X4_setSpans (wsV RX4 105 RX4 yX4_leadYears u_s_X4_leadYears) := z_gV (z_gr _ [3, 4, 5, 6] rfl (by decide +kernel)) (fun w h => ⟨z_mc (z_mr (z_mr (z_mr (z_ml h)))), gd_s_X4_leadYears w h⟩)
set_option maxRecDepth 20000 in
theorem gw_s_X4_setSpans_s_X4_counts_72 : GoodIn u_s_X4_setSpans (wsV RX4 72 RX4 yX4_counts u_s_X4_counts) := z_gV (z_gr _ [10, 11, 12, 6] rfl (by decide +kernel)) (fun w h => ⟨z_mc (z_mr (z_mr (z_mr (z_mr (z_ml h))))), gd_s_X4_counts w h⟩)
set_option maxHeartbeats 4000000 in
set_option maxRecDepth 100000 in
theorem s_X4_setSpans (l : Launch) (dC : Nat → ClassId) (dI : Nat → Nat → Nat) (sz : Nat) (h0 : Nat) (h1 : Nat) (kn : Int32) (kl : Int32) (hk9 : Nat) (hlt : Nat) (h0_5 : Value) (hbd : Nat) (hle : Nat) (hgr : Nat) (kc : Int32) (hs : Nat) (ha : Nat) (hb9 : Nat) (hc9 : Nat) (h1_4 : Value) (h1_5 : Value) (chk9 : ClassId) (fhk9 : Nat → Int32) (chs : ClassId) (fhs : Nat → Int32) (cha : ClassId) (fha : Nat → Int32) (chb9 : ClassId) (fhb9 : Nat → Int32) (chc9 : ClassId) (fhc9 : Nat → Int32) (chbd : ClassId) (fhbd : Nat → Int32) (chlt : ClassId) (fhlt : Nat → Int32) (chle : ClassId) (fhle : Nat → Int32) (chgr : ClassId) (fhgr : Nat → Int32) (hB_kn : ((-1 : Int) ≤ (kn).toInt ∧ (kn).toInt ≤ (80 : Int))) (hB_kl : ((-1 : Int) ≤ (kl).toInt ∧ (kl).toInt ≤ (12 : Int))) (hB_kc : ((0 : Int) ≤ (kc).toInt ∧ (kc).toInt ≤ (2 : Int))) (hI_ha : ∀ j : Nat, ((0 : Int) ≤ (fha j).toInt ∧ (fha j).toInt ≤ (79 : Int))) (hI_hbd : ∀ j : Nat, ((0 : Int) ≤ (fhbd j).toInt ∧ (fhbd j).toInt ≤ (11 : Int))) (hR : ∀ j : Nat, z_rel (fhs j) (fha j) (fhb9 j)) : Met l yX4_setSpans u_s_X4_setSpans ({ frames := 2, cells := 0, slots := 0, locals := 44 }) (va_Pc [.ref h0] (z_C (dC, dI) vwCl [(h0, .inr (4, [.ref h1, .int kn, .int kl, .ref hk9, .ref hlt, h0_5, .ref hbd, .ref hle, .ref hgr, .int kc])), (h1, .inr (0, [.ref hs, .ref ha, .ref hb9, .ref hc9, h1_4, h1_5])), (hk9, .inl (chk9, 80, .inl fhk9)), (hs, .inl (chs, 80, .inl fhs)), (ha, .inl (cha, 80, .inl fha)), (hb9, .inl (chb9, 80, .inl fhb9)), (hc9, .inl (chc9, 80, .inl fhc9)), (hbd, .inl (chbd, 12, .inl fhbd)), (hlt, .inl (chlt, 12, .inl fhlt)), (hle, .inl (chle, 12, .inl fhle)), (hgr, .inl (chgr, 12, .inl fhgr))] [(chk9, .boolean), (chs, .int), (cha, .int), (chb9, .int), (chc9, .int), (chbd, .int), (chlt, .int), (chle, .int), (chgr, .int)] sz)) (va_Qv (fun (_ : Unit) => True) (fun (_ : Unit) (t : State) => ∃ (n_h0_clash : Int32), ∃ (g_hle : Nat → Int32), ∃ (g_hgr : Nat → Int32), ((0 : Int) ≤ (n_h0_clash).toInt ∧ (n_h0_clash).toInt ≤ (2 : Int)) ∧ va_P (dC, dI) vwCl [(h0, .inr (4, [.ref h1, .int kn, .int kl, .ref hk9, .ref hlt, h0_5, .ref hbd, .ref hle, .ref hgr, .int n_h0_clash])), (h1, .inr (0, [.ref hs, .ref ha, .ref hb9, .ref hc9, h1_4, h1_5])), (hk9, .inl (chk9, 80, .inl fhk9)), (hs, .inl (chs, 80, .inl fhs)), (ha, .inl (cha, 80, .inl fha)), (hb9, .inl (chb9, 80, .inl fhb9)), (hc9, .inl (chc9, 80, .inl fhc9)), (hbd, .inl (chbd, 12, .inl fhbd)), (hlt, .inl (chlt, 12, .inl fhlt)), (hle, .inl (chle, 12, .inl g_hle)), (hgr, .inl (chgr, 12, .inl g_hgr))] t.heap ∧ va_K (dC, dI) vwCl [] t ∧ va_D (va_A [(h0, .inr (4, [.ref h1, .int kn, .int kl, .ref hk9, .ref hlt, h0_5, .ref hbd, .ref hle, .ref hgr, .int kc])), (h1, .inr (0, [.ref hs, .ref ha, .ref hb9, .ref hc9, h1_4, h1_5])), (hk9, .inl (chk9, 80, .inl fhk9)), (hs, .inl (chs, 80, .inl fhs)), (ha, .inl (cha, 80, .inl fha)), (hb9, .inl (chb9, 80, .inl fhb9)), (hc9, .inl (chc9, 80, .inl fhc9)), (hbd, .inl (chbd, 12, .inl fhbd)), (hlt, .inl (chlt, 12, .inl fhlt)), (hle, .inl (chle, 12, .inl fhle)), (hgr, .inl (chgr, 12, .inl fhgr))] sz) [(h0, .inr (4, [.ref h1, .int kn, .int kl, .ref hk9, .ref hlt, h0_5, .ref hbd, .ref hle, .ref hgr, .int n_h0_clash])), (h1, .inr (0, [.ref hs, .ref ha, .ref hb9, .ref hc9, h1_4, h1_5])), (hk9, .inl (chk9, 80, .inl fhk9)), (hs, .inl (chs, 80, .inl fhs)), (ha, .inl (cha, 80, .inl fha)), (hb9, .inl (chb9, 80, .inl fhb9)), (hc9, .inl (chc9, 80, .inl fhc9)), (hbd, .inl (chbd, 12, .inl fhbd)), (hlt, .inl (chlt, 12, .inl fhlt)), (hle, .inl (chle, 12, .inl g_hle)), (hgr, .inl (chgr, 12, .inl g_hgr))]) (va_A [(h0, .inr (4, [.ref h1, .int kn, .int kl, .ref hk9, .ref hlt, h0_5, .ref hbd, .ref hle, .ref hgr, .int kc])), (h1, .inr (0, [.ref hs, .ref ha, .ref hb9, .ref hc9, h1_4, h1_5])), (hk9, .inl (chk9, 80, .inl fhk9)), (hs, .inl (chs, 80, .inl fhs)), (ha, .inl (cha, 80, .inl fha)), (hb9, .inl (chb9, 80, .inl fhb9)), (hc9, .inl (chc9, 80, .inl fhc9)), (hbd, .inl (chbd, 12, .inl fhbd)), (hlt, .inl (chlt, 12, .inl fhlt)), (hle, .inl (chle, 12, .inl fhle)), (hgr, .inl (chgr, 12, .inl fhgr))] sz)) 0 0 (va_A [(h0, .inr (4, [.ref h1, .int kn, .int kl, .ref hk9, .ref hlt, h0_5, .ref hbd, .ref hle, .ref hgr, .int kc])), (h1, .inr (0, [.ref hs, .ref ha, .ref hb9, .ref hc9, h1_4, h1_5])), (hk9, .inl (chk9, 80, .inl fhk9)), (hs, .inl (chs, 80, .inl fhs)), (ha, .inl (cha, 80, .inl fha)), (hb9, .inl (chb9, 80, .inl fhb9)), (hc9, .inl (chc9, 80, .inl fhc9)), (hbd, .inl (chbd, 12, .inl fhbd)), (hlt, .inl (chlt, 12, .inl fhlt)), (hle, .inl (chle, 12, .inl fhle)), (hgr, .inl (chgr, 12, .inl fhgr))] sz) := by
  refine Met.ofW (cc := cX4_setSpans) (maxL := 3) (ret := none) (by decide) rfl ?_
  intro p e s m args below meth c s₁ B hml hv
  obtain ⟨rfl, hsz, hP, hK, hD0⟩ := hv
  have hx := B.exec
  have hb := B.bytes
  have hr := B.returns
  have hts := atoms_spec (ws := u_s_X4_setSpans) B.pre
  have hown : s.vm.findClass RX4 = some m.cls := findClass_of_methodNamed B.named
  have hlocks := B.notSynchronized
  subst hsz
  have hD := hD0.self (sz := s.heap.size)
  generalize hAe : va_A [(h0, .inr (4, [.ref h1, .int kn, .int kl, .ref hk9, .ref hlt, h0_5, .ref hbd, .ref hle, .ref hgr, .int kc])), (h1, .inr (0, [.ref hs, .ref ha, .ref hb9, .ref hc9, h1_4, h1_5])), (hk9, .inl (chk9, 80, .inl fhk9)), (hs, .inl (chs, 80, .inl fhs)), (ha, .inl (cha, 80, .inl fha)), (hb9, .inl (chb9, 80, .inl fhb9)), (hc9, .inl (chc9, 80, .inl fhc9)), (hbd, .inl (chbd, 12, .inl fhbd)), (hlt, .inl (chlt, 12, .inl fhlt)), (hle, .inl (chle, 12, .inl fhle)), (hgr, .inl (chgr, 12, .inl fhgr))] s.heap.size = A at hD ⊢
  have hA : ∀ q : Nat, s.heap.size ≤ q → A q := fun q h => by rw [← hAe]; exact Or.inr h
  have hS : va_S A s.heap s.heap [] := va_S.rf
  have hP : va_P (dC, dI) vwCl [(h0, .inr (4, [.ref h1, .int kn, .int kl, .ref hk9, .ref hlt, h0_5, .ref hbd, .ref hle, .ref hgr, .int kc])), (h1, .inr (0, [.ref hs, .ref ha, .ref hb9, .ref hc9, h1_4, h1_5])), (hk9, .inl (chk9, 80, .inl fhk9)), (hs, .inl (chs, 80, .inl fhs)), (ha, .inl (cha, 80, .inl fha)), (hb9, .inl (chb9, 80, .inl fhb9)), (hc9, .inl (chc9, 80, .inl fhc9)), (hbd, .inl (chbd, 12, .inl fhbd)), (hlt, .inl (chlt, 12, .inl fhlt)), (hle, .inl (chle, 12, .inl fhle)), (hgr, .inl (chgr, 12, .inl fhgr))] s.heap := hP
  have w__fieldLink_RX4_15_ShellHeap_Known_layersSeen_I_ := hts (.fieldLink RX4 15 "ShellHeap$Known" "layersSeen" "I") (z_mc (z_ml z_m0))
  have hiX4 := show ∀ w ∈ u_ws RX4 TX4 10, w ∈ u_s_X4_setSpans from fun w h => z_mc (z_mr (z_ml h))
  have w__fieldLink_RX4_9_ShellHeap_Known_notesSeen_I_ := hts (.fieldLink RX4 9 "ShellHeap$Known" "notesSeen" "I") (z_mc (z_ml z_m1))
  have w__fieldLink_RX4_32_ShellHeap_Known_least_I_ := hts (.fieldLink RX4 32 "ShellHeap$Known" "least" "[I") (z_mc (z_ml z_m6))
  have w__fieldLink_RX4_35_ShellHeap_Known_greatest_I_ := hts (.fieldLink RX4 35 "ShellHeap$Known" "greatest" "[I") (z_mc (z_ml z_m7))
  have w__fieldLink_RX4_38_ShellHeap_Known_clash_I_ := hts (.fieldLink RX4 38 "ShellHeap$Known" "clash" "I") (z_mc (z_ml z_m8))
  have w__fieldLink_RX4_29_ShellHeap_Known_bedOf_I_ := hts (.fieldLink RX4 29 "ShellHeap$Known" "bedOf" "[I") (z_mc (z_ml z_m12))
  have w__fieldLink_RX4_41_ShellHeap_Known_book_LShellHeap_Book_ := hts (.fieldLink RX4 41 "ShellHeap$Known" "book" "LShellHeap$Book;") (z_mc (z_ml z_m13))
  have w__fieldLink_RX4_76_ShellHeap_Book_a_I_ := hts (.fieldLink RX4 76 "ShellHeap$Book" "a" "[I") (z_mc (z_ml z_m14))
  have hiX0 := show ∀ w ∈ u_ws RX0 TX0 6, w ∈ u_s_X4_setSpans from fun w h => z_mc (z_mr (z_mr (z_ml h)))
  have w__fieldLink_RX4_79_ShellHeap_Book_b_I_ := hts (.fieldLink RX4 79 "ShellHeap$Book" "b" "[I") (z_mc (z_ml z_m15))
  have w__methodLink_RX4_92_Lib_Math_max_name := hts (.methodLink RX4 92 Lib.Math.max.name) (z_mc (z_ml z_m16))
  have w__static_Lib_Math_max_name := hts (.static Lib.Math.max.name) (z_mc (z_ml z_m17))
  have w__initialized_java_lang_Math_ := hts (.initialized "java/lang/Math") (z_mc (z_ml z_m18))
  have w__code_Lib_Math_max_name_Lib_Math_max_code_2_some_int_ := hts (.code Lib.Math.max.name Lib.Math.max.code 2 (some .int)) (z_mc (z_ml z_m19))
  have w__fieldLink_RX4_102_ShellHeap_Book_c_I_ := hts (.fieldLink RX4 102 "ShellHeap$Book" "c" "[I") (z_mc (z_ml z_m20))
  have w__methodLink_RX4_86_Lib_Math_min_name := hts (.methodLink RX4 86 Lib.Math.min.name) (z_mc (z_ml z_m21))
  have w__static_Lib_Math_min_name := hts (.static Lib.Math.min.name) (z_mc (z_ml z_m22))
  have w__code_Lib_Math_min_name_Lib_Math_min_code_2_some_int_ := hts (.code Lib.Math.min.name Lib.Math.min.code 2 (some .int)) (z_mc (z_ml z_m23))
  have hl := lv_entry ([.ref h0]) (n := 3) (Nat.le_of_ble_eq_true rfl)
  rw [lg_entry_eq]
  generalize (lg_sl ([.ref h0]) ++ List.replicate (3 - (lg_sl ([.ref h0])).length) Slot.unset).toArray = ls at hl ⊢
  have hl : lv_has ls 3 [(0, .ref h0)] := hl
  refine z_nameQ (fun QQ hQQ => ?_)
  refine lv_iconst (v := 0) hx hb dX4_setSpans_0 (by decide) ?_
  refine lv_istore_n (lv' := [(1, .int 0), (0, .ref h0)]) hx hb dX4_setSpans_1 rfl hl (by decide) rfl (fun ls hl => ?_)
  have loop_1 : ∀ (n_2 : Nat) (i_4 : Int32) (f_5 : Nat → Int32) (f_6 : Nat → Int32) (H : Heap) (locs : List Loc) (ls : Array Slot), (13 - (i_4).toInt).toNat < n_2 → (((0 : Int) ≤ (i_4).toInt ∧ (i_4).toInt ≤ (12 : Int))) → va_P (dC, dI) vwCl [(h0, .inr (4, [.ref h1, .int kn, .int kl, .ref hk9, .ref hlt, h0_5, .ref hbd, .ref hle, .ref hgr, .int kc])), (h1, .inr (0, [.ref hs, .ref ha, .ref hb9, .ref hc9, h1_4, h1_5])), (hk9, .inl (chk9, 80, .inl fhk9)), (hs, .inl (chs, 80, .inl fhs)), (ha, .inl (cha, 80, .inl fha)), (hb9, .inl (chb9, 80, .inl fhb9)), (hc9, .inl (chc9, 80, .inl fhc9)), (hbd, .inl (chbd, 12, .inl fhbd)), (hlt, .inl (chlt, 12, .inl fhlt)), (hle, .inl (chle, 12, .inl f_5)), (hgr, .inl (chgr, 12, .inl f_6))] H → va_D A [(h0, .inr (4, [.ref h1, .int kn, .int kl, .ref hk9, .ref hlt, h0_5, .ref hbd, .ref hle, .ref hgr, .int kc])), (h1, .inr (0, [.ref hs, .ref ha, .ref hb9, .ref hc9, h1_4, h1_5])), (hk9, .inl (chk9, 80, .inl fhk9)), (hs, .inl (chs, 80, .inl fhs)), (ha, .inl (cha, 80, .inl fha)), (hb9, .inl (chb9, 80, .inl fhb9)), (hc9, .inl (chc9, 80, .inl fhc9)), (hbd, .inl (chbd, 12, .inl fhbd)), (hlt, .inl (chlt, 12, .inl fhlt)), (hle, .inl (chle, 12, .inl f_5)), (hgr, .inl (chgr, 12, .inl f_6))] → va_S A s.heap H locs → lv_has ls 3 [(1, .int i_4), (0, .ref h0)] → W p l e ({ frames := 2, cells := 0, slots := 0, locals := 44 } : Room) s m ([.ref h0] : List Value).toArray below meth c H locs 0 0 QQ (F0 m 2 ls []) := by
    intro n_2
    induction n_2 with
    | zero => intro i_4 f_5 f_6 H locs ls hm; exact absurd hm (Nat.not_lt_zero _)
    | succ n_2 ih_3 =>
      intro i_4 f_5 f_6 H locs ls hm hF_7 hP hD hS hl
      refine lv_iload_n hx hb dX4_setSpans_2 rfl (lv_at hl 0 rfl) ?_
      refine lv_aload_n hx hb dX4_setSpans_3 rfl (lv_at hl 1 rfl) ?_
      refine va_get (D := (dC, dI)) (ci := 4) (v := .int kl) (C := RX4) (T := TX4) (N := 10) hx hb hts hiX4 hown hK hP 0 rfl rfl 2 (by decide) w__fieldLink_RX4_15_ShellHeap_Known_layersSeen_I_ (fun _ h9 => h9) rfl dX4_setSpans_4 ?_
      refine lv_icmp_ge (tgt := 32) hx hb dX4_setSpans_7 (by decide) (fun c_8 => ?_) (fun c_8 => ?_)
      · have k_9 : (kl).toInt ≤ (i_4).toInt := z_le c_8
        refine lv_iconst (v := 0) hx hb dX4_setSpans_32 (by decide) ?_
        refine lv_istore_n (lv' := [(1, .int 0), (0, .ref h0)]) hx hb dX4_setSpans_33 rfl hl (by decide) rfl (fun ls hl => ?_)
        have loop_10 : ∀ (n_11 : Nat) (i_13 : Int32) (f_14 : Nat → Int32) (f_15 : Nat → Int32) (H : Heap) (locs : List Loc) (ls : Array Slot), (81 - (i_13).toInt).toNat < n_11 → (((0 : Int) ≤ (i_13).toInt ∧ (i_13).toInt ≤ (80 : Int))) → va_P (dC, dI) vwCl [(h0, .inr (4, [.ref h1, .int kn, .int kl, .ref hk9, .ref hlt, h0_5, .ref hbd, .ref hle, .ref hgr, .int kc])), (h1, .inr (0, [.ref hs, .ref ha, .ref hb9, .ref hc9, h1_4, h1_5])), (hk9, .inl (chk9, 80, .inl fhk9)), (hs, .inl (chs, 80, .inl fhs)), (ha, .inl (cha, 80, .inl fha)), (hb9, .inl (chb9, 80, .inl fhb9)), (hc9, .inl (chc9, 80, .inl fhc9)), (hbd, .inl (chbd, 12, .inl fhbd)), (hlt, .inl (chlt, 12, .inl fhlt)), (hle, .inl (chle, 12, .inl f_14)), (hgr, .inl (chgr, 12, .inl f_15))] H → va_D A [(h0, .inr (4, [.ref h1, .int kn, .int kl, .ref hk9, .ref hlt, h0_5, .ref hbd, .ref hle, .ref hgr, .int kc])), (h1, .inr (0, [.ref hs, .ref ha, .ref hb9, .ref hc9, h1_4, h1_5])), (hk9, .inl (chk9, 80, .inl fhk9)), (hs, .inl (chs, 80, .inl fhs)), (ha, .inl (cha, 80, .inl fha)), (hb9, .inl (chb9, 80, .inl fhb9)), (hc9, .inl (chc9, 80, .inl fhc9)), (hbd, .inl (chbd, 12, .inl fhbd)), (hlt, .inl (chlt, 12, .inl fhlt)), (hle, .inl (chle, 12, .inl f_14)), (hgr, .inl (chgr, 12, .inl f_15))] → va_S A s.heap H locs → lv_has ls 3 [(1, .int i_13), (0, .ref h0)] → W p l e ({ frames := 2, cells := 0, slots := 0, locals := 44 } : Room) s m ([.ref h0] : List Value).toArray below meth c H locs 0 0 QQ (F0 m 34 ls []) := by
          intro n_11
          induction n_11 with
          | zero => intro i_13 f_14 f_15 H locs ls hm; exact absurd hm (Nat.not_lt_zero _)
          | succ n_11 ih_12 =>
            intro i_13 f_14 f_15 H locs ls hm hF_16 hP hD hS hl
            refine lv_iload_n hx hb dX4_setSpans_34 rfl (lv_at hl 0 rfl) ?_
            refine lv_aload_n hx hb dX4_setSpans_35 rfl (lv_at hl 1 rfl) ?_
            refine va_get (D := (dC, dI)) (ci := 4) (v := .int kn) (C := RX4) (T := TX4) (N := 10) hx hb hts hiX4 hown hK hP 0 rfl rfl 1 (by decide) w__fieldLink_RX4_9_ShellHeap_Known_notesSeen_I_ (fun _ h9 => h9) rfl dX4_setSpans_36 ?_
            refine lv_icmp_ge (tgt := 120) hx hb dX4_setSpans_39 (by decide) (fun c_17 => ?_) (fun c_17 => ?_)
            · have k_18 : (kn).toInt ≤ (i_13).toInt := z_le c_17
              refine lv_aload_n hx hb dX4_setSpans_120 rfl (lv_at hl 1 rfl) ?_
              obtain ⟨hPc, hDc, hFc⟩ := z_sub3 (ws' := [(h0, .inr (4, [.ref h1, .int kn, .int kl, .ref hk9, .ref hlt, h0_5, .ref hbd, .ref hle, .ref hgr, .int kc])), (hlt, .inl (chlt, 12, .inl fhlt)), (hle, .inl (chle, 12, .inl f_14)), (hgr, .inl (chgr, 12, .inl f_15))]) hP hD hS hA [0, 8, 9, 10] (by decide) rfl
              have hKc := hK.sub (tys' := [(chlt, .int), (chle, .int), (chgr, .int)]) [6, 7, 8] rfl
              refine va_callv (va_runV (As := []) (rest := []) ⟨hx, hb, hml, hown, hts⟩ (s_X4_leadYears l dC dI H.size h0 (.ref h1) (.int kn) kl (.ref hk9) hlt h0_5 (.ref hbd) hle hgr (.int kc) chlt fhlt chle f_14 chgr f_15 hB_kl) (cwV 0 hts gw_s_X4_setSpans_s_X4_leadYears_105 rfl rfl rfl (by decide +kernel) ⟨Nat.le_of_ble_eq_true rfl, Nat.le_of_ble_eq_true rfl⟩) ⟨z_blind, va_recv hKc hPc (ci := 4) (q0 := 0) rfl rfl, z_pre hPc hKc hDc⟩ rfl rfl hl.1 rfl (lv_room (Nat.le_of_ble_eq_true rfl)) dX4_setSpans_121 ⟨Nat.le_of_ble_eq_true rfl, Nat.le_of_ble_eq_true rfl⟩) hS (fun q _ h => hFc q h) hFc (fun u t H_19 locs ht hvm hw_21 hB hz1 hk1 hS => ?_)
              obtain ⟨g_h2_22, g_h3_23, hP1, hK1, hD1⟩ := hB
              rw [ht] at hP1
              have hK1 := va_K.moved hvm.symm hK1
              obtain ⟨hP, hD⟩ := z_ap_7 (va_join (wr := [(h1, .inr (0, [.ref hs, .ref ha, .ref hb9, .ref hc9, h1_4, h1_5])), (hk9, .inl (chk9, 80, .inl fhk9)), (hs, .inl (chs, 80, .inl fhs)), (ha, .inl (cha, 80, .inl fha)), (hb9, .inl (chb9, 80, .inl fhb9)), (hc9, .inl (chc9, 80, .inl fhc9)), (hbd, .inl (chbd, 12, .inl fhbd))]) hP hD [0, 8, 9, 10] [1, 2, 3, 4, 5, 6, 7] rfl rfl (by decide) (by decide) hk1 hFc hP1 hD1)
              clear hPc hDc hKc
              refine lv_iconst (v := 0) hx hb dX4_setSpans_124 (by decide) ?_
              refine lv_istore_n (lv' := [(1, .int 0), (0, .ref h0)]) hx hb dX4_setSpans_125 rfl hl (by decide) rfl (fun ls hl => ?_)
              have loop_24 : ∀ (n_25 : Nat) (i_27 : Int32) (v_28 : Int32) (H : Heap) (locs : List Loc) (ls : Array Slot), (13 - (i_27).toInt).toNat < n_25 → (((0 : Int) ≤ (i_27).toInt ∧ (i_27).toInt ≤ (12 : Int))) → (((0 : Int) ≤ (v_28).toInt ∧ (v_28).toInt ≤ (2 : Int))) → va_P (dC, dI) vwCl [(h1, .inr (0, [.ref hs, .ref ha, .ref hb9, .ref hc9, h1_4, h1_5])), (hk9, .inl (chk9, 80, .inl fhk9)), (hs, .inl (chs, 80, .inl fhs)), (ha, .inl (cha, 80, .inl fha)), (hb9, .inl (chb9, 80, .inl fhb9)), (hc9, .inl (chc9, 80, .inl fhc9)), (hbd, .inl (chbd, 12, .inl fhbd)), (h0, .inr (4, [.ref h1, .int kn, .int kl, .ref hk9, .ref hlt, h0_5, .ref hbd, .ref hle, .ref hgr, .int v_28])), (hlt, .inl (chlt, 12, .inl fhlt)), (hle, .inl (chle, 12, .inl g_h2_22)), (hgr, .inl (chgr, 12, .inl g_h3_23))] H → va_D A [(h1, .inr (0, [.ref hs, .ref ha, .ref hb9, .ref hc9, h1_4, h1_5])), (hk9, .inl (chk9, 80, .inl fhk9)), (hs, .inl (chs, 80, .inl fhs)), (ha, .inl (cha, 80, .inl fha)), (hb9, .inl (chb9, 80, .inl fhb9)), (hc9, .inl (chc9, 80, .inl fhc9)), (hbd, .inl (chbd, 12, .inl fhbd)), (h0, .inr (4, [.ref h1, .int kn, .int kl, .ref hk9, .ref hlt, h0_5, .ref hbd, .ref hle, .ref hgr, .int v_28])), (hlt, .inl (chlt, 12, .inl fhlt)), (hle, .inl (chle, 12, .inl g_h2_22)), (hgr, .inl (chgr, 12, .inl g_h3_23))] → va_S A s.heap H locs → lv_has ls 3 [(1, .int i_27), (0, .ref h0)] → W p l e ({ frames := 2, cells := 0, slots := 0, locals := 44 } : Room) s m ([.ref h0] : List Value).toArray below meth c H locs 0 0 QQ (F0 m 126 ls []) := by
                intro n_25
                induction n_25 with
                | zero => intro i_27 v_28 H locs ls hm; exact absurd hm (Nat.not_lt_zero _)
                | succ n_25 ih_26 =>
                  intro i_27 v_28 H locs ls hm hF_29 hF_30 hP hD hS hl
                  refine lv_iload_n hx hb dX4_setSpans_126 rfl (lv_at hl 0 rfl) ?_
                  refine lv_aload_n hx hb dX4_setSpans_127 rfl (lv_at hl 1 rfl) ?_
                  refine va_get (D := (dC, dI)) (ci := 4) (v := .int kl) (C := RX4) (T := TX4) (N := 10) hx hb hts hiX4 hown hK hP 7 rfl rfl 2 (by decide) w__fieldLink_RX4_15_ShellHeap_Known_layersSeen_I_ (fun _ h9 => h9) rfl dX4_setSpans_128 ?_
                  refine lv_icmp_ge (tgt := 160) hx hb dX4_setSpans_131 (by decide) (fun c_31 => ?_) (fun c_31 => ?_)
                  · have k_32 : (kl).toInt ≤ (i_27).toInt := z_le c_31
                    refine z_backQ hQQ ?_
                    obtain ⟨hP9, hD9⟩ := z_sub2 (ws' := [(h0, .inr (4, [.ref h1, .int kn, .int kl, .ref hk9, .ref hlt, h0_5, .ref hbd, .ref hle, .ref hgr, .int v_28])), (h1, .inr (0, [.ref hs, .ref ha, .ref hb9, .ref hc9, h1_4, h1_5])), (hk9, .inl (chk9, 80, .inl fhk9)), (hs, .inl (chs, 80, .inl fhs)), (ha, .inl (cha, 80, .inl fha)), (hb9, .inl (chb9, 80, .inl fhb9)), (hc9, .inl (chc9, 80, .inl fhc9)), (hbd, .inl (chbd, 12, .inl fhbd)), (hlt, .inl (chlt, 12, .inl fhlt)), (hle, .inl (chle, 12, .inl g_h2_22)), (hgr, .inl (chgr, 12, .inl g_h3_23))]) hP hD [7, 0, 1, 2, 3, 4, 5, 6, 8, 9, 10] (by decide) rfl
                    have hK9 := hK.sub (tys' := []) [] rfl
                    refine W.widen (k := 0) (n := 0) (Nat.le_of_ble_eq_true rfl) (Nat.le_of_ble_eq_true rfl) ?_
                    exact W.vret hx hb hr (fun t ht hW => ⟨⟨(), rfl, trivial, ⟨v_28, g_h2_22, g_h3_23, hF_30, by rw [ht]; exact hP9, va_K.moved hW.alike hK9, hD9⟩⟩, hS.F ht⟩) hS.2.2 dX4_setSpans_160
                  · have k_33 : (kl).toInt > (i_27).toInt := z_nle c_31
                    refine lv_aload_n hx hb dX4_setSpans_134 rfl (lv_at hl 1 rfl) ?_
                    refine va_get (D := (dC, dI)) (ci := 4) (v := .ref hle) (C := RX4) (T := TX4) (N := 10) hx hb hts hiX4 hown hK hP 7 rfl rfl 7 (by decide) w__fieldLink_RX4_32_ShellHeap_Known_least_I_ (fun _ h9 => h9) rfl dX4_setSpans_135 ?_
                    refine lv_iload_n hx hb dX4_setSpans_138 rfl (lv_at hl 0 rfl) ?_
                    refine va_iald hx hb hK hP 9 7 rfl rfl (z_vpin (by omega) (by omega)) dX4_setSpans_139 ?_
                    refine lv_topi (fun z_34 ez_34 => ?_)
                    refine lv_aload_n hx hb dX4_setSpans_140 rfl (lv_at hl 1 rfl) ?_
                    refine va_get (D := (dC, dI)) (ci := 4) (v := .ref hgr) (C := RX4) (T := TX4) (N := 10) hx hb hts hiX4 hown hK hP 7 rfl rfl 8 (by decide) w__fieldLink_RX4_35_ShellHeap_Known_greatest_I_ (fun _ h9 => h9) rfl dX4_setSpans_141 ?_
                    refine lv_iload_n hx hb dX4_setSpans_144 rfl (lv_at hl 0 rfl) ?_
                    refine va_iald hx hb hK hP 10 8 rfl rfl (z_vpin (by omega) (by omega)) dX4_setSpans_145 ?_
                    refine lv_topi (fun z_35 ez_35 => ?_)
                    refine lv_icmp_le (tgt := 154) hx hb dX4_setSpans_146 (by decide) (fun c_36 => ?_) (fun c_36 => ?_)
                    · have k_37 : (z_34).toInt ≤ (z_35).toInt := z_le c_36
                      obtain ⟨z_38, ez_38⟩ : ∃ y : Int32, y = i_27 + 1 := ⟨_, rfl⟩
                      have kz_38 : (z_38).toInt = (i_27).toInt + (1 : Int) := by rw [ez_38]; exact z_add (b := 1) rfl rfl (z_al hF_29.1 (by decide)) (z_ah hF_29.2 (by decide))
                      refine lv_iinc (v := z_38) (lv' := [(1, .int z_38), (0, .ref h0)]) hx hb dX4_setSpans_154 hl (k := 0) rfl (by rw [ez_38]; rfl) (by decide) rfl (fun ls hl => ?_)
                      refine lv_goto (tgt := 126) hx hb dX4_setSpans_157 (by decide) ?_
                      exact ih_26 z_38 v_28 _ _ _ (show (13 - (z_38).toInt).toNat < n_25 by omega) (show ((0 : Int) ≤ (z_38).toInt ∧ (z_38).toInt ≤ (12 : Int)) by omega) (show ((0 : Int) ≤ (v_28).toInt ∧ (v_28).toInt ≤ (2 : Int)) by omega) hP hD hS (lv_sub hl [0, 1] rfl)
                    · have k_39 : (z_34).toInt > (z_35).toInt := z_nle c_36
                      refine lv_aload_n hx hb dX4_setSpans_149 rfl (lv_at hl 1 rfl) ?_
                      refine lv_iconst (v := 2) hx hb dX4_setSpans_150 (by decide) ?_
                      refine va_put (D := (dC, dI)) (ci := 4) (v := .int 2) (ty := .int) (C := RX4) (T := TX4) (N := 10) hx hb hts hiX4 tyX4 tyX4_ok nmX4 hown hK hP hD hS 7 rfl rfl 9 (by decide) w__fieldLink_RX4_38_ShellHeap_Known_clash_I_ (fun _ h9 => h9) rfl (by decide +kernel) rfl rfl (Nat.le_of_ble_eq_true rfl) dX4_setSpans_151 (fun H_40 locs hP hD hS => ?_)
                      obtain ⟨hP, hD⟩ := z_s_7_9 hP hD
                      obtain ⟨z_41, ez_41⟩ : ∃ y : Int32, y = i_27 + 1 := ⟨_, rfl⟩
                      have kz_41 : (z_41).toInt = (i_27).toInt + (1 : Int) := by rw [ez_41]; exact z_add (b := 1) rfl rfl (z_al hF_29.1 (by decide)) (z_ah hF_29.2 (by decide))
                      refine lv_iinc (v := z_41) (lv' := [(1, .int z_41), (0, .ref h0)]) hx hb dX4_setSpans_154 hl (k := 0) rfl (by rw [ez_41]; rfl) (by decide) rfl (fun ls hl => ?_)
                      refine lv_goto (tgt := 126) hx hb dX4_setSpans_157 (by decide) ?_
                      exact ih_26 z_41 2 _ _ _ (show (13 - (z_41).toInt).toNat < n_25 by omega) (show ((0 : Int) ≤ (z_41).toInt ∧ (z_41).toInt ≤ (12 : Int)) by omega) (show ((0 : Int) ≤ (2 : Int) ∧ (2 : Int) ≤ (2 : Int)) by omega) hP hD hS (lv_sub hl [0, 1] rfl)
              exact loop_24 _ 0 kc _ _ _ (Nat.lt_succ_self _) (show ((0 : Int) ≤ (0 : Int) ∧ (0 : Int) ≤ (12 : Int)) by omega) (show ((0 : Int) ≤ (kc).toInt ∧ (kc).toInt ≤ (2 : Int)) by omega) hP hD hS hl
            · have k_42 : (kn).toInt > (i_13).toInt := z_nle c_17
              refine lv_aload_n hx hb dX4_setSpans_42 rfl (lv_at hl 1 rfl) ?_
              refine lv_iload_n hx hb dX4_setSpans_43 rfl (lv_at hl 0 rfl) ?_
              refine lv_iconst (v := 3) hx hb dX4_setSpans_44 (by decide) ?_
              obtain ⟨hPc, hDc⟩ := z_sub2 (ws' := [(h0, .inr (4, [.ref h1, .int kn, .int kl, .ref hk9, .ref hlt, h0_5, .ref hbd, .ref hle, .ref hgr, .int kc])), (h1, .inr (0, [.ref hs, .ref ha, .ref hb9, .ref hc9, h1_4, h1_5])), (hk9, .inl (chk9, 80, .inl fhk9)), (hs, .inl (chs, 80, .inl fhs))]) hP hD [0, 1, 2, 3] (by decide) rfl
              have hKc := hK.sub (tys' := [(chk9, .boolean), (chs, .int)]) [0, 1] rfl
              have hFc := va_free (ws := []) (wc := []) (z_D0 _) hS hA [] rfl
              refine va_calli (va_runV (As := [.int i_13, .int 3]) (rest := []) ⟨hx, hb, hml, hown, hts⟩ (s_X4_counts l dC dI H.size h0 i_13 3 h1 kn (.int kl) hk9 (.ref hlt) h0_5 (.ref hbd) (.ref hle) (.ref hgr) (.int kc) hs (.ref ha) (.ref hb9) (.ref hc9) h1_4 h1_5 chk9 fhk9 chs fhs hB_kn (by first | omega | decide)) (cwV 2 hts gw_s_X4_setSpans_s_X4_counts_72 rfl rfl rfl (by decide +kernel) ⟨Nat.le_of_ble_eq_true rfl, Nat.le_of_ble_eq_true rfl⟩) ⟨z_blind, va_recv hKc hPc (ci := 4) (q0 := 0) rfl rfl, z_pre hPc hKc hDc⟩ rfl rfl hl.1 rfl (lv_room (Nat.le_of_ble_eq_true rfl)) dX4_setSpans_45 ⟨Nat.le_of_ble_eq_true rfl, Nat.le_of_ble_eq_true rfl⟩) hS (fun q _ h => hFc q h) hFc (fun r_44 u t H_43 locs ht hvm hw_45 hB hz1 hk1 hS => ?_)
              replace hP := z_pure hP hk1
              clear hPc hDc hKc
              rcases hw_45 with ⟨rfl, hw_45⟩ | ⟨rfl, hw_45⟩
              · have hw_45 : (i_13.toInt < kn.toInt ∧ fhs i_13.toNatClampNeg = 3) := hw_45
                refine lv_if_eq (tgt := 114) hx hb dX4_setSpans_48 (by decide) (fun c_46 => absurd c_46 (by decide)) (fun _ => ?_)
                refine lv_aload_n hx hb dX4_setSpans_51 rfl (lv_at hl 1 rfl) ?_
                refine va_get (D := (dC, dI)) (ci := 4) (v := .ref hbd) (C := RX4) (T := TX4) (N := 10) hx hb hts hiX4 hown hK hP 0 rfl rfl 6 (by decide) w__fieldLink_RX4_29_ShellHeap_Known_bedOf_I_ (fun _ h9 => h9) rfl dX4_setSpans_52 ?_
                refine lv_aload_n hx hb dX4_setSpans_55 rfl (lv_at hl 1 rfl) ?_
                refine va_get (D := (dC, dI)) (ci := 4) (v := .ref h1) (C := RX4) (T := TX4) (N := 10) hx hb hts hiX4 hown hK hP 0 rfl rfl 0 (by decide) w__fieldLink_RX4_41_ShellHeap_Known_book_LShellHeap_Book_ (fun _ h9 => h9) rfl dX4_setSpans_56 ?_
                refine va_get (D := (dC, dI)) (ci := 0) (v := .ref ha) (C := RX0) (T := TX0) (N := 6) hx hb hts hiX0 hown hK hP 1 rfl rfl 1 (by decide) w__fieldLink_RX4_76_ShellHeap_Book_a_I_ (fun _ h9 => h9) rfl dX4_setSpans_59 ?_
                refine lv_iload_n hx hb dX4_setSpans_62 rfl (lv_at hl 0 rfl) ?_
                refine va_iald hx hb hK hP 4 2 rfl rfl (z_vpin (by omega) (by omega)) dX4_setSpans_63 ?_
                refine lv_topi (fun z_47 ez_47 => ?_)
                have kz_47 : ((0 : Int) ≤ (z_47).toInt ∧ (z_47).toInt ≤ (79 : Int)) := by rw [ez_47]; exact hI_ha _
                have krz_47 : (z_47).toInt ≤ (11 : Int) := by rw [ez_47]; exact (hR _).2.1 (by rw [hw_45.2]; decide)
                refine va_iald hx hb hK hP 7 5 rfl rfl (z_vpin (by omega) (by omega)) dX4_setSpans_64 ?_
                refine lv_topi (fun z_48 ez_48 => ?_)
                have kz_48 : ((0 : Int) ≤ (z_48).toInt ∧ (z_48).toInt ≤ (11 : Int)) := by rw [ez_48]; exact hI_hbd _
                refine lv_istore_n (lv' := [(2, .int z_48), (1, .int i_13), (0, .ref h0)]) hx hb dX4_setSpans_65 rfl hl (by decide) rfl (fun ls hl => ?_)
                refine lv_aload_n hx hb dX4_setSpans_66 rfl (lv_at hl 2 rfl) ?_
                refine va_get (D := (dC, dI)) (ci := 4) (v := .ref hle) (C := RX4) (T := TX4) (N := 10) hx hb hts hiX4 hown hK hP 0 rfl rfl 7 (by decide) w__fieldLink_RX4_32_ShellHeap_Known_least_I_ (fun _ h9 => h9) rfl dX4_setSpans_67 ?_
                refine lv_iload_n hx hb dX4_setSpans_70 rfl (lv_at hl 0 rfl) ?_
                refine lv_aload_n hx hb dX4_setSpans_71 rfl (lv_at hl 2 rfl) ?_
                refine va_get (D := (dC, dI)) (ci := 4) (v := .ref hle) (C := RX4) (T := TX4) (N := 10) hx hb hts hiX4 hown hK hP 0 rfl rfl 7 (by decide) w__fieldLink_RX4_32_ShellHeap_Known_least_I_ (fun _ h9 => h9) rfl dX4_setSpans_72 ?_
                refine lv_iload_n hx hb dX4_setSpans_75 rfl (lv_at hl 0 rfl) ?_
                refine va_iald hx hb hK hP 9 7 rfl rfl (z_vpinB kz_48 (by decide) (by decide)) dX4_setSpans_76 ?_
                refine lv_topi (fun z_49 ez_49 => ?_)
                refine lv_aload_n hx hb dX4_setSpans_77 rfl (lv_at hl 2 rfl) ?_
                refine va_get (D := (dC, dI)) (ci := 4) (v := .ref h1) (C := RX4) (T := TX4) (N := 10) hx hb hts hiX4 hown hK hP 0 rfl rfl 0 (by decide) w__fieldLink_RX4_41_ShellHeap_Known_book_LShellHeap_Book_ (fun _ h9 => h9) rfl dX4_setSpans_78 ?_
                refine va_get (D := (dC, dI)) (ci := 0) (v := .ref hb9) (C := RX0) (T := TX0) (N := 6) hx hb hts hiX0 hown hK hP 1 rfl rfl 2 (by decide) w__fieldLink_RX4_79_ShellHeap_Book_b_I_ (fun _ h9 => h9) rfl dX4_setSpans_81 ?_
                refine lv_iload_n hx hb dX4_setSpans_84 rfl (lv_at hl 1 rfl) ?_
                refine va_iald hx hb hK hP 5 3 rfl rfl (z_vpin (by omega) (by omega)) dX4_setSpans_85 ?_
                refine lv_topi (fun z_50 ez_50 => ?_)
                refine va_mmax hx hb (hml.trans hl.1.symm) hown w__methodLink_RX4_92_Lib_Math_max_name w__static_Lib_Math_max_name w__initialized_java_lang_Math_ w__code_Lib_Math_max_name_Lib_Math_max_code_2_some_int_ (Nat.le_of_ble_eq_true rfl) (Nat.le_of_ble_eq_true rfl) (Nat.le_of_ble_eq_true rfl) (Nat.le_of_ble_eq_true rfl) dX4_setSpans_86 ?_
                refine lv_topi (fun z_51 ez_51 => ?_)
                have kz_51 : ((z_51).toInt = (z_49).toInt ∨ (z_51).toInt = (z_50).toInt) ∧ (z_51).toInt ≥ (z_49).toInt ∧ (z_51).toInt ≥ (z_50).toInt := z_max ez_51
                refine va_iast hx hb hK hP hD hS 9 7 rfl rfl (z_vpinB kz_48 (by decide) (by decide)) dX4_setSpans_89 (fun H_52 locs hP hD hS => ?_)
                obtain ⟨hP, hD⟩ := z_s_9 hP hD
                generalize (upd f_14 (z_48 : Int32).toNatClampNeg z_51) = f_53 at hP hD
                refine lv_aload_n hx hb dX4_setSpans_90 rfl (lv_at hl 2 rfl) ?_
                refine va_get (D := (dC, dI)) (ci := 4) (v := .ref hgr) (C := RX4) (T := TX4) (N := 10) hx hb hts hiX4 hown hK hP 0 rfl rfl 8 (by decide) w__fieldLink_RX4_35_ShellHeap_Known_greatest_I_ (fun _ h9 => h9) rfl dX4_setSpans_91 ?_
                refine lv_iload_n hx hb dX4_setSpans_94 rfl (lv_at hl 0 rfl) ?_
                refine lv_aload_n hx hb dX4_setSpans_95 rfl (lv_at hl 2 rfl) ?_
                refine va_get (D := (dC, dI)) (ci := 4) (v := .ref hgr) (C := RX4) (T := TX4) (N := 10) hx hb hts hiX4 hown hK hP 0 rfl rfl 8 (by decide) w__fieldLink_RX4_35_ShellHeap_Known_greatest_I_ (fun _ h9 => h9) rfl dX4_setSpans_96 ?_
                refine lv_iload_n hx hb dX4_setSpans_99 rfl (lv_at hl 0 rfl) ?_
                refine va_iald hx hb hK hP 10 8 rfl rfl (z_vpinB kz_48 (by decide) (by decide)) dX4_setSpans_100 ?_
                refine lv_topi (fun z_54 ez_54 => ?_)
                refine lv_aload_n hx hb dX4_setSpans_101 rfl (lv_at hl 2 rfl) ?_
                refine va_get (D := (dC, dI)) (ci := 4) (v := .ref h1) (C := RX4) (T := TX4) (N := 10) hx hb hts hiX4 hown hK hP 0 rfl rfl 0 (by decide) w__fieldLink_RX4_41_ShellHeap_Known_book_LShellHeap_Book_ (fun _ h9 => h9) rfl dX4_setSpans_102 ?_
                refine va_get (D := (dC, dI)) (ci := 0) (v := .ref hc9) (C := RX0) (T := TX0) (N := 6) hx hb hts hiX0 hown hK hP 1 rfl rfl 3 (by decide) w__fieldLink_RX4_102_ShellHeap_Book_c_I_ (fun _ h9 => h9) rfl dX4_setSpans_105 ?_
                refine lv_iload_n hx hb dX4_setSpans_108 rfl (lv_at hl 1 rfl) ?_
                refine va_iald hx hb hK hP 6 4 rfl rfl (z_vpin (by omega) (by omega)) dX4_setSpans_109 ?_
                refine lv_topi (fun z_55 ez_55 => ?_)
                refine va_mmin hx hb (hml.trans hl.1.symm) hown w__methodLink_RX4_86_Lib_Math_min_name w__static_Lib_Math_min_name w__initialized_java_lang_Math_ w__code_Lib_Math_min_name_Lib_Math_min_code_2_some_int_ (Nat.le_of_ble_eq_true rfl) (Nat.le_of_ble_eq_true rfl) (Nat.le_of_ble_eq_true rfl) (Nat.le_of_ble_eq_true rfl) dX4_setSpans_110 ?_
                refine lv_topi (fun z_56 ez_56 => ?_)
                have kz_56 : ((z_56).toInt = (z_54).toInt ∨ (z_56).toInt = (z_55).toInt) ∧ (z_56).toInt ≤ (z_54).toInt ∧ (z_56).toInt ≤ (z_55).toInt := z_min ez_56
                refine va_iast hx hb hK hP hD hS 10 8 rfl rfl (z_vpinB kz_48 (by decide) (by decide)) dX4_setSpans_113 (fun H_57 locs hP hD hS => ?_)
                obtain ⟨hP, hD⟩ := z_s_10 hP hD
                generalize (upd f_15 (z_48 : Int32).toNatClampNeg z_56) = f_58 at hP hD
                obtain ⟨z_59, ez_59⟩ : ∃ y : Int32, y = i_13 + 1 := ⟨_, rfl⟩
                have kz_59 : (z_59).toInt = (i_13).toInt + (1 : Int) := by rw [ez_59]; exact z_add (b := 1) rfl rfl (z_al hF_16.1 (by decide)) (z_ah hF_16.2 (by decide))
                refine lv_iinc (v := z_59) (lv' := [(1, .int z_59), (2, .int z_48), (0, .ref h0)]) hx hb dX4_setSpans_114 hl (k := 1) rfl (by rw [ez_59]; rfl) (by decide) rfl (fun ls hl => ?_)
                refine lv_goto (tgt := 34) hx hb dX4_setSpans_117 (by decide) ?_
                exact ih_12 z_59 f_53 f_58 _ _ _ (show (81 - (z_59).toInt).toNat < n_11 by omega) (show ((0 : Int) ≤ (z_59).toInt ∧ (z_59).toInt ≤ (80 : Int)) by omega) hP hD hS (lv_sub hl [0, 2] rfl)
              · have hw_45 : True := hw_45
                refine lv_if_eq (tgt := 114) hx hb dX4_setSpans_48 (by decide) (fun _ => ?_) (fun c_60 => absurd (by decide) c_60)
                obtain ⟨z_61, ez_61⟩ : ∃ y : Int32, y = i_13 + 1 := ⟨_, rfl⟩
                have kz_61 : (z_61).toInt = (i_13).toInt + (1 : Int) := by rw [ez_61]; exact z_add (b := 1) rfl rfl (z_al hF_16.1 (by decide)) (z_ah hF_16.2 (by decide))
                refine lv_iinc (v := z_61) (lv' := [(1, .int z_61), (0, .ref h0)]) hx hb dX4_setSpans_114 hl (k := 0) rfl (by rw [ez_61]; rfl) (by decide) rfl (fun ls hl => ?_)
                refine lv_goto (tgt := 34) hx hb dX4_setSpans_117 (by decide) ?_
                exact ih_12 z_61 f_14 f_15 _ _ _ (show (81 - (z_61).toInt).toNat < n_11 by omega) (show ((0 : Int) ≤ (z_61).toInt ∧ (z_61).toInt ≤ (80 : Int)) by omega) hP hD hS (lv_sub hl [0, 1] rfl)
        exact loop_10 _ 0 f_5 f_6 _ _ _ (Nat.lt_succ_self _) (show ((0 : Int) ≤ (0 : Int) ∧ (0 : Int) ≤ (80 : Int)) by omega) hP hD hS hl
      · have k_62 : (kl).toInt > (i_4).toInt := z_nle c_8
        refine lv_aload_n hx hb dX4_setSpans_10 rfl (lv_at hl 1 rfl) ?_
        refine va_get (D := (dC, dI)) (ci := 4) (v := .ref hle) (C := RX4) (T := TX4) (N := 10) hx hb hts hiX4 hown hK hP 0 rfl rfl 7 (by decide) w__fieldLink_RX4_32_ShellHeap_Known_least_I_ (fun _ h9 => h9) rfl dX4_setSpans_11 ?_
        refine lv_iload_n hx hb dX4_setSpans_14 rfl (lv_at hl 0 rfl) ?_
        refine lv_iconst (v := 0) hx hb dX4_setSpans_15 (by decide) ?_
        refine va_iast hx hb hK hP hD hS 9 7 rfl rfl (z_vpin (by omega) (by omega)) dX4_setSpans_16 (fun H_63 locs hP hD hS => ?_)
        obtain ⟨hP, hD⟩ := z_s_9 hP hD
        generalize (upd f_5 (i_4 : Int32).toNatClampNeg 0) = f_64 at hP hD
        refine lv_aload_n hx hb dX4_setSpans_17 rfl (lv_at hl 1 rfl) ?_
        refine va_get (D := (dC, dI)) (ci := 4) (v := .ref hgr) (C := RX4) (T := TX4) (N := 10) hx hb hts hiX4 hown hK hP 0 rfl rfl 8 (by decide) w__fieldLink_RX4_35_ShellHeap_Known_greatest_I_ (fun _ h9 => h9) rfl dX4_setSpans_18 ?_
        refine lv_iload_n hx hb dX4_setSpans_21 rfl (lv_at hl 0 rfl) ?_
        refine lv_sipush (v := 9999) hx hb dX4_setSpans_22 (by decide) ?_
        refine va_iast hx hb hK hP hD hS 10 8 rfl rfl (z_vpin (by omega) (by omega)) dX4_setSpans_25 (fun H_65 locs hP hD hS => ?_)
        obtain ⟨hP, hD⟩ := z_s_10 hP hD
        generalize (upd f_6 (i_4 : Int32).toNatClampNeg 9999) = f_66 at hP hD
        obtain ⟨z_67, ez_67⟩ : ∃ y : Int32, y = i_4 + 1 := ⟨_, rfl⟩
        have kz_67 : (z_67).toInt = (i_4).toInt + (1 : Int) := by rw [ez_67]; exact z_add (b := 1) rfl rfl (z_al hF_7.1 (by decide)) (z_ah hF_7.2 (by decide))
        refine lv_iinc (v := z_67) (lv' := [(1, .int z_67), (0, .ref h0)]) hx hb dX4_setSpans_26 hl (k := 0) rfl (by rw [ez_67]; rfl) (by decide) rfl (fun ls hl => ?_)
        refine lv_goto (tgt := 2) hx hb dX4_setSpans_29 (by decide) ?_
        exact ih_3 z_67 f_64 f_66 _ _ _ (show (13 - (z_67).toInt).toNat < n_2 by omega) (show ((0 : Int) ≤ (z_67).toInt ∧ (z_67).toInt ≤ (12 : Int)) by omega) hP hD hS (lv_sub hl [0, 1] rfl)
  exact loop_1 _ 0 fhle fhgr _ _ _ (Nat.lt_succ_self _) (show ((0 : Int) ≤ (0 : Int) ∧ (0 : Int) ≤ (12 : Int)) by omega) hP hD hS hl
def u_s_X4_look : List Cond := .code yX4_look cX4_look 2 none :: ([.fieldLink RX4 9 "ShellHeap$Known" "notesSeen" "I", .fieldLink RX4 41 "ShellHeap$Known" "book" "LShellHeap$Book;", .fieldLink RX4 45 "ShellHeap$Book" "layers" "I", .fieldLink RX4 15 "ShellHeap$Known" "layersSeen" "I", .methodLink RX4 50 yX4_findStruck, .instanceMethod yX4_findStruck, .selects RX4 yX4_findStruck yX4_findStruck, .initialized RX4, .methodLink RX4 53 yX4_joinBeds, .instanceMethod yX4_joinBeds, .selects RX4 yX4_joinBeds yX4_joinBeds, .methodLink RX4 56 yX4_findLater, .instanceMethod yX4_findLater, .selects RX4 yX4_findLater yX4_findLater, .methodLink RX4 59 yX4_hasRing, .instanceMethod yX4_hasRing, .selects RX4 yX4_hasRing yX4_hasRing, .fieldLink RX4 38 "ShellHeap$Known" "clash" "I", .methodLink RX4 63 yX4_setRanks, .instanceMethod yX4_setRanks, .selects RX4 yX4_setRanks yX4_setRanks, .methodLink RX4 66 yX4_setSpans, .instanceMethod yX4_setSpans, .selects RX4 yX4_setSpans yX4_setSpans] ++ (wsX40 ++ (wsX00 ++ (u_s_X4_findStruck ++ (u_s_X4_joinBeds ++ (u_s_X4_findLater ++ (u_s_X4_hasRing ++ (u_s_X4_setRanks ++ (u_s_X4_setSpans ++ [])))))))))
theorem gd_s_X4_look : z_gd u_s_X4_look := z_gdc (by decide +kernel) (z_gda gdX4 (z_gda gdX0 (z_gda gd_s_X4_findStruck (z_gda gd_s_X4_joinBeds (z_gda gd_s_X4_findLater (z_gda gd_s_X4_hasRing (z_gda gd_s_X4_setRanks (z_gda gd_s_X4_setSpans (z_gd0)))))))))
set_option maxRecDepth 20000 in
theorem gw_s_X4_look_s_X4_findStruck_50 : GoodIn u_s_X4_look (wsV RX4 50 RX4 yX4_findStruck u_s_X4_findStruck) := z_gV (z_gr _ [5, 6, 7, 8] rfl (by decide +kernel)) (fun w h => ⟨z_mc (z_mr (z_mr (z_mr (z_ml h)))), gd_s_X4_findStruck w h⟩)
set_option maxRecDepth 20000 in
theorem gw_s_X4_look_s_X4_joinBeds_53 : GoodIn u_s_X4_look (wsV RX4 53 RX4 yX4_joinBeds u_s_X4_joinBeds) := z_gV (z_gr _ [9, 10, 11, 8] rfl (by decide +kernel)) (fun w h => ⟨z_mc (z_mr (z_mr (z_mr (z_mr (z_ml h))))), gd_s_X4_joinBeds w h⟩)
set_option maxRecDepth 20000 in
theorem gw_s_X4_look_s_X4_findLater_56 : GoodIn u_s_X4_look (wsV RX4 56 RX4 yX4_findLater u_s_X4_findLater) := z_gV (z_gr _ [12, 13, 14, 8] rfl (by decide +kernel)) (fun w h => ⟨z_mc (z_mr (z_mr (z_mr (z_mr (z_mr (z_ml h)))))), gd_s_X4_findLater w h⟩)
set_option maxRecDepth 20000 in
theorem gw_s_X4_look_s_X4_hasRing_59 : GoodIn u_s_X4_look (wsV RX4 59 RX4 yX4_hasRing u_s_X4_hasRing) := z_gV (z_gr _ [15, 16, 17, 8] rfl (by decide +kernel)) (fun w h => ⟨z_mc (z_mr (z_mr (z_mr (z_mr (z_mr (z_mr (z_ml h))))))), gd_s_X4_hasRing w h⟩)
set_option maxRecDepth 20000 in
theorem gw_s_X4_look_s_X4_setRanks_63 : GoodIn u_s_X4_look (wsV RX4 63 RX4 yX4_setRanks u_s_X4_setRanks) := z_gV (z_gr _ [19, 20, 21, 8] rfl (by decide +kernel)) (fun w h => ⟨z_mc (z_mr (z_mr (z_mr (z_mr (z_mr (z_mr (z_mr (z_ml h)))))))), gd_s_X4_setRanks w h⟩)
set_option maxRecDepth 20000 in
theorem gw_s_X4_look_s_X4_setSpans_66 : GoodIn u_s_X4_look (wsV RX4 66 RX4 yX4_setSpans u_s_X4_setSpans) := z_gV (z_gr _ [22, 23, 24, 8] rfl (by decide +kernel)) (fun w h => ⟨z_mc (z_mr (z_mr (z_mr (z_mr (z_mr (z_mr (z_mr (z_mr (z_ml h))))))))), gd_s_X4_setSpans w h⟩)
set_option maxHeartbeats 4000000 in
set_option maxRecDepth 100000 in
theorem s_X4_look (l : Launch) (dC : Nat → ClassId) (dI : Nat → Nat → Nat) (sz : Nat) (h0 : Nat) (p1 : Int32) (h1 : Nat) (kn : Int32) (kl : Int32) (hk9 : Nat) (hlt : Nat) (hrk : Nat) (hbd : Nat) (hle : Nat) (hgr : Nat) (kc : Int32) (hs : Nat) (ha : Nat) (hb9 : Nat) (hc9 : Nat) (h1_4 : Value) (bl : Int32) (chk9 : ClassId) (fhk9 : Nat → Int32) (chs : ClassId) (fhs : Nat → Int32) (cha : ClassId) (fha : Nat → Int32) (chb9 : ClassId) (fhb9 : Nat → Int32) (chc9 : ClassId) (fhc9 : Nat → Int32) (chbd : ClassId) (fhbd : Nat → Int32) (chlt : ClassId) (fhlt : Nat → Int32) (chrk : ClassId) (fhrk : Nat → Int32) (chle : ClassId) (fhle : Nat → Int32) (chgr : ClassId) (fhgr : Nat → Int32) (hB_kn : ((-1 : Int) ≤ (kn).toInt ∧ (kn).toInt ≤ (80 : Int))) (hB_kl : ((-1 : Int) ≤ (kl).toInt ∧ (kl).toInt ≤ (12 : Int))) (hB_kc : ((0 : Int) ≤ (kc).toInt ∧ (kc).toInt ≤ (2 : Int))) (hB_bl : ((0 : Int) ≤ (bl).toInt ∧ (bl).toInt ≤ (12 : Int))) (hB_p1 : ((0 : Int) ≤ (p1).toInt ∧ (p1).toInt ≤ (80 : Int))) (hI_ha : ∀ j : Nat, ((0 : Int) ≤ (fha j).toInt ∧ (fha j).toInt ≤ (79 : Int))) (hI_hbd : ∀ j : Nat, ((0 : Int) ≤ (fhbd j).toInt ∧ (fhbd j).toInt ≤ (11 : Int))) (hR : ∀ j : Nat, z_rel (fhs j) (fha j) (fhb9 j)) : Met l yX4_look u_s_X4_look ({ frames := 3, cells := 0, slots := 0, locals := 66 }) (va_Pc [.ref h0, .int p1] (z_C (dC, dI) vwCl [(h0, .inr (4, [.ref h1, .int kn, .int kl, .ref hk9, .ref hlt, .ref hrk, .ref hbd, .ref hle, .ref hgr, .int kc])), (h1, .inr (0, [.ref hs, .ref ha, .ref hb9, .ref hc9, h1_4, .int bl])), (hk9, .inl (chk9, 80, .inl fhk9)), (hs, .inl (chs, 80, .inl fhs)), (ha, .inl (cha, 80, .inl fha)), (hb9, .inl (chb9, 80, .inl fhb9)), (hc9, .inl (chc9, 80, .inl fhc9)), (hbd, .inl (chbd, 12, .inl fhbd)), (hlt, .inl (chlt, 12, .inl fhlt)), (hrk, .inl (chrk, 12, .inl fhrk)), (hle, .inl (chle, 12, .inl fhle)), (hgr, .inl (chgr, 12, .inl fhgr))] [(chk9, .boolean), (chs, .int), (cha, .int), (chb9, .int), (chc9, .int), (chbd, .int), (chlt, .int), (chrk, .int), (chle, .int), (chgr, .int)] sz)) (va_Qv (fun (_ : Unit) => True) (fun (_ : Unit) (t : State) => ∃ (n_h0_notesSeen : Int32), ∃ (n_h0_layersSeen : Int32), ∃ (n_h0_clash : Int32), ∃ (g_hk9 : Nat → Int32), ∃ (g_hbd : Nat → Int32), ∃ (g_hlt : Nat → Int32), ∃ (g_hrk : Nat → Int32), ∃ (g_hle : Nat → Int32), ∃ (g_hgr : Nat → Int32), ((-1 : Int) ≤ (n_h0_notesSeen).toInt ∧ (n_h0_notesSeen).toInt ≤ (80 : Int)) ∧ ((-1 : Int) ≤ (n_h0_layersSeen).toInt ∧ (n_h0_layersSeen).toInt ≤ (12 : Int)) ∧ ((0 : Int) ≤ (n_h0_clash).toInt ∧ (n_h0_clash).toInt ≤ (2 : Int)) ∧ (∀ j : Nat, ((0 : Int) ≤ (g_hbd j).toInt ∧ (g_hbd j).toInt ≤ (11 : Int))) ∧ va_P (dC, dI) vwCl [(h0, .inr (4, [.ref h1, .int n_h0_notesSeen, .int n_h0_layersSeen, .ref hk9, .ref hlt, .ref hrk, .ref hbd, .ref hle, .ref hgr, .int n_h0_clash])), (h1, .inr (0, [.ref hs, .ref ha, .ref hb9, .ref hc9, h1_4, .int bl])), (hk9, .inl (chk9, 80, .inl g_hk9)), (hs, .inl (chs, 80, .inl fhs)), (ha, .inl (cha, 80, .inl fha)), (hb9, .inl (chb9, 80, .inl fhb9)), (hc9, .inl (chc9, 80, .inl fhc9)), (hbd, .inl (chbd, 12, .inl g_hbd)), (hlt, .inl (chlt, 12, .inl g_hlt)), (hrk, .inl (chrk, 12, .inl g_hrk)), (hle, .inl (chle, 12, .inl g_hle)), (hgr, .inl (chgr, 12, .inl g_hgr))] t.heap ∧ va_K (dC, dI) vwCl [] t ∧ va_D (va_A [(h0, .inr (4, [.ref h1, .int kn, .int kl, .ref hk9, .ref hlt, .ref hrk, .ref hbd, .ref hle, .ref hgr, .int kc])), (h1, .inr (0, [.ref hs, .ref ha, .ref hb9, .ref hc9, h1_4, .int bl])), (hk9, .inl (chk9, 80, .inl fhk9)), (hs, .inl (chs, 80, .inl fhs)), (ha, .inl (cha, 80, .inl fha)), (hb9, .inl (chb9, 80, .inl fhb9)), (hc9, .inl (chc9, 80, .inl fhc9)), (hbd, .inl (chbd, 12, .inl fhbd)), (hlt, .inl (chlt, 12, .inl fhlt)), (hrk, .inl (chrk, 12, .inl fhrk)), (hle, .inl (chle, 12, .inl fhle)), (hgr, .inl (chgr, 12, .inl fhgr))] sz) [(h0, .inr (4, [.ref h1, .int n_h0_notesSeen, .int n_h0_layersSeen, .ref hk9, .ref hlt, .ref hrk, .ref hbd, .ref hle, .ref hgr, .int n_h0_clash])), (h1, .inr (0, [.ref hs, .ref ha, .ref hb9, .ref hc9, h1_4, .int bl])), (hk9, .inl (chk9, 80, .inl g_hk9)), (hs, .inl (chs, 80, .inl fhs)), (ha, .inl (cha, 80, .inl fha)), (hb9, .inl (chb9, 80, .inl fhb9)), (hc9, .inl (chc9, 80, .inl fhc9)), (hbd, .inl (chbd, 12, .inl g_hbd)), (hlt, .inl (chlt, 12, .inl g_hlt)), (hrk, .inl (chrk, 12, .inl g_hrk)), (hle, .inl (chle, 12, .inl g_hle)), (hgr, .inl (chgr, 12, .inl g_hgr))]) (va_A [(h0, .inr (4, [.ref h1, .int kn, .int kl, .ref hk9, .ref hlt, .ref hrk, .ref hbd, .ref hle, .ref hgr, .int kc])), (h1, .inr (0, [.ref hs, .ref ha, .ref hb9, .ref hc9, h1_4, .int bl])), (hk9, .inl (chk9, 80, .inl fhk9)), (hs, .inl (chs, 80, .inl fhs)), (ha, .inl (cha, 80, .inl fha)), (hb9, .inl (chb9, 80, .inl fhb9)), (hc9, .inl (chc9, 80, .inl fhc9)), (hbd, .inl (chbd, 12, .inl fhbd)), (hlt, .inl (chlt, 12, .inl fhlt)), (hrk, .inl (chrk, 12, .inl fhrk)), (hle, .inl (chle, 12, .inl fhle)), (hgr, .inl (chgr, 12, .inl fhgr))] sz)) 0 0 (va_A [(h0, .inr (4, [.ref h1, .int kn, .int kl, .ref hk9, .ref hlt, .ref hrk, .ref hbd, .ref hle, .ref hgr, .int kc])), (h1, .inr (0, [.ref hs, .ref ha, .ref hb9, .ref hc9, h1_4, .int bl])), (hk9, .inl (chk9, 80, .inl fhk9)), (hs, .inl (chs, 80, .inl fhs)), (ha, .inl (cha, 80, .inl fha)), (hb9, .inl (chb9, 80, .inl fhb9)), (hc9, .inl (chc9, 80, .inl fhc9)), (hbd, .inl (chbd, 12, .inl fhbd)), (hlt, .inl (chlt, 12, .inl fhlt)), (hrk, .inl (chrk, 12, .inl fhrk)), (hle, .inl (chle, 12, .inl fhle)), (hgr, .inl (chgr, 12, .inl fhgr))] sz) := by
  refine Met.ofW (cc := cX4_look) (maxL := 2) (ret := none) (by decide) rfl ?_
  intro p e s m args below meth c s₁ B hml hv
  obtain ⟨rfl, hsz, hP, hK, hD0⟩ := hv
  have hx := B.exec
  have hb := B.bytes
  have hr := B.returns
  have hts := atoms_spec (ws := u_s_X4_look) B.pre
  have hown : s.vm.findClass RX4 = some m.cls := findClass_of_methodNamed B.named
  have hlocks := B.notSynchronized
  subst hsz
  have hD := hD0.self (sz := s.heap.size)
  generalize hAe : va_A [(h0, .inr (4, [.ref h1, .int kn, .int kl, .ref hk9, .ref hlt, .ref hrk, .ref hbd, .ref hle, .ref hgr, .int kc])), (h1, .inr (0, [.ref hs, .ref ha, .ref hb9, .ref hc9, h1_4, .int bl])), (hk9, .inl (chk9, 80, .inl fhk9)), (hs, .inl (chs, 80, .inl fhs)), (ha, .inl (cha, 80, .inl fha)), (hb9, .inl (chb9, 80, .inl fhb9)), (hc9, .inl (chc9, 80, .inl fhc9)), (hbd, .inl (chbd, 12, .inl fhbd)), (hlt, .inl (chlt, 12, .inl fhlt)), (hrk, .inl (chrk, 12, .inl fhrk)), (hle, .inl (chle, 12, .inl fhle)), (hgr, .inl (chgr, 12, .inl fhgr))] s.heap.size = A at hD ⊢
  have hA : ∀ q : Nat, s.heap.size ≤ q → A q := fun q h => by rw [← hAe]; exact Or.inr h
  have hS : va_S A s.heap s.heap [] := va_S.rf
  have hP : va_P (dC, dI) vwCl [(h0, .inr (4, [.ref h1, .int kn, .int kl, .ref hk9, .ref hlt, .ref hrk, .ref hbd, .ref hle, .ref hgr, .int kc])), (h1, .inr (0, [.ref hs, .ref ha, .ref hb9, .ref hc9, h1_4, .int bl])), (hk9, .inl (chk9, 80, .inl fhk9)), (hs, .inl (chs, 80, .inl fhs)), (ha, .inl (cha, 80, .inl fha)), (hb9, .inl (chb9, 80, .inl fhb9)), (hc9, .inl (chc9, 80, .inl fhc9)), (hbd, .inl (chbd, 12, .inl fhbd)), (hlt, .inl (chlt, 12, .inl fhlt)), (hrk, .inl (chrk, 12, .inl fhrk)), (hle, .inl (chle, 12, .inl fhle)), (hgr, .inl (chgr, 12, .inl fhgr))] s.heap := hP
  have w__fieldLink_RX4_9_ShellHeap_Known_notesSeen_I_ := hts (.fieldLink RX4 9 "ShellHeap$Known" "notesSeen" "I") (z_mc (z_ml z_m0))
  have hiX4 := show ∀ w ∈ u_ws RX4 TX4 10, w ∈ u_s_X4_look from fun w h => z_mc (z_mr (z_ml h))
  have w__fieldLink_RX4_41_ShellHeap_Known_book_LShellHeap_Book_ := hts (.fieldLink RX4 41 "ShellHeap$Known" "book" "LShellHeap$Book;") (z_mc (z_ml z_m1))
  have w__fieldLink_RX4_45_ShellHeap_Book_layers_I_ := hts (.fieldLink RX4 45 "ShellHeap$Book" "layers" "I") (z_mc (z_ml z_m2))
  have hiX0 := show ∀ w ∈ u_ws RX0 TX0 6, w ∈ u_s_X4_look from fun w h => z_mc (z_mr (z_mr (z_ml h)))
  have w__fieldLink_RX4_15_ShellHeap_Known_layersSeen_I_ := hts (.fieldLink RX4 15 "ShellHeap$Known" "layersSeen" "I") (z_mc (z_ml z_m3))
  have w__fieldLink_RX4_38_ShellHeap_Known_clash_I_ := hts (.fieldLink RX4 38 "ShellHeap$Known" "clash" "I") (z_mc (z_ml z_m17))
  have hl := lv_entry ([.ref h0, .int p1]) (n := 2) (Nat.le_of_ble_eq_true rfl)
  rw [lg_entry_eq]
  generalize (lg_sl ([.ref h0, .int p1]) ++ List.replicate (2 - (lg_sl ([.ref h0, .int p1])).length) Slot.unset).toArray = ls at hl ⊢
  have hl : lv_has ls 2 [(0, .ref h0), (1, .int p1)] := hl
  refine lv_iload_n hx hb dX4_look_0 rfl (lv_at hl 1 rfl) ?_
  refine lv_aload_n hx hb dX4_look_1 rfl (lv_at hl 0 rfl) ?_
  refine va_get (D := (dC, dI)) (ci := 4) (v := .int kn) (C := RX4) (T := TX4) (N := 10) hx hb hts hiX4 hown hK hP 0 rfl rfl 1 (by decide) w__fieldLink_RX4_9_ShellHeap_Known_notesSeen_I_ (fun _ h9 => h9) rfl dX4_look_2 ?_
  refine lv_icmp_ne (tgt := 23) hx hb dX4_look_5 (by decide) (fun c_1 => ?_) (fun c_1 => ?_)
  · have k_2 : (p1).toInt ≠ (kn).toInt := z_ne c_1
    refine lv_aload_n hx hb dX4_look_23 rfl (lv_at hl 0 rfl) ?_
    refine lv_iload_n hx hb dX4_look_24 rfl (lv_at hl 1 rfl) ?_
    refine va_put (D := (dC, dI)) (ci := 4) (v := .int p1) (ty := .int) (C := RX4) (T := TX4) (N := 10) hx hb hts hiX4 tyX4 tyX4_ok nmX4 hown hK hP hD hS 0 rfl rfl 1 (by decide) w__fieldLink_RX4_9_ShellHeap_Known_notesSeen_I_ (fun _ h9 => h9) rfl (by decide +kernel) rfl rfl (Nat.le_of_ble_eq_true rfl) dX4_look_25 (fun H_3 locs hP hD hS => ?_)
    obtain ⟨hP, hD⟩ := z_s_0_1 hP hD
    refine lv_aload_n hx hb dX4_look_28 rfl (lv_at hl 0 rfl) ?_
    refine lv_aload_n hx hb dX4_look_29 rfl (lv_at hl 0 rfl) ?_
    refine va_get (D := (dC, dI)) (ci := 4) (v := .ref h1) (C := RX4) (T := TX4) (N := 10) hx hb hts hiX4 hown hK hP 0 rfl rfl 0 (by decide) w__fieldLink_RX4_41_ShellHeap_Known_book_LShellHeap_Book_ (fun _ h9 => h9) rfl dX4_look_30 ?_
    refine va_get (D := (dC, dI)) (ci := 0) (v := .int bl) (C := RX0) (T := TX0) (N := 6) hx hb hts hiX0 hown hK hP 1 rfl rfl 5 (by decide) w__fieldLink_RX4_45_ShellHeap_Book_layers_I_ (fun _ h9 => h9) rfl dX4_look_33 ?_
    refine va_put (D := (dC, dI)) (ci := 4) (v := .int bl) (ty := .int) (C := RX4) (T := TX4) (N := 10) hx hb hts hiX4 tyX4 tyX4_ok nmX4 hown hK hP hD hS 0 rfl rfl 2 (by decide) w__fieldLink_RX4_15_ShellHeap_Known_layersSeen_I_ (fun _ h9 => h9) rfl (by decide +kernel) rfl rfl (Nat.le_of_ble_eq_true rfl) dX4_look_36 (fun H_4 locs hP hD hS => ?_)
    obtain ⟨hP, hD⟩ := z_s_0_2 hP hD
    refine lv_aload_n hx hb dX4_look_39 rfl (lv_at hl 0 rfl) ?_
    obtain ⟨hPc, hDc, hFc⟩ := z_sub3 (ws' := [(h0, .inr (4, [.ref h1, .int p1, .int bl, .ref hk9, .ref hlt, .ref hrk, .ref hbd, .ref hle, .ref hgr, .int kc])), (h1, .inr (0, [.ref hs, .ref ha, .ref hb9, .ref hc9, h1_4, .int bl])), (hk9, .inl (chk9, 80, .inl fhk9)), (hs, .inl (chs, 80, .inl fhs)), (ha, .inl (cha, 80, .inl fha))]) hP hD hS hA [0, 1, 2, 3, 4] (by decide) rfl
    have hKc := hK.sub (tys' := [(chk9, .boolean), (chs, .int), (cha, .int)]) [0, 1, 2] rfl
    refine va_callv (va_runV (As := []) (rest := []) ⟨hx, hb, hml, hown, hts⟩ (s_X4_findStruck l dC dI H_4.size h0 h1 p1 (.int bl) hk9 (.ref hlt) (.ref hrk) (.ref hbd) (.ref hle) (.ref hgr) (.int kc) hs ha (.ref hb9) (.ref hc9) h1_4 (.int bl) chk9 fhk9 chs fhs cha fha (z_bw hB_p1 (by decide) (by decide)) hI_ha) (cwV 0 hts gw_s_X4_look_s_X4_findStruck_50 rfl rfl rfl (by decide +kernel) ⟨Nat.le_of_ble_eq_true rfl, Nat.le_of_ble_eq_true rfl⟩) ⟨z_blind, va_recv hKc hPc (ci := 4) (q0 := 0) rfl rfl, z_pre hPc hKc hDc⟩ rfl rfl hl.1 rfl (lv_room (Nat.le_of_ble_eq_true rfl)) dX4_look_40 ⟨Nat.le_of_ble_eq_true rfl, Nat.le_of_ble_eq_true rfl⟩) hS (fun q _ h => hFc q h) hFc (fun u t H_5 locs ht hvm hw_7 hB hz1 hk1 hS => ?_)
    obtain ⟨g_hk9_8, hP1, hK1, hD1⟩ := hB
    rw [ht] at hP1
    have hK1 := va_K.moved hvm.symm hK1
    obtain ⟨hP, hD⟩ := z_ap_7 (va_join (wr := [(hb9, .inl (chb9, 80, .inl fhb9)), (hc9, .inl (chc9, 80, .inl fhc9)), (hbd, .inl (chbd, 12, .inl fhbd)), (hlt, .inl (chlt, 12, .inl fhlt)), (hrk, .inl (chrk, 12, .inl fhrk)), (hle, .inl (chle, 12, .inl fhle)), (hgr, .inl (chgr, 12, .inl fhgr))]) hP hD [0, 1, 2, 3, 4] [5, 6, 7, 8, 9, 10, 11] rfl rfl (by decide) (by decide) hk1 hFc hP1 hD1)
    clear hPc hDc hKc
    refine lv_aload_n hx hb dX4_look_43 rfl (lv_at hl 0 rfl) ?_
    obtain ⟨hPc, hDc, hFc⟩ := z_sub3 (ws' := [(h0, .inr (4, [.ref h1, .int p1, .int bl, .ref hk9, .ref hlt, .ref hrk, .ref hbd, .ref hle, .ref hgr, .int kc])), (h1, .inr (0, [.ref hs, .ref ha, .ref hb9, .ref hc9, h1_4, .int bl])), (hk9, .inl (chk9, 80, .inl g_hk9_8)), (hs, .inl (chs, 80, .inl fhs)), (ha, .inl (cha, 80, .inl fha)), (hb9, .inl (chb9, 80, .inl fhb9)), (hbd, .inl (chbd, 12, .inl fhbd))]) hP hD hS hA [7, 8, 9, 10, 11, 0, 2] (by decide) rfl
    have hKc := hK.sub (tys' := [(chk9, .boolean), (chs, .int), (cha, .int), (chb9, .int), (chbd, .int)]) [0, 1, 2, 3, 5] rfl
    refine va_callv (va_runV (As := []) (rest := []) ⟨hx, hb, hml, hown, hts⟩ (s_X4_joinBeds l dC dI H_5.size h0 h1 p1 bl hk9 (.ref hlt) (.ref hrk) hbd (.ref hle) (.ref hgr) (.int kc) hs ha hb9 (.ref hc9) h1_4 (.int bl) chk9 g_hk9_8 chs fhs cha fha chb9 fhb9 chbd fhbd (z_bw hB_p1 (by decide) (by decide)) (z_bw hB_bl (by decide) (by decide)) hI_ha hI_hbd hR) (cwV 0 hts gw_s_X4_look_s_X4_joinBeds_53 rfl rfl rfl (by decide +kernel) ⟨Nat.le_of_ble_eq_true rfl, Nat.le_of_ble_eq_true rfl⟩) ⟨z_blind, va_recv hKc hPc (ci := 4) (q0 := 0) rfl rfl, z_pre hPc hKc hDc⟩ rfl rfl hl.1 rfl (lv_room (Nat.le_of_ble_eq_true rfl)) dX4_look_44 ⟨Nat.le_of_ble_eq_true rfl, Nat.le_of_ble_eq_true rfl⟩) hS (fun q _ h => hFc q h) hFc (fun u t H_9 locs ht hvm hw_11 hB hz1 hk1 hS => ?_)
    obtain ⟨g_hbd_12, hp_13, hP1, hK1, hD1⟩ := hB
    rw [ht] at hP1
    have hK1 := va_K.moved hvm.symm hK1
    obtain ⟨hP, hD⟩ := z_ap_5 (va_join (wr := [(hc9, .inl (chc9, 80, .inl fhc9)), (hlt, .inl (chlt, 12, .inl fhlt)), (hrk, .inl (chrk, 12, .inl fhrk)), (hle, .inl (chle, 12, .inl fhle)), (hgr, .inl (chgr, 12, .inl fhgr))]) hP hD [7, 8, 9, 10, 11, 0, 2] [1, 3, 4, 5, 6] rfl rfl (by decide) (by decide) hk1 hFc hP1 hD1)
    clear hPc hDc hKc
    refine lv_aload_n hx hb dX4_look_47 rfl (lv_at hl 0 rfl) ?_
    obtain ⟨hPc, hDc, hFc⟩ := z_sub3 (ws' := [(h0, .inr (4, [.ref h1, .int p1, .int bl, .ref hk9, .ref hlt, .ref hrk, .ref hbd, .ref hle, .ref hgr, .int kc])), (h1, .inr (0, [.ref hs, .ref ha, .ref hb9, .ref hc9, h1_4, .int bl])), (hk9, .inl (chk9, 80, .inl g_hk9_8)), (hs, .inl (chs, 80, .inl fhs)), (ha, .inl (cha, 80, .inl fha)), (hb9, .inl (chb9, 80, .inl fhb9)), (hbd, .inl (chbd, 12, .inl g_hbd_12)), (hlt, .inl (chlt, 12, .inl fhlt))]) hP hD hS hA [5, 6, 7, 8, 9, 10, 11, 1] (by decide) rfl
    have hKc := hK.sub (tys' := [(chk9, .boolean), (chs, .int), (cha, .int), (chb9, .int), (chbd, .int), (chlt, .int)]) [0, 1, 2, 3, 5, 6] rfl
    refine va_callv (va_runV (As := []) (rest := []) ⟨hx, hb, hml, hown, hts⟩ (s_X4_findLater l dC dI H_9.size h0 h1 p1 bl hk9 hlt (.ref hrk) hbd (.ref hle) (.ref hgr) (.int kc) hs ha hb9 (.ref hc9) h1_4 (.int bl) chk9 g_hk9_8 chs fhs cha fha chb9 fhb9 chbd g_hbd_12 chlt fhlt (z_bw hB_p1 (by decide) (by decide)) (z_bw hB_bl (by decide) (by decide)) hI_ha hp_13 hR) (cwV 0 hts gw_s_X4_look_s_X4_findLater_56 rfl rfl rfl (by decide +kernel) ⟨Nat.le_of_ble_eq_true rfl, Nat.le_of_ble_eq_true rfl⟩) ⟨z_blind, va_recv hKc hPc (ci := 4) (q0 := 0) rfl rfl, z_pre hPc hKc hDc⟩ rfl rfl hl.1 rfl (lv_room (Nat.le_of_ble_eq_true rfl)) dX4_look_48 ⟨Nat.le_of_ble_eq_true rfl, Nat.le_of_ble_eq_true rfl⟩) hS (fun q _ h => hFc q h) hFc (fun u t H_14 locs ht hvm hw_16 hB hz1 hk1 hS => ?_)
    obtain ⟨g_hlt_17, hP1, hK1, hD1⟩ := hB
    rw [ht] at hP1
    have hK1 := va_K.moved hvm.symm hK1
    obtain ⟨hP, hD⟩ := z_ap_4 (va_join (wr := [(hc9, .inl (chc9, 80, .inl fhc9)), (hrk, .inl (chrk, 12, .inl fhrk)), (hle, .inl (chle, 12, .inl fhle)), (hgr, .inl (chgr, 12, .inl fhgr))]) hP hD [5, 6, 7, 8, 9, 10, 11, 1] [0, 2, 3, 4] rfl rfl (by decide) (by decide) hk1 hFc hP1 hD1)
    clear hPc hDc hKc
    refine lv_aload_n hx hb dX4_look_51 rfl (lv_at hl 0 rfl) ?_
    refine lv_aload_n hx hb dX4_look_52 rfl (lv_at hl 0 rfl) ?_
    obtain ⟨hPc, hDc⟩ := z_sub2 (ws' := [(h0, .inr (4, [.ref h1, .int p1, .int bl, .ref hk9, .ref hlt, .ref hrk, .ref hbd, .ref hle, .ref hgr, .int kc])), (hlt, .inl (chlt, 12, .inl g_hlt_17))]) hP hD [4, 11] (by decide) rfl
    have hKc := hK.sub (tys' := [(chlt, .int)]) [6] rfl
    have hFc := va_free (ws := []) (wc := []) (z_D0 _) hS hA [] rfl
    refine va_calli (va_runV (As := []) (rest := [.ref h0]) ⟨hx, hb, hml, hown, hts⟩ (s_X4_hasRing l dC dI H_14.size h0 (.ref h1) (.int p1) bl (.ref hk9) hlt (.ref hrk) (.ref hbd) (.ref hle) (.ref hgr) (.int kc) chlt g_hlt_17 (z_bw hB_bl (by decide) (by decide))) (cwV 0 hts gw_s_X4_look_s_X4_hasRing_59 rfl rfl rfl (by decide +kernel) ⟨Nat.le_of_ble_eq_true rfl, Nat.le_of_ble_eq_true rfl⟩) ⟨z_blind, va_recv hKc hPc (ci := 4) (q0 := 0) rfl rfl, z_pre hPc hKc hDc⟩ rfl rfl hl.1 rfl (lv_room (Nat.le_of_ble_eq_true rfl)) dX4_look_53 ⟨Nat.le_of_ble_eq_true rfl, Nat.le_of_ble_eq_true rfl⟩) hS (fun q _ h => hFc q h) hFc (fun r_19 u t H_18 locs ht hvm hw_20 hB hz1 hk1 hS => ?_)
    replace hP := z_pure hP hk1
    clear hPc hDc hKc
    refine lv_if_eq (tgt := 63) hx hb dX4_look_56 (by decide) (fun c_21 => ?_) (fun c_21 => ?_)
    · have k_22 : (r_19).toInt = (0 : Int) := z_eq c_21
      obtain rfl : r_19 = 0 := z_eq' (show (r_19).toInt = (0 : Int) by omega)
      refine lv_iconst (v := 0) hx hb dX4_look_63 (by decide) ?_
      refine va_put (D := (dC, dI)) (ci := 4) (v := .int 0) (ty := .int) (C := RX4) (T := TX4) (N := 10) hx hb hts hiX4 tyX4 tyX4_ok nmX4 hown hK hP hD hS 4 rfl rfl 9 (by decide) w__fieldLink_RX4_38_ShellHeap_Known_clash_I_ (fun _ h9 => h9) rfl (by decide +kernel) rfl rfl (Nat.le_of_ble_eq_true rfl) dX4_look_64 (fun H_24 locs hP hD hS => ?_)
      obtain ⟨hP, hD⟩ := z_s_4_9 hP hD
      refine lv_aload_n hx hb dX4_look_67 rfl (lv_at hl 0 rfl) ?_
      refine va_get (D := (dC, dI)) (ci := 4) (v := .int 0) (C := RX4) (T := TX4) (N := 10) hx hb hts hiX4 hown hK hP 4 rfl rfl 9 (by decide) w__fieldLink_RX4_38_ShellHeap_Known_clash_I_ (fun _ h9 => h9) rfl dX4_look_68 ?_
      refine lv_if_ne (tgt := 82) hx hb dX4_look_71 (by decide) (fun c_25 => absurd c_25 (by decide)) (fun _ => ?_)
      refine lv_aload_n hx hb dX4_look_74 rfl (lv_at hl 0 rfl) ?_
      obtain ⟨hPc, hDc, hFc⟩ := z_sub3 (ws' := [(h0, .inr (4, [.ref h1, .int p1, .int bl, .ref hk9, .ref hlt, .ref hrk, .ref hbd, .ref hle, .ref hgr, .int 0])), (hlt, .inl (chlt, 12, .inl g_hlt_17)), (hrk, .inl (chrk, 12, .inl fhrk))]) hP hD hS hA [4, 11, 1] (by decide) rfl
      have hKc := hK.sub (tys' := [(chlt, .int), (chrk, .int)]) [6, 7] rfl
      refine va_callv (va_runV (As := []) (rest := []) ⟨hx, hb, hml, hown, hts⟩ (s_X4_setRanks l dC dI H_24.size h0 (.ref h1) (.int p1) bl (.ref hk9) hlt hrk (.ref hbd) (.ref hle) (.ref hgr) (.int 0) chlt g_hlt_17 chrk fhrk (z_bw hB_bl (by decide) (by decide))) (cwV 0 hts gw_s_X4_look_s_X4_setRanks_63 rfl rfl rfl (by decide +kernel) ⟨Nat.le_of_ble_eq_true rfl, Nat.le_of_ble_eq_true rfl⟩) ⟨z_blind, va_recv hKc hPc (ci := 4) (q0 := 0) rfl rfl, z_pre hPc hKc hDc⟩ rfl rfl hl.1 rfl (lv_room (Nat.le_of_ble_eq_true rfl)) dX4_look_75 ⟨Nat.le_of_ble_eq_true rfl, Nat.le_of_ble_eq_true rfl⟩) hS (fun q _ h => hFc q h) hFc (fun u t H_26 locs ht hvm hw_28 hB hz1 hk1 hS => ?_)
      obtain ⟨g_h2_29, hP1, hK1, hD1⟩ := hB
      rw [ht] at hP1
      have hK1 := va_K.moved hvm.symm hK1
      obtain ⟨hP, hD⟩ := z_ap_9 (va_join (wr := [(hc9, .inl (chc9, 80, .inl fhc9)), (hle, .inl (chle, 12, .inl fhle)), (hgr, .inl (chgr, 12, .inl fhgr)), (h1, .inr (0, [.ref hs, .ref ha, .ref hb9, .ref hc9, h1_4, .int bl])), (hk9, .inl (chk9, 80, .inl g_hk9_8)), (hs, .inl (chs, 80, .inl fhs)), (ha, .inl (cha, 80, .inl fha)), (hb9, .inl (chb9, 80, .inl fhb9)), (hbd, .inl (chbd, 12, .inl g_hbd_12))]) hP hD [4, 11, 1] [0, 2, 3, 5, 6, 7, 8, 9, 10] rfl rfl (by decide) (by decide) hk1 hFc hP1 hD1)
      clear hPc hDc hKc
      refine lv_aload_n hx hb dX4_look_78 rfl (lv_at hl 0 rfl) ?_
      obtain ⟨hPc, hDc, hFc⟩ := z_sub3 (ws' := [(h0, .inr (4, [.ref h1, .int p1, .int bl, .ref hk9, .ref hlt, .ref hrk, .ref hbd, .ref hle, .ref hgr, .int 0])), (h1, .inr (0, [.ref hs, .ref ha, .ref hb9, .ref hc9, h1_4, .int bl])), (hk9, .inl (chk9, 80, .inl g_hk9_8)), (hs, .inl (chs, 80, .inl fhs)), (ha, .inl (cha, 80, .inl fha)), (hb9, .inl (chb9, 80, .inl fhb9)), (hc9, .inl (chc9, 80, .inl fhc9)), (hbd, .inl (chbd, 12, .inl g_hbd_12)), (hlt, .inl (chlt, 12, .inl g_hlt_17)), (hle, .inl (chle, 12, .inl fhle)), (hgr, .inl (chgr, 12, .inl fhgr))]) hP hD hS hA [9, 3, 4, 5, 6, 7, 0, 8, 10, 1, 2] (by decide) rfl
      have hKc := hK.sub (tys' := [(chk9, .boolean), (chs, .int), (cha, .int), (chb9, .int), (chc9, .int), (chbd, .int), (chlt, .int), (chle, .int), (chgr, .int)]) [0, 1, 2, 3, 4, 5, 6, 8, 9] rfl
      refine va_callv (va_runV (As := []) (rest := []) ⟨hx, hb, hml, hown, hts⟩ (s_X4_setSpans l dC dI H_26.size h0 h1 p1 bl hk9 hlt (.ref hrk) hbd hle hgr 0 hs ha hb9 hc9 h1_4 (.int bl) chk9 g_hk9_8 chs fhs cha fha chb9 fhb9 chc9 fhc9 chbd g_hbd_12 chlt g_hlt_17 chle fhle chgr fhgr (z_bw hB_p1 (by decide) (by decide)) (z_bw hB_bl (by decide) (by decide)) (by decide) hI_ha hp_13 hR) (cwV 0 hts gw_s_X4_look_s_X4_setSpans_66 rfl rfl rfl (by decide +kernel) ⟨Nat.le_of_ble_eq_true rfl, Nat.le_of_ble_eq_true rfl⟩) ⟨z_blind, va_recv hKc hPc (ci := 4) (q0 := 0) rfl rfl, z_pre hPc hKc hDc⟩ rfl rfl hl.1 rfl (lv_room (Nat.le_of_ble_eq_true rfl)) dX4_look_79 ⟨Nat.le_of_ble_eq_true rfl, Nat.le_of_ble_eq_true rfl⟩) hS (fun q _ h => hFc q h) hFc (fun u t H_30 locs ht hvm hw_32 hB hz1 hk1 hS => ?_)
      obtain ⟨n_h0_clash_33, g_hle_34, g_hgr_35, hp_36, hP1, hK1, hD1⟩ := hB
      rw [ht] at hP1
      have hK1 := va_K.moved hvm.symm hK1
      obtain ⟨hP, hD⟩ := z_ap_1 (va_join (wr := [(hrk, .inl (chrk, 12, .inl g_h2_29))]) hP hD [9, 3, 4, 5, 6, 7, 0, 8, 10, 1, 2] [11] rfl rfl (by decide) (by decide) hk1 hFc hP1 hD1)
      clear hPc hDc hKc
      obtain ⟨hP9, hD9⟩ := z_sub2 (ws' := [(h0, .inr (4, [.ref h1, .int p1, .int bl, .ref hk9, .ref hlt, .ref hrk, .ref hbd, .ref hle, .ref hgr, .int n_h0_clash_33])), (h1, .inr (0, [.ref hs, .ref ha, .ref hb9, .ref hc9, h1_4, .int bl])), (hk9, .inl (chk9, 80, .inl g_hk9_8)), (hs, .inl (chs, 80, .inl fhs)), (ha, .inl (cha, 80, .inl fha)), (hb9, .inl (chb9, 80, .inl fhb9)), (hc9, .inl (chc9, 80, .inl fhc9)), (hbd, .inl (chbd, 12, .inl g_hbd_12)), (hlt, .inl (chlt, 12, .inl g_hlt_17)), (hrk, .inl (chrk, 12, .inl g_h2_29)), (hle, .inl (chle, 12, .inl g_hle_34)), (hgr, .inl (chgr, 12, .inl g_hgr_35))]) hP hD [1, 2, 3, 4, 5, 6, 7, 8, 9, 0, 10, 11] (by decide) rfl
      have hK9 := hK.sub (tys' := []) [] rfl
      refine W.widen (k := 0) (n := 0) (Nat.le_of_ble_eq_true rfl) (Nat.le_of_ble_eq_true rfl) ?_
      exact W.vret hx hb hr (fun t ht hW => ⟨⟨(), rfl, trivial, ⟨p1, bl, n_h0_clash_33, g_hk9_8, g_hbd_12, g_hlt_17, g_h2_29, g_hle_34, g_hgr_35, (z_bw hB_p1 (by decide) (by decide)), (z_bw hB_bl (by decide) (by decide)), hp_36, hp_13, by rw [ht]; exact hP9, va_K.moved hW.alike hK9, hD9⟩⟩, hS.F ht⟩) hS.2.2 dX4_look_82
    · have k_37 : (r_19).toInt ≠ (0 : Int) := z_ne c_21
      obtain rfl : r_19 = 1 := z_eq' (show (r_19).toInt = (1 : Int) by omega)
      refine lv_iconst (v := 1) hx hb dX4_look_59 (by decide) ?_
      refine lv_goto (tgt := 64) hx hb dX4_look_60 (by decide) ?_
      refine va_put (D := (dC, dI)) (ci := 4) (v := .int 1) (ty := .int) (C := RX4) (T := TX4) (N := 10) hx hb hts hiX4 tyX4 tyX4_ok nmX4 hown hK hP hD hS 4 rfl rfl 9 (by decide) w__fieldLink_RX4_38_ShellHeap_Known_clash_I_ (fun _ h9 => h9) rfl (by decide +kernel) rfl rfl (Nat.le_of_ble_eq_true rfl) dX4_look_64 (fun H_39 locs hP hD hS => ?_)
      obtain ⟨hP, hD⟩ := z_s_4_9 hP hD
      refine lv_aload_n hx hb dX4_look_67 rfl (lv_at hl 0 rfl) ?_
      refine va_get (D := (dC, dI)) (ci := 4) (v := .int 1) (C := RX4) (T := TX4) (N := 10) hx hb hts hiX4 hown hK hP 4 rfl rfl 9 (by decide) w__fieldLink_RX4_38_ShellHeap_Known_clash_I_ (fun _ h9 => h9) rfl dX4_look_68 ?_
      refine lv_if_ne (tgt := 82) hx hb dX4_look_71 (by decide) (fun _ => ?_) (fun c_40 => absurd c_40 (by decide))
      obtain ⟨hP9, hD9⟩ := z_sub2 (ws' := [(h0, .inr (4, [.ref h1, .int p1, .int bl, .ref hk9, .ref hlt, .ref hrk, .ref hbd, .ref hle, .ref hgr, .int 1])), (h1, .inr (0, [.ref hs, .ref ha, .ref hb9, .ref hc9, h1_4, .int bl])), (hk9, .inl (chk9, 80, .inl g_hk9_8)), (hs, .inl (chs, 80, .inl fhs)), (ha, .inl (cha, 80, .inl fha)), (hb9, .inl (chb9, 80, .inl fhb9)), (hc9, .inl (chc9, 80, .inl fhc9)), (hbd, .inl (chbd, 12, .inl g_hbd_12)), (hlt, .inl (chlt, 12, .inl g_hlt_17)), (hrk, .inl (chrk, 12, .inl fhrk)), (hle, .inl (chle, 12, .inl fhle)), (hgr, .inl (chgr, 12, .inl fhgr))]) hP hD [4, 5, 6, 7, 8, 9, 0, 10, 11, 1, 2, 3] (by decide) rfl
      have hK9 := hK.sub (tys' := []) [] rfl
      refine W.widen (k := 0) (n := 0) (Nat.le_of_ble_eq_true rfl) (Nat.le_of_ble_eq_true rfl) ?_
      exact W.vret hx hb hr (fun t ht hW => ⟨⟨(), rfl, trivial, ⟨p1, bl, 1, g_hk9_8, g_hbd_12, g_hlt_17, fhrk, fhle, fhgr, (z_bw hB_p1 (by decide) (by decide)), (z_bw hB_bl (by decide) (by decide)), (by decide), hp_13, by rw [ht]; exact hP9, va_K.moved hW.alike hK9, hD9⟩⟩, hS.F ht⟩) hS.2.2 dX4_look_82
  · have k_41 : (p1).toInt = (kn).toInt := z_eq c_1
    refine lv_aload_n hx hb dX4_look_8 rfl (lv_at hl 0 rfl) ?_
    refine va_get (D := (dC, dI)) (ci := 4) (v := .ref h1) (C := RX4) (T := TX4) (N := 10) hx hb hts hiX4 hown hK hP 0 rfl rfl 0 (by decide) w__fieldLink_RX4_41_ShellHeap_Known_book_LShellHeap_Book_ (fun _ h9 => h9) rfl dX4_look_9 ?_
    refine va_get (D := (dC, dI)) (ci := 0) (v := .int bl) (C := RX0) (T := TX0) (N := 6) hx hb hts hiX0 hown hK hP 1 rfl rfl 5 (by decide) w__fieldLink_RX4_45_ShellHeap_Book_layers_I_ (fun _ h9 => h9) rfl dX4_look_12 ?_
    refine lv_aload_n hx hb dX4_look_15 rfl (lv_at hl 0 rfl) ?_
    refine va_get (D := (dC, dI)) (ci := 4) (v := .int kl) (C := RX4) (T := TX4) (N := 10) hx hb hts hiX4 hown hK hP 0 rfl rfl 2 (by decide) w__fieldLink_RX4_15_ShellHeap_Known_layersSeen_I_ (fun _ h9 => h9) rfl dX4_look_16 ?_
    refine lv_icmp_ne (tgt := 23) hx hb dX4_look_19 (by decide) (fun c_42 => ?_) (fun c_42 => ?_)
    · have k_43 : (bl).toInt ≠ (kl).toInt := z_ne c_42
      refine lv_aload_n hx hb dX4_look_23 rfl (lv_at hl 0 rfl) ?_
      refine lv_iload_n hx hb dX4_look_24 rfl (lv_at hl 1 rfl) ?_
      refine va_put (D := (dC, dI)) (ci := 4) (v := .int p1) (ty := .int) (C := RX4) (T := TX4) (N := 10) hx hb hts hiX4 tyX4 tyX4_ok nmX4 hown hK hP hD hS 0 rfl rfl 1 (by decide) w__fieldLink_RX4_9_ShellHeap_Known_notesSeen_I_ (fun _ h9 => h9) rfl (by decide +kernel) rfl rfl (Nat.le_of_ble_eq_true rfl) dX4_look_25 (fun H_44 locs hP hD hS => ?_)
      obtain ⟨hP, hD⟩ := z_s_0_1 hP hD
      refine lv_aload_n hx hb dX4_look_28 rfl (lv_at hl 0 rfl) ?_
      refine lv_aload_n hx hb dX4_look_29 rfl (lv_at hl 0 rfl) ?_
      refine va_get (D := (dC, dI)) (ci := 4) (v := .ref h1) (C := RX4) (T := TX4) (N := 10) hx hb hts hiX4 hown hK hP 0 rfl rfl 0 (by decide) w__fieldLink_RX4_41_ShellHeap_Known_book_LShellHeap_Book_ (fun _ h9 => h9) rfl dX4_look_30 ?_
      refine va_get (D := (dC, dI)) (ci := 0) (v := .int bl) (C := RX0) (T := TX0) (N := 6) hx hb hts hiX0 hown hK hP 1 rfl rfl 5 (by decide) w__fieldLink_RX4_45_ShellHeap_Book_layers_I_ (fun _ h9 => h9) rfl dX4_look_33 ?_
      refine va_put (D := (dC, dI)) (ci := 4) (v := .int bl) (ty := .int) (C := RX4) (T := TX4) (N := 10) hx hb hts hiX4 tyX4 tyX4_ok nmX4 hown hK hP hD hS 0 rfl rfl 2 (by decide) w__fieldLink_RX4_15_ShellHeap_Known_layersSeen_I_ (fun _ h9 => h9) rfl (by decide +kernel) rfl rfl (Nat.le_of_ble_eq_true rfl) dX4_look_36 (fun H_45 locs hP hD hS => ?_)
      obtain ⟨hP, hD⟩ := z_s_0_2 hP hD
      refine lv_aload_n hx hb dX4_look_39 rfl (lv_at hl 0 rfl) ?_
      obtain ⟨hPc, hDc, hFc⟩ := z_sub3 (ws' := [(h0, .inr (4, [.ref h1, .int p1, .int bl, .ref hk9, .ref hlt, .ref hrk, .ref hbd, .ref hle, .ref hgr, .int kc])), (h1, .inr (0, [.ref hs, .ref ha, .ref hb9, .ref hc9, h1_4, .int bl])), (hk9, .inl (chk9, 80, .inl fhk9)), (hs, .inl (chs, 80, .inl fhs)), (ha, .inl (cha, 80, .inl fha))]) hP hD hS hA [0, 1, 2, 3, 4] (by decide) rfl
      have hKc := hK.sub (tys' := [(chk9, .boolean), (chs, .int), (cha, .int)]) [0, 1, 2] rfl
      refine va_callv (va_runV (As := []) (rest := []) ⟨hx, hb, hml, hown, hts⟩ (s_X4_findStruck l dC dI H_45.size h0 h1 p1 (.int bl) hk9 (.ref hlt) (.ref hrk) (.ref hbd) (.ref hle) (.ref hgr) (.int kc) hs ha (.ref hb9) (.ref hc9) h1_4 (.int bl) chk9 fhk9 chs fhs cha fha (z_bw hB_p1 (by decide) (by decide)) hI_ha) (cwV 0 hts gw_s_X4_look_s_X4_findStruck_50 rfl rfl rfl (by decide +kernel) ⟨Nat.le_of_ble_eq_true rfl, Nat.le_of_ble_eq_true rfl⟩) ⟨z_blind, va_recv hKc hPc (ci := 4) (q0 := 0) rfl rfl, z_pre hPc hKc hDc⟩ rfl rfl hl.1 rfl (lv_room (Nat.le_of_ble_eq_true rfl)) dX4_look_40 ⟨Nat.le_of_ble_eq_true rfl, Nat.le_of_ble_eq_true rfl⟩) hS (fun q _ h => hFc q h) hFc (fun u t H_46 locs ht hvm hw_48 hB hz1 hk1 hS => ?_)
      obtain ⟨g_hk9_49, hP1, hK1, hD1⟩ := hB
      rw [ht] at hP1
      have hK1 := va_K.moved hvm.symm hK1
      obtain ⟨hP, hD⟩ := z_ap_7 (va_join (wr := [(hb9, .inl (chb9, 80, .inl fhb9)), (hc9, .inl (chc9, 80, .inl fhc9)), (hbd, .inl (chbd, 12, .inl fhbd)), (hlt, .inl (chlt, 12, .inl fhlt)), (hrk, .inl (chrk, 12, .inl fhrk)), (hle, .inl (chle, 12, .inl fhle)), (hgr, .inl (chgr, 12, .inl fhgr))]) hP hD [0, 1, 2, 3, 4] [5, 6, 7, 8, 9, 10, 11] rfl rfl (by decide) (by decide) hk1 hFc hP1 hD1)
      clear hPc hDc hKc
      refine lv_aload_n hx hb dX4_look_43 rfl (lv_at hl 0 rfl) ?_
      obtain ⟨hPc, hDc, hFc⟩ := z_sub3 (ws' := [(h0, .inr (4, [.ref h1, .int p1, .int bl, .ref hk9, .ref hlt, .ref hrk, .ref hbd, .ref hle, .ref hgr, .int kc])), (h1, .inr (0, [.ref hs, .ref ha, .ref hb9, .ref hc9, h1_4, .int bl])), (hk9, .inl (chk9, 80, .inl g_hk9_49)), (hs, .inl (chs, 80, .inl fhs)), (ha, .inl (cha, 80, .inl fha)), (hb9, .inl (chb9, 80, .inl fhb9)), (hbd, .inl (chbd, 12, .inl fhbd))]) hP hD hS hA [7, 8, 9, 10, 11, 0, 2] (by decide) rfl
      have hKc := hK.sub (tys' := [(chk9, .boolean), (chs, .int), (cha, .int), (chb9, .int), (chbd, .int)]) [0, 1, 2, 3, 5] rfl
      refine va_callv (va_runV (As := []) (rest := []) ⟨hx, hb, hml, hown, hts⟩ (s_X4_joinBeds l dC dI H_46.size h0 h1 p1 bl hk9 (.ref hlt) (.ref hrk) hbd (.ref hle) (.ref hgr) (.int kc) hs ha hb9 (.ref hc9) h1_4 (.int bl) chk9 g_hk9_49 chs fhs cha fha chb9 fhb9 chbd fhbd (z_bw hB_p1 (by decide) (by decide)) (z_bw hB_bl (by decide) (by decide)) hI_ha hI_hbd hR) (cwV 0 hts gw_s_X4_look_s_X4_joinBeds_53 rfl rfl rfl (by decide +kernel) ⟨Nat.le_of_ble_eq_true rfl, Nat.le_of_ble_eq_true rfl⟩) ⟨z_blind, va_recv hKc hPc (ci := 4) (q0 := 0) rfl rfl, z_pre hPc hKc hDc⟩ rfl rfl hl.1 rfl (lv_room (Nat.le_of_ble_eq_true rfl)) dX4_look_44 ⟨Nat.le_of_ble_eq_true rfl, Nat.le_of_ble_eq_true rfl⟩) hS (fun q _ h => hFc q h) hFc (fun u t H_50 locs ht hvm hw_52 hB hz1 hk1 hS => ?_)
      obtain ⟨g_hbd_53, hp_54, hP1, hK1, hD1⟩ := hB
      rw [ht] at hP1
      have hK1 := va_K.moved hvm.symm hK1
      obtain ⟨hP, hD⟩ := z_ap_5 (va_join (wr := [(hc9, .inl (chc9, 80, .inl fhc9)), (hlt, .inl (chlt, 12, .inl fhlt)), (hrk, .inl (chrk, 12, .inl fhrk)), (hle, .inl (chle, 12, .inl fhle)), (hgr, .inl (chgr, 12, .inl fhgr))]) hP hD [7, 8, 9, 10, 11, 0, 2] [1, 3, 4, 5, 6] rfl rfl (by decide) (by decide) hk1 hFc hP1 hD1)
      clear hPc hDc hKc
      refine lv_aload_n hx hb dX4_look_47 rfl (lv_at hl 0 rfl) ?_
      obtain ⟨hPc, hDc, hFc⟩ := z_sub3 (ws' := [(h0, .inr (4, [.ref h1, .int p1, .int bl, .ref hk9, .ref hlt, .ref hrk, .ref hbd, .ref hle, .ref hgr, .int kc])), (h1, .inr (0, [.ref hs, .ref ha, .ref hb9, .ref hc9, h1_4, .int bl])), (hk9, .inl (chk9, 80, .inl g_hk9_49)), (hs, .inl (chs, 80, .inl fhs)), (ha, .inl (cha, 80, .inl fha)), (hb9, .inl (chb9, 80, .inl fhb9)), (hbd, .inl (chbd, 12, .inl g_hbd_53)), (hlt, .inl (chlt, 12, .inl fhlt))]) hP hD hS hA [5, 6, 7, 8, 9, 10, 11, 1] (by decide) rfl
      have hKc := hK.sub (tys' := [(chk9, .boolean), (chs, .int), (cha, .int), (chb9, .int), (chbd, .int), (chlt, .int)]) [0, 1, 2, 3, 5, 6] rfl
      refine va_callv (va_runV (As := []) (rest := []) ⟨hx, hb, hml, hown, hts⟩ (s_X4_findLater l dC dI H_50.size h0 h1 p1 bl hk9 hlt (.ref hrk) hbd (.ref hle) (.ref hgr) (.int kc) hs ha hb9 (.ref hc9) h1_4 (.int bl) chk9 g_hk9_49 chs fhs cha fha chb9 fhb9 chbd g_hbd_53 chlt fhlt (z_bw hB_p1 (by decide) (by decide)) (z_bw hB_bl (by decide) (by decide)) hI_ha hp_54 hR) (cwV 0 hts gw_s_X4_look_s_X4_findLater_56 rfl rfl rfl (by decide +kernel) ⟨Nat.le_of_ble_eq_true rfl, Nat.le_of_ble_eq_true rfl⟩) ⟨z_blind, va_recv hKc hPc (ci := 4) (q0 := 0) rfl rfl, z_pre hPc hKc hDc⟩ rfl rfl hl.1 rfl (lv_room (Nat.le_of_ble_eq_true rfl)) dX4_look_48 ⟨Nat.le_of_ble_eq_true rfl, Nat.le_of_ble_eq_true rfl⟩) hS (fun q _ h => hFc q h) hFc (fun u t H_55 locs ht hvm hw_57 hB hz1 hk1 hS => ?_)
      obtain ⟨g_hlt_58, hP1, hK1, hD1⟩ := hB
      rw [ht] at hP1
      have hK1 := va_K.moved hvm.symm hK1
      obtain ⟨hP, hD⟩ := z_ap_4 (va_join (wr := [(hc9, .inl (chc9, 80, .inl fhc9)), (hrk, .inl (chrk, 12, .inl fhrk)), (hle, .inl (chle, 12, .inl fhle)), (hgr, .inl (chgr, 12, .inl fhgr))]) hP hD [5, 6, 7, 8, 9, 10, 11, 1] [0, 2, 3, 4] rfl rfl (by decide) (by decide) hk1 hFc hP1 hD1)
      clear hPc hDc hKc
      refine lv_aload_n hx hb dX4_look_51 rfl (lv_at hl 0 rfl) ?_
      refine lv_aload_n hx hb dX4_look_52 rfl (lv_at hl 0 rfl) ?_
      obtain ⟨hPc, hDc⟩ := z_sub2 (ws' := [(h0, .inr (4, [.ref h1, .int p1, .int bl, .ref hk9, .ref hlt, .ref hrk, .ref hbd, .ref hle, .ref hgr, .int kc])), (hlt, .inl (chlt, 12, .inl g_hlt_58))]) hP hD [4, 11] (by decide) rfl
      have hKc := hK.sub (tys' := [(chlt, .int)]) [6] rfl
      have hFc := va_free (ws := []) (wc := []) (z_D0 _) hS hA [] rfl
      refine va_calli (va_runV (As := []) (rest := [.ref h0]) ⟨hx, hb, hml, hown, hts⟩ (s_X4_hasRing l dC dI H_55.size h0 (.ref h1) (.int p1) bl (.ref hk9) hlt (.ref hrk) (.ref hbd) (.ref hle) (.ref hgr) (.int kc) chlt g_hlt_58 (z_bw hB_bl (by decide) (by decide))) (cwV 0 hts gw_s_X4_look_s_X4_hasRing_59 rfl rfl rfl (by decide +kernel) ⟨Nat.le_of_ble_eq_true rfl, Nat.le_of_ble_eq_true rfl⟩) ⟨z_blind, va_recv hKc hPc (ci := 4) (q0 := 0) rfl rfl, z_pre hPc hKc hDc⟩ rfl rfl hl.1 rfl (lv_room (Nat.le_of_ble_eq_true rfl)) dX4_look_53 ⟨Nat.le_of_ble_eq_true rfl, Nat.le_of_ble_eq_true rfl⟩) hS (fun q _ h => hFc q h) hFc (fun r_60 u t H_59 locs ht hvm hw_61 hB hz1 hk1 hS => ?_)
      replace hP := z_pure hP hk1
      clear hPc hDc hKc
      refine lv_if_eq (tgt := 63) hx hb dX4_look_56 (by decide) (fun c_62 => ?_) (fun c_62 => ?_)
      · have k_63 : (r_60).toInt = (0 : Int) := z_eq c_62
        obtain rfl : r_60 = 0 := z_eq' (show (r_60).toInt = (0 : Int) by omega)
        refine lv_iconst (v := 0) hx hb dX4_look_63 (by decide) ?_
        refine va_put (D := (dC, dI)) (ci := 4) (v := .int 0) (ty := .int) (C := RX4) (T := TX4) (N := 10) hx hb hts hiX4 tyX4 tyX4_ok nmX4 hown hK hP hD hS 4 rfl rfl 9 (by decide) w__fieldLink_RX4_38_ShellHeap_Known_clash_I_ (fun _ h9 => h9) rfl (by decide +kernel) rfl rfl (Nat.le_of_ble_eq_true rfl) dX4_look_64 (fun H_65 locs hP hD hS => ?_)
        obtain ⟨hP, hD⟩ := z_s_4_9 hP hD
        refine lv_aload_n hx hb dX4_look_67 rfl (lv_at hl 0 rfl) ?_
        refine va_get (D := (dC, dI)) (ci := 4) (v := .int 0) (C := RX4) (T := TX4) (N := 10) hx hb hts hiX4 hown hK hP 4 rfl rfl 9 (by decide) w__fieldLink_RX4_38_ShellHeap_Known_clash_I_ (fun _ h9 => h9) rfl dX4_look_68 ?_
        refine lv_if_ne (tgt := 82) hx hb dX4_look_71 (by decide) (fun c_66 => absurd c_66 (by decide)) (fun _ => ?_)
        refine lv_aload_n hx hb dX4_look_74 rfl (lv_at hl 0 rfl) ?_
        obtain ⟨hPc, hDc, hFc⟩ := z_sub3 (ws' := [(h0, .inr (4, [.ref h1, .int p1, .int bl, .ref hk9, .ref hlt, .ref hrk, .ref hbd, .ref hle, .ref hgr, .int 0])), (hlt, .inl (chlt, 12, .inl g_hlt_58)), (hrk, .inl (chrk, 12, .inl fhrk))]) hP hD hS hA [4, 11, 1] (by decide) rfl
        have hKc := hK.sub (tys' := [(chlt, .int), (chrk, .int)]) [6, 7] rfl
        refine va_callv (va_runV (As := []) (rest := []) ⟨hx, hb, hml, hown, hts⟩ (s_X4_setRanks l dC dI H_65.size h0 (.ref h1) (.int p1) bl (.ref hk9) hlt hrk (.ref hbd) (.ref hle) (.ref hgr) (.int 0) chlt g_hlt_58 chrk fhrk (z_bw hB_bl (by decide) (by decide))) (cwV 0 hts gw_s_X4_look_s_X4_setRanks_63 rfl rfl rfl (by decide +kernel) ⟨Nat.le_of_ble_eq_true rfl, Nat.le_of_ble_eq_true rfl⟩) ⟨z_blind, va_recv hKc hPc (ci := 4) (q0 := 0) rfl rfl, z_pre hPc hKc hDc⟩ rfl rfl hl.1 rfl (lv_room (Nat.le_of_ble_eq_true rfl)) dX4_look_75 ⟨Nat.le_of_ble_eq_true rfl, Nat.le_of_ble_eq_true rfl⟩) hS (fun q _ h => hFc q h) hFc (fun u t H_67 locs ht hvm hw_69 hB hz1 hk1 hS => ?_)
        obtain ⟨g_h2_70, hP1, hK1, hD1⟩ := hB
        rw [ht] at hP1
        have hK1 := va_K.moved hvm.symm hK1
        obtain ⟨hP, hD⟩ := z_ap_9 (va_join (wr := [(hc9, .inl (chc9, 80, .inl fhc9)), (hle, .inl (chle, 12, .inl fhle)), (hgr, .inl (chgr, 12, .inl fhgr)), (h1, .inr (0, [.ref hs, .ref ha, .ref hb9, .ref hc9, h1_4, .int bl])), (hk9, .inl (chk9, 80, .inl g_hk9_49)), (hs, .inl (chs, 80, .inl fhs)), (ha, .inl (cha, 80, .inl fha)), (hb9, .inl (chb9, 80, .inl fhb9)), (hbd, .inl (chbd, 12, .inl g_hbd_53))]) hP hD [4, 11, 1] [0, 2, 3, 5, 6, 7, 8, 9, 10] rfl rfl (by decide) (by decide) hk1 hFc hP1 hD1)
        clear hPc hDc hKc
        refine lv_aload_n hx hb dX4_look_78 rfl (lv_at hl 0 rfl) ?_
        obtain ⟨hPc, hDc, hFc⟩ := z_sub3 (ws' := [(h0, .inr (4, [.ref h1, .int p1, .int bl, .ref hk9, .ref hlt, .ref hrk, .ref hbd, .ref hle, .ref hgr, .int 0])), (h1, .inr (0, [.ref hs, .ref ha, .ref hb9, .ref hc9, h1_4, .int bl])), (hk9, .inl (chk9, 80, .inl g_hk9_49)), (hs, .inl (chs, 80, .inl fhs)), (ha, .inl (cha, 80, .inl fha)), (hb9, .inl (chb9, 80, .inl fhb9)), (hc9, .inl (chc9, 80, .inl fhc9)), (hbd, .inl (chbd, 12, .inl g_hbd_53)), (hlt, .inl (chlt, 12, .inl g_hlt_58)), (hle, .inl (chle, 12, .inl fhle)), (hgr, .inl (chgr, 12, .inl fhgr))]) hP hD hS hA [9, 3, 4, 5, 6, 7, 0, 8, 10, 1, 2] (by decide) rfl
        have hKc := hK.sub (tys' := [(chk9, .boolean), (chs, .int), (cha, .int), (chb9, .int), (chc9, .int), (chbd, .int), (chlt, .int), (chle, .int), (chgr, .int)]) [0, 1, 2, 3, 4, 5, 6, 8, 9] rfl
        refine va_callv (va_runV (As := []) (rest := []) ⟨hx, hb, hml, hown, hts⟩ (s_X4_setSpans l dC dI H_67.size h0 h1 p1 bl hk9 hlt (.ref hrk) hbd hle hgr 0 hs ha hb9 hc9 h1_4 (.int bl) chk9 g_hk9_49 chs fhs cha fha chb9 fhb9 chc9 fhc9 chbd g_hbd_53 chlt g_hlt_58 chle fhle chgr fhgr (z_bw hB_p1 (by decide) (by decide)) (z_bw hB_bl (by decide) (by decide)) (by decide) hI_ha hp_54 hR) (cwV 0 hts gw_s_X4_look_s_X4_setSpans_66 rfl rfl rfl (by decide +kernel) ⟨Nat.le_of_ble_eq_true rfl, Nat.le_of_ble_eq_true rfl⟩) ⟨z_blind, va_recv hKc hPc (ci := 4) (q0 := 0) rfl rfl, z_pre hPc hKc hDc⟩ rfl rfl hl.1 rfl (lv_room (Nat.le_of_ble_eq_true rfl)) dX4_look_79 ⟨Nat.le_of_ble_eq_true rfl, Nat.le_of_ble_eq_true rfl⟩) hS (fun q _ h => hFc q h) hFc (fun u t H_71 locs ht hvm hw_73 hB hz1 hk1 hS => ?_)
        obtain ⟨n_h0_clash_74, g_hle_75, g_hgr_76, hp_77, hP1, hK1, hD1⟩ := hB
        rw [ht] at hP1
        have hK1 := va_K.moved hvm.symm hK1
        obtain ⟨hP, hD⟩ := z_ap_1 (va_join (wr := [(hrk, .inl (chrk, 12, .inl g_h2_70))]) hP hD [9, 3, 4, 5, 6, 7, 0, 8, 10, 1, 2] [11] rfl rfl (by decide) (by decide) hk1 hFc hP1 hD1)
        clear hPc hDc hKc
        obtain ⟨hP9, hD9⟩ := z_sub2 (ws' := [(h0, .inr (4, [.ref h1, .int p1, .int bl, .ref hk9, .ref hlt, .ref hrk, .ref hbd, .ref hle, .ref hgr, .int n_h0_clash_74])), (h1, .inr (0, [.ref hs, .ref ha, .ref hb9, .ref hc9, h1_4, .int bl])), (hk9, .inl (chk9, 80, .inl g_hk9_49)), (hs, .inl (chs, 80, .inl fhs)), (ha, .inl (cha, 80, .inl fha)), (hb9, .inl (chb9, 80, .inl fhb9)), (hc9, .inl (chc9, 80, .inl fhc9)), (hbd, .inl (chbd, 12, .inl g_hbd_53)), (hlt, .inl (chlt, 12, .inl g_hlt_58)), (hrk, .inl (chrk, 12, .inl g_h2_70)), (hle, .inl (chle, 12, .inl g_hle_75)), (hgr, .inl (chgr, 12, .inl g_hgr_76))]) hP hD [1, 2, 3, 4, 5, 6, 7, 8, 9, 0, 10, 11] (by decide) rfl
        have hK9 := hK.sub (tys' := []) [] rfl
        refine W.widen (k := 0) (n := 0) (Nat.le_of_ble_eq_true rfl) (Nat.le_of_ble_eq_true rfl) ?_
        exact W.vret hx hb hr (fun t ht hW => ⟨⟨(), rfl, trivial, ⟨p1, bl, n_h0_clash_74, g_hk9_49, g_hbd_53, g_hlt_58, g_h2_70, g_hle_75, g_hgr_76, (z_bw hB_p1 (by decide) (by decide)), (z_bw hB_bl (by decide) (by decide)), hp_77, hp_54, by rw [ht]; exact hP9, va_K.moved hW.alike hK9, hD9⟩⟩, hS.F ht⟩) hS.2.2 dX4_look_82
      · have k_78 : (r_60).toInt ≠ (0 : Int) := z_ne c_62
        obtain rfl : r_60 = 1 := z_eq' (show (r_60).toInt = (1 : Int) by omega)
        refine lv_iconst (v := 1) hx hb dX4_look_59 (by decide) ?_
        refine lv_goto (tgt := 64) hx hb dX4_look_60 (by decide) ?_
        refine va_put (D := (dC, dI)) (ci := 4) (v := .int 1) (ty := .int) (C := RX4) (T := TX4) (N := 10) hx hb hts hiX4 tyX4 tyX4_ok nmX4 hown hK hP hD hS 4 rfl rfl 9 (by decide) w__fieldLink_RX4_38_ShellHeap_Known_clash_I_ (fun _ h9 => h9) rfl (by decide +kernel) rfl rfl (Nat.le_of_ble_eq_true rfl) dX4_look_64 (fun H_80 locs hP hD hS => ?_)
        obtain ⟨hP, hD⟩ := z_s_4_9 hP hD
        refine lv_aload_n hx hb dX4_look_67 rfl (lv_at hl 0 rfl) ?_
        refine va_get (D := (dC, dI)) (ci := 4) (v := .int 1) (C := RX4) (T := TX4) (N := 10) hx hb hts hiX4 hown hK hP 4 rfl rfl 9 (by decide) w__fieldLink_RX4_38_ShellHeap_Known_clash_I_ (fun _ h9 => h9) rfl dX4_look_68 ?_
        refine lv_if_ne (tgt := 82) hx hb dX4_look_71 (by decide) (fun _ => ?_) (fun c_81 => absurd c_81 (by decide))
        obtain ⟨hP9, hD9⟩ := z_sub2 (ws' := [(h0, .inr (4, [.ref h1, .int p1, .int bl, .ref hk9, .ref hlt, .ref hrk, .ref hbd, .ref hle, .ref hgr, .int 1])), (h1, .inr (0, [.ref hs, .ref ha, .ref hb9, .ref hc9, h1_4, .int bl])), (hk9, .inl (chk9, 80, .inl g_hk9_49)), (hs, .inl (chs, 80, .inl fhs)), (ha, .inl (cha, 80, .inl fha)), (hb9, .inl (chb9, 80, .inl fhb9)), (hc9, .inl (chc9, 80, .inl fhc9)), (hbd, .inl (chbd, 12, .inl g_hbd_53)), (hlt, .inl (chlt, 12, .inl g_hlt_58)), (hrk, .inl (chrk, 12, .inl fhrk)), (hle, .inl (chle, 12, .inl fhle)), (hgr, .inl (chgr, 12, .inl fhgr))]) hP hD [4, 5, 6, 7, 8, 9, 0, 10, 11, 1, 2, 3] (by decide) rfl
        have hK9 := hK.sub (tys' := []) [] rfl
        refine W.widen (k := 0) (n := 0) (Nat.le_of_ble_eq_true rfl) (Nat.le_of_ble_eq_true rfl) ?_
        exact W.vret hx hb hr (fun t ht hW => ⟨⟨(), rfl, trivial, ⟨p1, bl, 1, g_hk9_49, g_hbd_53, g_hlt_58, fhrk, fhle, fhgr, (z_bw hB_p1 (by decide) (by decide)), (z_bw hB_bl (by decide) (by decide)), (by decide), hp_54, by rw [ht]; exact hP9, va_K.moved hW.alike hK9, hD9⟩⟩, hS.F ht⟩) hS.2.2 dX4_look_82
    · have k_82 : (bl).toInt = (kl).toInt := z_eq c_42
      have hP9 := hP
      have hD9 := hD
      have hK9 := hK.sub (tys' := []) [] rfl
      refine W.widen (k := 0) (n := 0) (Nat.le_of_ble_eq_true rfl) (Nat.le_of_ble_eq_true rfl) ?_
      exact W.vret hx hb hr (fun t ht hW => ⟨⟨(), rfl, trivial, ⟨kn, kl, kc, fhk9, fhbd, fhlt, fhrk, fhle, fhgr, hB_kn, hB_kl, hB_kc, hI_hbd, by rw [ht]; exact hP9, va_K.moved hW.alike hK9, hD9⟩⟩, hS.F ht⟩) hS.2.2 dX4_look_22
