def u_s_X4_countsK : List Cond := .code yX4_counts cX4_counts 3 (some .boolean) :: ([.fieldLink RX4 9 "ShellHeap$Known" "notesSeen" "I", .fieldLink RX4 18 "ShellHeap$Known" "struck" "[Z", .fieldLink RX4 41 "ShellHeap$Known" "book" "LShellHeap$Book;", .fieldLink RX4 69 "ShellHeap$Book" "sort" "[I"] ++ (wsX40 ++ (wsX00 ++ [])))
theorem gd_s_X4_countsK : z_gd u_s_X4_countsK := z_gdc (by decide +kernel) (z_gda gdX4 (z_gda gdX0 (z_gd0)))
set_option maxHeartbeats 4000000 in
set_option maxRecDepth 100000 in
theorem s_X4_countsK (l : Launch) (dC : Nat → ClassId) (dI : Nat → Nat → Nat) (sz : Nat) (h0 : Nat) (p1 : Int32) (p2 : Int32) (h1 : Nat) (kn : Int32) (h0_2 : Value) (hk9 : Nat) (h0_4 : Value) (h0_5 : Value) (h0_6 : Value) (h0_7 : Value) (h0_8 : Value) (h0_9 : Value) (hs : Nat) (h1_1 : Value) (h1_2 : Value) (h1_3 : Value) (h1_4 : Value) (h1_5 : Value) (chk9 : ClassId) (fhk9 : Nat → Int32) (chs : ClassId) (fhs : Nat → Int32) (hB_kn : ((-1 : Int) ≤ (kn).toInt ∧ (kn).toInt ≤ (80 : Int))) (hB_p1 : ((0 : Int) ≤ (p1).toInt ∧ (p1).toInt ≤ (79 : Int))) : Met l yX4_counts u_s_X4_countsK ({ frames := 0, cells := 0, slots := 0, locals := 0 }) (va_Pc [.ref h0, .int p1, .int p2] (z_C (dC, dI) vwCl [(h0, .inr (4, [.ref h1, .int kn, h0_2, .ref hk9, h0_4, h0_5, h0_6, h0_7, h0_8, h0_9])), (h1, .inr (0, [.ref hs, h1_1, h1_2, h1_3, h1_4, h1_5])), (hk9, .inl (chk9, 80, .inl fhk9)), (hs, .inl (chs, 80, .inl fhs))] [(chk9, .boolean), (chs, .int)] sz)) (va_Qi (fun (r : Int32) (_ : Unit) => (r = 1 ∧ (p1.toInt < kn.toInt ∧ (fhk9 p1.toNatClampNeg).toInt = 0 ∧ (fhs p1.toNatClampNeg).toInt = p2.toInt)) ∨ (r = 0 ∧ ¬ (p1.toInt < kn.toInt ∧ (fhk9 p1.toNatClampNeg).toInt = 0 ∧ (fhs p1.toNatClampNeg).toInt = p2.toInt))) (fun (_ : Unit) (_ : State) => True) (va_A [] sz)) 0 0 (va_A [] sz) := by
  refine Met.ofW (cc := cX4_counts) (maxL := 3) (ret := (some .boolean)) (by decide) rfl ?_
  intro p e s m args below meth c s₁ B hml hv
  obtain ⟨rfl, hsz, hP, hK, hD0⟩ := hv
  have hx := B.exec
  have hb := B.bytes
  have hr := B.returns
  have hts := atoms_spec (ws := u_s_X4_countsK) B.pre
  have hown : s.vm.findClass RX4 = some m.cls := findClass_of_methodNamed B.named
  have hlocks := B.notSynchronized
  subst hsz
  have hD := hD0
  generalize hAe : va_A [] s.heap.size = A
  have hA : ∀ q : Nat, s.heap.size ≤ q → A q := fun q h => by rw [← hAe]; exact Or.inr h
  have hS : va_S A s.heap s.heap [] := va_S.rf
  have hP : va_P (dC, dI) vwCl [(h0, .inr (4, [.ref h1, .int kn, h0_2, .ref hk9, h0_4, h0_5, h0_6, h0_7, h0_8, h0_9])), (h1, .inr (0, [.ref hs, h1_1, h1_2, h1_3, h1_4, h1_5])), (hk9, .inl (chk9, 80, .inl fhk9)), (hs, .inl (chs, 80, .inl fhs))] s.heap := hP
  have w__fieldLink_RX4_9_ShellHeap_Known_notesSeen_I_ := hts (.fieldLink RX4 9 "ShellHeap$Known" "notesSeen" "I") (z_mc (z_ml z_m0))
  have hiX4 := show ∀ w ∈ u_ws RX4 TX4 10, w ∈ u_s_X4_countsK from fun w h => z_mc (z_mr (z_ml h))
  have w__fieldLink_RX4_18_ShellHeap_Known_struck_Z_ := hts (.fieldLink RX4 18 "ShellHeap$Known" "struck" "[Z") (z_mc (z_ml z_m1))
  have w__fieldLink_RX4_41_ShellHeap_Known_book_LShellHeap_Book_ := hts (.fieldLink RX4 41 "ShellHeap$Known" "book" "LShellHeap$Book;") (z_mc (z_ml z_m2))
  have w__fieldLink_RX4_69_ShellHeap_Book_sort_I_ := hts (.fieldLink RX4 69 "ShellHeap$Book" "sort" "[I") (z_mc (z_ml z_m3))
  have hiX0 := show ∀ w ∈ u_ws RX0 TX0 6, w ∈ u_s_X4_countsK from fun w h => z_mc (z_mr (z_mr (z_ml h)))
  have krr_p2 := z_rng p2
  have hl := lv_entry ([.ref h0, .int p1, .int p2]) (n := 3) (Nat.le_of_ble_eq_true rfl)
  rw [lg_entry_eq]
  generalize (lg_sl ([.ref h0, .int p1, .int p2]) ++ List.replicate (3 - (lg_sl ([.ref h0, .int p1, .int p2])).length) Slot.unset).toArray = ls at hl ⊢
  have hl : lv_has ls 3 [(0, .ref h0), (1, .int p1), (2, .int p2)] := hl
  refine lv_iload_n hx hb dX4_counts_0 rfl (lv_at hl 1 rfl) ?_
  refine lv_aload_n hx hb dX4_counts_1 rfl (lv_at hl 0 rfl) ?_
  refine va_get (D := (dC, dI)) (ci := 4) (v := .int kn) (C := RX4) (T := TX4) (N := 10) hx hb hts hiX4 hown hK hP 0 rfl rfl 1 (by decide) w__fieldLink_RX4_9_ShellHeap_Known_notesSeen_I_ (fun _ h9 => h9) rfl dX4_counts_2 ?_
  refine lv_icmp_ge (tgt := 34) hx hb dX4_counts_5 (by decide) (fun c_1 => ?_) (fun c_1 => ?_)
  · have k_2 : (kn).toInt ≤ (p1).toInt := z_le c_1
    refine lv_iconst (v := 0) hx hb dX4_counts_34 (by decide) ?_
    refine W.widen (k := 0) (n := 0) (Nat.le_of_ble_eq_true rfl) (Nat.le_of_ble_eq_true rfl) ?_
    exact W.zret (v := 0) hx hb hr (by rfl) (fun t ht hW => ⟨⟨0, (), rfl, (Or.inr (⟨rfl, by first | omega | decide⟩)), trivial⟩, hS.F ht⟩) hS.2.2 dX4_counts_35
  · have k_3 : (kn).toInt > (p1).toInt := z_nle c_1
    refine lv_aload_n hx hb dX4_counts_8 rfl (lv_at hl 0 rfl) ?_
    refine va_get (D := (dC, dI)) (ci := 4) (v := .ref hk9) (C := RX4) (T := TX4) (N := 10) hx hb hts hiX4 hown hK hP 0 rfl rfl 3 (by decide) w__fieldLink_RX4_18_ShellHeap_Known_struck_Z_ (fun _ h9 => h9) rfl dX4_counts_9 ?_
    refine lv_iload_n hx hb dX4_counts_12 rfl (lv_at hl 1 rfl) ?_
    refine va_zald hx hb hK hP 2 0 rfl rfl (z_vpinB hB_p1 (by decide) (by decide)) dX4_counts_13 ?_
    refine lv_topi (fun z_4 ez_4 => ?_)
    have kxz_4 : (z_4).toInt = (fhk9 (p1 : Int32).toNatClampNeg).toInt := by rw [ez_4]
    refine lv_if_ne (tgt := 34) hx hb dX4_counts_14 (by decide) (fun c_5 => ?_) (fun c_5 => ?_)
    · have k_6 : (z_4).toInt ≠ (0 : Int) := z_ne c_5
      refine lv_iconst (v := 0) hx hb dX4_counts_34 (by decide) ?_
      refine W.widen (k := 0) (n := 0) (Nat.le_of_ble_eq_true rfl) (Nat.le_of_ble_eq_true rfl) ?_
      exact W.zret (v := 0) hx hb hr (by rfl) (fun t ht hW => ⟨⟨0, (), rfl, (Or.inr (⟨rfl, by first | omega | decide⟩)), trivial⟩, hS.F ht⟩) hS.2.2 dX4_counts_35
    · have k_7 : (z_4).toInt = (0 : Int) := z_eq c_5
      obtain rfl : z_4 = 0 := z_eq' (show (z_4).toInt = (0 : Int) by omega)
      refine lv_aload_n hx hb dX4_counts_17 rfl (lv_at hl 0 rfl) ?_
      refine va_get (D := (dC, dI)) (ci := 4) (v := .ref h1) (C := RX4) (T := TX4) (N := 10) hx hb hts hiX4 hown hK hP 0 rfl rfl 0 (by decide) w__fieldLink_RX4_41_ShellHeap_Known_book_LShellHeap_Book_ (fun _ h9 => h9) rfl dX4_counts_18 ?_
      refine va_get (D := (dC, dI)) (ci := 0) (v := .ref hs) (C := RX0) (T := TX0) (N := 6) hx hb hts hiX0 hown hK hP 1 rfl rfl 0 (by decide) w__fieldLink_RX4_69_ShellHeap_Book_sort_I_ (fun _ h9 => h9) rfl dX4_counts_21 ?_
      refine lv_iload_n hx hb dX4_counts_24 rfl (lv_at hl 1 rfl) ?_
      refine va_iald hx hb hK hP 3 1 rfl rfl (z_vpinB hB_p1 (by decide) (by decide)) dX4_counts_25 ?_
      refine lv_topi (fun z_9 ez_9 => ?_)
      have kxz_9 : (z_9).toInt = (fhs (p1 : Int32).toNatClampNeg).toInt := by rw [ez_9]
      refine lv_iload_n hx hb dX4_counts_26 rfl (lv_at hl 2 rfl) ?_
      refine lv_icmp_ne (tgt := 34) hx hb dX4_counts_27 (by decide) (fun c_10 => ?_) (fun c_10 => ?_)
      · have k_11 : (z_9).toInt ≠ (p2).toInt := z_ne c_10
        refine lv_iconst (v := 0) hx hb dX4_counts_34 (by decide) ?_
        refine W.widen (k := 0) (n := 0) (Nat.le_of_ble_eq_true rfl) (Nat.le_of_ble_eq_true rfl) ?_
        exact W.zret (v := 0) hx hb hr (by rfl) (fun t ht hW => ⟨⟨0, (), rfl, (Or.inr (⟨rfl, by first | omega | decide⟩)), trivial⟩, hS.F ht⟩) hS.2.2 dX4_counts_35
      · have k_12 : (z_9).toInt = (p2).toInt := z_eq c_10
        refine lv_iconst (v := 1) hx hb dX4_counts_30 (by decide) ?_
        refine lv_goto (tgt := 35) hx hb dX4_counts_31 (by decide) ?_
        refine W.widen (k := 0) (n := 0) (Nat.le_of_ble_eq_true rfl) (Nat.le_of_ble_eq_true rfl) ?_
        exact W.zret (v := 1) hx hb hr (by rfl) (fun t ht hW => ⟨⟨1, (), rfl, (Or.inl (⟨rfl, by first | omega | decide⟩)), trivial⟩, hS.F ht⟩) hS.2.2 dX4_counts_35
def u_s_X4_isLaterK : List Cond := .code yX4_isLater cX4_isLater 3 (some .boolean) :: ([.fieldLink RX4 22 "ShellHeap$Known" "later" "[I"] ++ (wsX40 ++ []))
theorem gd_s_X4_isLaterK : z_gd u_s_X4_isLaterK := z_gdc (by decide +kernel) (z_gda gdX4 (z_gd0))
set_option maxHeartbeats 4000000 in
set_option maxRecDepth 100000 in
theorem s_X4_isLaterK (l : Launch) (dC : Nat → ClassId) (dI : Nat → Nat → Nat) (sz : Nat) (h0 : Nat) (p1 : Int32) (p2 : Int32) (h0_0 : Value) (h0_1 : Value) (h0_2 : Value) (h0_3 : Value) (h1 : Nat) (h0_5 : Value) (h0_6 : Value) (h0_7 : Value) (h0_8 : Value) (h0_9 : Value) (ch1 : ClassId) (fh1 : Nat → Int32) (hB_p1 : ((0 : Int) ≤ (p1).toInt ∧ (p1).toInt ≤ (11 : Int))) : Met l yX4_isLater u_s_X4_isLaterK ({ frames := 0, cells := 0, slots := 0, locals := 0 }) (va_Pc [.ref h0, .int p1, .int p2] (z_C (dC, dI) vwCl [(h0, .inr (4, [h0_0, h0_1, h0_2, h0_3, .ref h1, h0_5, h0_6, h0_7, h0_8, h0_9])), (h1, .inl (ch1, 12, .inl fh1))] [(ch1, .int)] sz)) (va_Qi (fun (r : Int32) (_ : Unit) => (r = 1 ∧ k_bt (fh1 p1.toNatClampNeg) p2.toInt) ∨ (r = 0 ∧ ¬ k_bt (fh1 p1.toNatClampNeg) p2.toInt)) (fun (_ : Unit) (_ : State) => True) (va_A [] sz)) 0 0 (va_A [] sz) := by
  refine Met.ofW (cc := cX4_isLater) (maxL := 3) (ret := (some .boolean)) (by decide) rfl ?_
  intro p e s m args below meth c s₁ B hml hv
  obtain ⟨rfl, hsz, hP, hK, hD0⟩ := hv
  have hx := B.exec
  have hb := B.bytes
  have hr := B.returns
  have hts := atoms_spec (ws := u_s_X4_isLaterK) B.pre
  have hown : s.vm.findClass RX4 = some m.cls := findClass_of_methodNamed B.named
  have hlocks := B.notSynchronized
  subst hsz
  have hD := hD0
  generalize hAe : va_A [] s.heap.size = A
  have hA : ∀ q : Nat, s.heap.size ≤ q → A q := fun q h => by rw [← hAe]; exact Or.inr h
  have hS : va_S A s.heap s.heap [] := va_S.rf
  have hP : va_P (dC, dI) vwCl [(h0, .inr (4, [h0_0, h0_1, h0_2, h0_3, .ref h1, h0_5, h0_6, h0_7, h0_8, h0_9])), (h1, .inl (ch1, 12, .inl fh1))] s.heap := hP
  have w__fieldLink_RX4_22_ShellHeap_Known_later_I_ := hts (.fieldLink RX4 22 "ShellHeap$Known" "later" "[I") (z_mc (z_ml z_m0))
  have hiX4 := show ∀ w ∈ u_ws RX4 TX4 10, w ∈ u_s_X4_isLaterK from fun w h => z_mc (z_mr (z_ml h))
  have krr_p2 := z_rng p2
  have hl := lv_entry ([.ref h0, .int p1, .int p2]) (n := 3) (Nat.le_of_ble_eq_true rfl)
  rw [lg_entry_eq]
  generalize (lg_sl ([.ref h0, .int p1, .int p2]) ++ List.replicate (3 - (lg_sl ([.ref h0, .int p1, .int p2])).length) Slot.unset).toArray = ls at hl ⊢
  have hl : lv_has ls 3 [(0, .ref h0), (1, .int p1), (2, .int p2)] := hl
  refine lv_aload_n hx hb dX4_isLater_0 rfl (lv_at hl 0 rfl) ?_
  refine va_get (D := (dC, dI)) (ci := 4) (v := .ref h1) (C := RX4) (T := TX4) (N := 10) hx hb hts hiX4 hown hK hP 0 rfl rfl 4 (by decide) w__fieldLink_RX4_22_ShellHeap_Known_later_I_ (fun _ h9 => h9) rfl dX4_isLater_1 ?_
  refine lv_iload_n hx hb dX4_isLater_4 rfl (lv_at hl 1 rfl) ?_
  refine va_iald hx hb hK hP 1 0 rfl rfl (z_vpinB hB_p1 (by decide) (by decide)) dX4_isLater_5 ?_
  refine lv_topi (fun z_1 ez_1 => ?_)
  have kxz_1 : (z_1).toInt = (fh1 (p1 : Int32).toNatClampNeg).toInt := by rw [ez_1]
  refine lv_iload_n hx hb dX4_isLater_6 rfl (lv_at hl 2 rfl) ?_
  refine lv_ishr hx hb dX4_isLater_7 ?_
  refine lv_topi (fun z_2 ez_2 => ?_)
  refine lv_iconst (v := 1) hx hb dX4_isLater_8 (by decide) ?_
  refine lv_iand hx hb dX4_isLater_9 ?_
  refine lv_topi (fun z_3 ez_3 => ?_)
  have kz_3 : (0 : Int) ≤ (z_3).toInt ∧ (z_3).toInt ≤ (1 : Int) := by rw [ez_3]; exact z_and _ 1 (by decide) (by decide)
  refine lv_if_eq (tgt := 17) hx hb dX4_isLater_10 (by decide) (fun c_4 => ?_) (fun c_4 => ?_)
  · have k_5 : (z_3).toInt = (0 : Int) := z_eq c_4
    obtain rfl : z_3 = 0 := z_eq' (show (z_3).toInt = (0 : Int) by omega)
    refine lv_iconst (v := 0) hx hb dX4_isLater_17 (by decide) ?_
    refine W.widen (k := 0) (n := 0) (Nat.le_of_ble_eq_true rfl) (Nat.le_of_ble_eq_true rfl) ?_
    exact W.zret (v := 0) hx hb hr (by rfl) (fun t ht hW => ⟨⟨0, (), rfl, (Or.inr (⟨rfl, k_bt_no (t := fh1 p1.toNatClampNeg) (p := p2) (ez_2.trans (by rw [ez_1])) ez_3 rfl (by omega)⟩)), trivial⟩, hS.F ht⟩) hS.2.2 dX4_isLater_18
  · have k_7 : (z_3).toInt ≠ (0 : Int) := z_ne c_4
    obtain rfl : z_3 = 1 := z_eq' (show (z_3).toInt = (1 : Int) by omega)
    refine lv_iconst (v := 1) hx hb dX4_isLater_13 (by decide) ?_
    refine lv_goto (tgt := 18) hx hb dX4_isLater_14 (by decide) ?_
    refine W.widen (k := 0) (n := 0) (Nat.le_of_ble_eq_true rfl) (Nat.le_of_ble_eq_true rfl) ?_
    exact W.zret (v := 1) hx hb hr (by rfl) (fun t ht hW => ⟨⟨1, (), rfl, (Or.inl (⟨rfl, k_bt_of (t := fh1 p1.toNatClampNeg) (p := p2) (ez_2.trans (by rw [ez_1])) ez_3 rfl (by omega)⟩)), trivial⟩, hS.F ht⟩) hS.2.2 dX4_isLater_18
def u_s_X4_findStruckK : List Cond := .code yX4_findStruck cX4_findStruck 2 none :: ([.fieldLink RX4 9 "ShellHeap$Known" "notesSeen" "I", .methodLink RX4 72 yX4_counts, .instanceMethod yX4_counts, .selects RX4 yX4_counts yX4_counts, .initialized RX4, .fieldLink RX4 41 "ShellHeap$Known" "book" "LShellHeap$Book;", .fieldLink RX4 76 "ShellHeap$Book" "a" "[I", .fieldLink RX4 18 "ShellHeap$Known" "struck" "[Z"] ++ (wsX40 ++ (wsX00 ++ (u_s_X4_countsK ++ []))))
theorem gd_s_X4_findStruckK : z_gd u_s_X4_findStruckK := z_gdc (by decide +kernel) (z_gda gdX4 (z_gda gdX0 (z_gda gd_s_X4_countsK (z_gd0))))
set_option maxRecDepth 20000 in
theorem gw_s_X4_findStruckK_s_X4_countsK_72 : GoodIn u_s_X4_findStruckK (wsV RX4 72 RX4 yX4_counts u_s_X4_countsK) := z_gV (z_gr _ [2, 3, 4, 5] rfl (by decide +kernel)) (fun w h => ⟨z_mc (z_mr (z_mr (z_mr (z_ml h)))), gd_s_X4_countsK w h⟩)
set_option maxHeartbeats 4000000 in
set_option maxRecDepth 100000 in
theorem s_X4_findStruckK (l : Launch) (dC : Nat → ClassId) (dI : Nat → Nat → Nat) (sz : Nat) (h0 : Nat) (h1 : Nat) (kn : Int32) (h0_2 : Value) (hk9 : Nat) (h0_4 : Value) (h0_5 : Value) (h0_6 : Value) (h0_7 : Value) (h0_8 : Value) (h0_9 : Value) (hs : Nat) (ha : Nat) (h1_2 : Value) (h1_3 : Value) (h1_4 : Value) (h1_5 : Value) (chk9 : ClassId) (fhk9 : Nat → Int32) (chs : ClassId) (fhs : Nat → Int32) (cha : ClassId) (fha : Nat → Int32) (hB_kn : ((-1 : Int) ≤ (kn).toInt ∧ (kn).toInt ≤ (80 : Int))) (hI_ha : ∀ j : Nat, ((0 : Int) ≤ (fha j).toInt ∧ (fha j).toInt ≤ (79 : Int))) : Met l yX4_findStruck u_s_X4_findStruckK ({ frames := 1, cells := 0, slots := 0, locals := 22 }) (va_Pc [.ref h0] (z_C (dC, dI) vwCl [(h0, .inr (4, [.ref h1, .int kn, h0_2, .ref hk9, h0_4, h0_5, h0_6, h0_7, h0_8, h0_9])), (h1, .inr (0, [.ref hs, .ref ha, h1_2, h1_3, h1_4, h1_5])), (hk9, .inl (chk9, 80, .inl fhk9)), (hs, .inl (chs, 80, .inl fhs)), (ha, .inl (cha, 80, .inl fha))] [(chk9, .boolean), (chs, .int), (cha, .int)] sz)) (va_Qv (fun (_ : Unit) => True) (fun (_ : Unit) (t : State) => ∃ (g_hk9 : Nat → Int32), (k_cx fhs fha kn.toInt g_hk9) ∧ va_P (dC, dI) vwCl [(h0, .inr (4, [.ref h1, .int kn, h0_2, .ref hk9, h0_4, h0_5, h0_6, h0_7, h0_8, h0_9])), (h1, .inr (0, [.ref hs, .ref ha, h1_2, h1_3, h1_4, h1_5])), (hk9, .inl (chk9, 80, .inl g_hk9)), (hs, .inl (chs, 80, .inl fhs)), (ha, .inl (cha, 80, .inl fha))] t.heap ∧ va_K (dC, dI) vwCl [] t ∧ va_D (va_A [(h0, .inr (4, [.ref h1, .int kn, h0_2, .ref hk9, h0_4, h0_5, h0_6, h0_7, h0_8, h0_9])), (h1, .inr (0, [.ref hs, .ref ha, h1_2, h1_3, h1_4, h1_5])), (hk9, .inl (chk9, 80, .inl fhk9)), (hs, .inl (chs, 80, .inl fhs)), (ha, .inl (cha, 80, .inl fha))] sz) [(h0, .inr (4, [.ref h1, .int kn, h0_2, .ref hk9, h0_4, h0_5, h0_6, h0_7, h0_8, h0_9])), (h1, .inr (0, [.ref hs, .ref ha, h1_2, h1_3, h1_4, h1_5])), (hk9, .inl (chk9, 80, .inl g_hk9)), (hs, .inl (chs, 80, .inl fhs)), (ha, .inl (cha, 80, .inl fha))]) (va_A [(h0, .inr (4, [.ref h1, .int kn, h0_2, .ref hk9, h0_4, h0_5, h0_6, h0_7, h0_8, h0_9])), (h1, .inr (0, [.ref hs, .ref ha, h1_2, h1_3, h1_4, h1_5])), (hk9, .inl (chk9, 80, .inl fhk9)), (hs, .inl (chs, 80, .inl fhs)), (ha, .inl (cha, 80, .inl fha))] sz)) 0 0 (va_A [(h0, .inr (4, [.ref h1, .int kn, h0_2, .ref hk9, h0_4, h0_5, h0_6, h0_7, h0_8, h0_9])), (h1, .inr (0, [.ref hs, .ref ha, h1_2, h1_3, h1_4, h1_5])), (hk9, .inl (chk9, 80, .inl fhk9)), (hs, .inl (chs, 80, .inl fhs)), (ha, .inl (cha, 80, .inl fha))] sz) := by
  refine Met.ofW (cc := cX4_findStruck) (maxL := 2) (ret := none) (by decide) rfl ?_
  intro p e s m args below meth c s₁ B hml hv
  obtain ⟨rfl, hsz, hP, hK, hD0⟩ := hv
  have hx := B.exec
  have hb := B.bytes
  have hr := B.returns
  have hts := atoms_spec (ws := u_s_X4_findStruckK) B.pre
  have hown : s.vm.findClass RX4 = some m.cls := findClass_of_methodNamed B.named
  have hlocks := B.notSynchronized
  subst hsz
  have hD := hD0.self (sz := s.heap.size)
  generalize hAe : va_A [(h0, .inr (4, [.ref h1, .int kn, h0_2, .ref hk9, h0_4, h0_5, h0_6, h0_7, h0_8, h0_9])), (h1, .inr (0, [.ref hs, .ref ha, h1_2, h1_3, h1_4, h1_5])), (hk9, .inl (chk9, 80, .inl fhk9)), (hs, .inl (chs, 80, .inl fhs)), (ha, .inl (cha, 80, .inl fha))] s.heap.size = A at hD ⊢
  have hA : ∀ q : Nat, s.heap.size ≤ q → A q := fun q h => by rw [← hAe]; exact Or.inr h
  have hS : va_S A s.heap s.heap [] := va_S.rf
  have hP : va_P (dC, dI) vwCl [(h0, .inr (4, [.ref h1, .int kn, h0_2, .ref hk9, h0_4, h0_5, h0_6, h0_7, h0_8, h0_9])), (h1, .inr (0, [.ref hs, .ref ha, h1_2, h1_3, h1_4, h1_5])), (hk9, .inl (chk9, 80, .inl fhk9)), (hs, .inl (chs, 80, .inl fhs)), (ha, .inl (cha, 80, .inl fha))] s.heap := hP
  have w__fieldLink_RX4_9_ShellHeap_Known_notesSeen_I_ := hts (.fieldLink RX4 9 "ShellHeap$Known" "notesSeen" "I") (z_mc (z_ml z_m0))
  have hiX4 := show ∀ w ∈ u_ws RX4 TX4 10, w ∈ u_s_X4_findStruckK from fun w h => z_mc (z_mr (z_ml h))
  have w__fieldLink_RX4_41_ShellHeap_Known_book_LShellHeap_Book_ := hts (.fieldLink RX4 41 "ShellHeap$Known" "book" "LShellHeap$Book;") (z_mc (z_ml z_m5))
  have w__fieldLink_RX4_76_ShellHeap_Book_a_I_ := hts (.fieldLink RX4 76 "ShellHeap$Book" "a" "[I") (z_mc (z_ml z_m6))
  have hiX0 := show ∀ w ∈ u_ws RX0 TX0 6, w ∈ u_s_X4_findStruckK from fun w h => z_mc (z_mr (z_mr (z_ml h)))
  have w__fieldLink_RX4_18_ShellHeap_Known_struck_Z_ := hts (.fieldLink RX4 18 "ShellHeap$Known" "struck" "[Z") (z_mc (z_ml z_m7))
  have hl := lv_entry ([.ref h0]) (n := 2) (Nat.le_of_ble_eq_true rfl)
  rw [lg_entry_eq]
  generalize (lg_sl ([.ref h0]) ++ List.replicate (2 - (lg_sl ([.ref h0])).length) Slot.unset).toArray = ls at hl ⊢
  have hl : lv_has ls 2 [(0, .ref h0)] := hl
  refine z_nameQ (fun QQ hQQ => ?_)
  refine lv_iconst (v := 0) hx hb dX4_findStruck_0 (by decide) ?_
  refine lv_istore_n (lv' := [(1, .int 0), (0, .ref h0)]) hx hb dX4_findStruck_1 rfl hl (by decide) rfl (fun ls hl => ?_)
  have loop_1 : ∀ (n_2 : Nat) (i_4 : Int32) (f_5 : Nat → Int32) (H : Heap) (locs : List Loc) (ls : Array Slot), (81 - (i_4).toInt).toNat < n_2 → (((0 : Int) ≤ (i_4).toInt ∧ (i_4).toInt ≤ (80 : Int))) → (k_z (i_4).toInt f_5) → va_P (dC, dI) vwCl [(h0, .inr (4, [.ref h1, .int kn, h0_2, .ref hk9, h0_4, h0_5, h0_6, h0_7, h0_8, h0_9])), (h1, .inr (0, [.ref hs, .ref ha, h1_2, h1_3, h1_4, h1_5])), (hk9, .inl (chk9, 80, .inl f_5)), (hs, .inl (chs, 80, .inl fhs)), (ha, .inl (cha, 80, .inl fha))] H → va_D A [(h0, .inr (4, [.ref h1, .int kn, h0_2, .ref hk9, h0_4, h0_5, h0_6, h0_7, h0_8, h0_9])), (h1, .inr (0, [.ref hs, .ref ha, h1_2, h1_3, h1_4, h1_5])), (hk9, .inl (chk9, 80, .inl f_5)), (hs, .inl (chs, 80, .inl fhs)), (ha, .inl (cha, 80, .inl fha))] → va_S A s.heap H locs → lv_has ls 2 [(1, .int i_4), (0, .ref h0)] → W p l e ({ frames := 1, cells := 0, slots := 0, locals := 22 } : Room) s m ([.ref h0] : List Value).toArray below meth c H locs 0 0 QQ (F0 m 2 ls []) := by
    intro n_2
    induction n_2 with
    | zero => intro i_4 f_5 H locs ls hm; exact absurd hm (Nat.not_lt_zero _)
    | succ n_2 ih_3 =>
      intro i_4 f_5 H locs ls hm hF_6 hF_7 hP hD hS hl
      refine lv_iload_n hx hb dX4_findStruck_2 rfl (lv_at hl 0 rfl) ?_
      refine lv_aload_n hx hb dX4_findStruck_3 rfl (lv_at hl 1 rfl) ?_
      refine va_get (D := (dC, dI)) (ci := 4) (v := .int kn) (C := RX4) (T := TX4) (N := 10) hx hb hts hiX4 hown hK hP 0 rfl rfl 1 (by decide) w__fieldLink_RX4_9_ShellHeap_Known_notesSeen_I_ (fun _ h9 => h9) rfl dX4_findStruck_4 ?_
      refine lv_icmp_ge (tgt := 23) hx hb dX4_findStruck_7 (by decide) (fun c_8 => ?_) (fun c_8 => ?_)
      · have k_9 : (kn).toInt ≤ (i_4).toInt := z_le c_8
        refine lv_aload_n hx hb dX4_findStruck_23 rfl (lv_at hl 1 rfl) ?_
        refine va_get (D := (dC, dI)) (ci := 4) (v := .int kn) (C := RX4) (T := TX4) (N := 10) hx hb hts hiX4 hown hK hP 0 rfl rfl 1 (by decide) w__fieldLink_RX4_9_ShellHeap_Known_notesSeen_I_ (fun _ h9 => h9) rfl dX4_findStruck_24 ?_
        refine lv_iconst (v := 1) hx hb dX4_findStruck_27 (by decide) ?_
        refine lv_isub hx hb dX4_findStruck_28 ?_
        refine lv_topi (fun z_10 ez_10 => ?_)
        have kz_10 : (z_10).toInt = (kn).toInt - (1 : Int) := by rw [ez_10]; exact z_sub (a := (kn).toInt) (b := (1 : Int)) rfl rfl (z_mlo hB_kn.1 (by decide)) (z_mhi hB_kn.2 (by decide))
        refine lv_istore_n (lv' := [(1, .int z_10), (0, .ref h0)]) hx hb dX4_findStruck_29 rfl hl (by decide) rfl (fun ls hl => ?_)
        have loop_11 : ∀ (n_12 : Nat) (i_14 : Int32) (f_15 : Nat → Int32) (H : Heap) (locs : List Loc) (ls : Array Slot), ((i_14).toInt + 3).toNat < n_12 → (((-2 : Int) ≤ (i_14).toInt ∧ (i_14).toInt ≤ (79 : Int))) → (k_sl fhs fha (kn).toInt (i_14).toInt f_15) → ((i_14).toInt < (kn).toInt ∨ (i_14).toInt = (-2 : Int)) → va_P (dC, dI) vwCl [(h0, .inr (4, [.ref h1, .int kn, h0_2, .ref hk9, h0_4, h0_5, h0_6, h0_7, h0_8, h0_9])), (h1, .inr (0, [.ref hs, .ref ha, h1_2, h1_3, h1_4, h1_5])), (hk9, .inl (chk9, 80, .inl f_15)), (hs, .inl (chs, 80, .inl fhs)), (ha, .inl (cha, 80, .inl fha))] H → va_D A [(h0, .inr (4, [.ref h1, .int kn, h0_2, .ref hk9, h0_4, h0_5, h0_6, h0_7, h0_8, h0_9])), (h1, .inr (0, [.ref hs, .ref ha, h1_2, h1_3, h1_4, h1_5])), (hk9, .inl (chk9, 80, .inl f_15)), (hs, .inl (chs, 80, .inl fhs)), (ha, .inl (cha, 80, .inl fha))] → va_S A s.heap H locs → lv_has ls 2 [(1, .int i_14), (0, .ref h0)] → W p l e ({ frames := 1, cells := 0, slots := 0, locals := 22 } : Room) s m ([.ref h0] : List Value).toArray below meth c H locs 0 0 QQ (F0 m 30 ls []) := by
          intro n_12
          induction n_12 with
          | zero => intro i_14 f_15 H locs ls hm; exact absurd hm (Nat.not_lt_zero _)
          | succ n_12 ih_13 =>
            intro i_14 f_15 H locs ls hm hF_16 hF_17 hF_18 hP hD hS hl
            refine lv_iload_n hx hb dX4_findStruck_30 rfl (lv_at hl 0 rfl) ?_
            refine lv_if_lt (tgt := 77) hx hb dX4_findStruck_31 (by decide) (fun c_19 => ?_) (fun c_19 => ?_)
            · have k_20 : (i_14).toInt < (0 : Int) := z_lt c_19
              refine z_backQ hQQ ?_
              have hP9 := hP
              have hD9 := hD
              have hK9 := hK.sub (tys' := []) [] rfl
              refine W.widen (k := 0) (n := 0) (Nat.le_of_ble_eq_true rfl) (Nat.le_of_ble_eq_true rfl) ?_
              exact W.vret hx hb hr (fun t ht hW => ⟨⟨(), rfl, trivial, ⟨f_15, (show k_cx fhs fha kn.toInt f_15 from k_cx_of hF_17 (by omega)), by rw [ht]; exact hP9, va_K.moved hW.alike hK9, hD9⟩⟩, hS.F ht⟩) hS.2.2 dX4_findStruck_77
            · have k_21 : (i_14).toInt ≥ (0 : Int) := z_nlt c_19
              refine lv_aload_n hx hb dX4_findStruck_34 rfl (lv_at hl 1 rfl) ?_
              refine lv_iload_n hx hb dX4_findStruck_35 rfl (lv_at hl 0 rfl) ?_
              refine lv_iconst (v := 5) hx hb dX4_findStruck_36 (by decide) ?_
              obtain ⟨hPc, hDc⟩ := z_sub2 (ws' := [(h0, .inr (4, [.ref h1, .int kn, h0_2, .ref hk9, h0_4, h0_5, h0_6, h0_7, h0_8, h0_9])), (h1, .inr (0, [.ref hs, .ref ha, h1_2, h1_3, h1_4, h1_5])), (hk9, .inl (chk9, 80, .inl f_15)), (hs, .inl (chs, 80, .inl fhs))]) hP hD [0, 1, 2, 3] (by decide) rfl
              have hKc := hK.sub (tys' := [(chk9, .boolean), (chs, .int)]) [0, 1] rfl
              have hFc := va_free (ws := []) (wc := []) (z_D0 _) hS hA [] rfl
              refine va_calli (va_runV (As := [.int i_14, .int 5]) (rest := []) ⟨hx, hb, hml, hown, hts⟩ (s_X4_countsK l dC dI H.size h0 i_14 5 h1 kn h0_2 hk9 h0_4 h0_5 h0_6 h0_7 h0_8 h0_9 hs (.ref ha) h1_2 h1_3 h1_4 h1_5 chk9 f_15 chs fhs hB_kn (by first | omega | decide)) (cwV 2 hts gw_s_X4_findStruckK_s_X4_countsK_72 rfl rfl rfl (by decide +kernel) ⟨Nat.le_of_ble_eq_true rfl, Nat.le_of_ble_eq_true rfl⟩) ⟨z_blind, va_recv hKc hPc (ci := 4) (q0 := 0) rfl rfl, z_pre hPc hKc hDc⟩ rfl rfl hl.1 rfl (lv_room (Nat.le_of_ble_eq_true rfl)) dX4_findStruck_37 ⟨Nat.le_of_ble_eq_true rfl, Nat.le_of_ble_eq_true rfl⟩) hS (fun q _ h => hFc q h) hFc (fun r_23 u t H_22 locs ht hvm hw_24 hB hz1 hk1 hS => ?_)
              replace hP := z_pure hP hk1
              clear hPc hDc hKc
              rcases hw_24 with ⟨rfl, hw_24⟩ | ⟨rfl, hw_24⟩
              · have hw_24 : (i_14.toInt < kn.toInt ∧ (f_15 i_14.toNatClampNeg).toInt = 0 ∧ (fhs i_14.toNatClampNeg).toInt = (5 : Int)) := hw_24
                refine lv_if_eq (tgt := 71) hx hb dX4_findStruck_40 (by decide) (fun c_25 => absurd c_25 (by decide)) (fun _ => ?_)
                refine lv_aload_n hx hb dX4_findStruck_43 rfl (lv_at hl 1 rfl) ?_
                refine va_get (D := (dC, dI)) (ci := 4) (v := .ref h1) (C := RX4) (T := TX4) (N := 10) hx hb hts hiX4 hown hK hP 0 rfl rfl 0 (by decide) w__fieldLink_RX4_41_ShellHeap_Known_book_LShellHeap_Book_ (fun _ h9 => h9) rfl dX4_findStruck_44 ?_
                refine va_get (D := (dC, dI)) (ci := 0) (v := .ref ha) (C := RX0) (T := TX0) (N := 6) hx hb hts hiX0 hown hK hP 1 rfl rfl 1 (by decide) w__fieldLink_RX4_76_ShellHeap_Book_a_I_ (fun _ h9 => h9) rfl dX4_findStruck_47 ?_
                refine lv_iload_n hx hb dX4_findStruck_50 rfl (lv_at hl 0 rfl) ?_
                refine va_iald hx hb hK hP 4 2 rfl rfl (z_vpin (by omega) (by omega)) dX4_findStruck_51 ?_
                refine lv_topi (fun z_26 ez_26 => ?_)
                have kz_26 : ((0 : Int) ≤ (z_26).toInt ∧ (z_26).toInt ≤ (79 : Int)) := by rw [ez_26]; exact hI_ha _
                have kxz_26 : (z_26).toInt = (fha (i_14 : Int32).toNatClampNeg).toInt := by rw [ez_26]
                refine lv_iload_n hx hb dX4_findStruck_52 rfl (lv_at hl 0 rfl) ?_
                refine lv_icmp_ge (tgt := 71) hx hb dX4_findStruck_53 (by decide) (fun c_27 => ?_) (fun c_27 => ?_)
                · have k_28 : (i_14).toInt ≤ (z_26).toInt := z_le c_27
                  obtain ⟨z_29, ez_29⟩ : ∃ y : Int32, y = i_14 + (-1) := ⟨_, rfl⟩
                  have kz_29 : (z_29).toInt = (i_14).toInt + (-1 : Int) := by rw [ez_29]; exact z_add (b := -1) rfl rfl (z_al hF_16.1 (by decide)) (z_ah hF_16.2 (by decide))
                  refine lv_iinc (v := z_29) (lv' := [(1, .int z_29), (0, .ref h0)]) hx hb dX4_findStruck_71 hl (k := 0) rfl (by rw [ez_29]; rfl) (by decide) rfl (fun ls hl => ?_)
                  refine lv_goto (tgt := 30) hx hb dX4_findStruck_74 (by decide) ?_
                  exact ih_13 z_29 f_15 _ _ _ (show ((z_29).toInt + 3).toNat < n_12 by omega) (show ((-2 : Int) ≤ (z_29).toInt ∧ (z_29).toInt ≤ (79 : Int)) by omega) (show k_sl fhs fha (kn).toInt (z_29).toInt f_15 from k_sl_n (i := i_14) hF_17 (by omega) (by omega) (fun h9 => absurd h9.2.2 (by omega))) (show (z_29).toInt < (kn).toInt ∨ (z_29).toInt = (-2 : Int) by omega) hP hD hS (lv_sub hl [0, 1] rfl)
                · have k_30 : (i_14).toInt > (z_26).toInt := z_nle c_27
                  refine lv_aload_n hx hb dX4_findStruck_56 rfl (lv_at hl 1 rfl) ?_
                  refine va_get (D := (dC, dI)) (ci := 4) (v := .ref hk9) (C := RX4) (T := TX4) (N := 10) hx hb hts hiX4 hown hK hP 0 rfl rfl 3 (by decide) w__fieldLink_RX4_18_ShellHeap_Known_struck_Z_ (fun _ h9 => h9) rfl dX4_findStruck_57 ?_
                  refine lv_aload_n hx hb dX4_findStruck_60 rfl (lv_at hl 1 rfl) ?_
                  refine va_get (D := (dC, dI)) (ci := 4) (v := .ref h1) (C := RX4) (T := TX4) (N := 10) hx hb hts hiX4 hown hK hP 0 rfl rfl 0 (by decide) w__fieldLink_RX4_41_ShellHeap_Known_book_LShellHeap_Book_ (fun _ h9 => h9) rfl dX4_findStruck_61 ?_
                  refine va_get (D := (dC, dI)) (ci := 0) (v := .ref ha) (C := RX0) (T := TX0) (N := 6) hx hb hts hiX0 hown hK hP 1 rfl rfl 1 (by decide) w__fieldLink_RX4_76_ShellHeap_Book_a_I_ (fun _ h9 => h9) rfl dX4_findStruck_64 ?_
                  refine lv_iload_n hx hb dX4_findStruck_67 rfl (lv_at hl 0 rfl) ?_
                  refine va_iald hx hb hK hP 4 2 rfl rfl (z_vpin (by omega) (by omega)) dX4_findStruck_68 ?_
                  refine lv_topi (fun z_31 ez_31 => ?_)
                  have kz_31 : ((0 : Int) ≤ (z_31).toInt ∧ (z_31).toInt ≤ (79 : Int)) := by rw [ez_31]; exact hI_ha _
                  have kxz_31 : (z_31).toInt = (fha (i_14 : Int32).toNatClampNeg).toInt := by rw [ez_31]
                  refine lv_iconst (v := 1) hx hb dX4_findStruck_69 (by decide) ?_
                  refine va_zast hx hb hK hP hD hS 2 0 rfl rfl (z_vpinB kz_31 (by decide) (by decide)) dX4_findStruck_70 (fun H_32 locs hP hD hS => ?_)
                  obtain ⟨hP, hD⟩ := z_s_2 hP hD
                  obtain ⟨z_34, ez_34⟩ : ∃ y : Int32, y = i_14 + (-1) := ⟨_, rfl⟩
                  have kz_34 : (z_34).toInt = (i_14).toInt + (-1 : Int) := by rw [ez_34]; exact z_add (b := -1) rfl rfl (z_al hF_16.1 (by decide)) (z_ah hF_16.2 (by decide))
                  refine lv_iinc (v := z_34) (lv' := [(1, .int z_34), (0, .ref h0)]) hx hb dX4_findStruck_71 hl (k := 0) rfl (by rw [ez_34]; rfl) (by decide) rfl (fun ls hl => ?_)
                  refine lv_goto (tgt := 30) hx hb dX4_findStruck_74 (by decide) ?_
                  exact ih_13 z_34 (upd f_15 (z_31 : Int32).toNatClampNeg (vp_nar .boolean 1)) _ _ _ (show ((z_34).toInt + 3).toNat < n_12 by omega) (show ((-2 : Int) ≤ (z_34).toInt ∧ (z_34).toInt ≤ (79 : Int)) by omega) (show k_sl fhs fha (kn).toInt (z_34).toInt (upd f_15 (z_31 : Int32).toNatClampNeg (vp_nar .boolean 1)) from k_sl_y (i := i_14) (x := z_31) hF_17 (by omega) (by omega) (by omega) hw_24.2.2 hw_24.2.1 ez_31 (by omega) (by omega) (by decide)) (show (z_34).toInt < (kn).toInt ∨ (z_34).toInt = (-2 : Int) by omega) hP hD hS (lv_sub hl [0, 1] rfl)
              · have hw_24 : ¬ (i_14.toInt < kn.toInt ∧ (f_15 i_14.toNatClampNeg).toInt = 0 ∧ (fhs i_14.toNatClampNeg).toInt = (5 : Int)) := hw_24
                refine lv_if_eq (tgt := 71) hx hb dX4_findStruck_40 (by decide) (fun _ => ?_) (fun c_35 => absurd (by decide) c_35)
                obtain ⟨z_36, ez_36⟩ : ∃ y : Int32, y = i_14 + (-1) := ⟨_, rfl⟩
                have kz_36 : (z_36).toInt = (i_14).toInt + (-1 : Int) := by rw [ez_36]; exact z_add (b := -1) rfl rfl (z_al hF_16.1 (by decide)) (z_ah hF_16.2 (by decide))
                refine lv_iinc (v := z_36) (lv' := [(1, .int z_36), (0, .ref h0)]) hx hb dX4_findStruck_71 hl (k := 0) rfl (by rw [ez_36]; rfl) (by decide) rfl (fun ls hl => ?_)
                refine lv_goto (tgt := 30) hx hb dX4_findStruck_74 (by decide) ?_
                exact ih_13 z_36 f_15 _ _ _ (show ((z_36).toInt + 3).toNat < n_12 by omega) (show ((-2 : Int) ≤ (z_36).toInt ∧ (z_36).toInt ≤ (79 : Int)) by omega) (show k_sl fhs fha (kn).toInt (z_36).toInt f_15 from k_sl_n (i := i_14) hF_17 (by omega) (by omega) (fun h9 => hw_24 ⟨by omega, h9.2.1, h9.1⟩)) (show (z_36).toInt < (kn).toInt ∨ (z_36).toInt = (-2 : Int) by omega) hP hD hS (lv_sub hl [0, 1] rfl)
        exact loop_11 _ z_10 f_5 _ _ _ (Nat.lt_succ_self _) (show ((-2 : Int) ≤ (z_10).toInt ∧ (z_10).toInt ≤ (79 : Int)) by omega) (show k_sl fhs fha (kn).toInt (z_10).toInt f_5 from k_sl_0 hF_7 (by omega) (by omega)) (show (z_10).toInt < (kn).toInt ∨ (z_10).toInt = (-2 : Int) by omega) hP hD hS hl
      · have k_37 : (kn).toInt > (i_4).toInt := z_nle c_8
        refine lv_aload_n hx hb dX4_findStruck_10 rfl (lv_at hl 1 rfl) ?_
        refine va_get (D := (dC, dI)) (ci := 4) (v := .ref hk9) (C := RX4) (T := TX4) (N := 10) hx hb hts hiX4 hown hK hP 0 rfl rfl 3 (by decide) w__fieldLink_RX4_18_ShellHeap_Known_struck_Z_ (fun _ h9 => h9) rfl dX4_findStruck_11 ?_
        refine lv_iload_n hx hb dX4_findStruck_14 rfl (lv_at hl 0 rfl) ?_
        refine lv_iconst (v := 0) hx hb dX4_findStruck_15 (by decide) ?_
        refine va_zast hx hb hK hP hD hS 2 0 rfl rfl (z_vpin (by omega) (by omega)) dX4_findStruck_16 (fun H_38 locs hP hD hS => ?_)
        obtain ⟨hP, hD⟩ := z_s_2 hP hD
        obtain ⟨z_40, ez_40⟩ : ∃ y : Int32, y = i_4 + 1 := ⟨_, rfl⟩
        have kz_40 : (z_40).toInt = (i_4).toInt + (1 : Int) := by rw [ez_40]; exact z_add (b := 1) rfl rfl (z_al hF_6.1 (by decide)) (z_ah hF_6.2 (by decide))
        refine lv_iinc (v := z_40) (lv' := [(1, .int z_40), (0, .ref h0)]) hx hb dX4_findStruck_17 hl (k := 0) rfl (by rw [ez_40]; rfl) (by decide) rfl (fun ls hl => ?_)
        refine lv_goto (tgt := 2) hx hb dX4_findStruck_20 (by decide) ?_
        exact ih_3 z_40 (upd f_5 (i_4 : Int32).toNatClampNeg (vp_nar .boolean 0)) _ _ _ (show (81 - (z_40).toInt).toNat < n_2 by omega) (show ((0 : Int) ≤ (z_40).toInt ∧ (z_40).toInt ≤ (80 : Int)) by omega) (show k_z (z_40).toInt (upd f_5 (i_4 : Int32).toNatClampNeg (vp_nar .boolean 0)) from k_z_s (i := i_4) hF_7 (by omega) (by decide) (by omega)) hP hD hS (lv_sub hl [0, 1] rfl)
  exact loop_1 _ 0 fhk9 _ _ _ (Nat.lt_succ_self _) (show ((0 : Int) ≤ (0 : Int) ∧ (0 : Int) ≤ (80 : Int)) by omega) (show k_z (0 : Int) fhk9 from k_z_0 (by decide)) hP hD hS hl
def u_s_X4_joinK : List Cond := .code yX4_join cX4_join 6 none :: ([.methodLink RX4 86 Lib.Math.min.name, .static Lib.Math.min.name, .initialized "java/lang/Math", .code Lib.Math.min.name Lib.Math.min.code 2 (some .int), .methodLink RX4 92 Lib.Math.max.name, .static Lib.Math.max.name, .code Lib.Math.max.name Lib.Math.max.code 2 (some .int), .fieldLink RX4 15 "ShellHeap$Known" "layersSeen" "I", .fieldLink RX4 29 "ShellHeap$Known" "bedOf" "[I"] ++ (wsX40 ++ []))
theorem gd_s_X4_joinK : z_gd u_s_X4_joinK := z_gdc (by decide +kernel) (z_gda gdX4 (z_gd0))
set_option maxHeartbeats 4000000 in
set_option maxRecDepth 100000 in
theorem s_X4_joinK (l : Launch) (dC : Nat → ClassId) (dI : Nat → Nat → Nat) (sz : Nat) (h0 : Nat) (p1 : Int32) (p2 : Int32) (h0_0 : Value) (h0_1 : Value) (kl : Int32) (h0_3 : Value) (h0_4 : Value) (h0_5 : Value) (h1 : Nat) (h0_7 : Value) (h0_8 : Value) (h0_9 : Value) (ch1 : ClassId) (fh1 : Nat → Int32) (hB_kl : ((-1 : Int) ≤ (kl).toInt ∧ (kl).toInt ≤ (12 : Int))) (hB_p1 : ((0 : Int) ≤ (p1).toInt ∧ (p1).toInt ≤ (11 : Int))) (hB_p2 : ((0 : Int) ≤ (p2).toInt ∧ (p2).toInt ≤ (11 : Int))) (hI_h1 : ∀ j : Nat, ((0 : Int) ≤ (fh1 j).toInt ∧ (fh1 j).toInt ≤ (11 : Int))) : Met l yX4_join u_s_X4_joinK ({ frames := 1, cells := 0, slots := 0, locals := 13 }) (va_Pc [.ref h0, .int p1, .int p2] (z_C (dC, dI) vwCl [(h0, .inr (4, [h0_0, h0_1, .int kl, h0_3, h0_4, h0_5, .ref h1, h0_7, h0_8, h0_9])), (h1, .inl (ch1, 12, .inl fh1))] [(ch1, .int)] sz)) (va_Qv (fun (_ : Unit) => True) (fun (_ : Unit) (t : State) => ∃ (g_h1 : Nat → Int32), (∀ j : Nat, ((0 : Int) ≤ (g_h1 j).toInt ∧ (g_h1 j).toInt ≤ (11 : Int))) ∧ (k_jn kl.toInt p1.toInt p2.toInt fh1 g_h1) ∧ va_P (dC, dI) vwCl [(h0, .inr (4, [h0_0, h0_1, .int kl, h0_3, h0_4, h0_5, .ref h1, h0_7, h0_8, h0_9])), (h1, .inl (ch1, 12, .inl g_h1))] t.heap ∧ va_K (dC, dI) vwCl [] t ∧ va_D (va_A [(h0, .inr (4, [h0_0, h0_1, .int kl, h0_3, h0_4, h0_5, .ref h1, h0_7, h0_8, h0_9])), (h1, .inl (ch1, 12, .inl fh1))] sz) [(h0, .inr (4, [h0_0, h0_1, .int kl, h0_3, h0_4, h0_5, .ref h1, h0_7, h0_8, h0_9])), (h1, .inl (ch1, 12, .inl g_h1))]) (va_A [(h0, .inr (4, [h0_0, h0_1, .int kl, h0_3, h0_4, h0_5, .ref h1, h0_7, h0_8, h0_9])), (h1, .inl (ch1, 12, .inl fh1))] sz)) 0 0 (va_A [(h0, .inr (4, [h0_0, h0_1, .int kl, h0_3, h0_4, h0_5, .ref h1, h0_7, h0_8, h0_9])), (h1, .inl (ch1, 12, .inl fh1))] sz) := by
  refine Met.ofW (cc := cX4_join) (maxL := 6) (ret := none) (by decide) rfl ?_
  intro p e s m args below meth c s₁ B hml hv
  obtain ⟨rfl, hsz, hP, hK, hD0⟩ := hv
  have hx := B.exec
  have hb := B.bytes
  have hr := B.returns
  have hts := atoms_spec (ws := u_s_X4_joinK) B.pre
  have hown : s.vm.findClass RX4 = some m.cls := findClass_of_methodNamed B.named
  have hlocks := B.notSynchronized
  subst hsz
  have hD := hD0.self (sz := s.heap.size)
  generalize hAe : va_A [(h0, .inr (4, [h0_0, h0_1, .int kl, h0_3, h0_4, h0_5, .ref h1, h0_7, h0_8, h0_9])), (h1, .inl (ch1, 12, .inl fh1))] s.heap.size = A at hD ⊢
  have hA : ∀ q : Nat, s.heap.size ≤ q → A q := fun q h => by rw [← hAe]; exact Or.inr h
  have hS : va_S A s.heap s.heap [] := va_S.rf
  have hP : va_P (dC, dI) vwCl [(h0, .inr (4, [h0_0, h0_1, .int kl, h0_3, h0_4, h0_5, .ref h1, h0_7, h0_8, h0_9])), (h1, .inl (ch1, 12, .inl fh1))] s.heap := hP
  have w__methodLink_RX4_86_Lib_Math_min_name := hts (.methodLink RX4 86 Lib.Math.min.name) (z_mc (z_ml z_m0))
  have w__static_Lib_Math_min_name := hts (.static Lib.Math.min.name) (z_mc (z_ml z_m1))
  have w__initialized_java_lang_Math_ := hts (.initialized "java/lang/Math") (z_mc (z_ml z_m2))
  have w__code_Lib_Math_min_name_Lib_Math_min_code_2_some_int_ := hts (.code Lib.Math.min.name Lib.Math.min.code 2 (some .int)) (z_mc (z_ml z_m3))
  have w__methodLink_RX4_92_Lib_Math_max_name := hts (.methodLink RX4 92 Lib.Math.max.name) (z_mc (z_ml z_m4))
  have w__static_Lib_Math_max_name := hts (.static Lib.Math.max.name) (z_mc (z_ml z_m5))
  have w__code_Lib_Math_max_name_Lib_Math_max_code_2_some_int_ := hts (.code Lib.Math.max.name Lib.Math.max.code 2 (some .int)) (z_mc (z_ml z_m6))
  have w__fieldLink_RX4_15_ShellHeap_Known_layersSeen_I_ := hts (.fieldLink RX4 15 "ShellHeap$Known" "layersSeen" "I") (z_mc (z_ml z_m7))
  have hiX4 := show ∀ w ∈ u_ws RX4 TX4 10, w ∈ u_s_X4_joinK from fun w h => z_mc (z_mr (z_ml h))
  have w__fieldLink_RX4_29_ShellHeap_Known_bedOf_I_ := hts (.fieldLink RX4 29 "ShellHeap$Known" "bedOf" "[I") (z_mc (z_ml z_m8))
  have hl := lv_entry ([.ref h0, .int p1, .int p2]) (n := 6) (Nat.le_of_ble_eq_true rfl)
  rw [lg_entry_eq]
  generalize (lg_sl ([.ref h0, .int p1, .int p2]) ++ List.replicate (6 - (lg_sl ([.ref h0, .int p1, .int p2])).length) Slot.unset).toArray = ls at hl ⊢
  have hl : lv_has ls 6 [(0, .ref h0), (1, .int p1), (2, .int p2)] := hl
  refine z_nameQ (fun QQ hQQ => ?_)
  refine lv_iload_n hx hb dX4_join_0 rfl (lv_at hl 1 rfl) ?_
  refine lv_iload_n hx hb dX4_join_1 rfl (lv_at hl 2 rfl) ?_
  refine va_mmin hx hb (hml.trans hl.1.symm) hown w__methodLink_RX4_86_Lib_Math_min_name w__static_Lib_Math_min_name w__initialized_java_lang_Math_ w__code_Lib_Math_min_name_Lib_Math_min_code_2_some_int_ (Nat.le_of_ble_eq_true rfl) (Nat.le_of_ble_eq_true rfl) (Nat.le_of_ble_eq_true rfl) (Nat.le_of_ble_eq_true rfl) dX4_join_2 ?_
  refine lv_topi (fun z_1 ez_1 => ?_)
  have kz_1 : ((z_1).toInt = (p1).toInt ∨ (z_1).toInt = (p2).toInt) ∧ (z_1).toInt ≤ (p1).toInt ∧ (z_1).toInt ≤ (p2).toInt := z_min ez_1
  refine lv_istore_n (lv' := [(3, .int z_1), (0, .ref h0), (1, .int p1), (2, .int p2)]) hx hb dX4_join_5 rfl hl (by decide) rfl (fun ls hl => ?_)
  refine lv_iload_n hx hb dX4_join_6 rfl (lv_at hl 2 rfl) ?_
  refine lv_iload_n hx hb dX4_join_7 rfl (lv_at hl 3 rfl) ?_
  refine va_mmax hx hb (hml.trans hl.1.symm) hown w__methodLink_RX4_92_Lib_Math_max_name w__static_Lib_Math_max_name w__initialized_java_lang_Math_ w__code_Lib_Math_max_name_Lib_Math_max_code_2_some_int_ (Nat.le_of_ble_eq_true rfl) (Nat.le_of_ble_eq_true rfl) (Nat.le_of_ble_eq_true rfl) (Nat.le_of_ble_eq_true rfl) dX4_join_8 ?_
  refine lv_topi (fun z_2 ez_2 => ?_)
  have kz_2 : ((z_2).toInt = (p1).toInt ∨ (z_2).toInt = (p2).toInt) ∧ (z_2).toInt ≥ (p1).toInt ∧ (z_2).toInt ≥ (p2).toInt := z_max ez_2
  refine lv_istore (lv' := [(4, .int z_2), (3, .int z_1), (0, .ref h0), (1, .int p1), (2, .int p2)]) hx hb dX4_join_11 hl (by decide) rfl (fun ls hl => ?_)
  refine lv_iconst (v := 0) hx hb dX4_join_13 (by decide) ?_
  refine lv_istore (lv' := [(5, .int 0), (4, .int z_2), (3, .int z_1), (0, .ref h0), (1, .int p1), (2, .int p2)]) hx hb dX4_join_14 hl (by decide) rfl (fun ls hl => ?_)
  have loop_3 : ∀ (n_4 : Nat) (i_6 : Int32) (f_7 : Nat → Int32) (H : Heap) (locs : List Loc) (ls : Array Slot), (13 - (i_6).toInt).toNat < n_4 → (((0 : Int) ≤ (i_6).toInt ∧ (i_6).toInt ≤ (12 : Int))) → (∀ j : Nat, ((0 : Int) ≤ (f_7 j).toInt ∧ (f_7 j).toInt ≤ (11 : Int))) → (k_jl (i_6).toInt (z_1).toInt (z_2).toInt fh1 f_7) → va_P (dC, dI) vwCl [(h0, .inr (4, [h0_0, h0_1, .int kl, h0_3, h0_4, h0_5, .ref h1, h0_7, h0_8, h0_9])), (h1, .inl (ch1, 12, .inl f_7))] H → va_D A [(h0, .inr (4, [h0_0, h0_1, .int kl, h0_3, h0_4, h0_5, .ref h1, h0_7, h0_8, h0_9])), (h1, .inl (ch1, 12, .inl f_7))] → va_S A s.heap H locs → lv_has ls 6 [(5, .int i_6), (4, .int z_2), (3, .int z_1), (0, .ref h0), (1, .int p1), (2, .int p2)] → W p l e ({ frames := 1, cells := 0, slots := 0, locals := 13 } : Room) s m ([.ref h0, .int p1, .int p2] : List Value).toArray below meth c H locs 0 0 QQ (F0 m 16 ls []) := by
    intro n_4
    induction n_4 with
    | zero => intro i_6 f_7 H locs ls hm; exact absurd hm (Nat.not_lt_zero _)
    | succ n_4 ih_5 =>
      intro i_6 f_7 H locs ls hm hF_8 hI_f_7 hF_9 hP hD hS hl
      refine lv_iload hx hb dX4_join_16 (lv_at hl 0 rfl) ?_
      refine lv_aload_n hx hb dX4_join_18 rfl (lv_at hl 3 rfl) ?_
      refine va_get (D := (dC, dI)) (ci := 4) (v := .int kl) (C := RX4) (T := TX4) (N := 10) hx hb hts hiX4 hown hK hP 0 rfl rfl 2 (by decide) w__fieldLink_RX4_15_ShellHeap_Known_layersSeen_I_ (fun _ h9 => h9) rfl dX4_join_19 ?_
      refine lv_icmp_ge (tgt := 51) hx hb dX4_join_22 (by decide) (fun c_10 => ?_) (fun c_10 => ?_)
      · have k_11 : (kl).toInt ≤ (i_6).toInt := z_le c_10
        refine z_backQ hQQ ?_
        have hP9 := hP
        have hD9 := hD
        have hK9 := hK.sub (tys' := []) [] rfl
        refine W.widen (k := 0) (n := 0) (Nat.le_of_ble_eq_true rfl) (Nat.le_of_ble_eq_true rfl) ?_
        exact W.vret hx hb hr (fun t ht hW => ⟨⟨(), rfl, trivial, ⟨f_7, hI_f_7, (show k_jn kl.toInt p1.toInt p2.toInt fh1 f_7 from k_jn_of hF_9 (by omega) (by omega) (by omega)), by rw [ht]; exact hP9, va_K.moved hW.alike hK9, hD9⟩⟩, hS.F ht⟩) hS.2.2 dX4_join_51
      · have k_12 : (kl).toInt > (i_6).toInt := z_nle c_10
        refine lv_aload_n hx hb dX4_join_25 rfl (lv_at hl 3 rfl) ?_
        refine va_get (D := (dC, dI)) (ci := 4) (v := .ref h1) (C := RX4) (T := TX4) (N := 10) hx hb hts hiX4 hown hK hP 0 rfl rfl 6 (by decide) w__fieldLink_RX4_29_ShellHeap_Known_bedOf_I_ (fun _ h9 => h9) rfl dX4_join_26 ?_
        refine lv_iload hx hb dX4_join_29 (lv_at hl 0 rfl) ?_
        refine va_iald hx hb hK hP 1 0 rfl rfl (z_vpin (by omega) (by omega)) dX4_join_31 ?_
        refine lv_topi (fun z_13 ez_13 => ?_)
        have kz_13 : ((0 : Int) ≤ (z_13).toInt ∧ (z_13).toInt ≤ (11 : Int)) := by rw [ez_13]; exact hI_f_7 _
        have kxz_13 : (z_13).toInt = (f_7 (i_6 : Int32).toNatClampNeg).toInt := by rw [ez_13]
        refine lv_iload hx hb dX4_join_32 (lv_at hl 1 rfl) ?_
        refine lv_icmp_ne (tgt := 45) hx hb dX4_join_34 (by decide) (fun c_14 => ?_) (fun c_14 => ?_)
        · have k_15 : (z_13).toInt ≠ (z_2).toInt := z_ne c_14
          obtain ⟨z_16, ez_16⟩ : ∃ y : Int32, y = i_6 + 1 := ⟨_, rfl⟩
          have kz_16 : (z_16).toInt = (i_6).toInt + (1 : Int) := by rw [ez_16]; exact z_add (b := 1) rfl rfl (z_al hF_8.1 (by decide)) (z_ah hF_8.2 (by decide))
          refine lv_iinc (v := z_16) (lv' := [(5, .int z_16), (4, .int z_2), (3, .int z_1), (0, .ref h0), (1, .int p1), (2, .int p2)]) hx hb dX4_join_45 hl (k := 0) rfl (by rw [ez_16]; rfl) (by decide) rfl (fun ls hl => ?_)
          refine lv_goto (tgt := 16) hx hb dX4_join_48 (by decide) ?_
          exact ih_5 z_16 f_7 _ _ _ (show (13 - (z_16).toInt).toNat < n_4 by omega) (show ((0 : Int) ≤ (z_16).toInt ∧ (z_16).toInt ≤ (12 : Int)) by omega) hI_f_7 (show k_jl (z_16).toInt (z_1).toInt (z_2).toInt fh1 f_7 from k_jl_n (i := i_6) hF_9 (by omega) (by omega) (by omega)) hP hD hS (lv_sub hl [0, 1, 2, 3, 4, 5] rfl)
        · have k_17 : (z_13).toInt = (z_2).toInt := z_eq c_14
          refine lv_aload_n hx hb dX4_join_37 rfl (lv_at hl 3 rfl) ?_
          refine va_get (D := (dC, dI)) (ci := 4) (v := .ref h1) (C := RX4) (T := TX4) (N := 10) hx hb hts hiX4 hown hK hP 0 rfl rfl 6 (by decide) w__fieldLink_RX4_29_ShellHeap_Known_bedOf_I_ (fun _ h9 => h9) rfl dX4_join_38 ?_
          refine lv_iload hx hb dX4_join_41 (lv_at hl 0 rfl) ?_
          refine lv_iload_n hx hb dX4_join_43 rfl (lv_at hl 2 rfl) ?_
          refine va_iast hx hb hK hP hD hS 1 0 rfl rfl (z_vpin (by omega) (by omega)) dX4_join_44 (fun H_18 locs hP hD hS => ?_)
          obtain ⟨hP, hD⟩ := z_s_1 hP hD
          have hI_f_19 : ∀ j : Nat, ((0 : Int) ≤ ((upd f_7 (i_6 : Int32).toNatClampNeg z_1) j).toInt ∧ ((upd f_7 (i_6 : Int32).toNatClampNeg z_1) j).toInt ≤ (11 : Int)) := z_updP (P := fun v => ((0 : Int) ≤ (v).toInt ∧ (v).toInt ≤ (11 : Int))) hI_f_7 (show ((0 : Int) ≤ (z_1).toInt ∧ (z_1).toInt ≤ (11 : Int)) from by first | omega | decide)
          obtain ⟨z_20, ez_20⟩ : ∃ y : Int32, y = i_6 + 1 := ⟨_, rfl⟩
          have kz_20 : (z_20).toInt = (i_6).toInt + (1 : Int) := by rw [ez_20]; exact z_add (b := 1) rfl rfl (z_al hF_8.1 (by decide)) (z_ah hF_8.2 (by decide))
          refine lv_iinc (v := z_20) (lv' := [(5, .int z_20), (4, .int z_2), (3, .int z_1), (0, .ref h0), (1, .int p1), (2, .int p2)]) hx hb dX4_join_45 hl (k := 0) rfl (by rw [ez_20]; rfl) (by decide) rfl (fun ls hl => ?_)
          refine lv_goto (tgt := 16) hx hb dX4_join_48 (by decide) ?_
          exact ih_5 z_20 (upd f_7 (i_6 : Int32).toNatClampNeg z_1) _ _ _ (show (13 - (z_20).toInt).toNat < n_4 by omega) (show ((0 : Int) ≤ (z_20).toInt ∧ (z_20).toInt ≤ (12 : Int)) by omega) hI_f_19 (show k_jl (z_20).toInt (z_1).toInt (z_2).toInt fh1 (upd f_7 (i_6 : Int32).toNatClampNeg z_1) from k_jl_y (i := i_6) hF_9 (by omega) (by omega) (by omega) rfl) hP hD hS (lv_sub hl [0, 1, 2, 3, 4, 5] rfl)
  exact loop_3 _ 0 fh1 _ _ _ (Nat.lt_succ_self _) (show ((0 : Int) ≤ (0 : Int) ∧ (0 : Int) ≤ (12 : Int)) by omega) hI_h1 (show k_jl (0 : Int) (z_1).toInt (z_2).toInt fh1 fh1 from k_jl_0) hP hD hS hl
def u_s_X4_joinBedsK : List Cond := .code yX4_joinBeds cX4_joinBeds 2 none :: ([.fieldLink RX4 15 "ShellHeap$Known" "layersSeen" "I", .fieldLink RX4 9 "ShellHeap$Known" "notesSeen" "I", .methodLink RX4 72 yX4_counts, .instanceMethod yX4_counts, .selects RX4 yX4_counts yX4_counts, .initialized RX4, .fieldLink RX4 29 "ShellHeap$Known" "bedOf" "[I", .fieldLink RX4 41 "ShellHeap$Known" "book" "LShellHeap$Book;", .fieldLink RX4 76 "ShellHeap$Book" "a" "[I", .fieldLink RX4 79 "ShellHeap$Book" "b" "[I", .methodLink RX4 82 yX4_join, .instanceMethod yX4_join, .selects RX4 yX4_join yX4_join] ++ (wsX40 ++ (wsX00 ++ (u_s_X4_countsK ++ (u_s_X4_joinK ++ [])))))
theorem gd_s_X4_joinBedsK : z_gd u_s_X4_joinBedsK := z_gdc (by decide +kernel) (z_gda gdX4 (z_gda gdX0 (z_gda gd_s_X4_countsK (z_gda gd_s_X4_joinK (z_gd0)))))
set_option maxRecDepth 20000 in
theorem gw_s_X4_joinBedsK_s_X4_countsK_72 : GoodIn u_s_X4_joinBedsK (wsV RX4 72 RX4 yX4_counts u_s_X4_countsK) := z_gV (z_gr _ [3, 4, 5, 6] rfl (by decide +kernel)) (fun w h => ⟨z_mc (z_mr (z_mr (z_mr (z_ml h)))), gd_s_X4_countsK w h⟩)
set_option maxRecDepth 20000 in
theorem gw_s_X4_joinBedsK_s_X4_joinK_82 : GoodIn u_s_X4_joinBedsK (wsV RX4 82 RX4 yX4_join u_s_X4_joinK) := z_gV (z_gr _ [11, 12, 13, 6] rfl (by decide +kernel)) (fun w h => ⟨z_mc (z_mr (z_mr (z_mr (z_mr (z_ml h))))), gd_s_X4_joinK w h⟩)
set_option maxHeartbeats 4000000 in
set_option maxRecDepth 100000 in
theorem s_X4_joinBedsK (l : Launch) (dC : Nat → ClassId) (dI : Nat → Nat → Nat) (sz : Nat) (h0 : Nat) (h1 : Nat) (kn : Int32) (kl : Int32) (hk9 : Nat) (h0_4 : Value) (h0_5 : Value) (hbd : Nat) (h0_7 : Value) (h0_8 : Value) (h0_9 : Value) (hs : Nat) (ha : Nat) (hb9 : Nat) (h1_3 : Value) (h1_4 : Value) (h1_5 : Value) (chk9 : ClassId) (fhk9 : Nat → Int32) (chs : ClassId) (fhs : Nat → Int32) (cha : ClassId) (fha : Nat → Int32) (chb9 : ClassId) (fhb9 : Nat → Int32) (chbd : ClassId) (fhbd : Nat → Int32) (hB_kn : ((-1 : Int) ≤ (kn).toInt ∧ (kn).toInt ≤ (80 : Int))) (hB_kl : ((-1 : Int) ≤ (kl).toInt ∧ (kl).toInt ≤ (12 : Int))) (hI_ha : ∀ j : Nat, ((0 : Int) ≤ (fha j).toInt ∧ (fha j).toInt ≤ (79 : Int))) (hI_hbd : ∀ j : Nat, ((0 : Int) ≤ (fhbd j).toInt ∧ (fhbd j).toInt ≤ (11 : Int))) (hRG : k_r3 fhs fha fhb9 kn.toInt kl.toInt) : Met l yX4_joinBeds u_s_X4_joinBedsK ({ frames := 2, cells := 0, slots := 0, locals := 38 }) (va_Pc [.ref h0] (z_C (dC, dI) vwCl [(h0, .inr (4, [.ref h1, .int kn, .int kl, .ref hk9, h0_4, h0_5, .ref hbd, h0_7, h0_8, h0_9])), (h1, .inr (0, [.ref hs, .ref ha, .ref hb9, h1_3, h1_4, h1_5])), (hk9, .inl (chk9, 80, .inl fhk9)), (hs, .inl (chs, 80, .inl fhs)), (ha, .inl (cha, 80, .inl fha)), (hb9, .inl (chb9, 80, .inl fhb9)), (hbd, .inl (chbd, 12, .inl fhbd))] [(chk9, .boolean), (chs, .int), (cha, .int), (chb9, .int), (chbd, .int)] sz)) (va_Qv (fun (_ : Unit) => True) (fun (_ : Unit) (t : State) => ∃ (g_hbd : Nat → Int32), (∀ j : Nat, ((0 : Int) ≤ (g_hbd j).toInt ∧ (g_hbd j).toInt ≤ (11 : Int))) ∧ (k_BD fhs fha fhb9 fhk9 kn.toInt kl.toInt g_hbd) ∧ va_P (dC, dI) vwCl [(h0, .inr (4, [.ref h1, .int kn, .int kl, .ref hk9, h0_4, h0_5, .ref hbd, h0_7, h0_8, h0_9])), (h1, .inr (0, [.ref hs, .ref ha, .ref hb9, h1_3, h1_4, h1_5])), (hk9, .inl (chk9, 80, .inl fhk9)), (hs, .inl (chs, 80, .inl fhs)), (ha, .inl (cha, 80, .inl fha)), (hb9, .inl (chb9, 80, .inl fhb9)), (hbd, .inl (chbd, 12, .inl g_hbd))] t.heap ∧ va_K (dC, dI) vwCl [] t ∧ va_D (va_A [(h0, .inr (4, [.ref h1, .int kn, .int kl, .ref hk9, h0_4, h0_5, .ref hbd, h0_7, h0_8, h0_9])), (h1, .inr (0, [.ref hs, .ref ha, .ref hb9, h1_3, h1_4, h1_5])), (hk9, .inl (chk9, 80, .inl fhk9)), (hs, .inl (chs, 80, .inl fhs)), (ha, .inl (cha, 80, .inl fha)), (hb9, .inl (chb9, 80, .inl fhb9)), (hbd, .inl (chbd, 12, .inl fhbd))] sz) [(h0, .inr (4, [.ref h1, .int kn, .int kl, .ref hk9, h0_4, h0_5, .ref hbd, h0_7, h0_8, h0_9])), (h1, .inr (0, [.ref hs, .ref ha, .ref hb9, h1_3, h1_4, h1_5])), (hk9, .inl (chk9, 80, .inl fhk9)), (hs, .inl (chs, 80, .inl fhs)), (ha, .inl (cha, 80, .inl fha)), (hb9, .inl (chb9, 80, .inl fhb9)), (hbd, .inl (chbd, 12, .inl g_hbd))]) (va_A [(h0, .inr (4, [.ref h1, .int kn, .int kl, .ref hk9, h0_4, h0_5, .ref hbd, h0_7, h0_8, h0_9])), (h1, .inr (0, [.ref hs, .ref ha, .ref hb9, h1_3, h1_4, h1_5])), (hk9, .inl (chk9, 80, .inl fhk9)), (hs, .inl (chs, 80, .inl fhs)), (ha, .inl (cha, 80, .inl fha)), (hb9, .inl (chb9, 80, .inl fhb9)), (hbd, .inl (chbd, 12, .inl fhbd))] sz)) 0 0 (va_A [(h0, .inr (4, [.ref h1, .int kn, .int kl, .ref hk9, h0_4, h0_5, .ref hbd, h0_7, h0_8, h0_9])), (h1, .inr (0, [.ref hs, .ref ha, .ref hb9, h1_3, h1_4, h1_5])), (hk9, .inl (chk9, 80, .inl fhk9)), (hs, .inl (chs, 80, .inl fhs)), (ha, .inl (cha, 80, .inl fha)), (hb9, .inl (chb9, 80, .inl fhb9)), (hbd, .inl (chbd, 12, .inl fhbd))] sz) := by
  refine Met.ofW (cc := cX4_joinBeds) (maxL := 2) (ret := none) (by decide) rfl ?_
  intro p e s m args below meth c s₁ B hml hv
  obtain ⟨rfl, hsz, hP, hK, hD0⟩ := hv
  have hx := B.exec
  have hb := B.bytes
  have hr := B.returns
  have hts := atoms_spec (ws := u_s_X4_joinBedsK) B.pre
  have hown : s.vm.findClass RX4 = some m.cls := findClass_of_methodNamed B.named
  have hlocks := B.notSynchronized
  subst hsz
  have hD := hD0.self (sz := s.heap.size)
  generalize hAe : va_A [(h0, .inr (4, [.ref h1, .int kn, .int kl, .ref hk9, h0_4, h0_5, .ref hbd, h0_7, h0_8, h0_9])), (h1, .inr (0, [.ref hs, .ref ha, .ref hb9, h1_3, h1_4, h1_5])), (hk9, .inl (chk9, 80, .inl fhk9)), (hs, .inl (chs, 80, .inl fhs)), (ha, .inl (cha, 80, .inl fha)), (hb9, .inl (chb9, 80, .inl fhb9)), (hbd, .inl (chbd, 12, .inl fhbd))] s.heap.size = A at hD ⊢
  have hA : ∀ q : Nat, s.heap.size ≤ q → A q := fun q h => by rw [← hAe]; exact Or.inr h
  have hS : va_S A s.heap s.heap [] := va_S.rf
  have hP : va_P (dC, dI) vwCl [(h0, .inr (4, [.ref h1, .int kn, .int kl, .ref hk9, h0_4, h0_5, .ref hbd, h0_7, h0_8, h0_9])), (h1, .inr (0, [.ref hs, .ref ha, .ref hb9, h1_3, h1_4, h1_5])), (hk9, .inl (chk9, 80, .inl fhk9)), (hs, .inl (chs, 80, .inl fhs)), (ha, .inl (cha, 80, .inl fha)), (hb9, .inl (chb9, 80, .inl fhb9)), (hbd, .inl (chbd, 12, .inl fhbd))] s.heap := hP
  have w__fieldLink_RX4_15_ShellHeap_Known_layersSeen_I_ := hts (.fieldLink RX4 15 "ShellHeap$Known" "layersSeen" "I") (z_mc (z_ml z_m0))
  have hiX4 := show ∀ w ∈ u_ws RX4 TX4 10, w ∈ u_s_X4_joinBedsK from fun w h => z_mc (z_mr (z_ml h))
  have w__fieldLink_RX4_9_ShellHeap_Known_notesSeen_I_ := hts (.fieldLink RX4 9 "ShellHeap$Known" "notesSeen" "I") (z_mc (z_ml z_m1))
  have w__fieldLink_RX4_29_ShellHeap_Known_bedOf_I_ := hts (.fieldLink RX4 29 "ShellHeap$Known" "bedOf" "[I") (z_mc (z_ml z_m6))
  have w__fieldLink_RX4_41_ShellHeap_Known_book_LShellHeap_Book_ := hts (.fieldLink RX4 41 "ShellHeap$Known" "book" "LShellHeap$Book;") (z_mc (z_ml z_m7))
  have w__fieldLink_RX4_76_ShellHeap_Book_a_I_ := hts (.fieldLink RX4 76 "ShellHeap$Book" "a" "[I") (z_mc (z_ml z_m8))
  have hiX0 := show ∀ w ∈ u_ws RX0 TX0 6, w ∈ u_s_X4_joinBedsK from fun w h => z_mc (z_mr (z_mr (z_ml h)))
  have w__fieldLink_RX4_79_ShellHeap_Book_b_I_ := hts (.fieldLink RX4 79 "ShellHeap$Book" "b" "[I") (z_mc (z_ml z_m9))
  have hl := lv_entry ([.ref h0]) (n := 2) (Nat.le_of_ble_eq_true rfl)
  rw [lg_entry_eq]
  generalize (lg_sl ([.ref h0]) ++ List.replicate (2 - (lg_sl ([.ref h0])).length) Slot.unset).toArray = ls at hl ⊢
  have hl : lv_has ls 2 [(0, .ref h0)] := hl
  refine z_nameQ (fun QQ hQQ => ?_)
  refine lv_iconst (v := 0) hx hb dX4_joinBeds_0 (by decide) ?_
  refine lv_istore_n (lv' := [(1, .int 0), (0, .ref h0)]) hx hb dX4_joinBeds_1 rfl hl (by decide) rfl (fun ls hl => ?_)
  have loop_1 : ∀ (n_2 : Nat) (i_4 : Int32) (f_5 : Nat → Int32) (H : Heap) (locs : List Loc) (ls : Array Slot), (13 - (i_4).toInt).toNat < n_2 → (((0 : Int) ≤ (i_4).toInt ∧ (i_4).toInt ≤ (12 : Int))) → (∀ j : Nat, ((0 : Int) ≤ (f_5 j).toInt ∧ (f_5 j).toInt ≤ (11 : Int))) → (k_id (i_4).toInt f_5) → va_P (dC, dI) vwCl [(h0, .inr (4, [.ref h1, .int kn, .int kl, .ref hk9, h0_4, h0_5, .ref hbd, h0_7, h0_8, h0_9])), (h1, .inr (0, [.ref hs, .ref ha, .ref hb9, h1_3, h1_4, h1_5])), (hk9, .inl (chk9, 80, .inl fhk9)), (hs, .inl (chs, 80, .inl fhs)), (ha, .inl (cha, 80, .inl fha)), (hb9, .inl (chb9, 80, .inl fhb9)), (hbd, .inl (chbd, 12, .inl f_5))] H → va_D A [(h0, .inr (4, [.ref h1, .int kn, .int kl, .ref hk9, h0_4, h0_5, .ref hbd, h0_7, h0_8, h0_9])), (h1, .inr (0, [.ref hs, .ref ha, .ref hb9, h1_3, h1_4, h1_5])), (hk9, .inl (chk9, 80, .inl fhk9)), (hs, .inl (chs, 80, .inl fhs)), (ha, .inl (cha, 80, .inl fha)), (hb9, .inl (chb9, 80, .inl fhb9)), (hbd, .inl (chbd, 12, .inl f_5))] → va_S A s.heap H locs → lv_has ls 2 [(1, .int i_4), (0, .ref h0)] → W p l e ({ frames := 2, cells := 0, slots := 0, locals := 38 } : Room) s m ([.ref h0] : List Value).toArray below meth c H locs 0 0 QQ (F0 m 2 ls []) := by
    intro n_2
    induction n_2 with
    | zero => intro i_4 f_5 H locs ls hm; exact absurd hm (Nat.not_lt_zero _)
    | succ n_2 ih_3 =>
      intro i_4 f_5 H locs ls hm hF_6 hI_f_5 hF_7 hP hD hS hl
      refine lv_iload_n hx hb dX4_joinBeds_2 rfl (lv_at hl 0 rfl) ?_
      refine lv_aload_n hx hb dX4_joinBeds_3 rfl (lv_at hl 1 rfl) ?_
      refine va_get (D := (dC, dI)) (ci := 4) (v := .int kl) (C := RX4) (T := TX4) (N := 10) hx hb hts hiX4 hown hK hP 0 rfl rfl 2 (by decide) w__fieldLink_RX4_15_ShellHeap_Known_layersSeen_I_ (fun _ h9 => h9) rfl dX4_joinBeds_4 ?_
      refine lv_icmp_ge (tgt := 23) hx hb dX4_joinBeds_7 (by decide) (fun c_8 => ?_) (fun c_8 => ?_)
      · have k_9 : (kl).toInt ≤ (i_4).toInt := z_le c_8
        refine lv_iconst (v := 0) hx hb dX4_joinBeds_23 (by decide) ?_
        refine lv_istore_n (lv' := [(1, .int 0), (0, .ref h0)]) hx hb dX4_joinBeds_24 rfl hl (by decide) rfl (fun ls hl => ?_)
        have loop_10 : ∀ (n_11 : Nat) (i_13 : Int32) (f_14 : Nat → Int32) (H : Heap) (locs : List Loc) (ls : Array Slot), (81 - (i_13).toInt).toNat < n_11 → (((0 : Int) ≤ (i_13).toInt ∧ (i_13).toInt ≤ (80 : Int))) → (∀ j : Nat, ((0 : Int) ≤ (f_14 j).toInt ∧ (f_14 j).toInt ≤ (11 : Int))) → (k_bc fhs fha fhb9 (k_c (kn).toInt fhk9) (kn).toInt (kl).toInt f_14) → (k_be fhs fha fhb9 (k_c (kn).toInt fhk9) (i_13).toInt f_14) → va_P (dC, dI) vwCl [(h0, .inr (4, [.ref h1, .int kn, .int kl, .ref hk9, h0_4, h0_5, .ref hbd, h0_7, h0_8, h0_9])), (h1, .inr (0, [.ref hs, .ref ha, .ref hb9, h1_3, h1_4, h1_5])), (hk9, .inl (chk9, 80, .inl fhk9)), (hs, .inl (chs, 80, .inl fhs)), (ha, .inl (cha, 80, .inl fha)), (hb9, .inl (chb9, 80, .inl fhb9)), (hbd, .inl (chbd, 12, .inl f_14))] H → va_D A [(h0, .inr (4, [.ref h1, .int kn, .int kl, .ref hk9, h0_4, h0_5, .ref hbd, h0_7, h0_8, h0_9])), (h1, .inr (0, [.ref hs, .ref ha, .ref hb9, h1_3, h1_4, h1_5])), (hk9, .inl (chk9, 80, .inl fhk9)), (hs, .inl (chs, 80, .inl fhs)), (ha, .inl (cha, 80, .inl fha)), (hb9, .inl (chb9, 80, .inl fhb9)), (hbd, .inl (chbd, 12, .inl f_14))] → va_S A s.heap H locs → lv_has ls 2 [(1, .int i_13), (0, .ref h0)] → W p l e ({ frames := 2, cells := 0, slots := 0, locals := 38 } : Room) s m ([.ref h0] : List Value).toArray below meth c H locs 0 0 QQ (F0 m 25 ls []) := by
          intro n_11
          induction n_11 with
          | zero => intro i_13 f_14 H locs ls hm; exact absurd hm (Nat.not_lt_zero _)
          | succ n_11 ih_12 =>
            intro i_13 f_14 H locs ls hm hF_15 hI_f_14 hF_16 hF_17 hP hD hS hl
            refine lv_iload_n hx hb dX4_joinBeds_25 rfl (lv_at hl 0 rfl) ?_
            refine lv_aload_n hx hb dX4_joinBeds_26 rfl (lv_at hl 1 rfl) ?_
            refine va_get (D := (dC, dI)) (ci := 4) (v := .int kn) (C := RX4) (T := TX4) (N := 10) hx hb hts hiX4 hown hK hP 0 rfl rfl 1 (by decide) w__fieldLink_RX4_9_ShellHeap_Known_notesSeen_I_ (fun _ h9 => h9) rfl dX4_joinBeds_27 ?_
            refine lv_icmp_ge (tgt := 80) hx hb dX4_joinBeds_30 (by decide) (fun c_18 => ?_) (fun c_18 => ?_)
            · have k_19 : (kn).toInt ≤ (i_13).toInt := z_le c_18
              refine z_backQ hQQ ?_
              have hP9 := hP
              have hD9 := hD
              have hK9 := hK.sub (tys' := []) [] rfl
              refine W.widen (k := 0) (n := 0) (Nat.le_of_ble_eq_true rfl) (Nat.le_of_ble_eq_true rfl) ?_
              exact W.vret hx hb hr (fun t ht hW => ⟨⟨(), rfl, trivial, ⟨f_14, hI_f_14, (show k_BD fhs fha fhb9 fhk9 kn.toInt kl.toInt f_14 from k_BD_of hRG hF_17 (by omega) hF_16), by rw [ht]; exact hP9, va_K.moved hW.alike hK9, hD9⟩⟩, hS.F ht⟩) hS.2.2 dX4_joinBeds_80
            · have k_20 : (kn).toInt > (i_13).toInt := z_nle c_18
              refine lv_aload_n hx hb dX4_joinBeds_33 rfl (lv_at hl 1 rfl) ?_
              refine lv_iload_n hx hb dX4_joinBeds_34 rfl (lv_at hl 0 rfl) ?_
              refine lv_iconst (v := 2) hx hb dX4_joinBeds_35 (by decide) ?_
              obtain ⟨hPc, hDc⟩ := z_sub2 (ws' := [(h0, .inr (4, [.ref h1, .int kn, .int kl, .ref hk9, h0_4, h0_5, .ref hbd, h0_7, h0_8, h0_9])), (h1, .inr (0, [.ref hs, .ref ha, .ref hb9, h1_3, h1_4, h1_5])), (hk9, .inl (chk9, 80, .inl fhk9)), (hs, .inl (chs, 80, .inl fhs))]) hP hD [0, 1, 2, 3] (by decide) rfl
              have hKc := hK.sub (tys' := [(chk9, .boolean), (chs, .int)]) [0, 1] rfl
              have hFc := va_free (ws := []) (wc := []) (z_D0 _) hS hA [] rfl
              refine va_calli (va_runV (As := [.int i_13, .int 2]) (rest := []) ⟨hx, hb, hml, hown, hts⟩ (s_X4_countsK l dC dI H.size h0 i_13 2 h1 kn (.int kl) hk9 h0_4 h0_5 (.ref hbd) h0_7 h0_8 h0_9 hs (.ref ha) (.ref hb9) h1_3 h1_4 h1_5 chk9 fhk9 chs fhs hB_kn (by first | omega | decide)) (cwV 2 hts gw_s_X4_joinBedsK_s_X4_countsK_72 rfl rfl rfl (by decide +kernel) ⟨Nat.le_of_ble_eq_true rfl, Nat.le_of_ble_eq_true rfl⟩) ⟨z_blind, va_recv hKc hPc (ci := 4) (q0 := 0) rfl rfl, z_pre hPc hKc hDc⟩ rfl rfl hl.1 rfl (lv_room (Nat.le_of_ble_eq_true rfl)) dX4_joinBeds_36 ⟨Nat.le_of_ble_eq_true rfl, Nat.le_of_ble_eq_true rfl⟩) hS (fun q _ h => hFc q h) hFc (fun r_22 u t H_21 locs ht hvm hw_23 hB hz1 hk1 hS => ?_)
              replace hP := z_pure hP hk1
              clear hPc hDc hKc
              rcases hw_23 with ⟨rfl, hw_23⟩ | ⟨rfl, hw_23⟩
              · have hw_23 : (i_13.toInt < kn.toInt ∧ (fhk9 i_13.toNatClampNeg).toInt = 0 ∧ (fhs i_13.toNatClampNeg).toInt = (2 : Int)) := hw_23
                refine lv_if_eq (tgt := 74) hx hb dX4_joinBeds_39 (by decide) (fun c_24 => absurd c_24 (by decide)) (fun _ => ?_)
                refine lv_aload_n hx hb dX4_joinBeds_42 rfl (lv_at hl 1 rfl) ?_
                refine lv_aload_n hx hb dX4_joinBeds_43 rfl (lv_at hl 1 rfl) ?_
                refine va_get (D := (dC, dI)) (ci := 4) (v := .ref hbd) (C := RX4) (T := TX4) (N := 10) hx hb hts hiX4 hown hK hP 0 rfl rfl 6 (by decide) w__fieldLink_RX4_29_ShellHeap_Known_bedOf_I_ (fun _ h9 => h9) rfl dX4_joinBeds_44 ?_
                refine lv_aload_n hx hb dX4_joinBeds_47 rfl (lv_at hl 1 rfl) ?_
                refine va_get (D := (dC, dI)) (ci := 4) (v := .ref h1) (C := RX4) (T := TX4) (N := 10) hx hb hts hiX4 hown hK hP 0 rfl rfl 0 (by decide) w__fieldLink_RX4_41_ShellHeap_Known_book_LShellHeap_Book_ (fun _ h9 => h9) rfl dX4_joinBeds_48 ?_
                refine va_get (D := (dC, dI)) (ci := 0) (v := .ref ha) (C := RX0) (T := TX0) (N := 6) hx hb hts hiX0 hown hK hP 1 rfl rfl 1 (by decide) w__fieldLink_RX4_76_ShellHeap_Book_a_I_ (fun _ h9 => h9) rfl dX4_joinBeds_51 ?_
                refine lv_iload_n hx hb dX4_joinBeds_54 rfl (lv_at hl 0 rfl) ?_
                refine va_iald hx hb hK hP 4 2 rfl rfl (z_vpin (by omega) (by omega)) dX4_joinBeds_55 ?_
                refine lv_topi (fun z_25 ez_25 => ?_)
                have kz_25 : ((0 : Int) ≤ (z_25).toInt ∧ (z_25).toInt ≤ (79 : Int)) := by rw [ez_25]; exact hI_ha _
                have kxz_25 : (z_25).toInt = (fha (i_13 : Int32).toNatClampNeg).toInt := by rw [ez_25]
                have krz_25 := k_r3_a hRG (by omega) (by omega) (by omega) ez_25
                refine va_iald hx hb hK hP 6 4 rfl rfl (z_vpin (by omega) (by omega)) dX4_joinBeds_56 ?_
                refine lv_topi (fun z_26 ez_26 => ?_)
                have kz_26 : ((0 : Int) ≤ (z_26).toInt ∧ (z_26).toInt ≤ (11 : Int)) := by rw [ez_26]; exact hI_f_14 _
                have kxz_26 : (z_26).toInt = (f_14 (z_25 : Int32).toNatClampNeg).toInt := by rw [ez_26]
                have ke_27 : f_14 (fha (i_13 : Int32).toNatClampNeg).toNatClampNeg = z_26 := by rw [← ez_25, ez_26]
                refine lv_aload_n hx hb dX4_joinBeds_57 rfl (lv_at hl 1 rfl) ?_
                refine va_get (D := (dC, dI)) (ci := 4) (v := .ref hbd) (C := RX4) (T := TX4) (N := 10) hx hb hts hiX4 hown hK hP 0 rfl rfl 6 (by decide) w__fieldLink_RX4_29_ShellHeap_Known_bedOf_I_ (fun _ h9 => h9) rfl dX4_joinBeds_58 ?_
                refine lv_aload_n hx hb dX4_joinBeds_61 rfl (lv_at hl 1 rfl) ?_
                refine va_get (D := (dC, dI)) (ci := 4) (v := .ref h1) (C := RX4) (T := TX4) (N := 10) hx hb hts hiX4 hown hK hP 0 rfl rfl 0 (by decide) w__fieldLink_RX4_41_ShellHeap_Known_book_LShellHeap_Book_ (fun _ h9 => h9) rfl dX4_joinBeds_62 ?_
                refine va_get (D := (dC, dI)) (ci := 0) (v := .ref hb9) (C := RX0) (T := TX0) (N := 6) hx hb hts hiX0 hown hK hP 1 rfl rfl 2 (by decide) w__fieldLink_RX4_79_ShellHeap_Book_b_I_ (fun _ h9 => h9) rfl dX4_joinBeds_65 ?_
                refine lv_iload_n hx hb dX4_joinBeds_68 rfl (lv_at hl 0 rfl) ?_
                refine va_iald hx hb hK hP 5 3 rfl rfl (z_vpin (by omega) (by omega)) dX4_joinBeds_69 ?_
                refine lv_topi (fun z_28 ez_28 => ?_)
                have kxz_28 : (z_28).toInt = (fhb9 (i_13 : Int32).toNatClampNeg).toInt := by rw [ez_28]
                have krz_28 := k_r3_b hRG (by omega) (by omega) (by omega) ez_28
                refine va_iald hx hb hK hP 6 4 rfl rfl (z_vpin (by omega) (by omega)) dX4_joinBeds_70 ?_
                refine lv_topi (fun z_29 ez_29 => ?_)
                have kz_29 : ((0 : Int) ≤ (z_29).toInt ∧ (z_29).toInt ≤ (11 : Int)) := by rw [ez_29]; exact hI_f_14 _
                have kxz_29 : (z_29).toInt = (f_14 (z_28 : Int32).toNatClampNeg).toInt := by rw [ez_29]
                have ke_30 : f_14 (fhb9 (i_13 : Int32).toNatClampNeg).toNatClampNeg = z_29 := by rw [← ez_28, ez_29]
                obtain ⟨hPc, hDc, hFc⟩ := z_sub3 (ws' := [(h0, .inr (4, [.ref h1, .int kn, .int kl, .ref hk9, h0_4, h0_5, .ref hbd, h0_7, h0_8, h0_9])), (hbd, .inl (chbd, 12, .inl f_14))]) hP hD hS hA [0, 6] (by decide) rfl
                have hKc := hK.sub (tys' := [(chbd, .int)]) [4] rfl
                refine va_callv (va_runV (As := [.int z_26, .int z_29]) (rest := []) ⟨hx, hb, hml, hown, hts⟩ (s_X4_joinK l dC dI H_21.size h0 z_26 z_29 (.ref h1) (.int kn) kl (.ref hk9) h0_4 h0_5 hbd h0_7 h0_8 h0_9 chbd f_14 hB_kl kz_26 kz_29 hI_f_14) (cwV 2 hts gw_s_X4_joinBedsK_s_X4_joinK_82 rfl rfl rfl (by decide +kernel) ⟨Nat.le_of_ble_eq_true rfl, Nat.le_of_ble_eq_true rfl⟩) ⟨z_blind, va_recv hKc hPc (ci := 4) (q0 := 0) rfl rfl, z_pre hPc hKc hDc⟩ rfl rfl hl.1 rfl (lv_room (Nat.le_of_ble_eq_true rfl)) dX4_joinBeds_71 ⟨Nat.le_of_ble_eq_true rfl, Nat.le_of_ble_eq_true rfl⟩) hS (fun q _ h => hFc q h) hFc (fun u t H_31 locs ht hvm hw_33 hB hz1 hk1 hS => ?_)
                obtain ⟨g_h1_34, hp_35, hp_36, hP1, hK1, hD1⟩ := hB
                rw [ht] at hP1
                have hK1 := va_K.moved hvm.symm hK1
                obtain ⟨hP, hD⟩ := z_ap_5 (va_join (wr := [(h1, .inr (0, [.ref hs, .ref ha, .ref hb9, h1_3, h1_4, h1_5])), (hk9, .inl (chk9, 80, .inl fhk9)), (hs, .inl (chs, 80, .inl fhs)), (ha, .inl (cha, 80, .inl fha)), (hb9, .inl (chb9, 80, .inl fhb9))]) hP hD [0, 6] [1, 2, 3, 4, 5] rfl rfl (by decide) (by decide) hk1 hFc hP1 hD1)
                have hp_36 : k_jn kl.toInt z_26.toInt z_29.toInt f_14 g_h1_34 := hp_36
                clear hPc hDc hKc
                obtain ⟨z_37, ez_37⟩ : ∃ y : Int32, y = i_13 + 1 := ⟨_, rfl⟩
                have kz_37 : (z_37).toInt = (i_13).toInt + (1 : Int) := by rw [ez_37]; exact z_add (b := 1) rfl rfl (z_al hF_15.1 (by decide)) (z_ah hF_15.2 (by decide))
                refine lv_iinc (v := z_37) (lv' := [(1, .int z_37), (0, .ref h0)]) hx hb dX4_joinBeds_74 hl (k := 0) rfl (by rw [ez_37]; rfl) (by decide) rfl (fun ls hl => ?_)
                refine lv_goto (tgt := 25) hx hb dX4_joinBeds_77 (by decide) ?_
                exact ih_12 z_37 g_h1_34 _ _ _ (show (81 - (z_37).toInt).toNat < n_11 by omega) (show ((0 : Int) ≤ (z_37).toInt ∧ (z_37).toInt ≤ (80 : Int)) by omega) hp_35 (show k_bc fhs fha fhb9 (k_c (kn).toInt fhk9) (kn).toInt (kl).toInt g_h1_34 from k_bc_jn (i := i_13) (k_r3_rg hRG) hF_16 (by omega) (by omega) ⟨by rw [k_cn (by omega)]; omega, hw_23.2.1⟩ hw_23.2.2 hp_36 (congrArg Int32.toInt ke_27) (congrArg Int32.toInt ke_30)) (show k_be fhs fha fhb9 (k_c (kn).toInt fhk9) (z_37).toInt g_h1_34 from k_be_jn (i := i_13) (k_r3_rg hRG) hF_17 (by omega) (by omega) (by omega) ⟨by rw [k_cn (by omega)]; omega, hw_23.2.1⟩ hw_23.2.2 hp_36 (congrArg Int32.toInt ke_27) (congrArg Int32.toInt ke_30)) (hP.sub (ws' := [(h0, .inr (4, [.ref h1, .int kn, .int kl, .ref hk9, h0_4, h0_5, .ref hbd, h0_7, h0_8, h0_9])), (h1, .inr (0, [.ref hs, .ref ha, .ref hb9, h1_3, h1_4, h1_5])), (hk9, .inl (chk9, 80, .inl fhk9)), (hs, .inl (chs, 80, .inl fhs)), (ha, .inl (cha, 80, .inl fha)), (hb9, .inl (chb9, 80, .inl fhb9)), (hbd, .inl (chbd, 12, .inl g_h1_34))]) [5, 0, 1, 2, 3, 4, 6] rfl) (hD.sub (ws' := [(h0, .inr (4, [.ref h1, .int kn, .int kl, .ref hk9, h0_4, h0_5, .ref hbd, h0_7, h0_8, h0_9])), (h1, .inr (0, [.ref hs, .ref ha, .ref hb9, h1_3, h1_4, h1_5])), (hk9, .inl (chk9, 80, .inl fhk9)), (hs, .inl (chs, 80, .inl fhs)), (ha, .inl (cha, 80, .inl fha)), (hb9, .inl (chb9, 80, .inl fhb9)), (hbd, .inl (chbd, 12, .inl g_h1_34))]) [5, 0, 1, 2, 3, 4, 6] (by decide) rfl) hS (lv_sub hl [0, 1] rfl)
              · have hw_23 : ¬ (i_13.toInt < kn.toInt ∧ (fhk9 i_13.toNatClampNeg).toInt = 0 ∧ (fhs i_13.toNatClampNeg).toInt = (2 : Int)) := hw_23
                refine lv_if_eq (tgt := 74) hx hb dX4_joinBeds_39 (by decide) (fun _ => ?_) (fun c_38 => absurd (by decide) c_38)
                obtain ⟨z_39, ez_39⟩ : ∃ y : Int32, y = i_13 + 1 := ⟨_, rfl⟩
                have kz_39 : (z_39).toInt = (i_13).toInt + (1 : Int) := by rw [ez_39]; exact z_add (b := 1) rfl rfl (z_al hF_15.1 (by decide)) (z_ah hF_15.2 (by decide))
                refine lv_iinc (v := z_39) (lv' := [(1, .int z_39), (0, .ref h0)]) hx hb dX4_joinBeds_74 hl (k := 0) rfl (by rw [ez_39]; rfl) (by decide) rfl (fun ls hl => ?_)
                refine lv_goto (tgt := 25) hx hb dX4_joinBeds_77 (by decide) ?_
                exact ih_12 z_39 f_14 _ _ _ (show (81 - (z_39).toInt).toNat < n_11 by omega) (show ((0 : Int) ≤ (z_39).toInt ∧ (z_39).toInt ≤ (80 : Int)) by omega) hI_f_14 (show k_bc fhs fha fhb9 (k_c (kn).toInt fhk9) (kn).toInt (kl).toInt f_14 from hF_16) (show k_be fhs fha fhb9 (k_c (kn).toInt fhk9) (z_39).toInt f_14 from k_be_n (i := i_13) hF_17 (by omega) (by omega) (fun h8 h9 => absurd ⟨by omega, h8.2, h9⟩ hw_23)) hP hD hS (lv_sub hl [0, 1] rfl)
        exact loop_10 _ 0 f_5 _ _ _ (Nat.lt_succ_self _) (show ((0 : Int) ≤ (0 : Int) ∧ (0 : Int) ≤ (80 : Int)) by omega) hI_f_5 (show k_bc fhs fha fhb9 (k_c (kn).toInt fhk9) (kn).toInt (kl).toInt f_5 from k_id_bc hF_7 (by omega)) (show k_be fhs fha fhb9 (k_c (kn).toInt fhk9) (0 : Int) f_5 from k_be_0 (by decide)) hP hD hS hl
      · have k_40 : (kl).toInt > (i_4).toInt := z_nle c_8
        refine lv_aload_n hx hb dX4_joinBeds_10 rfl (lv_at hl 1 rfl) ?_
        refine va_get (D := (dC, dI)) (ci := 4) (v := .ref hbd) (C := RX4) (T := TX4) (N := 10) hx hb hts hiX4 hown hK hP 0 rfl rfl 6 (by decide) w__fieldLink_RX4_29_ShellHeap_Known_bedOf_I_ (fun _ h9 => h9) rfl dX4_joinBeds_11 ?_
        refine lv_iload_n hx hb dX4_joinBeds_14 rfl (lv_at hl 0 rfl) ?_
        refine lv_iload_n hx hb dX4_joinBeds_15 rfl (lv_at hl 0 rfl) ?_
        refine va_iast hx hb hK hP hD hS 6 4 rfl rfl (z_vpin (by omega) (by omega)) dX4_joinBeds_16 (fun H_41 locs hP hD hS => ?_)
        obtain ⟨hP, hD⟩ := z_s_6 hP hD
        have hI_f_42 : ∀ j : Nat, ((0 : Int) ≤ ((upd f_5 (i_4 : Int32).toNatClampNeg i_4) j).toInt ∧ ((upd f_5 (i_4 : Int32).toNatClampNeg i_4) j).toInt ≤ (11 : Int)) := z_updP (P := fun v => ((0 : Int) ≤ (v).toInt ∧ (v).toInt ≤ (11 : Int))) hI_f_5 (show ((0 : Int) ≤ (i_4).toInt ∧ (i_4).toInt ≤ (11 : Int)) from by first | omega | decide)
        obtain ⟨z_43, ez_43⟩ : ∃ y : Int32, y = i_4 + 1 := ⟨_, rfl⟩
        have kz_43 : (z_43).toInt = (i_4).toInt + (1 : Int) := by rw [ez_43]; exact z_add (b := 1) rfl rfl (z_al hF_6.1 (by decide)) (z_ah hF_6.2 (by decide))
        refine lv_iinc (v := z_43) (lv' := [(1, .int z_43), (0, .ref h0)]) hx hb dX4_joinBeds_17 hl (k := 0) rfl (by rw [ez_43]; rfl) (by decide) rfl (fun ls hl => ?_)
        refine lv_goto (tgt := 2) hx hb dX4_joinBeds_20 (by decide) ?_
        exact ih_3 z_43 (upd f_5 (i_4 : Int32).toNatClampNeg i_4) _ _ _ (show (13 - (z_43).toInt).toNat < n_2 by omega) (show ((0 : Int) ≤ (z_43).toInt ∧ (z_43).toInt ≤ (12 : Int)) by omega) hI_f_42 (show k_id (z_43).toInt (upd f_5 (i_4 : Int32).toNatClampNeg i_4) from k_id_s (i := i_4) hF_7 (by omega) (by omega)) hP hD hS (lv_sub hl [0, 1] rfl)
  exact loop_1 _ 0 fhbd _ _ _ (Nat.lt_succ_self _) (show ((0 : Int) ≤ (0 : Int) ∧ (0 : Int) ≤ (12 : Int)) by omega) hI_hbd (show k_id (0 : Int) fhbd from k_id_0) hP hD hS hl
