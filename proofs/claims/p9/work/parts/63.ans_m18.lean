def u_s_X4_rankOfK : List Cond := .code yX4_rankOf cX4_rankOf 2 (some .int) :: ([.fieldLink RX4 38 "ShellHeap$Known" "clash" "I", .fieldLink RX4 26 "ShellHeap$Known" "ranks" "[I"] ++ (wsX40 ++ []))
theorem gd_s_X4_rankOfK : z_gd u_s_X4_rankOfK := z_gdc (by decide +kernel) (z_gda gdX4 (z_gd0))
set_option maxHeartbeats 4000000 in
set_option maxRecDepth 100000 in
theorem s_X4_rankOfK (l : Launch) (dC : Nat → ClassId) (dI : Nat → Nat → Nat) (sz : Nat) (h0 : Nat) (p1 : Int32) (h0_0 : Value) (h0_1 : Value) (h0_2 : Value) (h0_3 : Value) (h0_4 : Value) (h1 : Nat) (h0_6 : Value) (h0_7 : Value) (h0_8 : Value) (kc : Int32) (ch1 : ClassId) (fh1 : Nat → Int32) (hB_p1 : ((0 : Int) ≤ (p1).toInt ∧ (p1).toInt ≤ (11 : Int))) (hB_kc : ((0 : Int) ≤ (kc).toInt ∧ (kc).toInt ≤ (2 : Int))) : Met l yX4_rankOf u_s_X4_rankOfK ({ frames := 0, cells := 0, slots := 0, locals := 0 }) (va_Pc [.ref h0, .int p1] (z_C (dC, dI) vwCl [(h0, .inr (4, [h0_0, h0_1, h0_2, h0_3, h0_4, .ref h1, h0_6, h0_7, h0_8, .int kc])), (h1, .inl (ch1, 12, .inl fh1))] [(ch1, .int)] sz)) (va_Qi (fun (r : Int32) (_ : Unit) => (kc.toInt = 1 ∧ r.toInt = -1) ∨ (kc.toInt ≠ 1 ∧ r.toInt = (fh1 p1.toNatClampNeg).toInt)) (fun (_ : Unit) (_ : State) => True) (va_A [] sz)) 0 0 (va_A [] sz) := by
  refine Met.ofW (cc := cX4_rankOf) (maxL := 2) (ret := (some .int)) (by decide) rfl ?_
  intro p e s m args below meth c s₁ B hml hv
  obtain ⟨rfl, hsz, hP, hK, hD0⟩ := hv
  have hx := B.exec
  have hb := B.bytes
  have hr := B.returns
  have hts := atoms_spec (ws := u_s_X4_rankOfK) B.pre
  have hown : s.vm.findClass RX4 = some m.cls := findClass_of_methodNamed B.named
  have hlocks := B.notSynchronized
  subst hsz
  have hD := hD0
  generalize hAe : va_A [] s.heap.size = A
  have hA : ∀ q : Nat, s.heap.size ≤ q → A q := fun q h => by rw [← hAe]; exact Or.inr h
  have hS : va_S A s.heap s.heap [] := va_S.rf
  have hP : va_P (dC, dI) vwCl [(h0, .inr (4, [h0_0, h0_1, h0_2, h0_3, h0_4, .ref h1, h0_6, h0_7, h0_8, .int kc])), (h1, .inl (ch1, 12, .inl fh1))] s.heap := hP
  have w__fieldLink_RX4_38_ShellHeap_Known_clash_I_ := hts (.fieldLink RX4 38 "ShellHeap$Known" "clash" "I") (z_mc (z_ml z_m0))
  have hiX4 := show ∀ w ∈ u_ws RX4 TX4 10, w ∈ u_s_X4_rankOfK from fun w h => z_mc (z_mr (z_ml h))
  have w__fieldLink_RX4_26_ShellHeap_Known_ranks_I_ := hts (.fieldLink RX4 26 "ShellHeap$Known" "ranks" "[I") (z_mc (z_ml z_m1))
  have hl := lv_entry ([.ref h0, .int p1]) (n := 2) (Nat.le_of_ble_eq_true rfl)
  rw [lg_entry_eq]
  generalize (lg_sl ([.ref h0, .int p1]) ++ List.replicate (2 - (lg_sl ([.ref h0, .int p1])).length) Slot.unset).toArray = ls at hl ⊢
  have hl : lv_has ls 2 [(0, .ref h0), (1, .int p1)] := hl
  refine lv_aload_n hx hb dX4_rankOf_0 rfl (lv_at hl 0 rfl) ?_
  refine va_get (D := (dC, dI)) (ci := 4) (v := .int kc) (C := RX4) (T := TX4) (N := 10) hx hb hts hiX4 hown hK hP 0 rfl rfl 9 (by decide) w__fieldLink_RX4_38_ShellHeap_Known_clash_I_ (fun _ h9 => h9) rfl dX4_rankOf_1 ?_
  refine lv_iconst (v := 1) hx hb dX4_rankOf_4 (by decide) ?_
  refine lv_icmp_ne (tgt := 12) hx hb dX4_rankOf_5 (by decide) (fun c_1 => ?_) (fun c_1 => ?_)
  · have k_2 : (kc).toInt ≠ (1 : Int) := z_ne c_1
    refine lv_aload_n hx hb dX4_rankOf_12 rfl (lv_at hl 0 rfl) ?_
    refine va_get (D := (dC, dI)) (ci := 4) (v := .ref h1) (C := RX4) (T := TX4) (N := 10) hx hb hts hiX4 hown hK hP 0 rfl rfl 5 (by decide) w__fieldLink_RX4_26_ShellHeap_Known_ranks_I_ (fun _ h9 => h9) rfl dX4_rankOf_13 ?_
    refine lv_iload_n hx hb dX4_rankOf_16 rfl (lv_at hl 1 rfl) ?_
    refine va_iald hx hb hK hP 1 0 rfl rfl (z_vpinB hB_p1 (by decide) (by decide)) dX4_rankOf_17 ?_
    refine lv_topi (fun z_3 ez_3 => ?_)
    have kxz_3 : (z_3).toInt = (fh1 (p1 : Int32).toNatClampNeg).toInt := by rw [ez_3]
    refine W.widen (k := 0) (n := 0) (Nat.le_of_ble_eq_true rfl) (Nat.le_of_ble_eq_true rfl) ?_
    exact W.iret (v := z_3) hx hb hr (fun t ht hW => ⟨⟨z_3, (), rfl, (show (kc.toInt = 1 ∧ (z_3).toInt = -1) ∨ (kc.toInt ≠ 1 ∧ (z_3).toInt = (fh1 p1.toNatClampNeg).toInt) by omega), trivial⟩, hS.F ht⟩) hS.2.2 dX4_rankOf_18
  · have k_4 : (kc).toInt = (1 : Int) := z_eq c_1
    refine lv_iconst (v := (-1)) hx hb dX4_rankOf_8 (by decide) ?_
    refine lv_goto (tgt := 18) hx hb dX4_rankOf_9 (by decide) ?_
    refine W.widen (k := 0) (n := 0) (Nat.le_of_ble_eq_true rfl) (Nat.le_of_ble_eq_true rfl) ?_
    exact W.iret (v := (-1)) hx hb hr (fun t ht hW => ⟨⟨(-1), (), rfl, (show (kc.toInt = 1 ∧ (-1 : Int) = -1) ∨ (kc.toInt ≠ 1 ∧ (-1 : Int) = (fh1 p1.toNatClampNeg).toInt) by omega), trivial⟩, hS.F ht⟩) hS.2.2 dX4_rankOf_18
def u_s_X0_hasFirstA : List Cond := .code yX0_hasFirst cX0_hasFirst 2 (some .boolean) :: ([.fieldLink RX0 24 "ShellHeap$Book" "notes" "I"] ++ (wsX00 ++ []))
theorem gd_s_X0_hasFirstA : z_gd u_s_X0_hasFirstA := z_gdc (by decide +kernel) (z_gda gdX0 (z_gd0))
set_option maxHeartbeats 4000000 in
set_option maxRecDepth 100000 in
theorem s_X0_hasFirstA (l : Launch) (dC : Nat → ClassId) (dI : Nat → Nat → Nat) (sz : Nat) (h0 : Nat) (p1 : Int32) (h0_0 : Value) (h0_1 : Value) (h0_2 : Value) (h0_3 : Value) (bn : Int32) (h0_5 : Value) (hB_bn : ((0 : Int) ≤ (bn).toInt ∧ (bn).toInt ≤ (80 : Int))) : Met l yX0_hasFirst u_s_X0_hasFirstA ({ frames := 0, cells := 0, slots := 0, locals := 0 }) (va_Pc [.ref h0, .int p1] (z_C (dC, dI) vwCl [(h0, .inr (0, [h0_0, h0_1, h0_2, h0_3, .int bn, h0_5]))] [] sz)) (va_Qi (fun (r : Int32) (_ : Unit) => (r = 1 ∧ (0 ≤ p1.toInt ∧ p1.toInt ≤ bn.toInt)) ∨ (r = 0 ∧ ¬ (0 ≤ p1.toInt ∧ p1.toInt ≤ bn.toInt))) (fun (_ : Unit) (_ : State) => True) (va_A [] sz)) 0 0 (va_A [] sz) := by
  refine Met.ofW (cc := cX0_hasFirst) (maxL := 2) (ret := (some .boolean)) (by decide) rfl ?_
  intro p e s m args below meth c s₁ B hml hv
  obtain ⟨rfl, hsz, hP, hK, hD0⟩ := hv
  have hx := B.exec
  have hb := B.bytes
  have hr := B.returns
  have hts := atoms_spec (ws := u_s_X0_hasFirstA) B.pre
  have hown : s.vm.findClass RX0 = some m.cls := findClass_of_methodNamed B.named
  have hlocks := B.notSynchronized
  subst hsz
  have hD := hD0
  generalize hAe : va_A [] s.heap.size = A
  have hA : ∀ q : Nat, s.heap.size ≤ q → A q := fun q h => by rw [← hAe]; exact Or.inr h
  have hS : va_S A s.heap s.heap [] := va_S.rf
  have hP : va_P (dC, dI) vwCl [(h0, .inr (0, [h0_0, h0_1, h0_2, h0_3, .int bn, h0_5]))] s.heap := hP
  have w__fieldLink_RX0_24_ShellHeap_Book_notes_I_ := hts (.fieldLink RX0 24 "ShellHeap$Book" "notes" "I") (z_mc (z_ml z_m0))
  have hiX0 := show ∀ w ∈ u_ws RX0 TX0 6, w ∈ u_s_X0_hasFirstA from fun w h => z_mc (z_mr (z_ml h))
  have krr_p1 := z_rng p1
  have hl := lv_entry ([.ref h0, .int p1]) (n := 2) (Nat.le_of_ble_eq_true rfl)
  rw [lg_entry_eq]
  generalize (lg_sl ([.ref h0, .int p1]) ++ List.replicate (2 - (lg_sl ([.ref h0, .int p1])).length) Slot.unset).toArray = ls at hl ⊢
  have hl : lv_has ls 2 [(0, .ref h0), (1, .int p1)] := hl
  refine lv_iload_n hx hb dX0_hasFirst_0 rfl (lv_at hl 1 rfl) ?_
  refine lv_if_lt (tgt := 16) hx hb dX0_hasFirst_1 (by decide) (fun c_1 => ?_) (fun c_1 => ?_)
  · have k_2 : (p1).toInt < (0 : Int) := z_lt c_1
    refine lv_iconst (v := 0) hx hb dX0_hasFirst_16 (by decide) ?_
    refine W.widen (k := 0) (n := 0) (Nat.le_of_ble_eq_true rfl) (Nat.le_of_ble_eq_true rfl) ?_
    exact W.zret (v := 0) hx hb hr (by rfl) (fun t ht hW => ⟨⟨0, (), rfl, (Or.inr (⟨rfl, by first | omega | decide⟩)), trivial⟩, hS.F ht⟩) hS.2.2 dX0_hasFirst_17
  · have k_3 : (p1).toInt ≥ (0 : Int) := z_nlt c_1
    refine lv_iload_n hx hb dX0_hasFirst_4 rfl (lv_at hl 1 rfl) ?_
    refine lv_aload_n hx hb dX0_hasFirst_5 rfl (lv_at hl 0 rfl) ?_
    refine va_get (D := (dC, dI)) (ci := 0) (v := .int bn) (C := RX0) (T := TX0) (N := 6) hx hb hts hiX0 hown hK hP 0 rfl rfl 4 (by decide) w__fieldLink_RX0_24_ShellHeap_Book_notes_I_ (fun _ h9 => h9) rfl dX0_hasFirst_6 ?_
    refine lv_icmp_gt (tgt := 16) hx hb dX0_hasFirst_9 (by decide) (fun c_4 => ?_) (fun c_4 => ?_)
    · have k_5 : (bn).toInt < (p1).toInt := z_lt c_4
      refine lv_iconst (v := 0) hx hb dX0_hasFirst_16 (by decide) ?_
      refine W.widen (k := 0) (n := 0) (Nat.le_of_ble_eq_true rfl) (Nat.le_of_ble_eq_true rfl) ?_
      exact W.zret (v := 0) hx hb hr (by rfl) (fun t ht hW => ⟨⟨0, (), rfl, (Or.inr (⟨rfl, by first | omega | decide⟩)), trivial⟩, hS.F ht⟩) hS.2.2 dX0_hasFirst_17
    · have k_6 : (bn).toInt ≥ (p1).toInt := z_nlt c_4
      refine lv_iconst (v := 1) hx hb dX0_hasFirst_12 (by decide) ?_
      refine lv_goto (tgt := 17) hx hb dX0_hasFirst_13 (by decide) ?_
      refine W.widen (k := 0) (n := 0) (Nat.le_of_ble_eq_true rfl) (Nat.le_of_ble_eq_true rfl) ?_
      exact W.zret (v := 1) hx hb hr (by rfl) (fun t ht hW => ⟨⟨1, (), rfl, (Or.inl (⟨rfl, by first | omega | decide⟩)), trivial⟩, hS.F ht⟩) hS.2.2 dX0_hasFirst_17
def u_s_X11_bedK : List Cond := .code yX11_bed cX11_bed 5 (some .int) :: ([.fieldLink RX11 19 "ShellHeap" "book" "LShellHeap$Book;", .methodLink RX11 140 yX0_hasFirst, .instanceMethod yX0_hasFirst, .selects RX0 yX0_hasFirst yX0_hasFirst, .initialized RX0, .methodLink RX11 115 yX0_hasLayer, .instanceMethod yX0_hasLayer, .selects RX0 yX0_hasLayer yX0_hasLayer, .fieldLink RX11 28 "ShellHeap" "known" "LShellHeap$Known;", .methodLink RX11 143 yX4_look, .instanceMethod yX4_look, .selects RX4 yX4_look yX4_look, .initialized RX4, .fieldLink RX11 146 "ShellHeap$Known" "bedOf" "[I", .fieldLink RX11 162 "ShellHeap$Known" "clash" "I", .fieldLink RX11 168 "ShellHeap$Known" "greatest" "[I", .methodLink RX11 150 yX4_layersOf, .instanceMethod yX4_layersOf, .selects RX4 yX4_layersOf yX4_layersOf, .methodLink RX11 154 yJ6_bitCount_0f7a4, .static yJ6_bitCount_0f7a4, .initialized RJ6, .methodLink RX11 159 yX4_rankOf, .instanceMethod yX4_rankOf, .selects RX4 yX4_rankOf yX4_rankOf, .fieldLink RX11 165 "ShellHeap$Known" "least" "[I"] ++ (wsX110 ++ (wsX40 ++ (u_s_X0_hasFirstA ++ (u_s_X0_hasLayerA ++ (u_s_X4_lookK ++ (u_s_X4_layersOfK ++ (u_s_bitCountK ++ (u_s_X4_rankOfK ++ [])))))))))
set_option maxRecDepth 20000 in
theorem gw_s_X11_bedK_s_X0_hasFirstA_140 : GoodIn u_s_X11_bedK (wsV RX11 140 RX0 yX0_hasFirst u_s_X0_hasFirstA) := z_gV (z_gr _ [2, 3, 4, 5] rfl (by decide +kernel)) (fun w h => ⟨z_mc (z_mr (z_mr (z_mr (z_ml h)))), gd_s_X0_hasFirstA w h⟩)
set_option maxRecDepth 20000 in
theorem gw_s_X11_bedK_s_X0_hasLayerA_115 : GoodIn u_s_X11_bedK (wsV RX11 115 RX0 yX0_hasLayer u_s_X0_hasLayerA) := z_gV (z_gr _ [6, 7, 8, 5] rfl (by decide +kernel)) (fun w h => ⟨z_mc (z_mr (z_mr (z_mr (z_mr (z_ml h))))), gd_s_X0_hasLayerA w h⟩)
set_option maxRecDepth 20000 in
theorem gw_s_X11_bedK_s_X4_lookK_143 : GoodIn u_s_X11_bedK (wsV RX11 143 RX4 yX4_look u_s_X4_lookK) := z_gV (z_gr _ [10, 11, 12, 13] rfl (by decide +kernel)) (fun w h => ⟨z_mc (z_mr (z_mr (z_mr (z_mr (z_mr (z_ml h)))))), gd_s_X4_lookK w h⟩)
set_option maxRecDepth 20000 in
theorem gw_s_X11_bedK_s_X4_layersOfK_150 : GoodIn u_s_X11_bedK (wsV RX11 150 RX4 yX4_layersOf u_s_X4_layersOfK) := z_gV (z_gr _ [17, 18, 19, 13] rfl (by decide +kernel)) (fun w h => ⟨z_mc (z_mr (z_mr (z_mr (z_mr (z_mr (z_mr (z_ml h))))))), gd_s_X4_layersOfK w h⟩)
set_option maxRecDepth 20000 in
theorem gw_s_X11_bedK_s_bitCountK_154 : GoodIn u_s_X11_bedK (va_wsS RX11 154 yJ6_bitCount_0f7a4 u_s_bitCountK) := z_gS (z_gr _ [20, 21, 22] rfl (by decide +kernel)) (fun w h => ⟨z_mc (z_mr (z_mr (z_mr (z_mr (z_mr (z_mr (z_mr (z_ml h)))))))), gd_s_bitCountK w h⟩)
set_option maxRecDepth 20000 in
theorem gw_s_X11_bedK_s_X4_rankOfK_159 : GoodIn u_s_X11_bedK (wsV RX11 159 RX4 yX4_rankOf u_s_X4_rankOfK) := z_gV (z_gr _ [23, 24, 25, 13] rfl (by decide +kernel)) (fun w h => ⟨z_mc (z_mr (z_mr (z_mr (z_mr (z_mr (z_mr (z_mr (z_mr (z_ml h))))))))), gd_s_X4_rankOfK w h⟩)
set_option maxHeartbeats 4000000 in
set_option maxRecDepth 100000 in
theorem s_X11_bedK (l : Launch) (dC : Nat → ClassId) (dI : Nat → Nat → Nat) (sz : Nat) (h0 : Nat) (p1 : Int32) (p2 : Int32) (p3 : Int32) (h0_0 : Value) (hbk : Nat) (hkn : Nat) (h0_3 : Value) (h0_4 : Value) (h0_5 : Value) (h0_6 : Value) (h0_7 : Value) (h0_8 : Value) (h0_9 : Value) (kn : Int32) (kl : Int32) (hk9 : Nat) (hlt : Nat) (hrk : Nat) (hbd : Nat) (hle : Nat) (hgr : Nat) (kc : Int32) (hs : Nat) (ha : Nat) (hb9 : Nat) (hc9 : Nat) (bn : Int32) (bl : Int32) (chk9 : ClassId) (fhk9 : Nat → Int32) (chs : ClassId) (fhs : Nat → Int32) (cha : ClassId) (fha : Nat → Int32) (chb9 : ClassId) (fhb9 : Nat → Int32) (chc9 : ClassId) (fhc9 : Nat → Int32) (chbd : ClassId) (fhbd : Nat → Int32) (chlt : ClassId) (fhlt : Nat → Int32) (chrk : ClassId) (fhrk : Nat → Int32) (chle : ClassId) (fhle : Nat → Int32) (chgr : ClassId) (fhgr : Nat → Int32) (hB_kn : ((-1 : Int) ≤ (kn).toInt ∧ (kn).toInt ≤ (80 : Int))) (hB_kl : ((-1 : Int) ≤ (kl).toInt ∧ (kl).toInt ≤ (12 : Int))) (hB_kc : ((0 : Int) ≤ (kc).toInt ∧ (kc).toInt ≤ (2 : Int))) (hB_bl : ((0 : Int) ≤ (bl).toInt ∧ (bl).toInt ≤ (12 : Int))) (hB_bn : ((0 : Int) ≤ (bn).toInt ∧ (bn).toInt ≤ (80 : Int))) (hI_ha : ∀ j : Nat, ((0 : Int) ≤ (fha j).toInt ∧ (fha j).toInt ≤ (79 : Int))) (hI_hbd : ∀ j : Nat, ((0 : Int) ≤ (fhbd j).toInt ∧ (fhbd j).toInt ≤ (11 : Int))) (hR : ∀ j : Nat, z_rel (fhs j) (fha j) (fhb9 j)) (hCA : k_CA fhs fha fhb9 fhc9 bn.toInt kn.toInt kl.toInt fhk9 fhbd fhlt fhrk fhle fhgr kc.toInt) (hGF : k_GF fhs fha fhb9 bn.toInt bl.toInt) : Met l yX11_bed u_s_X11_bedK ({ frames := 4, cells := 0, slots := 0, locals := 87 }) (va_Pc [.ref h0, .int p1, .int p2, .int p3] (z_C (dC, dI) vwCl [(h0, .inr (11, [h0_0, .ref hbk, .ref hkn, h0_3, h0_4, h0_5, h0_6, h0_7, h0_8, h0_9])), (hkn, .inr (4, [.ref hbk, .int kn, .int kl, .ref hk9, .ref hlt, .ref hrk, .ref hbd, .ref hle, .ref hgr, .int kc])), (hbk, .inr (0, [.ref hs, .ref ha, .ref hb9, .ref hc9, .int bn, .int bl])), (hk9, .inl (chk9, 80, .inl fhk9)), (hs, .inl (chs, 80, .inl fhs)), (ha, .inl (cha, 80, .inl fha)), (hb9, .inl (chb9, 80, .inl fhb9)), (hc9, .inl (chc9, 80, .inl fhc9)), (hbd, .inl (chbd, 12, .inl fhbd)), (hlt, .inl (chlt, 12, .inl fhlt)), (hrk, .inl (chrk, 12, .inl fhrk)), (hle, .inl (chle, 12, .inl fhle)), (hgr, .inl (chgr, 12, .inl fhgr))] [(chk9, .boolean), (chs, .int), (cha, .int), (chb9, .int), (chc9, .int), (chbd, .int), (chlt, .int), (chrk, .int), (chle, .int), (chgr, .int)] sz)) (va_Qi (fun (r : Int32) (_ : Unit) => r = v_bdA bn bl fhs fha fhb9 fhc9 p1 p2 p3) (fun (_ : Unit) (t : State) => ∃ (n_hkn_notesSeen : Int32), ∃ (n_hkn_layersSeen : Int32), ∃ (n_hkn_clash : Int32), ∃ (g_hk9 : Nat → Int32), ∃ (g_hbd : Nat → Int32), ∃ (g_hlt : Nat → Int32), ∃ (g_hrk : Nat → Int32), ∃ (g_hle : Nat → Int32), ∃ (g_hgr : Nat → Int32), ((-1 : Int) ≤ (n_hkn_notesSeen).toInt ∧ (n_hkn_notesSeen).toInt ≤ (80 : Int)) ∧ ((-1 : Int) ≤ (n_hkn_layersSeen).toInt ∧ (n_hkn_layersSeen).toInt ≤ (12 : Int)) ∧ ((0 : Int) ≤ (n_hkn_clash).toInt ∧ (n_hkn_clash).toInt ≤ (2 : Int)) ∧ (∀ j : Nat, ((0 : Int) ≤ (g_hbd j).toInt ∧ (g_hbd j).toInt ≤ (11 : Int))) ∧ (k_CA fhs fha fhb9 fhc9 bn.toInt n_hkn_notesSeen.toInt n_hkn_layersSeen.toInt g_hk9 g_hbd g_hlt g_hrk g_hle g_hgr n_hkn_clash.toInt) ∧ va_P (dC, dI) vwCl [(h0, .inr (11, [h0_0, .ref hbk, .ref hkn, h0_3, h0_4, h0_5, h0_6, h0_7, h0_8, h0_9])), (hkn, .inr (4, [.ref hbk, .int n_hkn_notesSeen, .int n_hkn_layersSeen, .ref hk9, .ref hlt, .ref hrk, .ref hbd, .ref hle, .ref hgr, .int n_hkn_clash])), (hbk, .inr (0, [.ref hs, .ref ha, .ref hb9, .ref hc9, .int bn, .int bl])), (hk9, .inl (chk9, 80, .inl g_hk9)), (hs, .inl (chs, 80, .inl fhs)), (ha, .inl (cha, 80, .inl fha)), (hb9, .inl (chb9, 80, .inl fhb9)), (hc9, .inl (chc9, 80, .inl fhc9)), (hbd, .inl (chbd, 12, .inl g_hbd)), (hlt, .inl (chlt, 12, .inl g_hlt)), (hrk, .inl (chrk, 12, .inl g_hrk)), (hle, .inl (chle, 12, .inl g_hle)), (hgr, .inl (chgr, 12, .inl g_hgr))] t.heap ∧ va_K (dC, dI) vwCl [] t ∧ va_D (va_A [(h0, .inr (11, [h0_0, .ref hbk, .ref hkn, h0_3, h0_4, h0_5, h0_6, h0_7, h0_8, h0_9])), (hkn, .inr (4, [.ref hbk, .int kn, .int kl, .ref hk9, .ref hlt, .ref hrk, .ref hbd, .ref hle, .ref hgr, .int kc])), (hbk, .inr (0, [.ref hs, .ref ha, .ref hb9, .ref hc9, .int bn, .int bl])), (hk9, .inl (chk9, 80, .inl fhk9)), (hs, .inl (chs, 80, .inl fhs)), (ha, .inl (cha, 80, .inl fha)), (hb9, .inl (chb9, 80, .inl fhb9)), (hc9, .inl (chc9, 80, .inl fhc9)), (hbd, .inl (chbd, 12, .inl fhbd)), (hlt, .inl (chlt, 12, .inl fhlt)), (hrk, .inl (chrk, 12, .inl fhrk)), (hle, .inl (chle, 12, .inl fhle)), (hgr, .inl (chgr, 12, .inl fhgr))] sz) [(h0, .inr (11, [h0_0, .ref hbk, .ref hkn, h0_3, h0_4, h0_5, h0_6, h0_7, h0_8, h0_9])), (hkn, .inr (4, [.ref hbk, .int n_hkn_notesSeen, .int n_hkn_layersSeen, .ref hk9, .ref hlt, .ref hrk, .ref hbd, .ref hle, .ref hgr, .int n_hkn_clash])), (hbk, .inr (0, [.ref hs, .ref ha, .ref hb9, .ref hc9, .int bn, .int bl])), (hk9, .inl (chk9, 80, .inl g_hk9)), (hs, .inl (chs, 80, .inl fhs)), (ha, .inl (cha, 80, .inl fha)), (hb9, .inl (chb9, 80, .inl fhb9)), (hc9, .inl (chc9, 80, .inl fhc9)), (hbd, .inl (chbd, 12, .inl g_hbd)), (hlt, .inl (chlt, 12, .inl g_hlt)), (hrk, .inl (chrk, 12, .inl g_hrk)), (hle, .inl (chle, 12, .inl g_hle)), (hgr, .inl (chgr, 12, .inl g_hgr))]) (va_A [(h0, .inr (11, [h0_0, .ref hbk, .ref hkn, h0_3, h0_4, h0_5, h0_6, h0_7, h0_8, h0_9])), (hkn, .inr (4, [.ref hbk, .int kn, .int kl, .ref hk9, .ref hlt, .ref hrk, .ref hbd, .ref hle, .ref hgr, .int kc])), (hbk, .inr (0, [.ref hs, .ref ha, .ref hb9, .ref hc9, .int bn, .int bl])), (hk9, .inl (chk9, 80, .inl fhk9)), (hs, .inl (chs, 80, .inl fhs)), (ha, .inl (cha, 80, .inl fha)), (hb9, .inl (chb9, 80, .inl fhb9)), (hc9, .inl (chc9, 80, .inl fhc9)), (hbd, .inl (chbd, 12, .inl fhbd)), (hlt, .inl (chlt, 12, .inl fhlt)), (hrk, .inl (chrk, 12, .inl fhrk)), (hle, .inl (chle, 12, .inl fhle)), (hgr, .inl (chgr, 12, .inl fhgr))] sz)) 0 0 (va_A [(h0, .inr (11, [h0_0, .ref hbk, .ref hkn, h0_3, h0_4, h0_5, h0_6, h0_7, h0_8, h0_9])), (hkn, .inr (4, [.ref hbk, .int kn, .int kl, .ref hk9, .ref hlt, .ref hrk, .ref hbd, .ref hle, .ref hgr, .int kc])), (hbk, .inr (0, [.ref hs, .ref ha, .ref hb9, .ref hc9, .int bn, .int bl])), (hk9, .inl (chk9, 80, .inl fhk9)), (hs, .inl (chs, 80, .inl fhs)), (ha, .inl (cha, 80, .inl fha)), (hb9, .inl (chb9, 80, .inl fhb9)), (hc9, .inl (chc9, 80, .inl fhc9)), (hbd, .inl (chbd, 12, .inl fhbd)), (hlt, .inl (chlt, 12, .inl fhlt)), (hrk, .inl (chrk, 12, .inl fhrk)), (hle, .inl (chle, 12, .inl fhle)), (hgr, .inl (chgr, 12, .inl fhgr))] sz) := by
  refine Met.ofW (cc := cX11_bed) (maxL := 5) (ret := (some .int)) (by decide) rfl ?_
  intro p e s m args below meth c s₁ B hml hv
  obtain ⟨rfl, hsz, hP, hK, hD0⟩ := hv
  have hx := B.exec
  have hb := B.bytes
  have hr := B.returns
  have hts := atoms_spec (ws := u_s_X11_bedK) B.pre
  have hown : s.vm.findClass RX11 = some m.cls := findClass_of_methodNamed B.named
  have hlocks := B.notSynchronized
  subst hsz
  have hD := hD0.self (sz := s.heap.size)
  generalize hAe : va_A [(h0, .inr (11, [h0_0, .ref hbk, .ref hkn, h0_3, h0_4, h0_5, h0_6, h0_7, h0_8, h0_9])), (hkn, .inr (4, [.ref hbk, .int kn, .int kl, .ref hk9, .ref hlt, .ref hrk, .ref hbd, .ref hle, .ref hgr, .int kc])), (hbk, .inr (0, [.ref hs, .ref ha, .ref hb9, .ref hc9, .int bn, .int bl])), (hk9, .inl (chk9, 80, .inl fhk9)), (hs, .inl (chs, 80, .inl fhs)), (ha, .inl (cha, 80, .inl fha)), (hb9, .inl (chb9, 80, .inl fhb9)), (hc9, .inl (chc9, 80, .inl fhc9)), (hbd, .inl (chbd, 12, .inl fhbd)), (hlt, .inl (chlt, 12, .inl fhlt)), (hrk, .inl (chrk, 12, .inl fhrk)), (hle, .inl (chle, 12, .inl fhle)), (hgr, .inl (chgr, 12, .inl fhgr))] s.heap.size = A at hD ⊢
  have hA : ∀ q : Nat, s.heap.size ≤ q → A q := fun q h => by rw [← hAe]; exact Or.inr h
  have hS : va_S A s.heap s.heap [] := va_S.rf
  have hP : va_P (dC, dI) vwCl [(h0, .inr (11, [h0_0, .ref hbk, .ref hkn, h0_3, h0_4, h0_5, h0_6, h0_7, h0_8, h0_9])), (hkn, .inr (4, [.ref hbk, .int kn, .int kl, .ref hk9, .ref hlt, .ref hrk, .ref hbd, .ref hle, .ref hgr, .int kc])), (hbk, .inr (0, [.ref hs, .ref ha, .ref hb9, .ref hc9, .int bn, .int bl])), (hk9, .inl (chk9, 80, .inl fhk9)), (hs, .inl (chs, 80, .inl fhs)), (ha, .inl (cha, 80, .inl fha)), (hb9, .inl (chb9, 80, .inl fhb9)), (hc9, .inl (chc9, 80, .inl fhc9)), (hbd, .inl (chbd, 12, .inl fhbd)), (hlt, .inl (chlt, 12, .inl fhlt)), (hrk, .inl (chrk, 12, .inl fhrk)), (hle, .inl (chle, 12, .inl fhle)), (hgr, .inl (chgr, 12, .inl fhgr))] s.heap := hP
  have w__fieldLink_RX11_19_ShellHeap_book_LShellHeap_Book_ := hts (.fieldLink RX11 19 "ShellHeap" "book" "LShellHeap$Book;") (z_mc (z_ml z_m0))
  have hiX11 := show ∀ w ∈ u_ws RX11 TX11 10, w ∈ u_s_X11_bedK from fun w h => z_mc (z_mr (z_ml h))
  have w__fieldLink_RX11_28_ShellHeap_known_LShellHeap_Known_ := hts (.fieldLink RX11 28 "ShellHeap" "known" "LShellHeap$Known;") (z_mc (z_ml z_m8))
  have w__fieldLink_RX11_146_ShellHeap_Known_bedOf_I_ := hts (.fieldLink RX11 146 "ShellHeap$Known" "bedOf" "[I") (z_mc (z_ml z_m13))
  have hiX4 := show ∀ w ∈ u_ws RX4 TX4 10, w ∈ u_s_X11_bedK from fun w h => z_mc (z_mr (z_mr (z_ml h)))
  have w__fieldLink_RX11_162_ShellHeap_Known_clash_I_ := hts (.fieldLink RX11 162 "ShellHeap$Known" "clash" "I") (z_mc (z_ml z_m14))
  have w__fieldLink_RX11_168_ShellHeap_Known_greatest_I_ := hts (.fieldLink RX11 168 "ShellHeap$Known" "greatest" "[I") (z_mc (z_ml z_m15))
  have w__fieldLink_RX11_165_ShellHeap_Known_least_I_ := hts (.fieldLink RX11 165 "ShellHeap$Known" "least" "[I") (z_mc (z_ml z_m25))
  have krr_p1 := z_rng p1
  have krr_p2 := z_rng p2
  have krr_p3 := z_rng p3
  have hl := lv_entry ([.ref h0, .int p1, .int p2, .int p3]) (n := 5) (Nat.le_of_ble_eq_true rfl)
  rw [lg_entry_eq]
  generalize (lg_sl ([.ref h0, .int p1, .int p2, .int p3]) ++ List.replicate (5 - (lg_sl ([.ref h0, .int p1, .int p2, .int p3])).length) Slot.unset).toArray = ls at hl ⊢
  have hl : lv_has ls 5 [(0, .ref h0), (1, .int p1), (2, .int p2), (3, .int p3)] := hl
  refine lv_aload_n hx hb dX11_bed_0 rfl (lv_at hl 0 rfl) ?_
  refine va_get (D := (dC, dI)) (ci := 11) (v := .ref hbk) (C := RX11) (T := TX11) (N := 10) hx hb hts hiX11 hown hK hP 0 rfl rfl 1 (by decide) w__fieldLink_RX11_19_ShellHeap_book_LShellHeap_Book_ (fun _ h9 => h9) rfl dX11_bed_1 ?_
  refine lv_iload_n hx hb dX11_bed_4 rfl (lv_at hl 1 rfl) ?_
  obtain ⟨hPc, hDc⟩ := z_sub2 (ws' := [(hbk, .inr (0, [.ref hs, .ref ha, .ref hb9, .ref hc9, .int bn, .int bl]))]) hP hD [2] (by decide) rfl
  have hKc := hK.sub (tys' := []) [] rfl
  have hFc := va_free (ws := []) (wc := []) (z_D0 _) hS hA [] rfl
  refine va_calli (va_runV (As := [.int p1]) (rest := []) ⟨hx, hb, hml, hown, hts⟩ (s_X0_hasFirstA l dC dI s.heap.size hbk p1 (.ref hs) (.ref ha) (.ref hb9) (.ref hc9) bn (.int bl) hB_bn) (cwV 1 hts gw_s_X11_bedK_s_X0_hasFirstA_140 rfl rfl rfl (by decide +kernel) ⟨Nat.le_of_ble_eq_true rfl, Nat.le_of_ble_eq_true rfl⟩) ⟨z_blind, va_recv hKc hPc (ci := 0) (q0 := 0) rfl rfl, z_pre hPc hKc hDc⟩ rfl rfl hl.1 rfl (lv_room (Nat.le_of_ble_eq_true rfl)) dX11_bed_5 ⟨Nat.le_of_ble_eq_true rfl, Nat.le_of_ble_eq_true rfl⟩) hS (fun q _ h => hFc q h) hFc (fun r_2 u t H_1 locs ht hvm hw_3 hB hz1 hk1 hS => ?_)
  replace hP := z_pure hP hk1
  clear hPc hDc hKc
  rcases hw_3 with ⟨rfl, hw_3⟩ | ⟨rfl, hw_3⟩
  · have hw_3 : (0 ≤ p1.toInt ∧ p1.toInt ≤ bn.toInt) := hw_3
    refine lv_if_eq (tgt := 31) hx hb dX11_bed_8 (by decide) (fun c_4 => absurd c_4 (by decide)) (fun _ => ?_)
    refine lv_aload_n hx hb dX11_bed_11 rfl (lv_at hl 0 rfl) ?_
    refine va_get (D := (dC, dI)) (ci := 11) (v := .ref hbk) (C := RX11) (T := TX11) (N := 10) hx hb hts hiX11 hown hK hP 0 rfl rfl 1 (by decide) w__fieldLink_RX11_19_ShellHeap_book_LShellHeap_Book_ (fun _ h9 => h9) rfl dX11_bed_12 ?_
    refine lv_iload_n hx hb dX11_bed_15 rfl (lv_at hl 2 rfl) ?_
    obtain ⟨hPc, hDc⟩ := z_sub2 (ws' := [(hbk, .inr (0, [.ref hs, .ref ha, .ref hb9, .ref hc9, .int bn, .int bl]))]) hP hD [2] (by decide) rfl
    have hKc := hK.sub (tys' := []) [] rfl
    have hFc := va_free (ws := []) (wc := []) (z_D0 _) hS hA [] rfl
    refine va_calli (va_runV (As := [.int p2]) (rest := []) ⟨hx, hb, hml, hown, hts⟩ (s_X0_hasLayerA l dC dI H_1.size hbk p2 (.ref hs) (.ref ha) (.ref hb9) (.ref hc9) (.int bn) bl hB_bl) (cwV 1 hts gw_s_X11_bedK_s_X0_hasLayerA_115 rfl rfl rfl (by decide +kernel) ⟨Nat.le_of_ble_eq_true rfl, Nat.le_of_ble_eq_true rfl⟩) ⟨z_blind, va_recv hKc hPc (ci := 0) (q0 := 0) rfl rfl, z_pre hPc hKc hDc⟩ rfl rfl hl.1 rfl (lv_room (Nat.le_of_ble_eq_true rfl)) dX11_bed_16 ⟨Nat.le_of_ble_eq_true rfl, Nat.le_of_ble_eq_true rfl⟩) hS (fun q _ h => hFc q h) hFc (fun r_6 u t H_5 locs ht hvm hw_7 hB hz1 hk1 hS => ?_)
    replace hP := z_pure hP hk1
    clear hPc hDc hKc
    rcases hw_7 with ⟨rfl, hw_7⟩ | ⟨rfl, hw_7⟩
    · have hw_7 : (0 ≤ p2.toInt ∧ p2.toInt < bl.toInt) := hw_7
      refine lv_if_eq (tgt := 31) hx hb dX11_bed_19 (by decide) (fun c_8 => absurd c_8 (by decide)) (fun _ => ?_)
      refine lv_iload_n hx hb dX11_bed_22 rfl (lv_at hl 3 rfl) ?_
      refine lv_if_lt (tgt := 31) hx hb dX11_bed_23 (by decide) (fun c_9 => ?_) (fun c_9 => ?_)
      · have k_10 : (p3).toInt < (0 : Int) := z_lt c_9
        refine lv_bipush (v := (-2)) hx hb dX11_bed_31 (by decide) ?_
        have hP9 := hP
        have hD9 := hD
        have hK9 := hK.sub (tys' := []) [] rfl
        refine W.widen (k := 0) (n := 0) (Nat.le_of_ble_eq_true rfl) (Nat.le_of_ble_eq_true rfl) ?_
        exact W.iret (v := (-2)) hx hb hr (fun t ht hW => ⟨⟨(-2), (), rfl, (show (-2) = v_bdA bn bl fhs fha fhb9 fhc9 p1 p2 p3 by unfold v_bdA; rw [if_neg (by omega)]), ⟨kn, kl, kc, fhk9, fhbd, fhlt, fhrk, fhle, fhgr, hB_kn, hB_kl, hB_kc, hI_hbd, (show k_CA fhs fha fhb9 fhc9 bn.toInt kn.toInt kl.toInt fhk9 fhbd fhlt fhrk fhle fhgr kc.toInt from hCA), by rw [ht]; exact hP9, va_K.moved hW.alike hK9, hD9⟩⟩, hS.F ht⟩) hS.2.2 dX11_bed_33
      · have k_11 : (p3).toInt ≥ (0 : Int) := z_nlt c_9
        refine lv_iload_n hx hb dX11_bed_26 rfl (lv_at hl 3 rfl) ?_
        refine lv_iconst (v := 4) hx hb dX11_bed_27 (by decide) ?_
        refine lv_icmp_le (tgt := 34) hx hb dX11_bed_28 (by decide) (fun c_12 => ?_) (fun c_12 => ?_)
        · have k_13 : (p3).toInt ≤ (4 : Int) := z_le c_12
          refine lv_aload_n hx hb dX11_bed_34 rfl (lv_at hl 0 rfl) ?_
          refine va_get (D := (dC, dI)) (ci := 11) (v := .ref hkn) (C := RX11) (T := TX11) (N := 10) hx hb hts hiX11 hown hK hP 0 rfl rfl 2 (by decide) w__fieldLink_RX11_28_ShellHeap_known_LShellHeap_Known_ (fun _ h9 => h9) rfl dX11_bed_35 ?_
          refine lv_iload_n hx hb dX11_bed_38 rfl (lv_at hl 1 rfl) ?_
          have hKI := hCA.2
          have hRG : k_r3 fhs fha fhb9 (p1).toInt (bl).toInt := k_GF_r3 hGF (by omega)
          have hRD : k_rd fhs fha (p1).toInt (bl).toInt := k_GF_rd hGF (by omega)
          obtain ⟨hPc, hDc, hFc⟩ := z_sub3 (ws' := [(hkn, .inr (4, [.ref hbk, .int kn, .int kl, .ref hk9, .ref hlt, .ref hrk, .ref hbd, .ref hle, .ref hgr, .int kc])), (hbk, .inr (0, [.ref hs, .ref ha, .ref hb9, .ref hc9, .int bn, .int bl])), (hk9, .inl (chk9, 80, .inl fhk9)), (hs, .inl (chs, 80, .inl fhs)), (ha, .inl (cha, 80, .inl fha)), (hb9, .inl (chb9, 80, .inl fhb9)), (hc9, .inl (chc9, 80, .inl fhc9)), (hbd, .inl (chbd, 12, .inl fhbd)), (hlt, .inl (chlt, 12, .inl fhlt)), (hrk, .inl (chrk, 12, .inl fhrk)), (hle, .inl (chle, 12, .inl fhle)), (hgr, .inl (chgr, 12, .inl fhgr))]) hP hD hS hA [1, 2, 3, 4, 5, 6, 7, 8, 9, 10, 11, 12] (by decide) rfl
          have hKc := hK
          refine va_callv (va_runV (As := [.int p1]) (rest := []) ⟨hx, hb, hml, hown, hts⟩ (s_X4_lookK l dC dI H_5.size hkn p1 hbk kn kl hk9 hlt hrk hbd hle hgr kc hs ha hb9 hc9 (.int bn) bl chk9 fhk9 chs fhs cha fha chb9 fhb9 chc9 fhc9 chbd fhbd chlt fhlt chrk fhrk chle fhle chgr fhgr hB_kn hB_kl hB_kc hB_bl (by first | omega | decide) hI_ha hI_hbd hKI hRG hRD) (cwV 1 hts gw_s_X11_bedK_s_X4_lookK_143 rfl rfl rfl (by decide +kernel) ⟨Nat.le_of_ble_eq_true rfl, Nat.le_of_ble_eq_true rfl⟩) ⟨z_blind, va_recv hKc hPc (ci := 4) (q0 := 0) rfl rfl, z_pre hPc hKc hDc⟩ rfl rfl hl.1 rfl (lv_room (Nat.le_of_ble_eq_true rfl)) dX11_bed_39 ⟨Nat.le_of_ble_eq_true rfl, Nat.le_of_ble_eq_true rfl⟩) hS (fun q _ h => hFc q h) hFc (fun u t H_14 locs ht hvm hw_16 hB hz1 hk1 hS => ?_)
          obtain ⟨n_h0_notesSeen_17, n_h0_layersSeen_18, n_h0_clash_19, g_hk9_20, g_hbd_21, g_hlt_22, g_hrk_23, g_hle_24, g_hgr_25, hp_26, hp_27, hp_28, hp_29, hp_30, hp_31, hP1, hK1, hD1⟩ := hB
          rw [ht] at hP1
          have hK1 := va_K.moved hvm.symm hK1
          obtain ⟨hP, hD⟩ := z_ap_1 (va_join (wr := [(h0, .inr (11, [h0_0, .ref hbk, .ref hkn, h0_3, h0_4, h0_5, h0_6, h0_7, h0_8, h0_9]))]) hP hD [1, 2, 3, 4, 5, 6, 7, 8, 9, 10, 11, 12] [0] rfl rfl (by decide) (by decide) hk1 hFc hP1 hD1)
          have hp_30 : n_h0_notesSeen_17.toInt = p1.toInt ∧ n_h0_layersSeen_18.toInt = bl.toInt := hp_30
          have hp_31 : k_KN fhs fha fhb9 fhc9 p1.toInt bl.toInt g_hk9_20 g_hbd_21 g_hlt_22 g_hrk_23 g_hle_24 g_hgr_25 n_h0_clash_19.toInt := hp_31
          clear hPc hDc hKc
          refine lv_aload_n hx hb dX11_bed_42 rfl (lv_at hl 0 rfl) ?_
          refine va_get (D := (dC, dI)) (ci := 11) (v := .ref hkn) (C := RX11) (T := TX11) (N := 10) hx hb hts hiX11 hown hK hP 0 rfl rfl 2 (by decide) w__fieldLink_RX11_28_ShellHeap_known_LShellHeap_Known_ (fun _ h9 => h9) rfl dX11_bed_43 ?_
          refine va_get (D := (dC, dI)) (ci := 4) (v := .ref hbd) (C := RX4) (T := TX4) (N := 10) hx hb hts hiX4 hown hK hP 1 rfl rfl 6 (by decide) w__fieldLink_RX11_146_ShellHeap_Known_bedOf_I_ (fun _ h9 => h9) rfl dX11_bed_46 ?_
          refine lv_iload_n hx hb dX11_bed_49 rfl (lv_at hl 2 rfl) ?_
          refine va_iald hx hb hK hP 8 5 rfl rfl (z_vpin (by omega) (by omega)) dX11_bed_50 ?_
          refine lv_topi (fun z_32 ez_32 => ?_)
          have kz_32 : ((0 : Int) ≤ (z_32).toInt ∧ (z_32).toInt ≤ (11 : Int)) := by rw [ez_32]; exact hp_29 _
          refine lv_istore (lv' := [(4, .int z_32), (0, .ref h0), (1, .int p1), (2, .int p2), (3, .int p3)]) hx hb dX11_bed_51 hl (by decide) rfl (fun ls hl => ?_)
          refine lv_iload_n hx hb dX11_bed_53 rfl (lv_at hl 4 rfl) ?_
          rcases z_sw p3 (0) (3) with hsw | hsw
          · refine lv_tableOut (tgt := 135) hx hb dX11_bed_54 hsw (by decide) ?_
            refine lv_aload_n hx hb dX11_bed_135 rfl (lv_at hl 1 rfl) ?_
            refine va_get (D := (dC, dI)) (ci := 11) (v := .ref hkn) (C := RX11) (T := TX11) (N := 10) hx hb hts hiX11 hown hK hP 0 rfl rfl 2 (by decide) w__fieldLink_RX11_28_ShellHeap_known_LShellHeap_Known_ (fun _ h9 => h9) rfl dX11_bed_136 ?_
            refine va_get (D := (dC, dI)) (ci := 4) (v := .int n_h0_clash_19) (C := RX4) (T := TX4) (N := 10) hx hb hts hiX4 hown hK hP 1 rfl rfl 9 (by decide) w__fieldLink_RX11_162_ShellHeap_Known_clash_I_ (fun _ h9 => h9) rfl dX11_bed_139 ?_
            refine lv_if_ne (tgt := 158) hx hb dX11_bed_142 (by decide) (fun c_33 => ?_) (fun c_33 => ?_)
            · have k_34 : (n_h0_clash_19).toInt ≠ (0 : Int) := z_ne c_33
              refine lv_iconst (v := (-1)) hx hb dX11_bed_158 (by decide) ?_
              have hP9 := hP
              have hD9 := hD
              have hK9 := hK.sub (tys' := []) [] rfl
              refine W.widen (k := 0) (n := 0) (Nat.le_of_ble_eq_true rfl) (Nat.le_of_ble_eq_true rfl) ?_
              exact W.iret (v := (-1)) hx hb hr (fun t ht hW => ⟨⟨(-1), (), rfl, (show (-1) = v_bdA bn bl fhs fha fhb9 fhc9 p1 p2 p3 by unfold v_bdA; rw [if_pos (by omega)]; exact k_bd_t hGF (by omega) ⟨by omega, by omega⟩ (k_AS_c hp_31) (k_f4 (by omega) (k_bd3 ez_32 (Or.inl ⟨by first | omega | decide, by decide⟩)))), ⟨n_h0_notesSeen_17, n_h0_layersSeen_18, n_h0_clash_19, g_hk9_20, g_hbd_21, g_hlt_22, g_hrk_23, g_hle_24, g_hgr_25, hp_26, hp_27, hp_28, hp_29, (show k_CA fhs fha fhb9 fhc9 bn.toInt n_h0_notesSeen_17.toInt n_h0_layersSeen_18.toInt g_hk9_20 g_hbd_21 g_hlt_22 g_hrk_23 g_hle_24 g_hgr_25 n_h0_clash_19.toInt from k_CA_l hp_30 (by omega) hp_31), by rw [ht]; exact hP9, va_K.moved hW.alike hK9, hD9⟩⟩, hS.F ht⟩) hS.2.2 dX11_bed_159
            · have k_35 : (n_h0_clash_19).toInt = (0 : Int) := z_eq c_33
              obtain rfl : n_h0_clash_19 = 0 := z_eq' (show (n_h0_clash_19).toInt = (0 : Int) by omega)
              refine lv_aload_n hx hb dX11_bed_145 rfl (lv_at hl 1 rfl) ?_
              refine va_get (D := (dC, dI)) (ci := 11) (v := .ref hkn) (C := RX11) (T := TX11) (N := 10) hx hb hts hiX11 hown hK hP 0 rfl rfl 2 (by decide) w__fieldLink_RX11_28_ShellHeap_known_LShellHeap_Known_ (fun _ h9 => h9) rfl dX11_bed_146 ?_
              refine va_get (D := (dC, dI)) (ci := 4) (v := .ref hgr) (C := RX4) (T := TX4) (N := 10) hx hb hts hiX4 hown hK hP 1 rfl rfl 8 (by decide) w__fieldLink_RX11_168_ShellHeap_Known_greatest_I_ (fun _ h9 => h9) rfl dX11_bed_149 ?_
              refine lv_iload hx hb dX11_bed_152 (lv_at hl 0 rfl) ?_
              refine va_iald hx hb hK hP 12 9 rfl rfl (z_vpinB kz_32 (by decide) (by decide)) dX11_bed_154 ?_
              refine lv_topi (fun z_37 ez_37 => ?_)
              refine lv_goto (tgt := 159) hx hb dX11_bed_155 (by decide) ?_
              have hP9 := hP
              have hD9 := hD
              have hK9 := hK.sub (tys' := []) [] rfl
              refine W.widen (k := 0) (n := 0) (Nat.le_of_ble_eq_true rfl) (Nat.le_of_ble_eq_true rfl) ?_
              exact W.iret (v := z_37) hx hb hr (fun t ht hW => ⟨⟨z_37, (), rfl, (show z_37 = v_bdA bn bl fhs fha fhb9 fhc9 p1 p2 p3 by unfold v_bdA; rw [if_pos (by omega)]; exact k_bd_t hGF (by omega) ⟨by omega, by omega⟩ (k_AS_c hp_31) (k_f4 (by omega) (k_bd3 ez_32 (Or.inr ⟨by first | omega | decide, congrArg Int32.toInt ez_37⟩)))), ⟨n_h0_notesSeen_17, n_h0_layersSeen_18, 0, g_hk9_20, g_hbd_21, g_hlt_22, g_hrk_23, g_hle_24, g_hgr_25, hp_26, hp_27, (by decide), hp_29, (show k_CA fhs fha fhb9 fhc9 bn.toInt n_h0_notesSeen_17.toInt n_h0_layersSeen_18.toInt g_hk9_20 g_hbd_21 g_hlt_22 g_hrk_23 g_hle_24 g_hgr_25 (0 : Int) from k_CA_l hp_30 (by omega) hp_31), by rw [ht]; exact hP9, va_K.moved hW.alike hK9, hD9⟩⟩, hS.F ht⟩) hS.2.2 dX11_bed_159
          · rcases (show (p3).toInt = (0 : Int) ∨ ¬ (p3).toInt = (0 : Int) from Classical.em _) with he | he
            · obtain rfl : p3 = 0 := z_eq' he
              refine lv_tableIn (tgt := 84) hx hb dX11_bed_54 (by decide) (by decide) (off := 30) rfl (by decide) ?_
              refine lv_iload hx hb dX11_bed_84 (lv_at hl 0 rfl) ?_
              have hP9 := hP
              have hD9 := hD
              have hK9 := hK.sub (tys' := []) [] rfl
              refine W.widen (k := 0) (n := 0) (Nat.le_of_ble_eq_true rfl) (Nat.le_of_ble_eq_true rfl) ?_
              exact W.iret (v := z_32) hx hb hr (fun t ht hW => ⟨⟨z_32, (), rfl, (show z_32 = v_bdA bn bl fhs fha fhb9 fhc9 p1 p2 0 by unfold v_bdA; rw [if_pos (by omega)]; exact k_bd_t hGF (by omega) ⟨by omega, by omega⟩ (k_AS_c hp_31) (k_f0 (by first | omega | decide) (congrArg Int32.toInt ez_32))), ⟨n_h0_notesSeen_17, n_h0_layersSeen_18, n_h0_clash_19, g_hk9_20, g_hbd_21, g_hlt_22, g_hrk_23, g_hle_24, g_hgr_25, hp_26, hp_27, hp_28, hp_29, (show k_CA fhs fha fhb9 fhc9 bn.toInt n_h0_notesSeen_17.toInt n_h0_layersSeen_18.toInt g_hk9_20 g_hbd_21 g_hlt_22 g_hrk_23 g_hle_24 g_hgr_25 n_h0_clash_19.toInt from k_CA_l hp_30 (by omega) hp_31), by rw [ht]; exact hP9, va_K.moved hW.alike hK9, hD9⟩⟩, hS.F ht⟩) hS.2.2 dX11_bed_86
            · rcases (show (p3).toInt = (1 : Int) ∨ ¬ (p3).toInt = (1 : Int) from Classical.em _) with he | he
              · obtain rfl : p3 = 1 := z_eq' he
                refine lv_tableIn (tgt := 87) hx hb dX11_bed_54 (by decide) (by decide) (off := 33) rfl (by decide) ?_
                refine lv_aload_n hx hb dX11_bed_87 rfl (lv_at hl 1 rfl) ?_
                refine va_get (D := (dC, dI)) (ci := 11) (v := .ref hkn) (C := RX11) (T := TX11) (N := 10) hx hb hts hiX11 hown hK hP 0 rfl rfl 2 (by decide) w__fieldLink_RX11_28_ShellHeap_known_LShellHeap_Known_ (fun _ h9 => h9) rfl dX11_bed_88 ?_
                refine lv_iload hx hb dX11_bed_91 (lv_at hl 0 rfl) ?_
                obtain ⟨hPc, hDc⟩ := z_sub2 (ws' := [(hkn, .inr (4, [.ref hbk, .int n_h0_notesSeen_17, .int n_h0_layersSeen_18, .ref hk9, .ref hlt, .ref hrk, .ref hbd, .ref hle, .ref hgr, .int n_h0_clash_19])), (hbd, .inl (chbd, 12, .inl g_hbd_21))]) hP hD [1, 8] (by decide) rfl
                have hKc := hK.sub (tys' := [(chbd, .int)]) [5] rfl
                have hFc := va_free (ws := []) (wc := []) (z_D0 _) hS hA [] rfl
                refine va_calli (va_runV (As := [.int z_32]) (rest := []) ⟨hx, hb, hml, hown, hts⟩ (s_X4_layersOfK l dC dI H_14.size hkn z_32 (.ref hbk) (.int n_h0_notesSeen_17) n_h0_layersSeen_18 (.ref hk9) (.ref hlt) (.ref hrk) hbd (.ref hle) (.ref hgr) (.int n_h0_clash_19) chbd g_hbd_21 hp_27 hp_29) (cwV 1 hts gw_s_X11_bedK_s_X4_layersOfK_150 rfl rfl rfl (by decide +kernel) ⟨Nat.le_of_ble_eq_true rfl, Nat.le_of_ble_eq_true rfl⟩) ⟨z_blind, va_recv hKc hPc (ci := 4) (q0 := 0) rfl rfl, z_pre hPc hKc hDc⟩ rfl rfl hl.1 rfl (lv_room (Nat.le_of_ble_eq_true rfl)) dX11_bed_93 ⟨Nat.le_of_ble_eq_true rfl, Nat.le_of_ble_eq_true rfl⟩) hS (fun q _ h => hFc q h) hFc (fun r_39 u t H_38 locs ht hvm hw_40 hB hz1 hk1 hS => ?_)
                replace hP := z_pure hP hk1
                clear hPc hDc hKc
                obtain ⟨hPc, hDc⟩ := z_sub2 (ws' := []) hP hD [] (by decide) rfl
                have hKc := hK.sub (tys' := []) [] rfl
                have hFc := va_free (ws := []) (wc := []) (z_D0 _) hS hA [] rfl
                refine va_calli (va_runS (As := [.int r_39]) (rest := []) ⟨hx, hb, hml, hown, hts⟩ (s_bitCountK l dC dI H_38.size r_39) (va_cwS 1 hts gw_s_X11_bedK_s_bitCountK_154 rfl rfl rfl (by decide +kernel) ⟨Nat.le_of_ble_eq_true rfl, Nat.le_of_ble_eq_true rfl⟩) ⟨z_blind, z_pre hPc hKc hDc⟩ rfl rfl hl.1 rfl (lv_room (Nat.le_of_ble_eq_true rfl)) dX11_bed_96 ⟨Nat.le_of_ble_eq_true rfl, Nat.le_of_ble_eq_true rfl⟩) hS (fun q _ h => hFc q h) hFc (fun r_42 u t H_41 locs ht hvm hw_43 hB hz1 hk1 hS => ?_)
                replace hP := z_pure hP hk1
                clear hPc hDc hKc
                have hP9 := hP
                have hD9 := hD
                have hK9 := hK.sub (tys' := []) [] rfl
                refine W.widen (k := 0) (n := 0) (Nat.le_of_ble_eq_true rfl) (Nat.le_of_ble_eq_true rfl) ?_
                exact W.iret (v := r_42) hx hb hr (fun t ht hW => ⟨⟨r_42, (), rfl, (show r_42 = v_bdA bn bl fhs fha fhb9 fhc9 p1 p2 1 by unfold v_bdA; rw [if_pos (by omega)]; exact k_bd_t hGF (by omega) ⟨by omega, by omega⟩ (k_AS_c hp_31) (k_f1 (by first | omega | decide) (k_bd1 hw_43 hw_40 ez_32 hp_30.2 (by omega)))), ⟨n_h0_notesSeen_17, n_h0_layersSeen_18, n_h0_clash_19, g_hk9_20, g_hbd_21, g_hlt_22, g_hrk_23, g_hle_24, g_hgr_25, hp_26, hp_27, hp_28, hp_29, (show k_CA fhs fha fhb9 fhc9 bn.toInt n_h0_notesSeen_17.toInt n_h0_layersSeen_18.toInt g_hk9_20 g_hbd_21 g_hlt_22 g_hrk_23 g_hle_24 g_hgr_25 n_h0_clash_19.toInt from k_CA_l hp_30 (by omega) hp_31), by rw [ht]; exact hP9, va_K.moved hW.alike hK9, hD9⟩⟩, hS.F ht⟩) hS.2.2 dX11_bed_99
              · rcases (show (p3).toInt = (2 : Int) ∨ ¬ (p3).toInt = (2 : Int) from Classical.em _) with he | he
                · obtain rfl : p3 = 2 := z_eq' he
                  refine lv_tableIn (tgt := 100) hx hb dX11_bed_54 (by decide) (by decide) (off := 46) rfl (by decide) ?_
                  refine lv_aload_n hx hb dX11_bed_100 rfl (lv_at hl 1 rfl) ?_
                  refine va_get (D := (dC, dI)) (ci := 11) (v := .ref hkn) (C := RX11) (T := TX11) (N := 10) hx hb hts hiX11 hown hK hP 0 rfl rfl 2 (by decide) w__fieldLink_RX11_28_ShellHeap_known_LShellHeap_Known_ (fun _ h9 => h9) rfl dX11_bed_101 ?_
                  refine lv_iload hx hb dX11_bed_104 (lv_at hl 0 rfl) ?_
                  obtain ⟨hPc, hDc⟩ := z_sub2 (ws' := [(hkn, .inr (4, [.ref hbk, .int n_h0_notesSeen_17, .int n_h0_layersSeen_18, .ref hk9, .ref hlt, .ref hrk, .ref hbd, .ref hle, .ref hgr, .int n_h0_clash_19])), (hrk, .inl (chrk, 12, .inl g_hrk_23))]) hP hD [1, 10] (by decide) rfl
                  have hKc := hK.sub (tys' := [(chrk, .int)]) [7] rfl
                  have hFc := va_free (ws := []) (wc := []) (z_D0 _) hS hA [] rfl
                  refine va_calli (va_runV (As := [.int z_32]) (rest := []) ⟨hx, hb, hml, hown, hts⟩ (s_X4_rankOfK l dC dI H_14.size hkn z_32 (.ref hbk) (.int n_h0_notesSeen_17) (.int n_h0_layersSeen_18) (.ref hk9) (.ref hlt) hrk (.ref hbd) (.ref hle) (.ref hgr) n_h0_clash_19 chrk g_hrk_23 kz_32 hp_28) (cwV 1 hts gw_s_X11_bedK_s_X4_rankOfK_159 rfl rfl rfl (by decide +kernel) ⟨Nat.le_of_ble_eq_true rfl, Nat.le_of_ble_eq_true rfl⟩) ⟨z_blind, va_recv hKc hPc (ci := 4) (q0 := 0) rfl rfl, z_pre hPc hKc hDc⟩ rfl rfl hl.1 rfl (lv_room (Nat.le_of_ble_eq_true rfl)) dX11_bed_106 ⟨Nat.le_of_ble_eq_true rfl, Nat.le_of_ble_eq_true rfl⟩) hS (fun q _ h => hFc q h) hFc (fun r_45 u t H_44 locs ht hvm hw_46 hB hz1 hk1 hS => ?_)
                  replace hP := z_pure hP hk1
                  clear hPc hDc hKc
                  have hP9 := hP
                  have hD9 := hD
                  have hK9 := hK.sub (tys' := []) [] rfl
                  refine W.widen (k := 0) (n := 0) (Nat.le_of_ble_eq_true rfl) (Nat.le_of_ble_eq_true rfl) ?_
                  exact W.iret (v := r_45) hx hb hr (fun t ht hW => ⟨⟨r_45, (), rfl, (show r_45 = v_bdA bn bl fhs fha fhb9 fhc9 p1 p2 2 by unfold v_bdA; rw [if_pos (by omega)]; exact k_bd_t hGF (by omega) ⟨by omega, by omega⟩ (k_AS_c hp_31) (k_f2 (by first | omega | decide) (k_bd2 ez_32 hw_46))), ⟨n_h0_notesSeen_17, n_h0_layersSeen_18, n_h0_clash_19, g_hk9_20, g_hbd_21, g_hlt_22, g_hrk_23, g_hle_24, g_hgr_25, hp_26, hp_27, hp_28, hp_29, (show k_CA fhs fha fhb9 fhc9 bn.toInt n_h0_notesSeen_17.toInt n_h0_layersSeen_18.toInt g_hk9_20 g_hbd_21 g_hlt_22 g_hrk_23 g_hle_24 g_hgr_25 n_h0_clash_19.toInt from k_CA_l hp_30 (by omega) hp_31), by rw [ht]; exact hP9, va_K.moved hW.alike hK9, hD9⟩⟩, hS.F ht⟩) hS.2.2 dX11_bed_109
                · rcases (show (p3).toInt = (3 : Int) ∨ ¬ (p3).toInt = (3 : Int) from Classical.em _) with he | he
                  · obtain rfl : p3 = 3 := z_eq' he
                    refine lv_tableIn (tgt := 110) hx hb dX11_bed_54 (by decide) (by decide) (off := 56) rfl (by decide) ?_
                    refine lv_aload_n hx hb dX11_bed_110 rfl (lv_at hl 1 rfl) ?_
                    refine va_get (D := (dC, dI)) (ci := 11) (v := .ref hkn) (C := RX11) (T := TX11) (N := 10) hx hb hts hiX11 hown hK hP 0 rfl rfl 2 (by decide) w__fieldLink_RX11_28_ShellHeap_known_LShellHeap_Known_ (fun _ h9 => h9) rfl dX11_bed_111 ?_
                    refine va_get (D := (dC, dI)) (ci := 4) (v := .int n_h0_clash_19) (C := RX4) (T := TX4) (N := 10) hx hb hts hiX4 hown hK hP 1 rfl rfl 9 (by decide) w__fieldLink_RX11_162_ShellHeap_Known_clash_I_ (fun _ h9 => h9) rfl dX11_bed_114 ?_
                    refine lv_if_ne (tgt := 133) hx hb dX11_bed_117 (by decide) (fun c_47 => ?_) (fun c_47 => ?_)
                    · have k_48 : (n_h0_clash_19).toInt ≠ (0 : Int) := z_ne c_47
                      refine lv_iconst (v := (-1)) hx hb dX11_bed_133 (by decide) ?_
                      have hP9 := hP
                      have hD9 := hD
                      have hK9 := hK.sub (tys' := []) [] rfl
                      refine W.widen (k := 0) (n := 0) (Nat.le_of_ble_eq_true rfl) (Nat.le_of_ble_eq_true rfl) ?_
                      exact W.iret (v := (-1)) hx hb hr (fun t ht hW => ⟨⟨(-1), (), rfl, (show (-1) = v_bdA bn bl fhs fha fhb9 fhc9 p1 p2 3 by unfold v_bdA; rw [if_pos (by omega)]; exact k_bd_t hGF (by omega) ⟨by omega, by omega⟩ (k_AS_c hp_31) (k_f3 (by first | omega | decide) (k_bd3 ez_32 (Or.inl ⟨by first | omega | decide, by decide⟩)))), ⟨n_h0_notesSeen_17, n_h0_layersSeen_18, n_h0_clash_19, g_hk9_20, g_hbd_21, g_hlt_22, g_hrk_23, g_hle_24, g_hgr_25, hp_26, hp_27, hp_28, hp_29, (show k_CA fhs fha fhb9 fhc9 bn.toInt n_h0_notesSeen_17.toInt n_h0_layersSeen_18.toInt g_hk9_20 g_hbd_21 g_hlt_22 g_hrk_23 g_hle_24 g_hgr_25 n_h0_clash_19.toInt from k_CA_l hp_30 (by omega) hp_31), by rw [ht]; exact hP9, va_K.moved hW.alike hK9, hD9⟩⟩, hS.F ht⟩) hS.2.2 dX11_bed_134
                    · have k_49 : (n_h0_clash_19).toInt = (0 : Int) := z_eq c_47
                      obtain rfl : n_h0_clash_19 = 0 := z_eq' (show (n_h0_clash_19).toInt = (0 : Int) by omega)
                      refine lv_aload_n hx hb dX11_bed_120 rfl (lv_at hl 1 rfl) ?_
                      refine va_get (D := (dC, dI)) (ci := 11) (v := .ref hkn) (C := RX11) (T := TX11) (N := 10) hx hb hts hiX11 hown hK hP 0 rfl rfl 2 (by decide) w__fieldLink_RX11_28_ShellHeap_known_LShellHeap_Known_ (fun _ h9 => h9) rfl dX11_bed_121 ?_
                      refine va_get (D := (dC, dI)) (ci := 4) (v := .ref hle) (C := RX4) (T := TX4) (N := 10) hx hb hts hiX4 hown hK hP 1 rfl rfl 7 (by decide) w__fieldLink_RX11_165_ShellHeap_Known_least_I_ (fun _ h9 => h9) rfl dX11_bed_124 ?_
                      refine lv_iload hx hb dX11_bed_127 (lv_at hl 0 rfl) ?_
                      refine va_iald hx hb hK hP 11 8 rfl rfl (z_vpinB kz_32 (by decide) (by decide)) dX11_bed_129 ?_
                      refine lv_topi (fun z_51 ez_51 => ?_)
                      refine lv_goto (tgt := 134) hx hb dX11_bed_130 (by decide) ?_
                      have hP9 := hP
                      have hD9 := hD
                      have hK9 := hK.sub (tys' := []) [] rfl
                      refine W.widen (k := 0) (n := 0) (Nat.le_of_ble_eq_true rfl) (Nat.le_of_ble_eq_true rfl) ?_
                      exact W.iret (v := z_51) hx hb hr (fun t ht hW => ⟨⟨z_51, (), rfl, (show z_51 = v_bdA bn bl fhs fha fhb9 fhc9 p1 p2 3 by unfold v_bdA; rw [if_pos (by omega)]; exact k_bd_t hGF (by omega) ⟨by omega, by omega⟩ (k_AS_c hp_31) (k_f3 (by first | omega | decide) (k_bd3 ez_32 (Or.inr ⟨by first | omega | decide, congrArg Int32.toInt ez_51⟩)))), ⟨n_h0_notesSeen_17, n_h0_layersSeen_18, 0, g_hk9_20, g_hbd_21, g_hlt_22, g_hrk_23, g_hle_24, g_hgr_25, hp_26, hp_27, (by decide), hp_29, (show k_CA fhs fha fhb9 fhc9 bn.toInt n_h0_notesSeen_17.toInt n_h0_layersSeen_18.toInt g_hk9_20 g_hbd_21 g_hlt_22 g_hrk_23 g_hle_24 g_hgr_25 (0 : Int) from k_CA_l hp_30 (by omega) hp_31), by rw [ht]; exact hP9, va_K.moved hW.alike hK9, hD9⟩⟩, hS.F ht⟩) hS.2.2 dX11_bed_134
                  · exfalso; omega
        · have k_52 : (p3).toInt > (4 : Int) := z_nle c_12
          refine lv_bipush (v := (-2)) hx hb dX11_bed_31 (by decide) ?_
          have hP9 := hP
          have hD9 := hD
          have hK9 := hK.sub (tys' := []) [] rfl
          refine W.widen (k := 0) (n := 0) (Nat.le_of_ble_eq_true rfl) (Nat.le_of_ble_eq_true rfl) ?_
          exact W.iret (v := (-2)) hx hb hr (fun t ht hW => ⟨⟨(-2), (), rfl, (show (-2) = v_bdA bn bl fhs fha fhb9 fhc9 p1 p2 p3 by unfold v_bdA; rw [if_neg (by omega)]), ⟨kn, kl, kc, fhk9, fhbd, fhlt, fhrk, fhle, fhgr, hB_kn, hB_kl, hB_kc, hI_hbd, (show k_CA fhs fha fhb9 fhc9 bn.toInt kn.toInt kl.toInt fhk9 fhbd fhlt fhrk fhle fhgr kc.toInt from hCA), by rw [ht]; exact hP9, va_K.moved hW.alike hK9, hD9⟩⟩, hS.F ht⟩) hS.2.2 dX11_bed_33
    · have hw_7 : ¬ (0 ≤ p2.toInt ∧ p2.toInt < bl.toInt) := hw_7
      refine lv_if_eq (tgt := 31) hx hb dX11_bed_19 (by decide) (fun _ => ?_) (fun c_53 => absurd (by decide) c_53)
      refine lv_bipush (v := (-2)) hx hb dX11_bed_31 (by decide) ?_
      have hP9 := hP
      have hD9 := hD
      have hK9 := hK.sub (tys' := []) [] rfl
      refine W.widen (k := 0) (n := 0) (Nat.le_of_ble_eq_true rfl) (Nat.le_of_ble_eq_true rfl) ?_
      exact W.iret (v := (-2)) hx hb hr (fun t ht hW => ⟨⟨(-2), (), rfl, (show (-2) = v_bdA bn bl fhs fha fhb9 fhc9 p1 p2 p3 by unfold v_bdA; rw [if_neg (by omega)]), ⟨kn, kl, kc, fhk9, fhbd, fhlt, fhrk, fhle, fhgr, hB_kn, hB_kl, hB_kc, hI_hbd, (show k_CA fhs fha fhb9 fhc9 bn.toInt kn.toInt kl.toInt fhk9 fhbd fhlt fhrk fhle fhgr kc.toInt from hCA), by rw [ht]; exact hP9, va_K.moved hW.alike hK9, hD9⟩⟩, hS.F ht⟩) hS.2.2 dX11_bed_33
  · have hw_3 : ¬ (0 ≤ p1.toInt ∧ p1.toInt ≤ bn.toInt) := hw_3
    refine lv_if_eq (tgt := 31) hx hb dX11_bed_8 (by decide) (fun _ => ?_) (fun c_54 => absurd (by decide) c_54)
    refine lv_bipush (v := (-2)) hx hb dX11_bed_31 (by decide) ?_
    have hP9 := hP
    have hD9 := hD
    have hK9 := hK.sub (tys' := []) [] rfl
    refine W.widen (k := 0) (n := 0) (Nat.le_of_ble_eq_true rfl) (Nat.le_of_ble_eq_true rfl) ?_
    exact W.iret (v := (-2)) hx hb hr (fun t ht hW => ⟨⟨(-2), (), rfl, (show (-2) = v_bdA bn bl fhs fha fhb9 fhc9 p1 p2 p3 by unfold v_bdA; rw [if_neg (by omega)]), ⟨kn, kl, kc, fhk9, fhbd, fhlt, fhrk, fhle, fhgr, hB_kn, hB_kl, hB_kc, hI_hbd, (show k_CA fhs fha fhb9 fhc9 bn.toInt kn.toInt kl.toInt fhk9 fhbd fhlt fhrk fhle fhgr kc.toInt from hCA), by rw [ht]; exact hP9, va_K.moved hW.alike hK9, hD9⟩⟩, hS.F ht⟩) hS.2.2 dX11_bed_33
def u_s_X11_orderK : List Cond := .code yX11_order cX11_order 6 (some .int) :: ([.fieldLink RX11 19 "ShellHeap" "book" "LShellHeap$Book;", .methodLink RX11 140 yX0_hasFirst, .instanceMethod yX0_hasFirst, .selects RX0 yX0_hasFirst yX0_hasFirst, .initialized RX0, .methodLink RX11 115 yX0_hasLayer, .instanceMethod yX0_hasLayer, .selects RX0 yX0_hasLayer yX0_hasLayer, .fieldLink RX11 28 "ShellHeap" "known" "LShellHeap$Known;", .methodLink RX11 143 yX4_look, .instanceMethod yX4_look, .selects RX4 yX4_look yX4_look, .initialized RX4, .fieldLink RX11 146 "ShellHeap$Known" "bedOf" "[I", .methodLink RX11 171 yX4_isLater, .instanceMethod yX4_isLater, .selects RX4 yX4_isLater yX4_isLater] ++ (wsX110 ++ (wsX40 ++ (u_s_X0_hasFirstA ++ (u_s_X0_hasLayerA ++ (u_s_X4_lookK ++ (u_s_X4_isLaterK ++ [])))))))
set_option maxRecDepth 20000 in
theorem gw_s_X11_orderK_s_X0_hasFirstA_140 : GoodIn u_s_X11_orderK (wsV RX11 140 RX0 yX0_hasFirst u_s_X0_hasFirstA) := z_gV (z_gr _ [2, 3, 4, 5] rfl (by decide +kernel)) (fun w h => ⟨z_mc (z_mr (z_mr (z_mr (z_ml h)))), gd_s_X0_hasFirstA w h⟩)
set_option maxRecDepth 20000 in
theorem gw_s_X11_orderK_s_X0_hasLayerA_115 : GoodIn u_s_X11_orderK (wsV RX11 115 RX0 yX0_hasLayer u_s_X0_hasLayerA) := z_gV (z_gr _ [6, 7, 8, 5] rfl (by decide +kernel)) (fun w h => ⟨z_mc (z_mr (z_mr (z_mr (z_mr (z_ml h))))), gd_s_X0_hasLayerA w h⟩)
set_option maxRecDepth 20000 in
theorem gw_s_X11_orderK_s_X4_lookK_143 : GoodIn u_s_X11_orderK (wsV RX11 143 RX4 yX4_look u_s_X4_lookK) := z_gV (z_gr _ [10, 11, 12, 13] rfl (by decide +kernel)) (fun w h => ⟨z_mc (z_mr (z_mr (z_mr (z_mr (z_mr (z_ml h)))))), gd_s_X4_lookK w h⟩)
set_option maxRecDepth 20000 in
theorem gw_s_X11_orderK_s_X4_isLaterK_171 : GoodIn u_s_X11_orderK (wsV RX11 171 RX4 yX4_isLater u_s_X4_isLaterK) := z_gV (z_gr _ [15, 16, 17, 13] rfl (by decide +kernel)) (fun w h => ⟨z_mc (z_mr (z_mr (z_mr (z_mr (z_mr (z_mr (z_ml h))))))), gd_s_X4_isLaterK w h⟩)
set_option maxHeartbeats 4000000 in
set_option maxRecDepth 100000 in
theorem s_X11_orderK (l : Launch) (dC : Nat → ClassId) (dI : Nat → Nat → Nat) (sz : Nat) (h0 : Nat) (p1 : Int32) (p2 : Int32) (p3 : Int32) (h0_0 : Value) (hbk : Nat) (hkn : Nat) (h0_3 : Value) (h0_4 : Value) (h0_5 : Value) (h0_6 : Value) (h0_7 : Value) (h0_8 : Value) (h0_9 : Value) (kn : Int32) (kl : Int32) (hk9 : Nat) (hlt : Nat) (hrk : Nat) (hbd : Nat) (hle : Nat) (hgr : Nat) (kc : Int32) (hs : Nat) (ha : Nat) (hb9 : Nat) (hc9 : Nat) (bn : Int32) (bl : Int32) (chk9 : ClassId) (fhk9 : Nat → Int32) (chs : ClassId) (fhs : Nat → Int32) (cha : ClassId) (fha : Nat → Int32) (chb9 : ClassId) (fhb9 : Nat → Int32) (chc9 : ClassId) (fhc9 : Nat → Int32) (chbd : ClassId) (fhbd : Nat → Int32) (chlt : ClassId) (fhlt : Nat → Int32) (chrk : ClassId) (fhrk : Nat → Int32) (chle : ClassId) (fhle : Nat → Int32) (chgr : ClassId) (fhgr : Nat → Int32) (hB_kn : ((-1 : Int) ≤ (kn).toInt ∧ (kn).toInt ≤ (80 : Int))) (hB_kl : ((-1 : Int) ≤ (kl).toInt ∧ (kl).toInt ≤ (12 : Int))) (hB_kc : ((0 : Int) ≤ (kc).toInt ∧ (kc).toInt ≤ (2 : Int))) (hB_bl : ((0 : Int) ≤ (bl).toInt ∧ (bl).toInt ≤ (12 : Int))) (hB_bn : ((0 : Int) ≤ (bn).toInt ∧ (bn).toInt ≤ (80 : Int))) (hI_ha : ∀ j : Nat, ((0 : Int) ≤ (fha j).toInt ∧ (fha j).toInt ≤ (79 : Int))) (hI_hbd : ∀ j : Nat, ((0 : Int) ≤ (fhbd j).toInt ∧ (fhbd j).toInt ≤ (11 : Int))) (hR : ∀ j : Nat, z_rel (fhs j) (fha j) (fhb9 j)) (hCA : k_CA fhs fha fhb9 fhc9 bn.toInt kn.toInt kl.toInt fhk9 fhbd fhlt fhrk fhle fhgr kc.toInt) (hGF : k_GF fhs fha fhb9 bn.toInt bl.toInt) : Met l yX11_order u_s_X11_orderK ({ frames := 4, cells := 0, slots := 0, locals := 87 }) (va_Pc [.ref h0, .int p1, .int p2, .int p3] (z_C (dC, dI) vwCl [(h0, .inr (11, [h0_0, .ref hbk, .ref hkn, h0_3, h0_4, h0_5, h0_6, h0_7, h0_8, h0_9])), (hkn, .inr (4, [.ref hbk, .int kn, .int kl, .ref hk9, .ref hlt, .ref hrk, .ref hbd, .ref hle, .ref hgr, .int kc])), (hbk, .inr (0, [.ref hs, .ref ha, .ref hb9, .ref hc9, .int bn, .int bl])), (hk9, .inl (chk9, 80, .inl fhk9)), (hs, .inl (chs, 80, .inl fhs)), (ha, .inl (cha, 80, .inl fha)), (hb9, .inl (chb9, 80, .inl fhb9)), (hc9, .inl (chc9, 80, .inl fhc9)), (hbd, .inl (chbd, 12, .inl fhbd)), (hlt, .inl (chlt, 12, .inl fhlt)), (hrk, .inl (chrk, 12, .inl fhrk)), (hle, .inl (chle, 12, .inl fhle)), (hgr, .inl (chgr, 12, .inl fhgr))] [(chk9, .boolean), (chs, .int), (cha, .int), (chb9, .int), (chc9, .int), (chbd, .int), (chlt, .int), (chrk, .int), (chle, .int), (chgr, .int)] sz)) (va_Qi (fun (r : Int32) (_ : Unit) => r = v_orA bn bl fhs fha fhb9 fhc9 p1 p2 p3) (fun (_ : Unit) (t : State) => ∃ (n_hkn_notesSeen : Int32), ∃ (n_hkn_layersSeen : Int32), ∃ (n_hkn_clash : Int32), ∃ (g_hk9 : Nat → Int32), ∃ (g_hbd : Nat → Int32), ∃ (g_hlt : Nat → Int32), ∃ (g_hrk : Nat → Int32), ∃ (g_hle : Nat → Int32), ∃ (g_hgr : Nat → Int32), ((-1 : Int) ≤ (n_hkn_notesSeen).toInt ∧ (n_hkn_notesSeen).toInt ≤ (80 : Int)) ∧ ((-1 : Int) ≤ (n_hkn_layersSeen).toInt ∧ (n_hkn_layersSeen).toInt ≤ (12 : Int)) ∧ ((0 : Int) ≤ (n_hkn_clash).toInt ∧ (n_hkn_clash).toInt ≤ (2 : Int)) ∧ (∀ j : Nat, ((0 : Int) ≤ (g_hbd j).toInt ∧ (g_hbd j).toInt ≤ (11 : Int))) ∧ (k_CA fhs fha fhb9 fhc9 bn.toInt n_hkn_notesSeen.toInt n_hkn_layersSeen.toInt g_hk9 g_hbd g_hlt g_hrk g_hle g_hgr n_hkn_clash.toInt) ∧ va_P (dC, dI) vwCl [(h0, .inr (11, [h0_0, .ref hbk, .ref hkn, h0_3, h0_4, h0_5, h0_6, h0_7, h0_8, h0_9])), (hkn, .inr (4, [.ref hbk, .int n_hkn_notesSeen, .int n_hkn_layersSeen, .ref hk9, .ref hlt, .ref hrk, .ref hbd, .ref hle, .ref hgr, .int n_hkn_clash])), (hbk, .inr (0, [.ref hs, .ref ha, .ref hb9, .ref hc9, .int bn, .int bl])), (hk9, .inl (chk9, 80, .inl g_hk9)), (hs, .inl (chs, 80, .inl fhs)), (ha, .inl (cha, 80, .inl fha)), (hb9, .inl (chb9, 80, .inl fhb9)), (hc9, .inl (chc9, 80, .inl fhc9)), (hbd, .inl (chbd, 12, .inl g_hbd)), (hlt, .inl (chlt, 12, .inl g_hlt)), (hrk, .inl (chrk, 12, .inl g_hrk)), (hle, .inl (chle, 12, .inl g_hle)), (hgr, .inl (chgr, 12, .inl g_hgr))] t.heap ∧ va_K (dC, dI) vwCl [] t ∧ va_D (va_A [(h0, .inr (11, [h0_0, .ref hbk, .ref hkn, h0_3, h0_4, h0_5, h0_6, h0_7, h0_8, h0_9])), (hkn, .inr (4, [.ref hbk, .int kn, .int kl, .ref hk9, .ref hlt, .ref hrk, .ref hbd, .ref hle, .ref hgr, .int kc])), (hbk, .inr (0, [.ref hs, .ref ha, .ref hb9, .ref hc9, .int bn, .int bl])), (hk9, .inl (chk9, 80, .inl fhk9)), (hs, .inl (chs, 80, .inl fhs)), (ha, .inl (cha, 80, .inl fha)), (hb9, .inl (chb9, 80, .inl fhb9)), (hc9, .inl (chc9, 80, .inl fhc9)), (hbd, .inl (chbd, 12, .inl fhbd)), (hlt, .inl (chlt, 12, .inl fhlt)), (hrk, .inl (chrk, 12, .inl fhrk)), (hle, .inl (chle, 12, .inl fhle)), (hgr, .inl (chgr, 12, .inl fhgr))] sz) [(h0, .inr (11, [h0_0, .ref hbk, .ref hkn, h0_3, h0_4, h0_5, h0_6, h0_7, h0_8, h0_9])), (hkn, .inr (4, [.ref hbk, .int n_hkn_notesSeen, .int n_hkn_layersSeen, .ref hk9, .ref hlt, .ref hrk, .ref hbd, .ref hle, .ref hgr, .int n_hkn_clash])), (hbk, .inr (0, [.ref hs, .ref ha, .ref hb9, .ref hc9, .int bn, .int bl])), (hk9, .inl (chk9, 80, .inl g_hk9)), (hs, .inl (chs, 80, .inl fhs)), (ha, .inl (cha, 80, .inl fha)), (hb9, .inl (chb9, 80, .inl fhb9)), (hc9, .inl (chc9, 80, .inl fhc9)), (hbd, .inl (chbd, 12, .inl g_hbd)), (hlt, .inl (chlt, 12, .inl g_hlt)), (hrk, .inl (chrk, 12, .inl g_hrk)), (hle, .inl (chle, 12, .inl g_hle)), (hgr, .inl (chgr, 12, .inl g_hgr))]) (va_A [(h0, .inr (11, [h0_0, .ref hbk, .ref hkn, h0_3, h0_4, h0_5, h0_6, h0_7, h0_8, h0_9])), (hkn, .inr (4, [.ref hbk, .int kn, .int kl, .ref hk9, .ref hlt, .ref hrk, .ref hbd, .ref hle, .ref hgr, .int kc])), (hbk, .inr (0, [.ref hs, .ref ha, .ref hb9, .ref hc9, .int bn, .int bl])), (hk9, .inl (chk9, 80, .inl fhk9)), (hs, .inl (chs, 80, .inl fhs)), (ha, .inl (cha, 80, .inl fha)), (hb9, .inl (chb9, 80, .inl fhb9)), (hc9, .inl (chc9, 80, .inl fhc9)), (hbd, .inl (chbd, 12, .inl fhbd)), (hlt, .inl (chlt, 12, .inl fhlt)), (hrk, .inl (chrk, 12, .inl fhrk)), (hle, .inl (chle, 12, .inl fhle)), (hgr, .inl (chgr, 12, .inl fhgr))] sz)) 0 0 (va_A [(h0, .inr (11, [h0_0, .ref hbk, .ref hkn, h0_3, h0_4, h0_5, h0_6, h0_7, h0_8, h0_9])), (hkn, .inr (4, [.ref hbk, .int kn, .int kl, .ref hk9, .ref hlt, .ref hrk, .ref hbd, .ref hle, .ref hgr, .int kc])), (hbk, .inr (0, [.ref hs, .ref ha, .ref hb9, .ref hc9, .int bn, .int bl])), (hk9, .inl (chk9, 80, .inl fhk9)), (hs, .inl (chs, 80, .inl fhs)), (ha, .inl (cha, 80, .inl fha)), (hb9, .inl (chb9, 80, .inl fhb9)), (hc9, .inl (chc9, 80, .inl fhc9)), (hbd, .inl (chbd, 12, .inl fhbd)), (hlt, .inl (chlt, 12, .inl fhlt)), (hrk, .inl (chrk, 12, .inl fhrk)), (hle, .inl (chle, 12, .inl fhle)), (hgr, .inl (chgr, 12, .inl fhgr))] sz) := by
  refine Met.ofW (cc := cX11_order) (maxL := 6) (ret := (some .int)) (by decide) rfl ?_
  intro p e s m args below meth c s₁ B hml hv
  obtain ⟨rfl, hsz, hP, hK, hD0⟩ := hv
  have hx := B.exec
  have hb := B.bytes
  have hr := B.returns
  have hts := atoms_spec (ws := u_s_X11_orderK) B.pre
  have hown : s.vm.findClass RX11 = some m.cls := findClass_of_methodNamed B.named
  have hlocks := B.notSynchronized
  subst hsz
  have hD := hD0.self (sz := s.heap.size)
  generalize hAe : va_A [(h0, .inr (11, [h0_0, .ref hbk, .ref hkn, h0_3, h0_4, h0_5, h0_6, h0_7, h0_8, h0_9])), (hkn, .inr (4, [.ref hbk, .int kn, .int kl, .ref hk9, .ref hlt, .ref hrk, .ref hbd, .ref hle, .ref hgr, .int kc])), (hbk, .inr (0, [.ref hs, .ref ha, .ref hb9, .ref hc9, .int bn, .int bl])), (hk9, .inl (chk9, 80, .inl fhk9)), (hs, .inl (chs, 80, .inl fhs)), (ha, .inl (cha, 80, .inl fha)), (hb9, .inl (chb9, 80, .inl fhb9)), (hc9, .inl (chc9, 80, .inl fhc9)), (hbd, .inl (chbd, 12, .inl fhbd)), (hlt, .inl (chlt, 12, .inl fhlt)), (hrk, .inl (chrk, 12, .inl fhrk)), (hle, .inl (chle, 12, .inl fhle)), (hgr, .inl (chgr, 12, .inl fhgr))] s.heap.size = A at hD ⊢
  have hA : ∀ q : Nat, s.heap.size ≤ q → A q := fun q h => by rw [← hAe]; exact Or.inr h
  have hS : va_S A s.heap s.heap [] := va_S.rf
  have hP : va_P (dC, dI) vwCl [(h0, .inr (11, [h0_0, .ref hbk, .ref hkn, h0_3, h0_4, h0_5, h0_6, h0_7, h0_8, h0_9])), (hkn, .inr (4, [.ref hbk, .int kn, .int kl, .ref hk9, .ref hlt, .ref hrk, .ref hbd, .ref hle, .ref hgr, .int kc])), (hbk, .inr (0, [.ref hs, .ref ha, .ref hb9, .ref hc9, .int bn, .int bl])), (hk9, .inl (chk9, 80, .inl fhk9)), (hs, .inl (chs, 80, .inl fhs)), (ha, .inl (cha, 80, .inl fha)), (hb9, .inl (chb9, 80, .inl fhb9)), (hc9, .inl (chc9, 80, .inl fhc9)), (hbd, .inl (chbd, 12, .inl fhbd)), (hlt, .inl (chlt, 12, .inl fhlt)), (hrk, .inl (chrk, 12, .inl fhrk)), (hle, .inl (chle, 12, .inl fhle)), (hgr, .inl (chgr, 12, .inl fhgr))] s.heap := hP
  have w__fieldLink_RX11_19_ShellHeap_book_LShellHeap_Book_ := hts (.fieldLink RX11 19 "ShellHeap" "book" "LShellHeap$Book;") (z_mc (z_ml z_m0))
  have hiX11 := show ∀ w ∈ u_ws RX11 TX11 10, w ∈ u_s_X11_orderK from fun w h => z_mc (z_mr (z_ml h))
  have w__fieldLink_RX11_28_ShellHeap_known_LShellHeap_Known_ := hts (.fieldLink RX11 28 "ShellHeap" "known" "LShellHeap$Known;") (z_mc (z_ml z_m8))
  have w__fieldLink_RX11_146_ShellHeap_Known_bedOf_I_ := hts (.fieldLink RX11 146 "ShellHeap$Known" "bedOf" "[I") (z_mc (z_ml z_m13))
  have hiX4 := show ∀ w ∈ u_ws RX4 TX4 10, w ∈ u_s_X11_orderK from fun w h => z_mc (z_mr (z_mr (z_ml h)))
  have krr_p1 := z_rng p1
  have krr_p2 := z_rng p2
  have krr_p3 := z_rng p3
  have hl := lv_entry ([.ref h0, .int p1, .int p2, .int p3]) (n := 6) (Nat.le_of_ble_eq_true rfl)
  rw [lg_entry_eq]
  generalize (lg_sl ([.ref h0, .int p1, .int p2, .int p3]) ++ List.replicate (6 - (lg_sl ([.ref h0, .int p1, .int p2, .int p3])).length) Slot.unset).toArray = ls at hl ⊢
  have hl : lv_has ls 6 [(0, .ref h0), (1, .int p1), (2, .int p2), (3, .int p3)] := hl
  refine lv_aload_n hx hb dX11_order_0 rfl (lv_at hl 0 rfl) ?_
  refine va_get (D := (dC, dI)) (ci := 11) (v := .ref hbk) (C := RX11) (T := TX11) (N := 10) hx hb hts hiX11 hown hK hP 0 rfl rfl 1 (by decide) w__fieldLink_RX11_19_ShellHeap_book_LShellHeap_Book_ (fun _ h9 => h9) rfl dX11_order_1 ?_
  refine lv_iload_n hx hb dX11_order_4 rfl (lv_at hl 1 rfl) ?_
  obtain ⟨hPc, hDc⟩ := z_sub2 (ws' := [(hbk, .inr (0, [.ref hs, .ref ha, .ref hb9, .ref hc9, .int bn, .int bl]))]) hP hD [2] (by decide) rfl
  have hKc := hK.sub (tys' := []) [] rfl
  have hFc := va_free (ws := []) (wc := []) (z_D0 _) hS hA [] rfl
  refine va_calli (va_runV (As := [.int p1]) (rest := []) ⟨hx, hb, hml, hown, hts⟩ (s_X0_hasFirstA l dC dI s.heap.size hbk p1 (.ref hs) (.ref ha) (.ref hb9) (.ref hc9) bn (.int bl) hB_bn) (cwV 1 hts gw_s_X11_orderK_s_X0_hasFirstA_140 rfl rfl rfl (by decide +kernel) ⟨Nat.le_of_ble_eq_true rfl, Nat.le_of_ble_eq_true rfl⟩) ⟨z_blind, va_recv hKc hPc (ci := 0) (q0 := 0) rfl rfl, z_pre hPc hKc hDc⟩ rfl rfl hl.1 rfl (lv_room (Nat.le_of_ble_eq_true rfl)) dX11_order_5 ⟨Nat.le_of_ble_eq_true rfl, Nat.le_of_ble_eq_true rfl⟩) hS (fun q _ h => hFc q h) hFc (fun r_2 u t H_1 locs ht hvm hw_3 hB hz1 hk1 hS => ?_)
  replace hP := z_pure hP hk1
  clear hPc hDc hKc
  rcases hw_3 with ⟨rfl, hw_3⟩ | ⟨rfl, hw_3⟩
  · have hw_3 : (0 ≤ p1.toInt ∧ p1.toInt ≤ bn.toInt) := hw_3
    refine lv_if_eq (tgt := 33) hx hb dX11_order_8 (by decide) (fun c_4 => absurd c_4 (by decide)) (fun _ => ?_)
    refine lv_aload_n hx hb dX11_order_11 rfl (lv_at hl 0 rfl) ?_
    refine va_get (D := (dC, dI)) (ci := 11) (v := .ref hbk) (C := RX11) (T := TX11) (N := 10) hx hb hts hiX11 hown hK hP 0 rfl rfl 1 (by decide) w__fieldLink_RX11_19_ShellHeap_book_LShellHeap_Book_ (fun _ h9 => h9) rfl dX11_order_12 ?_
    refine lv_iload_n hx hb dX11_order_15 rfl (lv_at hl 2 rfl) ?_
    obtain ⟨hPc, hDc⟩ := z_sub2 (ws' := [(hbk, .inr (0, [.ref hs, .ref ha, .ref hb9, .ref hc9, .int bn, .int bl]))]) hP hD [2] (by decide) rfl
    have hKc := hK.sub (tys' := []) [] rfl
    have hFc := va_free (ws := []) (wc := []) (z_D0 _) hS hA [] rfl
    refine va_calli (va_runV (As := [.int p2]) (rest := []) ⟨hx, hb, hml, hown, hts⟩ (s_X0_hasLayerA l dC dI H_1.size hbk p2 (.ref hs) (.ref ha) (.ref hb9) (.ref hc9) (.int bn) bl hB_bl) (cwV 1 hts gw_s_X11_orderK_s_X0_hasLayerA_115 rfl rfl rfl (by decide +kernel) ⟨Nat.le_of_ble_eq_true rfl, Nat.le_of_ble_eq_true rfl⟩) ⟨z_blind, va_recv hKc hPc (ci := 0) (q0 := 0) rfl rfl, z_pre hPc hKc hDc⟩ rfl rfl hl.1 rfl (lv_room (Nat.le_of_ble_eq_true rfl)) dX11_order_16 ⟨Nat.le_of_ble_eq_true rfl, Nat.le_of_ble_eq_true rfl⟩) hS (fun q _ h => hFc q h) hFc (fun r_6 u t H_5 locs ht hvm hw_7 hB hz1 hk1 hS => ?_)
    replace hP := z_pure hP hk1
    clear hPc hDc hKc
    rcases hw_7 with ⟨rfl, hw_7⟩ | ⟨rfl, hw_7⟩
    · have hw_7 : (0 ≤ p2.toInt ∧ p2.toInt < bl.toInt) := hw_7
      refine lv_if_eq (tgt := 33) hx hb dX11_order_19 (by decide) (fun c_8 => absurd c_8 (by decide)) (fun _ => ?_)
      refine lv_aload_n hx hb dX11_order_22 rfl (lv_at hl 0 rfl) ?_
      refine va_get (D := (dC, dI)) (ci := 11) (v := .ref hbk) (C := RX11) (T := TX11) (N := 10) hx hb hts hiX11 hown hK hP 0 rfl rfl 1 (by decide) w__fieldLink_RX11_19_ShellHeap_book_LShellHeap_Book_ (fun _ h9 => h9) rfl dX11_order_23 ?_
      refine lv_iload_n hx hb dX11_order_26 rfl (lv_at hl 3 rfl) ?_
      obtain ⟨hPc, hDc⟩ := z_sub2 (ws' := [(hbk, .inr (0, [.ref hs, .ref ha, .ref hb9, .ref hc9, .int bn, .int bl]))]) hP hD [2] (by decide) rfl
      have hKc := hK.sub (tys' := []) [] rfl
      have hFc := va_free (ws := []) (wc := []) (z_D0 _) hS hA [] rfl
      refine va_calli (va_runV (As := [.int p3]) (rest := []) ⟨hx, hb, hml, hown, hts⟩ (s_X0_hasLayerA l dC dI H_5.size hbk p3 (.ref hs) (.ref ha) (.ref hb9) (.ref hc9) (.int bn) bl hB_bl) (cwV 1 hts gw_s_X11_orderK_s_X0_hasLayerA_115 rfl rfl rfl (by decide +kernel) ⟨Nat.le_of_ble_eq_true rfl, Nat.le_of_ble_eq_true rfl⟩) ⟨z_blind, va_recv hKc hPc (ci := 0) (q0 := 0) rfl rfl, z_pre hPc hKc hDc⟩ rfl rfl hl.1 rfl (lv_room (Nat.le_of_ble_eq_true rfl)) dX11_order_27 ⟨Nat.le_of_ble_eq_true rfl, Nat.le_of_ble_eq_true rfl⟩) hS (fun q _ h => hFc q h) hFc (fun r_10 u t H_9 locs ht hvm hw_11 hB hz1 hk1 hS => ?_)
      replace hP := z_pure hP hk1
      clear hPc hDc hKc
      rcases hw_11 with ⟨rfl, hw_11⟩ | ⟨rfl, hw_11⟩
      · have hw_11 : (0 ≤ p3.toInt ∧ p3.toInt < bl.toInt) := hw_11
        refine lv_if_ne (tgt := 35) hx hb dX11_order_30 (by decide) (fun _ => ?_) (fun c_12 => absurd c_12 (by decide))
        refine lv_aload_n hx hb dX11_order_35 rfl (lv_at hl 0 rfl) ?_
        refine va_get (D := (dC, dI)) (ci := 11) (v := .ref hkn) (C := RX11) (T := TX11) (N := 10) hx hb hts hiX11 hown hK hP 0 rfl rfl 2 (by decide) w__fieldLink_RX11_28_ShellHeap_known_LShellHeap_Known_ (fun _ h9 => h9) rfl dX11_order_36 ?_
        refine lv_iload_n hx hb dX11_order_39 rfl (lv_at hl 1 rfl) ?_
        have hKI := hCA.2
        have hRG : k_r3 fhs fha fhb9 (p1).toInt (bl).toInt := k_GF_r3 hGF (by omega)
        have hRD : k_rd fhs fha (p1).toInt (bl).toInt := k_GF_rd hGF (by omega)
        obtain ⟨hPc, hDc, hFc⟩ := z_sub3 (ws' := [(hkn, .inr (4, [.ref hbk, .int kn, .int kl, .ref hk9, .ref hlt, .ref hrk, .ref hbd, .ref hle, .ref hgr, .int kc])), (hbk, .inr (0, [.ref hs, .ref ha, .ref hb9, .ref hc9, .int bn, .int bl])), (hk9, .inl (chk9, 80, .inl fhk9)), (hs, .inl (chs, 80, .inl fhs)), (ha, .inl (cha, 80, .inl fha)), (hb9, .inl (chb9, 80, .inl fhb9)), (hc9, .inl (chc9, 80, .inl fhc9)), (hbd, .inl (chbd, 12, .inl fhbd)), (hlt, .inl (chlt, 12, .inl fhlt)), (hrk, .inl (chrk, 12, .inl fhrk)), (hle, .inl (chle, 12, .inl fhle)), (hgr, .inl (chgr, 12, .inl fhgr))]) hP hD hS hA [1, 2, 3, 4, 5, 6, 7, 8, 9, 10, 11, 12] (by decide) rfl
        have hKc := hK
        refine va_callv (va_runV (As := [.int p1]) (rest := []) ⟨hx, hb, hml, hown, hts⟩ (s_X4_lookK l dC dI H_9.size hkn p1 hbk kn kl hk9 hlt hrk hbd hle hgr kc hs ha hb9 hc9 (.int bn) bl chk9 fhk9 chs fhs cha fha chb9 fhb9 chc9 fhc9 chbd fhbd chlt fhlt chrk fhrk chle fhle chgr fhgr hB_kn hB_kl hB_kc hB_bl (by first | omega | decide) hI_ha hI_hbd hKI hRG hRD) (cwV 1 hts gw_s_X11_orderK_s_X4_lookK_143 rfl rfl rfl (by decide +kernel) ⟨Nat.le_of_ble_eq_true rfl, Nat.le_of_ble_eq_true rfl⟩) ⟨z_blind, va_recv hKc hPc (ci := 4) (q0 := 0) rfl rfl, z_pre hPc hKc hDc⟩ rfl rfl hl.1 rfl (lv_room (Nat.le_of_ble_eq_true rfl)) dX11_order_40 ⟨Nat.le_of_ble_eq_true rfl, Nat.le_of_ble_eq_true rfl⟩) hS (fun q _ h => hFc q h) hFc (fun u t H_13 locs ht hvm hw_15 hB hz1 hk1 hS => ?_)
        obtain ⟨n_h0_notesSeen_16, n_h0_layersSeen_17, n_h0_clash_18, g_hk9_19, g_hbd_20, g_hlt_21, g_hrk_22, g_hle_23, g_hgr_24, hp_25, hp_26, hp_27, hp_28, hp_29, hp_30, hP1, hK1, hD1⟩ := hB
        rw [ht] at hP1
        have hK1 := va_K.moved hvm.symm hK1
        obtain ⟨hP, hD⟩ := z_ap_1 (va_join (wr := [(h0, .inr (11, [h0_0, .ref hbk, .ref hkn, h0_3, h0_4, h0_5, h0_6, h0_7, h0_8, h0_9]))]) hP hD [1, 2, 3, 4, 5, 6, 7, 8, 9, 10, 11, 12] [0] rfl rfl (by decide) (by decide) hk1 hFc hP1 hD1)
        have hp_29 : n_h0_notesSeen_16.toInt = p1.toInt ∧ n_h0_layersSeen_17.toInt = bl.toInt := hp_29
        have hp_30 : k_KN fhs fha fhb9 fhc9 p1.toInt bl.toInt g_hk9_19 g_hbd_20 g_hlt_21 g_hrk_22 g_hle_23 g_hgr_24 n_h0_clash_18.toInt := hp_30
        clear hPc hDc hKc
        refine lv_aload_n hx hb dX11_order_43 rfl (lv_at hl 0 rfl) ?_
        refine va_get (D := (dC, dI)) (ci := 11) (v := .ref hkn) (C := RX11) (T := TX11) (N := 10) hx hb hts hiX11 hown hK hP 0 rfl rfl 2 (by decide) w__fieldLink_RX11_28_ShellHeap_known_LShellHeap_Known_ (fun _ h9 => h9) rfl dX11_order_44 ?_
        refine va_get (D := (dC, dI)) (ci := 4) (v := .ref hbd) (C := RX4) (T := TX4) (N := 10) hx hb hts hiX4 hown hK hP 1 rfl rfl 6 (by decide) w__fieldLink_RX11_146_ShellHeap_Known_bedOf_I_ (fun _ h9 => h9) rfl dX11_order_47 ?_
        refine lv_iload_n hx hb dX11_order_50 rfl (lv_at hl 2 rfl) ?_
        refine va_iald hx hb hK hP 8 5 rfl rfl (z_vpin (by omega) (by omega)) dX11_order_51 ?_
        refine lv_topi (fun z_31 ez_31 => ?_)
        have kz_31 : ((0 : Int) ≤ (z_31).toInt ∧ (z_31).toInt ≤ (11 : Int)) := by rw [ez_31]; exact hp_28 _
        refine lv_istore (lv' := [(4, .int z_31), (0, .ref h0), (1, .int p1), (2, .int p2), (3, .int p3)]) hx hb dX11_order_52 hl (by decide) rfl (fun ls hl => ?_)
        refine lv_aload_n hx hb dX11_order_54 rfl (lv_at hl 1 rfl) ?_
        refine va_get (D := (dC, dI)) (ci := 11) (v := .ref hkn) (C := RX11) (T := TX11) (N := 10) hx hb hts hiX11 hown hK hP 0 rfl rfl 2 (by decide) w__fieldLink_RX11_28_ShellHeap_known_LShellHeap_Known_ (fun _ h9 => h9) rfl dX11_order_55 ?_
        refine va_get (D := (dC, dI)) (ci := 4) (v := .ref hbd) (C := RX4) (T := TX4) (N := 10) hx hb hts hiX4 hown hK hP 1 rfl rfl 6 (by decide) w__fieldLink_RX11_146_ShellHeap_Known_bedOf_I_ (fun _ h9 => h9) rfl dX11_order_58 ?_
        refine lv_iload_n hx hb dX11_order_61 rfl (lv_at hl 4 rfl) ?_
        refine va_iald hx hb hK hP 8 5 rfl rfl (z_vpin (by omega) (by omega)) dX11_order_62 ?_
        refine lv_topi (fun z_32 ez_32 => ?_)
        have kz_32 : ((0 : Int) ≤ (z_32).toInt ∧ (z_32).toInt ≤ (11 : Int)) := by rw [ez_32]; exact hp_28 _
        refine lv_istore (lv' := [(5, .int z_32), (4, .int z_31), (0, .ref h0), (1, .int p1), (2, .int p2), (3, .int p3)]) hx hb dX11_order_63 hl (by decide) rfl (fun ls hl => ?_)
        refine lv_aload_n hx hb dX11_order_65 rfl (lv_at hl 2 rfl) ?_
        refine va_get (D := (dC, dI)) (ci := 11) (v := .ref hkn) (C := RX11) (T := TX11) (N := 10) hx hb hts hiX11 hown hK hP 0 rfl rfl 2 (by decide) w__fieldLink_RX11_28_ShellHeap_known_LShellHeap_Known_ (fun _ h9 => h9) rfl dX11_order_66 ?_
        refine lv_iload hx hb dX11_order_69 (lv_at hl 1 rfl) ?_
        refine lv_iload hx hb dX11_order_71 (lv_at hl 0 rfl) ?_
        obtain ⟨hPc, hDc⟩ := z_sub2 (ws' := [(hkn, .inr (4, [.ref hbk, .int n_h0_notesSeen_16, .int n_h0_layersSeen_17, .ref hk9, .ref hlt, .ref hrk, .ref hbd, .ref hle, .ref hgr, .int n_h0_clash_18])), (hlt, .inl (chlt, 12, .inl g_hlt_21))]) hP hD [1, 9] (by decide) rfl
        have hKc := hK.sub (tys' := [(chlt, .int)]) [6] rfl
        have hFc := va_free (ws := []) (wc := []) (z_D0 _) hS hA [] rfl
        refine va_calli (va_runV (As := [.int z_31, .int z_32]) (rest := []) ⟨hx, hb, hml, hown, hts⟩ (s_X4_isLaterK l dC dI H_13.size hkn z_31 z_32 (.ref hbk) (.int n_h0_notesSeen_16) (.int n_h0_layersSeen_17) (.ref hk9) hlt (.ref hrk) (.ref hbd) (.ref hle) (.ref hgr) (.int n_h0_clash_18) chlt g_hlt_21 kz_31) (cwV 2 hts gw_s_X11_orderK_s_X4_isLaterK_171 rfl rfl rfl (by decide +kernel) ⟨Nat.le_of_ble_eq_true rfl, Nat.le_of_ble_eq_true rfl⟩) ⟨z_blind, va_recv hKc hPc (ci := 4) (q0 := 0) rfl rfl, z_pre hPc hKc hDc⟩ rfl rfl hl.1 rfl (lv_room (Nat.le_of_ble_eq_true rfl)) dX11_order_73 ⟨Nat.le_of_ble_eq_true rfl, Nat.le_of_ble_eq_true rfl⟩) hS (fun q _ h => hFc q h) hFc (fun r_34 u t H_33 locs ht hvm hw_35 hB hz1 hk1 hS => ?_)
        replace hP := z_pure hP hk1
        clear hPc hDc hKc
        rcases hw_35 with ⟨rfl, hw_35⟩ | ⟨rfl, hw_35⟩
        · have hw_35 : k_bt (g_hlt_21 z_31.toNatClampNeg) z_32.toInt := hw_35
          refine lv_if_eq (tgt := 83) hx hb dX11_order_76 (by decide) (fun c_36 => absurd c_36 (by decide)) (fun _ => ?_)
          refine lv_iconst (v := 1) hx hb dX11_order_79 (by decide) ?_
          refine lv_goto (tgt := 84) hx hb dX11_order_80 (by decide) ?_
          refine lv_aload_n hx hb dX11_order_84 rfl (lv_at hl 2 rfl) ?_
          refine va_get (D := (dC, dI)) (ci := 11) (v := .ref hkn) (C := RX11) (T := TX11) (N := 10) hx hb hts hiX11 hown hK hP 0 rfl rfl 2 (by decide) w__fieldLink_RX11_28_ShellHeap_known_LShellHeap_Known_ (fun _ h9 => h9) rfl dX11_order_85 ?_
          refine lv_iload hx hb dX11_order_88 (lv_at hl 0 rfl) ?_
          refine lv_iload hx hb dX11_order_90 (lv_at hl 1 rfl) ?_
          obtain ⟨hPc, hDc⟩ := z_sub2 (ws' := [(hkn, .inr (4, [.ref hbk, .int n_h0_notesSeen_16, .int n_h0_layersSeen_17, .ref hk9, .ref hlt, .ref hrk, .ref hbd, .ref hle, .ref hgr, .int n_h0_clash_18])), (hlt, .inl (chlt, 12, .inl g_hlt_21))]) hP hD [1, 9] (by decide) rfl
          have hKc := hK.sub (tys' := [(chlt, .int)]) [6] rfl
          have hFc := va_free (ws := []) (wc := []) (z_D0 _) hS hA [] rfl
          refine va_calli (va_runV (As := [.int z_32, .int z_31]) (rest := [.int 1]) ⟨hx, hb, hml, hown, hts⟩ (s_X4_isLaterK l dC dI H_33.size hkn z_32 z_31 (.ref hbk) (.int n_h0_notesSeen_16) (.int n_h0_layersSeen_17) (.ref hk9) hlt (.ref hrk) (.ref hbd) (.ref hle) (.ref hgr) (.int n_h0_clash_18) chlt g_hlt_21 kz_32) (cwV 2 hts gw_s_X11_orderK_s_X4_isLaterK_171 rfl rfl rfl (by decide +kernel) ⟨Nat.le_of_ble_eq_true rfl, Nat.le_of_ble_eq_true rfl⟩) ⟨z_blind, va_recv hKc hPc (ci := 4) (q0 := 0) rfl rfl, z_pre hPc hKc hDc⟩ rfl rfl hl.1 rfl (lv_room (Nat.le_of_ble_eq_true rfl)) dX11_order_92 ⟨Nat.le_of_ble_eq_true rfl, Nat.le_of_ble_eq_true rfl⟩) hS (fun q _ h => hFc q h) hFc (fun r_38 u t H_37 locs ht hvm hw_39 hB hz1 hk1 hS => ?_)
          replace hP := z_pure hP hk1
          clear hPc hDc hKc
          rcases hw_39 with ⟨rfl, hw_39⟩ | ⟨rfl, hw_39⟩
          · have hw_39 : k_bt (g_hlt_21 z_32.toNatClampNeg) z_31.toInt := hw_39
            refine lv_if_eq (tgt := 102) hx hb dX11_order_95 (by decide) (fun c_40 => absurd c_40 (by decide)) (fun _ => ?_)
            refine lv_iconst (v := 2) hx hb dX11_order_98 (by decide) ?_
            refine lv_goto (tgt := 103) hx hb dX11_order_99 (by decide) ?_
            refine lv_iadd hx hb dX11_order_103 ?_
            refine lv_topi (fun x_41 e_42 => ?_)
            obtain rfl : x_41 = 3 := e_42.trans (by decide)
            have hP9 := hP
            have hD9 := hD
            have hK9 := hK.sub (tys' := []) [] rfl
            refine W.widen (k := 0) (n := 0) (Nat.le_of_ble_eq_true rfl) (Nat.le_of_ble_eq_true rfl) ?_
            exact W.iret (v := 3) hx hb hr (fun t ht hW => ⟨⟨3, (), rfl, (show 3 = v_orA bn bl fhs fha fhb9 fhc9 p1 p2 p3 by unfold v_orA; rw [if_pos (by omega)]; exact k_or_t hGF (by omega) ⟨by omega, by omega⟩ ⟨by omega, by omega⟩ (k_AS_c hp_30) (Or.inl ⟨(k_or1 (k_BD_bl hp_30.2.1) ⟨by omega, by omega⟩ ⟨by omega, by omega⟩ ez_31 ez_32).mpr hw_35, (k_or1 (k_BD_bl hp_30.2.1) ⟨by omega, by omega⟩ ⟨by omega, by omega⟩ ez_32 ez_31).mpr hw_39, by decide⟩)), ⟨n_h0_notesSeen_16, n_h0_layersSeen_17, n_h0_clash_18, g_hk9_19, g_hbd_20, g_hlt_21, g_hrk_22, g_hle_23, g_hgr_24, hp_25, hp_26, hp_27, hp_28, (show k_CA fhs fha fhb9 fhc9 bn.toInt n_h0_notesSeen_16.toInt n_h0_layersSeen_17.toInt g_hk9_19 g_hbd_20 g_hlt_21 g_hrk_22 g_hle_23 g_hgr_24 n_h0_clash_18.toInt from k_CA_l hp_29 (by omega) hp_30), by rw [ht]; exact hP9, va_K.moved hW.alike hK9, hD9⟩⟩, hS.F ht⟩) hS.2.2 dX11_order_104
          · have hw_39 : ¬ k_bt (g_hlt_21 z_32.toNatClampNeg) z_31.toInt := hw_39
            refine lv_if_eq (tgt := 102) hx hb dX11_order_95 (by decide) (fun _ => ?_) (fun c_43 => absurd (by decide) c_43)
            refine lv_iconst (v := 0) hx hb dX11_order_102 (by decide) ?_
            refine lv_iadd hx hb dX11_order_103 ?_
            refine lv_topi (fun x_44 e_45 => ?_)
            obtain rfl : x_44 = 1 := e_45.trans (by decide)
            have hP9 := hP
            have hD9 := hD
            have hK9 := hK.sub (tys' := []) [] rfl
            refine W.widen (k := 0) (n := 0) (Nat.le_of_ble_eq_true rfl) (Nat.le_of_ble_eq_true rfl) ?_
            exact W.iret (v := 1) hx hb hr (fun t ht hW => ⟨⟨1, (), rfl, (show 1 = v_orA bn bl fhs fha fhb9 fhc9 p1 p2 p3 by unfold v_orA; rw [if_pos (by omega)]; exact k_or_t hGF (by omega) ⟨by omega, by omega⟩ ⟨by omega, by omega⟩ (k_AS_c hp_30) (Or.inr (Or.inl ⟨(k_or1 (k_BD_bl hp_30.2.1) ⟨by omega, by omega⟩ ⟨by omega, by omega⟩ ez_31 ez_32).mpr hw_35, fun g9 => hw_39 ((k_or1 (k_BD_bl hp_30.2.1) ⟨by omega, by omega⟩ ⟨by omega, by omega⟩ ez_32 ez_31).mp g9), by decide⟩))), ⟨n_h0_notesSeen_16, n_h0_layersSeen_17, n_h0_clash_18, g_hk9_19, g_hbd_20, g_hlt_21, g_hrk_22, g_hle_23, g_hgr_24, hp_25, hp_26, hp_27, hp_28, (show k_CA fhs fha fhb9 fhc9 bn.toInt n_h0_notesSeen_16.toInt n_h0_layersSeen_17.toInt g_hk9_19 g_hbd_20 g_hlt_21 g_hrk_22 g_hle_23 g_hgr_24 n_h0_clash_18.toInt from k_CA_l hp_29 (by omega) hp_30), by rw [ht]; exact hP9, va_K.moved hW.alike hK9, hD9⟩⟩, hS.F ht⟩) hS.2.2 dX11_order_104
        · have hw_35 : ¬ k_bt (g_hlt_21 z_31.toNatClampNeg) z_32.toInt := hw_35
          refine lv_if_eq (tgt := 83) hx hb dX11_order_76 (by decide) (fun _ => ?_) (fun c_46 => absurd (by decide) c_46)
          refine lv_iconst (v := 0) hx hb dX11_order_83 (by decide) ?_
          refine lv_aload_n hx hb dX11_order_84 rfl (lv_at hl 2 rfl) ?_
          refine va_get (D := (dC, dI)) (ci := 11) (v := .ref hkn) (C := RX11) (T := TX11) (N := 10) hx hb hts hiX11 hown hK hP 0 rfl rfl 2 (by decide) w__fieldLink_RX11_28_ShellHeap_known_LShellHeap_Known_ (fun _ h9 => h9) rfl dX11_order_85 ?_
          refine lv_iload hx hb dX11_order_88 (lv_at hl 0 rfl) ?_
          refine lv_iload hx hb dX11_order_90 (lv_at hl 1 rfl) ?_
          obtain ⟨hPc, hDc⟩ := z_sub2 (ws' := [(hkn, .inr (4, [.ref hbk, .int n_h0_notesSeen_16, .int n_h0_layersSeen_17, .ref hk9, .ref hlt, .ref hrk, .ref hbd, .ref hle, .ref hgr, .int n_h0_clash_18])), (hlt, .inl (chlt, 12, .inl g_hlt_21))]) hP hD [1, 9] (by decide) rfl
          have hKc := hK.sub (tys' := [(chlt, .int)]) [6] rfl
          have hFc := va_free (ws := []) (wc := []) (z_D0 _) hS hA [] rfl
          refine va_calli (va_runV (As := [.int z_32, .int z_31]) (rest := [.int 0]) ⟨hx, hb, hml, hown, hts⟩ (s_X4_isLaterK l dC dI H_33.size hkn z_32 z_31 (.ref hbk) (.int n_h0_notesSeen_16) (.int n_h0_layersSeen_17) (.ref hk9) hlt (.ref hrk) (.ref hbd) (.ref hle) (.ref hgr) (.int n_h0_clash_18) chlt g_hlt_21 kz_32) (cwV 2 hts gw_s_X11_orderK_s_X4_isLaterK_171 rfl rfl rfl (by decide +kernel) ⟨Nat.le_of_ble_eq_true rfl, Nat.le_of_ble_eq_true rfl⟩) ⟨z_blind, va_recv hKc hPc (ci := 4) (q0 := 0) rfl rfl, z_pre hPc hKc hDc⟩ rfl rfl hl.1 rfl (lv_room (Nat.le_of_ble_eq_true rfl)) dX11_order_92 ⟨Nat.le_of_ble_eq_true rfl, Nat.le_of_ble_eq_true rfl⟩) hS (fun q _ h => hFc q h) hFc (fun r_48 u t H_47 locs ht hvm hw_49 hB hz1 hk1 hS => ?_)
          replace hP := z_pure hP hk1
          clear hPc hDc hKc
          rcases hw_49 with ⟨rfl, hw_49⟩ | ⟨rfl, hw_49⟩
          · have hw_49 : k_bt (g_hlt_21 z_32.toNatClampNeg) z_31.toInt := hw_49
            refine lv_if_eq (tgt := 102) hx hb dX11_order_95 (by decide) (fun c_50 => absurd c_50 (by decide)) (fun _ => ?_)
            refine lv_iconst (v := 2) hx hb dX11_order_98 (by decide) ?_
            refine lv_goto (tgt := 103) hx hb dX11_order_99 (by decide) ?_
            refine lv_iadd hx hb dX11_order_103 ?_
            refine lv_topi (fun x_51 e_52 => ?_)
            obtain rfl : x_51 = 2 := e_52.trans (by decide)
            have hP9 := hP
            have hD9 := hD
            have hK9 := hK.sub (tys' := []) [] rfl
            refine W.widen (k := 0) (n := 0) (Nat.le_of_ble_eq_true rfl) (Nat.le_of_ble_eq_true rfl) ?_
            exact W.iret (v := 2) hx hb hr (fun t ht hW => ⟨⟨2, (), rfl, (show 2 = v_orA bn bl fhs fha fhb9 fhc9 p1 p2 p3 by unfold v_orA; rw [if_pos (by omega)]; exact k_or_t hGF (by omega) ⟨by omega, by omega⟩ ⟨by omega, by omega⟩ (k_AS_c hp_30) (Or.inr (Or.inr (Or.inl ⟨fun g9 => hw_35 ((k_or1 (k_BD_bl hp_30.2.1) ⟨by omega, by omega⟩ ⟨by omega, by omega⟩ ez_31 ez_32).mp g9), (k_or1 (k_BD_bl hp_30.2.1) ⟨by omega, by omega⟩ ⟨by omega, by omega⟩ ez_32 ez_31).mpr hw_49, by decide⟩)))), ⟨n_h0_notesSeen_16, n_h0_layersSeen_17, n_h0_clash_18, g_hk9_19, g_hbd_20, g_hlt_21, g_hrk_22, g_hle_23, g_hgr_24, hp_25, hp_26, hp_27, hp_28, (show k_CA fhs fha fhb9 fhc9 bn.toInt n_h0_notesSeen_16.toInt n_h0_layersSeen_17.toInt g_hk9_19 g_hbd_20 g_hlt_21 g_hrk_22 g_hle_23 g_hgr_24 n_h0_clash_18.toInt from k_CA_l hp_29 (by omega) hp_30), by rw [ht]; exact hP9, va_K.moved hW.alike hK9, hD9⟩⟩, hS.F ht⟩) hS.2.2 dX11_order_104
          · have hw_49 : ¬ k_bt (g_hlt_21 z_32.toNatClampNeg) z_31.toInt := hw_49
            refine lv_if_eq (tgt := 102) hx hb dX11_order_95 (by decide) (fun _ => ?_) (fun c_53 => absurd (by decide) c_53)
            refine lv_iconst (v := 0) hx hb dX11_order_102 (by decide) ?_
            refine lv_iadd hx hb dX11_order_103 ?_
            refine lv_topi (fun x_54 e_55 => ?_)
            obtain rfl : x_54 = 0 := e_55.trans (by decide)
            have hP9 := hP
            have hD9 := hD
            have hK9 := hK.sub (tys' := []) [] rfl
            refine W.widen (k := 0) (n := 0) (Nat.le_of_ble_eq_true rfl) (Nat.le_of_ble_eq_true rfl) ?_
            exact W.iret (v := 0) hx hb hr (fun t ht hW => ⟨⟨0, (), rfl, (show 0 = v_orA bn bl fhs fha fhb9 fhc9 p1 p2 p3 by unfold v_orA; rw [if_pos (by omega)]; exact k_or_t hGF (by omega) ⟨by omega, by omega⟩ ⟨by omega, by omega⟩ (k_AS_c hp_30) (Or.inr (Or.inr (Or.inr (⟨fun g9 => hw_35 ((k_or1 (k_BD_bl hp_30.2.1) ⟨by omega, by omega⟩ ⟨by omega, by omega⟩ ez_31 ez_32).mp g9), fun g9 => hw_49 ((k_or1 (k_BD_bl hp_30.2.1) ⟨by omega, by omega⟩ ⟨by omega, by omega⟩ ez_32 ez_31).mp g9), by decide⟩))))), ⟨n_h0_notesSeen_16, n_h0_layersSeen_17, n_h0_clash_18, g_hk9_19, g_hbd_20, g_hlt_21, g_hrk_22, g_hle_23, g_hgr_24, hp_25, hp_26, hp_27, hp_28, (show k_CA fhs fha fhb9 fhc9 bn.toInt n_h0_notesSeen_16.toInt n_h0_layersSeen_17.toInt g_hk9_19 g_hbd_20 g_hlt_21 g_hrk_22 g_hle_23 g_hgr_24 n_h0_clash_18.toInt from k_CA_l hp_29 (by omega) hp_30), by rw [ht]; exact hP9, va_K.moved hW.alike hK9, hD9⟩⟩, hS.F ht⟩) hS.2.2 dX11_order_104
      · have hw_11 : ¬ (0 ≤ p3.toInt ∧ p3.toInt < bl.toInt) := hw_11
        refine lv_if_ne (tgt := 35) hx hb dX11_order_30 (by decide) (fun c_56 => absurd c_56 (by decide)) (fun _ => ?_)
        refine lv_iconst (v := (-1)) hx hb dX11_order_33 (by decide) ?_
        have hP9 := hP
        have hD9 := hD
        have hK9 := hK.sub (tys' := []) [] rfl
        refine W.widen (k := 0) (n := 0) (Nat.le_of_ble_eq_true rfl) (Nat.le_of_ble_eq_true rfl) ?_
        exact W.iret (v := (-1)) hx hb hr (fun t ht hW => ⟨⟨(-1), (), rfl, (show (-1) = v_orA bn bl fhs fha fhb9 fhc9 p1 p2 p3 by unfold v_orA; rw [if_neg (by omega)]), ⟨kn, kl, kc, fhk9, fhbd, fhlt, fhrk, fhle, fhgr, hB_kn, hB_kl, hB_kc, hI_hbd, (show k_CA fhs fha fhb9 fhc9 bn.toInt kn.toInt kl.toInt fhk9 fhbd fhlt fhrk fhle fhgr kc.toInt from hCA), by rw [ht]; exact hP9, va_K.moved hW.alike hK9, hD9⟩⟩, hS.F ht⟩) hS.2.2 dX11_order_34
    · have hw_7 : ¬ (0 ≤ p2.toInt ∧ p2.toInt < bl.toInt) := hw_7
      refine lv_if_eq (tgt := 33) hx hb dX11_order_19 (by decide) (fun _ => ?_) (fun c_57 => absurd (by decide) c_57)
      refine lv_iconst (v := (-1)) hx hb dX11_order_33 (by decide) ?_
      have hP9 := hP
      have hD9 := hD
      have hK9 := hK.sub (tys' := []) [] rfl
      refine W.widen (k := 0) (n := 0) (Nat.le_of_ble_eq_true rfl) (Nat.le_of_ble_eq_true rfl) ?_
      exact W.iret (v := (-1)) hx hb hr (fun t ht hW => ⟨⟨(-1), (), rfl, (show (-1) = v_orA bn bl fhs fha fhb9 fhc9 p1 p2 p3 by unfold v_orA; rw [if_neg (by omega)]), ⟨kn, kl, kc, fhk9, fhbd, fhlt, fhrk, fhle, fhgr, hB_kn, hB_kl, hB_kc, hI_hbd, (show k_CA fhs fha fhb9 fhc9 bn.toInt kn.toInt kl.toInt fhk9 fhbd fhlt fhrk fhle fhgr kc.toInt from hCA), by rw [ht]; exact hP9, va_K.moved hW.alike hK9, hD9⟩⟩, hS.F ht⟩) hS.2.2 dX11_order_34
  · have hw_3 : ¬ (0 ≤ p1.toInt ∧ p1.toInt ≤ bn.toInt) := hw_3
    refine lv_if_eq (tgt := 33) hx hb dX11_order_8 (by decide) (fun _ => ?_) (fun c_58 => absurd (by decide) c_58)
    refine lv_iconst (v := (-1)) hx hb dX11_order_33 (by decide) ?_
    have hP9 := hP
    have hD9 := hD
    have hK9 := hK.sub (tys' := []) [] rfl
    refine W.widen (k := 0) (n := 0) (Nat.le_of_ble_eq_true rfl) (Nat.le_of_ble_eq_true rfl) ?_
    exact W.iret (v := (-1)) hx hb hr (fun t ht hW => ⟨⟨(-1), (), rfl, (show (-1) = v_orA bn bl fhs fha fhb9 fhc9 p1 p2 p3 by unfold v_orA; rw [if_neg (by omega)]), ⟨kn, kl, kc, fhk9, fhbd, fhlt, fhrk, fhle, fhgr, hB_kn, hB_kl, hB_kc, hI_hbd, (show k_CA fhs fha fhb9 fhc9 bn.toInt kn.toInt kl.toInt fhk9 fhbd fhlt fhrk fhle fhgr kc.toInt from hCA), by rw [ht]; exact hP9, va_K.moved hW.alike hK9, hD9⟩⟩, hS.F ht⟩) hS.2.2 dX11_order_34
def u_s_X11_quarrelK : List Cond := .code yX11_quarrel cX11_quarrel 2 (some .int) :: ([.fieldLink RX11 19 "ShellHeap" "book" "LShellHeap$Book;", .methodLink RX11 140 yX0_hasFirst, .instanceMethod yX0_hasFirst, .selects RX0 yX0_hasFirst yX0_hasFirst, .initialized RX0, .fieldLink RX11 28 "ShellHeap" "known" "LShellHeap$Known;", .methodLink RX11 143 yX4_look, .instanceMethod yX4_look, .selects RX4 yX4_look yX4_look, .initialized RX4, .fieldLink RX11 162 "ShellHeap$Known" "clash" "I"] ++ (wsX110 ++ (wsX40 ++ (u_s_X0_hasFirstA ++ (u_s_X4_lookK ++ [])))))
set_option maxRecDepth 20000 in
theorem gw_s_X11_quarrelK_s_X0_hasFirstA_140 : GoodIn u_s_X11_quarrelK (wsV RX11 140 RX0 yX0_hasFirst u_s_X0_hasFirstA) := z_gV (z_gr _ [2, 3, 4, 5] rfl (by decide +kernel)) (fun w h => ⟨z_mc (z_mr (z_mr (z_mr (z_ml h)))), gd_s_X0_hasFirstA w h⟩)
set_option maxRecDepth 20000 in
theorem gw_s_X11_quarrelK_s_X4_lookK_143 : GoodIn u_s_X11_quarrelK (wsV RX11 143 RX4 yX4_look u_s_X4_lookK) := z_gV (z_gr _ [7, 8, 9, 10] rfl (by decide +kernel)) (fun w h => ⟨z_mc (z_mr (z_mr (z_mr (z_mr (z_ml h))))), gd_s_X4_lookK w h⟩)
set_option maxHeartbeats 4000000 in
set_option maxRecDepth 100000 in
theorem s_X11_quarrelK (l : Launch) (dC : Nat → ClassId) (dI : Nat → Nat → Nat) (sz : Nat) (h0 : Nat) (p1 : Int32) (h0_0 : Value) (hbk : Nat) (hkn : Nat) (h0_3 : Value) (h0_4 : Value) (h0_5 : Value) (h0_6 : Value) (h0_7 : Value) (h0_8 : Value) (h0_9 : Value) (kn : Int32) (kl : Int32) (hk9 : Nat) (hlt : Nat) (hrk : Nat) (hbd : Nat) (hle : Nat) (hgr : Nat) (kc : Int32) (hs : Nat) (ha : Nat) (hb9 : Nat) (hc9 : Nat) (bn : Int32) (bl : Int32) (chk9 : ClassId) (fhk9 : Nat → Int32) (chs : ClassId) (fhs : Nat → Int32) (cha : ClassId) (fha : Nat → Int32) (chb9 : ClassId) (fhb9 : Nat → Int32) (chc9 : ClassId) (fhc9 : Nat → Int32) (chbd : ClassId) (fhbd : Nat → Int32) (chlt : ClassId) (fhlt : Nat → Int32) (chrk : ClassId) (fhrk : Nat → Int32) (chle : ClassId) (fhle : Nat → Int32) (chgr : ClassId) (fhgr : Nat → Int32) (hB_kn : ((-1 : Int) ≤ (kn).toInt ∧ (kn).toInt ≤ (80 : Int))) (hB_kl : ((-1 : Int) ≤ (kl).toInt ∧ (kl).toInt ≤ (12 : Int))) (hB_kc : ((0 : Int) ≤ (kc).toInt ∧ (kc).toInt ≤ (2 : Int))) (hB_bl : ((0 : Int) ≤ (bl).toInt ∧ (bl).toInt ≤ (12 : Int))) (hB_bn : ((0 : Int) ≤ (bn).toInt ∧ (bn).toInt ≤ (80 : Int))) (hI_ha : ∀ j : Nat, ((0 : Int) ≤ (fha j).toInt ∧ (fha j).toInt ≤ (79 : Int))) (hI_hbd : ∀ j : Nat, ((0 : Int) ≤ (fhbd j).toInt ∧ (fhbd j).toInt ≤ (11 : Int))) (hR : ∀ j : Nat, z_rel (fhs j) (fha j) (fhb9 j)) (hCA : k_CA fhs fha fhb9 fhc9 bn.toInt kn.toInt kl.toInt fhk9 fhbd fhlt fhrk fhle fhgr kc.toInt) (hGF : k_GF fhs fha fhb9 bn.toInt bl.toInt) : Met l yX11_quarrel u_s_X11_quarrelK ({ frames := 4, cells := 0, slots := 0, locals := 87 }) (va_Pc [.ref h0, .int p1] (z_C (dC, dI) vwCl [(h0, .inr (11, [h0_0, .ref hbk, .ref hkn, h0_3, h0_4, h0_5, h0_6, h0_7, h0_8, h0_9])), (hkn, .inr (4, [.ref hbk, .int kn, .int kl, .ref hk9, .ref hlt, .ref hrk, .ref hbd, .ref hle, .ref hgr, .int kc])), (hbk, .inr (0, [.ref hs, .ref ha, .ref hb9, .ref hc9, .int bn, .int bl])), (hk9, .inl (chk9, 80, .inl fhk9)), (hs, .inl (chs, 80, .inl fhs)), (ha, .inl (cha, 80, .inl fha)), (hb9, .inl (chb9, 80, .inl fhb9)), (hc9, .inl (chc9, 80, .inl fhc9)), (hbd, .inl (chbd, 12, .inl fhbd)), (hlt, .inl (chlt, 12, .inl fhlt)), (hrk, .inl (chrk, 12, .inl fhrk)), (hle, .inl (chle, 12, .inl fhle)), (hgr, .inl (chgr, 12, .inl fhgr))] [(chk9, .boolean), (chs, .int), (cha, .int), (chb9, .int), (chc9, .int), (chbd, .int), (chlt, .int), (chrk, .int), (chle, .int), (chgr, .int)] sz)) (va_Qi (fun (r : Int32) (_ : Unit) => r = v_quA bn bl fhs fha fhb9 fhc9 p1) (fun (_ : Unit) (t : State) => ∃ (n_hkn_notesSeen : Int32), ∃ (n_hkn_layersSeen : Int32), ∃ (n_hkn_clash : Int32), ∃ (g_hk9 : Nat → Int32), ∃ (g_hbd : Nat → Int32), ∃ (g_hlt : Nat → Int32), ∃ (g_hrk : Nat → Int32), ∃ (g_hle : Nat → Int32), ∃ (g_hgr : Nat → Int32), ((-1 : Int) ≤ (n_hkn_notesSeen).toInt ∧ (n_hkn_notesSeen).toInt ≤ (80 : Int)) ∧ ((-1 : Int) ≤ (n_hkn_layersSeen).toInt ∧ (n_hkn_layersSeen).toInt ≤ (12 : Int)) ∧ ((0 : Int) ≤ (n_hkn_clash).toInt ∧ (n_hkn_clash).toInt ≤ (2 : Int)) ∧ (∀ j : Nat, ((0 : Int) ≤ (g_hbd j).toInt ∧ (g_hbd j).toInt ≤ (11 : Int))) ∧ (k_CA fhs fha fhb9 fhc9 bn.toInt n_hkn_notesSeen.toInt n_hkn_layersSeen.toInt g_hk9 g_hbd g_hlt g_hrk g_hle g_hgr n_hkn_clash.toInt) ∧ va_P (dC, dI) vwCl [(h0, .inr (11, [h0_0, .ref hbk, .ref hkn, h0_3, h0_4, h0_5, h0_6, h0_7, h0_8, h0_9])), (hkn, .inr (4, [.ref hbk, .int n_hkn_notesSeen, .int n_hkn_layersSeen, .ref hk9, .ref hlt, .ref hrk, .ref hbd, .ref hle, .ref hgr, .int n_hkn_clash])), (hbk, .inr (0, [.ref hs, .ref ha, .ref hb9, .ref hc9, .int bn, .int bl])), (hk9, .inl (chk9, 80, .inl g_hk9)), (hs, .inl (chs, 80, .inl fhs)), (ha, .inl (cha, 80, .inl fha)), (hb9, .inl (chb9, 80, .inl fhb9)), (hc9, .inl (chc9, 80, .inl fhc9)), (hbd, .inl (chbd, 12, .inl g_hbd)), (hlt, .inl (chlt, 12, .inl g_hlt)), (hrk, .inl (chrk, 12, .inl g_hrk)), (hle, .inl (chle, 12, .inl g_hle)), (hgr, .inl (chgr, 12, .inl g_hgr))] t.heap ∧ va_K (dC, dI) vwCl [] t ∧ va_D (va_A [(h0, .inr (11, [h0_0, .ref hbk, .ref hkn, h0_3, h0_4, h0_5, h0_6, h0_7, h0_8, h0_9])), (hkn, .inr (4, [.ref hbk, .int kn, .int kl, .ref hk9, .ref hlt, .ref hrk, .ref hbd, .ref hle, .ref hgr, .int kc])), (hbk, .inr (0, [.ref hs, .ref ha, .ref hb9, .ref hc9, .int bn, .int bl])), (hk9, .inl (chk9, 80, .inl fhk9)), (hs, .inl (chs, 80, .inl fhs)), (ha, .inl (cha, 80, .inl fha)), (hb9, .inl (chb9, 80, .inl fhb9)), (hc9, .inl (chc9, 80, .inl fhc9)), (hbd, .inl (chbd, 12, .inl fhbd)), (hlt, .inl (chlt, 12, .inl fhlt)), (hrk, .inl (chrk, 12, .inl fhrk)), (hle, .inl (chle, 12, .inl fhle)), (hgr, .inl (chgr, 12, .inl fhgr))] sz) [(h0, .inr (11, [h0_0, .ref hbk, .ref hkn, h0_3, h0_4, h0_5, h0_6, h0_7, h0_8, h0_9])), (hkn, .inr (4, [.ref hbk, .int n_hkn_notesSeen, .int n_hkn_layersSeen, .ref hk9, .ref hlt, .ref hrk, .ref hbd, .ref hle, .ref hgr, .int n_hkn_clash])), (hbk, .inr (0, [.ref hs, .ref ha, .ref hb9, .ref hc9, .int bn, .int bl])), (hk9, .inl (chk9, 80, .inl g_hk9)), (hs, .inl (chs, 80, .inl fhs)), (ha, .inl (cha, 80, .inl fha)), (hb9, .inl (chb9, 80, .inl fhb9)), (hc9, .inl (chc9, 80, .inl fhc9)), (hbd, .inl (chbd, 12, .inl g_hbd)), (hlt, .inl (chlt, 12, .inl g_hlt)), (hrk, .inl (chrk, 12, .inl g_hrk)), (hle, .inl (chle, 12, .inl g_hle)), (hgr, .inl (chgr, 12, .inl g_hgr))]) (va_A [(h0, .inr (11, [h0_0, .ref hbk, .ref hkn, h0_3, h0_4, h0_5, h0_6, h0_7, h0_8, h0_9])), (hkn, .inr (4, [.ref hbk, .int kn, .int kl, .ref hk9, .ref hlt, .ref hrk, .ref hbd, .ref hle, .ref hgr, .int kc])), (hbk, .inr (0, [.ref hs, .ref ha, .ref hb9, .ref hc9, .int bn, .int bl])), (hk9, .inl (chk9, 80, .inl fhk9)), (hs, .inl (chs, 80, .inl fhs)), (ha, .inl (cha, 80, .inl fha)), (hb9, .inl (chb9, 80, .inl fhb9)), (hc9, .inl (chc9, 80, .inl fhc9)), (hbd, .inl (chbd, 12, .inl fhbd)), (hlt, .inl (chlt, 12, .inl fhlt)), (hrk, .inl (chrk, 12, .inl fhrk)), (hle, .inl (chle, 12, .inl fhle)), (hgr, .inl (chgr, 12, .inl fhgr))] sz)) 0 0 (va_A [(h0, .inr (11, [h0_0, .ref hbk, .ref hkn, h0_3, h0_4, h0_5, h0_6, h0_7, h0_8, h0_9])), (hkn, .inr (4, [.ref hbk, .int kn, .int kl, .ref hk9, .ref hlt, .ref hrk, .ref hbd, .ref hle, .ref hgr, .int kc])), (hbk, .inr (0, [.ref hs, .ref ha, .ref hb9, .ref hc9, .int bn, .int bl])), (hk9, .inl (chk9, 80, .inl fhk9)), (hs, .inl (chs, 80, .inl fhs)), (ha, .inl (cha, 80, .inl fha)), (hb9, .inl (chb9, 80, .inl fhb9)), (hc9, .inl (chc9, 80, .inl fhc9)), (hbd, .inl (chbd, 12, .inl fhbd)), (hlt, .inl (chlt, 12, .inl fhlt)), (hrk, .inl (chrk, 12, .inl fhrk)), (hle, .inl (chle, 12, .inl fhle)), (hgr, .inl (chgr, 12, .inl fhgr))] sz) := by
  refine Met.ofW (cc := cX11_quarrel) (maxL := 2) (ret := (some .int)) (by decide) rfl ?_
  intro p e s m args below meth c s₁ B hml hv
  obtain ⟨rfl, hsz, hP, hK, hD0⟩ := hv
  have hx := B.exec
  have hb := B.bytes
  have hr := B.returns
  have hts := atoms_spec (ws := u_s_X11_quarrelK) B.pre
  have hown : s.vm.findClass RX11 = some m.cls := findClass_of_methodNamed B.named
  have hlocks := B.notSynchronized
  subst hsz
  have hD := hD0.self (sz := s.heap.size)
  generalize hAe : va_A [(h0, .inr (11, [h0_0, .ref hbk, .ref hkn, h0_3, h0_4, h0_5, h0_6, h0_7, h0_8, h0_9])), (hkn, .inr (4, [.ref hbk, .int kn, .int kl, .ref hk9, .ref hlt, .ref hrk, .ref hbd, .ref hle, .ref hgr, .int kc])), (hbk, .inr (0, [.ref hs, .ref ha, .ref hb9, .ref hc9, .int bn, .int bl])), (hk9, .inl (chk9, 80, .inl fhk9)), (hs, .inl (chs, 80, .inl fhs)), (ha, .inl (cha, 80, .inl fha)), (hb9, .inl (chb9, 80, .inl fhb9)), (hc9, .inl (chc9, 80, .inl fhc9)), (hbd, .inl (chbd, 12, .inl fhbd)), (hlt, .inl (chlt, 12, .inl fhlt)), (hrk, .inl (chrk, 12, .inl fhrk)), (hle, .inl (chle, 12, .inl fhle)), (hgr, .inl (chgr, 12, .inl fhgr))] s.heap.size = A at hD ⊢
  have hA : ∀ q : Nat, s.heap.size ≤ q → A q := fun q h => by rw [← hAe]; exact Or.inr h
  have hS : va_S A s.heap s.heap [] := va_S.rf
  have hP : va_P (dC, dI) vwCl [(h0, .inr (11, [h0_0, .ref hbk, .ref hkn, h0_3, h0_4, h0_5, h0_6, h0_7, h0_8, h0_9])), (hkn, .inr (4, [.ref hbk, .int kn, .int kl, .ref hk9, .ref hlt, .ref hrk, .ref hbd, .ref hle, .ref hgr, .int kc])), (hbk, .inr (0, [.ref hs, .ref ha, .ref hb9, .ref hc9, .int bn, .int bl])), (hk9, .inl (chk9, 80, .inl fhk9)), (hs, .inl (chs, 80, .inl fhs)), (ha, .inl (cha, 80, .inl fha)), (hb9, .inl (chb9, 80, .inl fhb9)), (hc9, .inl (chc9, 80, .inl fhc9)), (hbd, .inl (chbd, 12, .inl fhbd)), (hlt, .inl (chlt, 12, .inl fhlt)), (hrk, .inl (chrk, 12, .inl fhrk)), (hle, .inl (chle, 12, .inl fhle)), (hgr, .inl (chgr, 12, .inl fhgr))] s.heap := hP
  have w__fieldLink_RX11_19_ShellHeap_book_LShellHeap_Book_ := hts (.fieldLink RX11 19 "ShellHeap" "book" "LShellHeap$Book;") (z_mc (z_ml z_m0))
  have hiX11 := show ∀ w ∈ u_ws RX11 TX11 10, w ∈ u_s_X11_quarrelK from fun w h => z_mc (z_mr (z_ml h))
  have w__fieldLink_RX11_28_ShellHeap_known_LShellHeap_Known_ := hts (.fieldLink RX11 28 "ShellHeap" "known" "LShellHeap$Known;") (z_mc (z_ml z_m5))
  have w__fieldLink_RX11_162_ShellHeap_Known_clash_I_ := hts (.fieldLink RX11 162 "ShellHeap$Known" "clash" "I") (z_mc (z_ml z_m10))
  have hiX4 := show ∀ w ∈ u_ws RX4 TX4 10, w ∈ u_s_X11_quarrelK from fun w h => z_mc (z_mr (z_mr (z_ml h)))
  have krr_p1 := z_rng p1
  have hl := lv_entry ([.ref h0, .int p1]) (n := 2) (Nat.le_of_ble_eq_true rfl)
  rw [lg_entry_eq]
  generalize (lg_sl ([.ref h0, .int p1]) ++ List.replicate (2 - (lg_sl ([.ref h0, .int p1])).length) Slot.unset).toArray = ls at hl ⊢
  have hl : lv_has ls 2 [(0, .ref h0), (1, .int p1)] := hl
  refine lv_aload_n hx hb dX11_quarrel_0 rfl (lv_at hl 0 rfl) ?_
  refine va_get (D := (dC, dI)) (ci := 11) (v := .ref hbk) (C := RX11) (T := TX11) (N := 10) hx hb hts hiX11 hown hK hP 0 rfl rfl 1 (by decide) w__fieldLink_RX11_19_ShellHeap_book_LShellHeap_Book_ (fun _ h9 => h9) rfl dX11_quarrel_1 ?_
  refine lv_iload_n hx hb dX11_quarrel_4 rfl (lv_at hl 1 rfl) ?_
  obtain ⟨hPc, hDc⟩ := z_sub2 (ws' := [(hbk, .inr (0, [.ref hs, .ref ha, .ref hb9, .ref hc9, .int bn, .int bl]))]) hP hD [2] (by decide) rfl
  have hKc := hK.sub (tys' := []) [] rfl
  have hFc := va_free (ws := []) (wc := []) (z_D0 _) hS hA [] rfl
  refine va_calli (va_runV (As := [.int p1]) (rest := []) ⟨hx, hb, hml, hown, hts⟩ (s_X0_hasFirstA l dC dI s.heap.size hbk p1 (.ref hs) (.ref ha) (.ref hb9) (.ref hc9) bn (.int bl) hB_bn) (cwV 1 hts gw_s_X11_quarrelK_s_X0_hasFirstA_140 rfl rfl rfl (by decide +kernel) ⟨Nat.le_of_ble_eq_true rfl, Nat.le_of_ble_eq_true rfl⟩) ⟨z_blind, va_recv hKc hPc (ci := 0) (q0 := 0) rfl rfl, z_pre hPc hKc hDc⟩ rfl rfl hl.1 rfl (lv_room (Nat.le_of_ble_eq_true rfl)) dX11_quarrel_5 ⟨Nat.le_of_ble_eq_true rfl, Nat.le_of_ble_eq_true rfl⟩) hS (fun q _ h => hFc q h) hFc (fun r_2 u t H_1 locs ht hvm hw_3 hB hz1 hk1 hS => ?_)
  replace hP := z_pure hP hk1
  clear hPc hDc hKc
  rcases hw_3 with ⟨rfl, hw_3⟩ | ⟨rfl, hw_3⟩
  · have hw_3 : (0 ≤ p1.toInt ∧ p1.toInt ≤ bn.toInt) := hw_3
    refine lv_if_ne (tgt := 13) hx hb dX11_quarrel_8 (by decide) (fun _ => ?_) (fun c_4 => absurd c_4 (by decide))
    refine lv_aload_n hx hb dX11_quarrel_13 rfl (lv_at hl 0 rfl) ?_
    refine va_get (D := (dC, dI)) (ci := 11) (v := .ref hkn) (C := RX11) (T := TX11) (N := 10) hx hb hts hiX11 hown hK hP 0 rfl rfl 2 (by decide) w__fieldLink_RX11_28_ShellHeap_known_LShellHeap_Known_ (fun _ h9 => h9) rfl dX11_quarrel_14 ?_
    refine lv_iload_n hx hb dX11_quarrel_17 rfl (lv_at hl 1 rfl) ?_
    have hKI := hCA.2
    have hRG : k_r3 fhs fha fhb9 (p1).toInt (bl).toInt := k_GF_r3 hGF (by omega)
    have hRD : k_rd fhs fha (p1).toInt (bl).toInt := k_GF_rd hGF (by omega)
    obtain ⟨hPc, hDc, hFc⟩ := z_sub3 (ws' := [(hkn, .inr (4, [.ref hbk, .int kn, .int kl, .ref hk9, .ref hlt, .ref hrk, .ref hbd, .ref hle, .ref hgr, .int kc])), (hbk, .inr (0, [.ref hs, .ref ha, .ref hb9, .ref hc9, .int bn, .int bl])), (hk9, .inl (chk9, 80, .inl fhk9)), (hs, .inl (chs, 80, .inl fhs)), (ha, .inl (cha, 80, .inl fha)), (hb9, .inl (chb9, 80, .inl fhb9)), (hc9, .inl (chc9, 80, .inl fhc9)), (hbd, .inl (chbd, 12, .inl fhbd)), (hlt, .inl (chlt, 12, .inl fhlt)), (hrk, .inl (chrk, 12, .inl fhrk)), (hle, .inl (chle, 12, .inl fhle)), (hgr, .inl (chgr, 12, .inl fhgr))]) hP hD hS hA [1, 2, 3, 4, 5, 6, 7, 8, 9, 10, 11, 12] (by decide) rfl
    have hKc := hK
    refine va_callv (va_runV (As := [.int p1]) (rest := []) ⟨hx, hb, hml, hown, hts⟩ (s_X4_lookK l dC dI H_1.size hkn p1 hbk kn kl hk9 hlt hrk hbd hle hgr kc hs ha hb9 hc9 (.int bn) bl chk9 fhk9 chs fhs cha fha chb9 fhb9 chc9 fhc9 chbd fhbd chlt fhlt chrk fhrk chle fhle chgr fhgr hB_kn hB_kl hB_kc hB_bl (by first | omega | decide) hI_ha hI_hbd hKI hRG hRD) (cwV 1 hts gw_s_X11_quarrelK_s_X4_lookK_143 rfl rfl rfl (by decide +kernel) ⟨Nat.le_of_ble_eq_true rfl, Nat.le_of_ble_eq_true rfl⟩) ⟨z_blind, va_recv hKc hPc (ci := 4) (q0 := 0) rfl rfl, z_pre hPc hKc hDc⟩ rfl rfl hl.1 rfl (lv_room (Nat.le_of_ble_eq_true rfl)) dX11_quarrel_18 ⟨Nat.le_of_ble_eq_true rfl, Nat.le_of_ble_eq_true rfl⟩) hS (fun q _ h => hFc q h) hFc (fun u t H_5 locs ht hvm hw_7 hB hz1 hk1 hS => ?_)
    obtain ⟨n_h0_notesSeen_8, n_h0_layersSeen_9, n_h0_clash_10, g_hk9_11, g_hbd_12, g_hlt_13, g_hrk_14, g_hle_15, g_hgr_16, hp_17, hp_18, hp_19, hp_20, hp_21, hp_22, hP1, hK1, hD1⟩ := hB
    rw [ht] at hP1
    have hK1 := va_K.moved hvm.symm hK1
    obtain ⟨hP, hD⟩ := z_ap_1 (va_join (wr := [(h0, .inr (11, [h0_0, .ref hbk, .ref hkn, h0_3, h0_4, h0_5, h0_6, h0_7, h0_8, h0_9]))]) hP hD [1, 2, 3, 4, 5, 6, 7, 8, 9, 10, 11, 12] [0] rfl rfl (by decide) (by decide) hk1 hFc hP1 hD1)
    have hp_21 : n_h0_notesSeen_8.toInt = p1.toInt ∧ n_h0_layersSeen_9.toInt = bl.toInt := hp_21
    have hp_22 : k_KN fhs fha fhb9 fhc9 p1.toInt bl.toInt g_hk9_11 g_hbd_12 g_hlt_13 g_hrk_14 g_hle_15 g_hgr_16 n_h0_clash_10.toInt := hp_22
    clear hPc hDc hKc
    refine lv_aload_n hx hb dX11_quarrel_21 rfl (lv_at hl 0 rfl) ?_
    refine va_get (D := (dC, dI)) (ci := 11) (v := .ref hkn) (C := RX11) (T := TX11) (N := 10) hx hb hts hiX11 hown hK hP 0 rfl rfl 2 (by decide) w__fieldLink_RX11_28_ShellHeap_known_LShellHeap_Known_ (fun _ h9 => h9) rfl dX11_quarrel_22 ?_
    refine va_get (D := (dC, dI)) (ci := 4) (v := .int n_h0_clash_10) (C := RX4) (T := TX4) (N := 10) hx hb hts hiX4 hown hK hP 1 rfl rfl 9 (by decide) w__fieldLink_RX11_162_ShellHeap_Known_clash_I_ (fun _ h9 => h9) rfl dX11_quarrel_25 ?_
    have hP9 := hP
    have hD9 := hD
    have hK9 := hK.sub (tys' := []) [] rfl
    refine W.widen (k := 0) (n := 0) (Nat.le_of_ble_eq_true rfl) (Nat.le_of_ble_eq_true rfl) ?_
    exact W.iret (v := n_h0_clash_10) hx hb hr (fun t ht hW => ⟨⟨n_h0_clash_10, (), rfl, (show n_h0_clash_10 = v_quA bn bl fhs fha fhb9 fhc9 p1 by unfold v_quA; rw [if_pos (by omega)]; exact k_qu_t hGF (by omega) (k_AS_c hp_22) rfl), ⟨n_h0_notesSeen_8, n_h0_layersSeen_9, n_h0_clash_10, g_hk9_11, g_hbd_12, g_hlt_13, g_hrk_14, g_hle_15, g_hgr_16, hp_17, hp_18, hp_19, hp_20, (show k_CA fhs fha fhb9 fhc9 bn.toInt n_h0_notesSeen_8.toInt n_h0_layersSeen_9.toInt g_hk9_11 g_hbd_12 g_hlt_13 g_hrk_14 g_hle_15 g_hgr_16 n_h0_clash_10.toInt from k_CA_l hp_21 (by omega) hp_22), by rw [ht]; exact hP9, va_K.moved hW.alike hK9, hD9⟩⟩, hS.F ht⟩) hS.2.2 dX11_quarrel_28
  · have hw_3 : ¬ (0 ≤ p1.toInt ∧ p1.toInt ≤ bn.toInt) := hw_3
    refine lv_if_ne (tgt := 13) hx hb dX11_quarrel_8 (by decide) (fun c_23 => absurd c_23 (by decide)) (fun _ => ?_)
    refine lv_iconst (v := (-1)) hx hb dX11_quarrel_11 (by decide) ?_
    have hP9 := hP
    have hD9 := hD
    have hK9 := hK.sub (tys' := []) [] rfl
    refine W.widen (k := 0) (n := 0) (Nat.le_of_ble_eq_true rfl) (Nat.le_of_ble_eq_true rfl) ?_
    exact W.iret (v := (-1)) hx hb hr (fun t ht hW => ⟨⟨(-1), (), rfl, (show (-1) = v_quA bn bl fhs fha fhb9 fhc9 p1 by unfold v_quA; rw [if_neg (by omega)]), ⟨kn, kl, kc, fhk9, fhbd, fhlt, fhrk, fhle, fhgr, hB_kn, hB_kl, hB_kc, hI_hbd, (show k_CA fhs fha fhb9 fhc9 bn.toInt kn.toInt kl.toInt fhk9 fhbd fhlt fhrk fhle fhgr kc.toInt from hCA), by rw [ht]; exact hP9, va_K.moved hW.alike hK9, hD9⟩⟩, hS.F ht⟩) hS.2.2 dX11_quarrel_12
