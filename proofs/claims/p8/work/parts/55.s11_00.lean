def u_s_J6_bitCount_0f7a4 : List Cond := .code yJ6_bitCount_0f7a4 cJ6_bitCount_0f7a4 1 (some .int) :: ([.constant RJ6 265 (1431655765), .constant RJ6 266 (858993459), .constant RJ6 267 (252645135)] ++ [])
theorem gd_s_J6_bitCount_0f7a4 : z_gd u_s_J6_bitCount_0f7a4 := z_gdc (by decide +kernel) (z_gd0)
set_option maxHeartbeats 4000000 in
set_option maxRecDepth 100000 in
theorem s_J6_bitCount_0f7a4 (l : Launch) (dC : Nat → ClassId) (dI : Nat → Nat → Nat) (sz : Nat) (p0 : Int32) : Met l yJ6_bitCount_0f7a4 u_s_J6_bitCount_0f7a4 ({ frames := 0, cells := 0, slots := 0, locals := 0 }) (va_Pc [.int p0] (z_C (dC, dI) vwCl [] [] sz)) (va_Qi (fun (r : Int32) (_ : Unit) => ((0 : Int) ≤ (r).toInt ∧ (r).toInt ≤ (63 : Int))) (fun (_ : Unit) (_ : State) => True) (va_A [] sz)) 0 0 (va_A [] sz) := by
  refine Met.ofW (cc := cJ6_bitCount_0f7a4) (maxL := 1) (ret := (some .int)) (by decide) rfl ?_
  intro p e s m args below meth c s₁ B hml hv
  obtain ⟨rfl, hsz, hP, hK, hD0⟩ := hv
  have hx := B.exec
  have hb := B.bytes
  have hr := B.returns
  have hts := atoms_spec (ws := u_s_J6_bitCount_0f7a4) B.pre
  have hown : s.vm.findClass RJ6 = some m.cls := findClass_of_methodNamed B.named
  have hlocks := B.notSynchronized
  subst hsz
  have hD := hD0
  generalize hAe : va_A [] s.heap.size = A
  have hA : ∀ q : Nat, s.heap.size ≤ q → A q := fun q h => by rw [← hAe]; exact Or.inr h
  have hS : va_S A s.heap s.heap [] := va_S.rf
  have hP : va_P (dC, dI) vwCl [] s.heap := hP
  have w__constant_RJ6_265_1431655765_ := hts (.constant RJ6 265 (1431655765)) (z_mc (z_ml z_m0))
  have w__constant_RJ6_266_858993459_ := hts (.constant RJ6 266 (858993459)) (z_mc (z_ml z_m1))
  have w__constant_RJ6_267_252645135_ := hts (.constant RJ6 267 (252645135)) (z_mc (z_ml z_m2))
  have krr_p0 := z_rng p0
  have hl := lv_entry ([.int p0]) (n := 1) (Nat.le_of_ble_eq_true rfl)
  rw [lg_entry_eq]
  generalize (lg_sl ([.int p0]) ++ List.replicate (1 - (lg_sl ([.int p0])).length) Slot.unset).toArray = ls at hl ⊢
  have hl : lv_has ls 1 [(0, .int p0)] := hl
  refine lv_iload_n hx hb dJ6_bitCount_0f7a4_0 rfl (lv_at hl 0 rfl) ?_
  refine lv_iload_n hx hb dJ6_bitCount_0f7a4_1 rfl (lv_at hl 0 rfl) ?_
  refine lv_iconst (v := 1) hx hb dJ6_bitCount_0f7a4_2 (by decide) ?_
  refine lv_iushr hx hb dJ6_bitCount_0f7a4_3 rfl ?_
  refine lv_topi (fun z_1 ez_1 => ?_)
  refine lv_ldcw (v := 1431655765) hx hb hown w__constant_RJ6_265_1431655765_ dJ6_bitCount_0f7a4_4 ?_
  refine lv_iand hx hb dJ6_bitCount_0f7a4_7 ?_
  refine lv_topi (fun z_2 ez_2 => ?_)
  refine lv_isub hx hb dJ6_bitCount_0f7a4_8 ?_
  refine lv_topi (fun z_3 ez_3 => ?_)
  refine lv_istore_n (lv' := [(0, .int z_3)]) hx hb dJ6_bitCount_0f7a4_9 rfl hl (by decide) rfl (fun ls hl => ?_)
  refine lv_iload_n hx hb dJ6_bitCount_0f7a4_10 rfl (lv_at hl 0 rfl) ?_
  refine lv_ldcw (v := 858993459) hx hb hown w__constant_RJ6_266_858993459_ dJ6_bitCount_0f7a4_11 ?_
  refine lv_iand hx hb dJ6_bitCount_0f7a4_14 ?_
  refine lv_topi (fun z_4 ez_4 => ?_)
  refine lv_iload_n hx hb dJ6_bitCount_0f7a4_15 rfl (lv_at hl 0 rfl) ?_
  refine lv_iconst (v := 2) hx hb dJ6_bitCount_0f7a4_16 (by decide) ?_
  refine lv_iushr hx hb dJ6_bitCount_0f7a4_17 rfl ?_
  refine lv_topi (fun z_5 ez_5 => ?_)
  refine lv_ldcw (v := 858993459) hx hb hown w__constant_RJ6_266_858993459_ dJ6_bitCount_0f7a4_18 ?_
  refine lv_iand hx hb dJ6_bitCount_0f7a4_21 ?_
  refine lv_topi (fun z_6 ez_6 => ?_)
  refine lv_iadd hx hb dJ6_bitCount_0f7a4_22 ?_
  refine lv_topi (fun z_7 ez_7 => ?_)
  refine lv_istore_n (lv' := [(0, .int z_7)]) hx hb dJ6_bitCount_0f7a4_23 rfl hl (by decide) rfl (fun ls hl => ?_)
  refine lv_iload_n hx hb dJ6_bitCount_0f7a4_24 rfl (lv_at hl 0 rfl) ?_
  refine lv_iload_n hx hb dJ6_bitCount_0f7a4_25 rfl (lv_at hl 0 rfl) ?_
  refine lv_iconst (v := 4) hx hb dJ6_bitCount_0f7a4_26 (by decide) ?_
  refine lv_iushr hx hb dJ6_bitCount_0f7a4_27 rfl ?_
  refine lv_topi (fun z_8 ez_8 => ?_)
  refine lv_iadd hx hb dJ6_bitCount_0f7a4_28 ?_
  refine lv_topi (fun z_9 ez_9 => ?_)
  refine lv_ldcw (v := 252645135) hx hb hown w__constant_RJ6_267_252645135_ dJ6_bitCount_0f7a4_29 ?_
  refine lv_iand hx hb dJ6_bitCount_0f7a4_32 ?_
  refine lv_topi (fun z_10 ez_10 => ?_)
  refine lv_istore_n (lv' := [(0, .int z_10)]) hx hb dJ6_bitCount_0f7a4_33 rfl hl (by decide) rfl (fun ls hl => ?_)
  refine lv_iload_n hx hb dJ6_bitCount_0f7a4_34 rfl (lv_at hl 0 rfl) ?_
  refine lv_iload_n hx hb dJ6_bitCount_0f7a4_35 rfl (lv_at hl 0 rfl) ?_
  refine lv_bipush (v := 8) hx hb dJ6_bitCount_0f7a4_36 (by decide) ?_
  refine lv_iushr hx hb dJ6_bitCount_0f7a4_38 rfl ?_
  refine lv_topi (fun z_11 ez_11 => ?_)
  refine lv_iadd hx hb dJ6_bitCount_0f7a4_39 ?_
  refine lv_topi (fun z_12 ez_12 => ?_)
  refine lv_istore_n (lv' := [(0, .int z_12)]) hx hb dJ6_bitCount_0f7a4_40 rfl hl (by decide) rfl (fun ls hl => ?_)
  refine lv_iload_n hx hb dJ6_bitCount_0f7a4_41 rfl (lv_at hl 0 rfl) ?_
  refine lv_iload_n hx hb dJ6_bitCount_0f7a4_42 rfl (lv_at hl 0 rfl) ?_
  refine lv_bipush (v := 16) hx hb dJ6_bitCount_0f7a4_43 (by decide) ?_
  refine lv_iushr hx hb dJ6_bitCount_0f7a4_45 rfl ?_
  refine lv_topi (fun z_13 ez_13 => ?_)
  refine lv_iadd hx hb dJ6_bitCount_0f7a4_46 ?_
  refine lv_topi (fun z_14 ez_14 => ?_)
  refine lv_istore_n (lv' := [(0, .int z_14)]) hx hb dJ6_bitCount_0f7a4_47 rfl hl (by decide) rfl (fun ls hl => ?_)
  refine lv_iload_n hx hb dJ6_bitCount_0f7a4_48 rfl (lv_at hl 0 rfl) ?_
  refine lv_bipush (v := 63) hx hb dJ6_bitCount_0f7a4_49 (by decide) ?_
  refine lv_iand hx hb dJ6_bitCount_0f7a4_51 ?_
  refine lv_topi (fun z_15 ez_15 => ?_)
  have kz_15 : (0 : Int) ≤ (z_15).toInt ∧ (z_15).toInt ≤ (63 : Int) := by rw [ez_15]; exact z_and _ 6 (by decide) (by decide)
  refine W.widen (k := 0) (n := 0) (Nat.le_of_ble_eq_true rfl) (Nat.le_of_ble_eq_true rfl) ?_
  exact W.iret (v := z_15) hx hb hr (fun t ht hW => ⟨⟨z_15, (), rfl, (show ((0 : Int) ≤ (z_15).toInt ∧ (z_15).toInt ≤ (63 : Int)) by omega), trivial⟩, hS.F ht⟩) hS.2.2 dJ6_bitCount_0f7a4_52
def u_s_X11_bed : List Cond := .code yX11_bed cX11_bed 5 (some .int) :: ([.fieldLink RX11 19 "ShellHeap" "book" "LShellHeap$Book;", .methodLink RX11 140 yX0_hasFirst, .instanceMethod yX0_hasFirst, .selects RX0 yX0_hasFirst yX0_hasFirst, .initialized RX0, .methodLink RX11 115 yX0_hasLayer, .instanceMethod yX0_hasLayer, .selects RX0 yX0_hasLayer yX0_hasLayer, .fieldLink RX11 28 "ShellHeap" "known" "LShellHeap$Known;", .methodLink RX11 143 yX4_look, .instanceMethod yX4_look, .selects RX4 yX4_look yX4_look, .initialized RX4, .fieldLink RX11 146 "ShellHeap$Known" "bedOf" "[I", .fieldLink RX11 162 "ShellHeap$Known" "clash" "I", .fieldLink RX11 168 "ShellHeap$Known" "greatest" "[I", .methodLink RX11 150 yX4_layersOf, .instanceMethod yX4_layersOf, .selects RX4 yX4_layersOf yX4_layersOf, .methodLink RX11 154 yJ6_bitCount_0f7a4, .static yJ6_bitCount_0f7a4, .initialized RJ6, .methodLink RX11 159 yX4_rankOf, .instanceMethod yX4_rankOf, .selects RX4 yX4_rankOf yX4_rankOf, .fieldLink RX11 165 "ShellHeap$Known" "least" "[I"] ++ (wsX110 ++ (wsX40 ++ (u_s_X0_hasFirst ++ (u_s_X0_hasLayer ++ (u_s_X4_look ++ (u_s_X4_layersOf ++ (u_s_J6_bitCount_0f7a4 ++ (u_s_X4_rankOf ++ [])))))))))
set_option maxRecDepth 20000 in
theorem gw_s_X11_bed_s_X0_hasFirst_140 : GoodIn u_s_X11_bed (wsV RX11 140 RX0 yX0_hasFirst u_s_X0_hasFirst) := z_gV (z_gr _ [2, 3, 4, 5] rfl (by decide +kernel)) (fun w h => ⟨z_mc (z_mr (z_mr (z_mr (z_ml h)))), gd_s_X0_hasFirst w h⟩)
set_option maxRecDepth 20000 in
theorem gw_s_X11_bed_s_X0_hasLayer_115 : GoodIn u_s_X11_bed (wsV RX11 115 RX0 yX0_hasLayer u_s_X0_hasLayer) := z_gV (z_gr _ [6, 7, 8, 5] rfl (by decide +kernel)) (fun w h => ⟨z_mc (z_mr (z_mr (z_mr (z_mr (z_ml h))))), gd_s_X0_hasLayer w h⟩)
set_option maxRecDepth 20000 in
theorem gw_s_X11_bed_s_X4_look_143 : GoodIn u_s_X11_bed (wsV RX11 143 RX4 yX4_look u_s_X4_look) := z_gV (z_gr _ [10, 11, 12, 13] rfl (by decide +kernel)) (fun w h => ⟨z_mc (z_mr (z_mr (z_mr (z_mr (z_mr (z_ml h)))))), gd_s_X4_look w h⟩)
set_option maxRecDepth 20000 in
theorem gw_s_X11_bed_s_X4_layersOf_150 : GoodIn u_s_X11_bed (wsV RX11 150 RX4 yX4_layersOf u_s_X4_layersOf) := z_gV (z_gr _ [17, 18, 19, 13] rfl (by decide +kernel)) (fun w h => ⟨z_mc (z_mr (z_mr (z_mr (z_mr (z_mr (z_mr (z_ml h))))))), gd_s_X4_layersOf w h⟩)
set_option maxRecDepth 20000 in
theorem gw_s_X11_bed_s_J6_bitCount_0f7a4_154 : GoodIn u_s_X11_bed (va_wsS RX11 154 yJ6_bitCount_0f7a4 u_s_J6_bitCount_0f7a4) := z_gS (z_gr _ [20, 21, 22] rfl (by decide +kernel)) (fun w h => ⟨z_mc (z_mr (z_mr (z_mr (z_mr (z_mr (z_mr (z_mr (z_ml h)))))))), gd_s_J6_bitCount_0f7a4 w h⟩)
set_option maxRecDepth 20000 in
theorem gw_s_X11_bed_s_X4_rankOf_159 : GoodIn u_s_X11_bed (wsV RX11 159 RX4 yX4_rankOf u_s_X4_rankOf) := z_gV (z_gr _ [23, 24, 25, 13] rfl (by decide +kernel)) (fun w h => ⟨z_mc (z_mr (z_mr (z_mr (z_mr (z_mr (z_mr (z_mr (z_mr (z_ml h))))))))), gd_s_X4_rankOf w h⟩)
set_option maxHeartbeats 4000000 in
set_option maxRecDepth 100000 in
theorem s_X11_bed (l : Launch) (dC : Nat → ClassId) (dI : Nat → Nat → Nat) (sz : Nat) (h0 : Nat) (p1 : Int32) (p2 : Int32) (p3 : Int32) (h0_0 : Value) (hbk : Nat) (hkn : Nat) (h0_3 : Value) (h0_4 : Value) (h0_5 : Value) (h0_6 : Value) (h0_7 : Value) (h0_8 : Value) (h0_9 : Value) (kn : Int32) (kl : Int32) (hk9 : Nat) (hlt : Nat) (hrk : Nat) (hbd : Nat) (hle : Nat) (hgr : Nat) (kc : Int32) (hs : Nat) (ha : Nat) (hb9 : Nat) (hc9 : Nat) (bn : Int32) (bl : Int32) (chk9 : ClassId) (fhk9 : Nat → Int32) (chs : ClassId) (fhs : Nat → Int32) (cha : ClassId) (fha : Nat → Int32) (chb9 : ClassId) (fhb9 : Nat → Int32) (chc9 : ClassId) (fhc9 : Nat → Int32) (chbd : ClassId) (fhbd : Nat → Int32) (chlt : ClassId) (fhlt : Nat → Int32) (chrk : ClassId) (fhrk : Nat → Int32) (chle : ClassId) (fhle : Nat → Int32) (chgr : ClassId) (fhgr : Nat → Int32) (hB_kn : ((-1 : Int) ≤ (kn).toInt ∧ (kn).toInt ≤ (80 : Int))) (hB_kl : ((-1 : Int) ≤ (kl).toInt ∧ (kl).toInt ≤ (12 : Int))) (hB_kc : ((0 : Int) ≤ (kc).toInt ∧ (kc).toInt ≤ (2 : Int))) (hB_bl : ((0 : Int) ≤ (bl).toInt ∧ (bl).toInt ≤ (12 : Int))) (hB_bn : ((0 : Int) ≤ (bn).toInt ∧ (bn).toInt ≤ (80 : Int))) (hI_ha : ∀ j : Nat, ((0 : Int) ≤ (fha j).toInt ∧ (fha j).toInt ≤ (79 : Int))) (hI_hbd : ∀ j : Nat, ((0 : Int) ≤ (fhbd j).toInt ∧ (fhbd j).toInt ≤ (11 : Int))) (hR : ∀ j : Nat, z_rel (fhs j) (fha j) (fhb9 j)) : Met l yX11_bed u_s_X11_bed ({ frames := 4, cells := 0, slots := 0, locals := 87 }) (va_Pc [.ref h0, .int p1, .int p2, .int p3] (z_C (dC, dI) vwCl [(h0, .inr (11, [h0_0, .ref hbk, .ref hkn, h0_3, h0_4, h0_5, h0_6, h0_7, h0_8, h0_9])), (hkn, .inr (4, [.ref hbk, .int kn, .int kl, .ref hk9, .ref hlt, .ref hrk, .ref hbd, .ref hle, .ref hgr, .int kc])), (hbk, .inr (0, [.ref hs, .ref ha, .ref hb9, .ref hc9, .int bn, .int bl])), (hk9, .inl (chk9, 80, .inl fhk9)), (hs, .inl (chs, 80, .inl fhs)), (ha, .inl (cha, 80, .inl fha)), (hb9, .inl (chb9, 80, .inl fhb9)), (hc9, .inl (chc9, 80, .inl fhc9)), (hbd, .inl (chbd, 12, .inl fhbd)), (hlt, .inl (chlt, 12, .inl fhlt)), (hrk, .inl (chrk, 12, .inl fhrk)), (hle, .inl (chle, 12, .inl fhle)), (hgr, .inl (chgr, 12, .inl fhgr))] [(chk9, .boolean), (chs, .int), (cha, .int), (chb9, .int), (chc9, .int), (chbd, .int), (chlt, .int), (chrk, .int), (chle, .int), (chgr, .int)] sz)) (va_Qi (fun (r : Int32) (_ : Unit) => True) (fun (_ : Unit) (t : State) => ∃ (n_hkn_notesSeen : Int32), ∃ (n_hkn_layersSeen : Int32), ∃ (n_hkn_clash : Int32), ∃ (g_hk9 : Nat → Int32), ∃ (g_hbd : Nat → Int32), ∃ (g_hlt : Nat → Int32), ∃ (g_hrk : Nat → Int32), ∃ (g_hle : Nat → Int32), ∃ (g_hgr : Nat → Int32), ((-1 : Int) ≤ (n_hkn_notesSeen).toInt ∧ (n_hkn_notesSeen).toInt ≤ (80 : Int)) ∧ ((-1 : Int) ≤ (n_hkn_layersSeen).toInt ∧ (n_hkn_layersSeen).toInt ≤ (12 : Int)) ∧ ((0 : Int) ≤ (n_hkn_clash).toInt ∧ (n_hkn_clash).toInt ≤ (2 : Int)) ∧ (∀ j : Nat, ((0 : Int) ≤ (g_hbd j).toInt ∧ (g_hbd j).toInt ≤ (11 : Int))) ∧ va_P (dC, dI) vwCl [(h0, .inr (11, [h0_0, .ref hbk, .ref hkn, h0_3, h0_4, h0_5, h0_6, h0_7, h0_8, h0_9])), (hkn, .inr (4, [.ref hbk, .int n_hkn_notesSeen, .int n_hkn_layersSeen, .ref hk9, .ref hlt, .ref hrk, .ref hbd, .ref hle, .ref hgr, .int n_hkn_clash])), (hbk, .inr (0, [.ref hs, .ref ha, .ref hb9, .ref hc9, .int bn, .int bl])), (hk9, .inl (chk9, 80, .inl g_hk9)), (hs, .inl (chs, 80, .inl fhs)), (ha, .inl (cha, 80, .inl fha)), (hb9, .inl (chb9, 80, .inl fhb9)), (hc9, .inl (chc9, 80, .inl fhc9)), (hbd, .inl (chbd, 12, .inl g_hbd)), (hlt, .inl (chlt, 12, .inl g_hlt)), (hrk, .inl (chrk, 12, .inl g_hrk)), (hle, .inl (chle, 12, .inl g_hle)), (hgr, .inl (chgr, 12, .inl g_hgr))] t.heap ∧ va_K (dC, dI) vwCl [] t ∧ va_D (va_A [(h0, .inr (11, [h0_0, .ref hbk, .ref hkn, h0_3, h0_4, h0_5, h0_6, h0_7, h0_8, h0_9])), (hkn, .inr (4, [.ref hbk, .int kn, .int kl, .ref hk9, .ref hlt, .ref hrk, .ref hbd, .ref hle, .ref hgr, .int kc])), (hbk, .inr (0, [.ref hs, .ref ha, .ref hb9, .ref hc9, .int bn, .int bl])), (hk9, .inl (chk9, 80, .inl fhk9)), (hs, .inl (chs, 80, .inl fhs)), (ha, .inl (cha, 80, .inl fha)), (hb9, .inl (chb9, 80, .inl fhb9)), (hc9, .inl (chc9, 80, .inl fhc9)), (hbd, .inl (chbd, 12, .inl fhbd)), (hlt, .inl (chlt, 12, .inl fhlt)), (hrk, .inl (chrk, 12, .inl fhrk)), (hle, .inl (chle, 12, .inl fhle)), (hgr, .inl (chgr, 12, .inl fhgr))] sz) [(h0, .inr (11, [h0_0, .ref hbk, .ref hkn, h0_3, h0_4, h0_5, h0_6, h0_7, h0_8, h0_9])), (hkn, .inr (4, [.ref hbk, .int n_hkn_notesSeen, .int n_hkn_layersSeen, .ref hk9, .ref hlt, .ref hrk, .ref hbd, .ref hle, .ref hgr, .int n_hkn_clash])), (hbk, .inr (0, [.ref hs, .ref ha, .ref hb9, .ref hc9, .int bn, .int bl])), (hk9, .inl (chk9, 80, .inl g_hk9)), (hs, .inl (chs, 80, .inl fhs)), (ha, .inl (cha, 80, .inl fha)), (hb9, .inl (chb9, 80, .inl fhb9)), (hc9, .inl (chc9, 80, .inl fhc9)), (hbd, .inl (chbd, 12, .inl g_hbd)), (hlt, .inl (chlt, 12, .inl g_hlt)), (hrk, .inl (chrk, 12, .inl g_hrk)), (hle, .inl (chle, 12, .inl g_hle)), (hgr, .inl (chgr, 12, .inl g_hgr))]) (va_A [(h0, .inr (11, [h0_0, .ref hbk, .ref hkn, h0_3, h0_4, h0_5, h0_6, h0_7, h0_8, h0_9])), (hkn, .inr (4, [.ref hbk, .int kn, .int kl, .ref hk9, .ref hlt, .ref hrk, .ref hbd, .ref hle, .ref hgr, .int kc])), (hbk, .inr (0, [.ref hs, .ref ha, .ref hb9, .ref hc9, .int bn, .int bl])), (hk9, .inl (chk9, 80, .inl fhk9)), (hs, .inl (chs, 80, .inl fhs)), (ha, .inl (cha, 80, .inl fha)), (hb9, .inl (chb9, 80, .inl fhb9)), (hc9, .inl (chc9, 80, .inl fhc9)), (hbd, .inl (chbd, 12, .inl fhbd)), (hlt, .inl (chlt, 12, .inl fhlt)), (hrk, .inl (chrk, 12, .inl fhrk)), (hle, .inl (chle, 12, .inl fhle)), (hgr, .inl (chgr, 12, .inl fhgr))] sz)) 0 0 (va_A [(h0, .inr (11, [h0_0, .ref hbk, .ref hkn, h0_3, h0_4, h0_5, h0_6, h0_7, h0_8, h0_9])), (hkn, .inr (4, [.ref hbk, .int kn, .int kl, .ref hk9, .ref hlt, .ref hrk, .ref hbd, .ref hle, .ref hgr, .int kc])), (hbk, .inr (0, [.ref hs, .ref ha, .ref hb9, .ref hc9, .int bn, .int bl])), (hk9, .inl (chk9, 80, .inl fhk9)), (hs, .inl (chs, 80, .inl fhs)), (ha, .inl (cha, 80, .inl fha)), (hb9, .inl (chb9, 80, .inl fhb9)), (hc9, .inl (chc9, 80, .inl fhc9)), (hbd, .inl (chbd, 12, .inl fhbd)), (hlt, .inl (chlt, 12, .inl fhlt)), (hrk, .inl (chrk, 12, .inl fhrk)), (hle, .inl (chle, 12, .inl fhle)), (hgr, .inl (chgr, 12, .inl fhgr))] sz) := by
  refine Met.ofW (cc := cX11_bed) (maxL := 5) (ret := (some .int)) (by decide) rfl ?_
  intro p e s m args below meth c s₁ B hml hv
  obtain ⟨rfl, hsz, hP, hK, hD0⟩ := hv
  have hx := B.exec
  have hb := B.bytes
  have hr := B.returns
  have hts := atoms_spec (ws := u_s_X11_bed) B.pre
  have hown : s.vm.findClass RX11 = some m.cls := findClass_of_methodNamed B.named
  have hlocks := B.notSynchronized
  subst hsz
  have hD := hD0.self (sz := s.heap.size)
  generalize hAe : va_A [(h0, .inr (11, [h0_0, .ref hbk, .ref hkn, h0_3, h0_4, h0_5, h0_6, h0_7, h0_8, h0_9])), (hkn, .inr (4, [.ref hbk, .int kn, .int kl, .ref hk9, .ref hlt, .ref hrk, .ref hbd, .ref hle, .ref hgr, .int kc])), (hbk, .inr (0, [.ref hs, .ref ha, .ref hb9, .ref hc9, .int bn, .int bl])), (hk9, .inl (chk9, 80, .inl fhk9)), (hs, .inl (chs, 80, .inl fhs)), (ha, .inl (cha, 80, .inl fha)), (hb9, .inl (chb9, 80, .inl fhb9)), (hc9, .inl (chc9, 80, .inl fhc9)), (hbd, .inl (chbd, 12, .inl fhbd)), (hlt, .inl (chlt, 12, .inl fhlt)), (hrk, .inl (chrk, 12, .inl fhrk)), (hle, .inl (chle, 12, .inl fhle)), (hgr, .inl (chgr, 12, .inl fhgr))] s.heap.size = A at hD ⊢
  have hA : ∀ q : Nat, s.heap.size ≤ q → A q := fun q h => by rw [← hAe]; exact Or.inr h
  have hS : va_S A s.heap s.heap [] := va_S.rf
  have hP : va_P (dC, dI) vwCl [(h0, .inr (11, [h0_0, .ref hbk, .ref hkn, h0_3, h0_4, h0_5, h0_6, h0_7, h0_8, h0_9])), (hkn, .inr (4, [.ref hbk, .int kn, .int kl, .ref hk9, .ref hlt, .ref hrk, .ref hbd, .ref hle, .ref hgr, .int kc])), (hbk, .inr (0, [.ref hs, .ref ha, .ref hb9, .ref hc9, .int bn, .int bl])), (hk9, .inl (chk9, 80, .inl fhk9)), (hs, .inl (chs, 80, .inl fhs)), (ha, .inl (cha, 80, .inl fha)), (hb9, .inl (chb9, 80, .inl fhb9)), (hc9, .inl (chc9, 80, .inl fhc9)), (hbd, .inl (chbd, 12, .inl fhbd)), (hlt, .inl (chlt, 12, .inl fhlt)), (hrk, .inl (chrk, 12, .inl fhrk)), (hle, .inl (chle, 12, .inl fhle)), (hgr, .inl (chgr, 12, .inl fhgr))] s.heap := hP
  have w__fieldLink_RX11_19_ShellHeap_book_LShellHeap_Book_ := hts (.fieldLink RX11 19 "ShellHeap" "book" "LShellHeap$Book;") (z_mc (z_ml z_m0))
  have hiX11 := show ∀ w ∈ u_ws RX11 TX11 10, w ∈ u_s_X11_bed from fun w h => z_mc (z_mr (z_ml h))
  have w__fieldLink_RX11_28_ShellHeap_known_LShellHeap_Known_ := hts (.fieldLink RX11 28 "ShellHeap" "known" "LShellHeap$Known;") (z_mc (z_ml z_m8))
  have w__fieldLink_RX11_146_ShellHeap_Known_bedOf_I_ := hts (.fieldLink RX11 146 "ShellHeap$Known" "bedOf" "[I") (z_mc (z_ml z_m13))
  have hiX4 := show ∀ w ∈ u_ws RX4 TX4 10, w ∈ u_s_X11_bed from fun w h => z_mc (z_mr (z_mr (z_ml h)))
  have w__fieldLink_RX11_162_ShellHeap_Known_clash_I_ := hts (.fieldLink RX11 162 "ShellHeap$Known" "clash" "I") (z_mc (z_ml z_m14))
  have w__fieldLink_RX11_168_ShellHeap_Known_greatest_I_ := hts (.fieldLink RX11 168 "ShellHeap$Known" "greatest" "[I") (z_mc (z_ml z_m15))
  have w__fieldLink_RX11_165_ShellHeap_Known_least_I_ := hts (.fieldLink RX11 165 "ShellHeap$Known" "least" "[I") (z_mc (z_ml z_m25))
  have krr_p1 := z_rng p1
  have krr_p2 := z_rng p2
  have krr_p3 := z_rng p3
  have hl := lv_entry ([.ref h0, .int p1, .int p2, .int p3]) (n := 5) (Nat.le_of_ble_eq_true rfl)
  rw [lg_entry_eq]
  generalize (lg_sl ([.ref h0, .int p1, .int p2, .int p3]) ++ List.replicate (5 - (lg_sl ([.ref h0, .int p1, .int p2, .int p3])).length) Slot.unset).toArray = ls at hl ⊢
  have hl : lv_has ls 5 [(0, .ref h0), (1, .int p1), (2, .int p2), (3, .int p3)] := hl
  refine lv_aload_n hx hb dX11_bed_0 rfl (lv_at hl 0 rfl) ?_
  refine va_get (D := (dC, dI)) (ci := 11) (v := .ref hbk) (C := RX11) (T := TX11) (N := 10) hx hb hts hiX11 hown hK hP 0 rfl rfl 1 (by decide) w__fieldLink_RX11_19_ShellHeap_book_LShellHeap_Book_ (fun _ h9 => h9) rfl dX11_bed_1 ?_
  refine lv_iload_n hx hb dX11_bed_4 rfl (lv_at hl 1 rfl) ?_
  obtain ⟨hPc, hDc⟩ := z_sub2 (ws' := [(hbk, .inr (0, [.ref hs, .ref ha, .ref hb9, .ref hc9, .int bn, .int bl]))]) hP hD [2] (by decide) rfl
  have hKc := hK.sub (tys' := []) [] rfl
  have hFc := va_free (ws := []) (wc := []) (z_D0 _) hS hA [] rfl
  refine va_calli (va_runV (As := [.int p1]) (rest := []) ⟨hx, hb, hml, hown, hts⟩ (s_X0_hasFirst l dC dI s.heap.size hbk p1 (.ref hs) (.ref ha) (.ref hb9) (.ref hc9) bn (.int bl) hB_bn) (cwV 1 hts gw_s_X11_bed_s_X0_hasFirst_140 rfl rfl rfl (by decide +kernel) ⟨Nat.le_of_ble_eq_true rfl, Nat.le_of_ble_eq_true rfl⟩) ⟨z_blind, va_recv hKc hPc (ci := 0) (q0 := 0) rfl rfl, z_pre hPc hKc hDc⟩ rfl rfl hl.1 rfl (lv_room (Nat.le_of_ble_eq_true rfl)) dX11_bed_5 ⟨Nat.le_of_ble_eq_true rfl, Nat.le_of_ble_eq_true rfl⟩) hS (fun q _ h => hFc q h) hFc (fun r_2 u t H_1 locs ht hvm hw_3 hB hz1 hk1 hS => ?_)
  replace hP := z_pure hP hk1
  clear hPc hDc hKc
  rcases hw_3 with ⟨rfl, hw_3⟩ | ⟨rfl, hw_3⟩
  · have hw_3 : (0 ≤ p1.toInt ∧ p1.toInt ≤ bn.toInt) := hw_3
    refine lv_if_eq (tgt := 31) hx hb dX11_bed_8 (by decide) (fun c_4 => absurd c_4 (by decide)) (fun _ => ?_)
    refine lv_aload_n hx hb dX11_bed_11 rfl (lv_at hl 0 rfl) ?_
    refine va_get (D := (dC, dI)) (ci := 11) (v := .ref hbk) (C := RX11) (T := TX11) (N := 10) hx hb hts hiX11 hown hK hP 0 rfl rfl 1 (by decide) w__fieldLink_RX11_19_ShellHeap_book_LShellHeap_Book_ (fun _ h9 => h9) rfl dX11_bed_12 ?_
    refine lv_iload_n hx hb dX11_bed_15 rfl (lv_at hl 2 rfl) ?_
    obtain ⟨hPc, hDc⟩ := z_sub2 (ws' := [(hbk, .inr (0, [.ref hs, .ref ha, .ref hb9, .ref hc9, .int bn, .int bl]))]) hP hD [2] (by decide) rfl
    have hKc := hK.sub (tys' := []) [] rfl
    have hFc := va_free (ws := []) (wc := []) (z_D0 _) hS hA [] rfl
    refine va_calli (va_runV (As := [.int p2]) (rest := []) ⟨hx, hb, hml, hown, hts⟩ (s_X0_hasLayer l dC dI H_1.size hbk p2 (.ref hs) (.ref ha) (.ref hb9) (.ref hc9) (.int bn) bl hB_bl) (cwV 1 hts gw_s_X11_bed_s_X0_hasLayer_115 rfl rfl rfl (by decide +kernel) ⟨Nat.le_of_ble_eq_true rfl, Nat.le_of_ble_eq_true rfl⟩) ⟨z_blind, va_recv hKc hPc (ci := 0) (q0 := 0) rfl rfl, z_pre hPc hKc hDc⟩ rfl rfl hl.1 rfl (lv_room (Nat.le_of_ble_eq_true rfl)) dX11_bed_16 ⟨Nat.le_of_ble_eq_true rfl, Nat.le_of_ble_eq_true rfl⟩) hS (fun q _ h => hFc q h) hFc (fun r_6 u t H_5 locs ht hvm hw_7 hB hz1 hk1 hS => ?_)
    replace hP := z_pure hP hk1
    clear hPc hDc hKc
    rcases hw_7 with ⟨rfl, hw_7⟩ | ⟨rfl, hw_7⟩
    · have hw_7 : (0 ≤ p2.toInt ∧ p2.toInt < bl.toInt) := hw_7
      refine lv_if_eq (tgt := 31) hx hb dX11_bed_19 (by decide) (fun c_8 => absurd c_8 (by decide)) (fun _ => ?_)
      refine lv_iload_n hx hb dX11_bed_22 rfl (lv_at hl 3 rfl) ?_
      refine lv_if_lt (tgt := 31) hx hb dX11_bed_23 (by decide) (fun c_9 => ?_) (fun c_9 => ?_)
      · have k_10 : (p3).toInt < (0 : Int) := z_lt c_9
        refine lv_bipush (v := (-2)) hx hb dX11_bed_31 (by decide) ?_
        have hP9 := hP
        have hD9 := hD
        have hK9 := hK.sub (tys' := []) [] rfl
        refine W.widen (k := 0) (n := 0) (Nat.le_of_ble_eq_true rfl) (Nat.le_of_ble_eq_true rfl) ?_
        exact W.iret (v := (-2)) hx hb hr (fun t ht hW => ⟨⟨(-2), (), rfl, trivial, ⟨kn, kl, kc, fhk9, fhbd, fhlt, fhrk, fhle, fhgr, hB_kn, hB_kl, hB_kc, hI_hbd, by rw [ht]; exact hP9, va_K.moved hW.alike hK9, hD9⟩⟩, hS.F ht⟩) hS.2.2 dX11_bed_33
      · have k_11 : (p3).toInt ≥ (0 : Int) := z_nlt c_9
        refine lv_iload_n hx hb dX11_bed_26 rfl (lv_at hl 3 rfl) ?_
        refine lv_iconst (v := 4) hx hb dX11_bed_27 (by decide) ?_
        refine lv_icmp_le (tgt := 34) hx hb dX11_bed_28 (by decide) (fun c_12 => ?_) (fun c_12 => ?_)
        · have k_13 : (p3).toInt ≤ (4 : Int) := z_le c_12
          refine lv_aload_n hx hb dX11_bed_34 rfl (lv_at hl 0 rfl) ?_
          refine va_get (D := (dC, dI)) (ci := 11) (v := .ref hkn) (C := RX11) (T := TX11) (N := 10) hx hb hts hiX11 hown hK hP 0 rfl rfl 2 (by decide) w__fieldLink_RX11_28_ShellHeap_known_LShellHeap_Known_ (fun _ h9 => h9) rfl dX11_bed_35 ?_
          refine lv_iload_n hx hb dX11_bed_38 rfl (lv_at hl 1 rfl) ?_
          obtain ⟨hPc, hDc, hFc⟩ := z_sub3 (ws' := [(hkn, .inr (4, [.ref hbk, .int kn, .int kl, .ref hk9, .ref hlt, .ref hrk, .ref hbd, .ref hle, .ref hgr, .int kc])), (hbk, .inr (0, [.ref hs, .ref ha, .ref hb9, .ref hc9, .int bn, .int bl])), (hk9, .inl (chk9, 80, .inl fhk9)), (hs, .inl (chs, 80, .inl fhs)), (ha, .inl (cha, 80, .inl fha)), (hb9, .inl (chb9, 80, .inl fhb9)), (hc9, .inl (chc9, 80, .inl fhc9)), (hbd, .inl (chbd, 12, .inl fhbd)), (hlt, .inl (chlt, 12, .inl fhlt)), (hrk, .inl (chrk, 12, .inl fhrk)), (hle, .inl (chle, 12, .inl fhle)), (hgr, .inl (chgr, 12, .inl fhgr))]) hP hD hS hA [1, 2, 3, 4, 5, 6, 7, 8, 9, 10, 11, 12] (by decide) rfl
          have hKc := hK
          refine va_callv (va_runV (As := [.int p1]) (rest := []) ⟨hx, hb, hml, hown, hts⟩ (s_X4_look l dC dI H_5.size hkn p1 hbk kn kl hk9 hlt hrk hbd hle hgr kc hs ha hb9 hc9 (.int bn) bl chk9 fhk9 chs fhs cha fha chb9 fhb9 chc9 fhc9 chbd fhbd chlt fhlt chrk fhrk chle fhle chgr fhgr hB_kn hB_kl hB_kc hB_bl (by first | omega | decide) hI_ha hI_hbd hR) (cwV 1 hts gw_s_X11_bed_s_X4_look_143 rfl rfl rfl (by decide +kernel) ⟨Nat.le_of_ble_eq_true rfl, Nat.le_of_ble_eq_true rfl⟩) ⟨z_blind, va_recv hKc hPc (ci := 4) (q0 := 0) rfl rfl, z_pre hPc hKc hDc⟩ rfl rfl hl.1 rfl (lv_room (Nat.le_of_ble_eq_true rfl)) dX11_bed_39 ⟨Nat.le_of_ble_eq_true rfl, Nat.le_of_ble_eq_true rfl⟩) hS (fun q _ h => hFc q h) hFc (fun u t H_14 locs ht hvm hw_16 hB hz1 hk1 hS => ?_)
          obtain ⟨n_h0_notesSeen_17, n_h0_layersSeen_18, n_h0_clash_19, g_hk9_20, g_hbd_21, g_hlt_22, g_hrk_23, g_hle_24, g_hgr_25, hp_26, hp_27, hp_28, hp_29, hP1, hK1, hD1⟩ := hB
          rw [ht] at hP1
          have hK1 := va_K.moved hvm.symm hK1
          obtain ⟨hP, hD⟩ := z_ap_1 (va_join (wr := [(h0, .inr (11, [h0_0, .ref hbk, .ref hkn, h0_3, h0_4, h0_5, h0_6, h0_7, h0_8, h0_9]))]) hP hD [1, 2, 3, 4, 5, 6, 7, 8, 9, 10, 11, 12] [0] rfl rfl (by decide) (by decide) hk1 hFc hP1 hD1)
          clear hPc hDc hKc
          refine lv_aload_n hx hb dX11_bed_42 rfl (lv_at hl 0 rfl) ?_
          refine va_get (D := (dC, dI)) (ci := 11) (v := .ref hkn) (C := RX11) (T := TX11) (N := 10) hx hb hts hiX11 hown hK hP 0 rfl rfl 2 (by decide) w__fieldLink_RX11_28_ShellHeap_known_LShellHeap_Known_ (fun _ h9 => h9) rfl dX11_bed_43 ?_
          refine va_get (D := (dC, dI)) (ci := 4) (v := .ref hbd) (C := RX4) (T := TX4) (N := 10) hx hb hts hiX4 hown hK hP 1 rfl rfl 6 (by decide) w__fieldLink_RX11_146_ShellHeap_Known_bedOf_I_ (fun _ h9 => h9) rfl dX11_bed_46 ?_
          refine lv_iload_n hx hb dX11_bed_49 rfl (lv_at hl 2 rfl) ?_
          refine va_iald hx hb hK hP 8 5 rfl rfl (z_vpin (by omega) (by omega)) dX11_bed_50 ?_
          refine lv_topi (fun z_30 ez_30 => ?_)
          have kz_30 : ((0 : Int) ≤ (z_30).toInt ∧ (z_30).toInt ≤ (11 : Int)) := by rw [ez_30]; exact hp_29 _
          refine lv_istore (lv' := [(4, .int z_30), (0, .ref h0), (1, .int p1), (2, .int p2), (3, .int p3)]) hx hb dX11_bed_51 hl (by decide) rfl (fun ls hl => ?_)
          refine lv_iload_n hx hb dX11_bed_53 rfl (lv_at hl 4 rfl) ?_
          rcases z_sw p3 (0) (3) with hsw | hsw
          · refine lv_tableOut (tgt := 135) hx hb dX11_bed_54 hsw (by decide) ?_
            refine lv_aload_n hx hb dX11_bed_135 rfl (lv_at hl 1 rfl) ?_
            refine va_get (D := (dC, dI)) (ci := 11) (v := .ref hkn) (C := RX11) (T := TX11) (N := 10) hx hb hts hiX11 hown hK hP 0 rfl rfl 2 (by decide) w__fieldLink_RX11_28_ShellHeap_known_LShellHeap_Known_ (fun _ h9 => h9) rfl dX11_bed_136 ?_
            refine va_get (D := (dC, dI)) (ci := 4) (v := .int n_h0_clash_19) (C := RX4) (T := TX4) (N := 10) hx hb hts hiX4 hown hK hP 1 rfl rfl 9 (by decide) w__fieldLink_RX11_162_ShellHeap_Known_clash_I_ (fun _ h9 => h9) rfl dX11_bed_139 ?_
            refine lv_if_ne (tgt := 158) hx hb dX11_bed_142 (by decide) (fun c_31 => ?_) (fun c_31 => ?_)
            · have k_32 : (n_h0_clash_19).toInt ≠ (0 : Int) := z_ne c_31
              refine lv_iconst (v := (-1)) hx hb dX11_bed_158 (by decide) ?_
              have hP9 := hP
              have hD9 := hD
              have hK9 := hK.sub (tys' := []) [] rfl
              refine W.widen (k := 0) (n := 0) (Nat.le_of_ble_eq_true rfl) (Nat.le_of_ble_eq_true rfl) ?_
              exact W.iret (v := (-1)) hx hb hr (fun t ht hW => ⟨⟨(-1), (), rfl, trivial, ⟨n_h0_notesSeen_17, n_h0_layersSeen_18, n_h0_clash_19, g_hk9_20, g_hbd_21, g_hlt_22, g_hrk_23, g_hle_24, g_hgr_25, hp_26, hp_27, hp_28, hp_29, by rw [ht]; exact hP9, va_K.moved hW.alike hK9, hD9⟩⟩, hS.F ht⟩) hS.2.2 dX11_bed_159
            · have k_33 : (n_h0_clash_19).toInt = (0 : Int) := z_eq c_31
              obtain rfl : n_h0_clash_19 = 0 := z_eq' (show (n_h0_clash_19).toInt = (0 : Int) by omega)
              refine lv_aload_n hx hb dX11_bed_145 rfl (lv_at hl 1 rfl) ?_
              refine va_get (D := (dC, dI)) (ci := 11) (v := .ref hkn) (C := RX11) (T := TX11) (N := 10) hx hb hts hiX11 hown hK hP 0 rfl rfl 2 (by decide) w__fieldLink_RX11_28_ShellHeap_known_LShellHeap_Known_ (fun _ h9 => h9) rfl dX11_bed_146 ?_
              refine va_get (D := (dC, dI)) (ci := 4) (v := .ref hgr) (C := RX4) (T := TX4) (N := 10) hx hb hts hiX4 hown hK hP 1 rfl rfl 8 (by decide) w__fieldLink_RX11_168_ShellHeap_Known_greatest_I_ (fun _ h9 => h9) rfl dX11_bed_149 ?_
              refine lv_iload hx hb dX11_bed_152 (lv_at hl 0 rfl) ?_
              refine va_iald hx hb hK hP 12 9 rfl rfl (z_vpinB kz_30 (by decide) (by decide)) dX11_bed_154 ?_
              refine lv_topi (fun z_35 ez_35 => ?_)
              refine lv_goto (tgt := 159) hx hb dX11_bed_155 (by decide) ?_
              have hP9 := hP
              have hD9 := hD
              have hK9 := hK.sub (tys' := []) [] rfl
              refine W.widen (k := 0) (n := 0) (Nat.le_of_ble_eq_true rfl) (Nat.le_of_ble_eq_true rfl) ?_
              exact W.iret (v := z_35) hx hb hr (fun t ht hW => ⟨⟨z_35, (), rfl, trivial, ⟨n_h0_notesSeen_17, n_h0_layersSeen_18, 0, g_hk9_20, g_hbd_21, g_hlt_22, g_hrk_23, g_hle_24, g_hgr_25, hp_26, hp_27, (by decide), hp_29, by rw [ht]; exact hP9, va_K.moved hW.alike hK9, hD9⟩⟩, hS.F ht⟩) hS.2.2 dX11_bed_159
          · rcases (show (p3).toInt = (0 : Int) ∨ ¬ (p3).toInt = (0 : Int) from Classical.em _) with he | he
            · obtain rfl : p3 = 0 := z_eq' he
              refine lv_tableIn (tgt := 84) hx hb dX11_bed_54 (by decide) (by decide) (off := 30) rfl (by decide) ?_
              refine lv_iload hx hb dX11_bed_84 (lv_at hl 0 rfl) ?_
              have hP9 := hP
              have hD9 := hD
              have hK9 := hK.sub (tys' := []) [] rfl
              refine W.widen (k := 0) (n := 0) (Nat.le_of_ble_eq_true rfl) (Nat.le_of_ble_eq_true rfl) ?_
              exact W.iret (v := z_30) hx hb hr (fun t ht hW => ⟨⟨z_30, (), rfl, trivial, ⟨n_h0_notesSeen_17, n_h0_layersSeen_18, n_h0_clash_19, g_hk9_20, g_hbd_21, g_hlt_22, g_hrk_23, g_hle_24, g_hgr_25, hp_26, hp_27, hp_28, hp_29, by rw [ht]; exact hP9, va_K.moved hW.alike hK9, hD9⟩⟩, hS.F ht⟩) hS.2.2 dX11_bed_86
            · rcases (show (p3).toInt = (1 : Int) ∨ ¬ (p3).toInt = (1 : Int) from Classical.em _) with he | he
              · obtain rfl : p3 = 1 := z_eq' he
                refine lv_tableIn (tgt := 87) hx hb dX11_bed_54 (by decide) (by decide) (off := 33) rfl (by decide) ?_
                refine lv_aload_n hx hb dX11_bed_87 rfl (lv_at hl 1 rfl) ?_
                refine va_get (D := (dC, dI)) (ci := 11) (v := .ref hkn) (C := RX11) (T := TX11) (N := 10) hx hb hts hiX11 hown hK hP 0 rfl rfl 2 (by decide) w__fieldLink_RX11_28_ShellHeap_known_LShellHeap_Known_ (fun _ h9 => h9) rfl dX11_bed_88 ?_
                refine lv_iload hx hb dX11_bed_91 (lv_at hl 0 rfl) ?_
                obtain ⟨hPc, hDc⟩ := z_sub2 (ws' := [(hkn, .inr (4, [.ref hbk, .int n_h0_notesSeen_17, .int n_h0_layersSeen_18, .ref hk9, .ref hlt, .ref hrk, .ref hbd, .ref hle, .ref hgr, .int n_h0_clash_19])), (hbd, .inl (chbd, 12, .inl g_hbd_21))]) hP hD [1, 8] (by decide) rfl
                have hKc := hK.sub (tys' := [(chbd, .int)]) [5] rfl
                have hFc := va_free (ws := []) (wc := []) (z_D0 _) hS hA [] rfl
                refine va_calli (va_runV (As := [.int z_30]) (rest := []) ⟨hx, hb, hml, hown, hts⟩ (s_X4_layersOf l dC dI H_14.size hkn z_30 (.ref hbk) (.int n_h0_notesSeen_17) n_h0_layersSeen_18 (.ref hk9) (.ref hlt) (.ref hrk) hbd (.ref hle) (.ref hgr) (.int n_h0_clash_19) chbd g_hbd_21 hp_27 hp_29) (cwV 1 hts gw_s_X11_bed_s_X4_layersOf_150 rfl rfl rfl (by decide +kernel) ⟨Nat.le_of_ble_eq_true rfl, Nat.le_of_ble_eq_true rfl⟩) ⟨z_blind, va_recv hKc hPc (ci := 4) (q0 := 0) rfl rfl, z_pre hPc hKc hDc⟩ rfl rfl hl.1 rfl (lv_room (Nat.le_of_ble_eq_true rfl)) dX11_bed_93 ⟨Nat.le_of_ble_eq_true rfl, Nat.le_of_ble_eq_true rfl⟩) hS (fun q _ h => hFc q h) hFc (fun r_37 u t H_36 locs ht hvm hw_38 hB hz1 hk1 hS => ?_)
                replace hP := z_pure hP hk1
                clear hPc hDc hKc
                obtain ⟨hPc, hDc⟩ := z_sub2 (ws' := []) hP hD [] (by decide) rfl
                have hKc := hK.sub (tys' := []) [] rfl
                have hFc := va_free (ws := []) (wc := []) (z_D0 _) hS hA [] rfl
                refine va_calli (va_runS (As := [.int r_37]) (rest := []) ⟨hx, hb, hml, hown, hts⟩ (s_J6_bitCount_0f7a4 l dC dI H_36.size r_37) (va_cwS 1 hts gw_s_X11_bed_s_J6_bitCount_0f7a4_154 rfl rfl rfl (by decide +kernel) ⟨Nat.le_of_ble_eq_true rfl, Nat.le_of_ble_eq_true rfl⟩) ⟨z_blind, z_pre hPc hKc hDc⟩ rfl rfl hl.1 rfl (lv_room (Nat.le_of_ble_eq_true rfl)) dX11_bed_96 ⟨Nat.le_of_ble_eq_true rfl, Nat.le_of_ble_eq_true rfl⟩) hS (fun q _ h => hFc q h) hFc (fun r_40 u t H_39 locs ht hvm hw_41 hB hz1 hk1 hS => ?_)
                replace hP := z_pure hP hk1
                clear hPc hDc hKc
                have hP9 := hP
                have hD9 := hD
                have hK9 := hK.sub (tys' := []) [] rfl
                refine W.widen (k := 0) (n := 0) (Nat.le_of_ble_eq_true rfl) (Nat.le_of_ble_eq_true rfl) ?_
                exact W.iret (v := r_40) hx hb hr (fun t ht hW => ⟨⟨r_40, (), rfl, trivial, ⟨n_h0_notesSeen_17, n_h0_layersSeen_18, n_h0_clash_19, g_hk9_20, g_hbd_21, g_hlt_22, g_hrk_23, g_hle_24, g_hgr_25, hp_26, hp_27, hp_28, hp_29, by rw [ht]; exact hP9, va_K.moved hW.alike hK9, hD9⟩⟩, hS.F ht⟩) hS.2.2 dX11_bed_99
              · rcases (show (p3).toInt = (2 : Int) ∨ ¬ (p3).toInt = (2 : Int) from Classical.em _) with he | he
                · obtain rfl : p3 = 2 := z_eq' he
                  refine lv_tableIn (tgt := 100) hx hb dX11_bed_54 (by decide) (by decide) (off := 46) rfl (by decide) ?_
                  refine lv_aload_n hx hb dX11_bed_100 rfl (lv_at hl 1 rfl) ?_
                  refine va_get (D := (dC, dI)) (ci := 11) (v := .ref hkn) (C := RX11) (T := TX11) (N := 10) hx hb hts hiX11 hown hK hP 0 rfl rfl 2 (by decide) w__fieldLink_RX11_28_ShellHeap_known_LShellHeap_Known_ (fun _ h9 => h9) rfl dX11_bed_101 ?_
                  refine lv_iload hx hb dX11_bed_104 (lv_at hl 0 rfl) ?_
                  obtain ⟨hPc, hDc⟩ := z_sub2 (ws' := [(hkn, .inr (4, [.ref hbk, .int n_h0_notesSeen_17, .int n_h0_layersSeen_18, .ref hk9, .ref hlt, .ref hrk, .ref hbd, .ref hle, .ref hgr, .int n_h0_clash_19])), (hrk, .inl (chrk, 12, .inl g_hrk_23))]) hP hD [1, 10] (by decide) rfl
                  have hKc := hK.sub (tys' := [(chrk, .int)]) [7] rfl
                  have hFc := va_free (ws := []) (wc := []) (z_D0 _) hS hA [] rfl
                  refine va_calli (va_runV (As := [.int z_30]) (rest := []) ⟨hx, hb, hml, hown, hts⟩ (s_X4_rankOf l dC dI H_14.size hkn z_30 (.ref hbk) (.int n_h0_notesSeen_17) (.int n_h0_layersSeen_18) (.ref hk9) (.ref hlt) hrk (.ref hbd) (.ref hle) (.ref hgr) n_h0_clash_19 chrk g_hrk_23 kz_30 hp_28) (cwV 1 hts gw_s_X11_bed_s_X4_rankOf_159 rfl rfl rfl (by decide +kernel) ⟨Nat.le_of_ble_eq_true rfl, Nat.le_of_ble_eq_true rfl⟩) ⟨z_blind, va_recv hKc hPc (ci := 4) (q0 := 0) rfl rfl, z_pre hPc hKc hDc⟩ rfl rfl hl.1 rfl (lv_room (Nat.le_of_ble_eq_true rfl)) dX11_bed_106 ⟨Nat.le_of_ble_eq_true rfl, Nat.le_of_ble_eq_true rfl⟩) hS (fun q _ h => hFc q h) hFc (fun r_43 u t H_42 locs ht hvm hw_44 hB hz1 hk1 hS => ?_)
                  replace hP := z_pure hP hk1
                  clear hPc hDc hKc
                  have hP9 := hP
                  have hD9 := hD
                  have hK9 := hK.sub (tys' := []) [] rfl
                  refine W.widen (k := 0) (n := 0) (Nat.le_of_ble_eq_true rfl) (Nat.le_of_ble_eq_true rfl) ?_
                  exact W.iret (v := r_43) hx hb hr (fun t ht hW => ⟨⟨r_43, (), rfl, trivial, ⟨n_h0_notesSeen_17, n_h0_layersSeen_18, n_h0_clash_19, g_hk9_20, g_hbd_21, g_hlt_22, g_hrk_23, g_hle_24, g_hgr_25, hp_26, hp_27, hp_28, hp_29, by rw [ht]; exact hP9, va_K.moved hW.alike hK9, hD9⟩⟩, hS.F ht⟩) hS.2.2 dX11_bed_109
                · rcases (show (p3).toInt = (3 : Int) ∨ ¬ (p3).toInt = (3 : Int) from Classical.em _) with he | he
                  · obtain rfl : p3 = 3 := z_eq' he
                    refine lv_tableIn (tgt := 110) hx hb dX11_bed_54 (by decide) (by decide) (off := 56) rfl (by decide) ?_
                    refine lv_aload_n hx hb dX11_bed_110 rfl (lv_at hl 1 rfl) ?_
                    refine va_get (D := (dC, dI)) (ci := 11) (v := .ref hkn) (C := RX11) (T := TX11) (N := 10) hx hb hts hiX11 hown hK hP 0 rfl rfl 2 (by decide) w__fieldLink_RX11_28_ShellHeap_known_LShellHeap_Known_ (fun _ h9 => h9) rfl dX11_bed_111 ?_
                    refine va_get (D := (dC, dI)) (ci := 4) (v := .int n_h0_clash_19) (C := RX4) (T := TX4) (N := 10) hx hb hts hiX4 hown hK hP 1 rfl rfl 9 (by decide) w__fieldLink_RX11_162_ShellHeap_Known_clash_I_ (fun _ h9 => h9) rfl dX11_bed_114 ?_
                    refine lv_if_ne (tgt := 133) hx hb dX11_bed_117 (by decide) (fun c_45 => ?_) (fun c_45 => ?_)
                    · have k_46 : (n_h0_clash_19).toInt ≠ (0 : Int) := z_ne c_45
                      refine lv_iconst (v := (-1)) hx hb dX11_bed_133 (by decide) ?_
                      have hP9 := hP
                      have hD9 := hD
                      have hK9 := hK.sub (tys' := []) [] rfl
                      refine W.widen (k := 0) (n := 0) (Nat.le_of_ble_eq_true rfl) (Nat.le_of_ble_eq_true rfl) ?_
                      exact W.iret (v := (-1)) hx hb hr (fun t ht hW => ⟨⟨(-1), (), rfl, trivial, ⟨n_h0_notesSeen_17, n_h0_layersSeen_18, n_h0_clash_19, g_hk9_20, g_hbd_21, g_hlt_22, g_hrk_23, g_hle_24, g_hgr_25, hp_26, hp_27, hp_28, hp_29, by rw [ht]; exact hP9, va_K.moved hW.alike hK9, hD9⟩⟩, hS.F ht⟩) hS.2.2 dX11_bed_134
                    · have k_47 : (n_h0_clash_19).toInt = (0 : Int) := z_eq c_45
                      obtain rfl : n_h0_clash_19 = 0 := z_eq' (show (n_h0_clash_19).toInt = (0 : Int) by omega)
                      refine lv_aload_n hx hb dX11_bed_120 rfl (lv_at hl 1 rfl) ?_
                      refine va_get (D := (dC, dI)) (ci := 11) (v := .ref hkn) (C := RX11) (T := TX11) (N := 10) hx hb hts hiX11 hown hK hP 0 rfl rfl 2 (by decide) w__fieldLink_RX11_28_ShellHeap_known_LShellHeap_Known_ (fun _ h9 => h9) rfl dX11_bed_121 ?_
                      refine va_get (D := (dC, dI)) (ci := 4) (v := .ref hle) (C := RX4) (T := TX4) (N := 10) hx hb hts hiX4 hown hK hP 1 rfl rfl 7 (by decide) w__fieldLink_RX11_165_ShellHeap_Known_least_I_ (fun _ h9 => h9) rfl dX11_bed_124 ?_
                      refine lv_iload hx hb dX11_bed_127 (lv_at hl 0 rfl) ?_
                      refine va_iald hx hb hK hP 11 8 rfl rfl (z_vpinB kz_30 (by decide) (by decide)) dX11_bed_129 ?_
                      refine lv_topi (fun z_49 ez_49 => ?_)
                      refine lv_goto (tgt := 134) hx hb dX11_bed_130 (by decide) ?_
                      have hP9 := hP
                      have hD9 := hD
                      have hK9 := hK.sub (tys' := []) [] rfl
                      refine W.widen (k := 0) (n := 0) (Nat.le_of_ble_eq_true rfl) (Nat.le_of_ble_eq_true rfl) ?_
                      exact W.iret (v := z_49) hx hb hr (fun t ht hW => ⟨⟨z_49, (), rfl, trivial, ⟨n_h0_notesSeen_17, n_h0_layersSeen_18, 0, g_hk9_20, g_hbd_21, g_hlt_22, g_hrk_23, g_hle_24, g_hgr_25, hp_26, hp_27, (by decide), hp_29, by rw [ht]; exact hP9, va_K.moved hW.alike hK9, hD9⟩⟩, hS.F ht⟩) hS.2.2 dX11_bed_134
                  · exfalso; omega
        · have k_50 : (p3).toInt > (4 : Int) := z_nle c_12
          refine lv_bipush (v := (-2)) hx hb dX11_bed_31 (by decide) ?_
          have hP9 := hP
          have hD9 := hD
          have hK9 := hK.sub (tys' := []) [] rfl
          refine W.widen (k := 0) (n := 0) (Nat.le_of_ble_eq_true rfl) (Nat.le_of_ble_eq_true rfl) ?_
          exact W.iret (v := (-2)) hx hb hr (fun t ht hW => ⟨⟨(-2), (), rfl, trivial, ⟨kn, kl, kc, fhk9, fhbd, fhlt, fhrk, fhle, fhgr, hB_kn, hB_kl, hB_kc, hI_hbd, by rw [ht]; exact hP9, va_K.moved hW.alike hK9, hD9⟩⟩, hS.F ht⟩) hS.2.2 dX11_bed_33
    · have hw_7 : True := hw_7
      refine lv_if_eq (tgt := 31) hx hb dX11_bed_19 (by decide) (fun _ => ?_) (fun c_51 => absurd (by decide) c_51)
      refine lv_bipush (v := (-2)) hx hb dX11_bed_31 (by decide) ?_
      have hP9 := hP
      have hD9 := hD
      have hK9 := hK.sub (tys' := []) [] rfl
      refine W.widen (k := 0) (n := 0) (Nat.le_of_ble_eq_true rfl) (Nat.le_of_ble_eq_true rfl) ?_
      exact W.iret (v := (-2)) hx hb hr (fun t ht hW => ⟨⟨(-2), (), rfl, trivial, ⟨kn, kl, kc, fhk9, fhbd, fhlt, fhrk, fhle, fhgr, hB_kn, hB_kl, hB_kc, hI_hbd, by rw [ht]; exact hP9, va_K.moved hW.alike hK9, hD9⟩⟩, hS.F ht⟩) hS.2.2 dX11_bed_33
  · have hw_3 : True := hw_3
    refine lv_if_eq (tgt := 31) hx hb dX11_bed_8 (by decide) (fun _ => ?_) (fun c_52 => absurd (by decide) c_52)
    refine lv_bipush (v := (-2)) hx hb dX11_bed_31 (by decide) ?_
    have hP9 := hP
    have hD9 := hD
    have hK9 := hK.sub (tys' := []) [] rfl
    refine W.widen (k := 0) (n := 0) (Nat.le_of_ble_eq_true rfl) (Nat.le_of_ble_eq_true rfl) ?_
    exact W.iret (v := (-2)) hx hb hr (fun t ht hW => ⟨⟨(-2), (), rfl, trivial, ⟨kn, kl, kc, fhk9, fhbd, fhlt, fhrk, fhle, fhgr, hB_kn, hB_kl, hB_kc, hI_hbd, by rw [ht]; exact hP9, va_K.moved hW.alike hK9, hD9⟩⟩, hS.F ht⟩) hS.2.2 dX11_bed_33
def u_s_X11_holds : List Cond := .code yX11_holds cX11_holds 3 (some .int) :: ([.fieldLink RX11 19 "ShellHeap" "book" "LShellHeap$Book;", .methodLink RX11 115 yX0_hasLayer, .instanceMethod yX0_hasLayer, .selects RX0 yX0_hasLayer yX0_hasLayer, .initialized RX0, .fieldLink RX11 35 "ShellHeap" "ground" "LShellHeap$Ground;", .fieldLink RX11 181 "ShellHeap$Ground" "columns" "I", .methodLink RX11 187 yX11_bedNow, .instanceMethod yX11_bedNow, .selects RX11 yX11_bedNow yX11_bedNow, .initialized RX11, .methodLink RX11 190 yX2_weigh, .instanceMethod yX2_weigh, .selects RX2 yX2_weigh yX2_weigh, .initialized RX2, .fieldLink RX11 198 "ShellHeap$Ground" "greatest" "I", .fieldLink RX11 196 "ShellHeap$Ground" "least" "I", .fieldLink RX11 193 "ShellHeap$Ground" "whole" "I"] ++ (wsX110 ++ (wsX20 ++ (u_s_X0_hasLayer ++ (u_s_X11_bedNow ++ (u_s_X2_weigh ++ []))))))
set_option maxRecDepth 20000 in
theorem gw_s_X11_holds_s_X0_hasLayer_115 : GoodIn u_s_X11_holds (wsV RX11 115 RX0 yX0_hasLayer u_s_X0_hasLayer) := z_gV (z_gr _ [2, 3, 4, 5] rfl (by decide +kernel)) (fun w h => ⟨z_mc (z_mr (z_mr (z_mr (z_ml h)))), gd_s_X0_hasLayer w h⟩)
set_option maxRecDepth 20000 in
theorem gw_s_X11_holds_s_X11_bedNow_187 : GoodIn u_s_X11_holds (wsV RX11 187 RX11 yX11_bedNow u_s_X11_bedNow) := z_gV (z_gr _ [8, 9, 10, 11] rfl (by decide +kernel)) (fun w h => ⟨z_mc (z_mr (z_mr (z_mr (z_mr (z_ml h))))), gd_s_X11_bedNow w h⟩)
set_option maxRecDepth 20000 in
theorem gw_s_X11_holds_s_X2_weigh_190 : GoodIn u_s_X11_holds (wsV RX11 190 RX2 yX2_weigh u_s_X2_weigh) := z_gV (z_gr _ [12, 13, 14, 15] rfl (by decide +kernel)) (fun w h => ⟨z_mc (z_mr (z_mr (z_mr (z_mr (z_mr (z_ml h)))))), gd_s_X2_weigh w h⟩)
set_option maxHeartbeats 4000000 in
set_option maxRecDepth 100000 in
theorem s_X11_holds (l : Launch) (dC : Nat → ClassId) (dI : Nat → Nat → Nat) (sz : Nat) (h0 : Nat) (p1 : Int32) (p2 : Int32) (h0_0 : Value) (hbk : Nat) (hkn : Nat) (a_gd : Nat) (h0_4 : Value) (h0_5 : Value) (h0_6 : Value) (h0_7 : Value) (h0_8 : Value) (h0_9 : Value) (kn : Int32) (kl : Int32) (hk9 : Nat) (hlt : Nat) (hrk : Nat) (hbd : Nat) (hle : Nat) (hgr : Nat) (kc : Int32) (hs : Nat) (ha : Nat) (hb9 : Nat) (hc9 : Nat) (bn : Int32) (bl : Int32) (chk9 : ClassId) (fhk9 : Nat → Int32) (chs : ClassId) (fhs : Nat → Int32) (cha : ClassId) (fha : Nat → Int32) (chb9 : ClassId) (fhb9 : Nat → Int32) (chc9 : ClassId) (fhc9 : Nat → Int32) (chbd : ClassId) (fhbd : Nat → Int32) (chlt : ClassId) (fhlt : Nat → Int32) (chrk : ClassId) (fhrk : Nat → Int32) (chle : ClassId) (fhle : Nat → Int32) (chgr : ClassId) (fhgr : Nat → Int32) (gw : Int32) (gh : Int32) (a_g1 : Nat) (a_g2 : Nat) (a_g3 : Nat) (a_g4 : Nat) (a_g5 : Nat) (gc : Int32) (go : Int32) (gl : Int32) (gg : Int32) (ca_g1 : ClassId) (fa_g1 : Nat → Int32) (ca_g2 : ClassId) (fa_g2 : Nat → Int32) (ca_g3 : ClassId) (fa_g3 : Nat → Int32) (ca_g4 : ClassId) (fa_g4 : Nat → Int32) (ca_g5 : ClassId) (fa_g5 : Nat → Int32) (hB_kn : ((-1 : Int) ≤ (kn).toInt ∧ (kn).toInt ≤ (80 : Int))) (hB_kl : ((-1 : Int) ≤ (kl).toInt ∧ (kl).toInt ≤ (12 : Int))) (hB_kc : ((0 : Int) ≤ (kc).toInt ∧ (kc).toInt ≤ (2 : Int))) (hB_bl : ((0 : Int) ≤ (bl).toInt ∧ (bl).toInt ≤ (12 : Int))) (hB_bn : ((0 : Int) ≤ (bn).toInt ∧ (bn).toInt ≤ (80 : Int))) (hB_gw : ((2 : Int) ≤ (gw).toInt ∧ (gw).toInt ≤ (12 : Int))) (hB_gh : ((2 : Int) ≤ (gh).toInt ∧ (gh).toInt ≤ (12 : Int))) (hB_gc : ((0 : Int) ≤ (gc).toInt ∧ (gc).toInt ≤ (10 : Int))) (hI_ha : ∀ j : Nat, ((0 : Int) ≤ (fha j).toInt ∧ (fha j).toInt ≤ (79 : Int))) (hI_hbd : ∀ j : Nat, ((0 : Int) ≤ (fhbd j).toInt ∧ (fhbd j).toInt ≤ (11 : Int))) (hR : ∀ j : Nat, z_rel (fhs j) (fha j) (fhb9 j)) : Met l yX11_holds u_s_X11_holds ({ frames := 5, cells := 0, slots := 0, locals := 108 }) (va_Pc [.ref h0, .int p1, .int p2] (z_C (dC, dI) vwCl [(h0, .inr (11, [h0_0, .ref hbk, .ref hkn, .ref a_gd, h0_4, h0_5, h0_6, h0_7, h0_8, h0_9])), (hkn, .inr (4, [.ref hbk, .int kn, .int kl, .ref hk9, .ref hlt, .ref hrk, .ref hbd, .ref hle, .ref hgr, .int kc])), (hbk, .inr (0, [.ref hs, .ref ha, .ref hb9, .ref hc9, .int bn, .int bl])), (hk9, .inl (chk9, 80, .inl fhk9)), (hs, .inl (chs, 80, .inl fhs)), (ha, .inl (cha, 80, .inl fha)), (hb9, .inl (chb9, 80, .inl fhb9)), (hc9, .inl (chc9, 80, .inl fhc9)), (hbd, .inl (chbd, 12, .inl fhbd)), (hlt, .inl (chlt, 12, .inl fhlt)), (hrk, .inl (chrk, 12, .inl fhrk)), (hle, .inl (chle, 12, .inl fhle)), (hgr, .inl (chgr, 12, .inl fhgr)), (a_gd, .inr (2, [.int gw, .int gh, .ref a_g1, .ref a_g2, .ref a_g3, .ref a_g4, .ref a_g5, .int gc, .int go, .int gl, .int gg])), (a_g1, .inl (ca_g1, 10, .inl fa_g1)), (a_g2, .inl (ca_g2, 10, .inl fa_g2)), (a_g3, .inl (ca_g3, 10, .inl fa_g3)), (a_g4, .inl (ca_g4, 10, .inl fa_g4)), (a_g5, .inl (ca_g5, 120, .inl fa_g5))] [(chk9, .boolean), (chs, .int), (cha, .int), (chb9, .int), (chc9, .int), (chbd, .int), (chlt, .int), (chrk, .int), (chle, .int), (chgr, .int), (ca_g1, .int), (ca_g2, .int), (ca_g3, .int), (ca_g4, .int), (ca_g5, .int)] sz)) (va_Qi (fun (r : Int32) (_ : Unit) => True) (fun (_ : Unit) (t : State) => ∃ (n_hkn_notesSeen : Int32), ∃ (n_hkn_layersSeen : Int32), ∃ (n_hkn_clash : Int32), ∃ (g_hk9 : Nat → Int32), ∃ (g_hbd : Nat → Int32), ∃ (g_hlt : Nat → Int32), ∃ (g_hrk : Nat → Int32), ∃ (g_hle : Nat → Int32), ∃ (g_hgr : Nat → Int32), ∃ (n_a_gd_whole : Int32), ∃ (n_a_gd_least : Int32), ∃ (n_a_gd_greatest : Int32), ∃ (g_a_g3 : Nat → Int32), ∃ (g_a_g4 : Nat → Int32), ((-1 : Int) ≤ (n_hkn_notesSeen).toInt ∧ (n_hkn_notesSeen).toInt ≤ (80 : Int)) ∧ ((-1 : Int) ≤ (n_hkn_layersSeen).toInt ∧ (n_hkn_layersSeen).toInt ≤ (12 : Int)) ∧ ((0 : Int) ≤ (n_hkn_clash).toInt ∧ (n_hkn_clash).toInt ≤ (2 : Int)) ∧ (∀ j : Nat, ((0 : Int) ≤ (g_hbd j).toInt ∧ (g_hbd j).toInt ≤ (11 : Int))) ∧ va_P (dC, dI) vwCl [(h0, .inr (11, [h0_0, .ref hbk, .ref hkn, .ref a_gd, h0_4, h0_5, h0_6, h0_7, h0_8, h0_9])), (hkn, .inr (4, [.ref hbk, .int n_hkn_notesSeen, .int n_hkn_layersSeen, .ref hk9, .ref hlt, .ref hrk, .ref hbd, .ref hle, .ref hgr, .int n_hkn_clash])), (hbk, .inr (0, [.ref hs, .ref ha, .ref hb9, .ref hc9, .int bn, .int bl])), (hk9, .inl (chk9, 80, .inl g_hk9)), (hs, .inl (chs, 80, .inl fhs)), (ha, .inl (cha, 80, .inl fha)), (hb9, .inl (chb9, 80, .inl fhb9)), (hc9, .inl (chc9, 80, .inl fhc9)), (hbd, .inl (chbd, 12, .inl g_hbd)), (hlt, .inl (chlt, 12, .inl g_hlt)), (hrk, .inl (chrk, 12, .inl g_hrk)), (hle, .inl (chle, 12, .inl g_hle)), (hgr, .inl (chgr, 12, .inl g_hgr)), (a_gd, .inr (2, [.int gw, .int gh, .ref a_g1, .ref a_g2, .ref a_g3, .ref a_g4, .ref a_g5, .int gc, .int n_a_gd_whole, .int n_a_gd_least, .int n_a_gd_greatest])), (a_g1, .inl (ca_g1, 10, .inl fa_g1)), (a_g2, .inl (ca_g2, 10, .inl fa_g2)), (a_g3, .inl (ca_g3, 10, .inl g_a_g3)), (a_g4, .inl (ca_g4, 10, .inl g_a_g4)), (a_g5, .inl (ca_g5, 120, .inl fa_g5))] t.heap ∧ va_K (dC, dI) vwCl [] t ∧ va_D (va_A [(h0, .inr (11, [h0_0, .ref hbk, .ref hkn, .ref a_gd, h0_4, h0_5, h0_6, h0_7, h0_8, h0_9])), (hkn, .inr (4, [.ref hbk, .int kn, .int kl, .ref hk9, .ref hlt, .ref hrk, .ref hbd, .ref hle, .ref hgr, .int kc])), (hbk, .inr (0, [.ref hs, .ref ha, .ref hb9, .ref hc9, .int bn, .int bl])), (hk9, .inl (chk9, 80, .inl fhk9)), (hs, .inl (chs, 80, .inl fhs)), (ha, .inl (cha, 80, .inl fha)), (hb9, .inl (chb9, 80, .inl fhb9)), (hc9, .inl (chc9, 80, .inl fhc9)), (hbd, .inl (chbd, 12, .inl fhbd)), (hlt, .inl (chlt, 12, .inl fhlt)), (hrk, .inl (chrk, 12, .inl fhrk)), (hle, .inl (chle, 12, .inl fhle)), (hgr, .inl (chgr, 12, .inl fhgr)), (a_gd, .inr (2, [.int gw, .int gh, .ref a_g1, .ref a_g2, .ref a_g3, .ref a_g4, .ref a_g5, .int gc, .int go, .int gl, .int gg])), (a_g1, .inl (ca_g1, 10, .inl fa_g1)), (a_g2, .inl (ca_g2, 10, .inl fa_g2)), (a_g3, .inl (ca_g3, 10, .inl fa_g3)), (a_g4, .inl (ca_g4, 10, .inl fa_g4)), (a_g5, .inl (ca_g5, 120, .inl fa_g5))] sz) [(h0, .inr (11, [h0_0, .ref hbk, .ref hkn, .ref a_gd, h0_4, h0_5, h0_6, h0_7, h0_8, h0_9])), (hkn, .inr (4, [.ref hbk, .int n_hkn_notesSeen, .int n_hkn_layersSeen, .ref hk9, .ref hlt, .ref hrk, .ref hbd, .ref hle, .ref hgr, .int n_hkn_clash])), (hbk, .inr (0, [.ref hs, .ref ha, .ref hb9, .ref hc9, .int bn, .int bl])), (hk9, .inl (chk9, 80, .inl g_hk9)), (hs, .inl (chs, 80, .inl fhs)), (ha, .inl (cha, 80, .inl fha)), (hb9, .inl (chb9, 80, .inl fhb9)), (hc9, .inl (chc9, 80, .inl fhc9)), (hbd, .inl (chbd, 12, .inl g_hbd)), (hlt, .inl (chlt, 12, .inl g_hlt)), (hrk, .inl (chrk, 12, .inl g_hrk)), (hle, .inl (chle, 12, .inl g_hle)), (hgr, .inl (chgr, 12, .inl g_hgr)), (a_gd, .inr (2, [.int gw, .int gh, .ref a_g1, .ref a_g2, .ref a_g3, .ref a_g4, .ref a_g5, .int gc, .int n_a_gd_whole, .int n_a_gd_least, .int n_a_gd_greatest])), (a_g1, .inl (ca_g1, 10, .inl fa_g1)), (a_g2, .inl (ca_g2, 10, .inl fa_g2)), (a_g3, .inl (ca_g3, 10, .inl g_a_g3)), (a_g4, .inl (ca_g4, 10, .inl g_a_g4)), (a_g5, .inl (ca_g5, 120, .inl fa_g5))]) (va_A [(h0, .inr (11, [h0_0, .ref hbk, .ref hkn, .ref a_gd, h0_4, h0_5, h0_6, h0_7, h0_8, h0_9])), (hkn, .inr (4, [.ref hbk, .int kn, .int kl, .ref hk9, .ref hlt, .ref hrk, .ref hbd, .ref hle, .ref hgr, .int kc])), (hbk, .inr (0, [.ref hs, .ref ha, .ref hb9, .ref hc9, .int bn, .int bl])), (hk9, .inl (chk9, 80, .inl fhk9)), (hs, .inl (chs, 80, .inl fhs)), (ha, .inl (cha, 80, .inl fha)), (hb9, .inl (chb9, 80, .inl fhb9)), (hc9, .inl (chc9, 80, .inl fhc9)), (hbd, .inl (chbd, 12, .inl fhbd)), (hlt, .inl (chlt, 12, .inl fhlt)), (hrk, .inl (chrk, 12, .inl fhrk)), (hle, .inl (chle, 12, .inl fhle)), (hgr, .inl (chgr, 12, .inl fhgr)), (a_gd, .inr (2, [.int gw, .int gh, .ref a_g1, .ref a_g2, .ref a_g3, .ref a_g4, .ref a_g5, .int gc, .int go, .int gl, .int gg])), (a_g1, .inl (ca_g1, 10, .inl fa_g1)), (a_g2, .inl (ca_g2, 10, .inl fa_g2)), (a_g3, .inl (ca_g3, 10, .inl fa_g3)), (a_g4, .inl (ca_g4, 10, .inl fa_g4)), (a_g5, .inl (ca_g5, 120, .inl fa_g5))] sz)) 0 0 (va_A [(h0, .inr (11, [h0_0, .ref hbk, .ref hkn, .ref a_gd, h0_4, h0_5, h0_6, h0_7, h0_8, h0_9])), (hkn, .inr (4, [.ref hbk, .int kn, .int kl, .ref hk9, .ref hlt, .ref hrk, .ref hbd, .ref hle, .ref hgr, .int kc])), (hbk, .inr (0, [.ref hs, .ref ha, .ref hb9, .ref hc9, .int bn, .int bl])), (hk9, .inl (chk9, 80, .inl fhk9)), (hs, .inl (chs, 80, .inl fhs)), (ha, .inl (cha, 80, .inl fha)), (hb9, .inl (chb9, 80, .inl fhb9)), (hc9, .inl (chc9, 80, .inl fhc9)), (hbd, .inl (chbd, 12, .inl fhbd)), (hlt, .inl (chlt, 12, .inl fhlt)), (hrk, .inl (chrk, 12, .inl fhrk)), (hle, .inl (chle, 12, .inl fhle)), (hgr, .inl (chgr, 12, .inl fhgr)), (a_gd, .inr (2, [.int gw, .int gh, .ref a_g1, .ref a_g2, .ref a_g3, .ref a_g4, .ref a_g5, .int gc, .int go, .int gl, .int gg])), (a_g1, .inl (ca_g1, 10, .inl fa_g1)), (a_g2, .inl (ca_g2, 10, .inl fa_g2)), (a_g3, .inl (ca_g3, 10, .inl fa_g3)), (a_g4, .inl (ca_g4, 10, .inl fa_g4)), (a_g5, .inl (ca_g5, 120, .inl fa_g5))] sz) := by
  refine Met.ofW (cc := cX11_holds) (maxL := 3) (ret := (some .int)) (by decide) rfl ?_
  intro p e s m args below meth c s₁ B hml hv
  obtain ⟨rfl, hsz, hP, hK, hD0⟩ := hv
  have hx := B.exec
  have hb := B.bytes
  have hr := B.returns
  have hts := atoms_spec (ws := u_s_X11_holds) B.pre
  have hown : s.vm.findClass RX11 = some m.cls := findClass_of_methodNamed B.named
  have hlocks := B.notSynchronized
  subst hsz
  have hD := hD0.self (sz := s.heap.size)
  generalize hAe : va_A [(h0, .inr (11, [h0_0, .ref hbk, .ref hkn, .ref a_gd, h0_4, h0_5, h0_6, h0_7, h0_8, h0_9])), (hkn, .inr (4, [.ref hbk, .int kn, .int kl, .ref hk9, .ref hlt, .ref hrk, .ref hbd, .ref hle, .ref hgr, .int kc])), (hbk, .inr (0, [.ref hs, .ref ha, .ref hb9, .ref hc9, .int bn, .int bl])), (hk9, .inl (chk9, 80, .inl fhk9)), (hs, .inl (chs, 80, .inl fhs)), (ha, .inl (cha, 80, .inl fha)), (hb9, .inl (chb9, 80, .inl fhb9)), (hc9, .inl (chc9, 80, .inl fhc9)), (hbd, .inl (chbd, 12, .inl fhbd)), (hlt, .inl (chlt, 12, .inl fhlt)), (hrk, .inl (chrk, 12, .inl fhrk)), (hle, .inl (chle, 12, .inl fhle)), (hgr, .inl (chgr, 12, .inl fhgr)), (a_gd, .inr (2, [.int gw, .int gh, .ref a_g1, .ref a_g2, .ref a_g3, .ref a_g4, .ref a_g5, .int gc, .int go, .int gl, .int gg])), (a_g1, .inl (ca_g1, 10, .inl fa_g1)), (a_g2, .inl (ca_g2, 10, .inl fa_g2)), (a_g3, .inl (ca_g3, 10, .inl fa_g3)), (a_g4, .inl (ca_g4, 10, .inl fa_g4)), (a_g5, .inl (ca_g5, 120, .inl fa_g5))] s.heap.size = A at hD ⊢
  have hA : ∀ q : Nat, s.heap.size ≤ q → A q := fun q h => by rw [← hAe]; exact Or.inr h
  have hS : va_S A s.heap s.heap [] := va_S.rf
  have hP : va_P (dC, dI) vwCl [(h0, .inr (11, [h0_0, .ref hbk, .ref hkn, .ref a_gd, h0_4, h0_5, h0_6, h0_7, h0_8, h0_9])), (hkn, .inr (4, [.ref hbk, .int kn, .int kl, .ref hk9, .ref hlt, .ref hrk, .ref hbd, .ref hle, .ref hgr, .int kc])), (hbk, .inr (0, [.ref hs, .ref ha, .ref hb9, .ref hc9, .int bn, .int bl])), (hk9, .inl (chk9, 80, .inl fhk9)), (hs, .inl (chs, 80, .inl fhs)), (ha, .inl (cha, 80, .inl fha)), (hb9, .inl (chb9, 80, .inl fhb9)), (hc9, .inl (chc9, 80, .inl fhc9)), (hbd, .inl (chbd, 12, .inl fhbd)), (hlt, .inl (chlt, 12, .inl fhlt)), (hrk, .inl (chrk, 12, .inl fhrk)), (hle, .inl (chle, 12, .inl fhle)), (hgr, .inl (chgr, 12, .inl fhgr)), (a_gd, .inr (2, [.int gw, .int gh, .ref a_g1, .ref a_g2, .ref a_g3, .ref a_g4, .ref a_g5, .int gc, .int go, .int gl, .int gg])), (a_g1, .inl (ca_g1, 10, .inl fa_g1)), (a_g2, .inl (ca_g2, 10, .inl fa_g2)), (a_g3, .inl (ca_g3, 10, .inl fa_g3)), (a_g4, .inl (ca_g4, 10, .inl fa_g4)), (a_g5, .inl (ca_g5, 120, .inl fa_g5))] s.heap := hP
  have w__fieldLink_RX11_19_ShellHeap_book_LShellHeap_Book_ := hts (.fieldLink RX11 19 "ShellHeap" "book" "LShellHeap$Book;") (z_mc (z_ml z_m0))
  have hiX11 := show ∀ w ∈ u_ws RX11 TX11 10, w ∈ u_s_X11_holds from fun w h => z_mc (z_mr (z_ml h))
  have w__fieldLink_RX11_35_ShellHeap_ground_LShellHeap_Ground_ := hts (.fieldLink RX11 35 "ShellHeap" "ground" "LShellHeap$Ground;") (z_mc (z_ml z_m5))
  have w__fieldLink_RX11_181_ShellHeap_Ground_columns_I_ := hts (.fieldLink RX11 181 "ShellHeap$Ground" "columns" "I") (z_mc (z_ml z_m6))
  have hiX2 := show ∀ w ∈ u_ws RX2 TX2 11, w ∈ u_s_X11_holds from fun w h => z_mc (z_mr (z_mr (z_ml h)))
  have w__fieldLink_RX11_198_ShellHeap_Ground_greatest_I_ := hts (.fieldLink RX11 198 "ShellHeap$Ground" "greatest" "I") (z_mc (z_ml z_m15))
  have w__fieldLink_RX11_196_ShellHeap_Ground_least_I_ := hts (.fieldLink RX11 196 "ShellHeap$Ground" "least" "I") (z_mc (z_ml z_m16))
  have w__fieldLink_RX11_193_ShellHeap_Ground_whole_I_ := hts (.fieldLink RX11 193 "ShellHeap$Ground" "whole" "I") (z_mc (z_ml z_m17))
  have krr_p1 := z_rng p1
  have krr_p2 := z_rng p2
  have hl := lv_entry ([.ref h0, .int p1, .int p2]) (n := 3) (Nat.le_of_ble_eq_true rfl)
  rw [lg_entry_eq]
  generalize (lg_sl ([.ref h0, .int p1, .int p2]) ++ List.replicate (3 - (lg_sl ([.ref h0, .int p1, .int p2])).length) Slot.unset).toArray = ls at hl ⊢
  have hl : lv_has ls 3 [(0, .ref h0), (1, .int p1), (2, .int p2)] := hl
  refine lv_aload_n hx hb dX11_holds_0 rfl (lv_at hl 0 rfl) ?_
  refine va_get (D := (dC, dI)) (ci := 11) (v := .ref hbk) (C := RX11) (T := TX11) (N := 10) hx hb hts hiX11 hown hK hP 0 rfl rfl 1 (by decide) w__fieldLink_RX11_19_ShellHeap_book_LShellHeap_Book_ (fun _ h9 => h9) rfl dX11_holds_1 ?_
  refine lv_iload_n hx hb dX11_holds_4 rfl (lv_at hl 1 rfl) ?_
  obtain ⟨hPc, hDc⟩ := z_sub2 (ws' := [(hbk, .inr (0, [.ref hs, .ref ha, .ref hb9, .ref hc9, .int bn, .int bl]))]) hP hD [2] (by decide) rfl
  have hKc := hK.sub (tys' := []) [] rfl
  have hFc := va_free (ws := []) (wc := []) (z_D0 _) hS hA [] rfl
  refine va_calli (va_runV (As := [.int p1]) (rest := []) ⟨hx, hb, hml, hown, hts⟩ (s_X0_hasLayer l dC dI s.heap.size hbk p1 (.ref hs) (.ref ha) (.ref hb9) (.ref hc9) (.int bn) bl hB_bl) (cwV 1 hts gw_s_X11_holds_s_X0_hasLayer_115 rfl rfl rfl (by decide +kernel) ⟨Nat.le_of_ble_eq_true rfl, Nat.le_of_ble_eq_true rfl⟩) ⟨z_blind, va_recv hKc hPc (ci := 0) (q0 := 0) rfl rfl, z_pre hPc hKc hDc⟩ rfl rfl hl.1 rfl (lv_room (Nat.le_of_ble_eq_true rfl)) dX11_holds_5 ⟨Nat.le_of_ble_eq_true rfl, Nat.le_of_ble_eq_true rfl⟩) hS (fun q _ h => hFc q h) hFc (fun r_2 u t H_1 locs ht hvm hw_3 hB hz1 hk1 hS => ?_)
  replace hP := z_pure hP hk1
  clear hPc hDc hKc
  rcases hw_3 with ⟨rfl, hw_3⟩ | ⟨rfl, hw_3⟩
  · have hw_3 : (0 ≤ p1.toInt ∧ p1.toInt < bl.toInt) := hw_3
    refine lv_if_eq (tgt := 30) hx hb dX11_holds_8 (by decide) (fun c_4 => absurd c_4 (by decide)) (fun _ => ?_)
    refine lv_iload_n hx hb dX11_holds_11 rfl (lv_at hl 2 rfl) ?_
    refine lv_if_lt (tgt := 30) hx hb dX11_holds_12 (by decide) (fun c_5 => ?_) (fun c_5 => ?_)
    · have k_6 : (p2).toInt < (0 : Int) := z_lt c_5
      refine lv_iconst (v := (-1)) hx hb dX11_holds_30 (by decide) ?_
      have hP9 := hP
      have hD9 := hD
      have hK9 := hK.sub (tys' := []) [] rfl
      refine W.widen (k := 0) (n := 0) (Nat.le_of_ble_eq_true rfl) (Nat.le_of_ble_eq_true rfl) ?_
      exact W.iret (v := (-1)) hx hb hr (fun t ht hW => ⟨⟨(-1), (), rfl, trivial, ⟨kn, kl, kc, fhk9, fhbd, fhlt, fhrk, fhle, fhgr, go, gl, gg, fa_g3, fa_g4, hB_kn, hB_kl, hB_kc, hI_hbd, by rw [ht]; exact hP9, va_K.moved hW.alike hK9, hD9⟩⟩, hS.F ht⟩) hS.2.2 dX11_holds_31
    · have k_7 : (p2).toInt ≥ (0 : Int) := z_nlt c_5
      refine lv_iload_n hx hb dX11_holds_15 rfl (lv_at hl 2 rfl) ?_
      refine lv_iconst (v := 2) hx hb dX11_holds_16 (by decide) ?_
      refine lv_icmp_gt (tgt := 30) hx hb dX11_holds_17 (by decide) (fun c_8 => ?_) (fun c_8 => ?_)
      · have k_9 : (2 : Int) < (p2).toInt := z_lt c_8
        refine lv_iconst (v := (-1)) hx hb dX11_holds_30 (by decide) ?_
        have hP9 := hP
        have hD9 := hD
        have hK9 := hK.sub (tys' := []) [] rfl
        refine W.widen (k := 0) (n := 0) (Nat.le_of_ble_eq_true rfl) (Nat.le_of_ble_eq_true rfl) ?_
        exact W.iret (v := (-1)) hx hb hr (fun t ht hW => ⟨⟨(-1), (), rfl, trivial, ⟨kn, kl, kc, fhk9, fhbd, fhlt, fhrk, fhle, fhgr, go, gl, gg, fa_g3, fa_g4, hB_kn, hB_kl, hB_kc, hI_hbd, by rw [ht]; exact hP9, va_K.moved hW.alike hK9, hD9⟩⟩, hS.F ht⟩) hS.2.2 dX11_holds_31
      · have k_10 : (2 : Int) ≥ (p2).toInt := z_nlt c_8
        refine lv_aload_n hx hb dX11_holds_20 rfl (lv_at hl 0 rfl) ?_
        refine va_get (D := (dC, dI)) (ci := 11) (v := .ref a_gd) (C := RX11) (T := TX11) (N := 10) hx hb hts hiX11 hown hK hP 0 rfl rfl 3 (by decide) w__fieldLink_RX11_35_ShellHeap_ground_LShellHeap_Ground_ (fun _ h9 => h9) rfl dX11_holds_21 ?_
        refine va_get (D := (dC, dI)) (ci := 2) (v := .int gc) (C := RX2) (T := TX2) (N := 11) hx hb hts hiX2 hown hK hP 13 rfl rfl 7 (by decide) w__fieldLink_RX11_181_ShellHeap_Ground_columns_I_ (fun _ h9 => h9) rfl dX11_holds_24 ?_
        refine lv_if_ne (tgt := 32) hx hb dX11_holds_27 (by decide) (fun c_11 => ?_) (fun c_11 => ?_)
        · have k_12 : (gc).toInt ≠ (0 : Int) := z_ne c_11
          refine lv_aload_n hx hb dX11_holds_32 rfl (lv_at hl 0 rfl) ?_
          refine va_get (D := (dC, dI)) (ci := 11) (v := .ref a_gd) (C := RX11) (T := TX11) (N := 10) hx hb hts hiX11 hown hK hP 0 rfl rfl 3 (by decide) w__fieldLink_RX11_35_ShellHeap_ground_LShellHeap_Ground_ (fun _ h9 => h9) rfl dX11_holds_33 ?_
          refine lv_aload_n hx hb dX11_holds_36 rfl (lv_at hl 0 rfl) ?_
          refine lv_iload_n hx hb dX11_holds_37 rfl (lv_at hl 1 rfl) ?_
          obtain ⟨hPc, hDc, hFc⟩ := z_sub3 (ws' := [(h0, .inr (11, [h0_0, .ref hbk, .ref hkn, .ref a_gd, h0_4, h0_5, h0_6, h0_7, h0_8, h0_9])), (hkn, .inr (4, [.ref hbk, .int kn, .int kl, .ref hk9, .ref hlt, .ref hrk, .ref hbd, .ref hle, .ref hgr, .int kc])), (hbk, .inr (0, [.ref hs, .ref ha, .ref hb9, .ref hc9, .int bn, .int bl])), (hk9, .inl (chk9, 80, .inl fhk9)), (hs, .inl (chs, 80, .inl fhs)), (ha, .inl (cha, 80, .inl fha)), (hb9, .inl (chb9, 80, .inl fhb9)), (hc9, .inl (chc9, 80, .inl fhc9)), (hbd, .inl (chbd, 12, .inl fhbd)), (hlt, .inl (chlt, 12, .inl fhlt)), (hrk, .inl (chrk, 12, .inl fhrk)), (hle, .inl (chle, 12, .inl fhle)), (hgr, .inl (chgr, 12, .inl fhgr))]) hP hD hS hA [0, 1, 2, 3, 4, 5, 6, 7, 8, 9, 10, 11, 12] (by decide) rfl
          have hKc := hK.sub (tys' := [(chk9, .boolean), (chs, .int), (cha, .int), (chb9, .int), (chc9, .int), (chbd, .int), (chlt, .int), (chrk, .int), (chle, .int), (chgr, .int)]) [0, 1, 2, 3, 4, 5, 6, 7, 8, 9] rfl
          refine va_calli (va_runV (As := [.int p1]) (rest := [.ref a_gd]) ⟨hx, hb, hml, hown, hts⟩ (s_X11_bedNow l dC dI H_1.size h0 p1 h0_0 hbk hkn (.ref a_gd) h0_4 h0_5 h0_6 h0_7 h0_8 h0_9 kn kl hk9 hlt hrk hbd hle hgr kc hs ha hb9 hc9 bn bl chk9 fhk9 chs fhs cha fha chb9 fhb9 chc9 fhc9 chbd fhbd chlt fhlt chrk fhrk chle fhle chgr fhgr (by first | omega | decide) hB_kn hB_kl hB_kc hB_bl hB_bn hI_ha hI_hbd hR) (cwV 1 hts gw_s_X11_holds_s_X11_bedNow_187 rfl rfl rfl (by decide +kernel) ⟨Nat.le_of_ble_eq_true rfl, Nat.le_of_ble_eq_true rfl⟩) ⟨z_blind, va_recv hKc hPc (ci := 11) (q0 := 0) rfl rfl, z_pre hPc hKc hDc⟩ rfl rfl hl.1 rfl (lv_room (Nat.le_of_ble_eq_true rfl)) dX11_holds_38 ⟨Nat.le_of_ble_eq_true rfl, Nat.le_of_ble_eq_true rfl⟩) hS (fun q _ h => hFc q h) hFc (fun r_14 u t H_13 locs ht hvm hw_15 hB hz1 hk1 hS => ?_)
          obtain ⟨n_hkn_notesSeen_16, n_hkn_layersSeen_17, n_hkn_clash_18, g_hk9_19, g_hbd_20, g_hlt_21, g_hrk_22, g_hle_23, g_hgr_24, hp_25, hp_26, hp_27, hp_28, hP1, hK1, hD1⟩ := hB
          rw [ht] at hP1
          have hK1 := va_K.moved hvm.symm hK1
          obtain ⟨hP, hD⟩ := z_ap_6 (va_join (wr := [(a_gd, .inr (2, [.int gw, .int gh, .ref a_g1, .ref a_g2, .ref a_g3, .ref a_g4, .ref a_g5, .int gc, .int go, .int gl, .int gg])), (a_g1, .inl (ca_g1, 10, .inl fa_g1)), (a_g2, .inl (ca_g2, 10, .inl fa_g2)), (a_g3, .inl (ca_g3, 10, .inl fa_g3)), (a_g4, .inl (ca_g4, 10, .inl fa_g4)), (a_g5, .inl (ca_g5, 120, .inl fa_g5))]) hP hD [0, 1, 2, 3, 4, 5, 6, 7, 8, 9, 10, 11, 12] [13, 14, 15, 16, 17, 18] rfl rfl (by decide) (by decide) hk1 hFc hP1 hD1)
          clear hPc hDc hKc
          obtain ⟨hPc, hDc, hFc⟩ := z_sub3 (ws' := [(a_gd, .inr (2, [.int gw, .int gh, .ref a_g1, .ref a_g2, .ref a_g3, .ref a_g4, .ref a_g5, .int gc, .int go, .int gl, .int gg])), (a_g1, .inl (ca_g1, 10, .inl fa_g1)), (a_g2, .inl (ca_g2, 10, .inl fa_g2)), (a_g3, .inl (ca_g3, 10, .inl fa_g3)), (a_g4, .inl (ca_g4, 10, .inl fa_g4)), (a_g5, .inl (ca_g5, 120, .inl fa_g5))]) hP hD hS hA [0, 1, 2, 3, 4, 5] (by decide) rfl
          have hKc := hK.sub (tys' := [(ca_g1, .int), (ca_g2, .int), (ca_g3, .int), (ca_g4, .int), (ca_g5, .int)]) [10, 11, 12, 13, 14] rfl
          refine va_callv (va_runV (As := [.int r_14]) (rest := []) ⟨hx, hb, hml, hown, hts⟩ (s_X2_weigh l dC dI H_13.size a_gd r_14 gw gh a_g1 a_g2 a_g3 a_g4 a_g5 gc go gl gg ca_g1 fa_g1 ca_g2 fa_g2 ca_g3 fa_g3 ca_g4 fa_g4 ca_g5 fa_g5 hB_gw hB_gh hB_gc) (cwV 1 hts gw_s_X11_holds_s_X2_weigh_190 rfl rfl rfl (by decide +kernel) ⟨Nat.le_of_ble_eq_true rfl, Nat.le_of_ble_eq_true rfl⟩) ⟨z_blind, va_recv hKc hPc (ci := 2) (q0 := 0) rfl rfl, z_pre hPc hKc hDc⟩ rfl rfl hl.1 rfl (lv_room (Nat.le_of_ble_eq_true rfl)) dX11_holds_41 ⟨Nat.le_of_ble_eq_true rfl, Nat.le_of_ble_eq_true rfl⟩) hS (fun q _ h => hFc q h) hFc (fun u t H_29 locs ht hvm hw_31 hB hz1 hk1 hS => ?_)
          obtain ⟨n_h0_whole_32, n_h0_least_33, n_h0_greatest_34, g_h3_35, g_h4_36, hP1, hK1, hD1⟩ := hB
          rw [ht] at hP1
          have hK1 := va_K.moved hvm.symm hK1
          obtain ⟨hP, hD⟩ := z_ap_13 (va_join (wr := [(h0, .inr (11, [h0_0, .ref hbk, .ref hkn, .ref a_gd, h0_4, h0_5, h0_6, h0_7, h0_8, h0_9])), (hkn, .inr (4, [.ref hbk, .int n_hkn_notesSeen_16, .int n_hkn_layersSeen_17, .ref hk9, .ref hlt, .ref hrk, .ref hbd, .ref hle, .ref hgr, .int n_hkn_clash_18])), (hbk, .inr (0, [.ref hs, .ref ha, .ref hb9, .ref hc9, .int bn, .int bl])), (hk9, .inl (chk9, 80, .inl g_hk9_19)), (hs, .inl (chs, 80, .inl fhs)), (ha, .inl (cha, 80, .inl fha)), (hb9, .inl (chb9, 80, .inl fhb9)), (hc9, .inl (chc9, 80, .inl fhc9)), (hbd, .inl (chbd, 12, .inl g_hbd_20)), (hlt, .inl (chlt, 12, .inl g_hlt_21)), (hrk, .inl (chrk, 12, .inl g_hrk_22)), (hle, .inl (chle, 12, .inl g_hle_23)), (hgr, .inl (chgr, 12, .inl g_hgr_24))]) hP hD [0, 1, 2, 3, 4, 5] [6, 7, 8, 9, 10, 11, 12, 13, 14, 15, 16, 17, 18] rfl rfl (by decide) (by decide) hk1 hFc hP1 hD1)
          clear hPc hDc hKc
          refine lv_iload_n hx hb dX11_holds_44 rfl (lv_at hl 2 rfl) ?_
          refine lv_if_ne (tgt := 56) hx hb dX11_holds_45 (by decide) (fun c_37 => ?_) (fun c_37 => ?_)
          · have k_38 : (p2).toInt ≠ (0 : Int) := z_ne c_37
            refine lv_iload_n hx hb dX11_holds_56 rfl (lv_at hl 2 rfl) ?_
            refine lv_iconst (v := 1) hx hb dX11_holds_57 (by decide) ?_
            refine lv_icmp_ne (tgt := 71) hx hb dX11_holds_58 (by decide) (fun c_39 => ?_) (fun c_39 => ?_)
            · have k_40 : (p2).toInt ≠ (1 : Int) := z_ne c_39
              refine lv_aload_n hx hb dX11_holds_71 rfl (lv_at hl 0 rfl) ?_
              refine va_get (D := (dC, dI)) (ci := 11) (v := .ref a_gd) (C := RX11) (T := TX11) (N := 10) hx hb hts hiX11 hown hK hP 0 rfl rfl 3 (by decide) w__fieldLink_RX11_35_ShellHeap_ground_LShellHeap_Ground_ (fun _ h9 => h9) rfl dX11_holds_72 ?_
              refine va_get (D := (dC, dI)) (ci := 2) (v := .int n_h0_greatest_34) (C := RX2) (T := TX2) (N := 11) hx hb hts hiX2 hown hK hP 13 rfl rfl 10 (by decide) w__fieldLink_RX11_198_ShellHeap_Ground_greatest_I_ (fun _ h9 => h9) rfl dX11_holds_75 ?_
              have hP9 := hP
              have hD9 := hD
              have hK9 := hK.sub (tys' := []) [] rfl
              refine W.widen (k := 0) (n := 0) (Nat.le_of_ble_eq_true rfl) (Nat.le_of_ble_eq_true rfl) ?_
              exact W.iret (v := n_h0_greatest_34) hx hb hr (fun t ht hW => ⟨⟨n_h0_greatest_34, (), rfl, trivial, ⟨n_hkn_notesSeen_16, n_hkn_layersSeen_17, n_hkn_clash_18, g_hk9_19, g_hbd_20, g_hlt_21, g_hrk_22, g_hle_23, g_hgr_24, n_h0_whole_32, n_h0_least_33, n_h0_greatest_34, g_h3_35, g_h4_36, hp_25, hp_26, hp_27, hp_28, by rw [ht]; exact hP9, va_K.moved hW.alike hK9, hD9⟩⟩, hS.F ht⟩) hS.2.2 dX11_holds_78
            · have k_41 : (p2).toInt = (1 : Int) := z_eq c_39
              refine lv_aload_n hx hb dX11_holds_61 rfl (lv_at hl 0 rfl) ?_
              refine va_get (D := (dC, dI)) (ci := 11) (v := .ref a_gd) (C := RX11) (T := TX11) (N := 10) hx hb hts hiX11 hown hK hP 0 rfl rfl 3 (by decide) w__fieldLink_RX11_35_ShellHeap_ground_LShellHeap_Ground_ (fun _ h9 => h9) rfl dX11_holds_62 ?_
              refine va_get (D := (dC, dI)) (ci := 2) (v := .int n_h0_least_33) (C := RX2) (T := TX2) (N := 11) hx hb hts hiX2 hown hK hP 13 rfl rfl 9 (by decide) w__fieldLink_RX11_196_ShellHeap_Ground_least_I_ (fun _ h9 => h9) rfl dX11_holds_65 ?_
              refine lv_goto (tgt := 78) hx hb dX11_holds_68 (by decide) ?_
              have hP9 := hP
              have hD9 := hD
              have hK9 := hK.sub (tys' := []) [] rfl
              refine W.widen (k := 0) (n := 0) (Nat.le_of_ble_eq_true rfl) (Nat.le_of_ble_eq_true rfl) ?_
              exact W.iret (v := n_h0_least_33) hx hb hr (fun t ht hW => ⟨⟨n_h0_least_33, (), rfl, trivial, ⟨n_hkn_notesSeen_16, n_hkn_layersSeen_17, n_hkn_clash_18, g_hk9_19, g_hbd_20, g_hlt_21, g_hrk_22, g_hle_23, g_hgr_24, n_h0_whole_32, n_h0_least_33, n_h0_greatest_34, g_h3_35, g_h4_36, hp_25, hp_26, hp_27, hp_28, by rw [ht]; exact hP9, va_K.moved hW.alike hK9, hD9⟩⟩, hS.F ht⟩) hS.2.2 dX11_holds_78
          · have k_42 : (p2).toInt = (0 : Int) := z_eq c_37
            refine lv_aload_n hx hb dX11_holds_48 rfl (lv_at hl 0 rfl) ?_
            refine va_get (D := (dC, dI)) (ci := 11) (v := .ref a_gd) (C := RX11) (T := TX11) (N := 10) hx hb hts hiX11 hown hK hP 0 rfl rfl 3 (by decide) w__fieldLink_RX11_35_ShellHeap_ground_LShellHeap_Ground_ (fun _ h9 => h9) rfl dX11_holds_49 ?_
            refine va_get (D := (dC, dI)) (ci := 2) (v := .int n_h0_whole_32) (C := RX2) (T := TX2) (N := 11) hx hb hts hiX2 hown hK hP 13 rfl rfl 8 (by decide) w__fieldLink_RX11_193_ShellHeap_Ground_whole_I_ (fun _ h9 => h9) rfl dX11_holds_52 ?_
            have hP9 := hP
            have hD9 := hD
            have hK9 := hK.sub (tys' := []) [] rfl
            refine W.widen (k := 0) (n := 0) (Nat.le_of_ble_eq_true rfl) (Nat.le_of_ble_eq_true rfl) ?_
            exact W.iret (v := n_h0_whole_32) hx hb hr (fun t ht hW => ⟨⟨n_h0_whole_32, (), rfl, trivial, ⟨n_hkn_notesSeen_16, n_hkn_layersSeen_17, n_hkn_clash_18, g_hk9_19, g_hbd_20, g_hlt_21, g_hrk_22, g_hle_23, g_hgr_24, n_h0_whole_32, n_h0_least_33, n_h0_greatest_34, g_h3_35, g_h4_36, hp_25, hp_26, hp_27, hp_28, by rw [ht]; exact hP9, va_K.moved hW.alike hK9, hD9⟩⟩, hS.F ht⟩) hS.2.2 dX11_holds_55
        · have k_43 : (gc).toInt = (0 : Int) := z_eq c_11
          refine lv_iconst (v := (-1)) hx hb dX11_holds_30 (by decide) ?_
          have hP9 := hP
          have hD9 := hD
          have hK9 := hK.sub (tys' := []) [] rfl
          refine W.widen (k := 0) (n := 0) (Nat.le_of_ble_eq_true rfl) (Nat.le_of_ble_eq_true rfl) ?_
          exact W.iret (v := (-1)) hx hb hr (fun t ht hW => ⟨⟨(-1), (), rfl, trivial, ⟨kn, kl, kc, fhk9, fhbd, fhlt, fhrk, fhle, fhgr, go, gl, gg, fa_g3, fa_g4, hB_kn, hB_kl, hB_kc, hI_hbd, by rw [ht]; exact hP9, va_K.moved hW.alike hK9, hD9⟩⟩, hS.F ht⟩) hS.2.2 dX11_holds_31
  · have hw_3 : True := hw_3
    refine lv_if_eq (tgt := 30) hx hb dX11_holds_8 (by decide) (fun _ => ?_) (fun c_44 => absurd (by decide) c_44)
    refine lv_iconst (v := (-1)) hx hb dX11_holds_30 (by decide) ?_
    have hP9 := hP
    have hD9 := hD
    have hK9 := hK.sub (tys' := []) [] rfl
    refine W.widen (k := 0) (n := 0) (Nat.le_of_ble_eq_true rfl) (Nat.le_of_ble_eq_true rfl) ?_
    exact W.iret (v := (-1)) hx hb hr (fun t ht hW => ⟨⟨(-1), (), rfl, trivial, ⟨kn, kl, kc, fhk9, fhbd, fhlt, fhrk, fhle, fhgr, go, gl, gg, fa_g3, fa_g4, hB_kn, hB_kl, hB_kc, hI_hbd, by rw [ht]; exact hP9, va_K.moved hW.alike hK9, hD9⟩⟩, hS.F ht⟩) hS.2.2 dX11_holds_31
