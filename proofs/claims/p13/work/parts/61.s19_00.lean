def u_s_L_count_in : List Cond := .codeWith yL_count cL_count 4 (some .int) [(0, 9, 12, 13)] :: ([.methodLink RL 7 yX11_count, .instanceMethod yX11_count, .selects RX11 yX11_count yX11_count, .initialized RX11] ++ (u_s_X11_count ++ []))
theorem gd_s_L_count_in : z_gd u_s_L_count_in := z_gdc (by decide +kernel) (z_gda gd_s_X11_count (z_gd0))
set_option maxRecDepth 20000 in
theorem gw_s_L_count_in_s_X11_count_7 : GoodIn u_s_L_count_in (wsV RL 7 RX11 yX11_count u_s_X11_count) := z_gV (z_gr _ [1, 2, 3, 4] rfl (by decide +kernel)) (fun w h => ⟨z_mc (z_mr (z_ml h)), gd_s_X11_count w h⟩)
set_option maxHeartbeats 4000000 in
set_option maxRecDepth 100000 in
theorem s_L_count_in (l : Launch) (dC : Nat → ClassId) (dI : Nat → Nat → Nat) (sz : Nat) (h0 : Nat) (p1 : Int32) (ho : Nat) (h0_0 : Value) (hbk : Nat) (hkn : Nat) (a_gd : Nat) (a_pa : Nat) (h0_5 : Value) (a_sz : Nat) (h0_7 : Value) (a_rr : Nat) (h0_9 : Value) (kn : Int32) (kl : Int32) (hk9 : Nat) (hlt : Nat) (hrk : Nat) (hbd : Nat) (hle : Nat) (hgr : Nat) (kc : Int32) (hs : Nat) (ha : Nat) (hb9 : Nat) (hc9 : Nat) (bn : Int32) (bl : Int32) (chk9 : ClassId) (fhk9 : Nat → Int32) (chs : ClassId) (fhs : Nat → Int32) (cha : ClassId) (fha : Nat → Int32) (chb9 : ClassId) (fhb9 : Nat → Int32) (chc9 : ClassId) (fhc9 : Nat → Int32) (chbd : ClassId) (fhbd : Nat → Int32) (chlt : ClassId) (fhlt : Nat → Int32) (chrk : ClassId) (fhrk : Nat → Int32) (chle : ClassId) (fhle : Nat → Int32) (chgr : ClassId) (fhgr : Nat → Int32) (a_gd_0 : Value) (a_gd_1 : Value) (a_gd_2 : Value) (a_gd_3 : Value) (a_gd_4 : Value) (a_gd_5 : Value) (a_gd_6 : Value) (gc : Int32) (a_gd_8 : Value) (a_gd_9 : Value) (a_gd_10 : Value) (a_pa_0 : Value) (a_pa_1 : Value) (a_pa_2 : Value) (a_pa_3 : Value) (a_pa_4 : Value) (a_pa_5 : Value) (a_pa_6 : Value) (a_pa_7 : Value) (a_pa_8 : Value) (pk : Int32) (a_sz_0 : Value) (a_sz_1 : Value) (a_sz_2 : Value) (sm : Int32) (a_rr_0 : Value) (a_rr_1 : Value) (a_rr_2 : Value) (a_rr_3 : Value) (a_rr_4 : Value) (a_rr_5 : Value) (a_rr_6 : Value) (a_rr_7 : Value) (a_ru : Nat) (a_ru_0 : Value) (a_ru_1 : Value) (a_ru_2 : Value) (a_ru_3 : Value) (rc : Int32) (rk : Int32) (cho : ClassId) (fho : Nat → Int64) (hB_kn : ((-1 : Int) ≤ (kn).toInt ∧ (kn).toInt ≤ (80 : Int))) (hB_kl : ((-1 : Int) ≤ (kl).toInt ∧ (kl).toInt ≤ (12 : Int))) (hB_kc : ((0 : Int) ≤ (kc).toInt ∧ (kc).toInt ≤ (2 : Int))) (hB_bl : ((0 : Int) ≤ (bl).toInt ∧ (bl).toInt ≤ (12 : Int))) (hB_bn : ((0 : Int) ≤ (bn).toInt ∧ (bn).toInt ≤ (80 : Int))) (hB_p1 : ((0 : Int) ≤ (p1).toInt ∧ (p1).toInt ≤ (7 : Int))) (hI_ha : ∀ j : Nat, ((0 : Int) ≤ (fha j).toInt ∧ (fha j).toInt ≤ (79 : Int))) (hI_hbd : ∀ j : Nat, ((0 : Int) ≤ (fhbd j).toInt ∧ (fhbd j).toInt ≤ (11 : Int))) (hR : ∀ j : Nat, z_rel (fhs j) (fha j) (fhb9 j)) : Met l yL_count u_s_L_count_in ({ frames := 5, cells := 0, slots := 0, locals := 108 }) (va_Pc [.ref h0, .int p1, .ref ho] (z_C (dC, dI) vwCl [(h0, .inr (11, [h0_0, .ref hbk, .ref hkn, .ref a_gd, .ref a_pa, h0_5, .ref a_sz, h0_7, .ref a_rr, h0_9])), (hkn, .inr (4, [.ref hbk, .int kn, .int kl, .ref hk9, .ref hlt, .ref hrk, .ref hbd, .ref hle, .ref hgr, .int kc])), (hbk, .inr (0, [.ref hs, .ref ha, .ref hb9, .ref hc9, .int bn, .int bl])), (hk9, .inl (chk9, 80, .inl fhk9)), (hs, .inl (chs, 80, .inl fhs)), (ha, .inl (cha, 80, .inl fha)), (hb9, .inl (chb9, 80, .inl fhb9)), (hc9, .inl (chc9, 80, .inl fhc9)), (hbd, .inl (chbd, 12, .inl fhbd)), (hlt, .inl (chlt, 12, .inl fhlt)), (hrk, .inl (chrk, 12, .inl fhrk)), (hle, .inl (chle, 12, .inl fhle)), (hgr, .inl (chgr, 12, .inl fhgr)), (a_gd, .inr (2, [a_gd_0, a_gd_1, a_gd_2, a_gd_3, a_gd_4, a_gd_5, a_gd_6, .int gc, a_gd_8, a_gd_9, a_gd_10])), (a_pa, .inr (5, [a_pa_0, a_pa_1, a_pa_2, a_pa_3, a_pa_4, a_pa_5, a_pa_6, a_pa_7, a_pa_8, .int pk])), (a_sz, .inr (9, [a_sz_0, a_sz_1, a_sz_2, .int sm])), (a_rr, .inr (8, [a_rr_0, a_rr_1, a_rr_2, a_rr_3, a_rr_4, a_rr_5, a_rr_6, a_rr_7, .ref a_ru])), (a_ru, .inr (7, [a_ru_0, a_ru_1, a_ru_2, a_ru_3, .int rc, .int rk])), (ho, .inl (cho, 1, .inr (.inl fho)))] [(chk9, .boolean), (chs, .int), (cha, .int), (chb9, .int), (chc9, .int), (chbd, .int), (chlt, .int), (chrk, .int), (chle, .int), (chgr, .int), (cho, .long)] sz)) (va_Qi (fun (r : Int32) (_ : Unit) => True) (fun (_ : Unit) (t : State) => ∃ (n_hkn_notesSeen : Int32), ∃ (n_hkn_layersSeen : Int32), ∃ (n_hkn_clash : Int32), ∃ (g_hk9 : Nat → Int32), ∃ (g_hbd : Nat → Int32), ∃ (g_hlt : Nat → Int32), ∃ (g_hrk : Nat → Int32), ∃ (g_hle : Nat → Int32), ∃ (g_hgr : Nat → Int32), ∃ (g_ho : Nat → Int64), ((-1 : Int) ≤ (n_hkn_notesSeen).toInt ∧ (n_hkn_notesSeen).toInt ≤ (80 : Int)) ∧ ((-1 : Int) ≤ (n_hkn_layersSeen).toInt ∧ (n_hkn_layersSeen).toInt ≤ (12 : Int)) ∧ ((0 : Int) ≤ (n_hkn_clash).toInt ∧ (n_hkn_clash).toInt ≤ (2 : Int)) ∧ (∀ j : Nat, ((0 : Int) ≤ (g_hbd j).toInt ∧ (g_hbd j).toInt ≤ (11 : Int))) ∧ va_P (dC, dI) vwCl [(h0, .inr (11, [h0_0, .ref hbk, .ref hkn, .ref a_gd, .ref a_pa, h0_5, .ref a_sz, h0_7, .ref a_rr, h0_9])), (hkn, .inr (4, [.ref hbk, .int n_hkn_notesSeen, .int n_hkn_layersSeen, .ref hk9, .ref hlt, .ref hrk, .ref hbd, .ref hle, .ref hgr, .int n_hkn_clash])), (hbk, .inr (0, [.ref hs, .ref ha, .ref hb9, .ref hc9, .int bn, .int bl])), (hk9, .inl (chk9, 80, .inl g_hk9)), (hs, .inl (chs, 80, .inl fhs)), (ha, .inl (cha, 80, .inl fha)), (hb9, .inl (chb9, 80, .inl fhb9)), (hc9, .inl (chc9, 80, .inl fhc9)), (hbd, .inl (chbd, 12, .inl g_hbd)), (hlt, .inl (chlt, 12, .inl g_hlt)), (hrk, .inl (chrk, 12, .inl g_hrk)), (hle, .inl (chle, 12, .inl g_hle)), (hgr, .inl (chgr, 12, .inl g_hgr)), (a_gd, .inr (2, [a_gd_0, a_gd_1, a_gd_2, a_gd_3, a_gd_4, a_gd_5, a_gd_6, .int gc, a_gd_8, a_gd_9, a_gd_10])), (a_pa, .inr (5, [a_pa_0, a_pa_1, a_pa_2, a_pa_3, a_pa_4, a_pa_5, a_pa_6, a_pa_7, a_pa_8, .int pk])), (a_sz, .inr (9, [a_sz_0, a_sz_1, a_sz_2, .int sm])), (a_rr, .inr (8, [a_rr_0, a_rr_1, a_rr_2, a_rr_3, a_rr_4, a_rr_5, a_rr_6, a_rr_7, .ref a_ru])), (a_ru, .inr (7, [a_ru_0, a_ru_1, a_ru_2, a_ru_3, .int rc, .int rk])), (ho, .inl (cho, 1, .inr (.inl g_ho)))] t.heap ∧ va_K (dC, dI) vwCl [] t ∧ va_D (va_A [(h0, .inr (11, [h0_0, .ref hbk, .ref hkn, .ref a_gd, .ref a_pa, h0_5, .ref a_sz, h0_7, .ref a_rr, h0_9])), (hkn, .inr (4, [.ref hbk, .int kn, .int kl, .ref hk9, .ref hlt, .ref hrk, .ref hbd, .ref hle, .ref hgr, .int kc])), (hbk, .inr (0, [.ref hs, .ref ha, .ref hb9, .ref hc9, .int bn, .int bl])), (hk9, .inl (chk9, 80, .inl fhk9)), (hs, .inl (chs, 80, .inl fhs)), (ha, .inl (cha, 80, .inl fha)), (hb9, .inl (chb9, 80, .inl fhb9)), (hc9, .inl (chc9, 80, .inl fhc9)), (hbd, .inl (chbd, 12, .inl fhbd)), (hlt, .inl (chlt, 12, .inl fhlt)), (hrk, .inl (chrk, 12, .inl fhrk)), (hle, .inl (chle, 12, .inl fhle)), (hgr, .inl (chgr, 12, .inl fhgr)), (a_gd, .inr (2, [a_gd_0, a_gd_1, a_gd_2, a_gd_3, a_gd_4, a_gd_5, a_gd_6, .int gc, a_gd_8, a_gd_9, a_gd_10])), (a_pa, .inr (5, [a_pa_0, a_pa_1, a_pa_2, a_pa_3, a_pa_4, a_pa_5, a_pa_6, a_pa_7, a_pa_8, .int pk])), (a_sz, .inr (9, [a_sz_0, a_sz_1, a_sz_2, .int sm])), (a_rr, .inr (8, [a_rr_0, a_rr_1, a_rr_2, a_rr_3, a_rr_4, a_rr_5, a_rr_6, a_rr_7, .ref a_ru])), (a_ru, .inr (7, [a_ru_0, a_ru_1, a_ru_2, a_ru_3, .int rc, .int rk])), (ho, .inl (cho, 1, .inr (.inl fho)))] sz) [(h0, .inr (11, [h0_0, .ref hbk, .ref hkn, .ref a_gd, .ref a_pa, h0_5, .ref a_sz, h0_7, .ref a_rr, h0_9])), (hkn, .inr (4, [.ref hbk, .int n_hkn_notesSeen, .int n_hkn_layersSeen, .ref hk9, .ref hlt, .ref hrk, .ref hbd, .ref hle, .ref hgr, .int n_hkn_clash])), (hbk, .inr (0, [.ref hs, .ref ha, .ref hb9, .ref hc9, .int bn, .int bl])), (hk9, .inl (chk9, 80, .inl g_hk9)), (hs, .inl (chs, 80, .inl fhs)), (ha, .inl (cha, 80, .inl fha)), (hb9, .inl (chb9, 80, .inl fhb9)), (hc9, .inl (chc9, 80, .inl fhc9)), (hbd, .inl (chbd, 12, .inl g_hbd)), (hlt, .inl (chlt, 12, .inl g_hlt)), (hrk, .inl (chrk, 12, .inl g_hrk)), (hle, .inl (chle, 12, .inl g_hle)), (hgr, .inl (chgr, 12, .inl g_hgr)), (a_gd, .inr (2, [a_gd_0, a_gd_1, a_gd_2, a_gd_3, a_gd_4, a_gd_5, a_gd_6, .int gc, a_gd_8, a_gd_9, a_gd_10])), (a_pa, .inr (5, [a_pa_0, a_pa_1, a_pa_2, a_pa_3, a_pa_4, a_pa_5, a_pa_6, a_pa_7, a_pa_8, .int pk])), (a_sz, .inr (9, [a_sz_0, a_sz_1, a_sz_2, .int sm])), (a_rr, .inr (8, [a_rr_0, a_rr_1, a_rr_2, a_rr_3, a_rr_4, a_rr_5, a_rr_6, a_rr_7, .ref a_ru])), (a_ru, .inr (7, [a_ru_0, a_ru_1, a_ru_2, a_ru_3, .int rc, .int rk])), (ho, .inl (cho, 1, .inr (.inl g_ho)))]) (va_A [(h0, .inr (11, [h0_0, .ref hbk, .ref hkn, .ref a_gd, .ref a_pa, h0_5, .ref a_sz, h0_7, .ref a_rr, h0_9])), (hkn, .inr (4, [.ref hbk, .int kn, .int kl, .ref hk9, .ref hlt, .ref hrk, .ref hbd, .ref hle, .ref hgr, .int kc])), (hbk, .inr (0, [.ref hs, .ref ha, .ref hb9, .ref hc9, .int bn, .int bl])), (hk9, .inl (chk9, 80, .inl fhk9)), (hs, .inl (chs, 80, .inl fhs)), (ha, .inl (cha, 80, .inl fha)), (hb9, .inl (chb9, 80, .inl fhb9)), (hc9, .inl (chc9, 80, .inl fhc9)), (hbd, .inl (chbd, 12, .inl fhbd)), (hlt, .inl (chlt, 12, .inl fhlt)), (hrk, .inl (chrk, 12, .inl fhrk)), (hle, .inl (chle, 12, .inl fhle)), (hgr, .inl (chgr, 12, .inl fhgr)), (a_gd, .inr (2, [a_gd_0, a_gd_1, a_gd_2, a_gd_3, a_gd_4, a_gd_5, a_gd_6, .int gc, a_gd_8, a_gd_9, a_gd_10])), (a_pa, .inr (5, [a_pa_0, a_pa_1, a_pa_2, a_pa_3, a_pa_4, a_pa_5, a_pa_6, a_pa_7, a_pa_8, .int pk])), (a_sz, .inr (9, [a_sz_0, a_sz_1, a_sz_2, .int sm])), (a_rr, .inr (8, [a_rr_0, a_rr_1, a_rr_2, a_rr_3, a_rr_4, a_rr_5, a_rr_6, a_rr_7, .ref a_ru])), (a_ru, .inr (7, [a_ru_0, a_ru_1, a_ru_2, a_ru_3, .int rc, .int rk])), (ho, .inl (cho, 1, .inr (.inl fho)))] sz)) 0 0 (va_A [(h0, .inr (11, [h0_0, .ref hbk, .ref hkn, .ref a_gd, .ref a_pa, h0_5, .ref a_sz, h0_7, .ref a_rr, h0_9])), (hkn, .inr (4, [.ref hbk, .int kn, .int kl, .ref hk9, .ref hlt, .ref hrk, .ref hbd, .ref hle, .ref hgr, .int kc])), (hbk, .inr (0, [.ref hs, .ref ha, .ref hb9, .ref hc9, .int bn, .int bl])), (hk9, .inl (chk9, 80, .inl fhk9)), (hs, .inl (chs, 80, .inl fhs)), (ha, .inl (cha, 80, .inl fha)), (hb9, .inl (chb9, 80, .inl fhb9)), (hc9, .inl (chc9, 80, .inl fhc9)), (hbd, .inl (chbd, 12, .inl fhbd)), (hlt, .inl (chlt, 12, .inl fhlt)), (hrk, .inl (chrk, 12, .inl fhrk)), (hle, .inl (chle, 12, .inl fhle)), (hgr, .inl (chgr, 12, .inl fhgr)), (a_gd, .inr (2, [a_gd_0, a_gd_1, a_gd_2, a_gd_3, a_gd_4, a_gd_5, a_gd_6, .int gc, a_gd_8, a_gd_9, a_gd_10])), (a_pa, .inr (5, [a_pa_0, a_pa_1, a_pa_2, a_pa_3, a_pa_4, a_pa_5, a_pa_6, a_pa_7, a_pa_8, .int pk])), (a_sz, .inr (9, [a_sz_0, a_sz_1, a_sz_2, .int sm])), (a_rr, .inr (8, [a_rr_0, a_rr_1, a_rr_2, a_rr_3, a_rr_4, a_rr_5, a_rr_6, a_rr_7, .ref a_ru])), (a_ru, .inr (7, [a_ru_0, a_ru_1, a_ru_2, a_ru_3, .int rc, .int rk])), (ho, .inl (cho, 1, .inr (.inl fho)))] sz) := by
  refine z_ofWH (cc := cL_count) (maxL := 4) (ret := (some .int)) (hh := [(0, 9, 12, 13)]) (by decide) rfl ?_
  intro p e s m args below meth c s₁ B hml hv
  obtain ⟨rfl, hsz, hP, hK, hD0⟩ := hv
  have hx := B.exec
  have hb := B.bytes
  have hr := B.returns
  have hts := atoms_spec (ws := u_s_L_count_in) B.pre
  have hown : s.vm.findClass RL = some m.cls := findClass_of_methodNamed B.named
  have hlocks := B.notSynchronized
  subst hsz
  have hD := hD0.self (sz := s.heap.size)
  generalize hAe : va_A [(h0, .inr (11, [h0_0, .ref hbk, .ref hkn, .ref a_gd, .ref a_pa, h0_5, .ref a_sz, h0_7, .ref a_rr, h0_9])), (hkn, .inr (4, [.ref hbk, .int kn, .int kl, .ref hk9, .ref hlt, .ref hrk, .ref hbd, .ref hle, .ref hgr, .int kc])), (hbk, .inr (0, [.ref hs, .ref ha, .ref hb9, .ref hc9, .int bn, .int bl])), (hk9, .inl (chk9, 80, .inl fhk9)), (hs, .inl (chs, 80, .inl fhs)), (ha, .inl (cha, 80, .inl fha)), (hb9, .inl (chb9, 80, .inl fhb9)), (hc9, .inl (chc9, 80, .inl fhc9)), (hbd, .inl (chbd, 12, .inl fhbd)), (hlt, .inl (chlt, 12, .inl fhlt)), (hrk, .inl (chrk, 12, .inl fhrk)), (hle, .inl (chle, 12, .inl fhle)), (hgr, .inl (chgr, 12, .inl fhgr)), (a_gd, .inr (2, [a_gd_0, a_gd_1, a_gd_2, a_gd_3, a_gd_4, a_gd_5, a_gd_6, .int gc, a_gd_8, a_gd_9, a_gd_10])), (a_pa, .inr (5, [a_pa_0, a_pa_1, a_pa_2, a_pa_3, a_pa_4, a_pa_5, a_pa_6, a_pa_7, a_pa_8, .int pk])), (a_sz, .inr (9, [a_sz_0, a_sz_1, a_sz_2, .int sm])), (a_rr, .inr (8, [a_rr_0, a_rr_1, a_rr_2, a_rr_3, a_rr_4, a_rr_5, a_rr_6, a_rr_7, .ref a_ru])), (a_ru, .inr (7, [a_ru_0, a_ru_1, a_ru_2, a_ru_3, .int rc, .int rk])), (ho, .inl (cho, 1, .inr (.inl fho)))] s.heap.size = A at hD ⊢
  have hA : ∀ q : Nat, s.heap.size ≤ q → A q := fun q h => by rw [← hAe]; exact Or.inr h
  have hS : va_S A s.heap s.heap [] := va_S.rf
  have hP : va_P (dC, dI) vwCl [(h0, .inr (11, [h0_0, .ref hbk, .ref hkn, .ref a_gd, .ref a_pa, h0_5, .ref a_sz, h0_7, .ref a_rr, h0_9])), (hkn, .inr (4, [.ref hbk, .int kn, .int kl, .ref hk9, .ref hlt, .ref hrk, .ref hbd, .ref hle, .ref hgr, .int kc])), (hbk, .inr (0, [.ref hs, .ref ha, .ref hb9, .ref hc9, .int bn, .int bl])), (hk9, .inl (chk9, 80, .inl fhk9)), (hs, .inl (chs, 80, .inl fhs)), (ha, .inl (cha, 80, .inl fha)), (hb9, .inl (chb9, 80, .inl fhb9)), (hc9, .inl (chc9, 80, .inl fhc9)), (hbd, .inl (chbd, 12, .inl fhbd)), (hlt, .inl (chlt, 12, .inl fhlt)), (hrk, .inl (chrk, 12, .inl fhrk)), (hle, .inl (chle, 12, .inl fhle)), (hgr, .inl (chgr, 12, .inl fhgr)), (a_gd, .inr (2, [a_gd_0, a_gd_1, a_gd_2, a_gd_3, a_gd_4, a_gd_5, a_gd_6, .int gc, a_gd_8, a_gd_9, a_gd_10])), (a_pa, .inr (5, [a_pa_0, a_pa_1, a_pa_2, a_pa_3, a_pa_4, a_pa_5, a_pa_6, a_pa_7, a_pa_8, .int pk])), (a_sz, .inr (9, [a_sz_0, a_sz_1, a_sz_2, .int sm])), (a_rr, .inr (8, [a_rr_0, a_rr_1, a_rr_2, a_rr_3, a_rr_4, a_rr_5, a_rr_6, a_rr_7, .ref a_ru])), (a_ru, .inr (7, [a_ru_0, a_ru_1, a_ru_2, a_ru_3, .int rc, .int rk])), (ho, .inl (cho, 1, .inr (.inl fho)))] s.heap := hP
  have hl := lv_entry ([.ref h0, .int p1, .ref ho]) (n := 4) (Nat.le_of_ble_eq_true rfl)
  rw [lg_entry_eq]
  generalize (lg_sl ([.ref h0, .int p1, .ref ho]) ++ List.replicate (4 - (lg_sl ([.ref h0, .int p1, .ref ho])).length) Slot.unset).toArray = ls at hl ⊢
  have hl : lv_has ls 4 [(0, .ref h0), (1, .int p1), (2, .ref ho)] := hl
  refine lv_aload_n hx hb dL_count_0 rfl (lv_at hl 2 rfl) ?_
  refine lv_iconst (v := 0) hx hb dL_count_1 (by decide) ?_
  refine lv_aload_n hx hb dL_count_2 rfl (lv_at hl 0 rfl) ?_
  refine lv_iload_n hx hb dL_count_3 rfl (lv_at hl 1 rfl) ?_
  obtain ⟨hPc, hDc, hFc⟩ := z_sub3 (ws' := [(h0, .inr (11, [h0_0, .ref hbk, .ref hkn, .ref a_gd, .ref a_pa, h0_5, .ref a_sz, h0_7, .ref a_rr, h0_9])), (hkn, .inr (4, [.ref hbk, .int kn, .int kl, .ref hk9, .ref hlt, .ref hrk, .ref hbd, .ref hle, .ref hgr, .int kc])), (hbk, .inr (0, [.ref hs, .ref ha, .ref hb9, .ref hc9, .int bn, .int bl])), (hk9, .inl (chk9, 80, .inl fhk9)), (hs, .inl (chs, 80, .inl fhs)), (ha, .inl (cha, 80, .inl fha)), (hb9, .inl (chb9, 80, .inl fhb9)), (hc9, .inl (chc9, 80, .inl fhc9)), (hbd, .inl (chbd, 12, .inl fhbd)), (hlt, .inl (chlt, 12, .inl fhlt)), (hrk, .inl (chrk, 12, .inl fhrk)), (hle, .inl (chle, 12, .inl fhle)), (hgr, .inl (chgr, 12, .inl fhgr)), (a_gd, .inr (2, [a_gd_0, a_gd_1, a_gd_2, a_gd_3, a_gd_4, a_gd_5, a_gd_6, .int gc, a_gd_8, a_gd_9, a_gd_10])), (a_pa, .inr (5, [a_pa_0, a_pa_1, a_pa_2, a_pa_3, a_pa_4, a_pa_5, a_pa_6, a_pa_7, a_pa_8, .int pk])), (a_sz, .inr (9, [a_sz_0, a_sz_1, a_sz_2, .int sm])), (a_rr, .inr (8, [a_rr_0, a_rr_1, a_rr_2, a_rr_3, a_rr_4, a_rr_5, a_rr_6, a_rr_7, .ref a_ru])), (a_ru, .inr (7, [a_ru_0, a_ru_1, a_ru_2, a_ru_3, .int rc, .int rk]))]) hP hD hS hA [0, 1, 2, 3, 4, 5, 6, 7, 8, 9, 10, 11, 12, 13, 14, 15, 16, 17] (by decide) rfl
  have hKc := hK.sub (tys' := [(chk9, .boolean), (chs, .int), (cha, .int), (chb9, .int), (chc9, .int), (chbd, .int), (chlt, .int), (chrk, .int), (chle, .int), (chgr, .int)]) [0, 1, 2, 3, 4, 5, 6, 7, 8, 9] rfl
  refine va_calli (va_runV (As := [.int p1]) (rest := [.int 0, .ref ho]) ⟨hx, hb, hml, hown, hts⟩ (s_X11_count l dC dI s.heap.size h0 p1 h0_0 hbk hkn a_gd a_pa h0_5 a_sz h0_7 a_rr h0_9 kn kl hk9 hlt hrk hbd hle hgr kc hs ha hb9 hc9 bn bl chk9 fhk9 chs fhs cha fha chb9 fhb9 chc9 fhc9 chbd fhbd chlt fhlt chrk fhrk chle fhle chgr fhgr a_gd_0 a_gd_1 a_gd_2 a_gd_3 a_gd_4 a_gd_5 a_gd_6 gc a_gd_8 a_gd_9 a_gd_10 a_pa_0 a_pa_1 a_pa_2 a_pa_3 a_pa_4 a_pa_5 a_pa_6 a_pa_7 a_pa_8 pk a_sz_0 a_sz_1 a_sz_2 sm a_rr_0 a_rr_1 a_rr_2 a_rr_3 a_rr_4 a_rr_5 a_rr_6 a_rr_7 a_ru a_ru_0 a_ru_1 a_ru_2 a_ru_3 rc rk hB_kn hB_kl hB_kc hB_bl hB_bn hB_p1 hI_ha hI_hbd hR) (cwV 1 hts gw_s_L_count_in_s_X11_count_7 rfl rfl rfl (by decide +kernel) ⟨Nat.le_of_ble_eq_true rfl, Nat.le_of_ble_eq_true rfl⟩) ⟨z_blind, va_recv hKc hPc (ci := 11) (q0 := 0) rfl rfl, z_pre hPc hKc hDc⟩ rfl rfl hl.1 rfl (lv_room (Nat.le_of_ble_eq_true rfl)) dL_count_4 ⟨Nat.le_of_ble_eq_true rfl, Nat.le_of_ble_eq_true rfl⟩) hS (fun q _ h => hFc q h) hFc (fun r_2 u t H_1 locs ht hvm hw_3 hB hz1 hk1 hS => ?_)
  obtain ⟨n_hkn_notesSeen_4, n_hkn_layersSeen_5, n_hkn_clash_6, g_hk9_7, g_hbd_8, g_hlt_9, g_hrk_10, g_hle_11, g_hgr_12, hp_13, hp_14, hp_15, hp_16, hP1, hK1, hD1⟩ := hB
  rw [ht] at hP1
  have hK1 := va_K.moved hvm.symm hK1
  obtain ⟨hP, hD⟩ := z_ap_1 (va_join (wr := [(ho, .inl (cho, 1, .inr (.inl fho)))]) hP hD [0, 1, 2, 3, 4, 5, 6, 7, 8, 9, 10, 11, 12, 13, 14, 15, 16, 17] [18] rfl rfl (by decide) (by decide) hk1 hFc hP1 hD1)
  clear hPc hDc hKc
  refine lv_i2l hx hb dL_count_7 rfl ?_
  refine lv_topl (fun z_17 ez_17 => ?_)
  have kz_17 : (z_17).toInt = (r_2).toInt := by rw [ez_17]; exact z_i2l _
  refine va_last hx hb hK hP hD hS 0 10 rfl rfl (by unfold vp_in; decide) dL_count_8 (fun H_18 locs hP hD hS => ?_)
  obtain ⟨hP, hD⟩ := z_s_0 hP hD
  generalize (vp_updL fho (0 : Int32).toNatClampNeg z_17) = f_19 at hP hD
  refine lv_goto (tgt := 15) hx hb dL_count_9 (by decide) ?_
  refine lv_iconst (v := 0) hx hb dL_count_15 (by decide) ?_
  obtain ⟨hP9, hD9⟩ := z_sub2 (ws' := [(h0, .inr (11, [h0_0, .ref hbk, .ref hkn, .ref a_gd, .ref a_pa, h0_5, .ref a_sz, h0_7, .ref a_rr, h0_9])), (hkn, .inr (4, [.ref hbk, .int n_hkn_notesSeen_4, .int n_hkn_layersSeen_5, .ref hk9, .ref hlt, .ref hrk, .ref hbd, .ref hle, .ref hgr, .int n_hkn_clash_6])), (hbk, .inr (0, [.ref hs, .ref ha, .ref hb9, .ref hc9, .int bn, .int bl])), (hk9, .inl (chk9, 80, .inl g_hk9_7)), (hs, .inl (chs, 80, .inl fhs)), (ha, .inl (cha, 80, .inl fha)), (hb9, .inl (chb9, 80, .inl fhb9)), (hc9, .inl (chc9, 80, .inl fhc9)), (hbd, .inl (chbd, 12, .inl g_hbd_8)), (hlt, .inl (chlt, 12, .inl g_hlt_9)), (hrk, .inl (chrk, 12, .inl g_hrk_10)), (hle, .inl (chle, 12, .inl g_hle_11)), (hgr, .inl (chgr, 12, .inl g_hgr_12)), (a_gd, .inr (2, [a_gd_0, a_gd_1, a_gd_2, a_gd_3, a_gd_4, a_gd_5, a_gd_6, .int gc, a_gd_8, a_gd_9, a_gd_10])), (a_pa, .inr (5, [a_pa_0, a_pa_1, a_pa_2, a_pa_3, a_pa_4, a_pa_5, a_pa_6, a_pa_7, a_pa_8, .int pk])), (a_sz, .inr (9, [a_sz_0, a_sz_1, a_sz_2, .int sm])), (a_rr, .inr (8, [a_rr_0, a_rr_1, a_rr_2, a_rr_3, a_rr_4, a_rr_5, a_rr_6, a_rr_7, .ref a_ru])), (a_ru, .inr (7, [a_ru_0, a_ru_1, a_ru_2, a_ru_3, .int rc, .int rk])), (ho, .inl (cho, 1, .inr (.inl f_19)))]) hP hD [1, 2, 3, 4, 5, 6, 7, 8, 9, 10, 11, 12, 13, 14, 15, 16, 17, 18, 0] (by decide) rfl
  have hK9 := hK.sub (tys' := []) [] rfl
  refine W.widen (k := 0) (n := 0) (Nat.le_of_ble_eq_true rfl) (Nat.le_of_ble_eq_true rfl) ?_
  exact W.iret (v := 0) hx hb hr (fun t ht hW => ⟨⟨0, (), rfl, trivial, ⟨n_hkn_notesSeen_4, n_hkn_layersSeen_5, n_hkn_clash_6, g_hk9_7, g_hbd_8, g_hlt_9, g_hrk_10, g_hle_11, g_hgr_12, f_19, hp_13, hp_14, hp_15, hp_16, by rw [ht]; exact hP9, va_K.moved hW.alike hK9, hD9⟩⟩, hS.F ht⟩) hS.2.2 dL_count_16
def u_s_X2_isSideA : List Cond := .code yX2_isSide cX2_isSide 1 (some .boolean) :: ([] ++ [])
theorem gd_s_X2_isSideA : z_gd u_s_X2_isSideA := z_gdc (by decide +kernel) (z_gd0)
set_option maxHeartbeats 4000000 in
set_option maxRecDepth 100000 in
theorem s_X2_isSideA (l : Launch) (dC : Nat → ClassId) (dI : Nat → Nat → Nat) (sz : Nat) (p0 : Int32) : Met l yX2_isSide u_s_X2_isSideA ({ frames := 0, cells := 0, slots := 0, locals := 0 }) (va_Pc [.int p0] (z_C (dC, dI) vwCl [] [] sz)) (va_Qi (fun (r : Int32) (_ : Unit) => (r = 1 ∧ (2 ≤ p0.toInt ∧ p0.toInt ≤ 12)) ∨ (r = 0 ∧ ¬ (2 ≤ p0.toInt ∧ p0.toInt ≤ 12))) (fun (_ : Unit) (_ : State) => True) (va_A [] sz)) 0 0 (va_A [] sz) := by
  refine Met.ofW (cc := cX2_isSide) (maxL := 1) (ret := (some .boolean)) (by decide) rfl ?_
  intro p e s m args below meth c s₁ B hml hv
  obtain ⟨rfl, hsz, hP, hK, hD0⟩ := hv
  have hx := B.exec
  have hb := B.bytes
  have hr := B.returns
  have hts := atoms_spec (ws := u_s_X2_isSideA) B.pre
  have hown : s.vm.findClass RX2 = some m.cls := findClass_of_methodNamed B.named
  have hlocks := B.notSynchronized
  subst hsz
  have hD := hD0
  generalize hAe : va_A [] s.heap.size = A
  have hA : ∀ q : Nat, s.heap.size ≤ q → A q := fun q h => by rw [← hAe]; exact Or.inr h
  have hS : va_S A s.heap s.heap [] := va_S.rf
  have hP : va_P (dC, dI) vwCl [] s.heap := hP
  have krr_p0 := z_rng p0
  have hl := lv_entry ([.int p0]) (n := 1) (Nat.le_of_ble_eq_true rfl)
  rw [lg_entry_eq]
  generalize (lg_sl ([.int p0]) ++ List.replicate (1 - (lg_sl ([.int p0])).length) Slot.unset).toArray = ls at hl ⊢
  have hl : lv_has ls 1 [(0, .int p0)] := hl
  refine lv_iload_n hx hb dX2_isSide_0 rfl (lv_at hl 0 rfl) ?_
  refine lv_iconst (v := 2) hx hb dX2_isSide_1 (by decide) ?_
  refine lv_icmp_lt (tgt := 15) hx hb dX2_isSide_2 (by decide) (fun c_1 => ?_) (fun c_1 => ?_)
  · have k_2 : (p0).toInt < (2 : Int) := z_lt c_1
    refine lv_iconst (v := 0) hx hb dX2_isSide_15 (by decide) ?_
    refine W.widen (k := 0) (n := 0) (Nat.le_of_ble_eq_true rfl) (Nat.le_of_ble_eq_true rfl) ?_
    exact W.zret (v := 0) hx hb hr (by rfl) (fun t ht hW => ⟨⟨0, (), rfl, (Or.inr (⟨rfl, by first | omega | decide⟩)), trivial⟩, hS.F ht⟩) hS.2.2 dX2_isSide_16
  · have k_3 : (p0).toInt ≥ (2 : Int) := z_nlt c_1
    refine lv_iload_n hx hb dX2_isSide_5 rfl (lv_at hl 0 rfl) ?_
    refine lv_bipush (v := 12) hx hb dX2_isSide_6 (by decide) ?_
    refine lv_icmp_gt (tgt := 15) hx hb dX2_isSide_8 (by decide) (fun c_4 => ?_) (fun c_4 => ?_)
    · have k_5 : (12 : Int) < (p0).toInt := z_lt c_4
      refine lv_iconst (v := 0) hx hb dX2_isSide_15 (by decide) ?_
      refine W.widen (k := 0) (n := 0) (Nat.le_of_ble_eq_true rfl) (Nat.le_of_ble_eq_true rfl) ?_
      exact W.zret (v := 0) hx hb hr (by rfl) (fun t ht hW => ⟨⟨0, (), rfl, (Or.inr (⟨rfl, by first | omega | decide⟩)), trivial⟩, hS.F ht⟩) hS.2.2 dX2_isSide_16
    · have k_6 : (12 : Int) ≥ (p0).toInt := z_nlt c_4
      refine lv_iconst (v := 1) hx hb dX2_isSide_11 (by decide) ?_
      refine lv_goto (tgt := 16) hx hb dX2_isSide_12 (by decide) ?_
      refine W.widen (k := 0) (n := 0) (Nat.le_of_ble_eq_true rfl) (Nat.le_of_ble_eq_true rfl) ?_
      exact W.zret (v := 1) hx hb hr (by rfl) (fun t ht hW => ⟨⟨1, (), rfl, (Or.inl (⟨rfl, by first | omega | decide⟩)), trivial⟩, hS.F ht⟩) hS.2.2 dX2_isSide_16
def u_s_X2_layA : List Cond := .code yX2_lay cX2_lay 3 (some .boolean) :: ([.methodLink RX2 46 yX2_isSide, .static yX2_isSide, .initialized RX2, .fieldLink RX2 9 "ShellHeap$Ground" "w" "I", .fieldLink RX2 15 "ShellHeap$Ground" "h" "I", .fieldLink RX2 34 "ShellHeap$Ground" "columns" "I"] ++ (wsX20 ++ (u_s_X2_isSideA ++ [])))
theorem gd_s_X2_layA : z_gd u_s_X2_layA := z_gdc (by decide +kernel) (z_gda gdX2 (z_gda gd_s_X2_isSideA (z_gd0)))
set_option maxRecDepth 20000 in
theorem gw_s_X2_layA_s_X2_isSideA_46 : GoodIn u_s_X2_layA (va_wsS RX2 46 yX2_isSide u_s_X2_isSideA) := z_gS (z_gr _ [1, 2, 3] rfl (by decide +kernel)) (fun w h => ⟨z_mc (z_mr (z_mr (z_ml h))), gd_s_X2_isSideA w h⟩)
set_option maxHeartbeats 4000000 in
set_option maxRecDepth 100000 in
theorem s_X2_layA (l : Launch) (dC : Nat → ClassId) (dI : Nat → Nat → Nat) (sz : Nat) (h0 : Nat) (p1 : Int32) (p2 : Int32) (gw : Int32) (gh : Int32) (h0_2 : Value) (h0_3 : Value) (h0_4 : Value) (h0_5 : Value) (h0_6 : Value) (gc : Int32) (h0_8 : Value) (h0_9 : Value) (h0_10 : Value) (hB_gw : ((2 : Int) ≤ (gw).toInt ∧ (gw).toInt ≤ (12 : Int))) (hB_gh : ((2 : Int) ≤ (gh).toInt ∧ (gh).toInt ≤ (12 : Int))) (hB_gc : ((0 : Int) ≤ (gc).toInt ∧ (gc).toInt ≤ (10 : Int))) : Met l yX2_lay u_s_X2_layA ({ frames := 1, cells := 0, slots := 0, locals := 20 }) (va_Pc [.ref h0, .int p1, .int p2] (z_C (dC, dI) vwCl [(h0, .inr (2, [.int gw, .int gh, h0_2, h0_3, h0_4, h0_5, h0_6, .int gc, h0_8, h0_9, h0_10]))] [] sz)) (va_Qi (fun (r : Int32) (_ : Unit) => r = v_heap p1 p2) (fun (_ : Unit) (t : State) => ∃ (n_h0_w : Int32), ∃ (n_h0_h : Int32), ∃ (n_h0_columns : Int32), ((2 : Int) ≤ (n_h0_w).toInt ∧ (n_h0_w).toInt ≤ (12 : Int)) ∧ ((2 : Int) ≤ (n_h0_h).toInt ∧ (n_h0_h).toInt ≤ (12 : Int)) ∧ ((0 : Int) ≤ (n_h0_columns).toInt ∧ (n_h0_columns).toInt ≤ (10 : Int)) ∧ va_P (dC, dI) vwCl [(h0, .inr (2, [.int n_h0_w, .int n_h0_h, h0_2, h0_3, h0_4, h0_5, h0_6, .int n_h0_columns, h0_8, h0_9, h0_10]))] t.heap ∧ va_K (dC, dI) vwCl [] t ∧ va_D (va_A [(h0, .inr (2, [.int gw, .int gh, h0_2, h0_3, h0_4, h0_5, h0_6, .int gc, h0_8, h0_9, h0_10]))] sz) [(h0, .inr (2, [.int n_h0_w, .int n_h0_h, h0_2, h0_3, h0_4, h0_5, h0_6, .int n_h0_columns, h0_8, h0_9, h0_10]))]) (va_A [(h0, .inr (2, [.int gw, .int gh, h0_2, h0_3, h0_4, h0_5, h0_6, .int gc, h0_8, h0_9, h0_10]))] sz)) 0 0 (va_A [(h0, .inr (2, [.int gw, .int gh, h0_2, h0_3, h0_4, h0_5, h0_6, .int gc, h0_8, h0_9, h0_10]))] sz) := by
  refine Met.ofW (cc := cX2_lay) (maxL := 3) (ret := (some .boolean)) (by decide) rfl ?_
  intro p e s m args below meth c s₁ B hml hv
  obtain ⟨rfl, hsz, hP, hK, hD0⟩ := hv
  have hx := B.exec
  have hb := B.bytes
  have hr := B.returns
  have hts := atoms_spec (ws := u_s_X2_layA) B.pre
  have hown : s.vm.findClass RX2 = some m.cls := findClass_of_methodNamed B.named
  have hlocks := B.notSynchronized
  subst hsz
  have hD := hD0.self (sz := s.heap.size)
  generalize hAe : va_A [(h0, .inr (2, [.int gw, .int gh, h0_2, h0_3, h0_4, h0_5, h0_6, .int gc, h0_8, h0_9, h0_10]))] s.heap.size = A at hD ⊢
  have hA : ∀ q : Nat, s.heap.size ≤ q → A q := fun q h => by rw [← hAe]; exact Or.inr h
  have hS : va_S A s.heap s.heap [] := va_S.rf
  have hP : va_P (dC, dI) vwCl [(h0, .inr (2, [.int gw, .int gh, h0_2, h0_3, h0_4, h0_5, h0_6, .int gc, h0_8, h0_9, h0_10]))] s.heap := hP
  have w__fieldLink_RX2_9_ShellHeap_Ground_w_I_ := hts (.fieldLink RX2 9 "ShellHeap$Ground" "w" "I") (z_mc (z_ml z_m3))
  have hiX2 := show ∀ w ∈ u_ws RX2 TX2 11, w ∈ u_s_X2_layA from fun w h => z_mc (z_mr (z_ml h))
  have w__fieldLink_RX2_15_ShellHeap_Ground_h_I_ := hts (.fieldLink RX2 15 "ShellHeap$Ground" "h" "I") (z_mc (z_ml z_m4))
  have w__fieldLink_RX2_34_ShellHeap_Ground_columns_I_ := hts (.fieldLink RX2 34 "ShellHeap$Ground" "columns" "I") (z_mc (z_ml z_m5))
  have krr_p1 := z_rng p1
  have krr_p2 := z_rng p2
  have hl := lv_entry ([.ref h0, .int p1, .int p2]) (n := 3) (Nat.le_of_ble_eq_true rfl)
  rw [lg_entry_eq]
  generalize (lg_sl ([.ref h0, .int p1, .int p2]) ++ List.replicate (3 - (lg_sl ([.ref h0, .int p1, .int p2])).length) Slot.unset).toArray = ls at hl ⊢
  have hl : lv_has ls 3 [(0, .ref h0), (1, .int p1), (2, .int p2)] := hl
  refine lv_iload_n hx hb dX2_lay_0 rfl (lv_at hl 1 rfl) ?_
  obtain ⟨hPc, hDc⟩ := z_sub2 (ws' := []) hP hD [] (by decide) rfl
  have hKc := hK
  have hFc := va_free (ws := []) (wc := []) (z_D0 _) hS hA [] rfl
  refine va_calli (va_runS (As := [.int p1]) (rest := []) ⟨hx, hb, hml, hown, hts⟩ (s_X2_isSideA l dC dI s.heap.size p1) (va_cwS 1 hts gw_s_X2_layA_s_X2_isSideA_46 rfl rfl rfl (by decide +kernel) ⟨Nat.le_of_ble_eq_true rfl, Nat.le_of_ble_eq_true rfl⟩) ⟨z_blind, z_pre hPc hKc hDc⟩ rfl rfl hl.1 rfl (lv_room (Nat.le_of_ble_eq_true rfl)) dX2_lay_1 ⟨Nat.le_of_ble_eq_true rfl, Nat.le_of_ble_eq_true rfl⟩) hS (fun q _ h => hFc q h) hFc (fun r_2 u t H_1 locs ht hvm hw_3 hB hz1 hk1 hS => ?_)
  replace hP := z_pure hP hk1
  clear hPc hDc hKc
  rcases hw_3 with ⟨rfl, hw_3⟩ | ⟨rfl, hw_3⟩
  · have hw_3 : (2 ≤ p1.toInt ∧ p1.toInt ≤ 12) := hw_3
    refine lv_if_eq (tgt := 14) hx hb dX2_lay_4 (by decide) (fun c_4 => absurd c_4 (by decide)) (fun _ => ?_)
    refine lv_iload_n hx hb dX2_lay_7 rfl (lv_at hl 2 rfl) ?_
    obtain ⟨hPc, hDc⟩ := z_sub2 (ws' := []) hP hD [] (by decide) rfl
    have hKc := hK
    have hFc := va_free (ws := []) (wc := []) (z_D0 _) hS hA [] rfl
    refine va_calli (va_runS (As := [.int p2]) (rest := []) ⟨hx, hb, hml, hown, hts⟩ (s_X2_isSideA l dC dI H_1.size p2) (va_cwS 1 hts gw_s_X2_layA_s_X2_isSideA_46 rfl rfl rfl (by decide +kernel) ⟨Nat.le_of_ble_eq_true rfl, Nat.le_of_ble_eq_true rfl⟩) ⟨z_blind, z_pre hPc hKc hDc⟩ rfl rfl hl.1 rfl (lv_room (Nat.le_of_ble_eq_true rfl)) dX2_lay_8 ⟨Nat.le_of_ble_eq_true rfl, Nat.le_of_ble_eq_true rfl⟩) hS (fun q _ h => hFc q h) hFc (fun r_6 u t H_5 locs ht hvm hw_7 hB hz1 hk1 hS => ?_)
    replace hP := z_pure hP hk1
    clear hPc hDc hKc
    rcases hw_7 with ⟨rfl, hw_7⟩ | ⟨rfl, hw_7⟩
    · have hw_7 : (2 ≤ p2.toInt ∧ p2.toInt ≤ 12) := hw_7
      refine lv_if_ne (tgt := 16) hx hb dX2_lay_11 (by decide) (fun _ => ?_) (fun c_8 => absurd c_8 (by decide))
      refine lv_aload_n hx hb dX2_lay_16 rfl (lv_at hl 0 rfl) ?_
      refine lv_iload_n hx hb dX2_lay_17 rfl (lv_at hl 1 rfl) ?_
      refine va_put (D := (dC, dI)) (ci := 2) (v := .int p1) (ty := .int) (C := RX2) (T := TX2) (N := 11) hx hb hts hiX2 tyX2 tyX2_ok nmX2 hown hK hP hD hS 0 rfl rfl 0 (by decide) w__fieldLink_RX2_9_ShellHeap_Ground_w_I_ (fun _ h9 => h9) rfl (by decide +kernel) rfl rfl (Nat.le_of_ble_eq_true rfl) dX2_lay_18 (fun H_9 locs hP hD hS => ?_)
      obtain ⟨hP, hD⟩ := z_s_0_0 hP hD
      refine lv_aload_n hx hb dX2_lay_21 rfl (lv_at hl 0 rfl) ?_
      refine lv_iload_n hx hb dX2_lay_22 rfl (lv_at hl 2 rfl) ?_
      refine va_put (D := (dC, dI)) (ci := 2) (v := .int p2) (ty := .int) (C := RX2) (T := TX2) (N := 11) hx hb hts hiX2 tyX2 tyX2_ok nmX2 hown hK hP hD hS 0 rfl rfl 1 (by decide) w__fieldLink_RX2_15_ShellHeap_Ground_h_I_ (fun _ h9 => h9) rfl (by decide +kernel) rfl rfl (Nat.le_of_ble_eq_true rfl) dX2_lay_23 (fun H_10 locs hP hD hS => ?_)
      obtain ⟨hP, hD⟩ := z_s_0_1 hP hD
      refine lv_aload_n hx hb dX2_lay_26 rfl (lv_at hl 0 rfl) ?_
      refine lv_iconst (v := 0) hx hb dX2_lay_27 (by decide) ?_
      refine va_put (D := (dC, dI)) (ci := 2) (v := .int 0) (ty := .int) (C := RX2) (T := TX2) (N := 11) hx hb hts hiX2 tyX2 tyX2_ok nmX2 hown hK hP hD hS 0 rfl rfl 7 (by decide) w__fieldLink_RX2_34_ShellHeap_Ground_columns_I_ (fun _ h9 => h9) rfl (by decide +kernel) rfl rfl (Nat.le_of_ble_eq_true rfl) dX2_lay_28 (fun H_11 locs hP hD hS => ?_)
      obtain ⟨hP, hD⟩ := z_s_0_7 hP hD
      refine lv_iconst (v := 1) hx hb dX2_lay_31 (by decide) ?_
      have hP9 := hP
      have hD9 := hD
      have hK9 := hK.sub (tys' := []) [] rfl
      refine W.widen (k := 0) (n := 0) (Nat.le_of_ble_eq_true rfl) (Nat.le_of_ble_eq_true rfl) ?_
      exact W.zret (v := 1) hx hb hr (by rfl) (fun t ht hW => ⟨⟨1, (), rfl, (show 1 = v_heap p1 p2 by unfold v_heap; rw [if_pos (by omega)]), ⟨p1, p2, 0, (by first | omega | decide), (by first | omega | decide), (by decide), by rw [ht]; exact hP9, va_K.moved hW.alike hK9, hD9⟩⟩, hS.F ht⟩) hS.2.2 dX2_lay_32
    · have hw_7 : ¬ (2 ≤ p2.toInt ∧ p2.toInt ≤ 12) := hw_7
      refine lv_if_ne (tgt := 16) hx hb dX2_lay_11 (by decide) (fun c_12 => absurd c_12 (by decide)) (fun _ => ?_)
      refine lv_iconst (v := 0) hx hb dX2_lay_14 (by decide) ?_
      have hP9 := hP
      have hD9 := hD
      have hK9 := hK.sub (tys' := []) [] rfl
      refine W.widen (k := 0) (n := 0) (Nat.le_of_ble_eq_true rfl) (Nat.le_of_ble_eq_true rfl) ?_
      exact W.zret (v := 0) hx hb hr (by rfl) (fun t ht hW => ⟨⟨0, (), rfl, (show 0 = v_heap p1 p2 by unfold v_heap; rw [if_neg (by omega)]), ⟨gw, gh, gc, hB_gw, hB_gh, hB_gc, by rw [ht]; exact hP9, va_K.moved hW.alike hK9, hD9⟩⟩, hS.F ht⟩) hS.2.2 dX2_lay_15
  · have hw_3 : ¬ (2 ≤ p1.toInt ∧ p1.toInt ≤ 12) := hw_3
    refine lv_if_eq (tgt := 14) hx hb dX2_lay_4 (by decide) (fun _ => ?_) (fun c_13 => absurd (by decide) c_13)
    refine lv_iconst (v := 0) hx hb dX2_lay_14 (by decide) ?_
    have hP9 := hP
    have hD9 := hD
    have hK9 := hK.sub (tys' := []) [] rfl
    refine W.widen (k := 0) (n := 0) (Nat.le_of_ble_eq_true rfl) (Nat.le_of_ble_eq_true rfl) ?_
    exact W.zret (v := 0) hx hb hr (by rfl) (fun t ht hW => ⟨⟨0, (), rfl, (show 0 = v_heap p1 p2 by unfold v_heap; rw [if_neg (by omega)]), ⟨gw, gh, gc, hB_gw, hB_gh, hB_gc, by rw [ht]; exact hP9, va_K.moved hW.alike hK9, hD9⟩⟩, hS.F ht⟩) hS.2.2 dX2_lay_15
def u_s_X11_heapA : List Cond := .code yX11_heap cX11_heap 3 (some .boolean) :: ([.fieldLink RX11 35 "ShellHeap" "ground" "LShellHeap$Ground;", .methodLink RX11 174 yX2_lay, .instanceMethod yX2_lay, .selects RX2 yX2_lay yX2_lay, .initialized RX2] ++ (wsX110 ++ (u_s_X2_layA ++ [])))
theorem gd_s_X11_heapA : z_gd u_s_X11_heapA := z_gdc (by decide +kernel) (z_gda gdX11 (z_gda gd_s_X2_layA (z_gd0)))
set_option maxRecDepth 20000 in
theorem gw_s_X11_heapA_s_X2_layA_174 : GoodIn u_s_X11_heapA (wsV RX11 174 RX2 yX2_lay u_s_X2_layA) := z_gV (z_gr _ [2, 3, 4, 5] rfl (by decide +kernel)) (fun w h => ⟨z_mc (z_mr (z_mr (z_ml h))), gd_s_X2_layA w h⟩)
set_option maxHeartbeats 4000000 in
set_option maxRecDepth 100000 in
theorem s_X11_heapA (l : Launch) (dC : Nat → ClassId) (dI : Nat → Nat → Nat) (sz : Nat) (h0 : Nat) (p1 : Int32) (p2 : Int32) (h0_0 : Value) (h0_1 : Value) (h0_2 : Value) (h1 : Nat) (h0_4 : Value) (h0_5 : Value) (h0_6 : Value) (h0_7 : Value) (h0_8 : Value) (h0_9 : Value) (gw : Int32) (gh : Int32) (h1_2 : Value) (h1_3 : Value) (h1_4 : Value) (h1_5 : Value) (h1_6 : Value) (gc : Int32) (h1_8 : Value) (h1_9 : Value) (h1_10 : Value) (hB_gw : ((2 : Int) ≤ (gw).toInt ∧ (gw).toInt ≤ (12 : Int))) (hB_gh : ((2 : Int) ≤ (gh).toInt ∧ (gh).toInt ≤ (12 : Int))) (hB_gc : ((0 : Int) ≤ (gc).toInt ∧ (gc).toInt ≤ (10 : Int))) : Met l yX11_heap u_s_X11_heapA ({ frames := 2, cells := 0, slots := 0, locals := 42 }) (va_Pc [.ref h0, .int p1, .int p2] (z_C (dC, dI) vwCl [(h0, .inr (11, [h0_0, h0_1, h0_2, .ref h1, h0_4, h0_5, h0_6, h0_7, h0_8, h0_9])), (h1, .inr (2, [.int gw, .int gh, h1_2, h1_3, h1_4, h1_5, h1_6, .int gc, h1_8, h1_9, h1_10]))] [] sz)) (va_Qi (fun (r : Int32) (_ : Unit) => r = v_heap p1 p2) (fun (_ : Unit) (t : State) => ∃ (n_h1_w : Int32), ∃ (n_h1_h : Int32), ∃ (n_h1_columns : Int32), ((2 : Int) ≤ (n_h1_w).toInt ∧ (n_h1_w).toInt ≤ (12 : Int)) ∧ ((2 : Int) ≤ (n_h1_h).toInt ∧ (n_h1_h).toInt ≤ (12 : Int)) ∧ ((0 : Int) ≤ (n_h1_columns).toInt ∧ (n_h1_columns).toInt ≤ (10 : Int)) ∧ va_P (dC, dI) vwCl [(h0, .inr (11, [h0_0, h0_1, h0_2, .ref h1, h0_4, h0_5, h0_6, h0_7, h0_8, h0_9])), (h1, .inr (2, [.int n_h1_w, .int n_h1_h, h1_2, h1_3, h1_4, h1_5, h1_6, .int n_h1_columns, h1_8, h1_9, h1_10]))] t.heap ∧ va_K (dC, dI) vwCl [] t ∧ va_D (va_A [(h0, .inr (11, [h0_0, h0_1, h0_2, .ref h1, h0_4, h0_5, h0_6, h0_7, h0_8, h0_9])), (h1, .inr (2, [.int gw, .int gh, h1_2, h1_3, h1_4, h1_5, h1_6, .int gc, h1_8, h1_9, h1_10]))] sz) [(h0, .inr (11, [h0_0, h0_1, h0_2, .ref h1, h0_4, h0_5, h0_6, h0_7, h0_8, h0_9])), (h1, .inr (2, [.int n_h1_w, .int n_h1_h, h1_2, h1_3, h1_4, h1_5, h1_6, .int n_h1_columns, h1_8, h1_9, h1_10]))]) (va_A [(h0, .inr (11, [h0_0, h0_1, h0_2, .ref h1, h0_4, h0_5, h0_6, h0_7, h0_8, h0_9])), (h1, .inr (2, [.int gw, .int gh, h1_2, h1_3, h1_4, h1_5, h1_6, .int gc, h1_8, h1_9, h1_10]))] sz)) 0 0 (va_A [(h0, .inr (11, [h0_0, h0_1, h0_2, .ref h1, h0_4, h0_5, h0_6, h0_7, h0_8, h0_9])), (h1, .inr (2, [.int gw, .int gh, h1_2, h1_3, h1_4, h1_5, h1_6, .int gc, h1_8, h1_9, h1_10]))] sz) := by
  refine Met.ofW (cc := cX11_heap) (maxL := 3) (ret := (some .boolean)) (by decide) rfl ?_
  intro p e s m args below meth c s₁ B hml hv
  obtain ⟨rfl, hsz, hP, hK, hD0⟩ := hv
  have hx := B.exec
  have hb := B.bytes
  have hr := B.returns
  have hts := atoms_spec (ws := u_s_X11_heapA) B.pre
  have hown : s.vm.findClass RX11 = some m.cls := findClass_of_methodNamed B.named
  have hlocks := B.notSynchronized
  subst hsz
  have hD := hD0.self (sz := s.heap.size)
  generalize hAe : va_A [(h0, .inr (11, [h0_0, h0_1, h0_2, .ref h1, h0_4, h0_5, h0_6, h0_7, h0_8, h0_9])), (h1, .inr (2, [.int gw, .int gh, h1_2, h1_3, h1_4, h1_5, h1_6, .int gc, h1_8, h1_9, h1_10]))] s.heap.size = A at hD ⊢
  have hA : ∀ q : Nat, s.heap.size ≤ q → A q := fun q h => by rw [← hAe]; exact Or.inr h
  have hS : va_S A s.heap s.heap [] := va_S.rf
  have hP : va_P (dC, dI) vwCl [(h0, .inr (11, [h0_0, h0_1, h0_2, .ref h1, h0_4, h0_5, h0_6, h0_7, h0_8, h0_9])), (h1, .inr (2, [.int gw, .int gh, h1_2, h1_3, h1_4, h1_5, h1_6, .int gc, h1_8, h1_9, h1_10]))] s.heap := hP
  have w__fieldLink_RX11_35_ShellHeap_ground_LShellHeap_Ground_ := hts (.fieldLink RX11 35 "ShellHeap" "ground" "LShellHeap$Ground;") (z_mc (z_ml z_m0))
  have hiX11 := show ∀ w ∈ u_ws RX11 TX11 10, w ∈ u_s_X11_heapA from fun w h => z_mc (z_mr (z_ml h))
  have krr_p1 := z_rng p1
  have krr_p2 := z_rng p2
  have hl := lv_entry ([.ref h0, .int p1, .int p2]) (n := 3) (Nat.le_of_ble_eq_true rfl)
  rw [lg_entry_eq]
  generalize (lg_sl ([.ref h0, .int p1, .int p2]) ++ List.replicate (3 - (lg_sl ([.ref h0, .int p1, .int p2])).length) Slot.unset).toArray = ls at hl ⊢
  have hl : lv_has ls 3 [(0, .ref h0), (1, .int p1), (2, .int p2)] := hl
  refine lv_aload_n hx hb dX11_heap_0 rfl (lv_at hl 0 rfl) ?_
  refine va_get (D := (dC, dI)) (ci := 11) (v := .ref h1) (C := RX11) (T := TX11) (N := 10) hx hb hts hiX11 hown hK hP 0 rfl rfl 3 (by decide) w__fieldLink_RX11_35_ShellHeap_ground_LShellHeap_Ground_ (fun _ h9 => h9) rfl dX11_heap_1 ?_
  refine lv_iload_n hx hb dX11_heap_4 rfl (lv_at hl 1 rfl) ?_
  refine lv_iload_n hx hb dX11_heap_5 rfl (lv_at hl 2 rfl) ?_
  obtain ⟨hPc, hDc, hFc⟩ := z_sub3 (ws' := [(h1, .inr (2, [.int gw, .int gh, h1_2, h1_3, h1_4, h1_5, h1_6, .int gc, h1_8, h1_9, h1_10]))]) hP hD hS hA [1] (by decide) rfl
  have hKc := hK
  refine va_calli (va_runV (As := [.int p1, .int p2]) (rest := []) ⟨hx, hb, hml, hown, hts⟩ (s_X2_layA l dC dI s.heap.size h1 p1 p2 gw gh h1_2 h1_3 h1_4 h1_5 h1_6 gc h1_8 h1_9 h1_10 hB_gw hB_gh hB_gc) (cwV 2 hts gw_s_X11_heapA_s_X2_layA_174 rfl rfl rfl (by decide +kernel) ⟨Nat.le_of_ble_eq_true rfl, Nat.le_of_ble_eq_true rfl⟩) ⟨z_blind, va_recv hKc hPc (ci := 2) (q0 := 0) rfl rfl, z_pre hPc hKc hDc⟩ rfl rfl hl.1 rfl (lv_room (Nat.le_of_ble_eq_true rfl)) dX11_heap_6 ⟨Nat.le_of_ble_eq_true rfl, Nat.le_of_ble_eq_true rfl⟩) hS (fun q _ h => hFc q h) hFc (fun r_2 u t H_1 locs ht hvm hw_3 hB hz1 hk1 hS => ?_)
  obtain ⟨n_h0_w_4, n_h0_h_5, n_h0_columns_6, hp_7, hp_8, hp_9, hP1, hK1, hD1⟩ := hB
  rw [ht] at hP1
  have hK1 := va_K.moved hvm.symm hK1
  obtain ⟨hP, hD⟩ := z_ap_1 (va_join (wr := [(h0, .inr (11, [h0_0, h0_1, h0_2, .ref h1, h0_4, h0_5, h0_6, h0_7, h0_8, h0_9]))]) hP hD [1] [0] rfl rfl (by decide) (by decide) hk1 hFc hP1 hD1)
  clear hPc hDc hKc
  have kb_r_2 : (0 : Int) ≤ (r_2).toInt ∧ (r_2).toInt ≤ (1 : Int) := by rw [hw_3]; unfold v_heap; split <;> decide
  have hP9 := hP
  have hD9 := hD
  have hK9 := hK.sub (tys' := []) [] rfl
  refine W.widen (k := 0) (n := 0) (Nat.le_of_ble_eq_true rfl) (Nat.le_of_ble_eq_true rfl) ?_
  exact W.zret (v := r_2) hx hb hr (z_nb (by omega)) (fun t ht hW => ⟨⟨r_2, (), rfl, (show r_2 = v_heap p1 p2 from hw_3), ⟨n_h0_w_4, n_h0_h_5, n_h0_columns_6, hp_7, hp_8, hp_9, by rw [ht]; exact hP9, va_K.moved hW.alike hK9, hD9⟩⟩, hS.F ht⟩) hS.2.2 dX11_heap_9
def u_s_X12_heapA : List Cond := .code yX12_heap cX12_heap 3 (some .boolean) :: ([.fieldLink RX12 145 "ShellHeapModel" "thrown" "I", .fieldLink RX12 47 "ShellHeapModel" "wide" "I", .fieldLink RX12 51 "ShellHeapModel" "tall" "I", .fieldLink RX12 181 "ShellHeapModel" "columns" "I"] ++ (wsX120 ++ []))
theorem gd_s_X12_heapA : z_gd u_s_X12_heapA := z_gdc (by decide +kernel) (z_gda gdX12 (z_gd0))
set_option maxHeartbeats 4000000 in
set_option maxRecDepth 100000 in
theorem s_X12_heapA (l : Launch) (dC : Nat → ClassId) (dI : Nat → Nat → Nat) (sz : Nat) (h0 : Nat) (p1 : Int32) (p2 : Int32) (h0_0 : Value) (h0_1 : Value) (mx : Int32) (h0_3 : Value) (h0_4 : Value) (h0_5 : Value) (h0_6 : Value) (h0_7 : Value) (h0_8 : Value) (h0_9 : Value) (h0_10 : Value) (h0_11 : Value) (h0_12 : Value) (h0_13 : Value) (h0_14 : Value) (h0_15 : Value) (h0_16 : Value) (mw : Int32) (mh : Int32) (mc : Int32) (h0_20 : Value) (h0_21 : Value) (h0_22 : Value) (h0_23 : Value) (h0_24 : Value) (h0_25 : Value) (h0_26 : Value) (h0_27 : Value) (h0_28 : Value) (h0_29 : Value) (h0_30 : Value) (h0_31 : Value) (h0_32 : Value) (h0_33 : Value) (h0_34 : Value) (h0_35 : Value) (h0_36 : Value) (h0_37 : Value) (h0_38 : Value) (h0_39 : Value) (h0_40 : Value) (h0_41 : Value) (h0_42 : Value) (h0_43 : Value) (h0_44 : Value) (h0_45 : Value) (h0_46 : Value) (h0_47 : Value) (h0_48 : Value) (h0_49 : Value) (h0_50 : Value) (h0_51 : Value) (h0_52 : Value) (h0_53 : Value) (h0_54 : Value) (h0_55 : Value) (h0_56 : Value) (h0_57 : Value) (h0_58 : Value) (h0_59 : Value) (h0_60 : Value) (h0_61 : Value) (h0_62 : Value) (h0_63 : Value) (h0_64 : Value) (h0_65 : Value) (h0_66 : Value) (h0_67 : Value) (h0_68 : Value) (h0_69 : Value) (hB_mw : ((2 : Int) ≤ (mw).toInt ∧ (mw).toInt ≤ (12 : Int))) (hB_mh : ((2 : Int) ≤ (mh).toInt ∧ (mh).toInt ≤ (12 : Int))) (hB_mc : ((0 : Int) ≤ (mc).toInt ∧ (mc).toInt ≤ (10 : Int))) : Met l yX12_heap u_s_X12_heapA ({ frames := 0, cells := 0, slots := 0, locals := 0 }) (va_Pc [.ref h0, .int p1, .int p2] (z_C (dC, dI) vwCl [(h0, .inr (12, [h0_0, h0_1, .int mx, h0_3, h0_4, h0_5, h0_6, h0_7, h0_8, h0_9, h0_10, h0_11, h0_12, h0_13, h0_14, h0_15, h0_16, .int mw, .int mh, .int mc, h0_20, h0_21, h0_22, h0_23, h0_24, h0_25, h0_26, h0_27, h0_28, h0_29, h0_30, h0_31, h0_32, h0_33, h0_34, h0_35, h0_36, h0_37, h0_38, h0_39, h0_40, h0_41, h0_42, h0_43, h0_44, h0_45, h0_46, h0_47, h0_48, h0_49, h0_50, h0_51, h0_52, h0_53, h0_54, h0_55, h0_56, h0_57, h0_58, h0_59, h0_60, h0_61, h0_62, h0_63, h0_64, h0_65, h0_66, h0_67, h0_68, h0_69]))] [] sz)) (va_Qi (fun (r : Int32) (_ : Unit) => r = v_heap p1 p2) (fun (_ : Unit) (t : State) => ∃ (n_h0_thrown : Int32), ∃ (n_h0_wide : Int32), ∃ (n_h0_tall : Int32), ∃ (n_h0_columns : Int32), ((2 : Int) ≤ (n_h0_wide).toInt ∧ (n_h0_wide).toInt ≤ (12 : Int)) ∧ ((2 : Int) ≤ (n_h0_tall).toInt ∧ (n_h0_tall).toInt ≤ (12 : Int)) ∧ ((0 : Int) ≤ (n_h0_columns).toInt ∧ (n_h0_columns).toInt ≤ (10 : Int)) ∧ va_P (dC, dI) vwCl [(h0, .inr (12, [h0_0, h0_1, .int n_h0_thrown, h0_3, h0_4, h0_5, h0_6, h0_7, h0_8, h0_9, h0_10, h0_11, h0_12, h0_13, h0_14, h0_15, h0_16, .int n_h0_wide, .int n_h0_tall, .int n_h0_columns, h0_20, h0_21, h0_22, h0_23, h0_24, h0_25, h0_26, h0_27, h0_28, h0_29, h0_30, h0_31, h0_32, h0_33, h0_34, h0_35, h0_36, h0_37, h0_38, h0_39, h0_40, h0_41, h0_42, h0_43, h0_44, h0_45, h0_46, h0_47, h0_48, h0_49, h0_50, h0_51, h0_52, h0_53, h0_54, h0_55, h0_56, h0_57, h0_58, h0_59, h0_60, h0_61, h0_62, h0_63, h0_64, h0_65, h0_66, h0_67, h0_68, h0_69]))] t.heap ∧ va_K (dC, dI) vwCl [] t ∧ va_D (va_A [(h0, .inr (12, [h0_0, h0_1, .int mx, h0_3, h0_4, h0_5, h0_6, h0_7, h0_8, h0_9, h0_10, h0_11, h0_12, h0_13, h0_14, h0_15, h0_16, .int mw, .int mh, .int mc, h0_20, h0_21, h0_22, h0_23, h0_24, h0_25, h0_26, h0_27, h0_28, h0_29, h0_30, h0_31, h0_32, h0_33, h0_34, h0_35, h0_36, h0_37, h0_38, h0_39, h0_40, h0_41, h0_42, h0_43, h0_44, h0_45, h0_46, h0_47, h0_48, h0_49, h0_50, h0_51, h0_52, h0_53, h0_54, h0_55, h0_56, h0_57, h0_58, h0_59, h0_60, h0_61, h0_62, h0_63, h0_64, h0_65, h0_66, h0_67, h0_68, h0_69]))] sz) [(h0, .inr (12, [h0_0, h0_1, .int n_h0_thrown, h0_3, h0_4, h0_5, h0_6, h0_7, h0_8, h0_9, h0_10, h0_11, h0_12, h0_13, h0_14, h0_15, h0_16, .int n_h0_wide, .int n_h0_tall, .int n_h0_columns, h0_20, h0_21, h0_22, h0_23, h0_24, h0_25, h0_26, h0_27, h0_28, h0_29, h0_30, h0_31, h0_32, h0_33, h0_34, h0_35, h0_36, h0_37, h0_38, h0_39, h0_40, h0_41, h0_42, h0_43, h0_44, h0_45, h0_46, h0_47, h0_48, h0_49, h0_50, h0_51, h0_52, h0_53, h0_54, h0_55, h0_56, h0_57, h0_58, h0_59, h0_60, h0_61, h0_62, h0_63, h0_64, h0_65, h0_66, h0_67, h0_68, h0_69]))]) (va_A [(h0, .inr (12, [h0_0, h0_1, .int mx, h0_3, h0_4, h0_5, h0_6, h0_7, h0_8, h0_9, h0_10, h0_11, h0_12, h0_13, h0_14, h0_15, h0_16, .int mw, .int mh, .int mc, h0_20, h0_21, h0_22, h0_23, h0_24, h0_25, h0_26, h0_27, h0_28, h0_29, h0_30, h0_31, h0_32, h0_33, h0_34, h0_35, h0_36, h0_37, h0_38, h0_39, h0_40, h0_41, h0_42, h0_43, h0_44, h0_45, h0_46, h0_47, h0_48, h0_49, h0_50, h0_51, h0_52, h0_53, h0_54, h0_55, h0_56, h0_57, h0_58, h0_59, h0_60, h0_61, h0_62, h0_63, h0_64, h0_65, h0_66, h0_67, h0_68, h0_69]))] sz)) 0 0 (va_A [(h0, .inr (12, [h0_0, h0_1, .int mx, h0_3, h0_4, h0_5, h0_6, h0_7, h0_8, h0_9, h0_10, h0_11, h0_12, h0_13, h0_14, h0_15, h0_16, .int mw, .int mh, .int mc, h0_20, h0_21, h0_22, h0_23, h0_24, h0_25, h0_26, h0_27, h0_28, h0_29, h0_30, h0_31, h0_32, h0_33, h0_34, h0_35, h0_36, h0_37, h0_38, h0_39, h0_40, h0_41, h0_42, h0_43, h0_44, h0_45, h0_46, h0_47, h0_48, h0_49, h0_50, h0_51, h0_52, h0_53, h0_54, h0_55, h0_56, h0_57, h0_58, h0_59, h0_60, h0_61, h0_62, h0_63, h0_64, h0_65, h0_66, h0_67, h0_68, h0_69]))] sz) := by
  refine Met.ofW (cc := cX12_heap) (maxL := 3) (ret := (some .boolean)) (by decide) rfl ?_
  intro p e s m args below meth c s₁ B hml hv
  obtain ⟨rfl, hsz, hP, hK, hD0⟩ := hv
  have hx := B.exec
  have hb := B.bytes
  have hr := B.returns
  have hts := atoms_spec (ws := u_s_X12_heapA) B.pre
  have hown : s.vm.findClass RX12 = some m.cls := findClass_of_methodNamed B.named
  have hlocks := B.notSynchronized
  subst hsz
  have hD := hD0.self (sz := s.heap.size)
  generalize hAe : va_A [(h0, .inr (12, [h0_0, h0_1, .int mx, h0_3, h0_4, h0_5, h0_6, h0_7, h0_8, h0_9, h0_10, h0_11, h0_12, h0_13, h0_14, h0_15, h0_16, .int mw, .int mh, .int mc, h0_20, h0_21, h0_22, h0_23, h0_24, h0_25, h0_26, h0_27, h0_28, h0_29, h0_30, h0_31, h0_32, h0_33, h0_34, h0_35, h0_36, h0_37, h0_38, h0_39, h0_40, h0_41, h0_42, h0_43, h0_44, h0_45, h0_46, h0_47, h0_48, h0_49, h0_50, h0_51, h0_52, h0_53, h0_54, h0_55, h0_56, h0_57, h0_58, h0_59, h0_60, h0_61, h0_62, h0_63, h0_64, h0_65, h0_66, h0_67, h0_68, h0_69]))] s.heap.size = A at hD ⊢
  have hA : ∀ q : Nat, s.heap.size ≤ q → A q := fun q h => by rw [← hAe]; exact Or.inr h
  have hS : va_S A s.heap s.heap [] := va_S.rf
  have hP : va_P (dC, dI) vwCl [(h0, .inr (12, [h0_0, h0_1, .int mx, h0_3, h0_4, h0_5, h0_6, h0_7, h0_8, h0_9, h0_10, h0_11, h0_12, h0_13, h0_14, h0_15, h0_16, .int mw, .int mh, .int mc, h0_20, h0_21, h0_22, h0_23, h0_24, h0_25, h0_26, h0_27, h0_28, h0_29, h0_30, h0_31, h0_32, h0_33, h0_34, h0_35, h0_36, h0_37, h0_38, h0_39, h0_40, h0_41, h0_42, h0_43, h0_44, h0_45, h0_46, h0_47, h0_48, h0_49, h0_50, h0_51, h0_52, h0_53, h0_54, h0_55, h0_56, h0_57, h0_58, h0_59, h0_60, h0_61, h0_62, h0_63, h0_64, h0_65, h0_66, h0_67, h0_68, h0_69]))] s.heap := hP
  have w__fieldLink_RX12_145_ShellHeapModel_thrown_I_ := hts (.fieldLink RX12 145 "ShellHeapModel" "thrown" "I") (z_mc (z_ml z_m0))
  have hiX12 := show ∀ w ∈ u_ws RX12 TX12 70, w ∈ u_s_X12_heapA from fun w h => z_mc (z_mr (z_ml h))
  have w__fieldLink_RX12_47_ShellHeapModel_wide_I_ := hts (.fieldLink RX12 47 "ShellHeapModel" "wide" "I") (z_mc (z_ml z_m1))
  have w__fieldLink_RX12_51_ShellHeapModel_tall_I_ := hts (.fieldLink RX12 51 "ShellHeapModel" "tall" "I") (z_mc (z_ml z_m2))
  have w__fieldLink_RX12_181_ShellHeapModel_columns_I_ := hts (.fieldLink RX12 181 "ShellHeapModel" "columns" "I") (z_mc (z_ml z_m3))
  have krr_p1 := z_rng p1
  have krr_p2 := z_rng p2
  have hl := lv_entry ([.ref h0, .int p1, .int p2]) (n := 3) (Nat.le_of_ble_eq_true rfl)
  rw [lg_entry_eq]
  generalize (lg_sl ([.ref h0, .int p1, .int p2]) ++ List.replicate (3 - (lg_sl ([.ref h0, .int p1, .int p2])).length) Slot.unset).toArray = ls at hl ⊢
  have hl : lv_has ls 3 [(0, .ref h0), (1, .int p1), (2, .int p2)] := hl
  refine lv_aload_n hx hb dX12_heap_0 rfl (lv_at hl 0 rfl) ?_
  refine lv_iconst (v := 0) hx hb dX12_heap_1 (by decide) ?_
  refine va_put (D := (dC, dI)) (ci := 12) (v := .int 0) (ty := .int) (C := RX12) (T := TX12) (N := 70) hx hb hts hiX12 tyX12 tyX12_ok nmX12 hown hK hP hD hS 0 rfl rfl 2 (by decide) w__fieldLink_RX12_145_ShellHeapModel_thrown_I_ (fun _ h9 => h9) rfl (by decide +kernel) rfl rfl (Nat.le_of_ble_eq_true rfl) dX12_heap_2 (fun H_1 locs hP hD hS => ?_)
  obtain ⟨hP, hD⟩ := z_s_0_2 hP hD
  refine lv_iload_n hx hb dX12_heap_5 rfl (lv_at hl 1 rfl) ?_
  refine lv_iconst (v := 2) hx hb dX12_heap_6 (by decide) ?_
  refine lv_icmp_lt (tgt := 27) hx hb dX12_heap_7 (by decide) (fun c_2 => ?_) (fun c_2 => ?_)
  · have k_3 : (p1).toInt < (2 : Int) := z_lt c_2
    refine lv_iconst (v := 0) hx hb dX12_heap_27 (by decide) ?_
    have hP9 := hP
    have hD9 := hD
    have hK9 := hK.sub (tys' := []) [] rfl
    refine W.widen (k := 0) (n := 0) (Nat.le_of_ble_eq_true rfl) (Nat.le_of_ble_eq_true rfl) ?_
    exact W.zret (v := 0) hx hb hr (by rfl) (fun t ht hW => ⟨⟨0, (), rfl, (show 0 = v_heap p1 p2 by unfold v_heap; rw [if_neg (by omega)]), ⟨0, mw, mh, mc, hB_mw, hB_mh, hB_mc, by rw [ht]; exact hP9, va_K.moved hW.alike hK9, hD9⟩⟩, hS.F ht⟩) hS.2.2 dX12_heap_28
  · have k_4 : (p1).toInt ≥ (2 : Int) := z_nlt c_2
    refine lv_iload_n hx hb dX12_heap_10 rfl (lv_at hl 1 rfl) ?_
    refine lv_bipush (v := 12) hx hb dX12_heap_11 (by decide) ?_
    refine lv_icmp_gt (tgt := 27) hx hb dX12_heap_13 (by decide) (fun c_5 => ?_) (fun c_5 => ?_)
    · have k_6 : (12 : Int) < (p1).toInt := z_lt c_5
      refine lv_iconst (v := 0) hx hb dX12_heap_27 (by decide) ?_
      have hP9 := hP
      have hD9 := hD
      have hK9 := hK.sub (tys' := []) [] rfl
      refine W.widen (k := 0) (n := 0) (Nat.le_of_ble_eq_true rfl) (Nat.le_of_ble_eq_true rfl) ?_
      exact W.zret (v := 0) hx hb hr (by rfl) (fun t ht hW => ⟨⟨0, (), rfl, (show 0 = v_heap p1 p2 by unfold v_heap; rw [if_neg (by omega)]), ⟨0, mw, mh, mc, hB_mw, hB_mh, hB_mc, by rw [ht]; exact hP9, va_K.moved hW.alike hK9, hD9⟩⟩, hS.F ht⟩) hS.2.2 dX12_heap_28
    · have k_7 : (12 : Int) ≥ (p1).toInt := z_nlt c_5
      refine lv_iload_n hx hb dX12_heap_16 rfl (lv_at hl 2 rfl) ?_
      refine lv_iconst (v := 2) hx hb dX12_heap_17 (by decide) ?_
      refine lv_icmp_lt (tgt := 27) hx hb dX12_heap_18 (by decide) (fun c_8 => ?_) (fun c_8 => ?_)
      · have k_9 : (p2).toInt < (2 : Int) := z_lt c_8
        refine lv_iconst (v := 0) hx hb dX12_heap_27 (by decide) ?_
        have hP9 := hP
        have hD9 := hD
        have hK9 := hK.sub (tys' := []) [] rfl
        refine W.widen (k := 0) (n := 0) (Nat.le_of_ble_eq_true rfl) (Nat.le_of_ble_eq_true rfl) ?_
        exact W.zret (v := 0) hx hb hr (by rfl) (fun t ht hW => ⟨⟨0, (), rfl, (show 0 = v_heap p1 p2 by unfold v_heap; rw [if_neg (by omega)]), ⟨0, mw, mh, mc, hB_mw, hB_mh, hB_mc, by rw [ht]; exact hP9, va_K.moved hW.alike hK9, hD9⟩⟩, hS.F ht⟩) hS.2.2 dX12_heap_28
      · have k_10 : (p2).toInt ≥ (2 : Int) := z_nlt c_8
        refine lv_iload_n hx hb dX12_heap_21 rfl (lv_at hl 2 rfl) ?_
        refine lv_bipush (v := 12) hx hb dX12_heap_22 (by decide) ?_
        refine lv_icmp_le (tgt := 29) hx hb dX12_heap_24 (by decide) (fun c_11 => ?_) (fun c_11 => ?_)
        · have k_12 : (p2).toInt ≤ (12 : Int) := z_le c_11
          refine lv_aload_n hx hb dX12_heap_29 rfl (lv_at hl 0 rfl) ?_
          refine lv_iload_n hx hb dX12_heap_30 rfl (lv_at hl 1 rfl) ?_
          refine va_put (D := (dC, dI)) (ci := 12) (v := .int p1) (ty := .int) (C := RX12) (T := TX12) (N := 70) hx hb hts hiX12 tyX12 tyX12_ok nmX12 hown hK hP hD hS 0 rfl rfl 17 (by decide) w__fieldLink_RX12_47_ShellHeapModel_wide_I_ (fun _ h9 => h9) rfl (by decide +kernel) rfl rfl (Nat.le_of_ble_eq_true rfl) dX12_heap_31 (fun H_13 locs hP hD hS => ?_)
          obtain ⟨hP, hD⟩ := z_s_0_17 hP hD
          refine lv_aload_n hx hb dX12_heap_34 rfl (lv_at hl 0 rfl) ?_
          refine lv_iload_n hx hb dX12_heap_35 rfl (lv_at hl 2 rfl) ?_
          refine va_put (D := (dC, dI)) (ci := 12) (v := .int p2) (ty := .int) (C := RX12) (T := TX12) (N := 70) hx hb hts hiX12 tyX12 tyX12_ok nmX12 hown hK hP hD hS 0 rfl rfl 18 (by decide) w__fieldLink_RX12_51_ShellHeapModel_tall_I_ (fun _ h9 => h9) rfl (by decide +kernel) rfl rfl (Nat.le_of_ble_eq_true rfl) dX12_heap_36 (fun H_14 locs hP hD hS => ?_)
          obtain ⟨hP, hD⟩ := z_s_0_18 hP hD
          refine lv_aload_n hx hb dX12_heap_39 rfl (lv_at hl 0 rfl) ?_
          refine lv_iconst (v := 0) hx hb dX12_heap_40 (by decide) ?_
          refine va_put (D := (dC, dI)) (ci := 12) (v := .int 0) (ty := .int) (C := RX12) (T := TX12) (N := 70) hx hb hts hiX12 tyX12 tyX12_ok nmX12 hown hK hP hD hS 0 rfl rfl 19 (by decide) w__fieldLink_RX12_181_ShellHeapModel_columns_I_ (fun _ h9 => h9) rfl (by decide +kernel) rfl rfl (Nat.le_of_ble_eq_true rfl) dX12_heap_41 (fun H_15 locs hP hD hS => ?_)
          obtain ⟨hP, hD⟩ := z_s_0_19 hP hD
          refine lv_iconst (v := 1) hx hb dX12_heap_44 (by decide) ?_
          have hP9 := hP
          have hD9 := hD
          have hK9 := hK.sub (tys' := []) [] rfl
          refine W.widen (k := 0) (n := 0) (Nat.le_of_ble_eq_true rfl) (Nat.le_of_ble_eq_true rfl) ?_
          exact W.zret (v := 1) hx hb hr (by rfl) (fun t ht hW => ⟨⟨1, (), rfl, (show 1 = v_heap p1 p2 by unfold v_heap; rw [if_pos (by omega)]), ⟨0, p1, p2, 0, (by first | omega | decide), (by first | omega | decide), (by decide), by rw [ht]; exact hP9, va_K.moved hW.alike hK9, hD9⟩⟩, hS.F ht⟩) hS.2.2 dX12_heap_45
        · have k_16 : (p2).toInt > (12 : Int) := z_nle c_11
          refine lv_iconst (v := 0) hx hb dX12_heap_27 (by decide) ?_
          have hP9 := hP
          have hD9 := hD
          have hK9 := hK.sub (tys' := []) [] rfl
          refine W.widen (k := 0) (n := 0) (Nat.le_of_ble_eq_true rfl) (Nat.le_of_ble_eq_true rfl) ?_
          exact W.zret (v := 0) hx hb hr (by rfl) (fun t ht hW => ⟨⟨0, (), rfl, (show 0 = v_heap p1 p2 by unfold v_heap; rw [if_neg (by omega)]), ⟨0, mw, mh, mc, hB_mw, hB_mh, hB_mc, by rw [ht]; exact hP9, va_K.moved hW.alike hK9, hD9⟩⟩, hS.F ht⟩) hS.2.2 dX12_heap_28
