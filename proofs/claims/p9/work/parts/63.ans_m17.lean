def u_s_X4_setSpansK : List Cond := .code yX4_setSpans cX4_setSpans 3 none :: ([.fieldLink RX4 15 "ShellHeap$Known" "layersSeen" "I", .fieldLink RX4 9 "ShellHeap$Known" "notesSeen" "I", .methodLink RX4 105 yX4_leadYears, .instanceMethod yX4_leadYears, .selects RX4 yX4_leadYears yX4_leadYears, .initialized RX4, .fieldLink RX4 32 "ShellHeap$Known" "least" "[I", .fieldLink RX4 35 "ShellHeap$Known" "greatest" "[I", .fieldLink RX4 38 "ShellHeap$Known" "clash" "I", .methodLink RX4 72 yX4_counts, .instanceMethod yX4_counts, .selects RX4 yX4_counts yX4_counts, .fieldLink RX4 29 "ShellHeap$Known" "bedOf" "[I", .fieldLink RX4 41 "ShellHeap$Known" "book" "LShellHeap$Book;", .fieldLink RX4 76 "ShellHeap$Book" "a" "[I", .fieldLink RX4 79 "ShellHeap$Book" "b" "[I", .methodLink RX4 92 Lib.Math.max.name, .static Lib.Math.max.name, .initialized "java/lang/Math", .code Lib.Math.max.name Lib.Math.max.code 2 (some .int), .fieldLink RX4 102 "ShellHeap$Book" "c" "[I", .methodLink RX4 86 Lib.Math.min.name, .static Lib.Math.min.name, .code Lib.Math.min.name Lib.Math.min.code 2 (some .int)] ++ (wsX40 ++ (wsX00 ++ (u_s_X4_leadYearsK ++ (u_s_X4_countsK ++ [])))))
theorem gd_s_X4_setSpansK : z_gd u_s_X4_setSpansK := z_gdc (by decide +kernel) (z_gda gdX4 (z_gda gdX0 (z_gda gd_s_X4_leadYearsK (z_gda gd_s_X4_countsK (z_gd0)))))
set_option maxRecDepth 20000 in
theorem gw_s_X4_setSpansK_s_X4_leadYearsK_105 : GoodIn u_s_X4_setSpansK (wsV RX4 105 RX4 yX4_leadYears u_s_X4_leadYearsK) := z_gV (z_gr _ [3, 4, 5, 6] rfl (by decide +kernel)) (fun w h => ⟨z_mc (z_mr (z_mr (z_mr (z_ml h)))), gd_s_X4_leadYearsK w h⟩)
set_option maxRecDepth 20000 in
theorem gw_s_X4_setSpansK_s_X4_countsK_72 : GoodIn u_s_X4_setSpansK (wsV RX4 72 RX4 yX4_counts u_s_X4_countsK) := z_gV (z_gr _ [10, 11, 12, 6] rfl (by decide +kernel)) (fun w h => ⟨z_mc (z_mr (z_mr (z_mr (z_mr (z_ml h))))), gd_s_X4_countsK w h⟩)
set_option maxHeartbeats 4000000 in
set_option maxRecDepth 100000 in
theorem s_X4_setSpansK (l : Launch) (dC : Nat → ClassId) (dI : Nat → Nat → Nat) (sz : Nat) (h0 : Nat) (h1 : Nat) (kn : Int32) (kl : Int32) (hk9 : Nat) (hlt : Nat) (h0_5 : Value) (hbd : Nat) (hle : Nat) (hgr : Nat) (kc : Int32) (hs : Nat) (ha : Nat) (hb9 : Nat) (hc9 : Nat) (h1_4 : Value) (h1_5 : Value) (chk9 : ClassId) (fhk9 : Nat → Int32) (chs : ClassId) (fhs : Nat → Int32) (cha : ClassId) (fha : Nat → Int32) (chb9 : ClassId) (fhb9 : Nat → Int32) (chc9 : ClassId) (fhc9 : Nat → Int32) (chbd : ClassId) (fhbd : Nat → Int32) (chlt : ClassId) (fhlt : Nat → Int32) (chle : ClassId) (fhle : Nat → Int32) (chgr : ClassId) (fhgr : Nat → Int32) (hB_kn : ((-1 : Int) ≤ (kn).toInt ∧ (kn).toInt ≤ (80 : Int))) (hB_kl : ((-1 : Int) ≤ (kl).toInt ∧ (kl).toInt ≤ (12 : Int))) (hB_kc : ((0 : Int) ≤ (kc).toInt ∧ (kc).toInt ≤ (2 : Int))) (hI_ha : ∀ j : Nat, ((0 : Int) ≤ (fha j).toInt ∧ (fha j).toInt ≤ (79 : Int))) (hI_hbd : ∀ j : Nat, ((0 : Int) ≤ (fhbd j).toInt ∧ (fhbd j).toInt ≤ (11 : Int))) (hT : k_tr (k_M kl.toInt fhlt)) (hRD : k_rd fhs fha kn.toInt kl.toInt) (hBL : k_bl kl.toInt fhbd) (hkc : kc.toInt = 0) : Met l yX4_setSpans u_s_X4_setSpansK ({ frames := 2, cells := 0, slots := 0, locals := 44 }) (va_Pc [.ref h0] (z_C (dC, dI) vwCl [(h0, .inr (4, [.ref h1, .int kn, .int kl, .ref hk9, .ref hlt, h0_5, .ref hbd, .ref hle, .ref hgr, .int kc])), (h1, .inr (0, [.ref hs, .ref ha, .ref hb9, .ref hc9, h1_4, h1_5])), (hk9, .inl (chk9, 80, .inl fhk9)), (hs, .inl (chs, 80, .inl fhs)), (ha, .inl (cha, 80, .inl fha)), (hb9, .inl (chb9, 80, .inl fhb9)), (hc9, .inl (chc9, 80, .inl fhc9)), (hbd, .inl (chbd, 12, .inl fhbd)), (hlt, .inl (chlt, 12, .inl fhlt)), (hle, .inl (chle, 12, .inl fhle)), (hgr, .inl (chgr, 12, .inl fhgr))] [(chk9, .boolean), (chs, .int), (cha, .int), (chb9, .int), (chc9, .int), (chbd, .int), (chlt, .int), (chle, .int), (chgr, .int)] sz)) (va_Qv (fun (_ : Unit) => True) (fun (_ : Unit) (t : State) => ∃ (n_h0_clash : Int32), ∃ (g_hle : Nat → Int32), ∃ (g_hgr : Nat → Int32), ((0 : Int) ≤ (n_h0_clash).toInt ∧ (n_h0_clash).toInt ≤ (2 : Int)) ∧ (k_SP (k_M kl.toInt fhlt) (k_D fhs fha fhb9 fhk9 fhbd kn.toInt kn.toInt) (k_D fhs fha fhc9 fhk9 fhbd kn.toInt kn.toInt) kl.toInt g_hle g_hgr) ∧ (k_ql kl.toInt g_hle g_hgr n_h0_clash.toInt) ∧ va_P (dC, dI) vwCl [(h0, .inr (4, [.ref h1, .int kn, .int kl, .ref hk9, .ref hlt, h0_5, .ref hbd, .ref hle, .ref hgr, .int n_h0_clash])), (h1, .inr (0, [.ref hs, .ref ha, .ref hb9, .ref hc9, h1_4, h1_5])), (hk9, .inl (chk9, 80, .inl fhk9)), (hs, .inl (chs, 80, .inl fhs)), (ha, .inl (cha, 80, .inl fha)), (hb9, .inl (chb9, 80, .inl fhb9)), (hc9, .inl (chc9, 80, .inl fhc9)), (hbd, .inl (chbd, 12, .inl fhbd)), (hlt, .inl (chlt, 12, .inl fhlt)), (hle, .inl (chle, 12, .inl g_hle)), (hgr, .inl (chgr, 12, .inl g_hgr))] t.heap ∧ va_K (dC, dI) vwCl [] t ∧ va_D (va_A [(h0, .inr (4, [.ref h1, .int kn, .int kl, .ref hk9, .ref hlt, h0_5, .ref hbd, .ref hle, .ref hgr, .int kc])), (h1, .inr (0, [.ref hs, .ref ha, .ref hb9, .ref hc9, h1_4, h1_5])), (hk9, .inl (chk9, 80, .inl fhk9)), (hs, .inl (chs, 80, .inl fhs)), (ha, .inl (cha, 80, .inl fha)), (hb9, .inl (chb9, 80, .inl fhb9)), (hc9, .inl (chc9, 80, .inl fhc9)), (hbd, .inl (chbd, 12, .inl fhbd)), (hlt, .inl (chlt, 12, .inl fhlt)), (hle, .inl (chle, 12, .inl fhle)), (hgr, .inl (chgr, 12, .inl fhgr))] sz) [(h0, .inr (4, [.ref h1, .int kn, .int kl, .ref hk9, .ref hlt, h0_5, .ref hbd, .ref hle, .ref hgr, .int n_h0_clash])), (h1, .inr (0, [.ref hs, .ref ha, .ref hb9, .ref hc9, h1_4, h1_5])), (hk9, .inl (chk9, 80, .inl fhk9)), (hs, .inl (chs, 80, .inl fhs)), (ha, .inl (cha, 80, .inl fha)), (hb9, .inl (chb9, 80, .inl fhb9)), (hc9, .inl (chc9, 80, .inl fhc9)), (hbd, .inl (chbd, 12, .inl fhbd)), (hlt, .inl (chlt, 12, .inl fhlt)), (hle, .inl (chle, 12, .inl g_hle)), (hgr, .inl (chgr, 12, .inl g_hgr))]) (va_A [(h0, .inr (4, [.ref h1, .int kn, .int kl, .ref hk9, .ref hlt, h0_5, .ref hbd, .ref hle, .ref hgr, .int kc])), (h1, .inr (0, [.ref hs, .ref ha, .ref hb9, .ref hc9, h1_4, h1_5])), (hk9, .inl (chk9, 80, .inl fhk9)), (hs, .inl (chs, 80, .inl fhs)), (ha, .inl (cha, 80, .inl fha)), (hb9, .inl (chb9, 80, .inl fhb9)), (hc9, .inl (chc9, 80, .inl fhc9)), (hbd, .inl (chbd, 12, .inl fhbd)), (hlt, .inl (chlt, 12, .inl fhlt)), (hle, .inl (chle, 12, .inl fhle)), (hgr, .inl (chgr, 12, .inl fhgr))] sz)) 0 0 (va_A [(h0, .inr (4, [.ref h1, .int kn, .int kl, .ref hk9, .ref hlt, h0_5, .ref hbd, .ref hle, .ref hgr, .int kc])), (h1, .inr (0, [.ref hs, .ref ha, .ref hb9, .ref hc9, h1_4, h1_5])), (hk9, .inl (chk9, 80, .inl fhk9)), (hs, .inl (chs, 80, .inl fhs)), (ha, .inl (cha, 80, .inl fha)), (hb9, .inl (chb9, 80, .inl fhb9)), (hc9, .inl (chc9, 80, .inl fhc9)), (hbd, .inl (chbd, 12, .inl fhbd)), (hlt, .inl (chlt, 12, .inl fhlt)), (hle, .inl (chle, 12, .inl fhle)), (hgr, .inl (chgr, 12, .inl fhgr))] sz) := by
  refine Met.ofW (cc := cX4_setSpans) (maxL := 3) (ret := none) (by decide) rfl ?_
  intro p e s m args below meth c s₁ B hml hv
  obtain ⟨rfl, hsz, hP, hK, hD0⟩ := hv
  have hx := B.exec
  have hb := B.bytes
  have hr := B.returns
  have hts := atoms_spec (ws := u_s_X4_setSpansK) B.pre
  have hown : s.vm.findClass RX4 = some m.cls := findClass_of_methodNamed B.named
  have hlocks := B.notSynchronized
  subst hsz
  have hD := hD0.self (sz := s.heap.size)
  generalize hAe : va_A [(h0, .inr (4, [.ref h1, .int kn, .int kl, .ref hk9, .ref hlt, h0_5, .ref hbd, .ref hle, .ref hgr, .int kc])), (h1, .inr (0, [.ref hs, .ref ha, .ref hb9, .ref hc9, h1_4, h1_5])), (hk9, .inl (chk9, 80, .inl fhk9)), (hs, .inl (chs, 80, .inl fhs)), (ha, .inl (cha, 80, .inl fha)), (hb9, .inl (chb9, 80, .inl fhb9)), (hc9, .inl (chc9, 80, .inl fhc9)), (hbd, .inl (chbd, 12, .inl fhbd)), (hlt, .inl (chlt, 12, .inl fhlt)), (hle, .inl (chle, 12, .inl fhle)), (hgr, .inl (chgr, 12, .inl fhgr))] s.heap.size = A at hD ⊢
  have hA : ∀ q : Nat, s.heap.size ≤ q → A q := fun q h => by rw [← hAe]; exact Or.inr h
  have hS : va_S A s.heap s.heap [] := va_S.rf
  have hP : va_P (dC, dI) vwCl [(h0, .inr (4, [.ref h1, .int kn, .int kl, .ref hk9, .ref hlt, h0_5, .ref hbd, .ref hle, .ref hgr, .int kc])), (h1, .inr (0, [.ref hs, .ref ha, .ref hb9, .ref hc9, h1_4, h1_5])), (hk9, .inl (chk9, 80, .inl fhk9)), (hs, .inl (chs, 80, .inl fhs)), (ha, .inl (cha, 80, .inl fha)), (hb9, .inl (chb9, 80, .inl fhb9)), (hc9, .inl (chc9, 80, .inl fhc9)), (hbd, .inl (chbd, 12, .inl fhbd)), (hlt, .inl (chlt, 12, .inl fhlt)), (hle, .inl (chle, 12, .inl fhle)), (hgr, .inl (chgr, 12, .inl fhgr))] s.heap := hP
  have w__fieldLink_RX4_15_ShellHeap_Known_layersSeen_I_ := hts (.fieldLink RX4 15 "ShellHeap$Known" "layersSeen" "I") (z_mc (z_ml z_m0))
  have hiX4 := show ∀ w ∈ u_ws RX4 TX4 10, w ∈ u_s_X4_setSpansK from fun w h => z_mc (z_mr (z_ml h))
  have w__fieldLink_RX4_9_ShellHeap_Known_notesSeen_I_ := hts (.fieldLink RX4 9 "ShellHeap$Known" "notesSeen" "I") (z_mc (z_ml z_m1))
  have w__fieldLink_RX4_32_ShellHeap_Known_least_I_ := hts (.fieldLink RX4 32 "ShellHeap$Known" "least" "[I") (z_mc (z_ml z_m6))
  have w__fieldLink_RX4_35_ShellHeap_Known_greatest_I_ := hts (.fieldLink RX4 35 "ShellHeap$Known" "greatest" "[I") (z_mc (z_ml z_m7))
  have w__fieldLink_RX4_38_ShellHeap_Known_clash_I_ := hts (.fieldLink RX4 38 "ShellHeap$Known" "clash" "I") (z_mc (z_ml z_m8))
  have w__fieldLink_RX4_29_ShellHeap_Known_bedOf_I_ := hts (.fieldLink RX4 29 "ShellHeap$Known" "bedOf" "[I") (z_mc (z_ml z_m12))
  have w__fieldLink_RX4_41_ShellHeap_Known_book_LShellHeap_Book_ := hts (.fieldLink RX4 41 "ShellHeap$Known" "book" "LShellHeap$Book;") (z_mc (z_ml z_m13))
  have w__fieldLink_RX4_76_ShellHeap_Book_a_I_ := hts (.fieldLink RX4 76 "ShellHeap$Book" "a" "[I") (z_mc (z_ml z_m14))
  have hiX0 := show ∀ w ∈ u_ws RX0 TX0 6, w ∈ u_s_X4_setSpansK from fun w h => z_mc (z_mr (z_mr (z_ml h)))
  have w__fieldLink_RX4_79_ShellHeap_Book_b_I_ := hts (.fieldLink RX4 79 "ShellHeap$Book" "b" "[I") (z_mc (z_ml z_m15))
  have w__methodLink_RX4_92_Lib_Math_max_name := hts (.methodLink RX4 92 Lib.Math.max.name) (z_mc (z_ml z_m16))
  have w__static_Lib_Math_max_name := hts (.static Lib.Math.max.name) (z_mc (z_ml z_m17))
  have w__initialized_java_lang_Math_ := hts (.initialized "java/lang/Math") (z_mc (z_ml z_m18))
  have w__code_Lib_Math_max_name_Lib_Math_max_code_2_some_int_ := hts (.code Lib.Math.max.name Lib.Math.max.code 2 (some .int)) (z_mc (z_ml z_m19))
  have w__fieldLink_RX4_102_ShellHeap_Book_c_I_ := hts (.fieldLink RX4 102 "ShellHeap$Book" "c" "[I") (z_mc (z_ml z_m20))
  have w__methodLink_RX4_86_Lib_Math_min_name := hts (.methodLink RX4 86 Lib.Math.min.name) (z_mc (z_ml z_m21))
  have w__static_Lib_Math_min_name := hts (.static Lib.Math.min.name) (z_mc (z_ml z_m22))
  have w__code_Lib_Math_min_name_Lib_Math_min_code_2_some_int_ := hts (.code Lib.Math.min.name Lib.Math.min.code 2 (some .int)) (z_mc (z_ml z_m23))
  have hl := lv_entry ([.ref h0]) (n := 3) (Nat.le_of_ble_eq_true rfl)
  rw [lg_entry_eq]
  generalize (lg_sl ([.ref h0]) ++ List.replicate (3 - (lg_sl ([.ref h0])).length) Slot.unset).toArray = ls at hl ⊢
  have hl : lv_has ls 3 [(0, .ref h0)] := hl
  refine z_nameQ (fun QQ hQQ => ?_)
  refine lv_iconst (v := 0) hx hb dX4_setSpans_0 (by decide) ?_
  refine lv_istore_n (lv' := [(1, .int 0), (0, .ref h0)]) hx hb dX4_setSpans_1 rfl hl (by decide) rfl (fun ls hl => ?_)
  have loop_1 : ∀ (n_2 : Nat) (i_4 : Int32) (f_5 : Nat → Int32) (f_6 : Nat → Int32) (H : Heap) (locs : List Loc) (ls : Array Slot), (13 - (i_4).toInt).toNat < n_2 → (((0 : Int) ≤ (i_4).toInt ∧ (i_4).toInt ≤ (12 : Int))) → (k_z (i_4).toInt f_5) → (kY9 (i_4).toInt f_6) → va_P (dC, dI) vwCl [(h0, .inr (4, [.ref h1, .int kn, .int kl, .ref hk9, .ref hlt, h0_5, .ref hbd, .ref hle, .ref hgr, .int kc])), (h1, .inr (0, [.ref hs, .ref ha, .ref hb9, .ref hc9, h1_4, h1_5])), (hk9, .inl (chk9, 80, .inl fhk9)), (hs, .inl (chs, 80, .inl fhs)), (ha, .inl (cha, 80, .inl fha)), (hb9, .inl (chb9, 80, .inl fhb9)), (hc9, .inl (chc9, 80, .inl fhc9)), (hbd, .inl (chbd, 12, .inl fhbd)), (hlt, .inl (chlt, 12, .inl fhlt)), (hle, .inl (chle, 12, .inl f_5)), (hgr, .inl (chgr, 12, .inl f_6))] H → va_D A [(h0, .inr (4, [.ref h1, .int kn, .int kl, .ref hk9, .ref hlt, h0_5, .ref hbd, .ref hle, .ref hgr, .int kc])), (h1, .inr (0, [.ref hs, .ref ha, .ref hb9, .ref hc9, h1_4, h1_5])), (hk9, .inl (chk9, 80, .inl fhk9)), (hs, .inl (chs, 80, .inl fhs)), (ha, .inl (cha, 80, .inl fha)), (hb9, .inl (chb9, 80, .inl fhb9)), (hc9, .inl (chc9, 80, .inl fhc9)), (hbd, .inl (chbd, 12, .inl fhbd)), (hlt, .inl (chlt, 12, .inl fhlt)), (hle, .inl (chle, 12, .inl f_5)), (hgr, .inl (chgr, 12, .inl f_6))] → va_S A s.heap H locs → lv_has ls 3 [(1, .int i_4), (0, .ref h0)] → W p l e ({ frames := 2, cells := 0, slots := 0, locals := 44 } : Room) s m ([.ref h0] : List Value).toArray below meth c H locs 0 0 QQ (F0 m 2 ls []) := by
    intro n_2
    induction n_2 with
    | zero => intro i_4 f_5 f_6 H locs ls hm; exact absurd hm (Nat.not_lt_zero _)
    | succ n_2 ih_3 =>
      intro i_4 f_5 f_6 H locs ls hm hF_7 hF_8 hF_9 hP hD hS hl
      refine lv_iload_n hx hb dX4_setSpans_2 rfl (lv_at hl 0 rfl) ?_
      refine lv_aload_n hx hb dX4_setSpans_3 rfl (lv_at hl 1 rfl) ?_
      refine va_get (D := (dC, dI)) (ci := 4) (v := .int kl) (C := RX4) (T := TX4) (N := 10) hx hb hts hiX4 hown hK hP 0 rfl rfl 2 (by decide) w__fieldLink_RX4_15_ShellHeap_Known_layersSeen_I_ (fun _ h9 => h9) rfl dX4_setSpans_4 ?_
      refine lv_icmp_ge (tgt := 32) hx hb dX4_setSpans_7 (by decide) (fun c_10 => ?_) (fun c_10 => ?_)
      · have k_11 : (kl).toInt ≤ (i_4).toInt := z_le c_10
        refine lv_iconst (v := 0) hx hb dX4_setSpans_32 (by decide) ?_
        refine lv_istore_n (lv' := [(1, .int 0), (0, .ref h0)]) hx hb dX4_setSpans_33 rfl hl (by decide) rfl (fun ls hl => ?_)
        have loop_12 : ∀ (n_13 : Nat) (i_15 : Int32) (f_16 : Nat → Int32) (f_17 : Nat → Int32) (H : Heap) (locs : List Loc) (ls : Array Slot), (81 - (i_15).toInt).toNat < n_13 → (((0 : Int) ≤ (i_15).toInt ∧ (i_15).toInt ≤ (80 : Int))) → (k_m0 (k_D fhs fha fhb9 fhk9 fhbd (kn).toInt (i_15).toInt) (kl).toInt f_16) → (k_n0 (k_D fhs fha fhc9 fhk9 fhbd (kn).toInt (i_15).toInt) (kl).toInt f_17) → va_P (dC, dI) vwCl [(h0, .inr (4, [.ref h1, .int kn, .int kl, .ref hk9, .ref hlt, h0_5, .ref hbd, .ref hle, .ref hgr, .int kc])), (h1, .inr (0, [.ref hs, .ref ha, .ref hb9, .ref hc9, h1_4, h1_5])), (hk9, .inl (chk9, 80, .inl fhk9)), (hs, .inl (chs, 80, .inl fhs)), (ha, .inl (cha, 80, .inl fha)), (hb9, .inl (chb9, 80, .inl fhb9)), (hc9, .inl (chc9, 80, .inl fhc9)), (hbd, .inl (chbd, 12, .inl fhbd)), (hlt, .inl (chlt, 12, .inl fhlt)), (hle, .inl (chle, 12, .inl f_16)), (hgr, .inl (chgr, 12, .inl f_17))] H → va_D A [(h0, .inr (4, [.ref h1, .int kn, .int kl, .ref hk9, .ref hlt, h0_5, .ref hbd, .ref hle, .ref hgr, .int kc])), (h1, .inr (0, [.ref hs, .ref ha, .ref hb9, .ref hc9, h1_4, h1_5])), (hk9, .inl (chk9, 80, .inl fhk9)), (hs, .inl (chs, 80, .inl fhs)), (ha, .inl (cha, 80, .inl fha)), (hb9, .inl (chb9, 80, .inl fhb9)), (hc9, .inl (chc9, 80, .inl fhc9)), (hbd, .inl (chbd, 12, .inl fhbd)), (hlt, .inl (chlt, 12, .inl fhlt)), (hle, .inl (chle, 12, .inl f_16)), (hgr, .inl (chgr, 12, .inl f_17))] → va_S A s.heap H locs → lv_has ls 3 [(1, .int i_15), (0, .ref h0)] → W p l e ({ frames := 2, cells := 0, slots := 0, locals := 44 } : Room) s m ([.ref h0] : List Value).toArray below meth c H locs 0 0 QQ (F0 m 34 ls []) := by
          intro n_13
          induction n_13 with
          | zero => intro i_15 f_16 f_17 H locs ls hm; exact absurd hm (Nat.not_lt_zero _)
          | succ n_13 ih_14 =>
            intro i_15 f_16 f_17 H locs ls hm hF_18 hF_19 hF_20 hP hD hS hl
            refine lv_iload_n hx hb dX4_setSpans_34 rfl (lv_at hl 0 rfl) ?_
            refine lv_aload_n hx hb dX4_setSpans_35 rfl (lv_at hl 1 rfl) ?_
            refine va_get (D := (dC, dI)) (ci := 4) (v := .int kn) (C := RX4) (T := TX4) (N := 10) hx hb hts hiX4 hown hK hP 0 rfl rfl 1 (by decide) w__fieldLink_RX4_9_ShellHeap_Known_notesSeen_I_ (fun _ h9 => h9) rfl dX4_setSpans_36 ?_
            refine lv_icmp_ge (tgt := 120) hx hb dX4_setSpans_39 (by decide) (fun c_21 => ?_) (fun c_21 => ?_)
            · have k_22 : (kn).toInt ≤ (i_15).toInt := z_le c_21
              have hm_23 := k_m0_i hF_19 (fun x v => (k_D_c (show (kn).toInt ≤ _ by omega) x v).symm)
              have hn_24 := k_n0_i hF_20 (fun x v => (k_D_c (show (kn).toInt ≤ _ by omega) x v).symm)
              refine lv_aload_n hx hb dX4_setSpans_120 rfl (lv_at hl 1 rfl) ?_
              obtain ⟨hPc, hDc, hFc⟩ := z_sub3 (ws' := [(h0, .inr (4, [.ref h1, .int kn, .int kl, .ref hk9, .ref hlt, h0_5, .ref hbd, .ref hle, .ref hgr, .int kc])), (hlt, .inl (chlt, 12, .inl fhlt)), (hle, .inl (chle, 12, .inl f_16)), (hgr, .inl (chgr, 12, .inl f_17))]) hP hD hS hA [0, 8, 9, 10] (by decide) rfl
              have hKc := hK.sub (tys' := [(chlt, .int), (chle, .int), (chgr, .int)]) [6, 7, 8] rfl
              refine va_callv (va_runV (As := []) (rest := []) ⟨hx, hb, hml, hown, hts⟩ (s_X4_leadYearsK l dC dI H.size h0 (.ref h1) (.int kn) kl (.ref hk9) hlt h0_5 (.ref hbd) hle hgr (.int kc) chlt fhlt chle f_16 chgr f_17 hB_kl hT) (cwV 0 hts gw_s_X4_setSpansK_s_X4_leadYearsK_105 rfl rfl rfl (by decide +kernel) ⟨Nat.le_of_ble_eq_true rfl, Nat.le_of_ble_eq_true rfl⟩) ⟨z_blind, va_recv hKc hPc (ci := 4) (q0 := 0) rfl rfl, z_pre hPc hKc hDc⟩ rfl rfl hl.1 rfl (lv_room (Nat.le_of_ble_eq_true rfl)) dX4_setSpans_121 ⟨Nat.le_of_ble_eq_true rfl, Nat.le_of_ble_eq_true rfl⟩) hS (fun q _ h => hFc q h) hFc (fun u t H_25 locs ht hvm hw_27 hB hz1 hk1 hS => ?_)
              obtain ⟨g_h2_28, g_h3_29, hp_30, hP1, hK1, hD1⟩ := hB
              rw [ht] at hP1
              have hK1 := va_K.moved hvm.symm hK1
              obtain ⟨hP, hD⟩ := z_ap_7 (va_join (wr := [(h1, .inr (0, [.ref hs, .ref ha, .ref hb9, .ref hc9, h1_4, h1_5])), (hk9, .inl (chk9, 80, .inl fhk9)), (hs, .inl (chs, 80, .inl fhs)), (ha, .inl (cha, 80, .inl fha)), (hb9, .inl (chb9, 80, .inl fhb9)), (hc9, .inl (chc9, 80, .inl fhc9)), (hbd, .inl (chbd, 12, .inl fhbd))]) hP hD [0, 8, 9, 10] [1, 2, 3, 4, 5, 6, 7] rfl rfl (by decide) (by decide) hk1 hFc hP1 hD1)
              have hp_30 : k_ly (k_M kl.toInt fhlt) kl.toInt f_16 g_h2_28 f_17 g_h3_29 := hp_30
              clear hPc hDc hKc
              refine lv_iconst (v := 0) hx hb dX4_setSpans_124 (by decide) ?_
              refine lv_istore_n (lv' := [(1, .int 0), (0, .ref h0)]) hx hb dX4_setSpans_125 rfl hl (by decide) rfl (fun ls hl => ?_)
              have loop_31 : ∀ (n_32 : Nat) (i_34 : Int32) (v_35 : Int32) (H : Heap) (locs : List Loc) (ls : Array Slot), (13 - (i_34).toInt).toNat < n_32 → (((0 : Int) ≤ (i_34).toInt ∧ (i_34).toInt ≤ (12 : Int))) → (((0 : Int) ≤ (v_35).toInt ∧ (v_35).toInt ≤ (2 : Int))) → (k_ql (i_34).toInt g_h2_28 g_h3_29 (v_35).toInt) → ((i_34).toInt ≤ (kl).toInt ∨ (i_34).toInt = 0) → va_P (dC, dI) vwCl [(h1, .inr (0, [.ref hs, .ref ha, .ref hb9, .ref hc9, h1_4, h1_5])), (hk9, .inl (chk9, 80, .inl fhk9)), (hs, .inl (chs, 80, .inl fhs)), (ha, .inl (cha, 80, .inl fha)), (hb9, .inl (chb9, 80, .inl fhb9)), (hc9, .inl (chc9, 80, .inl fhc9)), (hbd, .inl (chbd, 12, .inl fhbd)), (h0, .inr (4, [.ref h1, .int kn, .int kl, .ref hk9, .ref hlt, h0_5, .ref hbd, .ref hle, .ref hgr, .int v_35])), (hlt, .inl (chlt, 12, .inl fhlt)), (hle, .inl (chle, 12, .inl g_h2_28)), (hgr, .inl (chgr, 12, .inl g_h3_29))] H → va_D A [(h1, .inr (0, [.ref hs, .ref ha, .ref hb9, .ref hc9, h1_4, h1_5])), (hk9, .inl (chk9, 80, .inl fhk9)), (hs, .inl (chs, 80, .inl fhs)), (ha, .inl (cha, 80, .inl fha)), (hb9, .inl (chb9, 80, .inl fhb9)), (hc9, .inl (chc9, 80, .inl fhc9)), (hbd, .inl (chbd, 12, .inl fhbd)), (h0, .inr (4, [.ref h1, .int kn, .int kl, .ref hk9, .ref hlt, h0_5, .ref hbd, .ref hle, .ref hgr, .int v_35])), (hlt, .inl (chlt, 12, .inl fhlt)), (hle, .inl (chle, 12, .inl g_h2_28)), (hgr, .inl (chgr, 12, .inl g_h3_29))] → va_S A s.heap H locs → lv_has ls 3 [(1, .int i_34), (0, .ref h0)] → W p l e ({ frames := 2, cells := 0, slots := 0, locals := 44 } : Room) s m ([.ref h0] : List Value).toArray below meth c H locs 0 0 QQ (F0 m 126 ls []) := by
                intro n_32
                induction n_32 with
                | zero => intro i_34 v_35 H locs ls hm; exact absurd hm (Nat.not_lt_zero _)
                | succ n_32 ih_33 =>
                  intro i_34 v_35 H locs ls hm hF_36 hF_37 hF_38 hF_39 hP hD hS hl
                  refine lv_iload_n hx hb dX4_setSpans_126 rfl (lv_at hl 0 rfl) ?_
                  refine lv_aload_n hx hb dX4_setSpans_127 rfl (lv_at hl 1 rfl) ?_
                  refine va_get (D := (dC, dI)) (ci := 4) (v := .int kl) (C := RX4) (T := TX4) (N := 10) hx hb hts hiX4 hown hK hP 7 rfl rfl 2 (by decide) w__fieldLink_RX4_15_ShellHeap_Known_layersSeen_I_ (fun _ h9 => h9) rfl dX4_setSpans_128 ?_
                  refine lv_icmp_ge (tgt := 160) hx hb dX4_setSpans_131 (by decide) (fun c_40 => ?_) (fun c_40 => ?_)
                  · have k_41 : (kl).toInt ≤ (i_34).toInt := z_le c_40
                    refine z_backQ hQQ ?_
                    obtain ⟨hP9, hD9⟩ := z_sub2 (ws' := [(h0, .inr (4, [.ref h1, .int kn, .int kl, .ref hk9, .ref hlt, h0_5, .ref hbd, .ref hle, .ref hgr, .int v_35])), (h1, .inr (0, [.ref hs, .ref ha, .ref hb9, .ref hc9, h1_4, h1_5])), (hk9, .inl (chk9, 80, .inl fhk9)), (hs, .inl (chs, 80, .inl fhs)), (ha, .inl (cha, 80, .inl fha)), (hb9, .inl (chb9, 80, .inl fhb9)), (hc9, .inl (chc9, 80, .inl fhc9)), (hbd, .inl (chbd, 12, .inl fhbd)), (hlt, .inl (chlt, 12, .inl fhlt)), (hle, .inl (chle, 12, .inl g_h2_28)), (hgr, .inl (chgr, 12, .inl g_h3_29))]) hP hD [7, 0, 1, 2, 3, 4, 5, 6, 8, 9, 10] (by decide) rfl
                    have hK9 := hK.sub (tys' := []) [] rfl
                    refine W.widen (k := 0) (n := 0) (Nat.le_of_ble_eq_true rfl) (Nat.le_of_ble_eq_true rfl) ?_
                    exact W.vret hx hb hr (fun t ht hW => ⟨⟨(), rfl, trivial, ⟨v_35, g_h2_28, g_h3_29, hF_37, (show k_SP (k_M kl.toInt fhlt) (k_D fhs fha fhb9 fhk9 fhbd kn.toInt kn.toInt) (k_D fhs fha fhc9 fhk9 fhbd kn.toInt kn.toInt) kl.toInt g_h2_28 g_h3_29 from k_SP_of hp_30 hm_23 hn_24), (show k_ql kl.toInt g_h2_28 g_h3_29 v_35.toInt from k_ql_e hF_38 (by omega) (by omega)), by rw [ht]; exact hP9, va_K.moved hW.alike hK9, hD9⟩⟩, hS.F ht⟩) hS.2.2 dX4_setSpans_160
                  · have k_42 : (kl).toInt > (i_34).toInt := z_nle c_40
                    refine lv_aload_n hx hb dX4_setSpans_134 rfl (lv_at hl 1 rfl) ?_
                    refine va_get (D := (dC, dI)) (ci := 4) (v := .ref hle) (C := RX4) (T := TX4) (N := 10) hx hb hts hiX4 hown hK hP 7 rfl rfl 7 (by decide) w__fieldLink_RX4_32_ShellHeap_Known_least_I_ (fun _ h9 => h9) rfl dX4_setSpans_135 ?_
                    refine lv_iload_n hx hb dX4_setSpans_138 rfl (lv_at hl 0 rfl) ?_
                    refine va_iald hx hb hK hP 9 7 rfl rfl (z_vpin (by omega) (by omega)) dX4_setSpans_139 ?_
                    refine lv_topi (fun z_43 ez_43 => ?_)
                    have kxz_43 : (z_43).toInt = (g_h2_28 (i_34 : Int32).toNatClampNeg).toInt := by rw [ez_43]
                    refine lv_aload_n hx hb dX4_setSpans_140 rfl (lv_at hl 1 rfl) ?_
                    refine va_get (D := (dC, dI)) (ci := 4) (v := .ref hgr) (C := RX4) (T := TX4) (N := 10) hx hb hts hiX4 hown hK hP 7 rfl rfl 8 (by decide) w__fieldLink_RX4_35_ShellHeap_Known_greatest_I_ (fun _ h9 => h9) rfl dX4_setSpans_141 ?_
                    refine lv_iload_n hx hb dX4_setSpans_144 rfl (lv_at hl 0 rfl) ?_
                    refine va_iald hx hb hK hP 10 8 rfl rfl (z_vpin (by omega) (by omega)) dX4_setSpans_145 ?_
                    refine lv_topi (fun z_44 ez_44 => ?_)
                    have kxz_44 : (z_44).toInt = (g_h3_29 (i_34 : Int32).toNatClampNeg).toInt := by rw [ez_44]
                    refine lv_icmp_le (tgt := 154) hx hb dX4_setSpans_146 (by decide) (fun c_45 => ?_) (fun c_45 => ?_)
                    · have k_46 : (z_43).toInt ≤ (z_44).toInt := z_le c_45
                      obtain ⟨z_47, ez_47⟩ : ∃ y : Int32, y = i_34 + 1 := ⟨_, rfl⟩
                      have kz_47 : (z_47).toInt = (i_34).toInt + (1 : Int) := by rw [ez_47]; exact z_add (b := 1) rfl rfl (z_al hF_36.1 (by decide)) (z_ah hF_36.2 (by decide))
                      refine lv_iinc (v := z_47) (lv' := [(1, .int z_47), (0, .ref h0)]) hx hb dX4_setSpans_154 hl (k := 0) rfl (by rw [ez_47]; rfl) (by decide) rfl (fun ls hl => ?_)
                      refine lv_goto (tgt := 126) hx hb dX4_setSpans_157 (by decide) ?_
                      exact ih_33 z_47 v_35 _ _ _ (show (13 - (z_47).toInt).toNat < n_32 by omega) (show ((0 : Int) ≤ (z_47).toInt ∧ (z_47).toInt ≤ (12 : Int)) by omega) (show ((0 : Int) ≤ (v_35).toInt ∧ (v_35).toInt ≤ (2 : Int)) by omega) (show k_ql (z_47).toInt g_h2_28 g_h3_29 (v_35).toInt from k_ql_n (i := i_34) hF_38 (by omega) (by omega) (by omega)) (show (z_47).toInt ≤ (kl).toInt ∨ (z_47).toInt = 0 by omega) hP hD hS (lv_sub hl [0, 1] rfl)
                    · have k_48 : (z_43).toInt > (z_44).toInt := z_nle c_45
                      refine lv_aload_n hx hb dX4_setSpans_149 rfl (lv_at hl 1 rfl) ?_
                      refine lv_iconst (v := 2) hx hb dX4_setSpans_150 (by decide) ?_
                      refine va_put (D := (dC, dI)) (ci := 4) (v := .int 2) (ty := .int) (C := RX4) (T := TX4) (N := 10) hx hb hts hiX4 tyX4 tyX4_ok nmX4 hown hK hP hD hS 7 rfl rfl 9 (by decide) w__fieldLink_RX4_38_ShellHeap_Known_clash_I_ (fun _ h9 => h9) rfl (by decide +kernel) rfl rfl (Nat.le_of_ble_eq_true rfl) dX4_setSpans_151 (fun H_49 locs hP hD hS => ?_)
                      obtain ⟨hP, hD⟩ := z_s_7_9 hP hD
                      obtain ⟨z_50, ez_50⟩ : ∃ y : Int32, y = i_34 + 1 := ⟨_, rfl⟩
                      have kz_50 : (z_50).toInt = (i_34).toInt + (1 : Int) := by rw [ez_50]; exact z_add (b := 1) rfl rfl (z_al hF_36.1 (by decide)) (z_ah hF_36.2 (by decide))
                      refine lv_iinc (v := z_50) (lv' := [(1, .int z_50), (0, .ref h0)]) hx hb dX4_setSpans_154 hl (k := 0) rfl (by rw [ez_50]; rfl) (by decide) rfl (fun ls hl => ?_)
                      refine lv_goto (tgt := 126) hx hb dX4_setSpans_157 (by decide) ?_
                      exact ih_33 z_50 2 _ _ _ (show (13 - (z_50).toInt).toNat < n_32 by omega) (show ((0 : Int) ≤ (z_50).toInt ∧ (z_50).toInt ≤ (12 : Int)) by omega) (show ((0 : Int) ≤ (2 : Int) ∧ (2 : Int) ≤ (2 : Int)) by omega) (show k_ql (z_50).toInt g_h2_28 g_h3_29 (2 : Int) from k_ql_y (i := i_34) (by omega) (by omega) (by omega) rfl) (show (z_50).toInt ≤ (kl).toInt ∨ (z_50).toInt = 0 by omega) hP hD hS (lv_sub hl [0, 1] rfl)
              exact loop_31 _ 0 kc _ _ _ (Nat.lt_succ_self _) (show ((0 : Int) ≤ (0 : Int) ∧ (0 : Int) ≤ (12 : Int)) by omega) (show ((0 : Int) ≤ (kc).toInt ∧ (kc).toInt ≤ (2 : Int)) by omega) (show k_ql (0 : Int) g_h2_28 g_h3_29 (kc).toInt from k_ql_0 (by omega)) (show (0 : Int) ≤ (kl).toInt ∨ (0 : Int) = 0 by omega) hP hD hS hl
            · have k_51 : (kn).toInt > (i_15).toInt := z_nle c_21
              refine lv_aload_n hx hb dX4_setSpans_42 rfl (lv_at hl 1 rfl) ?_
              refine lv_iload_n hx hb dX4_setSpans_43 rfl (lv_at hl 0 rfl) ?_
              refine lv_iconst (v := 3) hx hb dX4_setSpans_44 (by decide) ?_
              obtain ⟨hPc, hDc⟩ := z_sub2 (ws' := [(h0, .inr (4, [.ref h1, .int kn, .int kl, .ref hk9, .ref hlt, h0_5, .ref hbd, .ref hle, .ref hgr, .int kc])), (h1, .inr (0, [.ref hs, .ref ha, .ref hb9, .ref hc9, h1_4, h1_5])), (hk9, .inl (chk9, 80, .inl fhk9)), (hs, .inl (chs, 80, .inl fhs))]) hP hD [0, 1, 2, 3] (by decide) rfl
              have hKc := hK.sub (tys' := [(chk9, .boolean), (chs, .int)]) [0, 1] rfl
              have hFc := va_free (ws := []) (wc := []) (z_D0 _) hS hA [] rfl
              refine va_calli (va_runV (As := [.int i_15, .int 3]) (rest := []) ⟨hx, hb, hml, hown, hts⟩ (s_X4_countsK l dC dI H.size h0 i_15 3 h1 kn (.int kl) hk9 (.ref hlt) h0_5 (.ref hbd) (.ref hle) (.ref hgr) (.int kc) hs (.ref ha) (.ref hb9) (.ref hc9) h1_4 h1_5 chk9 fhk9 chs fhs hB_kn (by first | omega | decide)) (cwV 2 hts gw_s_X4_setSpansK_s_X4_countsK_72 rfl rfl rfl (by decide +kernel) ⟨Nat.le_of_ble_eq_true rfl, Nat.le_of_ble_eq_true rfl⟩) ⟨z_blind, va_recv hKc hPc (ci := 4) (q0 := 0) rfl rfl, z_pre hPc hKc hDc⟩ rfl rfl hl.1 rfl (lv_room (Nat.le_of_ble_eq_true rfl)) dX4_setSpans_45 ⟨Nat.le_of_ble_eq_true rfl, Nat.le_of_ble_eq_true rfl⟩) hS (fun q _ h => hFc q h) hFc (fun r_53 u t H_52 locs ht hvm hw_54 hB hz1 hk1 hS => ?_)
              replace hP := z_pure hP hk1
              clear hPc hDc hKc
              rcases hw_54 with ⟨rfl, hw_54⟩ | ⟨rfl, hw_54⟩
              · have hw_54 : (i_15.toInt < kn.toInt ∧ (fhk9 i_15.toNatClampNeg).toInt = 0 ∧ (fhs i_15.toNatClampNeg).toInt = (3 : Int)) := hw_54
                refine lv_if_eq (tgt := 114) hx hb dX4_setSpans_48 (by decide) (fun c_55 => absurd c_55 (by decide)) (fun _ => ?_)
                refine lv_aload_n hx hb dX4_setSpans_51 rfl (lv_at hl 1 rfl) ?_
                refine va_get (D := (dC, dI)) (ci := 4) (v := .ref hbd) (C := RX4) (T := TX4) (N := 10) hx hb hts hiX4 hown hK hP 0 rfl rfl 6 (by decide) w__fieldLink_RX4_29_ShellHeap_Known_bedOf_I_ (fun _ h9 => h9) rfl dX4_setSpans_52 ?_
                refine lv_aload_n hx hb dX4_setSpans_55 rfl (lv_at hl 1 rfl) ?_
                refine va_get (D := (dC, dI)) (ci := 4) (v := .ref h1) (C := RX4) (T := TX4) (N := 10) hx hb hts hiX4 hown hK hP 0 rfl rfl 0 (by decide) w__fieldLink_RX4_41_ShellHeap_Known_book_LShellHeap_Book_ (fun _ h9 => h9) rfl dX4_setSpans_56 ?_
                refine va_get (D := (dC, dI)) (ci := 0) (v := .ref ha) (C := RX0) (T := TX0) (N := 6) hx hb hts hiX0 hown hK hP 1 rfl rfl 1 (by decide) w__fieldLink_RX4_76_ShellHeap_Book_a_I_ (fun _ h9 => h9) rfl dX4_setSpans_59 ?_
                refine lv_iload_n hx hb dX4_setSpans_62 rfl (lv_at hl 0 rfl) ?_
                refine va_iald hx hb hK hP 4 2 rfl rfl (z_vpin (by omega) (by omega)) dX4_setSpans_63 ?_
                refine lv_topi (fun z_56 ez_56 => ?_)
                have kz_56 : ((0 : Int) ≤ (z_56).toInt ∧ (z_56).toInt ≤ (79 : Int)) := by rw [ez_56]; exact hI_ha _
                have krz_56 := k_rd_a hRD (by omega) (by omega) hw_54.2.2 ez_56
                refine va_iald hx hb hK hP 7 5 rfl rfl (z_vpin (by omega) (by omega)) dX4_setSpans_64 ?_
                refine lv_topi (fun z_57 ez_57 => ?_)
                have kz_57 : ((0 : Int) ≤ (z_57).toInt ∧ (z_57).toInt ≤ (11 : Int)) := by rw [ez_57]; exact hI_hbd _
                have ke_58 : (z_57).toInt = (fhbd (fha (i_15 : Int32).toNatClampNeg).toNatClampNeg).toInt := by rw [← ez_56, ez_57]
                refine lv_istore_n (lv' := [(2, .int z_57), (1, .int i_15), (0, .ref h0)]) hx hb dX4_setSpans_65 rfl hl (by decide) rfl (fun ls hl => ?_)
                refine lv_aload_n hx hb dX4_setSpans_66 rfl (lv_at hl 2 rfl) ?_
                refine va_get (D := (dC, dI)) (ci := 4) (v := .ref hle) (C := RX4) (T := TX4) (N := 10) hx hb hts hiX4 hown hK hP 0 rfl rfl 7 (by decide) w__fieldLink_RX4_32_ShellHeap_Known_least_I_ (fun _ h9 => h9) rfl dX4_setSpans_67 ?_
                refine lv_iload_n hx hb dX4_setSpans_70 rfl (lv_at hl 0 rfl) ?_
                refine lv_aload_n hx hb dX4_setSpans_71 rfl (lv_at hl 2 rfl) ?_
                refine va_get (D := (dC, dI)) (ci := 4) (v := .ref hle) (C := RX4) (T := TX4) (N := 10) hx hb hts hiX4 hown hK hP 0 rfl rfl 7 (by decide) w__fieldLink_RX4_32_ShellHeap_Known_least_I_ (fun _ h9 => h9) rfl dX4_setSpans_72 ?_
                refine lv_iload_n hx hb dX4_setSpans_75 rfl (lv_at hl 0 rfl) ?_
                refine va_iald hx hb hK hP 9 7 rfl rfl (z_vpinB kz_57 (by decide) (by decide)) dX4_setSpans_76 ?_
                refine lv_topi (fun z_59 ez_59 => ?_)
                have kxz_59 : (z_59).toInt = (f_16 (z_57 : Int32).toNatClampNeg).toInt := by rw [ez_59]
                refine lv_aload_n hx hb dX4_setSpans_77 rfl (lv_at hl 2 rfl) ?_
                refine va_get (D := (dC, dI)) (ci := 4) (v := .ref h1) (C := RX4) (T := TX4) (N := 10) hx hb hts hiX4 hown hK hP 0 rfl rfl 0 (by decide) w__fieldLink_RX4_41_ShellHeap_Known_book_LShellHeap_Book_ (fun _ h9 => h9) rfl dX4_setSpans_78 ?_
                refine va_get (D := (dC, dI)) (ci := 0) (v := .ref hb9) (C := RX0) (T := TX0) (N := 6) hx hb hts hiX0 hown hK hP 1 rfl rfl 2 (by decide) w__fieldLink_RX4_79_ShellHeap_Book_b_I_ (fun _ h9 => h9) rfl dX4_setSpans_81 ?_
                refine lv_iload_n hx hb dX4_setSpans_84 rfl (lv_at hl 1 rfl) ?_
                refine va_iald hx hb hK hP 5 3 rfl rfl (z_vpin (by omega) (by omega)) dX4_setSpans_85 ?_
                refine lv_topi (fun z_60 ez_60 => ?_)
                have kxz_60 : (z_60).toInt = (fhb9 (i_15 : Int32).toNatClampNeg).toInt := by rw [ez_60]
                refine va_mmax hx hb (hml.trans hl.1.symm) hown w__methodLink_RX4_92_Lib_Math_max_name w__static_Lib_Math_max_name w__initialized_java_lang_Math_ w__code_Lib_Math_max_name_Lib_Math_max_code_2_some_int_ (Nat.le_of_ble_eq_true rfl) (Nat.le_of_ble_eq_true rfl) (Nat.le_of_ble_eq_true rfl) (Nat.le_of_ble_eq_true rfl) dX4_setSpans_86 ?_
                refine lv_topi (fun z_61 ez_61 => ?_)
                have kz_61 : ((z_61).toInt = (z_59).toInt ∨ (z_61).toInt = (z_60).toInt) ∧ (z_61).toInt ≥ (z_59).toInt ∧ (z_61).toInt ≥ (z_60).toInt := z_max ez_61
                refine va_iast hx hb hK hP hD hS 9 7 rfl rfl (z_vpinB kz_57 (by decide) (by decide)) dX4_setSpans_89 (fun H_62 locs hP hD hS => ?_)
                obtain ⟨hP, hD⟩ := z_s_9 hP hD
                refine lv_aload_n hx hb dX4_setSpans_90 rfl (lv_at hl 2 rfl) ?_
                refine va_get (D := (dC, dI)) (ci := 4) (v := .ref hgr) (C := RX4) (T := TX4) (N := 10) hx hb hts hiX4 hown hK hP 0 rfl rfl 8 (by decide) w__fieldLink_RX4_35_ShellHeap_Known_greatest_I_ (fun _ h9 => h9) rfl dX4_setSpans_91 ?_
                refine lv_iload_n hx hb dX4_setSpans_94 rfl (lv_at hl 0 rfl) ?_
                refine lv_aload_n hx hb dX4_setSpans_95 rfl (lv_at hl 2 rfl) ?_
                refine va_get (D := (dC, dI)) (ci := 4) (v := .ref hgr) (C := RX4) (T := TX4) (N := 10) hx hb hts hiX4 hown hK hP 0 rfl rfl 8 (by decide) w__fieldLink_RX4_35_ShellHeap_Known_greatest_I_ (fun _ h9 => h9) rfl dX4_setSpans_96 ?_
                refine lv_iload_n hx hb dX4_setSpans_99 rfl (lv_at hl 0 rfl) ?_
                refine va_iald hx hb hK hP 10 8 rfl rfl (z_vpinB kz_57 (by decide) (by decide)) dX4_setSpans_100 ?_
                refine lv_topi (fun z_64 ez_64 => ?_)
                have kxz_64 : (z_64).toInt = (f_17 (z_57 : Int32).toNatClampNeg).toInt := by rw [ez_64]
                refine lv_aload_n hx hb dX4_setSpans_101 rfl (lv_at hl 2 rfl) ?_
                refine va_get (D := (dC, dI)) (ci := 4) (v := .ref h1) (C := RX4) (T := TX4) (N := 10) hx hb hts hiX4 hown hK hP 0 rfl rfl 0 (by decide) w__fieldLink_RX4_41_ShellHeap_Known_book_LShellHeap_Book_ (fun _ h9 => h9) rfl dX4_setSpans_102 ?_
                refine va_get (D := (dC, dI)) (ci := 0) (v := .ref hc9) (C := RX0) (T := TX0) (N := 6) hx hb hts hiX0 hown hK hP 1 rfl rfl 3 (by decide) w__fieldLink_RX4_102_ShellHeap_Book_c_I_ (fun _ h9 => h9) rfl dX4_setSpans_105 ?_
                refine lv_iload_n hx hb dX4_setSpans_108 rfl (lv_at hl 1 rfl) ?_
                refine va_iald hx hb hK hP 6 4 rfl rfl (z_vpin (by omega) (by omega)) dX4_setSpans_109 ?_
                refine lv_topi (fun z_65 ez_65 => ?_)
                have kxz_65 : (z_65).toInt = (fhc9 (i_15 : Int32).toNatClampNeg).toInt := by rw [ez_65]
                refine va_mmin hx hb (hml.trans hl.1.symm) hown w__methodLink_RX4_86_Lib_Math_min_name w__static_Lib_Math_min_name w__initialized_java_lang_Math_ w__code_Lib_Math_min_name_Lib_Math_min_code_2_some_int_ (Nat.le_of_ble_eq_true rfl) (Nat.le_of_ble_eq_true rfl) (Nat.le_of_ble_eq_true rfl) (Nat.le_of_ble_eq_true rfl) dX4_setSpans_110 ?_
                refine lv_topi (fun z_66 ez_66 => ?_)
                have kz_66 : ((z_66).toInt = (z_64).toInt ∨ (z_66).toInt = (z_65).toInt) ∧ (z_66).toInt ≤ (z_64).toInt ∧ (z_66).toInt ≤ (z_65).toInt := z_min ez_66
                refine va_iast hx hb hK hP hD hS 10 8 rfl rfl (z_vpinB kz_57 (by decide) (by decide)) dX4_setSpans_113 (fun H_67 locs hP hD hS => ?_)
                obtain ⟨hP, hD⟩ := z_s_10 hP hD
                obtain ⟨z_69, ez_69⟩ : ∃ y : Int32, y = i_15 + 1 := ⟨_, rfl⟩
                have kz_69 : (z_69).toInt = (i_15).toInt + (1 : Int) := by rw [ez_69]; exact z_add (b := 1) rfl rfl (z_al hF_18.1 (by decide)) (z_ah hF_18.2 (by decide))
                refine lv_iinc (v := z_69) (lv' := [(1, .int z_69), (2, .int z_57), (0, .ref h0)]) hx hb dX4_setSpans_114 hl (k := 1) rfl (by rw [ez_69]; rfl) (by decide) rfl (fun ls hl => ?_)
                refine lv_goto (tgt := 34) hx hb dX4_setSpans_117 (by decide) ?_
                exact ih_14 z_69 (upd f_16 (z_57 : Int32).toNatClampNeg z_61) (upd f_17 (z_57 : Int32).toNatClampNeg z_66) _ _ _ (show (81 - (z_69).toInt).toNat < n_13 by omega) (show ((0 : Int) ≤ (z_69).toInt ∧ (z_69).toInt ≤ (80 : Int)) by omega) (show k_m0 (k_D fhs fha fhb9 fhk9 fhbd (kn).toInt (z_69).toInt) (kl).toInt (upd f_16 (z_57 : Int32).toNatClampNeg z_61) from k_m0_y (u := z_57) (w := (fhb9 (i_15 : Int32).toNatClampNeg).toInt) hF_19 (by omega) (fun x v => by rw [k_D_y (i := i_15) (by omega) (by omega) ⟨by rw [k_cn (by omega)]; omega, hw_54.2.1⟩ hw_54.2.2, ke_58]) (by omega)) (show k_n0 (k_D fhs fha fhc9 fhk9 fhbd (kn).toInt (z_69).toInt) (kl).toInt (upd f_17 (z_57 : Int32).toNatClampNeg z_66) from k_n0_y (u := z_57) (w := (fhc9 (i_15 : Int32).toNatClampNeg).toInt) hF_20 (by omega) (fun x v => by rw [k_D_y (i := i_15) (by omega) (by omega) ⟨by rw [k_cn (by omega)]; omega, hw_54.2.1⟩ hw_54.2.2, ke_58]) (by omega)) hP hD hS (lv_sub hl [0, 2] rfl)
              · have hw_54 : ¬ (i_15.toInt < kn.toInt ∧ (fhk9 i_15.toNatClampNeg).toInt = 0 ∧ (fhs i_15.toNatClampNeg).toInt = (3 : Int)) := hw_54
                refine lv_if_eq (tgt := 114) hx hb dX4_setSpans_48 (by decide) (fun _ => ?_) (fun c_70 => absurd (by decide) c_70)
                obtain ⟨z_71, ez_71⟩ : ∃ y : Int32, y = i_15 + 1 := ⟨_, rfl⟩
                have kz_71 : (z_71).toInt = (i_15).toInt + (1 : Int) := by rw [ez_71]; exact z_add (b := 1) rfl rfl (z_al hF_18.1 (by decide)) (z_ah hF_18.2 (by decide))
                refine lv_iinc (v := z_71) (lv' := [(1, .int z_71), (0, .ref h0)]) hx hb dX4_setSpans_114 hl (k := 0) rfl (by rw [ez_71]; rfl) (by decide) rfl (fun ls hl => ?_)
                refine lv_goto (tgt := 34) hx hb dX4_setSpans_117 (by decide) ?_
                exact ih_14 z_71 f_16 f_17 _ _ _ (show (81 - (z_71).toInt).toNat < n_13 by omega) (show ((0 : Int) ≤ (z_71).toInt ∧ (z_71).toInt ≤ (80 : Int)) by omega) (show k_m0 (k_D fhs fha fhb9 fhk9 fhbd (kn).toInt (z_71).toInt) (kl).toInt f_16 from k_m0_i hF_19 (fun x v => k_D_n (i := i_15) (by omega) (by omega) (fun h9 => hw_54 ⟨by omega, h9.1.2, h9.2⟩) x v)) (show k_n0 (k_D fhs fha fhc9 fhk9 fhbd (kn).toInt (z_71).toInt) (kl).toInt f_17 from k_n0_i hF_20 (fun x v => k_D_n (i := i_15) (by omega) (by omega) (fun h9 => hw_54 ⟨by omega, h9.1.2, h9.2⟩) x v)) hP hD hS (lv_sub hl [0, 1] rfl)
        exact loop_12 _ 0 f_5 f_6 _ _ _ (Nat.lt_succ_self _) (show ((0 : Int) ≤ (0 : Int) ∧ (0 : Int) ≤ (80 : Int)) by omega) (show k_m0 (k_D fhs fha fhb9 fhk9 fhbd (kn).toInt (0 : Int)) (kl).toInt f_5 from k_m0_0 hF_8 (by omega)) (show k_n0 (k_D fhs fha fhc9 fhk9 fhbd (kn).toInt (0 : Int)) (kl).toInt f_6 from k_n0_0 hF_9 (by omega)) hP hD hS hl
      · have k_72 : (kl).toInt > (i_4).toInt := z_nle c_10
        refine lv_aload_n hx hb dX4_setSpans_10 rfl (lv_at hl 1 rfl) ?_
        refine va_get (D := (dC, dI)) (ci := 4) (v := .ref hle) (C := RX4) (T := TX4) (N := 10) hx hb hts hiX4 hown hK hP 0 rfl rfl 7 (by decide) w__fieldLink_RX4_32_ShellHeap_Known_least_I_ (fun _ h9 => h9) rfl dX4_setSpans_11 ?_
        refine lv_iload_n hx hb dX4_setSpans_14 rfl (lv_at hl 0 rfl) ?_
        refine lv_iconst (v := 0) hx hb dX4_setSpans_15 (by decide) ?_
        refine va_iast hx hb hK hP hD hS 9 7 rfl rfl (z_vpin (by omega) (by omega)) dX4_setSpans_16 (fun H_73 locs hP hD hS => ?_)
        obtain ⟨hP, hD⟩ := z_s_9 hP hD
        refine lv_aload_n hx hb dX4_setSpans_17 rfl (lv_at hl 1 rfl) ?_
        refine va_get (D := (dC, dI)) (ci := 4) (v := .ref hgr) (C := RX4) (T := TX4) (N := 10) hx hb hts hiX4 hown hK hP 0 rfl rfl 8 (by decide) w__fieldLink_RX4_35_ShellHeap_Known_greatest_I_ (fun _ h9 => h9) rfl dX4_setSpans_18 ?_
        refine lv_iload_n hx hb dX4_setSpans_21 rfl (lv_at hl 0 rfl) ?_
        refine lv_sipush (v := 9999) hx hb dX4_setSpans_22 (by decide) ?_
        refine va_iast hx hb hK hP hD hS 10 8 rfl rfl (z_vpin (by omega) (by omega)) dX4_setSpans_25 (fun H_75 locs hP hD hS => ?_)
        obtain ⟨hP, hD⟩ := z_s_10 hP hD
        obtain ⟨z_77, ez_77⟩ : ∃ y : Int32, y = i_4 + 1 := ⟨_, rfl⟩
        have kz_77 : (z_77).toInt = (i_4).toInt + (1 : Int) := by rw [ez_77]; exact z_add (b := 1) rfl rfl (z_al hF_7.1 (by decide)) (z_ah hF_7.2 (by decide))
        refine lv_iinc (v := z_77) (lv' := [(1, .int z_77), (0, .ref h0)]) hx hb dX4_setSpans_26 hl (k := 0) rfl (by rw [ez_77]; rfl) (by decide) rfl (fun ls hl => ?_)
        refine lv_goto (tgt := 2) hx hb dX4_setSpans_29 (by decide) ?_
        exact ih_3 z_77 (upd f_5 (i_4 : Int32).toNatClampNeg 0) (upd f_6 (i_4 : Int32).toNatClampNeg 9999) _ _ _ (show (13 - (z_77).toInt).toNat < n_2 by omega) (show ((0 : Int) ≤ (z_77).toInt ∧ (z_77).toInt ≤ (12 : Int)) by omega) (show k_z (z_77).toInt (upd f_5 (i_4 : Int32).toNatClampNeg 0) from k_z_s (i := i_4) hF_8 (by omega) (by decide) (by omega)) (show kY9 (z_77).toInt (upd f_6 (i_4 : Int32).toNatClampNeg 9999) from kY9_s (i := i_4) hF_9 (by omega) (by omega) (by decide)) hP hD hS (lv_sub hl [0, 1] rfl)
  exact loop_1 _ 0 fhle fhgr _ _ _ (Nat.lt_succ_self _) (show ((0 : Int) ≤ (0 : Int) ∧ (0 : Int) ≤ (12 : Int)) by omega) (show k_z (0 : Int) fhle from k_z_0 (by decide)) (show kY9 (0 : Int) fhgr from kY9_0) hP hD hS hl
def u_s_X4_lookK : List Cond := .code yX4_look cX4_look 2 none :: ([.fieldLink RX4 9 "ShellHeap$Known" "notesSeen" "I", .fieldLink RX4 41 "ShellHeap$Known" "book" "LShellHeap$Book;", .fieldLink RX4 45 "ShellHeap$Book" "layers" "I", .fieldLink RX4 15 "ShellHeap$Known" "layersSeen" "I", .methodLink RX4 50 yX4_findStruck, .instanceMethod yX4_findStruck, .selects RX4 yX4_findStruck yX4_findStruck, .initialized RX4, .methodLink RX4 53 yX4_joinBeds, .instanceMethod yX4_joinBeds, .selects RX4 yX4_joinBeds yX4_joinBeds, .methodLink RX4 56 yX4_findLater, .instanceMethod yX4_findLater, .selects RX4 yX4_findLater yX4_findLater, .methodLink RX4 59 yX4_hasRing, .instanceMethod yX4_hasRing, .selects RX4 yX4_hasRing yX4_hasRing, .fieldLink RX4 38 "ShellHeap$Known" "clash" "I", .methodLink RX4 63 yX4_setRanks, .instanceMethod yX4_setRanks, .selects RX4 yX4_setRanks yX4_setRanks, .methodLink RX4 66 yX4_setSpans, .instanceMethod yX4_setSpans, .selects RX4 yX4_setSpans yX4_setSpans] ++ (wsX40 ++ (wsX00 ++ (u_s_X4_findStruckK ++ (u_s_X4_joinBedsK ++ (u_s_X4_findLaterK ++ (u_s_X4_hasRingK ++ (u_s_X4_setRanksK ++ (u_s_X4_setSpansK ++ [])))))))))
theorem gd_s_X4_lookK : z_gd u_s_X4_lookK := z_gdc (by decide +kernel) (z_gda gdX4 (z_gda gdX0 (z_gda gd_s_X4_findStruckK (z_gda gd_s_X4_joinBedsK (z_gda gd_s_X4_findLaterK (z_gda gd_s_X4_hasRingK (z_gda gd_s_X4_setRanksK (z_gda gd_s_X4_setSpansK (z_gd0)))))))))
set_option maxRecDepth 20000 in
theorem gw_s_X4_lookK_s_X4_findStruckK_50 : GoodIn u_s_X4_lookK (wsV RX4 50 RX4 yX4_findStruck u_s_X4_findStruckK) := z_gV (z_gr _ [5, 6, 7, 8] rfl (by decide +kernel)) (fun w h => ⟨z_mc (z_mr (z_mr (z_mr (z_ml h)))), gd_s_X4_findStruckK w h⟩)
set_option maxRecDepth 20000 in
theorem gw_s_X4_lookK_s_X4_joinBedsK_53 : GoodIn u_s_X4_lookK (wsV RX4 53 RX4 yX4_joinBeds u_s_X4_joinBedsK) := z_gV (z_gr _ [9, 10, 11, 8] rfl (by decide +kernel)) (fun w h => ⟨z_mc (z_mr (z_mr (z_mr (z_mr (z_ml h))))), gd_s_X4_joinBedsK w h⟩)
set_option maxRecDepth 20000 in
theorem gw_s_X4_lookK_s_X4_findLaterK_56 : GoodIn u_s_X4_lookK (wsV RX4 56 RX4 yX4_findLater u_s_X4_findLaterK) := z_gV (z_gr _ [12, 13, 14, 8] rfl (by decide +kernel)) (fun w h => ⟨z_mc (z_mr (z_mr (z_mr (z_mr (z_mr (z_ml h)))))), gd_s_X4_findLaterK w h⟩)
set_option maxRecDepth 20000 in
theorem gw_s_X4_lookK_s_X4_hasRingK_59 : GoodIn u_s_X4_lookK (wsV RX4 59 RX4 yX4_hasRing u_s_X4_hasRingK) := z_gV (z_gr _ [15, 16, 17, 8] rfl (by decide +kernel)) (fun w h => ⟨z_mc (z_mr (z_mr (z_mr (z_mr (z_mr (z_mr (z_ml h))))))), gd_s_X4_hasRingK w h⟩)
set_option maxRecDepth 20000 in
theorem gw_s_X4_lookK_s_X4_setRanksK_63 : GoodIn u_s_X4_lookK (wsV RX4 63 RX4 yX4_setRanks u_s_X4_setRanksK) := z_gV (z_gr _ [19, 20, 21, 8] rfl (by decide +kernel)) (fun w h => ⟨z_mc (z_mr (z_mr (z_mr (z_mr (z_mr (z_mr (z_mr (z_ml h)))))))), gd_s_X4_setRanksK w h⟩)
set_option maxRecDepth 20000 in
theorem gw_s_X4_lookK_s_X4_setSpansK_66 : GoodIn u_s_X4_lookK (wsV RX4 66 RX4 yX4_setSpans u_s_X4_setSpansK) := z_gV (z_gr _ [22, 23, 24, 8] rfl (by decide +kernel)) (fun w h => ⟨z_mc (z_mr (z_mr (z_mr (z_mr (z_mr (z_mr (z_mr (z_mr (z_ml h))))))))), gd_s_X4_setSpansK w h⟩)
set_option maxHeartbeats 4000000 in
set_option maxRecDepth 100000 in
theorem s_X4_lookK (l : Launch) (dC : Nat → ClassId) (dI : Nat → Nat → Nat) (sz : Nat) (h0 : Nat) (p1 : Int32) (h1 : Nat) (kn : Int32) (kl : Int32) (hk9 : Nat) (hlt : Nat) (hrk : Nat) (hbd : Nat) (hle : Nat) (hgr : Nat) (kc : Int32) (hs : Nat) (ha : Nat) (hb9 : Nat) (hc9 : Nat) (h1_4 : Value) (bl : Int32) (chk9 : ClassId) (fhk9 : Nat → Int32) (chs : ClassId) (fhs : Nat → Int32) (cha : ClassId) (fha : Nat → Int32) (chb9 : ClassId) (fhb9 : Nat → Int32) (chc9 : ClassId) (fhc9 : Nat → Int32) (chbd : ClassId) (fhbd : Nat → Int32) (chlt : ClassId) (fhlt : Nat → Int32) (chrk : ClassId) (fhrk : Nat → Int32) (chle : ClassId) (fhle : Nat → Int32) (chgr : ClassId) (fhgr : Nat → Int32) (hB_kn : ((-1 : Int) ≤ (kn).toInt ∧ (kn).toInt ≤ (80 : Int))) (hB_kl : ((-1 : Int) ≤ (kl).toInt ∧ (kl).toInt ≤ (12 : Int))) (hB_kc : ((0 : Int) ≤ (kc).toInt ∧ (kc).toInt ≤ (2 : Int))) (hB_bl : ((0 : Int) ≤ (bl).toInt ∧ (bl).toInt ≤ (12 : Int))) (hB_p1 : ((0 : Int) ≤ (p1).toInt ∧ (p1).toInt ≤ (80 : Int))) (hI_ha : ∀ j : Nat, ((0 : Int) ≤ (fha j).toInt ∧ (fha j).toInt ≤ (79 : Int))) (hI_hbd : ∀ j : Nat, ((0 : Int) ≤ (fhbd j).toInt ∧ (fhbd j).toInt ≤ (11 : Int))) (hKI : kn.toInt = -1 ∨ k_KN fhs fha fhb9 fhc9 kn.toInt kl.toInt fhk9 fhbd fhlt fhrk fhle fhgr kc.toInt) (hRG : k_r3 fhs fha fhb9 p1.toInt bl.toInt) (hRD : k_rd fhs fha p1.toInt bl.toInt) : Met l yX4_look u_s_X4_lookK ({ frames := 3, cells := 0, slots := 0, locals := 66 }) (va_Pc [.ref h0, .int p1] (z_C (dC, dI) vwCl [(h0, .inr (4, [.ref h1, .int kn, .int kl, .ref hk9, .ref hlt, .ref hrk, .ref hbd, .ref hle, .ref hgr, .int kc])), (h1, .inr (0, [.ref hs, .ref ha, .ref hb9, .ref hc9, h1_4, .int bl])), (hk9, .inl (chk9, 80, .inl fhk9)), (hs, .inl (chs, 80, .inl fhs)), (ha, .inl (cha, 80, .inl fha)), (hb9, .inl (chb9, 80, .inl fhb9)), (hc9, .inl (chc9, 80, .inl fhc9)), (hbd, .inl (chbd, 12, .inl fhbd)), (hlt, .inl (chlt, 12, .inl fhlt)), (hrk, .inl (chrk, 12, .inl fhrk)), (hle, .inl (chle, 12, .inl fhle)), (hgr, .inl (chgr, 12, .inl fhgr))] [(chk9, .boolean), (chs, .int), (cha, .int), (chb9, .int), (chc9, .int), (chbd, .int), (chlt, .int), (chrk, .int), (chle, .int), (chgr, .int)] sz)) (va_Qv (fun (_ : Unit) => True) (fun (_ : Unit) (t : State) => ∃ (n_h0_notesSeen : Int32), ∃ (n_h0_layersSeen : Int32), ∃ (n_h0_clash : Int32), ∃ (g_hk9 : Nat → Int32), ∃ (g_hbd : Nat → Int32), ∃ (g_hlt : Nat → Int32), ∃ (g_hrk : Nat → Int32), ∃ (g_hle : Nat → Int32), ∃ (g_hgr : Nat → Int32), ((-1 : Int) ≤ (n_h0_notesSeen).toInt ∧ (n_h0_notesSeen).toInt ≤ (80 : Int)) ∧ ((-1 : Int) ≤ (n_h0_layersSeen).toInt ∧ (n_h0_layersSeen).toInt ≤ (12 : Int)) ∧ ((0 : Int) ≤ (n_h0_clash).toInt ∧ (n_h0_clash).toInt ≤ (2 : Int)) ∧ (∀ j : Nat, ((0 : Int) ≤ (g_hbd j).toInt ∧ (g_hbd j).toInt ≤ (11 : Int))) ∧ (n_h0_notesSeen.toInt = p1.toInt ∧ n_h0_layersSeen.toInt = bl.toInt) ∧ (k_KN fhs fha fhb9 fhc9 p1.toInt bl.toInt g_hk9 g_hbd g_hlt g_hrk g_hle g_hgr n_h0_clash.toInt) ∧ va_P (dC, dI) vwCl [(h0, .inr (4, [.ref h1, .int n_h0_notesSeen, .int n_h0_layersSeen, .ref hk9, .ref hlt, .ref hrk, .ref hbd, .ref hle, .ref hgr, .int n_h0_clash])), (h1, .inr (0, [.ref hs, .ref ha, .ref hb9, .ref hc9, h1_4, .int bl])), (hk9, .inl (chk9, 80, .inl g_hk9)), (hs, .inl (chs, 80, .inl fhs)), (ha, .inl (cha, 80, .inl fha)), (hb9, .inl (chb9, 80, .inl fhb9)), (hc9, .inl (chc9, 80, .inl fhc9)), (hbd, .inl (chbd, 12, .inl g_hbd)), (hlt, .inl (chlt, 12, .inl g_hlt)), (hrk, .inl (chrk, 12, .inl g_hrk)), (hle, .inl (chle, 12, .inl g_hle)), (hgr, .inl (chgr, 12, .inl g_hgr))] t.heap ∧ va_K (dC, dI) vwCl [] t ∧ va_D (va_A [(h0, .inr (4, [.ref h1, .int kn, .int kl, .ref hk9, .ref hlt, .ref hrk, .ref hbd, .ref hle, .ref hgr, .int kc])), (h1, .inr (0, [.ref hs, .ref ha, .ref hb9, .ref hc9, h1_4, .int bl])), (hk9, .inl (chk9, 80, .inl fhk9)), (hs, .inl (chs, 80, .inl fhs)), (ha, .inl (cha, 80, .inl fha)), (hb9, .inl (chb9, 80, .inl fhb9)), (hc9, .inl (chc9, 80, .inl fhc9)), (hbd, .inl (chbd, 12, .inl fhbd)), (hlt, .inl (chlt, 12, .inl fhlt)), (hrk, .inl (chrk, 12, .inl fhrk)), (hle, .inl (chle, 12, .inl fhle)), (hgr, .inl (chgr, 12, .inl fhgr))] sz) [(h0, .inr (4, [.ref h1, .int n_h0_notesSeen, .int n_h0_layersSeen, .ref hk9, .ref hlt, .ref hrk, .ref hbd, .ref hle, .ref hgr, .int n_h0_clash])), (h1, .inr (0, [.ref hs, .ref ha, .ref hb9, .ref hc9, h1_4, .int bl])), (hk9, .inl (chk9, 80, .inl g_hk9)), (hs, .inl (chs, 80, .inl fhs)), (ha, .inl (cha, 80, .inl fha)), (hb9, .inl (chb9, 80, .inl fhb9)), (hc9, .inl (chc9, 80, .inl fhc9)), (hbd, .inl (chbd, 12, .inl g_hbd)), (hlt, .inl (chlt, 12, .inl g_hlt)), (hrk, .inl (chrk, 12, .inl g_hrk)), (hle, .inl (chle, 12, .inl g_hle)), (hgr, .inl (chgr, 12, .inl g_hgr))]) (va_A [(h0, .inr (4, [.ref h1, .int kn, .int kl, .ref hk9, .ref hlt, .ref hrk, .ref hbd, .ref hle, .ref hgr, .int kc])), (h1, .inr (0, [.ref hs, .ref ha, .ref hb9, .ref hc9, h1_4, .int bl])), (hk9, .inl (chk9, 80, .inl fhk9)), (hs, .inl (chs, 80, .inl fhs)), (ha, .inl (cha, 80, .inl fha)), (hb9, .inl (chb9, 80, .inl fhb9)), (hc9, .inl (chc9, 80, .inl fhc9)), (hbd, .inl (chbd, 12, .inl fhbd)), (hlt, .inl (chlt, 12, .inl fhlt)), (hrk, .inl (chrk, 12, .inl fhrk)), (hle, .inl (chle, 12, .inl fhle)), (hgr, .inl (chgr, 12, .inl fhgr))] sz)) 0 0 (va_A [(h0, .inr (4, [.ref h1, .int kn, .int kl, .ref hk9, .ref hlt, .ref hrk, .ref hbd, .ref hle, .ref hgr, .int kc])), (h1, .inr (0, [.ref hs, .ref ha, .ref hb9, .ref hc9, h1_4, .int bl])), (hk9, .inl (chk9, 80, .inl fhk9)), (hs, .inl (chs, 80, .inl fhs)), (ha, .inl (cha, 80, .inl fha)), (hb9, .inl (chb9, 80, .inl fhb9)), (hc9, .inl (chc9, 80, .inl fhc9)), (hbd, .inl (chbd, 12, .inl fhbd)), (hlt, .inl (chlt, 12, .inl fhlt)), (hrk, .inl (chrk, 12, .inl fhrk)), (hle, .inl (chle, 12, .inl fhle)), (hgr, .inl (chgr, 12, .inl fhgr))] sz) := by
  refine Met.ofW (cc := cX4_look) (maxL := 2) (ret := none) (by decide) rfl ?_
  intro p e s m args below meth c s₁ B hml hv
  obtain ⟨rfl, hsz, hP, hK, hD0⟩ := hv
  have hx := B.exec
  have hb := B.bytes
  have hr := B.returns
  have hts := atoms_spec (ws := u_s_X4_lookK) B.pre
  have hown : s.vm.findClass RX4 = some m.cls := findClass_of_methodNamed B.named
  have hlocks := B.notSynchronized
  subst hsz
  have hD := hD0.self (sz := s.heap.size)
  generalize hAe : va_A [(h0, .inr (4, [.ref h1, .int kn, .int kl, .ref hk9, .ref hlt, .ref hrk, .ref hbd, .ref hle, .ref hgr, .int kc])), (h1, .inr (0, [.ref hs, .ref ha, .ref hb9, .ref hc9, h1_4, .int bl])), (hk9, .inl (chk9, 80, .inl fhk9)), (hs, .inl (chs, 80, .inl fhs)), (ha, .inl (cha, 80, .inl fha)), (hb9, .inl (chb9, 80, .inl fhb9)), (hc9, .inl (chc9, 80, .inl fhc9)), (hbd, .inl (chbd, 12, .inl fhbd)), (hlt, .inl (chlt, 12, .inl fhlt)), (hrk, .inl (chrk, 12, .inl fhrk)), (hle, .inl (chle, 12, .inl fhle)), (hgr, .inl (chgr, 12, .inl fhgr))] s.heap.size = A at hD ⊢
  have hA : ∀ q : Nat, s.heap.size ≤ q → A q := fun q h => by rw [← hAe]; exact Or.inr h
  have hS : va_S A s.heap s.heap [] := va_S.rf
  have hP : va_P (dC, dI) vwCl [(h0, .inr (4, [.ref h1, .int kn, .int kl, .ref hk9, .ref hlt, .ref hrk, .ref hbd, .ref hle, .ref hgr, .int kc])), (h1, .inr (0, [.ref hs, .ref ha, .ref hb9, .ref hc9, h1_4, .int bl])), (hk9, .inl (chk9, 80, .inl fhk9)), (hs, .inl (chs, 80, .inl fhs)), (ha, .inl (cha, 80, .inl fha)), (hb9, .inl (chb9, 80, .inl fhb9)), (hc9, .inl (chc9, 80, .inl fhc9)), (hbd, .inl (chbd, 12, .inl fhbd)), (hlt, .inl (chlt, 12, .inl fhlt)), (hrk, .inl (chrk, 12, .inl fhrk)), (hle, .inl (chle, 12, .inl fhle)), (hgr, .inl (chgr, 12, .inl fhgr))] s.heap := hP
  have w__fieldLink_RX4_9_ShellHeap_Known_notesSeen_I_ := hts (.fieldLink RX4 9 "ShellHeap$Known" "notesSeen" "I") (z_mc (z_ml z_m0))
  have hiX4 := show ∀ w ∈ u_ws RX4 TX4 10, w ∈ u_s_X4_lookK from fun w h => z_mc (z_mr (z_ml h))
  have w__fieldLink_RX4_41_ShellHeap_Known_book_LShellHeap_Book_ := hts (.fieldLink RX4 41 "ShellHeap$Known" "book" "LShellHeap$Book;") (z_mc (z_ml z_m1))
  have w__fieldLink_RX4_45_ShellHeap_Book_layers_I_ := hts (.fieldLink RX4 45 "ShellHeap$Book" "layers" "I") (z_mc (z_ml z_m2))
  have hiX0 := show ∀ w ∈ u_ws RX0 TX0 6, w ∈ u_s_X4_lookK from fun w h => z_mc (z_mr (z_mr (z_ml h)))
  have w__fieldLink_RX4_15_ShellHeap_Known_layersSeen_I_ := hts (.fieldLink RX4 15 "ShellHeap$Known" "layersSeen" "I") (z_mc (z_ml z_m3))
  have w__fieldLink_RX4_38_ShellHeap_Known_clash_I_ := hts (.fieldLink RX4 38 "ShellHeap$Known" "clash" "I") (z_mc (z_ml z_m17))
  have hl := lv_entry ([.ref h0, .int p1]) (n := 2) (Nat.le_of_ble_eq_true rfl)
  rw [lg_entry_eq]
  generalize (lg_sl ([.ref h0, .int p1]) ++ List.replicate (2 - (lg_sl ([.ref h0, .int p1])).length) Slot.unset).toArray = ls at hl ⊢
  have hl : lv_has ls 2 [(0, .ref h0), (1, .int p1)] := hl
  refine lv_iload_n hx hb dX4_look_0 rfl (lv_at hl 1 rfl) ?_
  refine lv_aload_n hx hb dX4_look_1 rfl (lv_at hl 0 rfl) ?_
  refine va_get (D := (dC, dI)) (ci := 4) (v := .int kn) (C := RX4) (T := TX4) (N := 10) hx hb hts hiX4 hown hK hP 0 rfl rfl 1 (by decide) w__fieldLink_RX4_9_ShellHeap_Known_notesSeen_I_ (fun _ h9 => h9) rfl dX4_look_2 ?_
  refine lv_icmp_ne (tgt := 23) hx hb dX4_look_5 (by decide) (fun c_1 => ?_) (fun c_1 => ?_)
  · have k_2 : (p1).toInt ≠ (kn).toInt := z_ne c_1
    refine lv_aload_n hx hb dX4_look_23 rfl (lv_at hl 0 rfl) ?_
    refine lv_iload_n hx hb dX4_look_24 rfl (lv_at hl 1 rfl) ?_
    refine va_put (D := (dC, dI)) (ci := 4) (v := .int p1) (ty := .int) (C := RX4) (T := TX4) (N := 10) hx hb hts hiX4 tyX4 tyX4_ok nmX4 hown hK hP hD hS 0 rfl rfl 1 (by decide) w__fieldLink_RX4_9_ShellHeap_Known_notesSeen_I_ (fun _ h9 => h9) rfl (by decide +kernel) rfl rfl (Nat.le_of_ble_eq_true rfl) dX4_look_25 (fun H_3 locs hP hD hS => ?_)
    obtain ⟨hP, hD⟩ := z_s_0_1 hP hD
    refine lv_aload_n hx hb dX4_look_28 rfl (lv_at hl 0 rfl) ?_
    refine lv_aload_n hx hb dX4_look_29 rfl (lv_at hl 0 rfl) ?_
    refine va_get (D := (dC, dI)) (ci := 4) (v := .ref h1) (C := RX4) (T := TX4) (N := 10) hx hb hts hiX4 hown hK hP 0 rfl rfl 0 (by decide) w__fieldLink_RX4_41_ShellHeap_Known_book_LShellHeap_Book_ (fun _ h9 => h9) rfl dX4_look_30 ?_
    refine va_get (D := (dC, dI)) (ci := 0) (v := .int bl) (C := RX0) (T := TX0) (N := 6) hx hb hts hiX0 hown hK hP 1 rfl rfl 5 (by decide) w__fieldLink_RX4_45_ShellHeap_Book_layers_I_ (fun _ h9 => h9) rfl dX4_look_33 ?_
    refine va_put (D := (dC, dI)) (ci := 4) (v := .int bl) (ty := .int) (C := RX4) (T := TX4) (N := 10) hx hb hts hiX4 tyX4 tyX4_ok nmX4 hown hK hP hD hS 0 rfl rfl 2 (by decide) w__fieldLink_RX4_15_ShellHeap_Known_layersSeen_I_ (fun _ h9 => h9) rfl (by decide +kernel) rfl rfl (Nat.le_of_ble_eq_true rfl) dX4_look_36 (fun H_4 locs hP hD hS => ?_)
    obtain ⟨hP, hD⟩ := z_s_0_2 hP hD
    refine lv_aload_n hx hb dX4_look_39 rfl (lv_at hl 0 rfl) ?_
    obtain ⟨hPc, hDc, hFc⟩ := z_sub3 (ws' := [(h0, .inr (4, [.ref h1, .int p1, .int bl, .ref hk9, .ref hlt, .ref hrk, .ref hbd, .ref hle, .ref hgr, .int kc])), (h1, .inr (0, [.ref hs, .ref ha, .ref hb9, .ref hc9, h1_4, .int bl])), (hk9, .inl (chk9, 80, .inl fhk9)), (hs, .inl (chs, 80, .inl fhs)), (ha, .inl (cha, 80, .inl fha))]) hP hD hS hA [0, 1, 2, 3, 4] (by decide) rfl
    have hKc := hK.sub (tys' := [(chk9, .boolean), (chs, .int), (cha, .int)]) [0, 1, 2] rfl
    refine va_callv (va_runV (As := []) (rest := []) ⟨hx, hb, hml, hown, hts⟩ (s_X4_findStruckK l dC dI H_4.size h0 h1 p1 (.int bl) hk9 (.ref hlt) (.ref hrk) (.ref hbd) (.ref hle) (.ref hgr) (.int kc) hs ha (.ref hb9) (.ref hc9) h1_4 (.int bl) chk9 fhk9 chs fhs cha fha (z_bw hB_p1 (by decide) (by decide)) hI_ha) (cwV 0 hts gw_s_X4_lookK_s_X4_findStruckK_50 rfl rfl rfl (by decide +kernel) ⟨Nat.le_of_ble_eq_true rfl, Nat.le_of_ble_eq_true rfl⟩) ⟨z_blind, va_recv hKc hPc (ci := 4) (q0 := 0) rfl rfl, z_pre hPc hKc hDc⟩ rfl rfl hl.1 rfl (lv_room (Nat.le_of_ble_eq_true rfl)) dX4_look_40 ⟨Nat.le_of_ble_eq_true rfl, Nat.le_of_ble_eq_true rfl⟩) hS (fun q _ h => hFc q h) hFc (fun u t H_5 locs ht hvm hw_7 hB hz1 hk1 hS => ?_)
    obtain ⟨g_hk9_8, hp_9, hP1, hK1, hD1⟩ := hB
    rw [ht] at hP1
    have hK1 := va_K.moved hvm.symm hK1
    obtain ⟨hP, hD⟩ := z_ap_7 (va_join (wr := [(hb9, .inl (chb9, 80, .inl fhb9)), (hc9, .inl (chc9, 80, .inl fhc9)), (hbd, .inl (chbd, 12, .inl fhbd)), (hlt, .inl (chlt, 12, .inl fhlt)), (hrk, .inl (chrk, 12, .inl fhrk)), (hle, .inl (chle, 12, .inl fhle)), (hgr, .inl (chgr, 12, .inl fhgr))]) hP hD [0, 1, 2, 3, 4] [5, 6, 7, 8, 9, 10, 11] rfl rfl (by decide) (by decide) hk1 hFc hP1 hD1)
    have hp_9 : k_cx fhs fha p1.toInt g_hk9_8 := hp_9
    clear hPc hDc hKc
    refine lv_aload_n hx hb dX4_look_43 rfl (lv_at hl 0 rfl) ?_
    obtain ⟨hPc, hDc, hFc⟩ := z_sub3 (ws' := [(h0, .inr (4, [.ref h1, .int p1, .int bl, .ref hk9, .ref hlt, .ref hrk, .ref hbd, .ref hle, .ref hgr, .int kc])), (h1, .inr (0, [.ref hs, .ref ha, .ref hb9, .ref hc9, h1_4, .int bl])), (hk9, .inl (chk9, 80, .inl g_hk9_8)), (hs, .inl (chs, 80, .inl fhs)), (ha, .inl (cha, 80, .inl fha)), (hb9, .inl (chb9, 80, .inl fhb9)), (hbd, .inl (chbd, 12, .inl fhbd))]) hP hD hS hA [7, 8, 9, 10, 11, 0, 2] (by decide) rfl
    have hKc := hK.sub (tys' := [(chk9, .boolean), (chs, .int), (cha, .int), (chb9, .int), (chbd, .int)]) [0, 1, 2, 3, 5] rfl
    refine va_callv (va_runV (As := []) (rest := []) ⟨hx, hb, hml, hown, hts⟩ (s_X4_joinBedsK l dC dI H_5.size h0 h1 p1 bl hk9 (.ref hlt) (.ref hrk) hbd (.ref hle) (.ref hgr) (.int kc) hs ha hb9 (.ref hc9) h1_4 (.int bl) chk9 g_hk9_8 chs fhs cha fha chb9 fhb9 chbd fhbd (z_bw hB_p1 (by decide) (by decide)) (z_bw hB_bl (by decide) (by decide)) hI_ha hI_hbd hRG) (cwV 0 hts gw_s_X4_lookK_s_X4_joinBedsK_53 rfl rfl rfl (by decide +kernel) ⟨Nat.le_of_ble_eq_true rfl, Nat.le_of_ble_eq_true rfl⟩) ⟨z_blind, va_recv hKc hPc (ci := 4) (q0 := 0) rfl rfl, z_pre hPc hKc hDc⟩ rfl rfl hl.1 rfl (lv_room (Nat.le_of_ble_eq_true rfl)) dX4_look_44 ⟨Nat.le_of_ble_eq_true rfl, Nat.le_of_ble_eq_true rfl⟩) hS (fun q _ h => hFc q h) hFc (fun u t H_10 locs ht hvm hw_12 hB hz1 hk1 hS => ?_)
    obtain ⟨g_hbd_13, hp_14, hp_15, hP1, hK1, hD1⟩ := hB
    rw [ht] at hP1
    have hK1 := va_K.moved hvm.symm hK1
    obtain ⟨hP, hD⟩ := z_ap_5 (va_join (wr := [(hc9, .inl (chc9, 80, .inl fhc9)), (hlt, .inl (chlt, 12, .inl fhlt)), (hrk, .inl (chrk, 12, .inl fhrk)), (hle, .inl (chle, 12, .inl fhle)), (hgr, .inl (chgr, 12, .inl fhgr))]) hP hD [7, 8, 9, 10, 11, 0, 2] [1, 3, 4, 5, 6] rfl rfl (by decide) (by decide) hk1 hFc hP1 hD1)
    have hp_15 : k_BD fhs fha fhb9 g_hk9_8 p1.toInt bl.toInt g_hbd_13 := hp_15
    clear hPc hDc hKc
    have hBL := k_BD_bl hp_15
    refine lv_aload_n hx hb dX4_look_47 rfl (lv_at hl 0 rfl) ?_
    obtain ⟨hPc, hDc, hFc⟩ := z_sub3 (ws' := [(h0, .inr (4, [.ref h1, .int p1, .int bl, .ref hk9, .ref hlt, .ref hrk, .ref hbd, .ref hle, .ref hgr, .int kc])), (h1, .inr (0, [.ref hs, .ref ha, .ref hb9, .ref hc9, h1_4, .int bl])), (hk9, .inl (chk9, 80, .inl g_hk9_8)), (hs, .inl (chs, 80, .inl fhs)), (ha, .inl (cha, 80, .inl fha)), (hb9, .inl (chb9, 80, .inl fhb9)), (hbd, .inl (chbd, 12, .inl g_hbd_13)), (hlt, .inl (chlt, 12, .inl fhlt))]) hP hD hS hA [5, 6, 7, 8, 9, 10, 11, 1] (by decide) rfl
    have hKc := hK.sub (tys' := [(chk9, .boolean), (chs, .int), (cha, .int), (chb9, .int), (chbd, .int), (chlt, .int)]) [0, 1, 2, 3, 5, 6] rfl
    refine va_callv (va_runV (As := []) (rest := []) ⟨hx, hb, hml, hown, hts⟩ (s_X4_findLaterK l dC dI H_10.size h0 h1 p1 bl hk9 hlt (.ref hrk) hbd (.ref hle) (.ref hgr) (.int kc) hs ha hb9 (.ref hc9) h1_4 (.int bl) chk9 g_hk9_8 chs fhs cha fha chb9 fhb9 chbd g_hbd_13 chlt fhlt (z_bw hB_p1 (by decide) (by decide)) (z_bw hB_bl (by decide) (by decide)) hI_ha hp_14 hRG hBL) (cwV 0 hts gw_s_X4_lookK_s_X4_findLaterK_56 rfl rfl rfl (by decide +kernel) ⟨Nat.le_of_ble_eq_true rfl, Nat.le_of_ble_eq_true rfl⟩) ⟨z_blind, va_recv hKc hPc (ci := 4) (q0 := 0) rfl rfl, z_pre hPc hKc hDc⟩ rfl rfl hl.1 rfl (lv_room (Nat.le_of_ble_eq_true rfl)) dX4_look_48 ⟨Nat.le_of_ble_eq_true rfl, Nat.le_of_ble_eq_true rfl⟩) hS (fun q _ h => hFc q h) hFc (fun u t H_16 locs ht hvm hw_18 hB hz1 hk1 hS => ?_)
    obtain ⟨g_hlt_19, hp_20, hP1, hK1, hD1⟩ := hB
    rw [ht] at hP1
    have hK1 := va_K.moved hvm.symm hK1
    obtain ⟨hP, hD⟩ := z_ap_4 (va_join (wr := [(hc9, .inl (chc9, 80, .inl fhc9)), (hrk, .inl (chrk, 12, .inl fhrk)), (hle, .inl (chle, 12, .inl fhle)), (hgr, .inl (chgr, 12, .inl fhgr))]) hP hD [5, 6, 7, 8, 9, 10, 11, 1] [0, 2, 3, 4] rfl rfl (by decide) (by decide) hk1 hFc hP1 hD1)
    have hp_20 : k_LT fhs fha fhb9 g_hk9_8 p1.toInt bl.toInt g_hbd_13 g_hlt_19 := hp_20
    clear hPc hDc hKc
    refine lv_aload_n hx hb dX4_look_51 rfl (lv_at hl 0 rfl) ?_
    refine lv_aload_n hx hb dX4_look_52 rfl (lv_at hl 0 rfl) ?_
    obtain ⟨hPc, hDc⟩ := z_sub2 (ws' := [(h0, .inr (4, [.ref h1, .int p1, .int bl, .ref hk9, .ref hlt, .ref hrk, .ref hbd, .ref hle, .ref hgr, .int kc])), (hlt, .inl (chlt, 12, .inl g_hlt_19))]) hP hD [4, 11] (by decide) rfl
    have hKc := hK.sub (tys' := [(chlt, .int)]) [6] rfl
    have hFc := va_free (ws := []) (wc := []) (z_D0 _) hS hA [] rfl
    refine va_calli (va_runV (As := []) (rest := [.ref h0]) ⟨hx, hb, hml, hown, hts⟩ (s_X4_hasRingK l dC dI H_16.size h0 (.ref h1) (.int p1) bl (.ref hk9) hlt (.ref hrk) (.ref hbd) (.ref hle) (.ref hgr) (.int kc) chlt g_hlt_19 (z_bw hB_bl (by decide) (by decide))) (cwV 0 hts gw_s_X4_lookK_s_X4_hasRingK_59 rfl rfl rfl (by decide +kernel) ⟨Nat.le_of_ble_eq_true rfl, Nat.le_of_ble_eq_true rfl⟩) ⟨z_blind, va_recv hKc hPc (ci := 4) (q0 := 0) rfl rfl, z_pre hPc hKc hDc⟩ rfl rfl hl.1 rfl (lv_room (Nat.le_of_ble_eq_true rfl)) dX4_look_53 ⟨Nat.le_of_ble_eq_true rfl, Nat.le_of_ble_eq_true rfl⟩) hS (fun q _ h => hFc q h) hFc (fun r_22 u t H_21 locs ht hvm hw_23 hB hz1 hk1 hS => ?_)
    replace hP := z_pure hP hk1
    clear hPc hDc hKc
    rcases hw_23 with ⟨rfl, hw_23⟩ | ⟨rfl, hw_23⟩
    · have hw_23 : k_ring bl.toInt g_hlt_19 := hw_23
      refine lv_if_eq (tgt := 63) hx hb dX4_look_56 (by decide) (fun c_24 => absurd c_24 (by decide)) (fun _ => ?_)
      refine lv_iconst (v := 1) hx hb dX4_look_59 (by decide) ?_
      refine lv_goto (tgt := 64) hx hb dX4_look_60 (by decide) ?_
      refine va_put (D := (dC, dI)) (ci := 4) (v := .int 1) (ty := .int) (C := RX4) (T := TX4) (N := 10) hx hb hts hiX4 tyX4 tyX4_ok nmX4 hown hK hP hD hS 4 rfl rfl 9 (by decide) w__fieldLink_RX4_38_ShellHeap_Known_clash_I_ (fun _ h9 => h9) rfl (by decide +kernel) rfl rfl (Nat.le_of_ble_eq_true rfl) dX4_look_64 (fun H_25 locs hP hD hS => ?_)
      obtain ⟨hP, hD⟩ := z_s_4_9 hP hD
      refine lv_aload_n hx hb dX4_look_67 rfl (lv_at hl 0 rfl) ?_
      refine va_get (D := (dC, dI)) (ci := 4) (v := .int 1) (C := RX4) (T := TX4) (N := 10) hx hb hts hiX4 hown hK hP 4 rfl rfl 9 (by decide) w__fieldLink_RX4_38_ShellHeap_Known_clash_I_ (fun _ h9 => h9) rfl dX4_look_68 ?_
      refine lv_if_ne (tgt := 82) hx hb dX4_look_71 (by decide) (fun _ => ?_) (fun c_26 => absurd c_26 (by decide))
      obtain ⟨hP9, hD9⟩ := z_sub2 (ws' := [(h0, .inr (4, [.ref h1, .int p1, .int bl, .ref hk9, .ref hlt, .ref hrk, .ref hbd, .ref hle, .ref hgr, .int 1])), (h1, .inr (0, [.ref hs, .ref ha, .ref hb9, .ref hc9, h1_4, .int bl])), (hk9, .inl (chk9, 80, .inl g_hk9_8)), (hs, .inl (chs, 80, .inl fhs)), (ha, .inl (cha, 80, .inl fha)), (hb9, .inl (chb9, 80, .inl fhb9)), (hc9, .inl (chc9, 80, .inl fhc9)), (hbd, .inl (chbd, 12, .inl g_hbd_13)), (hlt, .inl (chlt, 12, .inl g_hlt_19)), (hrk, .inl (chrk, 12, .inl fhrk)), (hle, .inl (chle, 12, .inl fhle)), (hgr, .inl (chgr, 12, .inl fhgr))]) hP hD [4, 5, 6, 7, 8, 9, 0, 10, 11, 1, 2, 3] (by decide) rfl
      have hK9 := hK.sub (tys' := []) [] rfl
      refine W.widen (k := 0) (n := 0) (Nat.le_of_ble_eq_true rfl) (Nat.le_of_ble_eq_true rfl) ?_
      exact W.vret hx hb hr (fun t ht hW => ⟨⟨(), rfl, trivial, ⟨p1, bl, 1, g_hk9_8, g_hbd_13, g_hlt_19, fhrk, fhle, fhgr, (z_bw hB_p1 (by decide) (by decide)), (z_bw hB_bl (by decide) (by decide)), (by decide), hp_14, (show p1.toInt = p1.toInt ∧ bl.toInt = bl.toInt by omega), (show k_KN fhs fha fhb9 fhc9 p1.toInt bl.toInt g_hk9_8 g_hbd_13 g_hlt_19 fhrk fhle fhgr (1 : Int) from ⟨hp_9, hp_15, hp_20, Or.inl ⟨rfl, hw_23⟩⟩), by rw [ht]; exact hP9, va_K.moved hW.alike hK9, hD9⟩⟩, hS.F ht⟩) hS.2.2 dX4_look_82
    · have hw_23 : ¬ k_ring bl.toInt g_hlt_19 := hw_23
      refine lv_if_eq (tgt := 63) hx hb dX4_look_56 (by decide) (fun _ => ?_) (fun c_27 => absurd (by decide) c_27)
      refine lv_iconst (v := 0) hx hb dX4_look_63 (by decide) ?_
      refine va_put (D := (dC, dI)) (ci := 4) (v := .int 0) (ty := .int) (C := RX4) (T := TX4) (N := 10) hx hb hts hiX4 tyX4 tyX4_ok nmX4 hown hK hP hD hS 4 rfl rfl 9 (by decide) w__fieldLink_RX4_38_ShellHeap_Known_clash_I_ (fun _ h9 => h9) rfl (by decide +kernel) rfl rfl (Nat.le_of_ble_eq_true rfl) dX4_look_64 (fun H_28 locs hP hD hS => ?_)
      obtain ⟨hP, hD⟩ := z_s_4_9 hP hD
      refine lv_aload_n hx hb dX4_look_67 rfl (lv_at hl 0 rfl) ?_
      refine va_get (D := (dC, dI)) (ci := 4) (v := .int 0) (C := RX4) (T := TX4) (N := 10) hx hb hts hiX4 hown hK hP 4 rfl rfl 9 (by decide) w__fieldLink_RX4_38_ShellHeap_Known_clash_I_ (fun _ h9 => h9) rfl dX4_look_68 ?_
      refine lv_if_ne (tgt := 82) hx hb dX4_look_71 (by decide) (fun c_29 => absurd c_29 (by decide)) (fun _ => ?_)
      have hT := k_tr_of hp_20 hw_23
      refine lv_aload_n hx hb dX4_look_74 rfl (lv_at hl 0 rfl) ?_
      obtain ⟨hPc, hDc, hFc⟩ := z_sub3 (ws' := [(h0, .inr (4, [.ref h1, .int p1, .int bl, .ref hk9, .ref hlt, .ref hrk, .ref hbd, .ref hle, .ref hgr, .int 0])), (hlt, .inl (chlt, 12, .inl g_hlt_19)), (hrk, .inl (chrk, 12, .inl fhrk))]) hP hD hS hA [4, 11, 1] (by decide) rfl
      have hKc := hK.sub (tys' := [(chlt, .int), (chrk, .int)]) [6, 7] rfl
      refine va_callv (va_runV (As := []) (rest := []) ⟨hx, hb, hml, hown, hts⟩ (s_X4_setRanksK l dC dI H_28.size h0 (.ref h1) (.int p1) bl (.ref hk9) hlt hrk (.ref hbd) (.ref hle) (.ref hgr) (.int 0) chlt g_hlt_19 chrk fhrk (z_bw hB_bl (by decide) (by decide)) hT) (cwV 0 hts gw_s_X4_lookK_s_X4_setRanksK_63 rfl rfl rfl (by decide +kernel) ⟨Nat.le_of_ble_eq_true rfl, Nat.le_of_ble_eq_true rfl⟩) ⟨z_blind, va_recv hKc hPc (ci := 4) (q0 := 0) rfl rfl, z_pre hPc hKc hDc⟩ rfl rfl hl.1 rfl (lv_room (Nat.le_of_ble_eq_true rfl)) dX4_look_75 ⟨Nat.le_of_ble_eq_true rfl, Nat.le_of_ble_eq_true rfl⟩) hS (fun q _ h => hFc q h) hFc (fun u t H_30 locs ht hvm hw_32 hB hz1 hk1 hS => ?_)
      obtain ⟨g_h2_33, hp_34, hP1, hK1, hD1⟩ := hB
      rw [ht] at hP1
      have hK1 := va_K.moved hvm.symm hK1
      obtain ⟨hP, hD⟩ := z_ap_9 (va_join (wr := [(hc9, .inl (chc9, 80, .inl fhc9)), (hle, .inl (chle, 12, .inl fhle)), (hgr, .inl (chgr, 12, .inl fhgr)), (h1, .inr (0, [.ref hs, .ref ha, .ref hb9, .ref hc9, h1_4, .int bl])), (hk9, .inl (chk9, 80, .inl g_hk9_8)), (hs, .inl (chs, 80, .inl fhs)), (ha, .inl (cha, 80, .inl fha)), (hb9, .inl (chb9, 80, .inl fhb9)), (hbd, .inl (chbd, 12, .inl g_hbd_13))]) hP hD [4, 11, 1] [0, 2, 3, 5, 6, 7, 8, 9, 10] rfl rfl (by decide) (by decide) hk1 hFc hP1 hD1)
      have hp_34 : k_RK (k_M bl.toInt g_hlt_19) bl.toInt g_h2_33 := hp_34
      clear hPc hDc hKc
      refine lv_aload_n hx hb dX4_look_78 rfl (lv_at hl 0 rfl) ?_
      obtain ⟨hPc, hDc, hFc⟩ := z_sub3 (ws' := [(h0, .inr (4, [.ref h1, .int p1, .int bl, .ref hk9, .ref hlt, .ref hrk, .ref hbd, .ref hle, .ref hgr, .int 0])), (h1, .inr (0, [.ref hs, .ref ha, .ref hb9, .ref hc9, h1_4, .int bl])), (hk9, .inl (chk9, 80, .inl g_hk9_8)), (hs, .inl (chs, 80, .inl fhs)), (ha, .inl (cha, 80, .inl fha)), (hb9, .inl (chb9, 80, .inl fhb9)), (hc9, .inl (chc9, 80, .inl fhc9)), (hbd, .inl (chbd, 12, .inl g_hbd_13)), (hlt, .inl (chlt, 12, .inl g_hlt_19)), (hle, .inl (chle, 12, .inl fhle)), (hgr, .inl (chgr, 12, .inl fhgr))]) hP hD hS hA [9, 3, 4, 5, 6, 7, 0, 8, 10, 1, 2] (by decide) rfl
      have hKc := hK.sub (tys' := [(chk9, .boolean), (chs, .int), (cha, .int), (chb9, .int), (chc9, .int), (chbd, .int), (chlt, .int), (chle, .int), (chgr, .int)]) [0, 1, 2, 3, 4, 5, 6, 8, 9] rfl
      refine va_callv (va_runV (As := []) (rest := []) ⟨hx, hb, hml, hown, hts⟩ (s_X4_setSpansK l dC dI H_30.size h0 h1 p1 bl hk9 hlt (.ref hrk) hbd hle hgr 0 hs ha hb9 hc9 h1_4 (.int bl) chk9 g_hk9_8 chs fhs cha fha chb9 fhb9 chc9 fhc9 chbd g_hbd_13 chlt g_hlt_19 chle fhle chgr fhgr (z_bw hB_p1 (by decide) (by decide)) (z_bw hB_bl (by decide) (by decide)) (by decide) hI_ha hp_14 hT hRD hBL (by first | omega | decide)) (cwV 0 hts gw_s_X4_lookK_s_X4_setSpansK_66 rfl rfl rfl (by decide +kernel) ⟨Nat.le_of_ble_eq_true rfl, Nat.le_of_ble_eq_true rfl⟩) ⟨z_blind, va_recv hKc hPc (ci := 4) (q0 := 0) rfl rfl, z_pre hPc hKc hDc⟩ rfl rfl hl.1 rfl (lv_room (Nat.le_of_ble_eq_true rfl)) dX4_look_79 ⟨Nat.le_of_ble_eq_true rfl, Nat.le_of_ble_eq_true rfl⟩) hS (fun q _ h => hFc q h) hFc (fun u t H_35 locs ht hvm hw_37 hB hz1 hk1 hS => ?_)
      obtain ⟨n_h0_clash_38, g_hle_39, g_hgr_40, hp_41, hp_42, hp_43, hP1, hK1, hD1⟩ := hB
      rw [ht] at hP1
      have hK1 := va_K.moved hvm.symm hK1
      obtain ⟨hP, hD⟩ := z_ap_1 (va_join (wr := [(hrk, .inl (chrk, 12, .inl g_h2_33))]) hP hD [9, 3, 4, 5, 6, 7, 0, 8, 10, 1, 2] [11] rfl rfl (by decide) (by decide) hk1 hFc hP1 hD1)
      have hp_42 : k_SP (k_M bl.toInt g_hlt_19) (k_D fhs fha fhb9 g_hk9_8 g_hbd_13 p1.toInt p1.toInt) (k_D fhs fha fhc9 g_hk9_8 g_hbd_13 p1.toInt p1.toInt) bl.toInt g_hle_39 g_hgr_40 := hp_42
      have hp_43 : k_ql bl.toInt g_hle_39 g_hgr_40 n_h0_clash_38.toInt := hp_43
      clear hPc hDc hKc
      obtain ⟨hP9, hD9⟩ := z_sub2 (ws' := [(h0, .inr (4, [.ref h1, .int p1, .int bl, .ref hk9, .ref hlt, .ref hrk, .ref hbd, .ref hle, .ref hgr, .int n_h0_clash_38])), (h1, .inr (0, [.ref hs, .ref ha, .ref hb9, .ref hc9, h1_4, .int bl])), (hk9, .inl (chk9, 80, .inl g_hk9_8)), (hs, .inl (chs, 80, .inl fhs)), (ha, .inl (cha, 80, .inl fha)), (hb9, .inl (chb9, 80, .inl fhb9)), (hc9, .inl (chc9, 80, .inl fhc9)), (hbd, .inl (chbd, 12, .inl g_hbd_13)), (hlt, .inl (chlt, 12, .inl g_hlt_19)), (hrk, .inl (chrk, 12, .inl g_h2_33)), (hle, .inl (chle, 12, .inl g_hle_39)), (hgr, .inl (chgr, 12, .inl g_hgr_40))]) hP hD [1, 2, 3, 4, 5, 6, 7, 8, 9, 0, 10, 11] (by decide) rfl
      have hK9 := hK.sub (tys' := []) [] rfl
      refine W.widen (k := 0) (n := 0) (Nat.le_of_ble_eq_true rfl) (Nat.le_of_ble_eq_true rfl) ?_
      exact W.vret hx hb hr (fun t ht hW => ⟨⟨(), rfl, trivial, ⟨p1, bl, n_h0_clash_38, g_hk9_8, g_hbd_13, g_hlt_19, g_h2_33, g_hle_39, g_hgr_40, (z_bw hB_p1 (by decide) (by decide)), (z_bw hB_bl (by decide) (by decide)), hp_41, hp_14, (show p1.toInt = p1.toInt ∧ bl.toInt = bl.toInt by omega), (show k_KN fhs fha fhb9 fhc9 p1.toInt bl.toInt g_hk9_8 g_hbd_13 g_hlt_19 g_h2_33 g_hle_39 g_hgr_40 n_h0_clash_38.toInt from ⟨hp_9, hp_15, hp_20, Or.inr ⟨hw_23, hp_34, hp_42, hp_43⟩⟩), by rw [ht]; exact hP9, va_K.moved hW.alike hK9, hD9⟩⟩, hS.F ht⟩) hS.2.2 dX4_look_82
  · have k_44 : (p1).toInt = (kn).toInt := z_eq c_1
    refine lv_aload_n hx hb dX4_look_8 rfl (lv_at hl 0 rfl) ?_
    refine va_get (D := (dC, dI)) (ci := 4) (v := .ref h1) (C := RX4) (T := TX4) (N := 10) hx hb hts hiX4 hown hK hP 0 rfl rfl 0 (by decide) w__fieldLink_RX4_41_ShellHeap_Known_book_LShellHeap_Book_ (fun _ h9 => h9) rfl dX4_look_9 ?_
    refine va_get (D := (dC, dI)) (ci := 0) (v := .int bl) (C := RX0) (T := TX0) (N := 6) hx hb hts hiX0 hown hK hP 1 rfl rfl 5 (by decide) w__fieldLink_RX4_45_ShellHeap_Book_layers_I_ (fun _ h9 => h9) rfl dX4_look_12 ?_
    refine lv_aload_n hx hb dX4_look_15 rfl (lv_at hl 0 rfl) ?_
    refine va_get (D := (dC, dI)) (ci := 4) (v := .int kl) (C := RX4) (T := TX4) (N := 10) hx hb hts hiX4 hown hK hP 0 rfl rfl 2 (by decide) w__fieldLink_RX4_15_ShellHeap_Known_layersSeen_I_ (fun _ h9 => h9) rfl dX4_look_16 ?_
    refine lv_icmp_ne (tgt := 23) hx hb dX4_look_19 (by decide) (fun c_45 => ?_) (fun c_45 => ?_)
    · have k_46 : (bl).toInt ≠ (kl).toInt := z_ne c_45
      refine lv_aload_n hx hb dX4_look_23 rfl (lv_at hl 0 rfl) ?_
      refine lv_iload_n hx hb dX4_look_24 rfl (lv_at hl 1 rfl) ?_
      refine va_put (D := (dC, dI)) (ci := 4) (v := .int p1) (ty := .int) (C := RX4) (T := TX4) (N := 10) hx hb hts hiX4 tyX4 tyX4_ok nmX4 hown hK hP hD hS 0 rfl rfl 1 (by decide) w__fieldLink_RX4_9_ShellHeap_Known_notesSeen_I_ (fun _ h9 => h9) rfl (by decide +kernel) rfl rfl (Nat.le_of_ble_eq_true rfl) dX4_look_25 (fun H_47 locs hP hD hS => ?_)
      obtain ⟨hP, hD⟩ := z_s_0_1 hP hD
      refine lv_aload_n hx hb dX4_look_28 rfl (lv_at hl 0 rfl) ?_
      refine lv_aload_n hx hb dX4_look_29 rfl (lv_at hl 0 rfl) ?_
      refine va_get (D := (dC, dI)) (ci := 4) (v := .ref h1) (C := RX4) (T := TX4) (N := 10) hx hb hts hiX4 hown hK hP 0 rfl rfl 0 (by decide) w__fieldLink_RX4_41_ShellHeap_Known_book_LShellHeap_Book_ (fun _ h9 => h9) rfl dX4_look_30 ?_
      refine va_get (D := (dC, dI)) (ci := 0) (v := .int bl) (C := RX0) (T := TX0) (N := 6) hx hb hts hiX0 hown hK hP 1 rfl rfl 5 (by decide) w__fieldLink_RX4_45_ShellHeap_Book_layers_I_ (fun _ h9 => h9) rfl dX4_look_33 ?_
      refine va_put (D := (dC, dI)) (ci := 4) (v := .int bl) (ty := .int) (C := RX4) (T := TX4) (N := 10) hx hb hts hiX4 tyX4 tyX4_ok nmX4 hown hK hP hD hS 0 rfl rfl 2 (by decide) w__fieldLink_RX4_15_ShellHeap_Known_layersSeen_I_ (fun _ h9 => h9) rfl (by decide +kernel) rfl rfl (Nat.le_of_ble_eq_true rfl) dX4_look_36 (fun H_48 locs hP hD hS => ?_)
      obtain ⟨hP, hD⟩ := z_s_0_2 hP hD
      refine lv_aload_n hx hb dX4_look_39 rfl (lv_at hl 0 rfl) ?_
      obtain ⟨hPc, hDc, hFc⟩ := z_sub3 (ws' := [(h0, .inr (4, [.ref h1, .int p1, .int bl, .ref hk9, .ref hlt, .ref hrk, .ref hbd, .ref hle, .ref hgr, .int kc])), (h1, .inr (0, [.ref hs, .ref ha, .ref hb9, .ref hc9, h1_4, .int bl])), (hk9, .inl (chk9, 80, .inl fhk9)), (hs, .inl (chs, 80, .inl fhs)), (ha, .inl (cha, 80, .inl fha))]) hP hD hS hA [0, 1, 2, 3, 4] (by decide) rfl
      have hKc := hK.sub (tys' := [(chk9, .boolean), (chs, .int), (cha, .int)]) [0, 1, 2] rfl
      refine va_callv (va_runV (As := []) (rest := []) ⟨hx, hb, hml, hown, hts⟩ (s_X4_findStruckK l dC dI H_48.size h0 h1 p1 (.int bl) hk9 (.ref hlt) (.ref hrk) (.ref hbd) (.ref hle) (.ref hgr) (.int kc) hs ha (.ref hb9) (.ref hc9) h1_4 (.int bl) chk9 fhk9 chs fhs cha fha (z_bw hB_p1 (by decide) (by decide)) hI_ha) (cwV 0 hts gw_s_X4_lookK_s_X4_findStruckK_50 rfl rfl rfl (by decide +kernel) ⟨Nat.le_of_ble_eq_true rfl, Nat.le_of_ble_eq_true rfl⟩) ⟨z_blind, va_recv hKc hPc (ci := 4) (q0 := 0) rfl rfl, z_pre hPc hKc hDc⟩ rfl rfl hl.1 rfl (lv_room (Nat.le_of_ble_eq_true rfl)) dX4_look_40 ⟨Nat.le_of_ble_eq_true rfl, Nat.le_of_ble_eq_true rfl⟩) hS (fun q _ h => hFc q h) hFc (fun u t H_49 locs ht hvm hw_51 hB hz1 hk1 hS => ?_)
      obtain ⟨g_hk9_52, hp_53, hP1, hK1, hD1⟩ := hB
      rw [ht] at hP1
      have hK1 := va_K.moved hvm.symm hK1
      obtain ⟨hP, hD⟩ := z_ap_7 (va_join (wr := [(hb9, .inl (chb9, 80, .inl fhb9)), (hc9, .inl (chc9, 80, .inl fhc9)), (hbd, .inl (chbd, 12, .inl fhbd)), (hlt, .inl (chlt, 12, .inl fhlt)), (hrk, .inl (chrk, 12, .inl fhrk)), (hle, .inl (chle, 12, .inl fhle)), (hgr, .inl (chgr, 12, .inl fhgr))]) hP hD [0, 1, 2, 3, 4] [5, 6, 7, 8, 9, 10, 11] rfl rfl (by decide) (by decide) hk1 hFc hP1 hD1)
      have hp_53 : k_cx fhs fha p1.toInt g_hk9_52 := hp_53
      clear hPc hDc hKc
      refine lv_aload_n hx hb dX4_look_43 rfl (lv_at hl 0 rfl) ?_
      obtain ⟨hPc, hDc, hFc⟩ := z_sub3 (ws' := [(h0, .inr (4, [.ref h1, .int p1, .int bl, .ref hk9, .ref hlt, .ref hrk, .ref hbd, .ref hle, .ref hgr, .int kc])), (h1, .inr (0, [.ref hs, .ref ha, .ref hb9, .ref hc9, h1_4, .int bl])), (hk9, .inl (chk9, 80, .inl g_hk9_52)), (hs, .inl (chs, 80, .inl fhs)), (ha, .inl (cha, 80, .inl fha)), (hb9, .inl (chb9, 80, .inl fhb9)), (hbd, .inl (chbd, 12, .inl fhbd))]) hP hD hS hA [7, 8, 9, 10, 11, 0, 2] (by decide) rfl
      have hKc := hK.sub (tys' := [(chk9, .boolean), (chs, .int), (cha, .int), (chb9, .int), (chbd, .int)]) [0, 1, 2, 3, 5] rfl
      refine va_callv (va_runV (As := []) (rest := []) ⟨hx, hb, hml, hown, hts⟩ (s_X4_joinBedsK l dC dI H_49.size h0 h1 p1 bl hk9 (.ref hlt) (.ref hrk) hbd (.ref hle) (.ref hgr) (.int kc) hs ha hb9 (.ref hc9) h1_4 (.int bl) chk9 g_hk9_52 chs fhs cha fha chb9 fhb9 chbd fhbd (z_bw hB_p1 (by decide) (by decide)) (z_bw hB_bl (by decide) (by decide)) hI_ha hI_hbd hRG) (cwV 0 hts gw_s_X4_lookK_s_X4_joinBedsK_53 rfl rfl rfl (by decide +kernel) ⟨Nat.le_of_ble_eq_true rfl, Nat.le_of_ble_eq_true rfl⟩) ⟨z_blind, va_recv hKc hPc (ci := 4) (q0 := 0) rfl rfl, z_pre hPc hKc hDc⟩ rfl rfl hl.1 rfl (lv_room (Nat.le_of_ble_eq_true rfl)) dX4_look_44 ⟨Nat.le_of_ble_eq_true rfl, Nat.le_of_ble_eq_true rfl⟩) hS (fun q _ h => hFc q h) hFc (fun u t H_54 locs ht hvm hw_56 hB hz1 hk1 hS => ?_)
      obtain ⟨g_hbd_57, hp_58, hp_59, hP1, hK1, hD1⟩ := hB
      rw [ht] at hP1
      have hK1 := va_K.moved hvm.symm hK1
      obtain ⟨hP, hD⟩ := z_ap_5 (va_join (wr := [(hc9, .inl (chc9, 80, .inl fhc9)), (hlt, .inl (chlt, 12, .inl fhlt)), (hrk, .inl (chrk, 12, .inl fhrk)), (hle, .inl (chle, 12, .inl fhle)), (hgr, .inl (chgr, 12, .inl fhgr))]) hP hD [7, 8, 9, 10, 11, 0, 2] [1, 3, 4, 5, 6] rfl rfl (by decide) (by decide) hk1 hFc hP1 hD1)
      have hp_59 : k_BD fhs fha fhb9 g_hk9_52 p1.toInt bl.toInt g_hbd_57 := hp_59
      clear hPc hDc hKc
      have hBL := k_BD_bl hp_59
      refine lv_aload_n hx hb dX4_look_47 rfl (lv_at hl 0 rfl) ?_
      obtain ⟨hPc, hDc, hFc⟩ := z_sub3 (ws' := [(h0, .inr (4, [.ref h1, .int p1, .int bl, .ref hk9, .ref hlt, .ref hrk, .ref hbd, .ref hle, .ref hgr, .int kc])), (h1, .inr (0, [.ref hs, .ref ha, .ref hb9, .ref hc9, h1_4, .int bl])), (hk9, .inl (chk9, 80, .inl g_hk9_52)), (hs, .inl (chs, 80, .inl fhs)), (ha, .inl (cha, 80, .inl fha)), (hb9, .inl (chb9, 80, .inl fhb9)), (hbd, .inl (chbd, 12, .inl g_hbd_57)), (hlt, .inl (chlt, 12, .inl fhlt))]) hP hD hS hA [5, 6, 7, 8, 9, 10, 11, 1] (by decide) rfl
      have hKc := hK.sub (tys' := [(chk9, .boolean), (chs, .int), (cha, .int), (chb9, .int), (chbd, .int), (chlt, .int)]) [0, 1, 2, 3, 5, 6] rfl
      refine va_callv (va_runV (As := []) (rest := []) ⟨hx, hb, hml, hown, hts⟩ (s_X4_findLaterK l dC dI H_54.size h0 h1 p1 bl hk9 hlt (.ref hrk) hbd (.ref hle) (.ref hgr) (.int kc) hs ha hb9 (.ref hc9) h1_4 (.int bl) chk9 g_hk9_52 chs fhs cha fha chb9 fhb9 chbd g_hbd_57 chlt fhlt (z_bw hB_p1 (by decide) (by decide)) (z_bw hB_bl (by decide) (by decide)) hI_ha hp_58 hRG hBL) (cwV 0 hts gw_s_X4_lookK_s_X4_findLaterK_56 rfl rfl rfl (by decide +kernel) ⟨Nat.le_of_ble_eq_true rfl, Nat.le_of_ble_eq_true rfl⟩) ⟨z_blind, va_recv hKc hPc (ci := 4) (q0 := 0) rfl rfl, z_pre hPc hKc hDc⟩ rfl rfl hl.1 rfl (lv_room (Nat.le_of_ble_eq_true rfl)) dX4_look_48 ⟨Nat.le_of_ble_eq_true rfl, Nat.le_of_ble_eq_true rfl⟩) hS (fun q _ h => hFc q h) hFc (fun u t H_60 locs ht hvm hw_62 hB hz1 hk1 hS => ?_)
      obtain ⟨g_hlt_63, hp_64, hP1, hK1, hD1⟩ := hB
      rw [ht] at hP1
      have hK1 := va_K.moved hvm.symm hK1
      obtain ⟨hP, hD⟩ := z_ap_4 (va_join (wr := [(hc9, .inl (chc9, 80, .inl fhc9)), (hrk, .inl (chrk, 12, .inl fhrk)), (hle, .inl (chle, 12, .inl fhle)), (hgr, .inl (chgr, 12, .inl fhgr))]) hP hD [5, 6, 7, 8, 9, 10, 11, 1] [0, 2, 3, 4] rfl rfl (by decide) (by decide) hk1 hFc hP1 hD1)
      have hp_64 : k_LT fhs fha fhb9 g_hk9_52 p1.toInt bl.toInt g_hbd_57 g_hlt_63 := hp_64
      clear hPc hDc hKc
      refine lv_aload_n hx hb dX4_look_51 rfl (lv_at hl 0 rfl) ?_
      refine lv_aload_n hx hb dX4_look_52 rfl (lv_at hl 0 rfl) ?_
      obtain ⟨hPc, hDc⟩ := z_sub2 (ws' := [(h0, .inr (4, [.ref h1, .int p1, .int bl, .ref hk9, .ref hlt, .ref hrk, .ref hbd, .ref hle, .ref hgr, .int kc])), (hlt, .inl (chlt, 12, .inl g_hlt_63))]) hP hD [4, 11] (by decide) rfl
      have hKc := hK.sub (tys' := [(chlt, .int)]) [6] rfl
      have hFc := va_free (ws := []) (wc := []) (z_D0 _) hS hA [] rfl
      refine va_calli (va_runV (As := []) (rest := [.ref h0]) ⟨hx, hb, hml, hown, hts⟩ (s_X4_hasRingK l dC dI H_60.size h0 (.ref h1) (.int p1) bl (.ref hk9) hlt (.ref hrk) (.ref hbd) (.ref hle) (.ref hgr) (.int kc) chlt g_hlt_63 (z_bw hB_bl (by decide) (by decide))) (cwV 0 hts gw_s_X4_lookK_s_X4_hasRingK_59 rfl rfl rfl (by decide +kernel) ⟨Nat.le_of_ble_eq_true rfl, Nat.le_of_ble_eq_true rfl⟩) ⟨z_blind, va_recv hKc hPc (ci := 4) (q0 := 0) rfl rfl, z_pre hPc hKc hDc⟩ rfl rfl hl.1 rfl (lv_room (Nat.le_of_ble_eq_true rfl)) dX4_look_53 ⟨Nat.le_of_ble_eq_true rfl, Nat.le_of_ble_eq_true rfl⟩) hS (fun q _ h => hFc q h) hFc (fun r_66 u t H_65 locs ht hvm hw_67 hB hz1 hk1 hS => ?_)
      replace hP := z_pure hP hk1
      clear hPc hDc hKc
      rcases hw_67 with ⟨rfl, hw_67⟩ | ⟨rfl, hw_67⟩
      · have hw_67 : k_ring bl.toInt g_hlt_63 := hw_67
        refine lv_if_eq (tgt := 63) hx hb dX4_look_56 (by decide) (fun c_68 => absurd c_68 (by decide)) (fun _ => ?_)
        refine lv_iconst (v := 1) hx hb dX4_look_59 (by decide) ?_
        refine lv_goto (tgt := 64) hx hb dX4_look_60 (by decide) ?_
        refine va_put (D := (dC, dI)) (ci := 4) (v := .int 1) (ty := .int) (C := RX4) (T := TX4) (N := 10) hx hb hts hiX4 tyX4 tyX4_ok nmX4 hown hK hP hD hS 4 rfl rfl 9 (by decide) w__fieldLink_RX4_38_ShellHeap_Known_clash_I_ (fun _ h9 => h9) rfl (by decide +kernel) rfl rfl (Nat.le_of_ble_eq_true rfl) dX4_look_64 (fun H_69 locs hP hD hS => ?_)
        obtain ⟨hP, hD⟩ := z_s_4_9 hP hD
        refine lv_aload_n hx hb dX4_look_67 rfl (lv_at hl 0 rfl) ?_
        refine va_get (D := (dC, dI)) (ci := 4) (v := .int 1) (C := RX4) (T := TX4) (N := 10) hx hb hts hiX4 hown hK hP 4 rfl rfl 9 (by decide) w__fieldLink_RX4_38_ShellHeap_Known_clash_I_ (fun _ h9 => h9) rfl dX4_look_68 ?_
        refine lv_if_ne (tgt := 82) hx hb dX4_look_71 (by decide) (fun _ => ?_) (fun c_70 => absurd c_70 (by decide))
        obtain ⟨hP9, hD9⟩ := z_sub2 (ws' := [(h0, .inr (4, [.ref h1, .int p1, .int bl, .ref hk9, .ref hlt, .ref hrk, .ref hbd, .ref hle, .ref hgr, .int 1])), (h1, .inr (0, [.ref hs, .ref ha, .ref hb9, .ref hc9, h1_4, .int bl])), (hk9, .inl (chk9, 80, .inl g_hk9_52)), (hs, .inl (chs, 80, .inl fhs)), (ha, .inl (cha, 80, .inl fha)), (hb9, .inl (chb9, 80, .inl fhb9)), (hc9, .inl (chc9, 80, .inl fhc9)), (hbd, .inl (chbd, 12, .inl g_hbd_57)), (hlt, .inl (chlt, 12, .inl g_hlt_63)), (hrk, .inl (chrk, 12, .inl fhrk)), (hle, .inl (chle, 12, .inl fhle)), (hgr, .inl (chgr, 12, .inl fhgr))]) hP hD [4, 5, 6, 7, 8, 9, 0, 10, 11, 1, 2, 3] (by decide) rfl
        have hK9 := hK.sub (tys' := []) [] rfl
        refine W.widen (k := 0) (n := 0) (Nat.le_of_ble_eq_true rfl) (Nat.le_of_ble_eq_true rfl) ?_
        exact W.vret hx hb hr (fun t ht hW => ⟨⟨(), rfl, trivial, ⟨p1, bl, 1, g_hk9_52, g_hbd_57, g_hlt_63, fhrk, fhle, fhgr, (z_bw hB_p1 (by decide) (by decide)), (z_bw hB_bl (by decide) (by decide)), (by decide), hp_58, (show p1.toInt = p1.toInt ∧ bl.toInt = bl.toInt by omega), (show k_KN fhs fha fhb9 fhc9 p1.toInt bl.toInt g_hk9_52 g_hbd_57 g_hlt_63 fhrk fhle fhgr (1 : Int) from ⟨hp_53, hp_59, hp_64, Or.inl ⟨rfl, hw_67⟩⟩), by rw [ht]; exact hP9, va_K.moved hW.alike hK9, hD9⟩⟩, hS.F ht⟩) hS.2.2 dX4_look_82
      · have hw_67 : ¬ k_ring bl.toInt g_hlt_63 := hw_67
        refine lv_if_eq (tgt := 63) hx hb dX4_look_56 (by decide) (fun _ => ?_) (fun c_71 => absurd (by decide) c_71)
        refine lv_iconst (v := 0) hx hb dX4_look_63 (by decide) ?_
        refine va_put (D := (dC, dI)) (ci := 4) (v := .int 0) (ty := .int) (C := RX4) (T := TX4) (N := 10) hx hb hts hiX4 tyX4 tyX4_ok nmX4 hown hK hP hD hS 4 rfl rfl 9 (by decide) w__fieldLink_RX4_38_ShellHeap_Known_clash_I_ (fun _ h9 => h9) rfl (by decide +kernel) rfl rfl (Nat.le_of_ble_eq_true rfl) dX4_look_64 (fun H_72 locs hP hD hS => ?_)
        obtain ⟨hP, hD⟩ := z_s_4_9 hP hD
        refine lv_aload_n hx hb dX4_look_67 rfl (lv_at hl 0 rfl) ?_
        refine va_get (D := (dC, dI)) (ci := 4) (v := .int 0) (C := RX4) (T := TX4) (N := 10) hx hb hts hiX4 hown hK hP 4 rfl rfl 9 (by decide) w__fieldLink_RX4_38_ShellHeap_Known_clash_I_ (fun _ h9 => h9) rfl dX4_look_68 ?_
        refine lv_if_ne (tgt := 82) hx hb dX4_look_71 (by decide) (fun c_73 => absurd c_73 (by decide)) (fun _ => ?_)
        have hT := k_tr_of hp_64 hw_67
        refine lv_aload_n hx hb dX4_look_74 rfl (lv_at hl 0 rfl) ?_
        obtain ⟨hPc, hDc, hFc⟩ := z_sub3 (ws' := [(h0, .inr (4, [.ref h1, .int p1, .int bl, .ref hk9, .ref hlt, .ref hrk, .ref hbd, .ref hle, .ref hgr, .int 0])), (hlt, .inl (chlt, 12, .inl g_hlt_63)), (hrk, .inl (chrk, 12, .inl fhrk))]) hP hD hS hA [4, 11, 1] (by decide) rfl
        have hKc := hK.sub (tys' := [(chlt, .int), (chrk, .int)]) [6, 7] rfl
        refine va_callv (va_runV (As := []) (rest := []) ⟨hx, hb, hml, hown, hts⟩ (s_X4_setRanksK l dC dI H_72.size h0 (.ref h1) (.int p1) bl (.ref hk9) hlt hrk (.ref hbd) (.ref hle) (.ref hgr) (.int 0) chlt g_hlt_63 chrk fhrk (z_bw hB_bl (by decide) (by decide)) hT) (cwV 0 hts gw_s_X4_lookK_s_X4_setRanksK_63 rfl rfl rfl (by decide +kernel) ⟨Nat.le_of_ble_eq_true rfl, Nat.le_of_ble_eq_true rfl⟩) ⟨z_blind, va_recv hKc hPc (ci := 4) (q0 := 0) rfl rfl, z_pre hPc hKc hDc⟩ rfl rfl hl.1 rfl (lv_room (Nat.le_of_ble_eq_true rfl)) dX4_look_75 ⟨Nat.le_of_ble_eq_true rfl, Nat.le_of_ble_eq_true rfl⟩) hS (fun q _ h => hFc q h) hFc (fun u t H_74 locs ht hvm hw_76 hB hz1 hk1 hS => ?_)
        obtain ⟨g_h2_77, hp_78, hP1, hK1, hD1⟩ := hB
        rw [ht] at hP1
        have hK1 := va_K.moved hvm.symm hK1
        obtain ⟨hP, hD⟩ := z_ap_9 (va_join (wr := [(hc9, .inl (chc9, 80, .inl fhc9)), (hle, .inl (chle, 12, .inl fhle)), (hgr, .inl (chgr, 12, .inl fhgr)), (h1, .inr (0, [.ref hs, .ref ha, .ref hb9, .ref hc9, h1_4, .int bl])), (hk9, .inl (chk9, 80, .inl g_hk9_52)), (hs, .inl (chs, 80, .inl fhs)), (ha, .inl (cha, 80, .inl fha)), (hb9, .inl (chb9, 80, .inl fhb9)), (hbd, .inl (chbd, 12, .inl g_hbd_57))]) hP hD [4, 11, 1] [0, 2, 3, 5, 6, 7, 8, 9, 10] rfl rfl (by decide) (by decide) hk1 hFc hP1 hD1)
        have hp_78 : k_RK (k_M bl.toInt g_hlt_63) bl.toInt g_h2_77 := hp_78
        clear hPc hDc hKc
        refine lv_aload_n hx hb dX4_look_78 rfl (lv_at hl 0 rfl) ?_
        obtain ⟨hPc, hDc, hFc⟩ := z_sub3 (ws' := [(h0, .inr (4, [.ref h1, .int p1, .int bl, .ref hk9, .ref hlt, .ref hrk, .ref hbd, .ref hle, .ref hgr, .int 0])), (h1, .inr (0, [.ref hs, .ref ha, .ref hb9, .ref hc9, h1_4, .int bl])), (hk9, .inl (chk9, 80, .inl g_hk9_52)), (hs, .inl (chs, 80, .inl fhs)), (ha, .inl (cha, 80, .inl fha)), (hb9, .inl (chb9, 80, .inl fhb9)), (hc9, .inl (chc9, 80, .inl fhc9)), (hbd, .inl (chbd, 12, .inl g_hbd_57)), (hlt, .inl (chlt, 12, .inl g_hlt_63)), (hle, .inl (chle, 12, .inl fhle)), (hgr, .inl (chgr, 12, .inl fhgr))]) hP hD hS hA [9, 3, 4, 5, 6, 7, 0, 8, 10, 1, 2] (by decide) rfl
        have hKc := hK.sub (tys' := [(chk9, .boolean), (chs, .int), (cha, .int), (chb9, .int), (chc9, .int), (chbd, .int), (chlt, .int), (chle, .int), (chgr, .int)]) [0, 1, 2, 3, 4, 5, 6, 8, 9] rfl
        refine va_callv (va_runV (As := []) (rest := []) ⟨hx, hb, hml, hown, hts⟩ (s_X4_setSpansK l dC dI H_74.size h0 h1 p1 bl hk9 hlt (.ref hrk) hbd hle hgr 0 hs ha hb9 hc9 h1_4 (.int bl) chk9 g_hk9_52 chs fhs cha fha chb9 fhb9 chc9 fhc9 chbd g_hbd_57 chlt g_hlt_63 chle fhle chgr fhgr (z_bw hB_p1 (by decide) (by decide)) (z_bw hB_bl (by decide) (by decide)) (by decide) hI_ha hp_58 hT hRD hBL (by first | omega | decide)) (cwV 0 hts gw_s_X4_lookK_s_X4_setSpansK_66 rfl rfl rfl (by decide +kernel) ⟨Nat.le_of_ble_eq_true rfl, Nat.le_of_ble_eq_true rfl⟩) ⟨z_blind, va_recv hKc hPc (ci := 4) (q0 := 0) rfl rfl, z_pre hPc hKc hDc⟩ rfl rfl hl.1 rfl (lv_room (Nat.le_of_ble_eq_true rfl)) dX4_look_79 ⟨Nat.le_of_ble_eq_true rfl, Nat.le_of_ble_eq_true rfl⟩) hS (fun q _ h => hFc q h) hFc (fun u t H_79 locs ht hvm hw_81 hB hz1 hk1 hS => ?_)
        obtain ⟨n_h0_clash_82, g_hle_83, g_hgr_84, hp_85, hp_86, hp_87, hP1, hK1, hD1⟩ := hB
        rw [ht] at hP1
        have hK1 := va_K.moved hvm.symm hK1
        obtain ⟨hP, hD⟩ := z_ap_1 (va_join (wr := [(hrk, .inl (chrk, 12, .inl g_h2_77))]) hP hD [9, 3, 4, 5, 6, 7, 0, 8, 10, 1, 2] [11] rfl rfl (by decide) (by decide) hk1 hFc hP1 hD1)
        have hp_86 : k_SP (k_M bl.toInt g_hlt_63) (k_D fhs fha fhb9 g_hk9_52 g_hbd_57 p1.toInt p1.toInt) (k_D fhs fha fhc9 g_hk9_52 g_hbd_57 p1.toInt p1.toInt) bl.toInt g_hle_83 g_hgr_84 := hp_86
        have hp_87 : k_ql bl.toInt g_hle_83 g_hgr_84 n_h0_clash_82.toInt := hp_87
        clear hPc hDc hKc
        obtain ⟨hP9, hD9⟩ := z_sub2 (ws' := [(h0, .inr (4, [.ref h1, .int p1, .int bl, .ref hk9, .ref hlt, .ref hrk, .ref hbd, .ref hle, .ref hgr, .int n_h0_clash_82])), (h1, .inr (0, [.ref hs, .ref ha, .ref hb9, .ref hc9, h1_4, .int bl])), (hk9, .inl (chk9, 80, .inl g_hk9_52)), (hs, .inl (chs, 80, .inl fhs)), (ha, .inl (cha, 80, .inl fha)), (hb9, .inl (chb9, 80, .inl fhb9)), (hc9, .inl (chc9, 80, .inl fhc9)), (hbd, .inl (chbd, 12, .inl g_hbd_57)), (hlt, .inl (chlt, 12, .inl g_hlt_63)), (hrk, .inl (chrk, 12, .inl g_h2_77)), (hle, .inl (chle, 12, .inl g_hle_83)), (hgr, .inl (chgr, 12, .inl g_hgr_84))]) hP hD [1, 2, 3, 4, 5, 6, 7, 8, 9, 0, 10, 11] (by decide) rfl
        have hK9 := hK.sub (tys' := []) [] rfl
        refine W.widen (k := 0) (n := 0) (Nat.le_of_ble_eq_true rfl) (Nat.le_of_ble_eq_true rfl) ?_
        exact W.vret hx hb hr (fun t ht hW => ⟨⟨(), rfl, trivial, ⟨p1, bl, n_h0_clash_82, g_hk9_52, g_hbd_57, g_hlt_63, g_h2_77, g_hle_83, g_hgr_84, (z_bw hB_p1 (by decide) (by decide)), (z_bw hB_bl (by decide) (by decide)), hp_85, hp_58, (show p1.toInt = p1.toInt ∧ bl.toInt = bl.toInt by omega), (show k_KN fhs fha fhb9 fhc9 p1.toInt bl.toInt g_hk9_52 g_hbd_57 g_hlt_63 g_h2_77 g_hle_83 g_hgr_84 n_h0_clash_82.toInt from ⟨hp_53, hp_59, hp_64, Or.inr ⟨hw_67, hp_78, hp_86, hp_87⟩⟩), by rw [ht]; exact hP9, va_K.moved hW.alike hK9, hD9⟩⟩, hS.F ht⟩) hS.2.2 dX4_look_82
    · have k_88 : (bl).toInt = (kl).toInt := z_eq c_45
      have hP9 := hP
      have hD9 := hD
      have hK9 := hK.sub (tys' := []) [] rfl
      refine W.widen (k := 0) (n := 0) (Nat.le_of_ble_eq_true rfl) (Nat.le_of_ble_eq_true rfl) ?_
      exact W.vret hx hb hr (fun t ht hW => ⟨⟨(), rfl, trivial, ⟨kn, kl, kc, fhk9, fhbd, fhlt, fhrk, fhle, fhgr, hB_kn, hB_kl, hB_kc, hI_hbd, (show kn.toInt = p1.toInt ∧ kl.toInt = bl.toInt by omega), (show k_KN fhs fha fhb9 fhc9 p1.toInt bl.toInt fhk9 fhbd fhlt fhrk fhle fhgr kc.toInt by have h9 : (p1).toInt = (kn).toInt := (by omega); have h8 : (bl).toInt = (kl).toInt := (by omega); rw [h9, h8]; exact hKI.resolve_left (by omega)), by rw [ht]; exact hP9, va_K.moved hW.alike hK9, hD9⟩⟩, hS.F ht⟩) hS.2.2 dX4_look_22
def u_s_X4_layersOfK : List Cond := .code yX4_layersOf cX4_layersOf 4 (some .int) :: ([.fieldLink RX4 15 "ShellHeap$Known" "layersSeen" "I", .fieldLink RX4 29 "ShellHeap$Known" "bedOf" "[I"] ++ (wsX40 ++ []))
theorem gd_s_X4_layersOfK : z_gd u_s_X4_layersOfK := z_gdc (by decide +kernel) (z_gda gdX4 (z_gd0))
set_option maxHeartbeats 4000000 in
set_option maxRecDepth 100000 in
theorem s_X4_layersOfK (l : Launch) (dC : Nat → ClassId) (dI : Nat → Nat → Nat) (sz : Nat) (h0 : Nat) (p1 : Int32) (h0_0 : Value) (h0_1 : Value) (kl : Int32) (h0_3 : Value) (h0_4 : Value) (h0_5 : Value) (h1 : Nat) (h0_7 : Value) (h0_8 : Value) (h0_9 : Value) (ch1 : ClassId) (fh1 : Nat → Int32) (hB_kl : ((-1 : Int) ≤ (kl).toInt ∧ (kl).toInt ≤ (12 : Int))) (hI_h1 : ∀ j : Nat, ((0 : Int) ≤ (fh1 j).toInt ∧ (fh1 j).toInt ≤ (11 : Int))) : Met l yX4_layersOf u_s_X4_layersOfK ({ frames := 0, cells := 0, slots := 0, locals := 0 }) (va_Pc [.ref h0, .int p1] (z_C (dC, dI) vwCl [(h0, .inr (4, [h0_0, h0_1, .int kl, h0_3, h0_4, h0_5, .ref h1, h0_7, h0_8, h0_9])), (h1, .inl (ch1, 12, .inl fh1))] [(ch1, .int)] sz)) (va_Qi (fun (r : Int32) (_ : Unit) => k_mk kl.toInt fh1 p1.toInt r) (fun (_ : Unit) (_ : State) => True) (va_A [] sz)) 0 0 (va_A [] sz) := by
  refine Met.ofW (cc := cX4_layersOf) (maxL := 4) (ret := (some .int)) (by decide) rfl ?_
  intro p e s m args below meth c s₁ B hml hv
  obtain ⟨rfl, hsz, hP, hK, hD0⟩ := hv
  have hx := B.exec
  have hb := B.bytes
  have hr := B.returns
  have hts := atoms_spec (ws := u_s_X4_layersOfK) B.pre
  have hown : s.vm.findClass RX4 = some m.cls := findClass_of_methodNamed B.named
  have hlocks := B.notSynchronized
  subst hsz
  have hD := hD0
  generalize hAe : va_A [] s.heap.size = A
  have hA : ∀ q : Nat, s.heap.size ≤ q → A q := fun q h => by rw [← hAe]; exact Or.inr h
  have hS : va_S A s.heap s.heap [] := va_S.rf
  have hP : va_P (dC, dI) vwCl [(h0, .inr (4, [h0_0, h0_1, .int kl, h0_3, h0_4, h0_5, .ref h1, h0_7, h0_8, h0_9])), (h1, .inl (ch1, 12, .inl fh1))] s.heap := hP
  have w__fieldLink_RX4_15_ShellHeap_Known_layersSeen_I_ := hts (.fieldLink RX4 15 "ShellHeap$Known" "layersSeen" "I") (z_mc (z_ml z_m0))
  have hiX4 := show ∀ w ∈ u_ws RX4 TX4 10, w ∈ u_s_X4_layersOfK from fun w h => z_mc (z_mr (z_ml h))
  have w__fieldLink_RX4_29_ShellHeap_Known_bedOf_I_ := hts (.fieldLink RX4 29 "ShellHeap$Known" "bedOf" "[I") (z_mc (z_ml z_m1))
  have krr_p1 := z_rng p1
  have hl := lv_entry ([.ref h0, .int p1]) (n := 4) (Nat.le_of_ble_eq_true rfl)
  rw [lg_entry_eq]
  generalize (lg_sl ([.ref h0, .int p1]) ++ List.replicate (4 - (lg_sl ([.ref h0, .int p1])).length) Slot.unset).toArray = ls at hl ⊢
  have hl : lv_has ls 4 [(0, .ref h0), (1, .int p1)] := hl
  refine z_nameQ (fun QQ hQQ => ?_)
  refine lv_iconst (v := 0) hx hb dX4_layersOf_0 (by decide) ?_
  refine lv_istore_n (lv' := [(2, .int 0), (0, .ref h0), (1, .int p1)]) hx hb dX4_layersOf_1 rfl hl (by decide) rfl (fun ls hl => ?_)
  refine lv_iconst (v := 0) hx hb dX4_layersOf_2 (by decide) ?_
  refine lv_istore_n (lv' := [(3, .int 0), (2, .int 0), (0, .ref h0), (1, .int p1)]) hx hb dX4_layersOf_3 rfl hl (by decide) rfl (fun ls hl => ?_)
  have loop_1 : ∀ (n_2 : Nat) (i_4 : Int32) (n_5 : Int32) (H : Heap) (locs : List Loc) (ls : Array Slot), (13 - (i_4).toInt).toNat < n_2 → (((0 : Int) ≤ (i_4).toInt ∧ (i_4).toInt ≤ (12 : Int))) → (k_ml (i_4).toInt fh1 (p1).toInt n_5) → ((i_4).toInt ≤ (kl).toInt ∨ (i_4).toInt = 0) → va_P (dC, dI) vwCl [(h0, .inr (4, [h0_0, h0_1, .int kl, h0_3, h0_4, h0_5, .ref h1, h0_7, h0_8, h0_9])), (h1, .inl (ch1, 12, .inl fh1))] H → va_D (fun _ => True) [(h0, .inr (4, [h0_0, h0_1, .int kl, h0_3, h0_4, h0_5, .ref h1, h0_7, h0_8, h0_9])), (h1, .inl (ch1, 12, .inl fh1))] → va_S A s.heap H locs → lv_has ls 4 [(3, .int i_4), (2, .int n_5), (0, .ref h0), (1, .int p1)] → W p l e ({ frames := 0, cells := 0, slots := 0, locals := 0 } : Room) s m ([.ref h0, .int p1] : List Value).toArray below meth c H locs 0 0 QQ (F0 m 4 ls []) := by
    intro n_2
    induction n_2 with
    | zero => intro i_4 n_5 H locs ls hm; exact absurd hm (Nat.not_lt_zero _)
    | succ n_2 ih_3 =>
      intro i_4 n_5 H locs ls hm hF_6 hF_7 hF_8 hP hD hS hl
      refine lv_iload_n hx hb dX4_layersOf_4 rfl (lv_at hl 0 rfl) ?_
      refine lv_aload_n hx hb dX4_layersOf_5 rfl (lv_at hl 2 rfl) ?_
      refine va_get (D := (dC, dI)) (ci := 4) (v := .int kl) (C := RX4) (T := TX4) (N := 10) hx hb hts hiX4 hown hK hP 0 rfl rfl 2 (by decide) w__fieldLink_RX4_15_ShellHeap_Known_layersSeen_I_ (fun _ h9 => h9) rfl dX4_layersOf_6 ?_
      refine lv_icmp_ge (tgt := 34) hx hb dX4_layersOf_9 (by decide) (fun c_9 => ?_) (fun c_9 => ?_)
      · have k_10 : (kl).toInt ≤ (i_4).toInt := z_le c_9
        refine lv_iload_n hx hb dX4_layersOf_34 rfl (lv_at hl 1 rfl) ?_
        refine z_backQ hQQ ?_
        refine W.widen (k := 0) (n := 0) (Nat.le_of_ble_eq_true rfl) (Nat.le_of_ble_eq_true rfl) ?_
        exact W.iret (v := n_5) hx hb hr (fun t ht hW => ⟨⟨n_5, (), rfl, (show k_mk kl.toInt fh1 p1.toInt n_5 from k_mk_of hF_7 (by omega)), trivial⟩, hS.F ht⟩) hS.2.2 dX4_layersOf_35
      · have k_11 : (kl).toInt > (i_4).toInt := z_nle c_9
        refine lv_aload_n hx hb dX4_layersOf_12 rfl (lv_at hl 2 rfl) ?_
        refine va_get (D := (dC, dI)) (ci := 4) (v := .ref h1) (C := RX4) (T := TX4) (N := 10) hx hb hts hiX4 hown hK hP 0 rfl rfl 6 (by decide) w__fieldLink_RX4_29_ShellHeap_Known_bedOf_I_ (fun _ h9 => h9) rfl dX4_layersOf_13 ?_
        refine lv_iload_n hx hb dX4_layersOf_16 rfl (lv_at hl 0 rfl) ?_
        refine va_iald hx hb hK hP 1 0 rfl rfl (z_vpin (by omega) (by omega)) dX4_layersOf_17 ?_
        refine lv_topi (fun z_12 ez_12 => ?_)
        have kz_12 : ((0 : Int) ≤ (z_12).toInt ∧ (z_12).toInt ≤ (11 : Int)) := by rw [ez_12]; exact hI_h1 _
        have kxz_12 : (z_12).toInt = (fh1 (i_4 : Int32).toNatClampNeg).toInt := by rw [ez_12]
        refine lv_iload_n hx hb dX4_layersOf_18 rfl (lv_at hl 3 rfl) ?_
        refine lv_icmp_ne (tgt := 28) hx hb dX4_layersOf_19 (by decide) (fun c_13 => ?_) (fun c_13 => ?_)
        · have k_14 : (z_12).toInt ≠ (p1).toInt := z_ne c_13
          obtain ⟨z_15, ez_15⟩ : ∃ y : Int32, y = i_4 + 1 := ⟨_, rfl⟩
          have kz_15 : (z_15).toInt = (i_4).toInt + (1 : Int) := by rw [ez_15]; exact z_add (b := 1) rfl rfl (z_al hF_6.1 (by decide)) (z_ah hF_6.2 (by decide))
          refine lv_iinc (v := z_15) (lv' := [(3, .int z_15), (2, .int n_5), (0, .ref h0), (1, .int p1)]) hx hb dX4_layersOf_28 hl (k := 0) rfl (by rw [ez_15]; rfl) (by decide) rfl (fun ls hl => ?_)
          refine lv_goto (tgt := 4) hx hb dX4_layersOf_31 (by decide) ?_
          exact ih_3 z_15 n_5 _ _ _ (show (13 - (z_15).toInt).toNat < n_2 by omega) (show ((0 : Int) ≤ (z_15).toInt ∧ (z_15).toInt ≤ (12 : Int)) by omega) (show k_ml (z_15).toInt fh1 (p1).toInt n_5 from k_ml_n (i := i_4) hF_7 (by omega) (by omega) (by omega)) (show (z_15).toInt ≤ (kl).toInt ∨ (z_15).toInt = 0 by omega) hP hD hS (lv_sub hl [0, 1, 2, 3] rfl)
        · have k_16 : (z_12).toInt = (p1).toInt := z_eq c_13
          refine lv_iload_n hx hb dX4_layersOf_22 rfl (lv_at hl 1 rfl) ?_
          refine lv_iconst (v := 1) hx hb dX4_layersOf_23 (by decide) ?_
          refine lv_iload_n hx hb dX4_layersOf_24 rfl (lv_at hl 0 rfl) ?_
          refine lv_ishl hx hb dX4_layersOf_25 ?_
          refine lv_topi (fun z_17 ez_17 => ?_)
          refine lv_ior hx hb dX4_layersOf_26 ?_
          refine lv_topi (fun z_18 ez_18 => ?_)
          refine lv_istore_n (lv' := [(2, .int z_18), (3, .int i_4), (0, .ref h0), (1, .int p1)]) hx hb dX4_layersOf_27 rfl hl (by decide) rfl (fun ls hl => ?_)
          obtain ⟨z_19, ez_19⟩ : ∃ y : Int32, y = i_4 + 1 := ⟨_, rfl⟩
          have kz_19 : (z_19).toInt = (i_4).toInt + (1 : Int) := by rw [ez_19]; exact z_add (b := 1) rfl rfl (z_al hF_6.1 (by decide)) (z_ah hF_6.2 (by decide))
          refine lv_iinc (v := z_19) (lv' := [(3, .int z_19), (2, .int z_18), (0, .ref h0), (1, .int p1)]) hx hb dX4_layersOf_28 hl (k := 1) rfl (by rw [ez_19]; rfl) (by decide) rfl (fun ls hl => ?_)
          refine lv_goto (tgt := 4) hx hb dX4_layersOf_31 (by decide) ?_
          exact ih_3 z_19 z_18 _ _ _ (show (13 - (z_19).toInt).toNat < n_2 by omega) (show ((0 : Int) ≤ (z_19).toInt ∧ (z_19).toInt ≤ (12 : Int)) by omega) (show k_ml (z_19).toInt fh1 (p1).toInt z_18 from k_ml_y (i := i_4) hF_7 (by omega) (by omega) (by omega) (by rw [ez_18, ez_17])) (show (z_19).toInt ≤ (kl).toInt ∨ (z_19).toInt = 0 by omega) hP hD hS (lv_sub hl [0, 1, 2, 3] rfl)
  exact loop_1 _ 0 0 _ _ _ (Nat.lt_succ_self _) (show ((0 : Int) ≤ (0 : Int) ∧ (0 : Int) ≤ (12 : Int)) by omega) (show k_ml (0 : Int) fh1 (p1).toInt 0 from k_ml_0) (show (0 : Int) ≤ (kl).toInt ∨ (0 : Int) = 0 by omega) hP hD hS hl
def u_s_bitCountK : List Cond := .code yJ6_bitCount_0f7a4 cJ6_bitCount_0f7a4 1 (some .int) :: ([.constant RJ6 265 (1431655765), .constant RJ6 266 (858993459), .constant RJ6 267 (252645135)] ++ [])
theorem gd_s_bitCountK : z_gd u_s_bitCountK := z_gdc (by decide +kernel) (z_gd0)
set_option maxHeartbeats 4000000 in
set_option maxRecDepth 100000 in
theorem s_bitCountK (l : Launch) (dC : Nat → ClassId) (dI : Nat → Nat → Nat) (sz : Nat) (p0 : Int32) : Met l yJ6_bitCount_0f7a4 u_s_bitCountK ({ frames := 0, cells := 0, slots := 0, locals := 0 }) (va_Pc [.int p0] (z_C (dC, dI) vwCl [] [] sz)) (va_Qi (fun (r : Int32) (_ : Unit) => r = v_pop p0) (fun (_ : Unit) (_ : State) => True) (va_A [] sz)) 0 0 (va_A [] sz) := by
  refine Met.ofW (cc := cJ6_bitCount_0f7a4) (maxL := 1) (ret := (some .int)) (by decide) rfl ?_
  intro p e s m args below meth c s₁ B hml hv
  obtain ⟨rfl, hsz, hP, hK, hD0⟩ := hv
  have hx := B.exec
  have hb := B.bytes
  have hr := B.returns
  have hts := atoms_spec (ws := u_s_bitCountK) B.pre
  have hown : s.vm.findClass RJ6 = some m.cls := findClass_of_methodNamed B.named
  have hlocks := B.notSynchronized
  subst hsz
  have hD := hD0
  generalize hAe : va_A [] s.heap.size = A
  have hA : ∀ q : Nat, s.heap.size ≤ q → A q := fun q h => by rw [← hAe]; exact Or.inr h
  have hS : va_S A s.heap s.heap [] := va_S.rf
  have hP : va_P (dC, dI) vwCl [] s.heap := hP
  have w__constant_RJ6_265_1431655765_ := hts (.constant RJ6 265 (1431655765)) (z_mc (z_ml z_m0))
  have w__constant_RJ6_266_858993459_ := hts (.constant RJ6 266 (858993459)) (z_mc (z_ml z_m1))
  have w__constant_RJ6_267_252645135_ := hts (.constant RJ6 267 (252645135)) (z_mc (z_ml z_m2))
  have krr_p0 := z_rng p0
  have hl := lv_entry ([.int p0]) (n := 1) (Nat.le_of_ble_eq_true rfl)
  rw [lg_entry_eq]
  generalize (lg_sl ([.int p0]) ++ List.replicate (1 - (lg_sl ([.int p0])).length) Slot.unset).toArray = ls at hl ⊢
  have hl : lv_has ls 1 [(0, .int p0)] := hl
  refine lv_iload_n hx hb dJ6_bitCount_0f7a4_0 rfl (lv_at hl 0 rfl) ?_
  refine lv_iload_n hx hb dJ6_bitCount_0f7a4_1 rfl (lv_at hl 0 rfl) ?_
  refine lv_iconst (v := 1) hx hb dJ6_bitCount_0f7a4_2 (by decide) ?_
  refine lv_iushr hx hb dJ6_bitCount_0f7a4_3 rfl ?_
  refine lv_topi (fun z_1 ez_1 => ?_)
  refine lv_ldcw (v := 1431655765) hx hb hown w__constant_RJ6_265_1431655765_ dJ6_bitCount_0f7a4_4 ?_
  refine lv_iand hx hb dJ6_bitCount_0f7a4_7 ?_
  refine lv_topi (fun z_2 ez_2 => ?_)
  refine lv_isub hx hb dJ6_bitCount_0f7a4_8 ?_
  refine lv_topi (fun z_3 ez_3 => ?_)
  refine lv_istore_n (lv' := [(0, .int z_3)]) hx hb dJ6_bitCount_0f7a4_9 rfl hl (by decide) rfl (fun ls hl => ?_)
  refine lv_iload_n hx hb dJ6_bitCount_0f7a4_10 rfl (lv_at hl 0 rfl) ?_
  refine lv_ldcw (v := 858993459) hx hb hown w__constant_RJ6_266_858993459_ dJ6_bitCount_0f7a4_11 ?_
  refine lv_iand hx hb dJ6_bitCount_0f7a4_14 ?_
  refine lv_topi (fun z_4 ez_4 => ?_)
  refine lv_iload_n hx hb dJ6_bitCount_0f7a4_15 rfl (lv_at hl 0 rfl) ?_
  refine lv_iconst (v := 2) hx hb dJ6_bitCount_0f7a4_16 (by decide) ?_
  refine lv_iushr hx hb dJ6_bitCount_0f7a4_17 rfl ?_
  refine lv_topi (fun z_5 ez_5 => ?_)
  refine lv_ldcw (v := 858993459) hx hb hown w__constant_RJ6_266_858993459_ dJ6_bitCount_0f7a4_18 ?_
  refine lv_iand hx hb dJ6_bitCount_0f7a4_21 ?_
  refine lv_topi (fun z_6 ez_6 => ?_)
  refine lv_iadd hx hb dJ6_bitCount_0f7a4_22 ?_
  refine lv_topi (fun z_7 ez_7 => ?_)
  refine lv_istore_n (lv' := [(0, .int z_7)]) hx hb dJ6_bitCount_0f7a4_23 rfl hl (by decide) rfl (fun ls hl => ?_)
  refine lv_iload_n hx hb dJ6_bitCount_0f7a4_24 rfl (lv_at hl 0 rfl) ?_
  refine lv_iload_n hx hb dJ6_bitCount_0f7a4_25 rfl (lv_at hl 0 rfl) ?_
  refine lv_iconst (v := 4) hx hb dJ6_bitCount_0f7a4_26 (by decide) ?_
  refine lv_iushr hx hb dJ6_bitCount_0f7a4_27 rfl ?_
  refine lv_topi (fun z_8 ez_8 => ?_)
  refine lv_iadd hx hb dJ6_bitCount_0f7a4_28 ?_
  refine lv_topi (fun z_9 ez_9 => ?_)
  refine lv_ldcw (v := 252645135) hx hb hown w__constant_RJ6_267_252645135_ dJ6_bitCount_0f7a4_29 ?_
  refine lv_iand hx hb dJ6_bitCount_0f7a4_32 ?_
  refine lv_topi (fun z_10 ez_10 => ?_)
  refine lv_istore_n (lv' := [(0, .int z_10)]) hx hb dJ6_bitCount_0f7a4_33 rfl hl (by decide) rfl (fun ls hl => ?_)
  refine lv_iload_n hx hb dJ6_bitCount_0f7a4_34 rfl (lv_at hl 0 rfl) ?_
  refine lv_iload_n hx hb dJ6_bitCount_0f7a4_35 rfl (lv_at hl 0 rfl) ?_
  refine lv_bipush (v := 8) hx hb dJ6_bitCount_0f7a4_36 (by decide) ?_
  refine lv_iushr hx hb dJ6_bitCount_0f7a4_38 rfl ?_
  refine lv_topi (fun z_11 ez_11 => ?_)
  refine lv_iadd hx hb dJ6_bitCount_0f7a4_39 ?_
  refine lv_topi (fun z_12 ez_12 => ?_)
  refine lv_istore_n (lv' := [(0, .int z_12)]) hx hb dJ6_bitCount_0f7a4_40 rfl hl (by decide) rfl (fun ls hl => ?_)
  refine lv_iload_n hx hb dJ6_bitCount_0f7a4_41 rfl (lv_at hl 0 rfl) ?_
  refine lv_iload_n hx hb dJ6_bitCount_0f7a4_42 rfl (lv_at hl 0 rfl) ?_
  refine lv_bipush (v := 16) hx hb dJ6_bitCount_0f7a4_43 (by decide) ?_
  refine lv_iushr hx hb dJ6_bitCount_0f7a4_45 rfl ?_
  refine lv_topi (fun z_13 ez_13 => ?_)
  refine lv_iadd hx hb dJ6_bitCount_0f7a4_46 ?_
  refine lv_topi (fun z_14 ez_14 => ?_)
  refine lv_istore_n (lv' := [(0, .int z_14)]) hx hb dJ6_bitCount_0f7a4_47 rfl hl (by decide) rfl (fun ls hl => ?_)
  refine lv_iload_n hx hb dJ6_bitCount_0f7a4_48 rfl (lv_at hl 0 rfl) ?_
  refine lv_bipush (v := 63) hx hb dJ6_bitCount_0f7a4_49 (by decide) ?_
  refine lv_iand hx hb dJ6_bitCount_0f7a4_51 ?_
  refine lv_topi (fun z_15 ez_15 => ?_)
  have kz_15 : (0 : Int) ≤ (z_15).toInt ∧ (z_15).toInt ≤ (63 : Int) := by rw [ez_15]; exact z_and _ 6 (by decide) (by decide)
  refine W.widen (k := 0) (n := 0) (Nat.le_of_ble_eq_true rfl) (Nat.le_of_ble_eq_true rfl) ?_
  exact W.iret (v := z_15) hx hb hr (fun t ht hW => ⟨⟨z_15, (), rfl, (show z_15 = v_pop p0 by rw [ez_15, ez_14, ez_13, ez_12, ez_11, ez_10, ez_9, ez_8, ez_7, ez_6, ez_5, ez_4, ez_3, ez_2, ez_1] <;> rfl), trivial⟩, hS.F ht⟩) hS.2.2 dJ6_bitCount_0f7a4_52
