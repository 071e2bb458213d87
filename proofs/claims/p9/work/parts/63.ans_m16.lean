def u_s_X4_findLaterK : List Cond := .code yX4_findLater cX4_findLater 3 none :: ([.fieldLink RX4 15 "ShellHeap$Known" "layersSeen" "I", .fieldLink RX4 9 "ShellHeap$Known" "notesSeen" "I", .methodLink RX4 95 yX4_isLater, .instanceMethod yX4_isLater, .selects RX4 yX4_isLater yX4_isLater, .initialized RX4, .fieldLink RX4 22 "ShellHeap$Known" "later" "[I", .methodLink RX4 72 yX4_counts, .instanceMethod yX4_counts, .selects RX4 yX4_counts yX4_counts, .fieldLink RX4 29 "ShellHeap$Known" "bedOf" "[I", .fieldLink RX4 41 "ShellHeap$Known" "book" "LShellHeap$Book;", .fieldLink RX4 76 "ShellHeap$Book" "a" "[I", .fieldLink RX4 79 "ShellHeap$Book" "b" "[I"] ++ (wsX40 ++ (wsX00 ++ (u_s_X4_isLaterK ++ (u_s_X4_countsK ++ [])))))
theorem gd_s_X4_findLaterK : z_gd u_s_X4_findLaterK := z_gdc (by decide +kernel) (z_gda gdX4 (z_gda gdX0 (z_gda gd_s_X4_isLaterK (z_gda gd_s_X4_countsK (z_gd0)))))
set_option maxRecDepth 20000 in
theorem gw_s_X4_findLaterK_s_X4_isLaterK_95 : GoodIn u_s_X4_findLaterK (wsV RX4 95 RX4 yX4_isLater u_s_X4_isLaterK) := z_gV (z_gr _ [3, 4, 5, 6] rfl (by decide +kernel)) (fun w h => ⟨z_mc (z_mr (z_mr (z_mr (z_ml h)))), gd_s_X4_isLaterK w h⟩)
set_option maxRecDepth 20000 in
theorem gw_s_X4_findLaterK_s_X4_countsK_72 : GoodIn u_s_X4_findLaterK (wsV RX4 72 RX4 yX4_counts u_s_X4_countsK) := z_gV (z_gr _ [8, 9, 10, 6] rfl (by decide +kernel)) (fun w h => ⟨z_mc (z_mr (z_mr (z_mr (z_mr (z_ml h))))), gd_s_X4_countsK w h⟩)
set_option maxHeartbeats 4000000 in
set_option maxRecDepth 100000 in
theorem s_X4_findLaterK (l : Launch) (dC : Nat → ClassId) (dI : Nat → Nat → Nat) (sz : Nat) (h0 : Nat) (h1 : Nat) (kn : Int32) (kl : Int32) (hk9 : Nat) (hlt : Nat) (h0_5 : Value) (hbd : Nat) (h0_7 : Value) (h0_8 : Value) (h0_9 : Value) (hs : Nat) (ha : Nat) (hb9 : Nat) (h1_3 : Value) (h1_4 : Value) (h1_5 : Value) (chk9 : ClassId) (fhk9 : Nat → Int32) (chs : ClassId) (fhs : Nat → Int32) (cha : ClassId) (fha : Nat → Int32) (chb9 : ClassId) (fhb9 : Nat → Int32) (chbd : ClassId) (fhbd : Nat → Int32) (chlt : ClassId) (fhlt : Nat → Int32) (hB_kn : ((-1 : Int) ≤ (kn).toInt ∧ (kn).toInt ≤ (80 : Int))) (hB_kl : ((-1 : Int) ≤ (kl).toInt ∧ (kl).toInt ≤ (12 : Int))) (hI_ha : ∀ j : Nat, ((0 : Int) ≤ (fha j).toInt ∧ (fha j).toInt ≤ (79 : Int))) (hI_hbd : ∀ j : Nat, ((0 : Int) ≤ (fhbd j).toInt ∧ (fhbd j).toInt ≤ (11 : Int))) (hRG : k_r3 fhs fha fhb9 kn.toInt kl.toInt) (hBL : k_bl kl.toInt fhbd) : Met l yX4_findLater u_s_X4_findLaterK ({ frames := 1, cells := 0, slots := 0, locals := 22 }) (va_Pc [.ref h0] (z_C (dC, dI) vwCl [(h0, .inr (4, [.ref h1, .int kn, .int kl, .ref hk9, .ref hlt, h0_5, .ref hbd, h0_7, h0_8, h0_9])), (h1, .inr (0, [.ref hs, .ref ha, .ref hb9, h1_3, h1_4, h1_5])), (hk9, .inl (chk9, 80, .inl fhk9)), (hs, .inl (chs, 80, .inl fhs)), (ha, .inl (cha, 80, .inl fha)), (hb9, .inl (chb9, 80, .inl fhb9)), (hbd, .inl (chbd, 12, .inl fhbd)), (hlt, .inl (chlt, 12, .inl fhlt))] [(chk9, .boolean), (chs, .int), (cha, .int), (chb9, .int), (chbd, .int), (chlt, .int)] sz)) (va_Qv (fun (_ : Unit) => True) (fun (_ : Unit) (t : State) => ∃ (g_hlt : Nat → Int32), (k_LT fhs fha fhb9 fhk9 kn.toInt kl.toInt fhbd g_hlt) ∧ va_P (dC, dI) vwCl [(h0, .inr (4, [.ref h1, .int kn, .int kl, .ref hk9, .ref hlt, h0_5, .ref hbd, h0_7, h0_8, h0_9])), (h1, .inr (0, [.ref hs, .ref ha, .ref hb9, h1_3, h1_4, h1_5])), (hk9, .inl (chk9, 80, .inl fhk9)), (hs, .inl (chs, 80, .inl fhs)), (ha, .inl (cha, 80, .inl fha)), (hb9, .inl (chb9, 80, .inl fhb9)), (hbd, .inl (chbd, 12, .inl fhbd)), (hlt, .inl (chlt, 12, .inl g_hlt))] t.heap ∧ va_K (dC, dI) vwCl [] t ∧ va_D (va_A [(h0, .inr (4, [.ref h1, .int kn, .int kl, .ref hk9, .ref hlt, h0_5, .ref hbd, h0_7, h0_8, h0_9])), (h1, .inr (0, [.ref hs, .ref ha, .ref hb9, h1_3, h1_4, h1_5])), (hk9, .inl (chk9, 80, .inl fhk9)), (hs, .inl (chs, 80, .inl fhs)), (ha, .inl (cha, 80, .inl fha)), (hb9, .inl (chb9, 80, .inl fhb9)), (hbd, .inl (chbd, 12, .inl fhbd)), (hlt, .inl (chlt, 12, .inl fhlt))] sz) [(h0, .inr (4, [.ref h1, .int kn, .int kl, .ref hk9, .ref hlt, h0_5, .ref hbd, h0_7, h0_8, h0_9])), (h1, .inr (0, [.ref hs, .ref ha, .ref hb9, h1_3, h1_4, h1_5])), (hk9, .inl (chk9, 80, .inl fhk9)), (hs, .inl (chs, 80, .inl fhs)), (ha, .inl (cha, 80, .inl fha)), (hb9, .inl (chb9, 80, .inl fhb9)), (hbd, .inl (chbd, 12, .inl fhbd)), (hlt, .inl (chlt, 12, .inl g_hlt))]) (va_A [(h0, .inr (4, [.ref h1, .int kn, .int kl, .ref hk9, .ref hlt, h0_5, .ref hbd, h0_7, h0_8, h0_9])), (h1, .inr (0, [.ref hs, .ref ha, .ref hb9, h1_3, h1_4, h1_5])), (hk9, .inl (chk9, 80, .inl fhk9)), (hs, .inl (chs, 80, .inl fhs)), (ha, .inl (cha, 80, .inl fha)), (hb9, .inl (chb9, 80, .inl fhb9)), (hbd, .inl (chbd, 12, .inl fhbd)), (hlt, .inl (chlt, 12, .inl fhlt))] sz)) 0 0 (va_A [(h0, .inr (4, [.ref h1, .int kn, .int kl, .ref hk9, .ref hlt, h0_5, .ref hbd, h0_7, h0_8, h0_9])), (h1, .inr (0, [.ref hs, .ref ha, .ref hb9, h1_3, h1_4, h1_5])), (hk9, .inl (chk9, 80, .inl fhk9)), (hs, .inl (chs, 80, .inl fhs)), (ha, .inl (cha, 80, .inl fha)), (hb9, .inl (chb9, 80, .inl fhb9)), (hbd, .inl (chbd, 12, .inl fhbd)), (hlt, .inl (chlt, 12, .inl fhlt))] sz) := by
  refine Met.ofW (cc := cX4_findLater) (maxL := 3) (ret := none) (by decide) rfl ?_
  intro p e s m args below meth c s₁ B hml hv
  obtain ⟨rfl, hsz, hP, hK, hD0⟩ := hv
  have hx := B.exec
  have hb := B.bytes
  have hr := B.returns
  have hts := atoms_spec (ws := u_s_X4_findLaterK) B.pre
  have hown : s.vm.findClass RX4 = some m.cls := findClass_of_methodNamed B.named
  have hlocks := B.notSynchronized
  subst hsz
  have hD := hD0.self (sz := s.heap.size)
  generalize hAe : va_A [(h0, .inr (4, [.ref h1, .int kn, .int kl, .ref hk9, .ref hlt, h0_5, .ref hbd, h0_7, h0_8, h0_9])), (h1, .inr (0, [.ref hs, .ref ha, .ref hb9, h1_3, h1_4, h1_5])), (hk9, .inl (chk9, 80, .inl fhk9)), (hs, .inl (chs, 80, .inl fhs)), (ha, .inl (cha, 80, .inl fha)), (hb9, .inl (chb9, 80, .inl fhb9)), (hbd, .inl (chbd, 12, .inl fhbd)), (hlt, .inl (chlt, 12, .inl fhlt))] s.heap.size = A at hD ⊢
  have hA : ∀ q : Nat, s.heap.size ≤ q → A q := fun q h => by rw [← hAe]; exact Or.inr h
  have hS : va_S A s.heap s.heap [] := va_S.rf
  have hP : va_P (dC, dI) vwCl [(h0, .inr (4, [.ref h1, .int kn, .int kl, .ref hk9, .ref hlt, h0_5, .ref hbd, h0_7, h0_8, h0_9])), (h1, .inr (0, [.ref hs, .ref ha, .ref hb9, h1_3, h1_4, h1_5])), (hk9, .inl (chk9, 80, .inl fhk9)), (hs, .inl (chs, 80, .inl fhs)), (ha, .inl (cha, 80, .inl fha)), (hb9, .inl (chb9, 80, .inl fhb9)), (hbd, .inl (chbd, 12, .inl fhbd)), (hlt, .inl (chlt, 12, .inl fhlt))] s.heap := hP
  have w__fieldLink_RX4_15_ShellHeap_Known_layersSeen_I_ := hts (.fieldLink RX4 15 "ShellHeap$Known" "layersSeen" "I") (z_mc (z_ml z_m0))
  have hiX4 := show ∀ w ∈ u_ws RX4 TX4 10, w ∈ u_s_X4_findLaterK from fun w h => z_mc (z_mr (z_ml h))
  have w__fieldLink_RX4_9_ShellHeap_Known_notesSeen_I_ := hts (.fieldLink RX4 9 "ShellHeap$Known" "notesSeen" "I") (z_mc (z_ml z_m1))
  have w__fieldLink_RX4_22_ShellHeap_Known_later_I_ := hts (.fieldLink RX4 22 "ShellHeap$Known" "later" "[I") (z_mc (z_ml z_m6))
  have w__fieldLink_RX4_29_ShellHeap_Known_bedOf_I_ := hts (.fieldLink RX4 29 "ShellHeap$Known" "bedOf" "[I") (z_mc (z_ml z_m10))
  have w__fieldLink_RX4_41_ShellHeap_Known_book_LShellHeap_Book_ := hts (.fieldLink RX4 41 "ShellHeap$Known" "book" "LShellHeap$Book;") (z_mc (z_ml z_m11))
  have w__fieldLink_RX4_76_ShellHeap_Book_a_I_ := hts (.fieldLink RX4 76 "ShellHeap$Book" "a" "[I") (z_mc (z_ml z_m12))
  have hiX0 := show ∀ w ∈ u_ws RX0 TX0 6, w ∈ u_s_X4_findLaterK from fun w h => z_mc (z_mr (z_mr (z_ml h)))
  have w__fieldLink_RX4_79_ShellHeap_Book_b_I_ := hts (.fieldLink RX4 79 "ShellHeap$Book" "b" "[I") (z_mc (z_ml z_m13))
  have hl := lv_entry ([.ref h0]) (n := 3) (Nat.le_of_ble_eq_true rfl)
  rw [lg_entry_eq]
  generalize (lg_sl ([.ref h0]) ++ List.replicate (3 - (lg_sl ([.ref h0])).length) Slot.unset).toArray = ls at hl ⊢
  have hl : lv_has ls 3 [(0, .ref h0)] := hl
  refine z_nameQ (fun QQ hQQ => ?_)
  refine lv_iconst (v := 0) hx hb dX4_findLater_0 (by decide) ?_
  refine lv_istore_n (lv' := [(1, .int 0), (0, .ref h0)]) hx hb dX4_findLater_1 rfl hl (by decide) rfl (fun ls hl => ?_)
  have loop_1 : ∀ (n_2 : Nat) (i_4 : Int32) (f_5 : Nat → Int32) (H : Heap) (locs : List Loc) (ls : Array Slot), (13 - (i_4).toInt).toNat < n_2 → (((0 : Int) ≤ (i_4).toInt ∧ (i_4).toInt ≤ (12 : Int))) → (k_z (i_4).toInt f_5) → va_P (dC, dI) vwCl [(h0, .inr (4, [.ref h1, .int kn, .int kl, .ref hk9, .ref hlt, h0_5, .ref hbd, h0_7, h0_8, h0_9])), (h1, .inr (0, [.ref hs, .ref ha, .ref hb9, h1_3, h1_4, h1_5])), (hk9, .inl (chk9, 80, .inl fhk9)), (hs, .inl (chs, 80, .inl fhs)), (ha, .inl (cha, 80, .inl fha)), (hb9, .inl (chb9, 80, .inl fhb9)), (hbd, .inl (chbd, 12, .inl fhbd)), (hlt, .inl (chlt, 12, .inl f_5))] H → va_D A [(h0, .inr (4, [.ref h1, .int kn, .int kl, .ref hk9, .ref hlt, h0_5, .ref hbd, h0_7, h0_8, h0_9])), (h1, .inr (0, [.ref hs, .ref ha, .ref hb9, h1_3, h1_4, h1_5])), (hk9, .inl (chk9, 80, .inl fhk9)), (hs, .inl (chs, 80, .inl fhs)), (ha, .inl (cha, 80, .inl fha)), (hb9, .inl (chb9, 80, .inl fhb9)), (hbd, .inl (chbd, 12, .inl fhbd)), (hlt, .inl (chlt, 12, .inl f_5))] → va_S A s.heap H locs → lv_has ls 3 [(1, .int i_4), (0, .ref h0)] → W p l e ({ frames := 1, cells := 0, slots := 0, locals := 22 } : Room) s m ([.ref h0] : List Value).toArray below meth c H locs 0 0 QQ (F0 m 2 ls []) := by
    intro n_2
    induction n_2 with
    | zero => intro i_4 f_5 H locs ls hm; exact absurd hm (Nat.not_lt_zero _)
    | succ n_2 ih_3 =>
      intro i_4 f_5 H locs ls hm hF_6 hF_7 hP hD hS hl
      refine lv_iload_n hx hb dX4_findLater_2 rfl (lv_at hl 0 rfl) ?_
      refine lv_aload_n hx hb dX4_findLater_3 rfl (lv_at hl 1 rfl) ?_
      refine va_get (D := (dC, dI)) (ci := 4) (v := .int kl) (C := RX4) (T := TX4) (N := 10) hx hb hts hiX4 hown hK hP 0 rfl rfl 2 (by decide) w__fieldLink_RX4_15_ShellHeap_Known_layersSeen_I_ (fun _ h9 => h9) rfl dX4_findLater_4 ?_
      refine lv_icmp_ge (tgt := 23) hx hb dX4_findLater_7 (by decide) (fun c_8 => ?_) (fun c_8 => ?_)
      · have k_9 : (kl).toInt ≤ (i_4).toInt := z_le c_8
        refine lv_iconst (v := 0) hx hb dX4_findLater_23 (by decide) ?_
        refine lv_istore_n (lv' := [(1, .int 0), (0, .ref h0)]) hx hb dX4_findLater_24 rfl hl (by decide) rfl (fun ls hl => ?_)
        have loop_10 : ∀ (n_11 : Nat) (i_13 : Int32) (f_14 : Nat → Int32) (H : Heap) (locs : List Loc) (ls : Array Slot), (81 - (i_13).toInt).toNat < n_11 → (((0 : Int) ≤ (i_13).toInt ∧ (i_13).toInt ≤ (80 : Int))) → (k_me (k_Ei fhs fha fhb9 (k_c (kn).toInt fhk9) (i_13).toInt fhbd) (kl).toInt f_14) → va_P (dC, dI) vwCl [(h0, .inr (4, [.ref h1, .int kn, .int kl, .ref hk9, .ref hlt, h0_5, .ref hbd, h0_7, h0_8, h0_9])), (h1, .inr (0, [.ref hs, .ref ha, .ref hb9, h1_3, h1_4, h1_5])), (hk9, .inl (chk9, 80, .inl fhk9)), (hs, .inl (chs, 80, .inl fhs)), (ha, .inl (cha, 80, .inl fha)), (hb9, .inl (chb9, 80, .inl fhb9)), (hbd, .inl (chbd, 12, .inl fhbd)), (hlt, .inl (chlt, 12, .inl f_14))] H → va_D A [(h0, .inr (4, [.ref h1, .int kn, .int kl, .ref hk9, .ref hlt, h0_5, .ref hbd, h0_7, h0_8, h0_9])), (h1, .inr (0, [.ref hs, .ref ha, .ref hb9, h1_3, h1_4, h1_5])), (hk9, .inl (chk9, 80, .inl fhk9)), (hs, .inl (chs, 80, .inl fhs)), (ha, .inl (cha, 80, .inl fha)), (hb9, .inl (chb9, 80, .inl fhb9)), (hbd, .inl (chbd, 12, .inl fhbd)), (hlt, .inl (chlt, 12, .inl f_14))] → va_S A s.heap H locs → lv_has ls 3 [(1, .int i_13), (0, .ref h0)] → W p l e ({ frames := 1, cells := 0, slots := 0, locals := 22 } : Room) s m ([.ref h0] : List Value).toArray below meth c H locs 0 0 QQ (F0 m 25 ls []) := by
          intro n_11
          induction n_11 with
          | zero => intro i_13 f_14 H locs ls hm; exact absurd hm (Nat.not_lt_zero _)
          | succ n_11 ih_12 =>
            intro i_13 f_14 H locs ls hm hF_15 hF_16 hP hD hS hl
            refine lv_iload_n hx hb dX4_findLater_25 rfl (lv_at hl 0 rfl) ?_
            refine lv_aload_n hx hb dX4_findLater_26 rfl (lv_at hl 1 rfl) ?_
            refine va_get (D := (dC, dI)) (ci := 4) (v := .int kn) (C := RX4) (T := TX4) (N := 10) hx hb hts hiX4 hown hK hP 0 rfl rfl 1 (by decide) w__fieldLink_RX4_9_ShellHeap_Known_notesSeen_I_ (fun _ h9 => h9) rfl dX4_findLater_27 ?_
            refine lv_icmp_ge (tgt := 95) hx hb dX4_findLater_30 (by decide) (fun c_17 => ?_) (fun c_17 => ?_)
            · have k_18 : (kn).toInt ≤ (i_13).toInt := z_le c_17
              refine lv_iconst (v := 0) hx hb dX4_findLater_95 (by decide) ?_
              refine lv_istore_n (lv' := [(1, .int 0), (0, .ref h0)]) hx hb dX4_findLater_96 rfl hl (by decide) rfl (fun ls hl => ?_)
              have loop_19 : ∀ (n_20 : Nat) (i_22 : Int32) (f_23 : Nat → Int32) (H : Heap) (locs : List Loc) (ls : Array Slot), (13 - (i_22).toInt).toNat < n_20 → (((0 : Int) ≤ (i_22).toInt ∧ (i_22).toInt ≤ (12 : Int))) → (k_W (k_Ei fhs fha fhb9 (k_c (kn).toInt fhk9) (kn).toInt fhbd) (i_22).toInt (k_M (kl).toInt f_23)) → va_P (dC, dI) vwCl [(h0, .inr (4, [.ref h1, .int kn, .int kl, .ref hk9, .ref hlt, h0_5, .ref hbd, h0_7, h0_8, h0_9])), (h1, .inr (0, [.ref hs, .ref ha, .ref hb9, h1_3, h1_4, h1_5])), (hk9, .inl (chk9, 80, .inl fhk9)), (hs, .inl (chs, 80, .inl fhs)), (ha, .inl (cha, 80, .inl fha)), (hb9, .inl (chb9, 80, .inl fhb9)), (hbd, .inl (chbd, 12, .inl fhbd)), (hlt, .inl (chlt, 12, .inl f_23))] H → va_D A [(h0, .inr (4, [.ref h1, .int kn, .int kl, .ref hk9, .ref hlt, h0_5, .ref hbd, h0_7, h0_8, h0_9])), (h1, .inr (0, [.ref hs, .ref ha, .ref hb9, h1_3, h1_4, h1_5])), (hk9, .inl (chk9, 80, .inl fhk9)), (hs, .inl (chs, 80, .inl fhs)), (ha, .inl (cha, 80, .inl fha)), (hb9, .inl (chb9, 80, .inl fhb9)), (hbd, .inl (chbd, 12, .inl fhbd)), (hlt, .inl (chlt, 12, .inl f_23))] → va_S A s.heap H locs → lv_has ls 3 [(1, .int i_22), (0, .ref h0)] → W p l e ({ frames := 1, cells := 0, slots := 0, locals := 22 } : Room) s m ([.ref h0] : List Value).toArray below meth c H locs 0 0 QQ (F0 m 97 ls []) := by
                intro n_20
                induction n_20 with
                | zero => intro i_22 f_23 H locs ls hm; exact absurd hm (Nat.not_lt_zero _)
                | succ n_20 ih_21 =>
                  intro i_22 f_23 H locs ls hm hF_24 hF_25 hP hD hS hl
                  refine lv_iload_n hx hb dX4_findLater_97 rfl (lv_at hl 0 rfl) ?_
                  refine lv_aload_n hx hb dX4_findLater_98 rfl (lv_at hl 1 rfl) ?_
                  refine va_get (D := (dC, dI)) (ci := 4) (v := .int kl) (C := RX4) (T := TX4) (N := 10) hx hb hts hiX4 hown hK hP 0 rfl rfl 2 (by decide) w__fieldLink_RX4_15_ShellHeap_Known_layersSeen_I_ (fun _ h9 => h9) rfl dX4_findLater_99 ?_
                  refine lv_icmp_ge (tgt := 151) hx hb dX4_findLater_102 (by decide) (fun c_26 => ?_) (fun c_26 => ?_)
                  · have k_27 : (kl).toInt ≤ (i_22).toInt := z_le c_26
                    refine z_backQ hQQ ?_
                    have hP9 := hP
                    have hD9 := hD
                    have hK9 := hK.sub (tys' := []) [] rfl
                    refine W.widen (k := 0) (n := 0) (Nat.le_of_ble_eq_true rfl) (Nat.le_of_ble_eq_true rfl) ?_
                    exact W.vret hx hb hr (fun t ht hW => ⟨⟨(), rfl, trivial, ⟨f_23, (show k_LT fhs fha fhb9 fhk9 kn.toInt kl.toInt fhbd f_23 from k_LT_of hRG hBL hF_25 (by omega)), by rw [ht]; exact hP9, va_K.moved hW.alike hK9, hD9⟩⟩, hS.F ht⟩) hS.2.2 dX4_findLater_151
                  · have k_28 : (kl).toInt > (i_22).toInt := z_nle c_26
                    refine lv_iconst (v := 0) hx hb dX4_findLater_105 (by decide) ?_
                    refine lv_istore_n (lv' := [(2, .int 0), (1, .int i_22), (0, .ref h0)]) hx hb dX4_findLater_106 rfl hl (by decide) rfl (fun ls hl => ?_)
                    have loop_29 : ∀ (n_30 : Nat) (i_32 : Int32) (f_33 : Nat → Int32) (H : Heap) (locs : List Loc) (ls : Array Slot), (13 - (i_32).toInt).toNat < n_30 → (((0 : Int) ≤ (i_32).toInt ∧ (i_32).toInt ≤ (12 : Int))) → (k_wi (kl).toInt (i_22).toInt (i_32).toInt f_23 f_33) → va_P (dC, dI) vwCl [(h0, .inr (4, [.ref h1, .int kn, .int kl, .ref hk9, .ref hlt, h0_5, .ref hbd, h0_7, h0_8, h0_9])), (h1, .inr (0, [.ref hs, .ref ha, .ref hb9, h1_3, h1_4, h1_5])), (hk9, .inl (chk9, 80, .inl fhk9)), (hs, .inl (chs, 80, .inl fhs)), (ha, .inl (cha, 80, .inl fha)), (hb9, .inl (chb9, 80, .inl fhb9)), (hbd, .inl (chbd, 12, .inl fhbd)), (hlt, .inl (chlt, 12, .inl f_33))] H → va_D A [(h0, .inr (4, [.ref h1, .int kn, .int kl, .ref hk9, .ref hlt, h0_5, .ref hbd, h0_7, h0_8, h0_9])), (h1, .inr (0, [.ref hs, .ref ha, .ref hb9, h1_3, h1_4, h1_5])), (hk9, .inl (chk9, 80, .inl fhk9)), (hs, .inl (chs, 80, .inl fhs)), (ha, .inl (cha, 80, .inl fha)), (hb9, .inl (chb9, 80, .inl fhb9)), (hbd, .inl (chbd, 12, .inl fhbd)), (hlt, .inl (chlt, 12, .inl f_33))] → va_S A s.heap H locs → lv_has ls 3 [(2, .int i_32), (1, .int i_22), (0, .ref h0)] → W p l e ({ frames := 1, cells := 0, slots := 0, locals := 22 } : Room) s m ([.ref h0] : List Value).toArray below meth c H locs 0 0 QQ (F0 m 107 ls []) := by
                      intro n_30
                      induction n_30 with
                      | zero => intro i_32 f_33 H locs ls hm; exact absurd hm (Nat.not_lt_zero _)
                      | succ n_30 ih_31 =>
                        intro i_32 f_33 H locs ls hm hF_34 hF_35 hP hD hS hl
                        refine lv_iload_n hx hb dX4_findLater_107 rfl (lv_at hl 0 rfl) ?_
                        refine lv_aload_n hx hb dX4_findLater_108 rfl (lv_at hl 2 rfl) ?_
                        refine va_get (D := (dC, dI)) (ci := 4) (v := .int kl) (C := RX4) (T := TX4) (N := 10) hx hb hts hiX4 hown hK hP 0 rfl rfl 2 (by decide) w__fieldLink_RX4_15_ShellHeap_Known_layersSeen_I_ (fun _ h9 => h9) rfl dX4_findLater_109 ?_
                        refine lv_icmp_ge (tgt := 145) hx hb dX4_findLater_112 (by decide) (fun c_36 => ?_) (fun c_36 => ?_)
                        · have k_37 : (kl).toInt ≤ (i_32).toInt := z_le c_36
                          obtain ⟨z_38, ez_38⟩ : ∃ y : Int32, y = i_22 + 1 := ⟨_, rfl⟩
                          have kz_38 : (z_38).toInt = (i_22).toInt + (1 : Int) := by rw [ez_38]; exact z_add (b := 1) rfl rfl (z_al hF_24.1 (by decide)) (z_ah hF_24.2 (by decide))
                          refine lv_iinc (v := z_38) (lv' := [(1, .int z_38), (2, .int i_32), (0, .ref h0)]) hx hb dX4_findLater_145 hl (k := 1) rfl (by rw [ez_38]; rfl) (by decide) rfl (fun ls hl => ?_)
                          refine lv_goto (tgt := 97) hx hb dX4_findLater_148 (by decide) ?_
                          exact ih_21 z_38 f_33 _ _ _ (show (13 - (z_38).toInt).toNat < n_20 by omega) (show ((0 : Int) ≤ (z_38).toInt ∧ (z_38).toInt ≤ (12 : Int)) by omega) (show k_W (k_Ei fhs fha fhb9 (k_c (kn).toInt fhk9) (kn).toInt fhbd) (z_38).toInt (k_M (kl).toInt f_33) from k_wi_W hF_25 hF_35 (by omega) (by omega)) hP hD hS (lv_sub hl [0, 2] rfl)
                        · have k_39 : (kl).toInt > (i_32).toInt := z_nle c_36
                          refine lv_aload_n hx hb dX4_findLater_115 rfl (lv_at hl 2 rfl) ?_
                          refine lv_iload_n hx hb dX4_findLater_116 rfl (lv_at hl 0 rfl) ?_
                          refine lv_iload_n hx hb dX4_findLater_117 rfl (lv_at hl 1 rfl) ?_
                          obtain ⟨hPc, hDc⟩ := z_sub2 (ws' := [(h0, .inr (4, [.ref h1, .int kn, .int kl, .ref hk9, .ref hlt, h0_5, .ref hbd, h0_7, h0_8, h0_9])), (hlt, .inl (chlt, 12, .inl f_33))]) hP hD [0, 7] (by decide) rfl
                          have hKc := hK.sub (tys' := [(chlt, .int)]) [5] rfl
                          have hFc := va_free (ws := []) (wc := []) (z_D0 _) hS hA [] rfl
                          refine va_calli (va_runV (As := [.int i_32, .int i_22]) (rest := []) ⟨hx, hb, hml, hown, hts⟩ (s_X4_isLaterK l dC dI H.size h0 i_32 i_22 (.ref h1) (.int kn) (.int kl) (.ref hk9) hlt h0_5 (.ref hbd) h0_7 h0_8 h0_9 chlt f_33 (by first | omega | decide)) (cwV 2 hts gw_s_X4_findLaterK_s_X4_isLaterK_95 rfl rfl rfl (by decide +kernel) ⟨Nat.le_of_ble_eq_true rfl, Nat.le_of_ble_eq_true rfl⟩) ⟨z_blind, va_recv hKc hPc (ci := 4) (q0 := 0) rfl rfl, z_pre hPc hKc hDc⟩ rfl rfl hl.1 rfl (lv_room (Nat.le_of_ble_eq_true rfl)) dX4_findLater_118 ⟨Nat.le_of_ble_eq_true rfl, Nat.le_of_ble_eq_true rfl⟩) hS (fun q _ h => hFc q h) hFc (fun r_41 u t H_40 locs ht hvm hw_42 hB hz1 hk1 hS => ?_)
                          replace hP := z_pure hP hk1
                          clear hPc hDc hKc
                          rcases hw_42 with ⟨rfl, hw_42⟩ | ⟨rfl, hw_42⟩
                          · have hw_42 : k_bt (f_33 i_32.toNatClampNeg) i_22.toInt := hw_42
                            refine lv_if_eq (tgt := 139) hx hb dX4_findLater_121 (by decide) (fun c_43 => absurd c_43 (by decide)) (fun _ => ?_)
                            refine lv_aload_n hx hb dX4_findLater_124 rfl (lv_at hl 2 rfl) ?_
                            refine va_get (D := (dC, dI)) (ci := 4) (v := .ref hlt) (C := RX4) (T := TX4) (N := 10) hx hb hts hiX4 hown hK hP 0 rfl rfl 4 (by decide) w__fieldLink_RX4_22_ShellHeap_Known_later_I_ (fun _ h9 => h9) rfl dX4_findLater_125 ?_
                            refine lv_iload_n hx hb dX4_findLater_128 rfl (lv_at hl 0 rfl) ?_
                            refine lv_dup2_11 hx hb dX4_findLater_129 rfl rfl ?_
                            refine va_iald hx hb hK hP 7 5 rfl rfl (z_vpin (by omega) (by omega)) dX4_findLater_130 ?_
                            refine lv_topi (fun z_44 ez_44 => ?_)
                            refine lv_aload_n hx hb dX4_findLater_131 rfl (lv_at hl 2 rfl) ?_
                            refine va_get (D := (dC, dI)) (ci := 4) (v := .ref hlt) (C := RX4) (T := TX4) (N := 10) hx hb hts hiX4 hown hK hP 0 rfl rfl 4 (by decide) w__fieldLink_RX4_22_ShellHeap_Known_later_I_ (fun _ h9 => h9) rfl dX4_findLater_132 ?_
                            refine lv_iload_n hx hb dX4_findLater_135 rfl (lv_at hl 1 rfl) ?_
                            refine va_iald hx hb hK hP 7 5 rfl rfl (z_vpin (by omega) (by omega)) dX4_findLater_136 ?_
                            refine lv_topi (fun z_45 ez_45 => ?_)
                            refine lv_ior hx hb dX4_findLater_137 ?_
                            refine lv_topi (fun z_46 ez_46 => ?_)
                            refine va_iast hx hb hK hP hD hS 7 5 rfl rfl (z_vpin (by omega) (by omega)) dX4_findLater_138 (fun H_47 locs hP hD hS => ?_)
                            obtain ⟨hP, hD⟩ := z_s_7 hP hD
                            obtain ⟨z_49, ez_49⟩ : ∃ y : Int32, y = i_32 + 1 := ⟨_, rfl⟩
                            have kz_49 : (z_49).toInt = (i_32).toInt + (1 : Int) := by rw [ez_49]; exact z_add (b := 1) rfl rfl (z_al hF_34.1 (by decide)) (z_ah hF_34.2 (by decide))
                            refine lv_iinc (v := z_49) (lv' := [(2, .int z_49), (1, .int i_22), (0, .ref h0)]) hx hb dX4_findLater_139 hl (k := 0) rfl (by rw [ez_49]; rfl) (by decide) rfl (fun ls hl => ?_)
                            refine lv_goto (tgt := 107) hx hb dX4_findLater_142 (by decide) ?_
                            exact ih_31 z_49 (upd f_33 (i_32 : Int32).toNatClampNeg z_46) _ _ _ (show (13 - (z_49).toInt).toNat < n_30 by omega) (show ((0 : Int) ≤ (z_49).toInt ∧ (z_49).toInt ≤ (12 : Int)) by omega) (show k_wi (kl).toInt (i_22).toInt (z_49).toInt f_23 (upd f_33 (i_32 : Int32).toNatClampNeg z_46) from k_wi_y (i := i_32) (oo := i_22) (w := z_46) hF_35 rfl ⟨by omega, by omega⟩ ⟨by omega, by omega⟩ (by omega) (by omega) ((k_Mi ⟨by omega, by omega⟩ ⟨by omega, by omega⟩).mpr hw_42) (by rw [ez_46, ez_44, ez_45])) hP hD hS (lv_sub hl [0, 1, 2] rfl)
                          · have hw_42 : ¬ k_bt (f_33 i_32.toNatClampNeg) i_22.toInt := hw_42
                            refine lv_if_eq (tgt := 139) hx hb dX4_findLater_121 (by decide) (fun _ => ?_) (fun c_50 => absurd (by decide) c_50)
                            obtain ⟨z_51, ez_51⟩ : ∃ y : Int32, y = i_32 + 1 := ⟨_, rfl⟩
                            have kz_51 : (z_51).toInt = (i_32).toInt + (1 : Int) := by rw [ez_51]; exact z_add (b := 1) rfl rfl (z_al hF_34.1 (by decide)) (z_ah hF_34.2 (by decide))
                            refine lv_iinc (v := z_51) (lv' := [(2, .int z_51), (1, .int i_22), (0, .ref h0)]) hx hb dX4_findLater_139 hl (k := 0) rfl (by rw [ez_51]; rfl) (by decide) rfl (fun ls hl => ?_)
                            refine lv_goto (tgt := 107) hx hb dX4_findLater_142 (by decide) ?_
                            exact ih_31 z_51 f_33 _ _ _ (show (13 - (z_51).toInt).toNat < n_30 by omega) (show ((0 : Int) ≤ (z_51).toInt ∧ (z_51).toInt ≤ (12 : Int)) by omega) (show k_wi (kl).toInt (i_22).toInt (z_51).toInt f_23 f_33 from k_wi_n (i := i_32) hF_35 (by omega) (fun h9 => hw_42 h9.2.2.2.2)) hP hD hS (lv_sub hl [0, 1, 2] rfl)
                    exact loop_29 _ 0 f_23 _ _ _ (Nat.lt_succ_self _) (show ((0 : Int) ≤ (0 : Int) ∧ (0 : Int) ≤ (12 : Int)) by omega) (show k_wi (kl).toInt (i_22).toInt (0 : Int) f_23 f_23 from k_wi_0) hP hD hS hl
              exact loop_19 _ 0 f_14 _ _ _ (Nat.lt_succ_self _) (show ((0 : Int) ≤ (0 : Int) ∧ (0 : Int) ≤ (12 : Int)) by omega) (show k_W (k_Ei fhs fha fhb9 (k_c (kn).toInt fhk9) (kn).toInt fhbd) (0 : Int) (k_M (kl).toInt f_14) from k_me_W (k_me_c hF_16 (by omega))) hP hD hS hl
            · have k_52 : (kn).toInt > (i_13).toInt := z_nle c_17
              refine lv_aload_n hx hb dX4_findLater_33 rfl (lv_at hl 1 rfl) ?_
              refine lv_iload_n hx hb dX4_findLater_34 rfl (lv_at hl 0 rfl) ?_
              refine lv_iconst (v := 0) hx hb dX4_findLater_35 (by decide) ?_
              obtain ⟨hPc, hDc⟩ := z_sub2 (ws' := [(h0, .inr (4, [.ref h1, .int kn, .int kl, .ref hk9, .ref hlt, h0_5, .ref hbd, h0_7, h0_8, h0_9])), (h1, .inr (0, [.ref hs, .ref ha, .ref hb9, h1_3, h1_4, h1_5])), (hk9, .inl (chk9, 80, .inl fhk9)), (hs, .inl (chs, 80, .inl fhs))]) hP hD [0, 1, 2, 3] (by decide) rfl
              have hKc := hK.sub (tys' := [(chk9, .boolean), (chs, .int)]) [0, 1] rfl
              have hFc := va_free (ws := []) (wc := []) (z_D0 _) hS hA [] rfl
              refine va_calli (va_runV (As := [.int i_13, .int 0]) (rest := []) ⟨hx, hb, hml, hown, hts⟩ (s_X4_countsK l dC dI H.size h0 i_13 0 h1 kn (.int kl) hk9 (.ref hlt) h0_5 (.ref hbd) h0_7 h0_8 h0_9 hs (.ref ha) (.ref hb9) h1_3 h1_4 h1_5 chk9 fhk9 chs fhs hB_kn (by first | omega | decide)) (cwV 2 hts gw_s_X4_findLaterK_s_X4_countsK_72 rfl rfl rfl (by decide +kernel) ⟨Nat.le_of_ble_eq_true rfl, Nat.le_of_ble_eq_true rfl⟩) ⟨z_blind, va_recv hKc hPc (ci := 4) (q0 := 0) rfl rfl, z_pre hPc hKc hDc⟩ rfl rfl hl.1 rfl (lv_room (Nat.le_of_ble_eq_true rfl)) dX4_findLater_36 ⟨Nat.le_of_ble_eq_true rfl, Nat.le_of_ble_eq_true rfl⟩) hS (fun q _ h => hFc q h) hFc (fun r_54 u t H_53 locs ht hvm hw_55 hB hz1 hk1 hS => ?_)
              replace hP := z_pure hP hk1
              clear hPc hDc hKc
              rcases hw_55 with ⟨rfl, hw_55⟩ | ⟨rfl, hw_55⟩
              · have hw_55 : (i_13.toInt < kn.toInt ∧ (fhk9 i_13.toNatClampNeg).toInt = 0 ∧ (fhs i_13.toNatClampNeg).toInt = (0 : Int)) := hw_55
                refine lv_if_ne (tgt := 51) hx hb dX4_findLater_39 (by decide) (fun _ => ?_) (fun c_56 => absurd c_56 (by decide))
                refine lv_aload_n hx hb dX4_findLater_51 rfl (lv_at hl 1 rfl) ?_
                refine va_get (D := (dC, dI)) (ci := 4) (v := .ref hlt) (C := RX4) (T := TX4) (N := 10) hx hb hts hiX4 hown hK hP 0 rfl rfl 4 (by decide) w__fieldLink_RX4_22_ShellHeap_Known_later_I_ (fun _ h9 => h9) rfl dX4_findLater_52 ?_
                refine lv_aload_n hx hb dX4_findLater_55 rfl (lv_at hl 1 rfl) ?_
                refine va_get (D := (dC, dI)) (ci := 4) (v := .ref hbd) (C := RX4) (T := TX4) (N := 10) hx hb hts hiX4 hown hK hP 0 rfl rfl 6 (by decide) w__fieldLink_RX4_29_ShellHeap_Known_bedOf_I_ (fun _ h9 => h9) rfl dX4_findLater_56 ?_
                refine lv_aload_n hx hb dX4_findLater_59 rfl (lv_at hl 1 rfl) ?_
                refine va_get (D := (dC, dI)) (ci := 4) (v := .ref h1) (C := RX4) (T := TX4) (N := 10) hx hb hts hiX4 hown hK hP 0 rfl rfl 0 (by decide) w__fieldLink_RX4_41_ShellHeap_Known_book_LShellHeap_Book_ (fun _ h9 => h9) rfl dX4_findLater_60 ?_
                refine va_get (D := (dC, dI)) (ci := 0) (v := .ref ha) (C := RX0) (T := TX0) (N := 6) hx hb hts hiX0 hown hK hP 1 rfl rfl 1 (by decide) w__fieldLink_RX4_76_ShellHeap_Book_a_I_ (fun _ h9 => h9) rfl dX4_findLater_63 ?_
                refine lv_iload_n hx hb dX4_findLater_66 rfl (lv_at hl 0 rfl) ?_
                refine va_iald hx hb hK hP 4 2 rfl rfl (z_vpin (by omega) (by omega)) dX4_findLater_67 ?_
                refine lv_topi (fun z_57 ez_57 => ?_)
                have kz_57 : ((0 : Int) ≤ (z_57).toInt ∧ (z_57).toInt ≤ (79 : Int)) := by rw [ez_57]; exact hI_ha _
                have kxz_57 : (z_57).toInt = (fha (i_13 : Int32).toNatClampNeg).toInt := by rw [ez_57]
                have krz_57 := k_r3_a hRG (by omega) (by omega) (by omega) ez_57
                refine va_iald hx hb hK hP 6 4 rfl rfl (z_vpin (by omega) (by omega)) dX4_findLater_68 ?_
                refine lv_topi (fun z_58 ez_58 => ?_)
                have kz_58 : ((0 : Int) ≤ (z_58).toInt ∧ (z_58).toInt ≤ (11 : Int)) := by rw [ez_58]; exact hI_hbd _
                have kxz_58 : (z_58).toInt = (fhbd (z_57 : Int32).toNatClampNeg).toInt := by rw [ez_58]
                have ke_59 : z_58 = fhbd (fha (i_13 : Int32).toNatClampNeg).toNatClampNeg := by rw [← ez_57]; exact ez_58
                have kbz_58 := k_bl_a hBL krz_57 ez_58
                refine lv_dup2_11 hx hb dX4_findLater_69 rfl rfl ?_
                refine va_iald hx hb hK hP 7 5 rfl rfl (z_vpinB kz_58 (by decide) (by decide)) dX4_findLater_70 ?_
                refine lv_topi (fun z_60 ez_60 => ?_)
                have kxz_60 : (z_60).toInt = (f_14 (z_58 : Int32).toNatClampNeg).toInt := by rw [ez_60]
                refine lv_iconst (v := 1) hx hb dX4_findLater_71 (by decide) ?_
                refine lv_aload_n hx hb dX4_findLater_72 rfl (lv_at hl 1 rfl) ?_
                refine va_get (D := (dC, dI)) (ci := 4) (v := .ref hbd) (C := RX4) (T := TX4) (N := 10) hx hb hts hiX4 hown hK hP 0 rfl rfl 6 (by decide) w__fieldLink_RX4_29_ShellHeap_Known_bedOf_I_ (fun _ h9 => h9) rfl dX4_findLater_73 ?_
                refine lv_aload_n hx hb dX4_findLater_76 rfl (lv_at hl 1 rfl) ?_
                refine va_get (D := (dC, dI)) (ci := 4) (v := .ref h1) (C := RX4) (T := TX4) (N := 10) hx hb hts hiX4 hown hK hP 0 rfl rfl 0 (by decide) w__fieldLink_RX4_41_ShellHeap_Known_book_LShellHeap_Book_ (fun _ h9 => h9) rfl dX4_findLater_77 ?_
                refine va_get (D := (dC, dI)) (ci := 0) (v := .ref hb9) (C := RX0) (T := TX0) (N := 6) hx hb hts hiX0 hown hK hP 1 rfl rfl 2 (by decide) w__fieldLink_RX4_79_ShellHeap_Book_b_I_ (fun _ h9 => h9) rfl dX4_findLater_80 ?_
                refine lv_iload_n hx hb dX4_findLater_83 rfl (lv_at hl 0 rfl) ?_
                refine va_iald hx hb hK hP 5 3 rfl rfl (z_vpin (by omega) (by omega)) dX4_findLater_84 ?_
                refine lv_topi (fun z_61 ez_61 => ?_)
                have kxz_61 : (z_61).toInt = (fhb9 (i_13 : Int32).toNatClampNeg).toInt := by rw [ez_61]
                have krz_61 := k_r3_b hRG (by omega) (by omega) (by omega) ez_61
                refine va_iald hx hb hK hP 6 4 rfl rfl (z_vpin (by omega) (by omega)) dX4_findLater_85 ?_
                refine lv_topi (fun z_62 ez_62 => ?_)
                have kz_62 : ((0 : Int) ≤ (z_62).toInt ∧ (z_62).toInt ≤ (11 : Int)) := by rw [ez_62]; exact hI_hbd _
                have kxz_62 : (z_62).toInt = (fhbd (z_61 : Int32).toNatClampNeg).toInt := by rw [ez_62]
                have ke_63 : z_62 = fhbd (fhb9 (i_13 : Int32).toNatClampNeg).toNatClampNeg := by rw [← ez_61]; exact ez_62
                have kbz_62 := k_bl_a hBL krz_61 ez_62
                refine lv_ishl hx hb dX4_findLater_86 ?_
                refine lv_topi (fun z_64 ez_64 => ?_)
                refine lv_ior hx hb dX4_findLater_87 ?_
                refine lv_topi (fun z_65 ez_65 => ?_)
                refine va_iast hx hb hK hP hD hS 7 5 rfl rfl (z_vpinB kz_58 (by decide) (by decide)) dX4_findLater_88 (fun H_66 locs hP hD hS => ?_)
                obtain ⟨hP, hD⟩ := z_s_7 hP hD
                obtain ⟨z_68, ez_68⟩ : ∃ y : Int32, y = i_13 + 1 := ⟨_, rfl⟩
                have kz_68 : (z_68).toInt = (i_13).toInt + (1 : Int) := by rw [ez_68]; exact z_add (b := 1) rfl rfl (z_al hF_15.1 (by decide)) (z_ah hF_15.2 (by decide))
                refine lv_iinc (v := z_68) (lv' := [(1, .int z_68), (0, .ref h0)]) hx hb dX4_findLater_89 hl (k := 0) rfl (by rw [ez_68]; rfl) (by decide) rfl (fun ls hl => ?_)
                refine lv_goto (tgt := 25) hx hb dX4_findLater_92 (by decide) ?_
                exact ih_12 z_68 (upd f_14 (z_58 : Int32).toNatClampNeg z_65) _ _ _ (show (81 - (z_68).toInt).toNat < n_11 by omega) (show ((0 : Int) ≤ (z_68).toInt ∧ (z_68).toInt ≤ (80 : Int)) by omega) (show k_me (k_Ei fhs fha fhb9 (k_c (kn).toInt fhk9) (z_68).toInt fhbd) (kl).toInt (upd f_14 (z_58 : Int32).toNatClampNeg z_65) from k_me_y (i := i_13) (u := z_58) (v := z_62) (w := z_65) hF_16 (by omega) (by omega) ⟨by rw [k_cn (by omega)]; omega, hw_55.2.1⟩ (Or.inl hw_55.2.2) ke_59 ke_63 kbz_58 kbz_62 (by omega) (by rw [ez_65, ez_60, ez_64])) hP hD hS (lv_sub hl [0, 1] rfl)
              · have hw_55 : ¬ (i_13.toInt < kn.toInt ∧ (fhk9 i_13.toNatClampNeg).toInt = 0 ∧ (fhs i_13.toNatClampNeg).toInt = (0 : Int)) := hw_55
                refine lv_if_ne (tgt := 51) hx hb dX4_findLater_39 (by decide) (fun c_69 => absurd c_69 (by decide)) (fun _ => ?_)
                refine lv_aload_n hx hb dX4_findLater_42 rfl (lv_at hl 1 rfl) ?_
                refine lv_iload_n hx hb dX4_findLater_43 rfl (lv_at hl 0 rfl) ?_
                refine lv_iconst (v := 1) hx hb dX4_findLater_44 (by decide) ?_
                obtain ⟨hPc, hDc⟩ := z_sub2 (ws' := [(h0, .inr (4, [.ref h1, .int kn, .int kl, .ref hk9, .ref hlt, h0_5, .ref hbd, h0_7, h0_8, h0_9])), (h1, .inr (0, [.ref hs, .ref ha, .ref hb9, h1_3, h1_4, h1_5])), (hk9, .inl (chk9, 80, .inl fhk9)), (hs, .inl (chs, 80, .inl fhs))]) hP hD [0, 1, 2, 3] (by decide) rfl
                have hKc := hK.sub (tys' := [(chk9, .boolean), (chs, .int)]) [0, 1] rfl
                have hFc := va_free (ws := []) (wc := []) (z_D0 _) hS hA [] rfl
                refine va_calli (va_runV (As := [.int i_13, .int 1]) (rest := []) ⟨hx, hb, hml, hown, hts⟩ (s_X4_countsK l dC dI H_53.size h0 i_13 1 h1 kn (.int kl) hk9 (.ref hlt) h0_5 (.ref hbd) h0_7 h0_8 h0_9 hs (.ref ha) (.ref hb9) h1_3 h1_4 h1_5 chk9 fhk9 chs fhs hB_kn (by first | omega | decide)) (cwV 2 hts gw_s_X4_findLaterK_s_X4_countsK_72 rfl rfl rfl (by decide +kernel) ⟨Nat.le_of_ble_eq_true rfl, Nat.le_of_ble_eq_true rfl⟩) ⟨z_blind, va_recv hKc hPc (ci := 4) (q0 := 0) rfl rfl, z_pre hPc hKc hDc⟩ rfl rfl hl.1 rfl (lv_room (Nat.le_of_ble_eq_true rfl)) dX4_findLater_45 ⟨Nat.le_of_ble_eq_true rfl, Nat.le_of_ble_eq_true rfl⟩) hS (fun q _ h => hFc q h) hFc (fun r_71 u t H_70 locs ht hvm hw_72 hB hz1 hk1 hS => ?_)
                replace hP := z_pure hP hk1
                clear hPc hDc hKc
                rcases hw_72 with ⟨rfl, hw_72⟩ | ⟨rfl, hw_72⟩
                · have hw_72 : (i_13.toInt < kn.toInt ∧ (fhk9 i_13.toNatClampNeg).toInt = 0 ∧ (fhs i_13.toNatClampNeg).toInt = (1 : Int)) := hw_72
                  refine lv_if_eq (tgt := 89) hx hb dX4_findLater_48 (by decide) (fun c_73 => absurd c_73 (by decide)) (fun _ => ?_)
                  refine lv_aload_n hx hb dX4_findLater_51 rfl (lv_at hl 1 rfl) ?_
                  refine va_get (D := (dC, dI)) (ci := 4) (v := .ref hlt) (C := RX4) (T := TX4) (N := 10) hx hb hts hiX4 hown hK hP 0 rfl rfl 4 (by decide) w__fieldLink_RX4_22_ShellHeap_Known_later_I_ (fun _ h9 => h9) rfl dX4_findLater_52 ?_
                  refine lv_aload_n hx hb dX4_findLater_55 rfl (lv_at hl 1 rfl) ?_
                  refine va_get (D := (dC, dI)) (ci := 4) (v := .ref hbd) (C := RX4) (T := TX4) (N := 10) hx hb hts hiX4 hown hK hP 0 rfl rfl 6 (by decide) w__fieldLink_RX4_29_ShellHeap_Known_bedOf_I_ (fun _ h9 => h9) rfl dX4_findLater_56 ?_
                  refine lv_aload_n hx hb dX4_findLater_59 rfl (lv_at hl 1 rfl) ?_
                  refine va_get (D := (dC, dI)) (ci := 4) (v := .ref h1) (C := RX4) (T := TX4) (N := 10) hx hb hts hiX4 hown hK hP 0 rfl rfl 0 (by decide) w__fieldLink_RX4_41_ShellHeap_Known_book_LShellHeap_Book_ (fun _ h9 => h9) rfl dX4_findLater_60 ?_
                  refine va_get (D := (dC, dI)) (ci := 0) (v := .ref ha) (C := RX0) (T := TX0) (N := 6) hx hb hts hiX0 hown hK hP 1 rfl rfl 1 (by decide) w__fieldLink_RX4_76_ShellHeap_Book_a_I_ (fun _ h9 => h9) rfl dX4_findLater_63 ?_
                  refine lv_iload_n hx hb dX4_findLater_66 rfl (lv_at hl 0 rfl) ?_
                  refine va_iald hx hb hK hP 4 2 rfl rfl (z_vpin (by omega) (by omega)) dX4_findLater_67 ?_
                  refine lv_topi (fun z_74 ez_74 => ?_)
                  have kz_74 : ((0 : Int) ≤ (z_74).toInt ∧ (z_74).toInt ≤ (79 : Int)) := by rw [ez_74]; exact hI_ha _
                  have kxz_74 : (z_74).toInt = (fha (i_13 : Int32).toNatClampNeg).toInt := by rw [ez_74]
                  have krz_74 := k_r3_a hRG (by omega) (by omega) (by omega) ez_74
                  refine va_iald hx hb hK hP 6 4 rfl rfl (z_vpin (by omega) (by omega)) dX4_findLater_68 ?_
                  refine lv_topi (fun z_75 ez_75 => ?_)
                  have kz_75 : ((0 : Int) ≤ (z_75).toInt ∧ (z_75).toInt ≤ (11 : Int)) := by rw [ez_75]; exact hI_hbd _
                  have kxz_75 : (z_75).toInt = (fhbd (z_74 : Int32).toNatClampNeg).toInt := by rw [ez_75]
                  have ke_76 : z_75 = fhbd (fha (i_13 : Int32).toNatClampNeg).toNatClampNeg := by rw [← ez_74]; exact ez_75
                  have kbz_75 := k_bl_a hBL krz_74 ez_75
                  refine lv_dup2_11 hx hb dX4_findLater_69 rfl rfl ?_
                  refine va_iald hx hb hK hP 7 5 rfl rfl (z_vpinB kz_75 (by decide) (by decide)) dX4_findLater_70 ?_
                  refine lv_topi (fun z_77 ez_77 => ?_)
                  have kxz_77 : (z_77).toInt = (f_14 (z_75 : Int32).toNatClampNeg).toInt := by rw [ez_77]
                  refine lv_iconst (v := 1) hx hb dX4_findLater_71 (by decide) ?_
                  refine lv_aload_n hx hb dX4_findLater_72 rfl (lv_at hl 1 rfl) ?_
                  refine va_get (D := (dC, dI)) (ci := 4) (v := .ref hbd) (C := RX4) (T := TX4) (N := 10) hx hb hts hiX4 hown hK hP 0 rfl rfl 6 (by decide) w__fieldLink_RX4_29_ShellHeap_Known_bedOf_I_ (fun _ h9 => h9) rfl dX4_findLater_73 ?_
                  refine lv_aload_n hx hb dX4_findLater_76 rfl (lv_at hl 1 rfl) ?_
                  refine va_get (D := (dC, dI)) (ci := 4) (v := .ref h1) (C := RX4) (T := TX4) (N := 10) hx hb hts hiX4 hown hK hP 0 rfl rfl 0 (by decide) w__fieldLink_RX4_41_ShellHeap_Known_book_LShellHeap_Book_ (fun _ h9 => h9) rfl dX4_findLater_77 ?_
                  refine va_get (D := (dC, dI)) (ci := 0) (v := .ref hb9) (C := RX0) (T := TX0) (N := 6) hx hb hts hiX0 hown hK hP 1 rfl rfl 2 (by decide) w__fieldLink_RX4_79_ShellHeap_Book_b_I_ (fun _ h9 => h9) rfl dX4_findLater_80 ?_
                  refine lv_iload_n hx hb dX4_findLater_83 rfl (lv_at hl 0 rfl) ?_
                  refine va_iald hx hb hK hP 5 3 rfl rfl (z_vpin (by omega) (by omega)) dX4_findLater_84 ?_
                  refine lv_topi (fun z_78 ez_78 => ?_)
                  have kxz_78 : (z_78).toInt = (fhb9 (i_13 : Int32).toNatClampNeg).toInt := by rw [ez_78]
                  have krz_78 := k_r3_b hRG (by omega) (by omega) (by omega) ez_78
                  refine va_iald hx hb hK hP 6 4 rfl rfl (z_vpin (by omega) (by omega)) dX4_findLater_85 ?_
                  refine lv_topi (fun z_79 ez_79 => ?_)
                  have kz_79 : ((0 : Int) ≤ (z_79).toInt ∧ (z_79).toInt ≤ (11 : Int)) := by rw [ez_79]; exact hI_hbd _
                  have kxz_79 : (z_79).toInt = (fhbd (z_78 : Int32).toNatClampNeg).toInt := by rw [ez_79]
                  have ke_80 : z_79 = fhbd (fhb9 (i_13 : Int32).toNatClampNeg).toNatClampNeg := by rw [← ez_78]; exact ez_79
                  have kbz_79 := k_bl_a hBL krz_78 ez_79
                  refine lv_ishl hx hb dX4_findLater_86 ?_
                  refine lv_topi (fun z_81 ez_81 => ?_)
                  refine lv_ior hx hb dX4_findLater_87 ?_
                  refine lv_topi (fun z_82 ez_82 => ?_)
                  refine va_iast hx hb hK hP hD hS 7 5 rfl rfl (z_vpinB kz_75 (by decide) (by decide)) dX4_findLater_88 (fun H_83 locs hP hD hS => ?_)
                  obtain ⟨hP, hD⟩ := z_s_7 hP hD
                  obtain ⟨z_85, ez_85⟩ : ∃ y : Int32, y = i_13 + 1 := ⟨_, rfl⟩
                  have kz_85 : (z_85).toInt = (i_13).toInt + (1 : Int) := by rw [ez_85]; exact z_add (b := 1) rfl rfl (z_al hF_15.1 (by decide)) (z_ah hF_15.2 (by decide))
                  refine lv_iinc (v := z_85) (lv' := [(1, .int z_85), (0, .ref h0)]) hx hb dX4_findLater_89 hl (k := 0) rfl (by rw [ez_85]; rfl) (by decide) rfl (fun ls hl => ?_)
                  refine lv_goto (tgt := 25) hx hb dX4_findLater_92 (by decide) ?_
                  exact ih_12 z_85 (upd f_14 (z_75 : Int32).toNatClampNeg z_82) _ _ _ (show (81 - (z_85).toInt).toNat < n_11 by omega) (show ((0 : Int) ≤ (z_85).toInt ∧ (z_85).toInt ≤ (80 : Int)) by omega) (show k_me (k_Ei fhs fha fhb9 (k_c (kn).toInt fhk9) (z_85).toInt fhbd) (kl).toInt (upd f_14 (z_75 : Int32).toNatClampNeg z_82) from k_me_y (i := i_13) (u := z_75) (v := z_79) (w := z_82) hF_16 (by omega) (by omega) ⟨by rw [k_cn (by omega)]; omega, hw_72.2.1⟩ (Or.inr hw_72.2.2) ke_76 ke_80 kbz_75 kbz_79 (by omega) (by rw [ez_82, ez_77, ez_81])) hP hD hS (lv_sub hl [0, 1] rfl)
                · have hw_72 : ¬ (i_13.toInt < kn.toInt ∧ (fhk9 i_13.toNatClampNeg).toInt = 0 ∧ (fhs i_13.toNatClampNeg).toInt = (1 : Int)) := hw_72
                  refine lv_if_eq (tgt := 89) hx hb dX4_findLater_48 (by decide) (fun _ => ?_) (fun c_86 => absurd (by decide) c_86)
                  obtain ⟨z_87, ez_87⟩ : ∃ y : Int32, y = i_13 + 1 := ⟨_, rfl⟩
                  have kz_87 : (z_87).toInt = (i_13).toInt + (1 : Int) := by rw [ez_87]; exact z_add (b := 1) rfl rfl (z_al hF_15.1 (by decide)) (z_ah hF_15.2 (by decide))
                  refine lv_iinc (v := z_87) (lv' := [(1, .int z_87), (0, .ref h0)]) hx hb dX4_findLater_89 hl (k := 0) rfl (by rw [ez_87]; rfl) (by decide) rfl (fun ls hl => ?_)
                  refine lv_goto (tgt := 25) hx hb dX4_findLater_92 (by decide) ?_
                  exact ih_12 z_87 f_14 _ _ _ (show (81 - (z_87).toInt).toNat < n_11 by omega) (show ((0 : Int) ≤ (z_87).toInt ∧ (z_87).toInt ≤ (80 : Int)) by omega) (show k_me (k_Ei fhs fha fhb9 (k_c (kn).toInt fhk9) (z_87).toInt fhbd) (kl).toInt f_14 from k_me_n (i := i_13) hF_16 (by omega) (by omega) (fun h9 => h9.2.elim (fun q => hw_55 ⟨by omega, h9.1.2, q⟩) (fun q => hw_72 ⟨by omega, h9.1.2, q⟩))) hP hD hS (lv_sub hl [0, 1] rfl)
        exact loop_10 _ 0 f_5 _ _ _ (Nat.lt_succ_self _) (show ((0 : Int) ≤ (0 : Int) ∧ (0 : Int) ≤ (80 : Int)) by omega) (show k_me (k_Ei fhs fha fhb9 (k_c (kn).toInt fhk9) (0 : Int) fhbd) (kl).toInt f_5 from k_me_0 hF_7 (by omega) (by omega)) hP hD hS hl
      · have k_88 : (kl).toInt > (i_4).toInt := z_nle c_8
        refine lv_aload_n hx hb dX4_findLater_10 rfl (lv_at hl 1 rfl) ?_
        refine va_get (D := (dC, dI)) (ci := 4) (v := .ref hlt) (C := RX4) (T := TX4) (N := 10) hx hb hts hiX4 hown hK hP 0 rfl rfl 4 (by decide) w__fieldLink_RX4_22_ShellHeap_Known_later_I_ (fun _ h9 => h9) rfl dX4_findLater_11 ?_
        refine lv_iload_n hx hb dX4_findLater_14 rfl (lv_at hl 0 rfl) ?_
        refine lv_iconst (v := 0) hx hb dX4_findLater_15 (by decide) ?_
        refine va_iast hx hb hK hP hD hS 7 5 rfl rfl (z_vpin (by omega) (by omega)) dX4_findLater_16 (fun H_89 locs hP hD hS => ?_)
        obtain ⟨hP, hD⟩ := z_s_7 hP hD
        obtain ⟨z_91, ez_91⟩ : ∃ y : Int32, y = i_4 + 1 := ⟨_, rfl⟩
        have kz_91 : (z_91).toInt = (i_4).toInt + (1 : Int) := by rw [ez_91]; exact z_add (b := 1) rfl rfl (z_al hF_6.1 (by decide)) (z_ah hF_6.2 (by decide))
        refine lv_iinc (v := z_91) (lv' := [(1, .int z_91), (0, .ref h0)]) hx hb dX4_findLater_17 hl (k := 0) rfl (by rw [ez_91]; rfl) (by decide) rfl (fun ls hl => ?_)
        refine lv_goto (tgt := 2) hx hb dX4_findLater_20 (by decide) ?_
        exact ih_3 z_91 (upd f_5 (i_4 : Int32).toNatClampNeg 0) _ _ _ (show (13 - (z_91).toInt).toNat < n_2 by omega) (show ((0 : Int) ≤ (z_91).toInt ∧ (z_91).toInt ≤ (12 : Int)) by omega) (show k_z (z_91).toInt (upd f_5 (i_4 : Int32).toNatClampNeg 0) from k_z_s (i := i_4) hF_7 (by omega) (by decide) (by omega)) hP hD hS (lv_sub hl [0, 1] rfl)
  exact loop_1 _ 0 fhlt _ _ _ (Nat.lt_succ_self _) (show ((0 : Int) ≤ (0 : Int) ∧ (0 : Int) ≤ (12 : Int)) by omega) (show k_z (0 : Int) fhlt from k_z_0 (by decide)) hP hD hS hl
def u_s_X4_hasRingK : List Cond := .code yX4_hasRing cX4_hasRing 2 (some .boolean) :: ([.fieldLink RX4 15 "ShellHeap$Known" "layersSeen" "I", .methodLink RX4 95 yX4_isLater, .instanceMethod yX4_isLater, .selects RX4 yX4_isLater yX4_isLater, .initialized RX4] ++ (wsX40 ++ (u_s_X4_isLaterK ++ [])))
theorem gd_s_X4_hasRingK : z_gd u_s_X4_hasRingK := z_gdc (by decide +kernel) (z_gda gdX4 (z_gda gd_s_X4_isLaterK (z_gd0)))
set_option maxRecDepth 20000 in
theorem gw_s_X4_hasRingK_s_X4_isLaterK_95 : GoodIn u_s_X4_hasRingK (wsV RX4 95 RX4 yX4_isLater u_s_X4_isLaterK) := z_gV (z_gr _ [2, 3, 4, 5] rfl (by decide +kernel)) (fun w h => ⟨z_mc (z_mr (z_mr (z_ml h))), gd_s_X4_isLaterK w h⟩)
set_option maxHeartbeats 4000000 in
set_option maxRecDepth 100000 in
theorem s_X4_hasRingK (l : Launch) (dC : Nat → ClassId) (dI : Nat → Nat → Nat) (sz : Nat) (h0 : Nat) (h0_0 : Value) (h0_1 : Value) (kl : Int32) (h0_3 : Value) (h1 : Nat) (h0_5 : Value) (h0_6 : Value) (h0_7 : Value) (h0_8 : Value) (h0_9 : Value) (ch1 : ClassId) (fh1 : Nat → Int32) (hB_kl : ((-1 : Int) ≤ (kl).toInt ∧ (kl).toInt ≤ (12 : Int))) : Met l yX4_hasRing u_s_X4_hasRingK ({ frames := 1, cells := 0, slots := 0, locals := 22 }) (va_Pc [.ref h0] (z_C (dC, dI) vwCl [(h0, .inr (4, [h0_0, h0_1, .int kl, h0_3, .ref h1, h0_5, h0_6, h0_7, h0_8, h0_9])), (h1, .inl (ch1, 12, .inl fh1))] [(ch1, .int)] sz)) (va_Qi (fun (r : Int32) (_ : Unit) => (r = 1 ∧ k_ring kl.toInt fh1) ∨ (r = 0 ∧ ¬ k_ring kl.toInt fh1)) (fun (_ : Unit) (_ : State) => True) (va_A [] sz)) 0 0 (va_A [] sz) := by
  refine Met.ofW (cc := cX4_hasRing) (maxL := 2) (ret := (some .boolean)) (by decide) rfl ?_
  intro p e s m args below meth c s₁ B hml hv
  obtain ⟨rfl, hsz, hP, hK, hD0⟩ := hv
  have hx := B.exec
  have hb := B.bytes
  have hr := B.returns
  have hts := atoms_spec (ws := u_s_X4_hasRingK) B.pre
  have hown : s.vm.findClass RX4 = some m.cls := findClass_of_methodNamed B.named
  have hlocks := B.notSynchronized
  subst hsz
  have hD := hD0
  generalize hAe : va_A [] s.heap.size = A
  have hA : ∀ q : Nat, s.heap.size ≤ q → A q := fun q h => by rw [← hAe]; exact Or.inr h
  have hS : va_S A s.heap s.heap [] := va_S.rf
  have hP : va_P (dC, dI) vwCl [(h0, .inr (4, [h0_0, h0_1, .int kl, h0_3, .ref h1, h0_5, h0_6, h0_7, h0_8, h0_9])), (h1, .inl (ch1, 12, .inl fh1))] s.heap := hP
  have w__fieldLink_RX4_15_ShellHeap_Known_layersSeen_I_ := hts (.fieldLink RX4 15 "ShellHeap$Known" "layersSeen" "I") (z_mc (z_ml z_m0))
  have hiX4 := show ∀ w ∈ u_ws RX4 TX4 10, w ∈ u_s_X4_hasRingK from fun w h => z_mc (z_mr (z_ml h))
  have hl := lv_entry ([.ref h0]) (n := 2) (Nat.le_of_ble_eq_true rfl)
  rw [lg_entry_eq]
  generalize (lg_sl ([.ref h0]) ++ List.replicate (2 - (lg_sl ([.ref h0])).length) Slot.unset).toArray = ls at hl ⊢
  have hl : lv_has ls 2 [(0, .ref h0)] := hl
  refine z_nameQ (fun QQ hQQ => ?_)
  refine lv_iconst (v := 0) hx hb dX4_hasRing_0 (by decide) ?_
  refine lv_istore_n (lv' := [(1, .int 0), (0, .ref h0)]) hx hb dX4_hasRing_1 rfl hl (by decide) rfl (fun ls hl => ?_)
  have loop_1 : ∀ (n_2 : Nat) (i_4 : Int32) (H : Heap) (locs : List Loc) (ls : Array Slot), (13 - (i_4).toInt).toNat < n_2 → (((0 : Int) ≤ (i_4).toInt ∧ (i_4).toInt ≤ (12 : Int))) → (k_nr (kl).toInt (i_4).toInt fh1) → va_P (dC, dI) vwCl [(h0, .inr (4, [h0_0, h0_1, .int kl, h0_3, .ref h1, h0_5, h0_6, h0_7, h0_8, h0_9])), (h1, .inl (ch1, 12, .inl fh1))] H → va_D (fun _ => True) [(h0, .inr (4, [h0_0, h0_1, .int kl, h0_3, .ref h1, h0_5, h0_6, h0_7, h0_8, h0_9])), (h1, .inl (ch1, 12, .inl fh1))] → va_S A s.heap H locs → lv_has ls 2 [(1, .int i_4), (0, .ref h0)] → W p l e ({ frames := 1, cells := 0, slots := 0, locals := 22 } : Room) s m ([.ref h0] : List Value).toArray below meth c H locs 0 0 QQ (F0 m 2 ls []) := by
    intro n_2
    induction n_2 with
    | zero => intro i_4 H locs ls hm; exact absurd hm (Nat.not_lt_zero _)
    | succ n_2 ih_3 =>
      intro i_4 H locs ls hm hF_5 hF_6 hP hD hS hl
      refine lv_iload_n hx hb dX4_hasRing_2 rfl (lv_at hl 0 rfl) ?_
      refine lv_aload_n hx hb dX4_hasRing_3 rfl (lv_at hl 1 rfl) ?_
      refine va_get (D := (dC, dI)) (ci := 4) (v := .int kl) (C := RX4) (T := TX4) (N := 10) hx hb hts hiX4 hown hK hP 0 rfl rfl 2 (by decide) w__fieldLink_RX4_15_ShellHeap_Known_layersSeen_I_ (fun _ h9 => h9) rfl dX4_hasRing_4 ?_
      refine lv_icmp_ge (tgt := 27) hx hb dX4_hasRing_7 (by decide) (fun c_7 => ?_) (fun c_7 => ?_)
      · have k_8 : (kl).toInt ≤ (i_4).toInt := z_le c_7
        refine lv_iconst (v := 0) hx hb dX4_hasRing_27 (by decide) ?_
        refine z_backQ hQQ ?_
        refine W.widen (k := 0) (n := 0) (Nat.le_of_ble_eq_true rfl) (Nat.le_of_ble_eq_true rfl) ?_
        exact W.zret (v := 0) hx hb hr (by rfl) (fun t ht hW => ⟨⟨0, (), rfl, (Or.inr (⟨rfl, k_ring_no hF_6 (by omega)⟩)), trivial⟩, hS.F ht⟩) hS.2.2 dX4_hasRing_28
      · have k_9 : (kl).toInt > (i_4).toInt := z_nle c_7
        refine lv_aload_n hx hb dX4_hasRing_10 rfl (lv_at hl 1 rfl) ?_
        refine lv_iload_n hx hb dX4_hasRing_11 rfl (lv_at hl 0 rfl) ?_
        refine lv_iload_n hx hb dX4_hasRing_12 rfl (lv_at hl 0 rfl) ?_
        have hPc := hP
        have hDc := hD
        have hKc := hK
        have hFc := va_free (ws := []) (wc := []) (z_D0 _) hS hA [] rfl
        refine va_calli (va_runV (As := [.int i_4, .int i_4]) (rest := []) ⟨hx, hb, hml, hown, hts⟩ (s_X4_isLaterK l dC dI H.size h0 i_4 i_4 h0_0 h0_1 (.int kl) h0_3 h1 h0_5 h0_6 h0_7 h0_8 h0_9 ch1 fh1 (by first | omega | decide)) (cwV 2 hts gw_s_X4_hasRingK_s_X4_isLaterK_95 rfl rfl rfl (by decide +kernel) ⟨Nat.le_of_ble_eq_true rfl, Nat.le_of_ble_eq_true rfl⟩) ⟨z_blind, va_recv hKc hPc (ci := 4) (q0 := 0) rfl rfl, z_pre hPc hKc hDc⟩ rfl rfl hl.1 rfl (lv_room (Nat.le_of_ble_eq_true rfl)) dX4_hasRing_13 ⟨Nat.le_of_ble_eq_true rfl, Nat.le_of_ble_eq_true rfl⟩) hS (fun q _ h => hFc q h) hFc (fun r_11 u t H_10 locs ht hvm hw_12 hB hz1 hk1 hS => ?_)
        replace hP := z_pure hP hk1
        clear hPc hDc hKc
        rcases hw_12 with ⟨rfl, hw_12⟩ | ⟨rfl, hw_12⟩
        · have hw_12 : k_bt (fh1 i_4.toNatClampNeg) i_4.toInt := hw_12
          refine lv_if_eq (tgt := 21) hx hb dX4_hasRing_16 (by decide) (fun c_13 => absurd c_13 (by decide)) (fun _ => ?_)
          refine lv_iconst (v := 1) hx hb dX4_hasRing_19 (by decide) ?_
          refine z_backQ hQQ ?_
          refine W.widen (k := 0) (n := 0) (Nat.le_of_ble_eq_true rfl) (Nat.le_of_ble_eq_true rfl) ?_
          exact W.zret (v := 1) hx hb hr (by rfl) (fun t ht hW => ⟨⟨1, (), rfl, (Or.inl (⟨rfl, ⟨_, (k_Mi (x := i_4) (y := i_4) ⟨by omega, by omega⟩ ⟨by omega, by omega⟩).mpr hw_12⟩⟩)), trivial⟩, hS.F ht⟩) hS.2.2 dX4_hasRing_20
        · have hw_12 : ¬ k_bt (fh1 i_4.toNatClampNeg) i_4.toInt := hw_12
          refine lv_if_eq (tgt := 21) hx hb dX4_hasRing_16 (by decide) (fun _ => ?_) (fun c_14 => absurd (by decide) c_14)
          obtain ⟨z_15, ez_15⟩ : ∃ y : Int32, y = i_4 + 1 := ⟨_, rfl⟩
          have kz_15 : (z_15).toInt = (i_4).toInt + (1 : Int) := by rw [ez_15]; exact z_add (b := 1) rfl rfl (z_al hF_5.1 (by decide)) (z_ah hF_5.2 (by decide))
          refine lv_iinc (v := z_15) (lv' := [(1, .int z_15), (0, .ref h0)]) hx hb dX4_hasRing_21 hl (k := 0) rfl (by rw [ez_15]; rfl) (by decide) rfl (fun ls hl => ?_)
          refine lv_goto (tgt := 2) hx hb dX4_hasRing_24 (by decide) ?_
          exact ih_3 z_15 _ _ _ (show (13 - (z_15).toInt).toNat < n_2 by omega) (show ((0 : Int) ≤ (z_15).toInt ∧ (z_15).toInt ≤ (12 : Int)) by omega) (show k_nr (kl).toInt (z_15).toInt fh1 from k_nr_s (i := i_4) hF_6 (by omega) hw_12) hP hD hS (lv_sub hl [0, 1] rfl)
  exact loop_1 _ 0 _ _ _ (Nat.lt_succ_self _) (show ((0 : Int) ≤ (0 : Int) ∧ (0 : Int) ≤ (12 : Int)) by omega) (show k_nr (kl).toInt (0 : Int) fh1 from k_nr_0) hP hD hS hl
def u_s_X4_raiseRankK : List Cond := .code yX4_raiseRank cX4_raiseRank 3 none :: ([.fieldLink RX4 15 "ShellHeap$Known" "layersSeen" "I", .methodLink RX4 95 yX4_isLater, .instanceMethod yX4_isLater, .selects RX4 yX4_isLater yX4_isLater, .initialized RX4, .fieldLink RX4 26 "ShellHeap$Known" "ranks" "[I", .methodLink RX4 92 Lib.Math.max.name, .static Lib.Math.max.name, .initialized "java/lang/Math", .code Lib.Math.max.name Lib.Math.max.code 2 (some .int)] ++ (wsX40 ++ (u_s_X4_isLaterK ++ [])))
theorem gd_s_X4_raiseRankK : z_gd u_s_X4_raiseRankK := z_gdc (by decide +kernel) (z_gda gdX4 (z_gda gd_s_X4_isLaterK (z_gd0)))
set_option maxRecDepth 20000 in
theorem gw_s_X4_raiseRankK_s_X4_isLaterK_95 : GoodIn u_s_X4_raiseRankK (wsV RX4 95 RX4 yX4_isLater u_s_X4_isLaterK) := z_gV (z_gr _ [2, 3, 4, 5] rfl (by decide +kernel)) (fun w h => ⟨z_mc (z_mr (z_mr (z_ml h))), gd_s_X4_isLaterK w h⟩)
set_option maxHeartbeats 4000000 in
set_option maxRecDepth 100000 in
theorem s_X4_raiseRankK (l : Launch) (dC : Nat → ClassId) (dI : Nat → Nat → Nat) (sz : Nat) (h0 : Nat) (p1 : Int32) (h0_0 : Value) (h0_1 : Value) (kl : Int32) (h0_3 : Value) (h1 : Nat) (h2 : Nat) (h0_6 : Value) (h0_7 : Value) (h0_8 : Value) (h0_9 : Value) (ch1 : ClassId) (fh1 : Nat → Int32) (ch2 : ClassId) (fh2 : Nat → Int32) (hB_kl : ((-1 : Int) ≤ (kl).toInt ∧ (kl).toInt ≤ (12 : Int))) (hB_p1 : ((0 : Int) ≤ (p1).toInt ∧ (p1).toInt ≤ (11 : Int))) (hT : k_tr (k_M kl.toInt fh1)) (hRS : k_rs (k_M kl.toInt fh1) kl.toInt fh2) (hpl : p1.toInt < kl.toInt) : Met l yX4_raiseRank u_s_X4_raiseRankK ({ frames := 1, cells := 0, slots := 0, locals := 22 }) (va_Pc [.ref h0, .int p1] (z_C (dC, dI) vwCl [(h0, .inr (4, [h0_0, h0_1, .int kl, h0_3, .ref h1, .ref h2, h0_6, h0_7, h0_8, h0_9])), (h1, .inl (ch1, 12, .inl fh1)), (h2, .inl (ch2, 12, .inl fh2))] [(ch1, .int), (ch2, .int)] sz)) (va_Qv (fun (_ : Unit) => True) (fun (_ : Unit) (t : State) => ∃ (g_h2 : Nat → Int32), (k_rs (k_M kl.toInt fh1) kl.toInt g_h2) ∧ (k_rr (k_M kl.toInt fh1) kl.toInt p1.toInt fh2 g_h2) ∧ va_P (dC, dI) vwCl [(h0, .inr (4, [h0_0, h0_1, .int kl, h0_3, .ref h1, .ref h2, h0_6, h0_7, h0_8, h0_9])), (h1, .inl (ch1, 12, .inl fh1)), (h2, .inl (ch2, 12, .inl g_h2))] t.heap ∧ va_K (dC, dI) vwCl [] t ∧ va_D (va_A [(h0, .inr (4, [h0_0, h0_1, .int kl, h0_3, .ref h1, .ref h2, h0_6, h0_7, h0_8, h0_9])), (h1, .inl (ch1, 12, .inl fh1)), (h2, .inl (ch2, 12, .inl fh2))] sz) [(h0, .inr (4, [h0_0, h0_1, .int kl, h0_3, .ref h1, .ref h2, h0_6, h0_7, h0_8, h0_9])), (h1, .inl (ch1, 12, .inl fh1)), (h2, .inl (ch2, 12, .inl g_h2))]) (va_A [(h0, .inr (4, [h0_0, h0_1, .int kl, h0_3, .ref h1, .ref h2, h0_6, h0_7, h0_8, h0_9])), (h1, .inl (ch1, 12, .inl fh1)), (h2, .inl (ch2, 12, .inl fh2))] sz)) 0 0 (va_A [(h0, .inr (4, [h0_0, h0_1, .int kl, h0_3, .ref h1, .ref h2, h0_6, h0_7, h0_8, h0_9])), (h1, .inl (ch1, 12, .inl fh1)), (h2, .inl (ch2, 12, .inl fh2))] sz) := by
  refine Met.ofW (cc := cX4_raiseRank) (maxL := 3) (ret := none) (by decide) rfl ?_
  intro p e s m args below meth c s₁ B hml hv
  obtain ⟨rfl, hsz, hP, hK, hD0⟩ := hv
  have hx := B.exec
  have hb := B.bytes
  have hr := B.returns
  have hts := atoms_spec (ws := u_s_X4_raiseRankK) B.pre
  have hown : s.vm.findClass RX4 = some m.cls := findClass_of_methodNamed B.named
  have hlocks := B.notSynchronized
  subst hsz
  have hD := hD0.self (sz := s.heap.size)
  generalize hAe : va_A [(h0, .inr (4, [h0_0, h0_1, .int kl, h0_3, .ref h1, .ref h2, h0_6, h0_7, h0_8, h0_9])), (h1, .inl (ch1, 12, .inl fh1)), (h2, .inl (ch2, 12, .inl fh2))] s.heap.size = A at hD ⊢
  have hA : ∀ q : Nat, s.heap.size ≤ q → A q := fun q h => by rw [← hAe]; exact Or.inr h
  have hS : va_S A s.heap s.heap [] := va_S.rf
  have hP : va_P (dC, dI) vwCl [(h0, .inr (4, [h0_0, h0_1, .int kl, h0_3, .ref h1, .ref h2, h0_6, h0_7, h0_8, h0_9])), (h1, .inl (ch1, 12, .inl fh1)), (h2, .inl (ch2, 12, .inl fh2))] s.heap := hP
  have w__fieldLink_RX4_15_ShellHeap_Known_layersSeen_I_ := hts (.fieldLink RX4 15 "ShellHeap$Known" "layersSeen" "I") (z_mc (z_ml z_m0))
  have hiX4 := show ∀ w ∈ u_ws RX4 TX4 10, w ∈ u_s_X4_raiseRankK from fun w h => z_mc (z_mr (z_ml h))
  have w__fieldLink_RX4_26_ShellHeap_Known_ranks_I_ := hts (.fieldLink RX4 26 "ShellHeap$Known" "ranks" "[I") (z_mc (z_ml z_m5))
  have w__methodLink_RX4_92_Lib_Math_max_name := hts (.methodLink RX4 92 Lib.Math.max.name) (z_mc (z_ml z_m6))
  have w__static_Lib_Math_max_name := hts (.static Lib.Math.max.name) (z_mc (z_ml z_m7))
  have w__initialized_java_lang_Math_ := hts (.initialized "java/lang/Math") (z_mc (z_ml z_m8))
  have w__code_Lib_Math_max_name_Lib_Math_max_code_2_some_int_ := hts (.code Lib.Math.max.name Lib.Math.max.code 2 (some .int)) (z_mc (z_ml z_m9))
  have hl := lv_entry ([.ref h0, .int p1]) (n := 3) (Nat.le_of_ble_eq_true rfl)
  rw [lg_entry_eq]
  generalize (lg_sl ([.ref h0, .int p1]) ++ List.replicate (3 - (lg_sl ([.ref h0, .int p1])).length) Slot.unset).toArray = ls at hl ⊢
  have hl : lv_has ls 3 [(0, .ref h0), (1, .int p1)] := hl
  refine z_nameQ (fun QQ hQQ => ?_)
  refine lv_iconst (v := 0) hx hb dX4_raiseRank_0 (by decide) ?_
  refine lv_istore_n (lv' := [(2, .int 0), (0, .ref h0), (1, .int p1)]) hx hb dX4_raiseRank_1 rfl hl (by decide) rfl (fun ls hl => ?_)
  have loop_1 : ∀ (n_2 : Nat) (i_4 : Int32) (f_5 : Nat → Int32) (H : Heap) (locs : List Loc) (ls : Array Slot), (13 - (i_4).toInt).toNat < n_2 → (((0 : Int) ≤ (i_4).toInt ∧ (i_4).toInt ≤ (12 : Int))) → (k_rs (k_M (kl).toInt fh1) (kl).toInt f_5) → (k_ri (k_M (kl).toInt fh1) (p1).toInt (i_4).toInt fh2 f_5) → va_P (dC, dI) vwCl [(h0, .inr (4, [h0_0, h0_1, .int kl, h0_3, .ref h1, .ref h2, h0_6, h0_7, h0_8, h0_9])), (h1, .inl (ch1, 12, .inl fh1)), (h2, .inl (ch2, 12, .inl f_5))] H → va_D A [(h0, .inr (4, [h0_0, h0_1, .int kl, h0_3, .ref h1, .ref h2, h0_6, h0_7, h0_8, h0_9])), (h1, .inl (ch1, 12, .inl fh1)), (h2, .inl (ch2, 12, .inl f_5))] → va_S A s.heap H locs → lv_has ls 3 [(2, .int i_4), (0, .ref h0), (1, .int p1)] → W p l e ({ frames := 1, cells := 0, slots := 0, locals := 22 } : Room) s m ([.ref h0, .int p1] : List Value).toArray below meth c H locs 0 0 QQ (F0 m 2 ls []) := by
    intro n_2
    induction n_2 with
    | zero => intro i_4 f_5 H locs ls hm; exact absurd hm (Nat.not_lt_zero _)
    | succ n_2 ih_3 =>
      intro i_4 f_5 H locs ls hm hF_6 hF_7 hF_8 hP hD hS hl
      refine lv_iload_n hx hb dX4_raiseRank_2 rfl (lv_at hl 0 rfl) ?_
      refine lv_aload_n hx hb dX4_raiseRank_3 rfl (lv_at hl 1 rfl) ?_
      refine va_get (D := (dC, dI)) (ci := 4) (v := .int kl) (C := RX4) (T := TX4) (N := 10) hx hb hts hiX4 hown hK hP 0 rfl rfl 2 (by decide) w__fieldLink_RX4_15_ShellHeap_Known_layersSeen_I_ (fun _ h9 => h9) rfl dX4_raiseRank_4 ?_
      refine lv_icmp_ge (tgt := 48) hx hb dX4_raiseRank_7 (by decide) (fun c_9 => ?_) (fun c_9 => ?_)
      · have k_10 : (kl).toInt ≤ (i_4).toInt := z_le c_9
        refine z_backQ hQQ ?_
        have hP9 := hP
        have hD9 := hD
        have hK9 := hK.sub (tys' := []) [] rfl
        refine W.widen (k := 0) (n := 0) (Nat.le_of_ble_eq_true rfl) (Nat.le_of_ble_eq_true rfl) ?_
        exact W.vret hx hb hr (fun t ht hW => ⟨⟨(), rfl, trivial, ⟨f_5, (show k_rs (k_M kl.toInt fh1) kl.toInt f_5 from hF_7), (show k_rr (k_M kl.toInt fh1) kl.toInt p1.toInt fh2 f_5 from k_rr_of hF_8 (by omega)), by rw [ht]; exact hP9, va_K.moved hW.alike hK9, hD9⟩⟩, hS.F ht⟩) hS.2.2 dX4_raiseRank_48
      · have k_11 : (kl).toInt > (i_4).toInt := z_nle c_9
        refine lv_aload_n hx hb dX4_raiseRank_10 rfl (lv_at hl 1 rfl) ?_
        refine lv_iload_n hx hb dX4_raiseRank_11 rfl (lv_at hl 2 rfl) ?_
        refine lv_iload_n hx hb dX4_raiseRank_12 rfl (lv_at hl 0 rfl) ?_
        obtain ⟨hPc, hDc⟩ := z_sub2 (ws' := [(h0, .inr (4, [h0_0, h0_1, .int kl, h0_3, .ref h1, .ref h2, h0_6, h0_7, h0_8, h0_9])), (h1, .inl (ch1, 12, .inl fh1))]) hP hD [0, 1] (by decide) rfl
        have hKc := hK.sub (tys' := [(ch1, .int)]) [0] rfl
        have hFc := va_free (ws := []) (wc := []) (z_D0 _) hS hA [] rfl
        refine va_calli (va_runV (As := [.int p1, .int i_4]) (rest := []) ⟨hx, hb, hml, hown, hts⟩ (s_X4_isLaterK l dC dI H.size h0 p1 i_4 h0_0 h0_1 (.int kl) h0_3 h1 (.ref h2) h0_6 h0_7 h0_8 h0_9 ch1 fh1 hB_p1) (cwV 2 hts gw_s_X4_raiseRankK_s_X4_isLaterK_95 rfl rfl rfl (by decide +kernel) ⟨Nat.le_of_ble_eq_true rfl, Nat.le_of_ble_eq_true rfl⟩) ⟨z_blind, va_recv hKc hPc (ci := 4) (q0 := 0) rfl rfl, z_pre hPc hKc hDc⟩ rfl rfl hl.1 rfl (lv_room (Nat.le_of_ble_eq_true rfl)) dX4_raiseRank_13 ⟨Nat.le_of_ble_eq_true rfl, Nat.le_of_ble_eq_true rfl⟩) hS (fun q _ h => hFc q h) hFc (fun r_13 u t H_12 locs ht hvm hw_14 hB hz1 hk1 hS => ?_)
        replace hP := z_pure hP hk1
        clear hPc hDc hKc
        rcases hw_14 with ⟨rfl, hw_14⟩ | ⟨rfl, hw_14⟩
        · have hw_14 : k_bt (fh1 p1.toNatClampNeg) i_4.toInt := hw_14
          refine lv_if_eq (tgt := 42) hx hb dX4_raiseRank_16 (by decide) (fun c_15 => absurd c_15 (by decide)) (fun _ => ?_)
          refine lv_aload_n hx hb dX4_raiseRank_19 rfl (lv_at hl 1 rfl) ?_
          refine va_get (D := (dC, dI)) (ci := 4) (v := .ref h2) (C := RX4) (T := TX4) (N := 10) hx hb hts hiX4 hown hK hP 0 rfl rfl 5 (by decide) w__fieldLink_RX4_26_ShellHeap_Known_ranks_I_ (fun _ h9 => h9) rfl dX4_raiseRank_20 ?_
          refine lv_iload_n hx hb dX4_raiseRank_23 rfl (lv_at hl 2 rfl) ?_
          refine lv_aload_n hx hb dX4_raiseRank_24 rfl (lv_at hl 1 rfl) ?_
          refine va_get (D := (dC, dI)) (ci := 4) (v := .ref h2) (C := RX4) (T := TX4) (N := 10) hx hb hts hiX4 hown hK hP 0 rfl rfl 5 (by decide) w__fieldLink_RX4_26_ShellHeap_Known_ranks_I_ (fun _ h9 => h9) rfl dX4_raiseRank_25 ?_
          refine lv_iload_n hx hb dX4_raiseRank_28 rfl (lv_at hl 2 rfl) ?_
          refine va_iald hx hb hK hP 2 1 rfl rfl (z_vpinB hB_p1 (by decide) (by decide)) dX4_raiseRank_29 ?_
          refine lv_topi (fun z_16 ez_16 => ?_)
          have kxz_16 : (z_16).toInt = (f_5 (p1 : Int32).toNatClampNeg).toInt := by rw [ez_16]
          have krz_16 := k_rs_b k_M_in hT hF_7 (by omega) ⟨by omega, by omega⟩ ez_16
          refine lv_aload_n hx hb dX4_raiseRank_30 rfl (lv_at hl 1 rfl) ?_
          refine va_get (D := (dC, dI)) (ci := 4) (v := .ref h2) (C := RX4) (T := TX4) (N := 10) hx hb hts hiX4 hown hK hP 0 rfl rfl 5 (by decide) w__fieldLink_RX4_26_ShellHeap_Known_ranks_I_ (fun _ h9 => h9) rfl dX4_raiseRank_31 ?_
          refine lv_iload_n hx hb dX4_raiseRank_34 rfl (lv_at hl 0 rfl) ?_
          refine va_iald hx hb hK hP 2 1 rfl rfl (z_vpin (by omega) (by omega)) dX4_raiseRank_35 ?_
          refine lv_topi (fun z_17 ez_17 => ?_)
          have kxz_17 : (z_17).toInt = (f_5 (i_4 : Int32).toNatClampNeg).toInt := by rw [ez_17]
          have krz_17 := k_rs_b k_M_in hT hF_7 (by omega) ⟨by omega, by omega⟩ ez_17
          refine lv_iconst (v := 1) hx hb dX4_raiseRank_36 (by decide) ?_
          refine lv_iadd hx hb dX4_raiseRank_37 ?_
          refine lv_topi (fun z_18 ez_18 => ?_)
          have kz_18 : (z_18).toInt = (z_17).toInt + (1 : Int) := by rw [ez_18]; exact z_add (a := (z_17).toInt) (b := (1 : Int)) rfl rfl (by omega) (by omega)
          refine va_mmax hx hb (hml.trans hl.1.symm) hown w__methodLink_RX4_92_Lib_Math_max_name w__static_Lib_Math_max_name w__initialized_java_lang_Math_ w__code_Lib_Math_max_name_Lib_Math_max_code_2_some_int_ (Nat.le_of_ble_eq_true rfl) (Nat.le_of_ble_eq_true rfl) (Nat.le_of_ble_eq_true rfl) (Nat.le_of_ble_eq_true rfl) dX4_raiseRank_38 ?_
          refine lv_topi (fun z_19 ez_19 => ?_)
          have kz_19 : ((z_19).toInt = (z_16).toInt ∨ (z_19).toInt = (z_18).toInt) ∧ (z_19).toInt ≥ (z_16).toInt ∧ (z_19).toInt ≥ (z_18).toInt := z_max ez_19
          refine va_iast hx hb hK hP hD hS 2 1 rfl rfl (z_vpinB hB_p1 (by decide) (by decide)) dX4_raiseRank_41 (fun H_20 locs hP hD hS => ?_)
          obtain ⟨hP, hD⟩ := z_s_2 hP hD
          obtain ⟨z_22, ez_22⟩ : ∃ y : Int32, y = i_4 + 1 := ⟨_, rfl⟩
          have kz_22 : (z_22).toInt = (i_4).toInt + (1 : Int) := by rw [ez_22]; exact z_add (b := 1) rfl rfl (z_al hF_6.1 (by decide)) (z_ah hF_6.2 (by decide))
          refine lv_iinc (v := z_22) (lv' := [(2, .int z_22), (0, .ref h0), (1, .int p1)]) hx hb dX4_raiseRank_42 hl (k := 0) rfl (by rw [ez_22]; rfl) (by decide) rfl (fun ls hl => ?_)
          refine lv_goto (tgt := 2) hx hb dX4_raiseRank_45 (by decide) ?_
          exact ih_3 z_22 (upd f_5 (p1 : Int32).toNatClampNeg z_19) _ _ _ (show (13 - (z_22).toInt).toNat < n_2 by omega) (show ((0 : Int) ≤ (z_22).toInt ∧ (z_22).toInt ≤ (12 : Int)) by omega) (show k_rs (k_M (kl).toInt fh1) (kl).toInt (upd f_5 (p1 : Int32).toNatClampNeg z_19) from k_rs_y (i := i_4) (d := p1) hF_7 ⟨by omega, by omega⟩ ⟨by omega, by omega⟩ ((k_Mi ⟨by omega, by omega⟩ ⟨by omega, by omega⟩).mpr hw_14) (by omega)) (show k_ri (k_M (kl).toInt fh1) (p1).toInt (z_22).toInt fh2 (upd f_5 (p1 : Int32).toNatClampNeg z_19) from k_ri_y (i := i_4) (d := p1) hT hF_8 (by omega) (by omega) (by omega) ((k_Mi ⟨by omega, by omega⟩ ⟨by omega, by omega⟩).mpr hw_14) (by omega)) hP hD hS (lv_sub hl [0, 1, 2] rfl)
        · have hw_14 : ¬ k_bt (fh1 p1.toNatClampNeg) i_4.toInt := hw_14
          refine lv_if_eq (tgt := 42) hx hb dX4_raiseRank_16 (by decide) (fun _ => ?_) (fun c_23 => absurd (by decide) c_23)
          obtain ⟨z_24, ez_24⟩ : ∃ y : Int32, y = i_4 + 1 := ⟨_, rfl⟩
          have kz_24 : (z_24).toInt = (i_4).toInt + (1 : Int) := by rw [ez_24]; exact z_add (b := 1) rfl rfl (z_al hF_6.1 (by decide)) (z_ah hF_6.2 (by decide))
          refine lv_iinc (v := z_24) (lv' := [(2, .int z_24), (0, .ref h0), (1, .int p1)]) hx hb dX4_raiseRank_42 hl (k := 0) rfl (by rw [ez_24]; rfl) (by decide) rfl (fun ls hl => ?_)
          refine lv_goto (tgt := 2) hx hb dX4_raiseRank_45 (by decide) ?_
          exact ih_3 z_24 f_5 _ _ _ (show (13 - (z_24).toInt).toNat < n_2 by omega) (show ((0 : Int) ≤ (z_24).toInt ∧ (z_24).toInt ≤ (12 : Int)) by omega) (show k_rs (k_M (kl).toInt fh1) (kl).toInt f_5 from hF_7) (show k_ri (k_M (kl).toInt fh1) (p1).toInt (z_24).toInt fh2 f_5 from k_ri_n (i := i_4) hF_8 (by omega) (by omega) (fun h9 => hw_14 h9.2.2.2.2)) hP hD hS (lv_sub hl [0, 1, 2] rfl)
  exact loop_1 _ 0 fh2 _ _ _ (Nat.lt_succ_self _) (show ((0 : Int) ≤ (0 : Int) ∧ (0 : Int) ≤ (12 : Int)) by omega) (show k_rs (k_M (kl).toInt fh1) (kl).toInt fh2 from hRS) (show k_ri (k_M (kl).toInt fh1) (p1).toInt (0 : Int) fh2 fh2 from k_ri_0) hP hD hS hl
def u_s_X4_setRanksK : List Cond := .code yX4_setRanks cX4_setRanks 3 none :: ([.fieldLink RX4 15 "ShellHeap$Known" "layersSeen" "I", .methodLink RX4 98 yX4_raiseRank, .instanceMethod yX4_raiseRank, .selects RX4 yX4_raiseRank yX4_raiseRank, .initialized RX4, .fieldLink RX4 26 "ShellHeap$Known" "ranks" "[I"] ++ (wsX40 ++ (u_s_X4_raiseRankK ++ [])))
theorem gd_s_X4_setRanksK : z_gd u_s_X4_setRanksK := z_gdc (by decide +kernel) (z_gda gdX4 (z_gda gd_s_X4_raiseRankK (z_gd0)))
set_option maxRecDepth 20000 in
theorem gw_s_X4_setRanksK_s_X4_raiseRankK_98 : GoodIn u_s_X4_setRanksK (wsV RX4 98 RX4 yX4_raiseRank u_s_X4_raiseRankK) := z_gV (z_gr _ [2, 3, 4, 5] rfl (by decide +kernel)) (fun w h => ⟨z_mc (z_mr (z_mr (z_ml h))), gd_s_X4_raiseRankK w h⟩)
set_option maxHeartbeats 4000000 in
set_option maxRecDepth 100000 in
theorem s_X4_setRanksK (l : Launch) (dC : Nat → ClassId) (dI : Nat → Nat → Nat) (sz : Nat) (h0 : Nat) (h0_0 : Value) (h0_1 : Value) (kl : Int32) (h0_3 : Value) (h1 : Nat) (h2 : Nat) (h0_6 : Value) (h0_7 : Value) (h0_8 : Value) (h0_9 : Value) (ch1 : ClassId) (fh1 : Nat → Int32) (ch2 : ClassId) (fh2 : Nat → Int32) (hB_kl : ((-1 : Int) ≤ (kl).toInt ∧ (kl).toInt ≤ (12 : Int))) (hT : k_tr (k_M kl.toInt fh1)) : Met l yX4_setRanks u_s_X4_setRanksK ({ frames := 2, cells := 0, slots := 0, locals := 44 }) (va_Pc [.ref h0] (z_C (dC, dI) vwCl [(h0, .inr (4, [h0_0, h0_1, .int kl, h0_3, .ref h1, .ref h2, h0_6, h0_7, h0_8, h0_9])), (h1, .inl (ch1, 12, .inl fh1)), (h2, .inl (ch2, 12, .inl fh2))] [(ch1, .int), (ch2, .int)] sz)) (va_Qv (fun (_ : Unit) => True) (fun (_ : Unit) (t : State) => ∃ (g_h2 : Nat → Int32), (k_RK (k_M kl.toInt fh1) kl.toInt g_h2) ∧ va_P (dC, dI) vwCl [(h0, .inr (4, [h0_0, h0_1, .int kl, h0_3, .ref h1, .ref h2, h0_6, h0_7, h0_8, h0_9])), (h1, .inl (ch1, 12, .inl fh1)), (h2, .inl (ch2, 12, .inl g_h2))] t.heap ∧ va_K (dC, dI) vwCl [] t ∧ va_D (va_A [(h0, .inr (4, [h0_0, h0_1, .int kl, h0_3, .ref h1, .ref h2, h0_6, h0_7, h0_8, h0_9])), (h1, .inl (ch1, 12, .inl fh1)), (h2, .inl (ch2, 12, .inl fh2))] sz) [(h0, .inr (4, [h0_0, h0_1, .int kl, h0_3, .ref h1, .ref h2, h0_6, h0_7, h0_8, h0_9])), (h1, .inl (ch1, 12, .inl fh1)), (h2, .inl (ch2, 12, .inl g_h2))]) (va_A [(h0, .inr (4, [h0_0, h0_1, .int kl, h0_3, .ref h1, .ref h2, h0_6, h0_7, h0_8, h0_9])), (h1, .inl (ch1, 12, .inl fh1)), (h2, .inl (ch2, 12, .inl fh2))] sz)) 0 0 (va_A [(h0, .inr (4, [h0_0, h0_1, .int kl, h0_3, .ref h1, .ref h2, h0_6, h0_7, h0_8, h0_9])), (h1, .inl (ch1, 12, .inl fh1)), (h2, .inl (ch2, 12, .inl fh2))] sz) := by
  refine Met.ofW (cc := cX4_setRanks) (maxL := 3) (ret := none) (by decide) rfl ?_
  intro p e s m args below meth c s₁ B hml hv
  obtain ⟨rfl, hsz, hP, hK, hD0⟩ := hv
  have hx := B.exec
  have hb := B.bytes
  have hr := B.returns
  have hts := atoms_spec (ws := u_s_X4_setRanksK) B.pre
  have hown : s.vm.findClass RX4 = some m.cls := findClass_of_methodNamed B.named
  have hlocks := B.notSynchronized
  subst hsz
  have hD := hD0.self (sz := s.heap.size)
  generalize hAe : va_A [(h0, .inr (4, [h0_0, h0_1, .int kl, h0_3, .ref h1, .ref h2, h0_6, h0_7, h0_8, h0_9])), (h1, .inl (ch1, 12, .inl fh1)), (h2, .inl (ch2, 12, .inl fh2))] s.heap.size = A at hD ⊢
  have hA : ∀ q : Nat, s.heap.size ≤ q → A q := fun q h => by rw [← hAe]; exact Or.inr h
  have hS : va_S A s.heap s.heap [] := va_S.rf
  have hP : va_P (dC, dI) vwCl [(h0, .inr (4, [h0_0, h0_1, .int kl, h0_3, .ref h1, .ref h2, h0_6, h0_7, h0_8, h0_9])), (h1, .inl (ch1, 12, .inl fh1)), (h2, .inl (ch2, 12, .inl fh2))] s.heap := hP
  have w__fieldLink_RX4_15_ShellHeap_Known_layersSeen_I_ := hts (.fieldLink RX4 15 "ShellHeap$Known" "layersSeen" "I") (z_mc (z_ml z_m0))
  have hiX4 := show ∀ w ∈ u_ws RX4 TX4 10, w ∈ u_s_X4_setRanksK from fun w h => z_mc (z_mr (z_ml h))
  have w__fieldLink_RX4_26_ShellHeap_Known_ranks_I_ := hts (.fieldLink RX4 26 "ShellHeap$Known" "ranks" "[I") (z_mc (z_ml z_m5))
  have hl := lv_entry ([.ref h0]) (n := 3) (Nat.le_of_ble_eq_true rfl)
  rw [lg_entry_eq]
  generalize (lg_sl ([.ref h0]) ++ List.replicate (3 - (lg_sl ([.ref h0])).length) Slot.unset).toArray = ls at hl ⊢
  have hl : lv_has ls 3 [(0, .ref h0)] := hl
  refine z_nameQ (fun QQ hQQ => ?_)
  refine lv_iconst (v := 0) hx hb dX4_setRanks_0 (by decide) ?_
  refine lv_istore_n (lv' := [(1, .int 0), (0, .ref h0)]) hx hb dX4_setRanks_1 rfl hl (by decide) rfl (fun ls hl => ?_)
  have loop_1 : ∀ (n_2 : Nat) (i_4 : Int32) (f_5 : Nat → Int32) (H : Heap) (locs : List Loc) (ls : Array Slot), (13 - (i_4).toInt).toNat < n_2 → (((0 : Int) ≤ (i_4).toInt ∧ (i_4).toInt ≤ (12 : Int))) → (k_z (i_4).toInt f_5) → va_P (dC, dI) vwCl [(h0, .inr (4, [h0_0, h0_1, .int kl, h0_3, .ref h1, .ref h2, h0_6, h0_7, h0_8, h0_9])), (h1, .inl (ch1, 12, .inl fh1)), (h2, .inl (ch2, 12, .inl f_5))] H → va_D A [(h0, .inr (4, [h0_0, h0_1, .int kl, h0_3, .ref h1, .ref h2, h0_6, h0_7, h0_8, h0_9])), (h1, .inl (ch1, 12, .inl fh1)), (h2, .inl (ch2, 12, .inl f_5))] → va_S A s.heap H locs → lv_has ls 3 [(1, .int i_4), (0, .ref h0)] → W p l e ({ frames := 2, cells := 0, slots := 0, locals := 44 } : Room) s m ([.ref h0] : List Value).toArray below meth c H locs 0 0 QQ (F0 m 2 ls []) := by
    intro n_2
    induction n_2 with
    | zero => intro i_4 f_5 H locs ls hm; exact absurd hm (Nat.not_lt_zero _)
    | succ n_2 ih_3 =>
      intro i_4 f_5 H locs ls hm hF_6 hF_7 hP hD hS hl
      refine lv_iload_n hx hb dX4_setRanks_2 rfl (lv_at hl 0 rfl) ?_
      refine lv_aload_n hx hb dX4_setRanks_3 rfl (lv_at hl 1 rfl) ?_
      refine va_get (D := (dC, dI)) (ci := 4) (v := .int kl) (C := RX4) (T := TX4) (N := 10) hx hb hts hiX4 hown hK hP 0 rfl rfl 2 (by decide) w__fieldLink_RX4_15_ShellHeap_Known_layersSeen_I_ (fun _ h9 => h9) rfl dX4_setRanks_4 ?_
      refine lv_icmp_ge (tgt := 23) hx hb dX4_setRanks_7 (by decide) (fun c_8 => ?_) (fun c_8 => ?_)
      · have k_9 : (kl).toInt ≤ (i_4).toInt := z_le c_8
        refine lv_iconst (v := 0) hx hb dX4_setRanks_23 (by decide) ?_
        refine lv_istore_n (lv' := [(1, .int 0), (0, .ref h0)]) hx hb dX4_setRanks_24 rfl hl (by decide) rfl (fun ls hl => ?_)
        have loop_10 : ∀ (n_11 : Nat) (i_13 : Int32) (f_14 : Nat → Int32) (H : Heap) (locs : List Loc) (ls : Array Slot), (13 - (i_13).toInt).toNat < n_11 → (((0 : Int) ≤ (i_13).toInt ∧ (i_13).toInt ≤ (12 : Int))) → (k_rs (k_M (kl).toInt fh1) (kl).toInt f_14) → (k_rt (k_M (kl).toInt fh1) (kl).toInt (i_13).toInt f_14) → va_P (dC, dI) vwCl [(h0, .inr (4, [h0_0, h0_1, .int kl, h0_3, .ref h1, .ref h2, h0_6, h0_7, h0_8, h0_9])), (h1, .inl (ch1, 12, .inl fh1)), (h2, .inl (ch2, 12, .inl f_14))] H → va_D A [(h0, .inr (4, [h0_0, h0_1, .int kl, h0_3, .ref h1, .ref h2, h0_6, h0_7, h0_8, h0_9])), (h1, .inl (ch1, 12, .inl fh1)), (h2, .inl (ch2, 12, .inl f_14))] → va_S A s.heap H locs → lv_has ls 3 [(1, .int i_13), (0, .ref h0)] → W p l e ({ frames := 2, cells := 0, slots := 0, locals := 44 } : Room) s m ([.ref h0] : List Value).toArray below meth c H locs 0 0 QQ (F0 m 25 ls []) := by
          intro n_11
          induction n_11 with
          | zero => intro i_13 f_14 H locs ls hm; exact absurd hm (Nat.not_lt_zero _)
          | succ n_11 ih_12 =>
            intro i_13 f_14 H locs ls hm hF_15 hF_16 hF_17 hP hD hS hl
            refine lv_iload_n hx hb dX4_setRanks_25 rfl (lv_at hl 0 rfl) ?_
            refine lv_aload_n hx hb dX4_setRanks_26 rfl (lv_at hl 1 rfl) ?_
            refine va_get (D := (dC, dI)) (ci := 4) (v := .int kl) (C := RX4) (T := TX4) (N := 10) hx hb hts hiX4 hown hK hP 0 rfl rfl 2 (by decide) w__fieldLink_RX4_15_ShellHeap_Known_layersSeen_I_ (fun _ h9 => h9) rfl dX4_setRanks_27 ?_
            refine lv_icmp_ge (tgt := 60) hx hb dX4_setRanks_30 (by decide) (fun c_18 => ?_) (fun c_18 => ?_)
            · have k_19 : (kl).toInt ≤ (i_13).toInt := z_le c_18
              refine z_backQ hQQ ?_
              have hP9 := hP
              have hD9 := hD
              have hK9 := hK.sub (tys' := []) [] rfl
              refine W.widen (k := 0) (n := 0) (Nat.le_of_ble_eq_true rfl) (Nat.le_of_ble_eq_true rfl) ?_
              exact W.vret hx hb hr (fun t ht hW => ⟨⟨(), rfl, trivial, ⟨f_14, (show k_RK (k_M kl.toInt fh1) kl.toInt f_14 from k_RK_of k_M_in hT hF_16 hF_17 (by omega)), by rw [ht]; exact hP9, va_K.moved hW.alike hK9, hD9⟩⟩, hS.F ht⟩) hS.2.2 dX4_setRanks_60
            · have k_20 : (kl).toInt > (i_13).toInt := z_nle c_18
              refine lv_iconst (v := 0) hx hb dX4_setRanks_33 (by decide) ?_
              refine lv_istore_n (lv' := [(2, .int 0), (1, .int i_13), (0, .ref h0)]) hx hb dX4_setRanks_34 rfl hl (by decide) rfl (fun ls hl => ?_)
              have loop_21 : ∀ (n_22 : Nat) (i_24 : Int32) (f_25 : Nat → Int32) (H : Heap) (locs : List Loc) (ls : Array Slot), (13 - (i_24).toInt).toNat < n_22 → (((0 : Int) ≤ (i_24).toInt ∧ (i_24).toInt ≤ (12 : Int))) → (k_rs (k_M (kl).toInt fh1) (kl).toInt f_25) → (k_rp (k_M (kl).toInt fh1) (kl).toInt f_14 (i_24).toInt f_25) → va_P (dC, dI) vwCl [(h0, .inr (4, [h0_0, h0_1, .int kl, h0_3, .ref h1, .ref h2, h0_6, h0_7, h0_8, h0_9])), (h1, .inl (ch1, 12, .inl fh1)), (h2, .inl (ch2, 12, .inl f_25))] H → va_D A [(h0, .inr (4, [h0_0, h0_1, .int kl, h0_3, .ref h1, .ref h2, h0_6, h0_7, h0_8, h0_9])), (h1, .inl (ch1, 12, .inl fh1)), (h2, .inl (ch2, 12, .inl f_25))] → va_S A s.heap H locs → lv_has ls 3 [(2, .int i_24), (1, .int i_13), (0, .ref h0)] → W p l e ({ frames := 2, cells := 0, slots := 0, locals := 44 } : Room) s m ([.ref h0] : List Value).toArray below meth c H locs 0 0 QQ (F0 m 35 ls []) := by
                intro n_22
                induction n_22 with
                | zero => intro i_24 f_25 H locs ls hm; exact absurd hm (Nat.not_lt_zero _)
                | succ n_22 ih_23 =>
                  intro i_24 f_25 H locs ls hm hF_26 hF_27 hF_28 hP hD hS hl
                  refine lv_iload_n hx hb dX4_setRanks_35 rfl (lv_at hl 0 rfl) ?_
                  refine lv_aload_n hx hb dX4_setRanks_36 rfl (lv_at hl 2 rfl) ?_
                  refine va_get (D := (dC, dI)) (ci := 4) (v := .int kl) (C := RX4) (T := TX4) (N := 10) hx hb hts hiX4 hown hK hP 0 rfl rfl 2 (by decide) w__fieldLink_RX4_15_ShellHeap_Known_layersSeen_I_ (fun _ h9 => h9) rfl dX4_setRanks_37 ?_
                  refine lv_icmp_ge (tgt := 54) hx hb dX4_setRanks_40 (by decide) (fun c_29 => ?_) (fun c_29 => ?_)
                  · have k_30 : (kl).toInt ≤ (i_24).toInt := z_le c_29
                    obtain ⟨z_31, ez_31⟩ : ∃ y : Int32, y = i_13 + 1 := ⟨_, rfl⟩
                    have kz_31 : (z_31).toInt = (i_13).toInt + (1 : Int) := by rw [ez_31]; exact z_add (b := 1) rfl rfl (z_al hF_15.1 (by decide)) (z_ah hF_15.2 (by decide))
                    refine lv_iinc (v := z_31) (lv' := [(1, .int z_31), (2, .int i_24), (0, .ref h0)]) hx hb dX4_setRanks_54 hl (k := 1) rfl (by rw [ez_31]; rfl) (by decide) rfl (fun ls hl => ?_)
                    refine lv_goto (tgt := 25) hx hb dX4_setRanks_57 (by decide) ?_
                    exact ih_12 z_31 f_25 _ _ _ (show (13 - (z_31).toInt).toNat < n_11 by omega) (show ((0 : Int) ≤ (z_31).toInt ∧ (z_31).toInt ≤ (12 : Int)) by omega) (show k_rs (k_M (kl).toInt fh1) (kl).toInt f_25 from hF_27) (show k_rt (k_M (kl).toInt fh1) (kl).toInt (z_31).toInt f_25 from k_rt_s (fun x y q => k_M_in x y q) hF_17 hF_28 (by omega) (by omega) hF_27) hP hD hS (lv_sub hl [0, 2] rfl)
                  · have k_32 : (kl).toInt > (i_24).toInt := z_nle c_29
                    refine lv_aload_n hx hb dX4_setRanks_43 rfl (lv_at hl 2 rfl) ?_
                    refine lv_iload_n hx hb dX4_setRanks_44 rfl (lv_at hl 0 rfl) ?_
                    have hPc := hP
                    have hDc := hD
                    have hKc := hK
                    have hFc := z_freeI hD hS hA
                    refine va_callv (va_runV (As := [.int i_24]) (rest := []) ⟨hx, hb, hml, hown, hts⟩ (s_X4_raiseRankK l dC dI H.size h0 i_24 h0_0 h0_1 kl h0_3 h1 h2 h0_6 h0_7 h0_8 h0_9 ch1 fh1 ch2 f_25 hB_kl (by first | omega | decide) hT hF_27 (by first | omega | decide)) (cwV 1 hts gw_s_X4_setRanksK_s_X4_raiseRankK_98 rfl rfl rfl (by decide +kernel) ⟨Nat.le_of_ble_eq_true rfl, Nat.le_of_ble_eq_true rfl⟩) ⟨z_blind, va_recv hKc hPc (ci := 4) (q0 := 0) rfl rfl, z_pre hPc hKc hDc⟩ rfl rfl hl.1 rfl (lv_room (Nat.le_of_ble_eq_true rfl)) dX4_setRanks_45 ⟨Nat.le_of_ble_eq_true rfl, Nat.le_of_ble_eq_true rfl⟩) hS (fun q _ h => hFc q h) hFc (fun u t H_33 locs ht hvm hw_35 hB hz1 hk1 hS => ?_)
                    obtain ⟨g_h2_36, hp_37, hp_38, hP1, hK1, hD1⟩ := hB
                    rw [ht] at hP1
                    have hK1 := va_K.moved hvm.symm hK1
                    obtain ⟨hP, hD⟩ := z_ap_0 (va_join (wr := []) hP hD [0, 1, 2] [] rfl rfl (by decide) (by decide) hk1 hFc hP1 hD1)
                    have hp_37 : k_rs (k_M kl.toInt fh1) kl.toInt g_h2_36 := hp_37
                    have hp_38 : k_rr (k_M kl.toInt fh1) kl.toInt i_24.toInt f_25 g_h2_36 := hp_38
                    clear hPc hDc hKc
                    obtain ⟨z_39, ez_39⟩ : ∃ y : Int32, y = i_24 + 1 := ⟨_, rfl⟩
                    have kz_39 : (z_39).toInt = (i_24).toInt + (1 : Int) := by rw [ez_39]; exact z_add (b := 1) rfl rfl (z_al hF_26.1 (by decide)) (z_ah hF_26.2 (by decide))
                    refine lv_iinc (v := z_39) (lv' := [(2, .int z_39), (1, .int i_13), (0, .ref h0)]) hx hb dX4_setRanks_48 hl (k := 0) rfl (by rw [ez_39]; rfl) (by decide) rfl (fun ls hl => ?_)
                    refine lv_goto (tgt := 35) hx hb dX4_setRanks_51 (by decide) ?_
                    exact ih_23 z_39 g_h2_36 _ _ _ (show (13 - (z_39).toInt).toNat < n_22 by omega) (show ((0 : Int) ≤ (z_39).toInt ∧ (z_39).toInt ≤ (12 : Int)) by omega) (show k_rs (k_M (kl).toInt fh1) (kl).toInt g_h2_36 from hp_37) (show k_rp (k_M (kl).toInt fh1) (kl).toInt f_14 (z_39).toInt g_h2_36 from k_rp_s (i := i_24) hF_28 (by omega) (by omega) hp_38) hP hD hS (lv_sub hl [0, 1, 2] rfl)
              exact loop_21 _ 0 f_14 _ _ _ (Nat.lt_succ_self _) (show ((0 : Int) ≤ (0 : Int) ∧ (0 : Int) ≤ (12 : Int)) by omega) (show k_rs (k_M (kl).toInt fh1) (kl).toInt f_14 from hF_16) (show k_rp (k_M (kl).toInt fh1) (kl).toInt f_14 (0 : Int) f_14 from k_rp_0) hP hD hS hl
        exact loop_10 _ 0 f_5 _ _ _ (Nat.lt_succ_self _) (show ((0 : Int) ≤ (0 : Int) ∧ (0 : Int) ≤ (12 : Int)) by omega) (show k_rs (k_M (kl).toInt fh1) (kl).toInt f_5 from k_z_rs hF_7 (by omega)) (show k_rt (k_M (kl).toInt fh1) (kl).toInt (0 : Int) f_5 from k_rt_0 (k_z_rs hF_7 (by omega))) hP hD hS hl
      · have k_40 : (kl).toInt > (i_4).toInt := z_nle c_8
        refine lv_aload_n hx hb dX4_setRanks_10 rfl (lv_at hl 1 rfl) ?_
        refine va_get (D := (dC, dI)) (ci := 4) (v := .ref h2) (C := RX4) (T := TX4) (N := 10) hx hb hts hiX4 hown hK hP 0 rfl rfl 5 (by decide) w__fieldLink_RX4_26_ShellHeap_Known_ranks_I_ (fun _ h9 => h9) rfl dX4_setRanks_11 ?_
        refine lv_iload_n hx hb dX4_setRanks_14 rfl (lv_at hl 0 rfl) ?_
        refine lv_iconst (v := 0) hx hb dX4_setRanks_15 (by decide) ?_
        refine va_iast hx hb hK hP hD hS 2 1 rfl rfl (z_vpin (by omega) (by omega)) dX4_setRanks_16 (fun H_41 locs hP hD hS => ?_)
        obtain ⟨hP, hD⟩ := z_s_2 hP hD
        obtain ⟨z_43, ez_43⟩ : ∃ y : Int32, y = i_4 + 1 := ⟨_, rfl⟩
        have kz_43 : (z_43).toInt = (i_4).toInt + (1 : Int) := by rw [ez_43]; exact z_add (b := 1) rfl rfl (z_al hF_6.1 (by decide)) (z_ah hF_6.2 (by decide))
        refine lv_iinc (v := z_43) (lv' := [(1, .int z_43), (0, .ref h0)]) hx hb dX4_setRanks_17 hl (k := 0) rfl (by rw [ez_43]; rfl) (by decide) rfl (fun ls hl => ?_)
        refine lv_goto (tgt := 2) hx hb dX4_setRanks_20 (by decide) ?_
        exact ih_3 z_43 (upd f_5 (i_4 : Int32).toNatClampNeg 0) _ _ _ (show (13 - (z_43).toInt).toNat < n_2 by omega) (show ((0 : Int) ≤ (z_43).toInt ∧ (z_43).toInt ≤ (12 : Int)) by omega) (show k_z (z_43).toInt (upd f_5 (i_4 : Int32).toNatClampNeg 0) from k_z_s (i := i_4) hF_7 (by omega) (by decide) (by omega)) hP hD hS (lv_sub hl [0, 1] rfl)
  exact loop_1 _ 0 fh2 _ _ _ (Nat.lt_succ_self _) (show ((0 : Int) ≤ (0 : Int) ∧ (0 : Int) ≤ (12 : Int)) by omega) (show k_z (0 : Int) fh2 from k_z_0 (by decide)) hP hD hS hl
def u_s_X4_leadYearsK : List Cond := .code yX4_leadYears cX4_leadYears 3 none :: ([.fieldLink RX4 15 "ShellHeap$Known" "layersSeen" "I", .methodLink RX4 95 yX4_isLater, .instanceMethod yX4_isLater, .selects RX4 yX4_isLater yX4_isLater, .initialized RX4, .fieldLink RX4 32 "ShellHeap$Known" "least" "[I", .methodLink RX4 92 Lib.Math.max.name, .static Lib.Math.max.name, .initialized "java/lang/Math", .code Lib.Math.max.name Lib.Math.max.code 2 (some .int), .fieldLink RX4 35 "ShellHeap$Known" "greatest" "[I", .methodLink RX4 86 Lib.Math.min.name, .static Lib.Math.min.name, .code Lib.Math.min.name Lib.Math.min.code 2 (some .int)] ++ (wsX40 ++ (u_s_X4_isLaterK ++ [])))
theorem gd_s_X4_leadYearsK : z_gd u_s_X4_leadYearsK := z_gdc (by decide +kernel) (z_gda gdX4 (z_gda gd_s_X4_isLaterK (z_gd0)))
set_option maxRecDepth 20000 in
theorem gw_s_X4_leadYearsK_s_X4_isLaterK_95 : GoodIn u_s_X4_leadYearsK (wsV RX4 95 RX4 yX4_isLater u_s_X4_isLaterK) := z_gV (z_gr _ [2, 3, 4, 5] rfl (by decide +kernel)) (fun w h => ⟨z_mc (z_mr (z_mr (z_ml h))), gd_s_X4_isLaterK w h⟩)
set_option maxHeartbeats 4000000 in
set_option maxRecDepth 100000 in
theorem s_X4_leadYearsK (l : Launch) (dC : Nat → ClassId) (dI : Nat → Nat → Nat) (sz : Nat) (h0 : Nat) (h0_0 : Value) (h0_1 : Value) (kl : Int32) (h0_3 : Value) (h1 : Nat) (h0_5 : Value) (h0_6 : Value) (h2 : Nat) (h3 : Nat) (h0_9 : Value) (ch1 : ClassId) (fh1 : Nat → Int32) (ch2 : ClassId) (fh2 : Nat → Int32) (ch3 : ClassId) (fh3 : Nat → Int32) (hB_kl : ((-1 : Int) ≤ (kl).toInt ∧ (kl).toInt ≤ (12 : Int))) (hT : k_tr (k_M kl.toInt fh1)) : Met l yX4_leadYears u_s_X4_leadYearsK ({ frames := 1, cells := 0, slots := 0, locals := 22 }) (va_Pc [.ref h0] (z_C (dC, dI) vwCl [(h0, .inr (4, [h0_0, h0_1, .int kl, h0_3, .ref h1, h0_5, h0_6, .ref h2, .ref h3, h0_9])), (h1, .inl (ch1, 12, .inl fh1)), (h2, .inl (ch2, 12, .inl fh2)), (h3, .inl (ch3, 12, .inl fh3))] [(ch1, .int), (ch2, .int), (ch3, .int)] sz)) (va_Qv (fun (_ : Unit) => True) (fun (_ : Unit) (t : State) => ∃ (g_h2 : Nat → Int32), ∃ (g_h3 : Nat → Int32), (k_ly (k_M kl.toInt fh1) kl.toInt fh2 g_h2 fh3 g_h3) ∧ va_P (dC, dI) vwCl [(h0, .inr (4, [h0_0, h0_1, .int kl, h0_3, .ref h1, h0_5, h0_6, .ref h2, .ref h3, h0_9])), (h1, .inl (ch1, 12, .inl fh1)), (h2, .inl (ch2, 12, .inl g_h2)), (h3, .inl (ch3, 12, .inl g_h3))] t.heap ∧ va_K (dC, dI) vwCl [] t ∧ va_D (va_A [(h0, .inr (4, [h0_0, h0_1, .int kl, h0_3, .ref h1, h0_5, h0_6, .ref h2, .ref h3, h0_9])), (h1, .inl (ch1, 12, .inl fh1)), (h2, .inl (ch2, 12, .inl fh2)), (h3, .inl (ch3, 12, .inl fh3))] sz) [(h0, .inr (4, [h0_0, h0_1, .int kl, h0_3, .ref h1, h0_5, h0_6, .ref h2, .ref h3, h0_9])), (h1, .inl (ch1, 12, .inl fh1)), (h2, .inl (ch2, 12, .inl g_h2)), (h3, .inl (ch3, 12, .inl g_h3))]) (va_A [(h0, .inr (4, [h0_0, h0_1, .int kl, h0_3, .ref h1, h0_5, h0_6, .ref h2, .ref h3, h0_9])), (h1, .inl (ch1, 12, .inl fh1)), (h2, .inl (ch2, 12, .inl fh2)), (h3, .inl (ch3, 12, .inl fh3))] sz)) 0 0 (va_A [(h0, .inr (4, [h0_0, h0_1, .int kl, h0_3, .ref h1, h0_5, h0_6, .ref h2, .ref h3, h0_9])), (h1, .inl (ch1, 12, .inl fh1)), (h2, .inl (ch2, 12, .inl fh2)), (h3, .inl (ch3, 12, .inl fh3))] sz) := by
  refine Met.ofW (cc := cX4_leadYears) (maxL := 3) (ret := none) (by decide) rfl ?_
  intro p e s m args below meth c s₁ B hml hv
  obtain ⟨rfl, hsz, hP, hK, hD0⟩ := hv
  have hx := B.exec
  have hb := B.bytes
  have hr := B.returns
  have hts := atoms_spec (ws := u_s_X4_leadYearsK) B.pre
  have hown : s.vm.findClass RX4 = some m.cls := findClass_of_methodNamed B.named
  have hlocks := B.notSynchronized
  subst hsz
  have hD := hD0.self (sz := s.heap.size)
  generalize hAe : va_A [(h0, .inr (4, [h0_0, h0_1, .int kl, h0_3, .ref h1, h0_5, h0_6, .ref h2, .ref h3, h0_9])), (h1, .inl (ch1, 12, .inl fh1)), (h2, .inl (ch2, 12, .inl fh2)), (h3, .inl (ch3, 12, .inl fh3))] s.heap.size = A at hD ⊢
  have hA : ∀ q : Nat, s.heap.size ≤ q → A q := fun q h => by rw [← hAe]; exact Or.inr h
  have hS : va_S A s.heap s.heap [] := va_S.rf
  have hP : va_P (dC, dI) vwCl [(h0, .inr (4, [h0_0, h0_1, .int kl, h0_3, .ref h1, h0_5, h0_6, .ref h2, .ref h3, h0_9])), (h1, .inl (ch1, 12, .inl fh1)), (h2, .inl (ch2, 12, .inl fh2)), (h3, .inl (ch3, 12, .inl fh3))] s.heap := hP
  have w__fieldLink_RX4_15_ShellHeap_Known_layersSeen_I_ := hts (.fieldLink RX4 15 "ShellHeap$Known" "layersSeen" "I") (z_mc (z_ml z_m0))
  have hiX4 := show ∀ w ∈ u_ws RX4 TX4 10, w ∈ u_s_X4_leadYearsK from fun w h => z_mc (z_mr (z_ml h))
  have w__fieldLink_RX4_32_ShellHeap_Known_least_I_ := hts (.fieldLink RX4 32 "ShellHeap$Known" "least" "[I") (z_mc (z_ml z_m5))
  have w__methodLink_RX4_92_Lib_Math_max_name := hts (.methodLink RX4 92 Lib.Math.max.name) (z_mc (z_ml z_m6))
  have w__static_Lib_Math_max_name := hts (.static Lib.Math.max.name) (z_mc (z_ml z_m7))
  have w__initialized_java_lang_Math_ := hts (.initialized "java/lang/Math") (z_mc (z_ml z_m8))
  have w__code_Lib_Math_max_name_Lib_Math_max_code_2_some_int_ := hts (.code Lib.Math.max.name Lib.Math.max.code 2 (some .int)) (z_mc (z_ml z_m9))
  have w__fieldLink_RX4_35_ShellHeap_Known_greatest_I_ := hts (.fieldLink RX4 35 "ShellHeap$Known" "greatest" "[I") (z_mc (z_ml z_m10))
  have w__methodLink_RX4_86_Lib_Math_min_name := hts (.methodLink RX4 86 Lib.Math.min.name) (z_mc (z_ml z_m11))
  have w__static_Lib_Math_min_name := hts (.static Lib.Math.min.name) (z_mc (z_ml z_m12))
  have w__code_Lib_Math_min_name_Lib_Math_min_code_2_some_int_ := hts (.code Lib.Math.min.name Lib.Math.min.code 2 (some .int)) (z_mc (z_ml z_m13))
  have hl := lv_entry ([.ref h0]) (n := 3) (Nat.le_of_ble_eq_true rfl)
  rw [lg_entry_eq]
  generalize (lg_sl ([.ref h0]) ++ List.replicate (3 - (lg_sl ([.ref h0])).length) Slot.unset).toArray = ls at hl ⊢
  have hl : lv_has ls 3 [(0, .ref h0)] := hl
  refine z_nameQ (fun QQ hQQ => ?_)
  refine lv_iconst (v := 0) hx hb dX4_leadYears_0 (by decide) ?_
  refine lv_istore_n (lv' := [(1, .int 0), (0, .ref h0)]) hx hb dX4_leadYears_1 rfl hl (by decide) rfl (fun ls hl => ?_)
  have loop_1 : ∀ (n_2 : Nat) (i_4 : Int32) (f_5 : Nat → Int32) (f_6 : Nat → Int32) (H : Heap) (locs : List Loc) (ls : Array Slot), (13 - (i_4).toInt).toNat < n_2 → (((0 : Int) ≤ (i_4).toInt ∧ (i_4).toInt ≤ (12 : Int))) → (k_li (k_M (kl).toInt fh1) (kl).toInt (i_4).toInt 0 fh2 f_5) → (k_gi (k_M (kl).toInt fh1) (kl).toInt (i_4).toInt 0 fh3 f_6) → va_P (dC, dI) vwCl [(h0, .inr (4, [h0_0, h0_1, .int kl, h0_3, .ref h1, h0_5, h0_6, .ref h2, .ref h3, h0_9])), (h1, .inl (ch1, 12, .inl fh1)), (h2, .inl (ch2, 12, .inl f_5)), (h3, .inl (ch3, 12, .inl f_6))] H → va_D A [(h0, .inr (4, [h0_0, h0_1, .int kl, h0_3, .ref h1, h0_5, h0_6, .ref h2, .ref h3, h0_9])), (h1, .inl (ch1, 12, .inl fh1)), (h2, .inl (ch2, 12, .inl f_5)), (h3, .inl (ch3, 12, .inl f_6))] → va_S A s.heap H locs → lv_has ls 3 [(1, .int i_4), (0, .ref h0)] → W p l e ({ frames := 1, cells := 0, slots := 0, locals := 22 } : Room) s m ([.ref h0] : List Value).toArray below meth c H locs 0 0 QQ (F0 m 2 ls []) := by
    intro n_2
    induction n_2 with
    | zero => intro i_4 f_5 f_6 H locs ls hm; exact absurd hm (Nat.not_lt_zero _)
    | succ n_2 ih_3 =>
      intro i_4 f_5 f_6 H locs ls hm hF_7 hF_8 hF_9 hP hD hS hl
      refine lv_iload_n hx hb dX4_leadYears_2 rfl (lv_at hl 0 rfl) ?_
      refine lv_aload_n hx hb dX4_leadYears_3 rfl (lv_at hl 1 rfl) ?_
      refine va_get (D := (dC, dI)) (ci := 4) (v := .int kl) (C := RX4) (T := TX4) (N := 10) hx hb hts hiX4 hown hK hP 0 rfl rfl 2 (by decide) w__fieldLink_RX4_15_ShellHeap_Known_layersSeen_I_ (fun _ h9 => h9) rfl dX4_leadYears_4 ?_
      refine lv_icmp_ge (tgt := 83) hx hb dX4_leadYears_7 (by decide) (fun c_10 => ?_) (fun c_10 => ?_)
      · have k_11 : (kl).toInt ≤ (i_4).toInt := z_le c_10
        refine z_backQ hQQ ?_
        have hP9 := hP
        have hD9 := hD
        have hK9 := hK.sub (tys' := []) [] rfl
        refine W.widen (k := 0) (n := 0) (Nat.le_of_ble_eq_true rfl) (Nat.le_of_ble_eq_true rfl) ?_
        exact W.vret hx hb hr (fun t ht hW => ⟨⟨(), rfl, trivial, ⟨f_5, f_6, (show k_ly (k_M kl.toInt fh1) kl.toInt fh2 f_5 fh3 f_6 from k_ly_of hF_8 hF_9 (by omega)), by rw [ht]; exact hP9, va_K.moved hW.alike hK9, hD9⟩⟩, hS.F ht⟩) hS.2.2 dX4_leadYears_83
      · have k_12 : (kl).toInt > (i_4).toInt := z_nle c_10
        refine lv_iconst (v := 0) hx hb dX4_leadYears_10 (by decide) ?_
        refine lv_istore_n (lv' := [(2, .int 0), (1, .int i_4), (0, .ref h0)]) hx hb dX4_leadYears_11 rfl hl (by decide) rfl (fun ls hl => ?_)
        have loop_13 : ∀ (n_14 : Nat) (i_16 : Int32) (f_17 : Nat → Int32) (f_18 : Nat → Int32) (H : Heap) (locs : List Loc) (ls : Array Slot), (13 - (i_16).toInt).toNat < n_14 → (((0 : Int) ≤ (i_16).toInt ∧ (i_16).toInt ≤ (12 : Int))) → (k_li (k_M (kl).toInt fh1) (kl).toInt (i_4).toInt (i_16).toInt fh2 f_17) → (k_gi (k_M (kl).toInt fh1) (kl).toInt (i_4).toInt (i_16).toInt fh3 f_18) → va_P (dC, dI) vwCl [(h0, .inr (4, [h0_0, h0_1, .int kl, h0_3, .ref h1, h0_5, h0_6, .ref h2, .ref h3, h0_9])), (h1, .inl (ch1, 12, .inl fh1)), (h2, .inl (ch2, 12, .inl f_17)), (h3, .inl (ch3, 12, .inl f_18))] H → va_D A [(h0, .inr (4, [h0_0, h0_1, .int kl, h0_3, .ref h1, h0_5, h0_6, .ref h2, .ref h3, h0_9])), (h1, .inl (ch1, 12, .inl fh1)), (h2, .inl (ch2, 12, .inl f_17)), (h3, .inl (ch3, 12, .inl f_18))] → va_S A s.heap H locs → lv_has ls 3 [(2, .int i_16), (1, .int i_4), (0, .ref h0)] → W p l e ({ frames := 1, cells := 0, slots := 0, locals := 22 } : Room) s m ([.ref h0] : List Value).toArray below meth c H locs 0 0 QQ (F0 m 12 ls []) := by
          intro n_14
          induction n_14 with
          | zero => intro i_16 f_17 f_18 H locs ls hm; exact absurd hm (Nat.not_lt_zero _)
          | succ n_14 ih_15 =>
            intro i_16 f_17 f_18 H locs ls hm hF_19 hF_20 hF_21 hP hD hS hl
            refine lv_iload_n hx hb dX4_leadYears_12 rfl (lv_at hl 0 rfl) ?_
            refine lv_aload_n hx hb dX4_leadYears_13 rfl (lv_at hl 2 rfl) ?_
            refine va_get (D := (dC, dI)) (ci := 4) (v := .int kl) (C := RX4) (T := TX4) (N := 10) hx hb hts hiX4 hown hK hP 0 rfl rfl 2 (by decide) w__fieldLink_RX4_15_ShellHeap_Known_layersSeen_I_ (fun _ h9 => h9) rfl dX4_leadYears_14 ?_
            refine lv_icmp_ge (tgt := 77) hx hb dX4_leadYears_17 (by decide) (fun c_22 => ?_) (fun c_22 => ?_)
            · have k_23 : (kl).toInt ≤ (i_16).toInt := z_le c_22
              obtain ⟨z_24, ez_24⟩ : ∃ y : Int32, y = i_4 + 1 := ⟨_, rfl⟩
              have kz_24 : (z_24).toInt = (i_4).toInt + (1 : Int) := by rw [ez_24]; exact z_add (b := 1) rfl rfl (z_al hF_7.1 (by decide)) (z_ah hF_7.2 (by decide))
              refine lv_iinc (v := z_24) (lv' := [(1, .int z_24), (2, .int i_16), (0, .ref h0)]) hx hb dX4_leadYears_77 hl (k := 1) rfl (by rw [ez_24]; rfl) (by decide) rfl (fun ls hl => ?_)
              refine lv_goto (tgt := 2) hx hb dX4_leadYears_80 (by decide) ?_
              exact ih_3 z_24 f_17 f_18 _ _ _ (show (13 - (z_24).toInt).toNat < n_2 by omega) (show ((0 : Int) ≤ (z_24).toInt ∧ (z_24).toInt ≤ (12 : Int)) by omega) (show k_li (k_M (kl).toInt fh1) (kl).toInt (z_24).toInt 0 fh2 f_17 from k_li_w hF_20 (fun x y _ _ _ _ _ => by omega)) (show k_gi (k_M (kl).toInt fh1) (kl).toInt (z_24).toInt 0 fh3 f_18 from k_gi_w hF_21 (fun x y _ _ _ _ _ => by omega)) hP hD hS (lv_sub hl [0, 2] rfl)
            · have k_25 : (kl).toInt > (i_16).toInt := z_nle c_22
              refine lv_aload_n hx hb dX4_leadYears_20 rfl (lv_at hl 2 rfl) ?_
              refine lv_iload_n hx hb dX4_leadYears_21 rfl (lv_at hl 1 rfl) ?_
              refine lv_iload_n hx hb dX4_leadYears_22 rfl (lv_at hl 0 rfl) ?_
              obtain ⟨hPc, hDc⟩ := z_sub2 (ws' := [(h0, .inr (4, [h0_0, h0_1, .int kl, h0_3, .ref h1, h0_5, h0_6, .ref h2, .ref h3, h0_9])), (h1, .inl (ch1, 12, .inl fh1))]) hP hD [0, 1] (by decide) rfl
              have hKc := hK.sub (tys' := [(ch1, .int)]) [0] rfl
              have hFc := va_free (ws := []) (wc := []) (z_D0 _) hS hA [] rfl
              refine va_calli (va_runV (As := [.int i_4, .int i_16]) (rest := []) ⟨hx, hb, hml, hown, hts⟩ (s_X4_isLaterK l dC dI H.size h0 i_4 i_16 h0_0 h0_1 (.int kl) h0_3 h1 h0_5 h0_6 (.ref h2) (.ref h3) h0_9 ch1 fh1 (by first | omega | decide)) (cwV 2 hts gw_s_X4_leadYearsK_s_X4_isLaterK_95 rfl rfl rfl (by decide +kernel) ⟨Nat.le_of_ble_eq_true rfl, Nat.le_of_ble_eq_true rfl⟩) ⟨z_blind, va_recv hKc hPc (ci := 4) (q0 := 0) rfl rfl, z_pre hPc hKc hDc⟩ rfl rfl hl.1 rfl (lv_room (Nat.le_of_ble_eq_true rfl)) dX4_leadYears_23 ⟨Nat.le_of_ble_eq_true rfl, Nat.le_of_ble_eq_true rfl⟩) hS (fun q _ h => hFc q h) hFc (fun r_27 u t H_26 locs ht hvm hw_28 hB hz1 hk1 hS => ?_)
              replace hP := z_pure hP hk1
              clear hPc hDc hKc
              rcases hw_28 with ⟨rfl, hw_28⟩ | ⟨rfl, hw_28⟩
              · have hw_28 : k_bt (fh1 i_4.toNatClampNeg) i_16.toInt := hw_28
                refine lv_if_eq (tgt := 71) hx hb dX4_leadYears_26 (by decide) (fun c_29 => absurd c_29 (by decide)) (fun _ => ?_)
                refine lv_aload_n hx hb dX4_leadYears_29 rfl (lv_at hl 2 rfl) ?_
                refine va_get (D := (dC, dI)) (ci := 4) (v := .ref h2) (C := RX4) (T := TX4) (N := 10) hx hb hts hiX4 hown hK hP 0 rfl rfl 7 (by decide) w__fieldLink_RX4_32_ShellHeap_Known_least_I_ (fun _ h9 => h9) rfl dX4_leadYears_30 ?_
                refine lv_iload_n hx hb dX4_leadYears_33 rfl (lv_at hl 1 rfl) ?_
                refine lv_aload_n hx hb dX4_leadYears_34 rfl (lv_at hl 2 rfl) ?_
                refine va_get (D := (dC, dI)) (ci := 4) (v := .ref h2) (C := RX4) (T := TX4) (N := 10) hx hb hts hiX4 hown hK hP 0 rfl rfl 7 (by decide) w__fieldLink_RX4_32_ShellHeap_Known_least_I_ (fun _ h9 => h9) rfl dX4_leadYears_35 ?_
                refine lv_iload_n hx hb dX4_leadYears_38 rfl (lv_at hl 1 rfl) ?_
                refine va_iald hx hb hK hP 2 1 rfl rfl (z_vpin (by omega) (by omega)) dX4_leadYears_39 ?_
                refine lv_topi (fun z_30 ez_30 => ?_)
                have kxz_30 : (z_30).toInt = (f_17 (i_4 : Int32).toNatClampNeg).toInt := by rw [ez_30]
                refine lv_aload_n hx hb dX4_leadYears_40 rfl (lv_at hl 2 rfl) ?_
                refine va_get (D := (dC, dI)) (ci := 4) (v := .ref h2) (C := RX4) (T := TX4) (N := 10) hx hb hts hiX4 hown hK hP 0 rfl rfl 7 (by decide) w__fieldLink_RX4_32_ShellHeap_Known_least_I_ (fun _ h9 => h9) rfl dX4_leadYears_41 ?_
                refine lv_iload_n hx hb dX4_leadYears_44 rfl (lv_at hl 0 rfl) ?_
                refine va_iald hx hb hK hP 2 1 rfl rfl (z_vpin (by omega) (by omega)) dX4_leadYears_45 ?_
                refine lv_topi (fun z_31 ez_31 => ?_)
                have kxz_31 : (z_31).toInt = (f_17 (i_16 : Int32).toNatClampNeg).toInt := by rw [ez_31]
                refine va_mmax hx hb (hml.trans hl.1.symm) hown w__methodLink_RX4_92_Lib_Math_max_name w__static_Lib_Math_max_name w__initialized_java_lang_Math_ w__code_Lib_Math_max_name_Lib_Math_max_code_2_some_int_ (Nat.le_of_ble_eq_true rfl) (Nat.le_of_ble_eq_true rfl) (Nat.le_of_ble_eq_true rfl) (Nat.le_of_ble_eq_true rfl) dX4_leadYears_46 ?_
                refine lv_topi (fun z_32 ez_32 => ?_)
                have kz_32 : ((z_32).toInt = (z_30).toInt ∨ (z_32).toInt = (z_31).toInt) ∧ (z_32).toInt ≥ (z_30).toInt ∧ (z_32).toInt ≥ (z_31).toInt := z_max ez_32
                refine va_iast hx hb hK hP hD hS 2 1 rfl rfl (z_vpin (by omega) (by omega)) dX4_leadYears_49 (fun H_33 locs hP hD hS => ?_)
                obtain ⟨hP, hD⟩ := z_s_2 hP hD
                refine lv_aload_n hx hb dX4_leadYears_50 rfl (lv_at hl 2 rfl) ?_
                refine va_get (D := (dC, dI)) (ci := 4) (v := .ref h3) (C := RX4) (T := TX4) (N := 10) hx hb hts hiX4 hown hK hP 0 rfl rfl 8 (by decide) w__fieldLink_RX4_35_ShellHeap_Known_greatest_I_ (fun _ h9 => h9) rfl dX4_leadYears_51 ?_
                refine lv_iload_n hx hb dX4_leadYears_54 rfl (lv_at hl 0 rfl) ?_
                refine lv_aload_n hx hb dX4_leadYears_55 rfl (lv_at hl 2 rfl) ?_
                refine va_get (D := (dC, dI)) (ci := 4) (v := .ref h3) (C := RX4) (T := TX4) (N := 10) hx hb hts hiX4 hown hK hP 0 rfl rfl 8 (by decide) w__fieldLink_RX4_35_ShellHeap_Known_greatest_I_ (fun _ h9 => h9) rfl dX4_leadYears_56 ?_
                refine lv_iload_n hx hb dX4_leadYears_59 rfl (lv_at hl 0 rfl) ?_
                refine va_iald hx hb hK hP 3 2 rfl rfl (z_vpin (by omega) (by omega)) dX4_leadYears_60 ?_
                refine lv_topi (fun z_35 ez_35 => ?_)
                have kxz_35 : (z_35).toInt = (f_18 (i_16 : Int32).toNatClampNeg).toInt := by rw [ez_35]
                refine lv_aload_n hx hb dX4_leadYears_61 rfl (lv_at hl 2 rfl) ?_
                refine va_get (D := (dC, dI)) (ci := 4) (v := .ref h3) (C := RX4) (T := TX4) (N := 10) hx hb hts hiX4 hown hK hP 0 rfl rfl 8 (by decide) w__fieldLink_RX4_35_ShellHeap_Known_greatest_I_ (fun _ h9 => h9) rfl dX4_leadYears_62 ?_
                refine lv_iload_n hx hb dX4_leadYears_65 rfl (lv_at hl 1 rfl) ?_
                refine va_iald hx hb hK hP 3 2 rfl rfl (z_vpin (by omega) (by omega)) dX4_leadYears_66 ?_
                refine lv_topi (fun z_36 ez_36 => ?_)
                have kxz_36 : (z_36).toInt = (f_18 (i_4 : Int32).toNatClampNeg).toInt := by rw [ez_36]
                refine va_mmin hx hb (hml.trans hl.1.symm) hown w__methodLink_RX4_86_Lib_Math_min_name w__static_Lib_Math_min_name w__initialized_java_lang_Math_ w__code_Lib_Math_min_name_Lib_Math_min_code_2_some_int_ (Nat.le_of_ble_eq_true rfl) (Nat.le_of_ble_eq_true rfl) (Nat.le_of_ble_eq_true rfl) (Nat.le_of_ble_eq_true rfl) dX4_leadYears_67 ?_
                refine lv_topi (fun z_37 ez_37 => ?_)
                have kz_37 : ((z_37).toInt = (z_35).toInt ∨ (z_37).toInt = (z_36).toInt) ∧ (z_37).toInt ≤ (z_35).toInt ∧ (z_37).toInt ≤ (z_36).toInt := z_min ez_37
                refine va_iast hx hb hK hP hD hS 3 2 rfl rfl (z_vpin (by omega) (by omega)) dX4_leadYears_70 (fun H_38 locs hP hD hS => ?_)
                obtain ⟨hP, hD⟩ := z_s_3 hP hD
                obtain ⟨z_40, ez_40⟩ : ∃ y : Int32, y = i_16 + 1 := ⟨_, rfl⟩
                have kz_40 : (z_40).toInt = (i_16).toInt + (1 : Int) := by rw [ez_40]; exact z_add (b := 1) rfl rfl (z_al hF_19.1 (by decide)) (z_ah hF_19.2 (by decide))
                refine lv_iinc (v := z_40) (lv' := [(2, .int z_40), (1, .int i_4), (0, .ref h0)]) hx hb dX4_leadYears_71 hl (k := 0) rfl (by rw [ez_40]; rfl) (by decide) rfl (fun ls hl => ?_)
                refine lv_goto (tgt := 12) hx hb dX4_leadYears_74 (by decide) ?_
                exact ih_15 z_40 (upd f_17 (i_4 : Int32).toNatClampNeg z_32) (upd f_18 (i_16 : Int32).toNatClampNeg z_37) _ _ _ (show (13 - (z_40).toInt).toNat < n_14 by omega) (show ((0 : Int) ≤ (z_40).toInt ∧ (z_40).toInt ≤ (12 : Int)) by omega) (show k_li (k_M (kl).toInt fh1) (kl).toInt (i_4).toInt (z_40).toInt fh2 (upd f_17 (i_4 : Int32).toNatClampNeg z_32) from k_li_y (i := i_4) (j := i_16) hT.1 hF_20 ⟨by omega, by omega⟩ ⟨by omega, by omega⟩ (by omega) ((k_Mi ⟨by omega, by omega⟩ ⟨by omega, by omega⟩).mpr hw_28) (by omega)) (show k_gi (k_M (kl).toInt fh1) (kl).toInt (i_4).toInt (z_40).toInt fh3 (upd f_18 (i_16 : Int32).toNatClampNeg z_37) from k_gi_y (i := i_4) (j := i_16) hT.1 hF_21 ⟨by omega, by omega⟩ ⟨by omega, by omega⟩ (by omega) ((k_Mi ⟨by omega, by omega⟩ ⟨by omega, by omega⟩).mpr hw_28) (by omega)) hP hD hS (lv_sub hl [0, 1, 2] rfl)
              · have hw_28 : ¬ k_bt (fh1 i_4.toNatClampNeg) i_16.toInt := hw_28
                refine lv_if_eq (tgt := 71) hx hb dX4_leadYears_26 (by decide) (fun _ => ?_) (fun c_41 => absurd (by decide) c_41)
                obtain ⟨z_42, ez_42⟩ : ∃ y : Int32, y = i_16 + 1 := ⟨_, rfl⟩
                have kz_42 : (z_42).toInt = (i_16).toInt + (1 : Int) := by rw [ez_42]; exact z_add (b := 1) rfl rfl (z_al hF_19.1 (by decide)) (z_ah hF_19.2 (by decide))
                refine lv_iinc (v := z_42) (lv' := [(2, .int z_42), (1, .int i_4), (0, .ref h0)]) hx hb dX4_leadYears_71 hl (k := 0) rfl (by rw [ez_42]; rfl) (by decide) rfl (fun ls hl => ?_)
                refine lv_goto (tgt := 12) hx hb dX4_leadYears_74 (by decide) ?_
                exact ih_15 z_42 f_17 f_18 _ _ _ (show (13 - (z_42).toInt).toNat < n_14 by omega) (show ((0 : Int) ≤ (z_42).toInt ∧ (z_42).toInt ≤ (12 : Int)) by omega) (show k_li (k_M (kl).toInt fh1) (kl).toInt (i_4).toInt (z_42).toInt fh2 f_17 from k_li_n (i := i_4) (j := i_16) hF_20 (by omega) (fun h9 => hw_28 h9.2.2.2.2)) (show k_gi (k_M (kl).toInt fh1) (kl).toInt (i_4).toInt (z_42).toInt fh3 f_18 from k_gi_n (i := i_4) (j := i_16) hF_21 (by omega) (fun h9 => hw_28 h9.2.2.2.2)) hP hD hS (lv_sub hl [0, 1, 2] rfl)
        exact loop_13 _ 0 f_5 f_6 _ _ _ (Nat.lt_succ_self _) (show ((0 : Int) ≤ (0 : Int) ∧ (0 : Int) ≤ (12 : Int)) by omega) (show k_li (k_M (kl).toInt fh1) (kl).toInt (i_4).toInt (0 : Int) fh2 f_5 from hF_8) (show k_gi (k_M (kl).toInt fh1) (kl).toInt (i_4).toInt (0 : Int) fh3 f_6 from hF_9) hP hD hS hl
  exact loop_1 _ 0 fh2 fh3 _ _ _ (Nat.lt_succ_self _) (show ((0 : Int) ≤ (0 : Int) ∧ (0 : Int) ≤ (12 : Int)) by omega) (show k_li (k_M (kl).toInt fh1) (kl).toInt (0 : Int) 0 fh2 fh2 from k_li_0) (show k_gi (k_M (kl).toInt fh1) (kl).toInt (0 : Int) 0 fh3 fh3 from k_gi_0) hP hD hS hl
