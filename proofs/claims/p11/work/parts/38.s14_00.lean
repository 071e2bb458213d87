def u_s_J0_coder_7d493 : List Cond := .code yJ0_coder_7d493 cJ0_coder_7d493 1 (some .byte) :: ([.fieldLink RJ0 38 "java/lang/String" "COMPACT_STRINGS" "Z", .fieldLink RJ0 15 "java/lang/String" "coder" "B"] ++ [])
theorem gd_s_J0_coder_7d493 : z_gd u_s_J0_coder_7d493 := z_gdc (by decide +kernel) (z_gd0)
set_option maxHeartbeats 4000000 in
set_option maxRecDepth 100000 in
theorem s_J0_coder_7d493 (l : Launch) (dC : Nat → ClassId) (dI : Nat → Nat → Nat) (sz : Nat) (sd : Nat → Nat) (sv : Nat → Nat) (sf : Value) (sx : Nat) (hsx : sx < 7) : Met l yJ0_coder_7d493 u_s_J0_coder_7d493 ({ frames := 0, cells := 0, slots := 0, locals := 0 }) (va_Pc [.ref (sd sx)] (z_CS (dC, dI) vwCl [] [] sz sd sv sf [])) (va_Qi (fun (r : Int32) (_ : Unit) => r = 0) (fun (_ : Unit) (_ : State) => True) (va_A [] sz)) 0 0 (va_A [] sz) := by
  refine Met.ofW (cc := cJ0_coder_7d493) (maxL := 1) (ret := (some .byte)) (by decide) rfl ?_
  intro p e s m args below meth c s₁ B hml hv
  obtain ⟨rfl, ⟨hsz, hP, hK, hD0⟩, hST⟩ := hv
  have hx := B.exec
  have hb := B.bytes
  have hr := B.returns
  have hts := atoms_spec (ws := u_s_J0_coder_7d493) B.pre
  have hown : s.vm.findClass RJ0 = some m.cls := findClass_of_methodNamed B.named
  have hlocks := B.notSynchronized
  subst hsz
  have hD := hD0
  generalize hAe : va_A [] s.heap.size = A at hST ⊢
  have hA : ∀ q : Nat, s.heap.size ≤ q → A q := fun q h => by rw [← hAe]; exact Or.inr h
  have hS : va_S A s.heap s.heap [] := va_S.rf
  have hP : va_P (dC, dI) vwCl [] s.heap := hP
  have w__fieldLink_RJ0_38_java_lang_String_COMPACT_STRINGS_Z_ := hts (.fieldLink RJ0 38 "java/lang/String" "COMPACT_STRINGS" "Z") (z_mc (z_ml z_m0))
  have w__fieldLink_RJ0_15_java_lang_String_coder_B_ := hts (.fieldLink RJ0 15 "java/lang/String" "coder" "B") (z_mc (z_ml z_m1))
  have hl := lv_entry ([.ref (sd sx)]) (n := 1) (Nat.le_of_ble_eq_true rfl)
  rw [lg_entry_eq]
  generalize (lg_sl ([.ref (sd sx)]) ++ List.replicate (1 - (lg_sl ([.ref (sd sx)])).length) Slot.unset).toArray = ls at hl ⊢
  have hl : lv_has ls 1 [(0, .ref (sd sx))] := hl
  refine va_gets hx hb hST.2.1 hS hown w__fieldLink_RJ0_38_java_lang_String_COMPACT_STRINGS_Z_ (fun _ h9 => h9) dJ0_coder_7d493_0 ?_
  refine lv_if_eq (tgt := 13) hx hb dJ0_coder_7d493_3 (by decide) (fun c_1 => absurd c_1 (by decide)) (fun _ => ?_)
  refine lv_aload_n hx hb dJ0_coder_7d493_6 rfl (lv_at hl 0 rfl) ?_
  refine vk_getf hx hb (hST.1.1 sx hsx).2.1 hS hown w__fieldLink_RJ0_15_java_lang_String_coder_B_ (fun _ h9 => h9) dJ0_coder_7d493_7 ?_
  refine lv_goto (tgt := 14) hx hb dJ0_coder_7d493_10 (by decide) ?_
  refine W.widen (k := 0) (n := 0) (Nat.le_of_ble_eq_true rfl) (Nat.le_of_ble_eq_true rfl) ?_
  exact W.zret (v := 0) hx hb hr (by rfl) (fun t ht hW => ⟨⟨0, (), rfl, rfl, trivial⟩, hS.F ht⟩) hS.2.2 dJ0_coder_7d493_14
def u_s_J0_isLatin1_aae02 : List Cond := .code yJ0_isLatin1_aae02 cJ0_isLatin1_aae02 1 (some .boolean) :: ([.fieldLink RJ0 38 "java/lang/String" "COMPACT_STRINGS" "Z", .fieldLink RJ0 15 "java/lang/String" "coder" "B"] ++ [])
theorem gd_s_J0_isLatin1_aae02 : z_gd u_s_J0_isLatin1_aae02 := z_gdc (by decide +kernel) (z_gd0)
set_option maxHeartbeats 4000000 in
set_option maxRecDepth 100000 in
theorem s_J0_isLatin1_aae02 (l : Launch) (dC : Nat → ClassId) (dI : Nat → Nat → Nat) (sz : Nat) (sd : Nat → Nat) (sv : Nat → Nat) (sf : Value) (sx : Nat) (hsx : sx < 7) : Met l yJ0_isLatin1_aae02 u_s_J0_isLatin1_aae02 ({ frames := 0, cells := 0, slots := 0, locals := 0 }) (va_Pc [.ref (sd sx)] (z_CS (dC, dI) vwCl [] [] sz sd sv sf [])) (va_Qi (fun (r : Int32) (_ : Unit) => r = 1) (fun (_ : Unit) (_ : State) => True) (va_A [] sz)) 0 0 (va_A [] sz) := by
  refine Met.ofW (cc := cJ0_isLatin1_aae02) (maxL := 1) (ret := (some .boolean)) (by decide) rfl ?_
  intro p e s m args below meth c s₁ B hml hv
  obtain ⟨rfl, ⟨hsz, hP, hK, hD0⟩, hST⟩ := hv
  have hx := B.exec
  have hb := B.bytes
  have hr := B.returns
  have hts := atoms_spec (ws := u_s_J0_isLatin1_aae02) B.pre
  have hown : s.vm.findClass RJ0 = some m.cls := findClass_of_methodNamed B.named
  have hlocks := B.notSynchronized
  subst hsz
  have hD := hD0
  generalize hAe : va_A [] s.heap.size = A at hST ⊢
  have hA : ∀ q : Nat, s.heap.size ≤ q → A q := fun q h => by rw [← hAe]; exact Or.inr h
  have hS : va_S A s.heap s.heap [] := va_S.rf
  have hP : va_P (dC, dI) vwCl [] s.heap := hP
  have w__fieldLink_RJ0_38_java_lang_String_COMPACT_STRINGS_Z_ := hts (.fieldLink RJ0 38 "java/lang/String" "COMPACT_STRINGS" "Z") (z_mc (z_ml z_m0))
  have w__fieldLink_RJ0_15_java_lang_String_coder_B_ := hts (.fieldLink RJ0 15 "java/lang/String" "coder" "B") (z_mc (z_ml z_m1))
  have hl := lv_entry ([.ref (sd sx)]) (n := 1) (Nat.le_of_ble_eq_true rfl)
  rw [lg_entry_eq]
  generalize (lg_sl ([.ref (sd sx)]) ++ List.replicate (1 - (lg_sl ([.ref (sd sx)])).length) Slot.unset).toArray = ls at hl ⊢
  have hl : lv_has ls 1 [(0, .ref (sd sx))] := hl
  refine va_gets hx hb hST.2.1 hS hown w__fieldLink_RJ0_38_java_lang_String_COMPACT_STRINGS_Z_ (fun _ h9 => h9) dJ0_isLatin1_aae02_0 ?_
  refine lv_if_eq (tgt := 17) hx hb dJ0_isLatin1_aae02_3 (by decide) (fun c_1 => absurd c_1 (by decide)) (fun _ => ?_)
  refine lv_aload_n hx hb dJ0_isLatin1_aae02_6 rfl (lv_at hl 0 rfl) ?_
  refine vk_getf hx hb (hST.1.1 sx hsx).2.1 hS hown w__fieldLink_RJ0_15_java_lang_String_coder_B_ (fun _ h9 => h9) dJ0_isLatin1_aae02_7 ?_
  refine lv_if_ne (tgt := 17) hx hb dJ0_isLatin1_aae02_10 (by decide) (fun c_2 => absurd c_2 (by decide)) (fun _ => ?_)
  refine lv_iconst (v := 1) hx hb dJ0_isLatin1_aae02_13 (by decide) ?_
  refine lv_goto (tgt := 18) hx hb dJ0_isLatin1_aae02_14 (by decide) ?_
  refine W.widen (k := 0) (n := 0) (Nat.le_of_ble_eq_true rfl) (Nat.le_of_ble_eq_true rfl) ?_
  exact W.zret (v := 1) hx hb hr (by rfl) (fun t ht hW => ⟨⟨1, (), rfl, rfl, trivial⟩, hS.F ht⟩) hS.2.2 dJ0_isLatin1_aae02_18
def u_s_J0_length_8abf5 : List Cond := .code yJ0_length_8abf5 cJ0_length_8abf5 1 (some .int) :: ([.fieldLink RJ0 9 "java/lang/String" "value" "[B", .methodLink RJ0 335 yJ0_coder_7d493, .instanceMethod yJ0_coder_7d493, .selects RJ0 yJ0_coder_7d493 yJ0_coder_7d493, .initialized RJ0] ++ (u_s_J0_coder_7d493 ++ []))
theorem gd_s_J0_length_8abf5 : z_gd u_s_J0_length_8abf5 := z_gdc (by decide +kernel) (z_gda gd_s_J0_coder_7d493 (z_gd0))
set_option maxRecDepth 20000 in
theorem gw_s_J0_length_8abf5_s_J0_coder_7d493_335 : GoodIn u_s_J0_length_8abf5 (wsV RJ0 335 RJ0 yJ0_coder_7d493 u_s_J0_coder_7d493) := z_gV (z_gr _ [2, 3, 4, 5] rfl (by decide +kernel)) (fun w h => ⟨z_mc (z_mr (z_ml h)), gd_s_J0_coder_7d493 w h⟩)
set_option maxHeartbeats 4000000 in
set_option maxRecDepth 100000 in
theorem s_J0_length_8abf5 (l : Launch) (dC : Nat → ClassId) (dI : Nat → Nat → Nat) (sz : Nat) (sd : Nat → Nat) (sv : Nat → Nat) (sf : Value) (sx : Nat) (hsx : sx < 7) : Met l yJ0_length_8abf5 u_s_J0_length_8abf5 ({ frames := 1, cells := 0, slots := 0, locals := 20 }) (va_Pc [.ref (sd sx)] (z_CS (dC, dI) vwCl [] [] sz sd sv sf [])) (va_Qi (fun (r : Int32) (_ : Unit) => r.toInt = ((z_len.getD sx 0 : Nat) : Int)) (fun (_ : Unit) (_ : State) => True) (va_A [] sz)) 0 0 (va_A [] sz) := by
  refine Met.ofW (cc := cJ0_length_8abf5) (maxL := 1) (ret := (some .int)) (by decide) rfl ?_
  intro p e s m args below meth c s₁ B hml hv
  obtain ⟨rfl, ⟨hsz, hP, hK, hD0⟩, hST⟩ := hv
  have hx := B.exec
  have hb := B.bytes
  have hr := B.returns
  have hts := atoms_spec (ws := u_s_J0_length_8abf5) B.pre
  have hown : s.vm.findClass RJ0 = some m.cls := findClass_of_methodNamed B.named
  have hlocks := B.notSynchronized
  subst hsz
  have hD := hD0
  generalize hAe : va_A [] s.heap.size = A at hST ⊢
  have hA : ∀ q : Nat, s.heap.size ≤ q → A q := fun q h => by rw [← hAe]; exact Or.inr h
  have hS : va_S A s.heap s.heap [] := va_S.rf
  have hP : va_P (dC, dI) vwCl [] s.heap := hP
  have w__fieldLink_RJ0_9_java_lang_String_value_B_ := hts (.fieldLink RJ0 9 "java/lang/String" "value" "[B") (z_mc (z_ml z_m0))
  have hl := lv_entry ([.ref (sd sx)]) (n := 1) (Nat.le_of_ble_eq_true rfl)
  rw [lg_entry_eq]
  generalize (lg_sl ([.ref (sd sx)]) ++ List.replicate (1 - (lg_sl ([.ref (sd sx)])).length) Slot.unset).toArray = ls at hl ⊢
  have hl : lv_has ls 1 [(0, .ref (sd sx))] := hl
  refine lv_aload_n hx hb dJ0_length_8abf5_0 rfl (lv_at hl 0 rfl) ?_
  refine vk_getf hx hb (hST.1.1 sx hsx).2.2.1 hS hown w__fieldLink_RJ0_9_java_lang_String_value_B_ (fun _ h9 => h9) dJ0_length_8abf5_1 ?_
  refine va_tlen hx hb (hST.1.1 sx hsx).2.2.2 hS rfl dJ0_length_8abf5_4 ?_
  refine lv_topi (fun z_1 ez_1 => ?_)
  have kz_1 : (z_1).toInt = ((z_len.getD sx 0 : Nat) : Int) := by rw [ez_1]; exact z_lenI hsx
  have kkz_1 := z_len_le hsx
  refine lv_aload_n hx hb dJ0_length_8abf5_5 rfl (lv_at hl 0 rfl) ?_
  have hPc := hP
  have hDc := hD
  have hKc := hK
  have hFc := va_free (ws := []) (wc := []) (z_D0 _) hS hA [] rfl
  refine va_calli (va_runV (As := []) (rest := [.int z_1]) ⟨hx, hb, hml, hown, hts⟩ (s_J0_coder_7d493 l dC dI s.heap.size sd sv sf sx hsx) (cwV 0 hts gw_s_J0_length_8abf5_s_J0_coder_7d493_335 rfl rfl rfl (by decide +kernel) ⟨Nat.le_of_ble_eq_true rfl, Nat.le_of_ble_eq_true rfl⟩) ⟨z_blindS, vk_recv hST.1 hsx hS, z_preS hPc hKc hDc ((hST.kept hS.2.1).narrow hFc)⟩ rfl rfl hl.1 rfl (lv_room (Nat.le_of_ble_eq_true rfl)) dJ0_length_8abf5_6 ⟨Nat.le_of_ble_eq_true rfl, Nat.le_of_ble_eq_true rfl⟩) hS (fun q _ h => hFc q h) hFc (fun r_3 u t H_2 locs ht hvm hw_4 hB hz1 hk1 hS => ?_)
  replace hP := z_pure hP hk1
  clear hPc hDc hKc
  obtain rfl : r_3 = 0 := hw_4
  refine lv_ishr hx hb dJ0_length_8abf5_9 ?_
  refine lv_topi (fun z_5 ez_5 => ?_)
  have kz_5 : (z_5).toInt = (z_1).toInt := by rw [ez_5]; exact z_shr0 _
  refine W.widen (k := 0) (n := 0) (Nat.le_of_ble_eq_true rfl) (Nat.le_of_ble_eq_true rfl) ?_
  exact W.iret (v := z_5) hx hb hr (fun t ht hW => ⟨⟨z_5, (), rfl, (show (z_5).toInt = ((z_len.getD sx 0 : Nat) : Int) by omega), trivial⟩, hS.F ht⟩) hS.2.2 dJ0_length_8abf5_10
def u_s_J3_checkIndex_n : List Cond := .code yJ3_checkIndex_8e157 cJ3_checkIndex_8e157 3 (some .int) :: ([] ++ [])
set_option maxHeartbeats 4000000 in
set_option maxRecDepth 100000 in
theorem s_J3_checkIndex_n (l : Launch) (dC : Nat → ClassId) (dI : Nat → Nat → Nat) (sz : Nat) (p0 : Int32) (p1 : Int32) (hB_p0 : ((0 : Int) ≤ (p0).toInt ∧ (p0).toInt ≤ (57 : Int))) (hB_p1 : ((0 : Int) ≤ (p1).toInt ∧ (p1).toInt ≤ (57 : Int))) (hin : ((0 : Int) ≤ p0.toInt ∧ p0.toInt < p1.toInt)) : Met l yJ3_checkIndex_8e157 u_s_J3_checkIndex_n ({ frames := 0, cells := 0, slots := 0, locals := 0 }) (va_Pc [.int p0, .int p1, .null] (z_C (dC, dI) vwCl [] [] sz)) (va_Qi (fun (r : Int32) (_ : Unit) => True) (fun (_ : Unit) (_ : State) => True) (va_A [] sz)) 0 0 (va_A [] sz) := by
  refine Met.ofW (cc := cJ3_checkIndex_8e157) (maxL := 3) (ret := (some .int)) (by decide) rfl ?_
  intro p e s m args below meth c s₁ B hml hv
  obtain ⟨rfl, hsz, hP, hK, hD0⟩ := hv
  have hx := B.exec
  have hb := B.bytes
  have hr := B.returns
  have hts := atoms_spec (ws := u_s_J3_checkIndex_n) B.pre
  have hown : s.vm.findClass RJ3 = some m.cls := findClass_of_methodNamed B.named
  have hlocks := B.notSynchronized
  subst hsz
  have hD := hD0
  generalize hAe : va_A [] s.heap.size = A
  have hA : ∀ q : Nat, s.heap.size ≤ q → A q := fun q h => by rw [← hAe]; exact Or.inr h
  have hS : va_S A s.heap s.heap [] := va_S.rf
  have hP : va_P (dC, dI) vwCl [] s.heap := hP
  have hl := lv_entry ([.int p0, .int p1, .null]) (n := 3) (Nat.le_of_ble_eq_true rfl)
  rw [lg_entry_eq]
  generalize (lg_sl ([.int p0, .int p1, .null]) ++ List.replicate (3 - (lg_sl ([.int p0, .int p1, .null])).length) Slot.unset).toArray = ls at hl ⊢
  have hl : lv_has ls 3 [(0, .int p0), (1, .int p1), (2, .null)] := hl
  refine lv_iload_n hx hb dJ3_checkIndex_8e157_0 rfl (lv_at hl 0 rfl) ?_
  refine lv_if_lt (tgt := 9) hx hb dJ3_checkIndex_8e157_1 (by decide) (fun c_1 => ?_) (fun c_1 => ?_)
  · exfalso
    have k_2 : (p0).toInt < (0 : Int) := z_lt c_1
    omega
  refine lv_iload_n hx hb dJ3_checkIndex_8e157_4 rfl (lv_at hl 0 rfl) ?_
  refine lv_iload_n hx hb dJ3_checkIndex_8e157_5 rfl (lv_at hl 1 rfl) ?_
  refine lv_icmp_lt (tgt := 16) hx hb dJ3_checkIndex_8e157_6 (by decide) (fun c_3 => ?_) (fun c_3 => ?_)
  · have k_4 : (p0).toInt < (p1).toInt := z_lt c_3
    refine lv_iload_n hx hb dJ3_checkIndex_8e157_16 rfl (lv_at hl 0 rfl) ?_
    refine W.widen (k := 0) (n := 0) (Nat.le_of_ble_eq_true rfl) (Nat.le_of_ble_eq_true rfl) ?_
    exact W.iret (v := p0) hx hb hr (fun t ht hW => ⟨⟨p0, (), rfl, trivial, trivial⟩, hS.F ht⟩) hS.2.2 dJ3_checkIndex_8e157_17
  · have k_5 : (p0).toInt ≥ (p1).toInt := z_nlt c_3
    exfalso
    omega
def u_s_J3_checkIndex_r : List Cond := .code yJ3_checkIndex_8e157 cJ3_checkIndex_8e157 3 (some .int) :: ([] ++ [])
theorem gd_s_J3_checkIndex_r : z_gd u_s_J3_checkIndex_r := z_gdc (by decide +kernel) (z_gd0)
set_option maxHeartbeats 4000000 in
set_option maxRecDepth 100000 in
theorem s_J3_checkIndex_r (l : Launch) (dC : Nat → ClassId) (dI : Nat → Nat → Nat) (sz : Nat) (p0 : Int32) (p1 : Int32) (w0 : Nat) (hB_p0 : ((0 : Int) ≤ (p0).toInt ∧ (p0).toInt ≤ (57 : Int))) (hB_p1 : ((0 : Int) ≤ (p1).toInt ∧ (p1).toInt ≤ (57 : Int))) (hin : ((0 : Int) ≤ p0.toInt ∧ p0.toInt < p1.toInt)) : Met l yJ3_checkIndex_8e157 u_s_J3_checkIndex_r ({ frames := 0, cells := 0, slots := 0, locals := 0 }) (va_Pc [.int p0, .int p1, .ref w0] (z_C (dC, dI) vwCl [] [] sz)) (va_Qi (fun (r : Int32) (_ : Unit) => True) (fun (_ : Unit) (_ : State) => True) (va_A [] sz)) 0 0 (va_A [] sz) := by
  refine Met.ofW (cc := cJ3_checkIndex_8e157) (maxL := 3) (ret := (some .int)) (by decide) rfl ?_
  intro p e s m args below meth c s₁ B hml hv
  obtain ⟨rfl, hsz, hP, hK, hD0⟩ := hv
  have hx := B.exec
  have hb := B.bytes
  have hr := B.returns
  have hts := atoms_spec (ws := u_s_J3_checkIndex_r) B.pre
  have hown : s.vm.findClass RJ3 = some m.cls := findClass_of_methodNamed B.named
  have hlocks := B.notSynchronized
  subst hsz
  have hD := hD0
  generalize hAe : va_A [] s.heap.size = A
  have hA : ∀ q : Nat, s.heap.size ≤ q → A q := fun q h => by rw [← hAe]; exact Or.inr h
  have hS : va_S A s.heap s.heap [] := va_S.rf
  have hP : va_P (dC, dI) vwCl [] s.heap := hP
  have hl := lv_entry ([.int p0, .int p1, .ref w0]) (n := 3) (Nat.le_of_ble_eq_true rfl)
  rw [lg_entry_eq]
  generalize (lg_sl ([.int p0, .int p1, .ref w0]) ++ List.replicate (3 - (lg_sl ([.int p0, .int p1, .ref w0])).length) Slot.unset).toArray = ls at hl ⊢
  have hl : lv_has ls 3 [(0, .int p0), (1, .int p1), (2, .ref w0)] := hl
  refine lv_iload_n hx hb dJ3_checkIndex_8e157_0 rfl (lv_at hl 0 rfl) ?_
  refine lv_if_lt (tgt := 9) hx hb dJ3_checkIndex_8e157_1 (by decide) (fun c_1 => ?_) (fun c_1 => ?_)
  · exfalso
    have k_2 : (p0).toInt < (0 : Int) := z_lt c_1
    omega
  refine lv_iload_n hx hb dJ3_checkIndex_8e157_4 rfl (lv_at hl 0 rfl) ?_
  refine lv_iload_n hx hb dJ3_checkIndex_8e157_5 rfl (lv_at hl 1 rfl) ?_
  refine lv_icmp_lt (tgt := 16) hx hb dJ3_checkIndex_8e157_6 (by decide) (fun c_3 => ?_) (fun c_3 => ?_)
  · have k_4 : (p0).toInt < (p1).toInt := z_lt c_3
    refine lv_iload_n hx hb dJ3_checkIndex_8e157_16 rfl (lv_at hl 0 rfl) ?_
    refine W.widen (k := 0) (n := 0) (Nat.le_of_ble_eq_true rfl) (Nat.le_of_ble_eq_true rfl) ?_
    exact W.iret (v := p0) hx hb hr (fun t ht hW => ⟨⟨p0, (), rfl, trivial, trivial⟩, hS.F ht⟩) hS.2.2 dJ3_checkIndex_8e157_17
  · have k_5 : (p0).toInt ≥ (p1).toInt := z_nlt c_3
    exfalso
    omega
def u_s_J3_checkIndex_w : List Cond := u_s_J3_checkIndex_r
theorem gd_s_J3_checkIndex_w : z_gd u_s_J3_checkIndex_w := gd_s_J3_checkIndex_r
theorem s_J3_checkIndex_w (l : Launch) (dC : Nat → ClassId) (dI : Nat → Nat → Nat) (sz : Nat) (p0 : Int32) (p1 : Int32) (w0 : Value) (hB_p0 : ((0 : Int) ≤ (p0).toInt ∧ (p0).toInt ≤ (57 : Int))) (hB_p1 : ((0 : Int) ≤ (p1).toInt ∧ (p1).toInt ≤ (57 : Int))) (hin : ((0 : Int) ≤ p0.toInt ∧ p0.toInt < p1.toInt)) (hw0 : w0 = .null ∨ ∃ t9 : Nat, w0 = .ref t9) : Met l yJ3_checkIndex_8e157 u_s_J3_checkIndex_w ({ frames := 0, cells := 0, slots := 0, locals := 0 }) (va_Pc [.int p0, .int p1, w0] (z_C (dC, dI) vwCl [] [] sz)) (va_Qi (fun (r : Int32) (_ : Unit) => True) (fun (_ : Unit) (_ : State) => True) (va_A [] sz)) 0 0 (va_A [] sz) := by
  rcases hw0 with rfl | ⟨t9, rfl⟩
  · exact s_J3_checkIndex_n l dC dI sz p0 p1 hB_p0 hB_p1 hin
  · exact s_J3_checkIndex_r l dC dI sz p0 p1 t9 hB_p0 hB_p1 hin
def u_s_J0_checkIndex_df160 : List Cond := .code yJ0_checkIndex_df160 cJ0_checkIndex_df160 2 none :: ([.fieldLink RJ0 1053 "jdk/internal/util/Preconditions" "SIOOBE_FORMATTER" "Ljava/util/function/BiFunction;", .methodLink RJ0 1059 yJ3_checkIndex_8e157, .static yJ3_checkIndex_8e157, .initialized RJ3] ++ (u_s_J3_checkIndex_w ++ []))
theorem gd_s_J0_checkIndex_df160 : z_gd u_s_J0_checkIndex_df160 := z_gdc (by decide +kernel) (z_gda gd_s_J3_checkIndex_w (z_gd0))
set_option maxRecDepth 20000 in
theorem gw_s_J0_checkIndex_df160_s_J3_checkIndex_w_1059 : GoodIn u_s_J0_checkIndex_df160 (va_wsS RJ0 1059 yJ3_checkIndex_8e157 u_s_J3_checkIndex_w) := z_gS (z_gr _ [2, 3, 4] rfl (by decide +kernel)) (fun w h => ⟨z_mc (z_mr (z_ml h)), gd_s_J3_checkIndex_w w h⟩)
set_option maxHeartbeats 4000000 in
set_option maxRecDepth 100000 in
theorem s_J0_checkIndex_df160 (l : Launch) (dC : Nat → ClassId) (dI : Nat → Nat → Nat) (sz : Nat) (sd : Nat → Nat) (sv : Nat → Nat) (sf : Value) (p0 : Int32) (p1 : Int32) (hB_p0 : ((0 : Int) ≤ (p0).toInt ∧ (p0).toInt ≤ (57 : Int))) (hB_p1 : ((0 : Int) ≤ (p1).toInt ∧ (p1).toInt ≤ (57 : Int))) (hin : ((0 : Int) ≤ p0.toInt ∧ p0.toInt < p1.toInt)) : Met l yJ0_checkIndex_df160 u_s_J0_checkIndex_df160 ({ frames := 1, cells := 0, slots := 0, locals := 22 }) (va_Pc [.int p0, .int p1] (z_CS (dC, dI) vwCl [] [] sz sd sv sf [])) (va_Qv (fun (_ : Unit) => True) (fun (_ : Unit) (_ : State) => True) (va_A [] sz)) 0 0 (va_A [] sz) := by
  refine Met.ofW (cc := cJ0_checkIndex_df160) (maxL := 2) (ret := none) (by decide) rfl ?_
  intro p e s m args below meth c s₁ B hml hv
  obtain ⟨rfl, ⟨hsz, hP, hK, hD0⟩, hST⟩ := hv
  have hx := B.exec
  have hb := B.bytes
  have hr := B.returns
  have hts := atoms_spec (ws := u_s_J0_checkIndex_df160) B.pre
  have hown : s.vm.findClass RJ0 = some m.cls := findClass_of_methodNamed B.named
  have hlocks := B.notSynchronized
  subst hsz
  have hD := hD0
  generalize hAe : va_A [] s.heap.size = A at hST ⊢
  have hA : ∀ q : Nat, s.heap.size ≤ q → A q := fun q h => by rw [← hAe]; exact Or.inr h
  have hS : va_S A s.heap s.heap [] := va_S.rf
  have hP : va_P (dC, dI) vwCl [] s.heap := hP
  have w__fieldLink_RJ0_1053_jdk_internal_util_Preconditions_SIOOBE_FORMATTER_Ljava_util_function_BiFunction_ := hts (.fieldLink RJ0 1053 "jdk/internal/util/Preconditions" "SIOOBE_FORMATTER" "Ljava/util/function/BiFunction;") (z_mc (z_ml z_m0))
  have hl := lv_entry ([.int p0, .int p1]) (n := 2) (Nat.le_of_ble_eq_true rfl)
  rw [lg_entry_eq]
  generalize (lg_sl ([.int p0, .int p1]) ++ List.replicate (2 - (lg_sl ([.int p0, .int p1])).length) Slot.unset).toArray = ls at hl ⊢
  have hl : lv_has ls 2 [(0, .int p0), (1, .int p1)] := hl
  refine lv_iload_n hx hb dJ0_checkIndex_df160_0 rfl (lv_at hl 0 rfl) ?_
  refine lv_iload_n hx hb dJ0_checkIndex_df160_1 rfl (lv_at hl 1 rfl) ?_
  refine va_gets hx hb hST.2.2.1.1 hS hown w__fieldLink_RJ0_1053_jdk_internal_util_Preconditions_SIOOBE_FORMATTER_Ljava_util_function_BiFunction_ (fun _ h9 => h9) dJ0_checkIndex_df160_2 ?_
  have hPc := hP
  have hDc := hD
  have hKc := hK
  have hFc := va_free (ws := []) (wc := []) (z_D0 _) hS hA [] rfl
  refine va_calli (va_runS (As := [.int p0, .int p1, sf]) (rest := []) ⟨hx, hb, hml, hown, hts⟩ (s_J3_checkIndex_w l dC dI s.heap.size p0 p1 sf hB_p0 hB_p1 (by first | omega | decide) hST.2.2.1.2) (va_cwS 3 hts gw_s_J0_checkIndex_df160_s_J3_checkIndex_w_1059 rfl rfl rfl (by decide +kernel) ⟨Nat.le_of_ble_eq_true rfl, Nat.le_of_ble_eq_true rfl⟩) ⟨z_blind, z_pre hPc hKc hDc⟩ rfl rfl hl.1 rfl (lv_room (Nat.le_of_ble_eq_true rfl)) dJ0_checkIndex_df160_5 ⟨Nat.le_of_ble_eq_true rfl, Nat.le_of_ble_eq_true rfl⟩) hS (fun q _ h => hFc q h) hFc (fun r_2 u t H_1 locs ht hvm hw_3 hB hz1 hk1 hS => ?_)
  replace hP := z_pure hP hk1
  clear hPc hDc hKc
  refine lv_pop hx hb dJ0_checkIndex_df160_8 rfl ?_
  refine W.widen (k := 0) (n := 0) (Nat.le_of_ble_eq_true rfl) (Nat.le_of_ble_eq_true rfl) ?_
  exact W.vret hx hb hr (fun t ht hW => ⟨⟨(), rfl, trivial, trivial⟩, hS.F ht⟩) hS.2.2 dJ0_checkIndex_df160_9
def u_s_J1_charAt_3b067 : List Cond := .code yJ1_charAt_3b067 cJ1_charAt_3b067 2 (some .char) :: ([.methodLink RJ1 9 yJ0_checkIndex_df160, .static yJ0_checkIndex_df160, .initialized RJ0] ++ (u_s_J0_checkIndex_df160 ++ []))
theorem gd_s_J1_charAt_3b067 : z_gd u_s_J1_charAt_3b067 := z_gdc (by decide +kernel) (z_gda gd_s_J0_checkIndex_df160 (z_gd0))
set_option maxRecDepth 20000 in
theorem gw_s_J1_charAt_3b067_s_J0_checkIndex_df160_9 : GoodIn u_s_J1_charAt_3b067 (va_wsS RJ1 9 yJ0_checkIndex_df160 u_s_J0_checkIndex_df160) := z_gS (z_gr _ [1, 2, 3] rfl (by decide +kernel)) (fun w h => ⟨z_mc (z_mr (z_ml h)), gd_s_J0_checkIndex_df160 w h⟩)
set_option maxHeartbeats 4000000 in
set_option maxRecDepth 100000 in
theorem s_J1_charAt_3b067 (l : Launch) (dC : Nat → ClassId) (dI : Nat → Nat → Nat) (sz : Nat) (sd : Nat → Nat) (sv : Nat → Nat) (sf : Value) (sx : Nat) (p1 : Int32) (hB_p1 : ((0 : Int) ≤ (p1).toInt ∧ (p1).toInt ≤ (57 : Int))) (hsx : sx < 7) (hin : p1.toInt < ((z_len.getD sx 0 : Nat) : Int)) : Met l yJ1_charAt_3b067 u_s_J1_charAt_3b067 ({ frames := 2, cells := 0, slots := 0, locals := 43 }) (va_Pc [.ref (sv sx), .int p1] (z_CS (dC, dI) vwCl [] [] sz sd sv sf [])) (va_Qi (fun (r : Int32) (_ : Unit) => r = z_chr sx p1.toNatClampNeg) (fun (_ : Unit) (_ : State) => True) (va_A [] sz)) 0 0 (va_A [] sz) := by
  refine Met.ofW (cc := cJ1_charAt_3b067) (maxL := 2) (ret := (some .char)) (by decide) rfl ?_
  intro p e s m args below meth c s₁ B hml hv
  obtain ⟨rfl, ⟨hsz, hP, hK, hD0⟩, hST⟩ := hv
  have hx := B.exec
  have hb := B.bytes
  have hr := B.returns
  have hts := atoms_spec (ws := u_s_J1_charAt_3b067) B.pre
  have hown : s.vm.findClass RJ1 = some m.cls := findClass_of_methodNamed B.named
  have hlocks := B.notSynchronized
  subst hsz
  have hD := hD0
  generalize hAe : va_A [] s.heap.size = A at hST ⊢
  have hA : ∀ q : Nat, s.heap.size ≤ q → A q := fun q h => by rw [← hAe]; exact Or.inr h
  have hS : va_S A s.heap s.heap [] := va_S.rf
  have hP : va_P (dC, dI) vwCl [] s.heap := hP
  have hl := lv_entry ([.ref (sv sx), .int p1]) (n := 2) (Nat.le_of_ble_eq_true rfl)
  rw [lg_entry_eq]
  generalize (lg_sl ([.ref (sv sx), .int p1]) ++ List.replicate (2 - (lg_sl ([.ref (sv sx), .int p1])).length) Slot.unset).toArray = ls at hl ⊢
  have hl : lv_has ls 2 [(0, .ref (sv sx)), (1, .int p1)] := hl
  refine lv_iload_n hx hb dJ1_charAt_3b067_0 rfl (lv_at hl 1 rfl) ?_
  refine lv_aload_n hx hb dJ1_charAt_3b067_1 rfl (lv_at hl 0 rfl) ?_
  refine va_tlen hx hb (hST.1.1 sx hsx).2.2.2 hS rfl dJ1_charAt_3b067_2 ?_
  refine lv_topi (fun z_1 ez_1 => ?_)
  have kz_1 : (z_1).toInt = ((z_len.getD sx 0 : Nat) : Int) := by rw [ez_1]; exact z_lenI hsx
  have kkz_1 := z_len_le hsx
  have hPc := hP
  have hDc := hD
  have hKc := hK
  have hFc := va_free (ws := []) (wc := []) (z_D0 _) hS hA [] rfl
  refine va_callv (va_runS (As := [.int p1, .int z_1]) (rest := []) ⟨hx, hb, hml, hown, hts⟩ (s_J0_checkIndex_df160 l dC dI s.heap.size sd sv sf p1 z_1 hB_p1 (by first | omega | decide) (by first | omega | decide)) (va_cwS 2 hts gw_s_J1_charAt_3b067_s_J0_checkIndex_df160_9 rfl rfl rfl (by decide +kernel) ⟨Nat.le_of_ble_eq_true rfl, Nat.le_of_ble_eq_true rfl⟩) ⟨z_blindS, z_preS hPc hKc hDc ((hST.kept hS.2.1).narrow hFc)⟩ rfl rfl hl.1 rfl (lv_room (Nat.le_of_ble_eq_true rfl)) dJ1_charAt_3b067_3 ⟨Nat.le_of_ble_eq_true rfl, Nat.le_of_ble_eq_true rfl⟩) hS (fun q _ h => hFc q h) hFc (fun u t H_2 locs ht hvm hw_4 hB hz1 hk1 hS => ?_)
  replace hP := z_pure hP hk1
  clear hPc hDc hKc
  refine lv_aload_n hx hb dJ1_charAt_3b067_6 rfl (lv_at hl 0 rfl) ?_
  refine lv_iload_n hx hb dJ1_charAt_3b067_7 rfl (lv_at hl 1 rfl) ?_
  refine va_tb hx hb (hST.1.1 sx hsx).2.2.2 hS (z_vpin (by omega) (by omega)) rfl dJ1_charAt_3b067_8 ?_
  refine lv_topi (fun z_5 ez_5 => ?_)
  refine lv_sipush (v := 255) hx hb dJ1_charAt_3b067_9 (by decide) ?_
  refine lv_iand hx hb dJ1_charAt_3b067_12 ?_
  refine lv_topi (fun z_6 ez_6 => ?_)
  have kz_6 : (0 : Int) ≤ (z_6).toInt ∧ (z_6).toInt ≤ (255 : Int) := by rw [ez_6]; exact z_and _ 8 (by decide) (by decide)
  refine lv_i2c hx hb dJ1_charAt_3b067_13 rfl ?_
  refine lv_topi (fun z_7 ez_7 => ?_)
  refine W.widen (k := 0) (n := 0) (Nat.le_of_ble_eq_true rfl) (Nat.le_of_ble_eq_true rfl) ?_
  exact W.zret (v := z_7) hx hb hr (by rw [ez_7, ez_6, ez_5]; exact z_chr_nar hsx (z_ncl (by omega) hin)) (fun t ht hW => ⟨⟨z_7, (), rfl, (show z_7 = z_chr sx p1.toNatClampNeg by rw [ez_7, ez_6, ez_5]; rfl), trivial⟩, hS.F ht⟩) hS.2.2 dJ1_charAt_3b067_14
def u_s_J0_charAt_5068e : List Cond := .code yJ0_charAt_5068e cJ0_charAt_5068e 2 (some .char) :: ([.methodLink RJ0 492 yJ0_isLatin1_aae02, .instanceMethod yJ0_isLatin1_aae02, .selects RJ0 yJ0_isLatin1_aae02 yJ0_isLatin1_aae02, .initialized RJ0, .fieldLink RJ0 9 "java/lang/String" "value" "[B", .methodLink RJ0 495 yJ1_charAt_3b067, .static yJ1_charAt_3b067, .initialized RJ1] ++ (u_s_J0_isLatin1_aae02 ++ (u_s_J1_charAt_3b067 ++ [])))
theorem gd_s_J0_charAt_5068e : z_gd u_s_J0_charAt_5068e := z_gdc (by decide +kernel) (z_gda gd_s_J0_isLatin1_aae02 (z_gda gd_s_J1_charAt_3b067 (z_gd0)))
set_option maxRecDepth 20000 in
theorem gw_s_J0_charAt_5068e_s_J0_isLatin1_aae02_492 : GoodIn u_s_J0_charAt_5068e (wsV RJ0 492 RJ0 yJ0_isLatin1_aae02 u_s_J0_isLatin1_aae02) := z_gV (z_gr _ [1, 2, 3, 4] rfl (by decide +kernel)) (fun w h => ⟨z_mc (z_mr (z_ml h)), gd_s_J0_isLatin1_aae02 w h⟩)
set_option maxRecDepth 20000 in
theorem gw_s_J0_charAt_5068e_s_J1_charAt_3b067_495 : GoodIn u_s_J0_charAt_5068e (va_wsS RJ0 495 yJ1_charAt_3b067 u_s_J1_charAt_3b067) := z_gS (z_gr _ [6, 7, 8] rfl (by decide +kernel)) (fun w h => ⟨z_mc (z_mr (z_mr (z_ml h))), gd_s_J1_charAt_3b067 w h⟩)
set_option maxHeartbeats 4000000 in
set_option maxRecDepth 100000 in
theorem s_J0_charAt_5068e (l : Launch) (dC : Nat → ClassId) (dI : Nat → Nat → Nat) (sz : Nat) (sd : Nat → Nat) (sv : Nat → Nat) (sf : Value) (sx : Nat) (p1 : Int32) (hB_p1 : ((0 : Int) ≤ (p1).toInt ∧ (p1).toInt ≤ (57 : Int))) (hsx : sx < 7) (hin : p1.toInt < ((z_len.getD sx 0 : Nat) : Int)) : Met l yJ0_charAt_5068e u_s_J0_charAt_5068e ({ frames := 3, cells := 0, slots := 0, locals := 64 }) (va_Pc [.ref (sd sx), .int p1] (z_CS (dC, dI) vwCl [] [] sz sd sv sf [])) (va_Qi (fun (r : Int32) (_ : Unit) => r = z_chr sx p1.toNatClampNeg) (fun (_ : Unit) (_ : State) => True) (va_A [] sz)) 0 0 (va_A [] sz) := by
  refine Met.ofW (cc := cJ0_charAt_5068e) (maxL := 2) (ret := (some .char)) (by decide) rfl ?_
  intro p e s m args below meth c s₁ B hml hv
  obtain ⟨rfl, ⟨hsz, hP, hK, hD0⟩, hST⟩ := hv
  have hx := B.exec
  have hb := B.bytes
  have hr := B.returns
  have hts := atoms_spec (ws := u_s_J0_charAt_5068e) B.pre
  have hown : s.vm.findClass RJ0 = some m.cls := findClass_of_methodNamed B.named
  have hlocks := B.notSynchronized
  subst hsz
  have hD := hD0
  generalize hAe : va_A [] s.heap.size = A at hST ⊢
  have hA : ∀ q : Nat, s.heap.size ≤ q → A q := fun q h => by rw [← hAe]; exact Or.inr h
  have hS : va_S A s.heap s.heap [] := va_S.rf
  have hP : va_P (dC, dI) vwCl [] s.heap := hP
  have w__fieldLink_RJ0_9_java_lang_String_value_B_ := hts (.fieldLink RJ0 9 "java/lang/String" "value" "[B") (z_mc (z_ml z_m4))
  have hl := lv_entry ([.ref (sd sx), .int p1]) (n := 2) (Nat.le_of_ble_eq_true rfl)
  rw [lg_entry_eq]
  generalize (lg_sl ([.ref (sd sx), .int p1]) ++ List.replicate (2 - (lg_sl ([.ref (sd sx), .int p1])).length) Slot.unset).toArray = ls at hl ⊢
  have hl : lv_has ls 2 [(0, .ref (sd sx)), (1, .int p1)] := hl
  refine lv_aload_n hx hb dJ0_charAt_5068e_0 rfl (lv_at hl 0 rfl) ?_
  have hPc := hP
  have hDc := hD
  have hKc := hK
  have hFc := va_free (ws := []) (wc := []) (z_D0 _) hS hA [] rfl
  refine va_calli (va_runV (As := []) (rest := []) ⟨hx, hb, hml, hown, hts⟩ (s_J0_isLatin1_aae02 l dC dI s.heap.size sd sv sf sx hsx) (cwV 0 hts gw_s_J0_charAt_5068e_s_J0_isLatin1_aae02_492 rfl rfl rfl (by decide +kernel) ⟨Nat.le_of_ble_eq_true rfl, Nat.le_of_ble_eq_true rfl⟩) ⟨z_blindS, vk_recv hST.1 hsx hS, z_preS hPc hKc hDc ((hST.kept hS.2.1).narrow hFc)⟩ rfl rfl hl.1 rfl (lv_room (Nat.le_of_ble_eq_true rfl)) dJ0_charAt_5068e_1 ⟨Nat.le_of_ble_eq_true rfl, Nat.le_of_ble_eq_true rfl⟩) hS (fun q _ h => hFc q h) hFc (fun r_2 u t H_1 locs ht hvm hw_3 hB hz1 hk1 hS => ?_)
  replace hP := z_pure hP hk1
  clear hPc hDc hKc
  obtain rfl : r_2 = 1 := hw_3
  refine lv_if_eq (tgt := 16) hx hb dJ0_charAt_5068e_4 (by decide) (fun c_4 => absurd c_4 (by decide)) (fun _ => ?_)
  refine lv_aload_n hx hb dJ0_charAt_5068e_7 rfl (lv_at hl 0 rfl) ?_
  refine vk_getf hx hb (hST.1.1 sx hsx).2.2.1 hS hown w__fieldLink_RJ0_9_java_lang_String_value_B_ (fun _ h9 => h9) dJ0_charAt_5068e_8 ?_
  refine lv_iload_n hx hb dJ0_charAt_5068e_11 rfl (lv_at hl 1 rfl) ?_
  have hPc := hP
  have hDc := hD
  have hKc := hK
  have hFc := va_free (ws := []) (wc := []) (z_D0 _) hS hA [] rfl
  refine va_calli (va_runS (As := [.ref (sv sx), .int p1]) (rest := []) ⟨hx, hb, hml, hown, hts⟩ (s_J1_charAt_3b067 l dC dI H_1.size sd sv sf sx p1 hB_p1 hsx (by first | omega | decide)) (va_cwS 2 hts gw_s_J0_charAt_5068e_s_J1_charAt_3b067_495 rfl rfl rfl (by decide +kernel) ⟨Nat.le_of_ble_eq_true rfl, Nat.le_of_ble_eq_true rfl⟩) ⟨z_blindS, z_preS hPc hKc hDc ((hST.kept hS.2.1).narrow hFc)⟩ rfl rfl hl.1 rfl (lv_room (Nat.le_of_ble_eq_true rfl)) dJ0_charAt_5068e_12 ⟨Nat.le_of_ble_eq_true rfl, Nat.le_of_ble_eq_true rfl⟩) hS (fun q _ h => hFc q h) hFc (fun r_6 u t H_5 locs ht hvm hw_7 hB hz1 hk1 hS => ?_)
  replace hP := z_pure hP hk1
  clear hPc hDc hKc
  refine W.widen (k := 0) (n := 0) (Nat.le_of_ble_eq_true rfl) (Nat.le_of_ble_eq_true rfl) ?_
  exact W.zret (v := r_6) hx hb hr (by rw [hw_7]; exact z_chr_nar hsx (z_ncl (by omega) hin)) (fun t ht hW => ⟨⟨r_6, (), rfl, (show r_6 = z_chr sx p1.toNatClampNeg from hw_7), trivial⟩, hS.F ht⟩) hS.2.2 dJ0_charAt_5068e_15
def u_s_X10_wordIn : List Cond := .code yX10_wordIn cX10_wordIn 7 (some .int) :: ([.fieldLink RX10 35 "ShellHeap$Tape" "sort" "I", .fieldLink RX10 29 "ShellHeap$Tape" "start" "I", .methodLink RX10 70 yJ0_length_8abf5, .instanceMethod yJ0_length_8abf5, .selects RJ0 yJ0_length_8abf5 yJ0_length_8abf5, .initialized RJ0, .fieldLink RX10 32 "ShellHeap$Tape" "end" "I", .methodLink RX10 76 yJ0_charAt_5068e, .instanceMethod yJ0_charAt_5068e, .selects RJ0 yJ0_charAt_5068e yJ0_charAt_5068e, .methodLink RX10 50 yX10_byteAt, .instanceMethod yX10_byteAt, .selects RX10 yX10_byteAt yX10_byteAt, .initialized RX10] ++ (wsX100 ++ (u_s_J0_length_8abf5 ++ (u_s_J0_charAt_5068e ++ (u_s_X10_byteAt ++ [])))))
theorem gd_s_X10_wordIn : z_gd u_s_X10_wordIn := z_gdc (by decide +kernel) (z_gda gdX10 (z_gda gd_s_J0_length_8abf5 (z_gda gd_s_J0_charAt_5068e (z_gda gd_s_X10_byteAt (z_gd0)))))
set_option maxRecDepth 20000 in
theorem gw_s_X10_wordIn_s_J0_length_8abf5_70 : GoodIn u_s_X10_wordIn (wsV RX10 70 RJ0 yJ0_length_8abf5 u_s_J0_length_8abf5) := z_gV (z_gr _ [3, 4, 5, 6] rfl (by decide +kernel)) (fun w h => ⟨z_mc (z_mr (z_mr (z_ml h))), gd_s_J0_length_8abf5 w h⟩)
set_option maxRecDepth 20000 in
theorem gw_s_X10_wordIn_s_J0_charAt_5068e_76 : GoodIn u_s_X10_wordIn (wsV RX10 76 RJ0 yJ0_charAt_5068e u_s_J0_charAt_5068e) := z_gV (z_gr _ [8, 9, 10, 6] rfl (by decide +kernel)) (fun w h => ⟨z_mc (z_mr (z_mr (z_mr (z_ml h)))), gd_s_J0_charAt_5068e w h⟩)
set_option maxRecDepth 20000 in
theorem gw_s_X10_wordIn_s_X10_byteAt_50 : GoodIn u_s_X10_wordIn (wsV RX10 50 RX10 yX10_byteAt u_s_X10_byteAt) := z_gV (z_gr _ [11, 12, 13, 14] rfl (by decide +kernel)) (fun w h => ⟨z_mc (z_mr (z_mr (z_mr (z_mr (z_ml h))))), gd_s_X10_byteAt w h⟩)
set_option maxHeartbeats 4000000 in
set_option maxRecDepth 100000 in
theorem s_X10_wordIn (l : Launch) (dC : Nat → ClassId) (dI : Nat → Nat → Nat) (sz : Nat) (sd : Nat → Nat) (sv : Nat → Nat) (sf : Value) (sx : Nat) (h0 : Nat) (h1 : Nat) (tt : Int32) (h0_2 : Value) (h0_3 : Value) (h0_4 : Value) (ts : Int32) (te : Int32) (to : Int32) (h0_8 : Value) (h0_9 : Value) (h0_10 : Value) (ch1 : ClassId) (fh1 : Nat → Int32) (hB_tt : ((0 : Int) ≤ (tt).toInt ∧ (tt).toInt ≤ (700 : Int))) (hB_ts : ((0 : Int) ≤ (ts).toInt ∧ (ts).toInt ≤ (700 : Int))) (hB_te : ((0 : Int) ≤ (te).toInt ∧ (te).toInt ≤ (700 : Int))) (hI_h1 : ∀ j : Nat, ((0 : Int) ≤ (fh1 j).toInt ∧ (fh1 j).toInt ≤ (255 : Int))) (hsx : sx < 7) : Met l yX10_wordIn u_s_X10_wordIn ({ frames := 4, cells := 0, slots := 0, locals := 85 }) (va_Pc [.ref h0, .ref (sd sx)] (z_CS (dC, dI) vwCl [(h0, .inr (10, [.ref h1, .int tt, h0_2, h0_3, h0_4, .int ts, .int te, .int to, h0_8, h0_9, h0_10])), (h1, .inl (ch1, 700, .inl fh1))] [(ch1, .int)] sz sd sv sf [])) (va_Qi (fun (r : Int32) (_ : Unit) => ((-1 : Int) ≤ r.toInt ∧ r.toInt ≤ ((z_nw.getD sx 0 : Nat) : Int))) (fun (_ : Unit) (_ : State) => True) (va_A [] sz)) 0 0 (va_A [] sz) := by
  refine Met.ofW (cc := cX10_wordIn) (maxL := 7) (ret := (some .int)) (by decide) rfl ?_
  intro p e s m args below meth c s₁ B hml hv
  obtain ⟨rfl, ⟨hsz, hP, hK, hD0⟩, hST⟩ := hv
  have hx := B.exec
  have hb := B.bytes
  have hr := B.returns
  have hts := atoms_spec (ws := u_s_X10_wordIn) B.pre
  have hown : s.vm.findClass RX10 = some m.cls := findClass_of_methodNamed B.named
  have hlocks := B.notSynchronized
  subst hsz
  have hD := hD0
  generalize hAe : va_A [] s.heap.size = A at hST ⊢
  have hA : ∀ q : Nat, s.heap.size ≤ q → A q := fun q h => by rw [← hAe]; exact Or.inr h
  have hS : va_S A s.heap s.heap [] := va_S.rf
  have hP : va_P (dC, dI) vwCl [(h0, .inr (10, [.ref h1, .int tt, h0_2, h0_3, h0_4, .int ts, .int te, .int to, h0_8, h0_9, h0_10])), (h1, .inl (ch1, 700, .inl fh1))] s.heap := hP
  have w__fieldLink_RX10_35_ShellHeap_Tape_sort_I_ := hts (.fieldLink RX10 35 "ShellHeap$Tape" "sort" "I") (z_mc (z_ml z_m0))
  have hiX10 := show ∀ w ∈ u_ws RX10 TX10 11, w ∈ u_s_X10_wordIn from fun w h => z_mc (z_mr (z_ml h))
  have w__fieldLink_RX10_29_ShellHeap_Tape_start_I_ := hts (.fieldLink RX10 29 "ShellHeap$Tape" "start" "I") (z_mc (z_ml z_m1))
  have w__fieldLink_RX10_32_ShellHeap_Tape_end_I_ := hts (.fieldLink RX10 32 "ShellHeap$Tape" "end" "I") (z_mc (z_ml z_m6))
  have hl := lv_entry ([.ref h0, .ref (sd sx)]) (n := 7) (Nat.le_of_ble_eq_true rfl)
  rw [lg_entry_eq]
  generalize (lg_sl ([.ref h0, .ref (sd sx)]) ++ List.replicate (7 - (lg_sl ([.ref h0, .ref (sd sx)])).length) Slot.unset).toArray = ls at hl ⊢
  have hl : lv_has ls 7 [(0, .ref h0), (1, .ref (sd sx))] := hl
  refine z_nameQ (fun QQ hQQ => ?_)
  have hlen := z_len_le hsx
  have hnw := z_nw_le hsx
  refine lv_aload_n hx hb dX10_wordIn_0 rfl (lv_at hl 0 rfl) ?_
  refine va_get (D := (dC, dI)) (ci := 10) (v := .int to) (C := RX10) (T := TX10) (N := 11) hx hb hts hiX10 hown hK hP 0 rfl rfl 7 (by decide) w__fieldLink_RX10_35_ShellHeap_Tape_sort_I_ (fun _ h9 => h9) rfl dX10_wordIn_1 ?_
  refine lv_iconst (v := 1) hx hb dX10_wordIn_4 (by decide) ?_
  refine lv_icmp_eq (tgt := 10) hx hb dX10_wordIn_5 (by decide) (fun c_1 => ?_) (fun c_1 => ?_)
  · have k_2 : (to).toInt = (1 : Int) := z_eq c_1
    obtain rfl : to = 1 := z_eq' (show (to).toInt = (1 : Int) by omega)
    refine lv_iconst (v := 0) hx hb dX10_wordIn_10 (by decide) ?_
    refine lv_istore_n (lv' := [(2, .int 0), (0, .ref h0), (1, .ref (sd sx))]) hx hb dX10_wordIn_11 rfl hl (by decide) rfl (fun ls hl => ?_)
    refine lv_aload_n hx hb dX10_wordIn_12 rfl (lv_at hl 1 rfl) ?_
    refine va_get (D := (dC, dI)) (ci := 10) (v := .int ts) (C := RX10) (T := TX10) (N := 11) hx hb hts hiX10 hown hK hP 0 rfl rfl 5 (by decide) w__fieldLink_RX10_29_ShellHeap_Tape_start_I_ (fun _ h9 => h9) rfl dX10_wordIn_13 ?_
    refine lv_istore_n (lv' := [(3, .int ts), (2, .int 0), (0, .ref h0), (1, .ref (sd sx))]) hx hb dX10_wordIn_16 rfl hl (by decide) rfl (fun ls hl => ?_)
    refine lv_iconst (v := 1) hx hb dX10_wordIn_17 (by decide) ?_
    refine lv_istore (lv' := [(4, .int 1), (3, .int ts), (2, .int 0), (0, .ref h0), (1, .ref (sd sx))]) hx hb dX10_wordIn_18 hl (by decide) rfl (fun ls hl => ?_)
    refine lv_iconst (v := 0) hx hb dX10_wordIn_20 (by decide) ?_
    refine lv_istore (lv' := [(5, .int 0), (4, .int 1), (3, .int ts), (2, .int 0), (0, .ref h0), (1, .ref (sd sx))]) hx hb dX10_wordIn_21 hl (by decide) rfl (fun ls hl => ?_)
    have loop_4 : ∀ (n_5 : Nat) (w_7 : Int32) (pl_8 : Int32) (sm_9 : Int32) (i_10 : Int32) (H : Heap) (locs : List Loc) (ls : Array Slot), (59 - (i_10).toInt).toNat < n_5 → (((0 : Int) ≤ (w_7).toInt ∧ (w_7).toInt ≤ (60 : Int))) → (((0 : Int) ≤ (pl_8).toInt ∧ (pl_8).toInt ≤ (800 : Int))) → (((0 : Int) ≤ (sm_9).toInt ∧ (sm_9).toInt ≤ (1 : Int))) → (((0 : Int) ≤ (i_10).toInt ∧ (i_10).toInt ≤ (58 : Int))) → ((w_7).toInt ≤ ((z_cn sx (i_10 : Int32).toNatClampNeg : Nat) : Int)) → ((w_7).toInt ≤ (i_10).toInt) → ((pl_8).toInt ≤ 700 + (i_10).toInt) → ((i_10).toInt ≤ ((z_len.getD sx 0 : Nat) : Int) + 1) → va_P (dC, dI) vwCl [(h0, .inr (10, [.ref h1, .int tt, h0_2, h0_3, h0_4, .int ts, .int te, .int 1, h0_8, h0_9, h0_10])), (h1, .inl (ch1, 700, .inl fh1))] H → va_D (fun _ => True) [(h0, .inr (10, [.ref h1, .int tt, h0_2, h0_3, h0_4, .int ts, .int te, .int 1, h0_8, h0_9, h0_10])), (h1, .inl (ch1, 700, .inl fh1))] → va_S A s.heap H locs → lv_has ls 7 [(5, .int i_10), (4, .int sm_9), (3, .int pl_8), (2, .int w_7), (0, .ref h0), (1, .ref (sd sx))] → W p l e ({ frames := 4, cells := 0, slots := 0, locals := 85 } : Room) s m ([.ref h0, .ref (sd sx)] : List Value).toArray below meth c H locs 0 0 QQ (F0 m 23 ls []) := by
      intro n_5
      induction n_5 with
      | zero => intro w_7 pl_8 sm_9 i_10 H locs ls hm; exact absurd hm (Nat.not_lt_zero _)
      | succ n_5 ih_6 =>
        intro w_7 pl_8 sm_9 i_10 H locs ls hm hF_11 hF_12 hF_13 hF_14 hF_15 hF_16 hF_17 hF_18 hP hD hS hl
        refine lv_iload hx hb dX10_wordIn_23 (lv_at hl 0 rfl) ?_
        refine lv_aload_n hx hb dX10_wordIn_25 rfl (lv_at hl 5 rfl) ?_
        obtain ⟨hPc, hDc⟩ := z_sub2 (ws' := []) hP hD [] (by decide) rfl
        have hKc := hK.sub (tys' := []) [] rfl
        have hFc := va_free (ws := []) (wc := []) (z_D0 _) hS hA [] rfl
        refine va_calli (va_runV (As := []) (rest := [.int i_10]) ⟨hx, hb, hml, hown, hts⟩ (s_J0_length_8abf5 l dC dI H.size sd sv sf sx hsx) (cwV 0 hts gw_s_X10_wordIn_s_J0_length_8abf5_70 rfl rfl rfl (by decide +kernel) ⟨Nat.le_of_ble_eq_true rfl, Nat.le_of_ble_eq_true rfl⟩) ⟨z_blindS, vk_recv hST.1 hsx hS, z_preS hPc hKc hDc ((hST.kept hS.2.1).narrow hFc)⟩ rfl rfl hl.1 rfl (lv_room (Nat.le_of_ble_eq_true rfl)) dX10_wordIn_26 ⟨Nat.le_of_ble_eq_true rfl, Nat.le_of_ble_eq_true rfl⟩) hS (fun q _ h => hFc q h) hFc (fun r_20 u t H_19 locs ht hvm hw_21 hB hz1 hk1 hS => ?_)
        replace hP := z_pure hP hk1
        clear hPc hDc hKc
        refine lv_icmp_gt (tgt := 129) hx hb dX10_wordIn_29 (by decide) (fun c_22 => ?_) (fun c_22 => ?_)
        · have k_23 : (r_20).toInt < (i_10).toInt := z_lt c_22
          refine lv_iconst (v := (-1)) hx hb dX10_wordIn_129 (by decide) ?_
          refine z_backQ hQQ ?_
          refine W.widen (k := 0) (n := 0) (Nat.le_of_ble_eq_true rfl) (Nat.le_of_ble_eq_true rfl) ?_
          exact W.iret (v := (-1)) hx hb hr (fun t ht hW => ⟨⟨(-1), (), rfl, (show ((-1 : Int) ≤ (-1 : Int) ∧ (-1 : Int) ≤ ((z_nw.getD sx 0 : Nat) : Int)) by omega), trivial⟩, hS.F ht⟩) hS.2.2 dX10_wordIn_130
        · have k_24 : (r_20).toInt ≥ (i_10).toInt := z_nlt c_22
          refine lv_iload hx hb dX10_wordIn_32 (lv_at hl 0 rfl) ?_
          refine lv_aload_n hx hb dX10_wordIn_34 rfl (lv_at hl 5 rfl) ?_
          obtain ⟨hPc, hDc⟩ := z_sub2 (ws' := []) hP hD [] (by decide) rfl
          have hKc := hK.sub (tys' := []) [] rfl
          have hFc := va_free (ws := []) (wc := []) (z_D0 _) hS hA [] rfl
          refine va_calli (va_runV (As := []) (rest := [.int i_10]) ⟨hx, hb, hml, hown, hts⟩ (s_J0_length_8abf5 l dC dI H_19.size sd sv sf sx hsx) (cwV 0 hts gw_s_X10_wordIn_s_J0_length_8abf5_70 rfl rfl rfl (by decide +kernel) ⟨Nat.le_of_ble_eq_true rfl, Nat.le_of_ble_eq_true rfl⟩) ⟨z_blindS, vk_recv hST.1 hsx hS, z_preS hPc hKc hDc ((hST.kept hS.2.1).narrow hFc)⟩ rfl rfl hl.1 rfl (lv_room (Nat.le_of_ble_eq_true rfl)) dX10_wordIn_35 ⟨Nat.le_of_ble_eq_true rfl, Nat.le_of_ble_eq_true rfl⟩) hS (fun q _ h => hFc q h) hFc (fun r_26 u t H_25 locs ht hvm hw_27 hB hz1 hk1 hS => ?_)
          replace hP := z_pure hP hk1
          clear hPc hDc hKc
          refine lv_icmp_ge (tgt := 50) hx hb dX10_wordIn_38 (by decide) (fun c_28 => ?_) (fun c_28 => ?_)
          · have k_29 : (r_26).toInt ≤ (i_10).toInt := z_le c_28
            refine lv_bipush (v := 32) hx hb dX10_wordIn_50 (by decide) ?_
            refine lv_istore (lv' := [(6, .int 32), (5, .int i_10), (4, .int sm_9), (3, .int pl_8), (2, .int w_7), (0, .ref h0), (1, .ref (sd sx))]) hx hb dX10_wordIn_52 hl (by decide) rfl (fun ls hl => ?_)
            refine lv_iload hx hb dX10_wordIn_54 (lv_at hl 0 rfl) ?_
            refine lv_bipush (v := 32) hx hb dX10_wordIn_56 (by decide) ?_
            refine lv_icmp_eq (tgt := 97) hx hb dX10_wordIn_58 (by decide) (fun _ => ?_) (fun c_30 => absurd (by decide) c_30)
            refine lv_iload hx hb dX10_wordIn_97 (lv_at hl 2 rfl) ?_
            refine lv_if_eq (tgt := 112) hx hb dX10_wordIn_99 (by decide) (fun c_31 => ?_) (fun c_31 => ?_)
            · have k_32 : (sm_9).toInt = (0 : Int) := z_eq c_31
              obtain rfl : sm_9 = 0 := z_eq' (show (sm_9).toInt = (0 : Int) by omega)
              obtain ⟨z_34, ez_34⟩ : ∃ y : Int32, y = w_7 + 1 := ⟨_, rfl⟩
              have kz_34 : (z_34).toInt = (w_7).toInt + (1 : Int) := by rw [ez_34]; exact z_add (b := 1) rfl rfl (z_al hF_11.1 (by decide)) (z_ah hF_11.2 (by decide))
              refine lv_iinc (v := z_34) (lv' := [(2, .int z_34), (6, .int 32), (5, .int i_10), (4, .int 0), (3, .int pl_8), (0, .ref h0), (1, .ref (sd sx))]) hx hb dX10_wordIn_112 hl (k := 4) rfl (by rw [ez_34]; rfl) (by decide) rfl (fun ls hl => ?_)
              refine lv_aload_n hx hb dX10_wordIn_115 rfl (lv_at hl 5 rfl) ?_
              refine va_get (D := (dC, dI)) (ci := 10) (v := .int ts) (C := RX10) (T := TX10) (N := 11) hx hb hts hiX10 hown hK hP 0 rfl rfl 5 (by decide) w__fieldLink_RX10_29_ShellHeap_Tape_start_I_ (fun _ h9 => h9) rfl dX10_wordIn_116 ?_
              refine lv_istore_n (lv' := [(3, .int ts), (2, .int z_34), (6, .int 32), (5, .int i_10), (4, .int 0), (0, .ref h0), (1, .ref (sd sx))]) hx hb dX10_wordIn_119 rfl hl (by decide) rfl (fun ls hl => ?_)
              refine lv_iconst (v := 1) hx hb dX10_wordIn_120 (by decide) ?_
              refine lv_istore (lv' := [(4, .int 1), (3, .int ts), (2, .int z_34), (6, .int 32), (5, .int i_10), (0, .ref h0), (1, .ref (sd sx))]) hx hb dX10_wordIn_121 hl (by decide) rfl (fun ls hl => ?_)
              obtain ⟨z_35, ez_35⟩ : ∃ y : Int32, y = i_10 + 1 := ⟨_, rfl⟩
              have kz_35 : (z_35).toInt = (i_10).toInt + (1 : Int) := by rw [ez_35]; exact z_add (b := 1) rfl rfl (z_al hF_14.1 (by decide)) (z_ah hF_14.2 (by decide))
              refine lv_iinc (v := z_35) (lv' := [(5, .int z_35), (4, .int 1), (3, .int ts), (2, .int z_34), (6, .int 32), (0, .ref h0), (1, .ref (sd sx))]) hx hb dX10_wordIn_123 hl (k := 4) rfl (by rw [ez_35]; rfl) (by decide) rfl (fun ls hl => ?_)
              refine lv_goto (tgt := 23) hx hb dX10_wordIn_126 (by decide) ?_
              exact ih_6 z_34 ts 1 z_35 _ _ _ (show (59 - (z_35).toInt).toNat < n_5 by omega) (show ((0 : Int) ≤ (z_34).toInt ∧ (z_34).toInt ≤ (60 : Int)) by omega) (show ((0 : Int) ≤ (ts).toInt ∧ (ts).toInt ≤ (800 : Int)) by omega) (show ((0 : Int) ≤ (1 : Int) ∧ (1 : Int) ≤ (1 : Int)) by omega) (show ((0 : Int) ≤ (z_35).toInt ∧ (z_35).toInt ≤ (58 : Int)) by omega) (show (z_34).toInt ≤ ((z_cn sx (z_35 : Int32).toNatClampNeg : Nat) : Int) from by first | exact z_cn_s2 (w := (w_7).toInt) ez_35 (by omega) (by omega) hF_15 (by omega) (Or.inl (z_ncn (by omega))) | exact z_cn_s2 (w := (w_7).toInt) ez_35 (by omega) (by omega) hF_15 (by omega) (Or.inr (by rw [← hl]; first | decide | omega)) | exact z_cn_s1 ez_35 (by omega) (by omega) hF_15) (show (z_34).toInt ≤ (z_35).toInt by omega) (show (ts).toInt ≤ 700 + (z_35).toInt by omega) (show (z_35).toInt ≤ ((z_len.getD sx 0 : Nat) : Int) + 1 by omega) hP hD hS (lv_sub hl [0, 1, 2, 3, 5, 6] rfl)
            · have k_36 : (sm_9).toInt ≠ (0 : Int) := z_ne c_31
              obtain rfl : sm_9 = 1 := z_eq' (show (sm_9).toInt = (1 : Int) by omega)
              refine lv_iload_n hx hb dX10_wordIn_102 rfl (lv_at hl 3 rfl) ?_
              refine lv_aload_n hx hb dX10_wordIn_103 rfl (lv_at hl 5 rfl) ?_
              refine va_get (D := (dC, dI)) (ci := 10) (v := .int te) (C := RX10) (T := TX10) (N := 11) hx hb hts hiX10 hown hK hP 0 rfl rfl 6 (by decide) w__fieldLink_RX10_32_ShellHeap_Tape_end_I_ (fun _ h9 => h9) rfl dX10_wordIn_104 ?_
              refine lv_icmp_ne (tgt := 112) hx hb dX10_wordIn_107 (by decide) (fun c_38 => ?_) (fun c_38 => ?_)
              · have k_39 : (pl_8).toInt ≠ (te).toInt := z_ne c_38
                obtain ⟨z_40, ez_40⟩ : ∃ y : Int32, y = w_7 + 1 := ⟨_, rfl⟩
                have kz_40 : (z_40).toInt = (w_7).toInt + (1 : Int) := by rw [ez_40]; exact z_add (b := 1) rfl rfl (z_al hF_11.1 (by decide)) (z_ah hF_11.2 (by decide))
                refine lv_iinc (v := z_40) (lv' := [(2, .int z_40), (6, .int 32), (5, .int i_10), (4, .int 1), (3, .int pl_8), (0, .ref h0), (1, .ref (sd sx))]) hx hb dX10_wordIn_112 hl (k := 4) rfl (by rw [ez_40]; rfl) (by decide) rfl (fun ls hl => ?_)
                refine lv_aload_n hx hb dX10_wordIn_115 rfl (lv_at hl 5 rfl) ?_
                refine va_get (D := (dC, dI)) (ci := 10) (v := .int ts) (C := RX10) (T := TX10) (N := 11) hx hb hts hiX10 hown hK hP 0 rfl rfl 5 (by decide) w__fieldLink_RX10_29_ShellHeap_Tape_start_I_ (fun _ h9 => h9) rfl dX10_wordIn_116 ?_
                refine lv_istore_n (lv' := [(3, .int ts), (2, .int z_40), (6, .int 32), (5, .int i_10), (4, .int 1), (0, .ref h0), (1, .ref (sd sx))]) hx hb dX10_wordIn_119 rfl hl (by decide) rfl (fun ls hl => ?_)
                refine lv_iconst (v := 1) hx hb dX10_wordIn_120 (by decide) ?_
                refine lv_istore (lv' := [(4, .int 1), (3, .int ts), (2, .int z_40), (6, .int 32), (5, .int i_10), (0, .ref h0), (1, .ref (sd sx))]) hx hb dX10_wordIn_121 hl (by decide) rfl (fun ls hl => ?_)
                obtain ⟨z_41, ez_41⟩ : ∃ y : Int32, y = i_10 + 1 := ⟨_, rfl⟩
                have kz_41 : (z_41).toInt = (i_10).toInt + (1 : Int) := by rw [ez_41]; exact z_add (b := 1) rfl rfl (z_al hF_14.1 (by decide)) (z_ah hF_14.2 (by decide))
                refine lv_iinc (v := z_41) (lv' := [(5, .int z_41), (4, .int 1), (3, .int ts), (2, .int z_40), (6, .int 32), (0, .ref h0), (1, .ref (sd sx))]) hx hb dX10_wordIn_123 hl (k := 4) rfl (by rw [ez_41]; rfl) (by decide) rfl (fun ls hl => ?_)
                refine lv_goto (tgt := 23) hx hb dX10_wordIn_126 (by decide) ?_
                exact ih_6 z_40 ts 1 z_41 _ _ _ (show (59 - (z_41).toInt).toNat < n_5 by omega) (show ((0 : Int) ≤ (z_40).toInt ∧ (z_40).toInt ≤ (60 : Int)) by omega) (show ((0 : Int) ≤ (ts).toInt ∧ (ts).toInt ≤ (800 : Int)) by omega) (show ((0 : Int) ≤ (1 : Int) ∧ (1 : Int) ≤ (1 : Int)) by omega) (show ((0 : Int) ≤ (z_41).toInt ∧ (z_41).toInt ≤ (58 : Int)) by omega) (show (z_40).toInt ≤ ((z_cn sx (z_41 : Int32).toNatClampNeg : Nat) : Int) from by first | exact z_cn_s2 (w := (w_7).toInt) ez_41 (by omega) (by omega) hF_15 (by omega) (Or.inl (z_ncn (by omega))) | exact z_cn_s2 (w := (w_7).toInt) ez_41 (by omega) (by omega) hF_15 (by omega) (Or.inr (by rw [← hl]; first | decide | omega)) | exact z_cn_s1 ez_41 (by omega) (by omega) hF_15) (show (z_40).toInt ≤ (z_41).toInt by omega) (show (ts).toInt ≤ 700 + (z_41).toInt by omega) (show (z_41).toInt ≤ ((z_len.getD sx 0 : Nat) : Int) + 1 by omega) hP hD hS (lv_sub hl [0, 1, 2, 3, 5, 6] rfl)
              · have k_42 : (pl_8).toInt = (te).toInt := z_eq c_38
                refine lv_iload_n hx hb dX10_wordIn_110 rfl (lv_at hl 4 rfl) ?_
                refine z_backQ hQQ ?_
                refine W.widen (k := 0) (n := 0) (Nat.le_of_ble_eq_true rfl) (Nat.le_of_ble_eq_true rfl) ?_
                exact W.iret (v := w_7) hx hb hr (fun t ht hW => ⟨⟨w_7, (), rfl, (show ((-1 : Int) ≤ (w_7).toInt ∧ (w_7).toInt ≤ ((z_nw.getD sx 0 : Nat) : Int)) by have hq9 := z_cn_le (sx := sx) (k := (i_10).toNatClampNeg) hsx (z_ncle (by omega)); have hq8 := hF_15; omega), trivial⟩, hS.F ht⟩) hS.2.2 dX10_wordIn_111
          · have k_43 : (r_26).toInt > (i_10).toInt := z_nle c_28
            refine lv_aload_n hx hb dX10_wordIn_41 rfl (lv_at hl 5 rfl) ?_
            refine lv_iload hx hb dX10_wordIn_42 (lv_at hl 0 rfl) ?_
            obtain ⟨hPc, hDc⟩ := z_sub2 (ws' := []) hP hD [] (by decide) rfl
            have hKc := hK.sub (tys' := []) [] rfl
            have hFc := va_free (ws := []) (wc := []) (z_D0 _) hS hA [] rfl
            refine va_calli (va_runV (As := [.int i_10]) (rest := []) ⟨hx, hb, hml, hown, hts⟩ (s_J0_charAt_5068e l dC dI H_25.size sd sv sf sx i_10 (by first | omega | decide) hsx (by first | omega | decide)) (cwV 1 hts gw_s_X10_wordIn_s_J0_charAt_5068e_76 rfl rfl rfl (by decide +kernel) ⟨Nat.le_of_ble_eq_true rfl, Nat.le_of_ble_eq_true rfl⟩) ⟨z_blindS, vk_recv hST.1 hsx hS, z_preS hPc hKc hDc ((hST.kept hS.2.1).narrow hFc)⟩ rfl rfl hl.1 rfl (lv_room (Nat.le_of_ble_eq_true rfl)) dX10_wordIn_44 ⟨Nat.le_of_ble_eq_true rfl, Nat.le_of_ble_eq_true rfl⟩) hS (fun q _ h => hFc q h) hFc (fun r_45 u t H_44 locs ht hvm hw_46 hB hz1 hk1 hS => ?_)
            replace hP := z_pure hP hk1
            clear hPc hDc hKc
            refine lv_goto (tgt := 52) hx hb dX10_wordIn_47 (by decide) ?_
            refine lv_istore (lv' := [(6, .int r_45), (5, .int i_10), (4, .int sm_9), (3, .int pl_8), (2, .int w_7), (0, .ref h0), (1, .ref (sd sx))]) hx hb dX10_wordIn_52 hl (by decide) rfl (fun ls hl => ?_)
            refine lv_iload hx hb dX10_wordIn_54 (lv_at hl 0 rfl) ?_
            refine lv_bipush (v := 32) hx hb dX10_wordIn_56 (by decide) ?_
            refine lv_icmp_eq (tgt := 97) hx hb dX10_wordIn_58 (by decide) (fun c_47 => ?_) (fun c_47 => ?_)
            · have k_48 : (r_45).toInt = (32 : Int) := z_eq c_47
              obtain rfl : r_45 = 32 := z_eq' (show (r_45).toInt = (32 : Int) by omega)
              refine lv_iload hx hb dX10_wordIn_97 (lv_at hl 2 rfl) ?_
              refine lv_if_eq (tgt := 112) hx hb dX10_wordIn_99 (by decide) (fun c_50 => ?_) (fun c_50 => ?_)
              · have k_51 : (sm_9).toInt = (0 : Int) := z_eq c_50
                obtain rfl : sm_9 = 0 := z_eq' (show (sm_9).toInt = (0 : Int) by omega)
                obtain ⟨z_53, ez_53⟩ : ∃ y : Int32, y = w_7 + 1 := ⟨_, rfl⟩
                have kz_53 : (z_53).toInt = (w_7).toInt + (1 : Int) := by rw [ez_53]; exact z_add (b := 1) rfl rfl (z_al hF_11.1 (by decide)) (z_ah hF_11.2 (by decide))
                refine lv_iinc (v := z_53) (lv' := [(2, .int z_53), (6, .int 32), (5, .int i_10), (4, .int 0), (3, .int pl_8), (0, .ref h0), (1, .ref (sd sx))]) hx hb dX10_wordIn_112 hl (k := 4) rfl (by rw [ez_53]; rfl) (by decide) rfl (fun ls hl => ?_)
                refine lv_aload_n hx hb dX10_wordIn_115 rfl (lv_at hl 5 rfl) ?_
                refine va_get (D := (dC, dI)) (ci := 10) (v := .int ts) (C := RX10) (T := TX10) (N := 11) hx hb hts hiX10 hown hK hP 0 rfl rfl 5 (by decide) w__fieldLink_RX10_29_ShellHeap_Tape_start_I_ (fun _ h9 => h9) rfl dX10_wordIn_116 ?_
                refine lv_istore_n (lv' := [(3, .int ts), (2, .int z_53), (6, .int 32), (5, .int i_10), (4, .int 0), (0, .ref h0), (1, .ref (sd sx))]) hx hb dX10_wordIn_119 rfl hl (by decide) rfl (fun ls hl => ?_)
                refine lv_iconst (v := 1) hx hb dX10_wordIn_120 (by decide) ?_
                refine lv_istore (lv' := [(4, .int 1), (3, .int ts), (2, .int z_53), (6, .int 32), (5, .int i_10), (0, .ref h0), (1, .ref (sd sx))]) hx hb dX10_wordIn_121 hl (by decide) rfl (fun ls hl => ?_)
                obtain ⟨z_54, ez_54⟩ : ∃ y : Int32, y = i_10 + 1 := ⟨_, rfl⟩
                have kz_54 : (z_54).toInt = (i_10).toInt + (1 : Int) := by rw [ez_54]; exact z_add (b := 1) rfl rfl (z_al hF_14.1 (by decide)) (z_ah hF_14.2 (by decide))
                refine lv_iinc (v := z_54) (lv' := [(5, .int z_54), (4, .int 1), (3, .int ts), (2, .int z_53), (6, .int 32), (0, .ref h0), (1, .ref (sd sx))]) hx hb dX10_wordIn_123 hl (k := 4) rfl (by rw [ez_54]; rfl) (by decide) rfl (fun ls hl => ?_)
                refine lv_goto (tgt := 23) hx hb dX10_wordIn_126 (by decide) ?_
                exact ih_6 z_53 ts 1 z_54 _ _ _ (show (59 - (z_54).toInt).toNat < n_5 by omega) (show ((0 : Int) ≤ (z_53).toInt ∧ (z_53).toInt ≤ (60 : Int)) by omega) (show ((0 : Int) ≤ (ts).toInt ∧ (ts).toInt ≤ (800 : Int)) by omega) (show ((0 : Int) ≤ (1 : Int) ∧ (1 : Int) ≤ (1 : Int)) by omega) (show ((0 : Int) ≤ (z_54).toInt ∧ (z_54).toInt ≤ (58 : Int)) by omega) (show (z_53).toInt ≤ ((z_cn sx (z_54 : Int32).toNatClampNeg : Nat) : Int) from by first | exact z_cn_s2 (w := (w_7).toInt) ez_54 (by omega) (by omega) hF_15 (by omega) (Or.inl (z_ncn (by omega))) | exact z_cn_s2 (w := (w_7).toInt) ez_54 (by omega) (by omega) hF_15 (by omega) (Or.inr (by rw [← hw_46]; first | decide | omega)) | exact z_cn_s1 ez_54 (by omega) (by omega) hF_15) (show (z_53).toInt ≤ (z_54).toInt by omega) (show (ts).toInt ≤ 700 + (z_54).toInt by omega) (show (z_54).toInt ≤ ((z_len.getD sx 0 : Nat) : Int) + 1 by omega) hP hD hS (lv_sub hl [0, 1, 2, 3, 5, 6] rfl)
              · have k_55 : (sm_9).toInt ≠ (0 : Int) := z_ne c_50
                obtain rfl : sm_9 = 1 := z_eq' (show (sm_9).toInt = (1 : Int) by omega)
                refine lv_iload_n hx hb dX10_wordIn_102 rfl (lv_at hl 3 rfl) ?_
                refine lv_aload_n hx hb dX10_wordIn_103 rfl (lv_at hl 5 rfl) ?_
                refine va_get (D := (dC, dI)) (ci := 10) (v := .int te) (C := RX10) (T := TX10) (N := 11) hx hb hts hiX10 hown hK hP 0 rfl rfl 6 (by decide) w__fieldLink_RX10_32_ShellHeap_Tape_end_I_ (fun _ h9 => h9) rfl dX10_wordIn_104 ?_
                refine lv_icmp_ne (tgt := 112) hx hb dX10_wordIn_107 (by decide) (fun c_57 => ?_) (fun c_57 => ?_)
                · have k_58 : (pl_8).toInt ≠ (te).toInt := z_ne c_57
                  obtain ⟨z_59, ez_59⟩ : ∃ y : Int32, y = w_7 + 1 := ⟨_, rfl⟩
                  have kz_59 : (z_59).toInt = (w_7).toInt + (1 : Int) := by rw [ez_59]; exact z_add (b := 1) rfl rfl (z_al hF_11.1 (by decide)) (z_ah hF_11.2 (by decide))
                  refine lv_iinc (v := z_59) (lv' := [(2, .int z_59), (6, .int 32), (5, .int i_10), (4, .int 1), (3, .int pl_8), (0, .ref h0), (1, .ref (sd sx))]) hx hb dX10_wordIn_112 hl (k := 4) rfl (by rw [ez_59]; rfl) (by decide) rfl (fun ls hl => ?_)
                  refine lv_aload_n hx hb dX10_wordIn_115 rfl (lv_at hl 5 rfl) ?_
                  refine va_get (D := (dC, dI)) (ci := 10) (v := .int ts) (C := RX10) (T := TX10) (N := 11) hx hb hts hiX10 hown hK hP 0 rfl rfl 5 (by decide) w__fieldLink_RX10_29_ShellHeap_Tape_start_I_ (fun _ h9 => h9) rfl dX10_wordIn_116 ?_
                  refine lv_istore_n (lv' := [(3, .int ts), (2, .int z_59), (6, .int 32), (5, .int i_10), (4, .int 1), (0, .ref h0), (1, .ref (sd sx))]) hx hb dX10_wordIn_119 rfl hl (by decide) rfl (fun ls hl => ?_)
                  refine lv_iconst (v := 1) hx hb dX10_wordIn_120 (by decide) ?_
                  refine lv_istore (lv' := [(4, .int 1), (3, .int ts), (2, .int z_59), (6, .int 32), (5, .int i_10), (0, .ref h0), (1, .ref (sd sx))]) hx hb dX10_wordIn_121 hl (by decide) rfl (fun ls hl => ?_)
                  obtain ⟨z_60, ez_60⟩ : ∃ y : Int32, y = i_10 + 1 := ⟨_, rfl⟩
                  have kz_60 : (z_60).toInt = (i_10).toInt + (1 : Int) := by rw [ez_60]; exact z_add (b := 1) rfl rfl (z_al hF_14.1 (by decide)) (z_ah hF_14.2 (by decide))
                  refine lv_iinc (v := z_60) (lv' := [(5, .int z_60), (4, .int 1), (3, .int ts), (2, .int z_59), (6, .int 32), (0, .ref h0), (1, .ref (sd sx))]) hx hb dX10_wordIn_123 hl (k := 4) rfl (by rw [ez_60]; rfl) (by decide) rfl (fun ls hl => ?_)
                  refine lv_goto (tgt := 23) hx hb dX10_wordIn_126 (by decide) ?_
                  exact ih_6 z_59 ts 1 z_60 _ _ _ (show (59 - (z_60).toInt).toNat < n_5 by omega) (show ((0 : Int) ≤ (z_59).toInt ∧ (z_59).toInt ≤ (60 : Int)) by omega) (show ((0 : Int) ≤ (ts).toInt ∧ (ts).toInt ≤ (800 : Int)) by omega) (show ((0 : Int) ≤ (1 : Int) ∧ (1 : Int) ≤ (1 : Int)) by omega) (show ((0 : Int) ≤ (z_60).toInt ∧ (z_60).toInt ≤ (58 : Int)) by omega) (show (z_59).toInt ≤ ((z_cn sx (z_60 : Int32).toNatClampNeg : Nat) : Int) from by first | exact z_cn_s2 (w := (w_7).toInt) ez_60 (by omega) (by omega) hF_15 (by omega) (Or.inl (z_ncn (by omega))) | exact z_cn_s2 (w := (w_7).toInt) ez_60 (by omega) (by omega) hF_15 (by omega) (Or.inr (by rw [← hw_46]; first | decide | omega)) | exact z_cn_s1 ez_60 (by omega) (by omega) hF_15) (show (z_59).toInt ≤ (z_60).toInt by omega) (show (ts).toInt ≤ 700 + (z_60).toInt by omega) (show (z_60).toInt ≤ ((z_len.getD sx 0 : Nat) : Int) + 1 by omega) hP hD hS (lv_sub hl [0, 1, 2, 3, 5, 6] rfl)
                · have k_61 : (pl_8).toInt = (te).toInt := z_eq c_57
                  refine lv_iload_n hx hb dX10_wordIn_110 rfl (lv_at hl 4 rfl) ?_
                  refine z_backQ hQQ ?_
                  refine W.widen (k := 0) (n := 0) (Nat.le_of_ble_eq_true rfl) (Nat.le_of_ble_eq_true rfl) ?_
                  exact W.iret (v := w_7) hx hb hr (fun t ht hW => ⟨⟨w_7, (), rfl, (show ((-1 : Int) ≤ (w_7).toInt ∧ (w_7).toInt ≤ ((z_nw.getD sx 0 : Nat) : Int)) by have hq9 := z_cn_le (sx := sx) (k := (i_10).toNatClampNeg) hsx (z_ncle (by omega)); have hq8 := hF_15; omega), trivial⟩, hS.F ht⟩) hS.2.2 dX10_wordIn_111
            · have k_62 : (r_45).toInt ≠ (32 : Int) := z_ne c_47
              refine lv_iload hx hb dX10_wordIn_61 (lv_at hl 2 rfl) ?_
              refine lv_if_eq (tgt := 88) hx hb dX10_wordIn_63 (by decide) (fun c_63 => ?_) (fun c_63 => ?_)
              · have k_64 : (sm_9).toInt = (0 : Int) := z_eq c_63
                obtain rfl : sm_9 = 0 := z_eq' (show (sm_9).toInt = (0 : Int) by omega)
                refine lv_iconst (v := 0) hx hb dX10_wordIn_88 (by decide) ?_
                refine lv_istore (lv' := [(4, .int 0), (6, .int r_45), (5, .int i_10), (3, .int pl_8), (2, .int w_7), (0, .ref h0), (1, .ref (sd sx))]) hx hb dX10_wordIn_89 hl (by decide) rfl (fun ls hl => ?_)
                obtain ⟨z_66, ez_66⟩ : ∃ y : Int32, y = pl_8 + 1 := ⟨_, rfl⟩
                have kz_66 : (z_66).toInt = (pl_8).toInt + (1 : Int) := by rw [ez_66]; exact z_add (b := 1) rfl rfl (z_al hF_12.1 (by decide)) (z_ah hF_12.2 (by decide))
                refine lv_iinc (v := z_66) (lv' := [(3, .int z_66), (4, .int 0), (6, .int r_45), (5, .int i_10), (2, .int w_7), (0, .ref h0), (1, .ref (sd sx))]) hx hb dX10_wordIn_91 hl (k := 3) rfl (by rw [ez_66]; rfl) (by decide) rfl (fun ls hl => ?_)
                refine lv_goto (tgt := 123) hx hb dX10_wordIn_94 (by decide) ?_
                obtain ⟨z_67, ez_67⟩ : ∃ y : Int32, y = i_10 + 1 := ⟨_, rfl⟩
                have kz_67 : (z_67).toInt = (i_10).toInt + (1 : Int) := by rw [ez_67]; exact z_add (b := 1) rfl rfl (z_al hF_14.1 (by decide)) (z_ah hF_14.2 (by decide))
                refine lv_iinc (v := z_67) (lv' := [(5, .int z_67), (3, .int z_66), (4, .int 0), (6, .int r_45), (2, .int w_7), (0, .ref h0), (1, .ref (sd sx))]) hx hb dX10_wordIn_123 hl (k := 3) rfl (by rw [ez_67]; rfl) (by decide) rfl (fun ls hl => ?_)
                refine lv_goto (tgt := 23) hx hb dX10_wordIn_126 (by decide) ?_
                exact ih_6 w_7 z_66 0 z_67 _ _ _ (show (59 - (z_67).toInt).toNat < n_5 by omega) (show ((0 : Int) ≤ (w_7).toInt ∧ (w_7).toInt ≤ (60 : Int)) by omega) (show ((0 : Int) ≤ (z_66).toInt ∧ (z_66).toInt ≤ (800 : Int)) by omega) (show ((0 : Int) ≤ (0 : Int) ∧ (0 : Int) ≤ (1 : Int)) by omega) (show ((0 : Int) ≤ (z_67).toInt ∧ (z_67).toInt ≤ (58 : Int)) by omega) (show (w_7).toInt ≤ ((z_cn sx (z_67 : Int32).toNatClampNeg : Nat) : Int) from by first | exact z_cn_s2 (w := (w_7).toInt) ez_67 (by omega) (by omega) hF_15 (by omega) (Or.inl (z_ncn (by omega))) | exact z_cn_s2 (w := (w_7).toInt) ez_67 (by omega) (by omega) hF_15 (by omega) (Or.inr (by rw [← hw_46]; first | decide | omega)) | exact z_cn_s1 ez_67 (by omega) (by omega) hF_15) (show (w_7).toInt ≤ (z_67).toInt by omega) (show (z_66).toInt ≤ 700 + (z_67).toInt by omega) (show (z_67).toInt ≤ ((z_len.getD sx 0 : Nat) : Int) + 1 by omega) hP hD hS (lv_sub hl [0, 2, 1, 4, 5, 6] rfl)
              · have k_68 : (sm_9).toInt ≠ (0 : Int) := z_ne c_63
                obtain rfl : sm_9 = 1 := z_eq' (show (sm_9).toInt = (1 : Int) by omega)
                refine lv_iload_n hx hb dX10_wordIn_66 rfl (lv_at hl 3 rfl) ?_
                refine lv_aload_n hx hb dX10_wordIn_67 rfl (lv_at hl 5 rfl) ?_
                refine va_get (D := (dC, dI)) (ci := 10) (v := .int te) (C := RX10) (T := TX10) (N := 11) hx hb hts hiX10 hown hK hP 0 rfl rfl 6 (by decide) w__fieldLink_RX10_32_ShellHeap_Tape_end_I_ (fun _ h9 => h9) rfl dX10_wordIn_68 ?_
                refine lv_icmp_ge (tgt := 88) hx hb dX10_wordIn_71 (by decide) (fun c_70 => ?_) (fun c_70 => ?_)
                · have k_71 : (te).toInt ≤ (pl_8).toInt := z_le c_70
                  refine lv_iconst (v := 0) hx hb dX10_wordIn_88 (by decide) ?_
                  refine lv_istore (lv' := [(4, .int 0), (6, .int r_45), (5, .int i_10), (3, .int pl_8), (2, .int w_7), (0, .ref h0), (1, .ref (sd sx))]) hx hb dX10_wordIn_89 hl (by decide) rfl (fun ls hl => ?_)
                  obtain ⟨z_72, ez_72⟩ : ∃ y : Int32, y = pl_8 + 1 := ⟨_, rfl⟩
                  have kz_72 : (z_72).toInt = (pl_8).toInt + (1 : Int) := by rw [ez_72]; exact z_add (b := 1) rfl rfl (z_al hF_12.1 (by decide)) (z_ah hF_12.2 (by decide))
                  refine lv_iinc (v := z_72) (lv' := [(3, .int z_72), (4, .int 0), (6, .int r_45), (5, .int i_10), (2, .int w_7), (0, .ref h0), (1, .ref (sd sx))]) hx hb dX10_wordIn_91 hl (k := 3) rfl (by rw [ez_72]; rfl) (by decide) rfl (fun ls hl => ?_)
                  refine lv_goto (tgt := 123) hx hb dX10_wordIn_94 (by decide) ?_
                  obtain ⟨z_73, ez_73⟩ : ∃ y : Int32, y = i_10 + 1 := ⟨_, rfl⟩
                  have kz_73 : (z_73).toInt = (i_10).toInt + (1 : Int) := by rw [ez_73]; exact z_add (b := 1) rfl rfl (z_al hF_14.1 (by decide)) (z_ah hF_14.2 (by decide))
                  refine lv_iinc (v := z_73) (lv' := [(5, .int z_73), (3, .int z_72), (4, .int 0), (6, .int r_45), (2, .int w_7), (0, .ref h0), (1, .ref (sd sx))]) hx hb dX10_wordIn_123 hl (k := 3) rfl (by rw [ez_73]; rfl) (by decide) rfl (fun ls hl => ?_)
                  refine lv_goto (tgt := 23) hx hb dX10_wordIn_126 (by decide) ?_
                  exact ih_6 w_7 z_72 0 z_73 _ _ _ (show (59 - (z_73).toInt).toNat < n_5 by omega) (show ((0 : Int) ≤ (w_7).toInt ∧ (w_7).toInt ≤ (60 : Int)) by omega) (show ((0 : Int) ≤ (z_72).toInt ∧ (z_72).toInt ≤ (800 : Int)) by omega) (show ((0 : Int) ≤ (0 : Int) ∧ (0 : Int) ≤ (1 : Int)) by omega) (show ((0 : Int) ≤ (z_73).toInt ∧ (z_73).toInt ≤ (58 : Int)) by omega) (show (w_7).toInt ≤ ((z_cn sx (z_73 : Int32).toNatClampNeg : Nat) : Int) from by first | exact z_cn_s2 (w := (w_7).toInt) ez_73 (by omega) (by omega) hF_15 (by omega) (Or.inl (z_ncn (by omega))) | exact z_cn_s2 (w := (w_7).toInt) ez_73 (by omega) (by omega) hF_15 (by omega) (Or.inr (by rw [← hw_46]; first | decide | omega)) | exact z_cn_s1 ez_73 (by omega) (by omega) hF_15) (show (w_7).toInt ≤ (z_73).toInt by omega) (show (z_72).toInt ≤ 700 + (z_73).toInt by omega) (show (z_73).toInt ≤ ((z_len.getD sx 0 : Nat) : Int) + 1 by omega) hP hD hS (lv_sub hl [0, 2, 1, 4, 5, 6] rfl)
                · have k_74 : (te).toInt > (pl_8).toInt := z_nle c_70
                  refine lv_aload_n hx hb dX10_wordIn_74 rfl (lv_at hl 5 rfl) ?_
                  refine lv_iload_n hx hb dX10_wordIn_75 rfl (lv_at hl 3 rfl) ?_
                  have hPc := hP
                  have hDc := hD
                  have hKc := hK
                  have hFc := va_free (ws := []) (wc := []) (z_D0 _) hS hA [] rfl
                  refine va_calli (va_runV (As := [.int pl_8]) (rest := []) ⟨hx, hb, hml, hown, hts⟩ (s_X10_byteAt l dC dI H_44.size h0 pl_8 h1 tt h0_2 h0_3 h0_4 (.int ts) (.int te) (.int 1) h0_8 h0_9 h0_10 ch1 fh1 hB_tt hI_h1) (cwV 1 hts gw_s_X10_wordIn_s_X10_byteAt_50 rfl rfl rfl (by decide +kernel) ⟨Nat.le_of_ble_eq_true rfl, Nat.le_of_ble_eq_true rfl⟩) ⟨z_blind, va_recv hKc hPc (ci := 10) (q0 := 0) rfl rfl, z_pre hPc hKc hDc⟩ rfl rfl hl.1 rfl (lv_room (Nat.le_of_ble_eq_true rfl)) dX10_wordIn_76 ⟨Nat.le_of_ble_eq_true rfl, Nat.le_of_ble_eq_true rfl⟩) hS (fun q _ h => hFc q h) hFc (fun r_76 u t H_75 locs ht hvm hw_77 hB hz1 hk1 hS => ?_)
                  replace hP := z_pure hP hk1
                  clear hPc hDc hKc
                  refine lv_iload hx hb dX10_wordIn_79 (lv_at hl 0 rfl) ?_
                  refine lv_icmp_ne (tgt := 88) hx hb dX10_wordIn_81 (by decide) (fun c_78 => ?_) (fun c_78 => ?_)
                  · have k_79 : (r_76).toInt ≠ (r_45).toInt := z_ne c_78
                    refine lv_iconst (v := 0) hx hb dX10_wordIn_88 (by decide) ?_
                    refine lv_istore (lv' := [(4, .int 0), (6, .int r_45), (5, .int i_10), (3, .int pl_8), (2, .int w_7), (0, .ref h0), (1, .ref (sd sx))]) hx hb dX10_wordIn_89 hl (by decide) rfl (fun ls hl => ?_)
                    obtain ⟨z_80, ez_80⟩ : ∃ y : Int32, y = pl_8 + 1 := ⟨_, rfl⟩
                    have kz_80 : (z_80).toInt = (pl_8).toInt + (1 : Int) := by rw [ez_80]; exact z_add (b := 1) rfl rfl (z_al hF_12.1 (by decide)) (z_ah hF_12.2 (by decide))
                    refine lv_iinc (v := z_80) (lv' := [(3, .int z_80), (4, .int 0), (6, .int r_45), (5, .int i_10), (2, .int w_7), (0, .ref h0), (1, .ref (sd sx))]) hx hb dX10_wordIn_91 hl (k := 3) rfl (by rw [ez_80]; rfl) (by decide) rfl (fun ls hl => ?_)
                    refine lv_goto (tgt := 123) hx hb dX10_wordIn_94 (by decide) ?_
                    obtain ⟨z_81, ez_81⟩ : ∃ y : Int32, y = i_10 + 1 := ⟨_, rfl⟩
                    have kz_81 : (z_81).toInt = (i_10).toInt + (1 : Int) := by rw [ez_81]; exact z_add (b := 1) rfl rfl (z_al hF_14.1 (by decide)) (z_ah hF_14.2 (by decide))
                    refine lv_iinc (v := z_81) (lv' := [(5, .int z_81), (3, .int z_80), (4, .int 0), (6, .int r_45), (2, .int w_7), (0, .ref h0), (1, .ref (sd sx))]) hx hb dX10_wordIn_123 hl (k := 3) rfl (by rw [ez_81]; rfl) (by decide) rfl (fun ls hl => ?_)
                    refine lv_goto (tgt := 23) hx hb dX10_wordIn_126 (by decide) ?_
                    exact ih_6 w_7 z_80 0 z_81 _ _ _ (show (59 - (z_81).toInt).toNat < n_5 by omega) (show ((0 : Int) ≤ (w_7).toInt ∧ (w_7).toInt ≤ (60 : Int)) by omega) (show ((0 : Int) ≤ (z_80).toInt ∧ (z_80).toInt ≤ (800 : Int)) by omega) (show ((0 : Int) ≤ (0 : Int) ∧ (0 : Int) ≤ (1 : Int)) by omega) (show ((0 : Int) ≤ (z_81).toInt ∧ (z_81).toInt ≤ (58 : Int)) by omega) (show (w_7).toInt ≤ ((z_cn sx (z_81 : Int32).toNatClampNeg : Nat) : Int) from by first | exact z_cn_s2 (w := (w_7).toInt) ez_81 (by omega) (by omega) hF_15 (by omega) (Or.inl (z_ncn (by omega))) | exact z_cn_s2 (w := (w_7).toInt) ez_81 (by omega) (by omega) hF_15 (by omega) (Or.inr (by rw [← hw_46]; first | decide | omega)) | exact z_cn_s1 ez_81 (by omega) (by omega) hF_15) (show (w_7).toInt ≤ (z_81).toInt by omega) (show (z_80).toInt ≤ 700 + (z_81).toInt by omega) (show (z_81).toInt ≤ ((z_len.getD sx 0 : Nat) : Int) + 1 by omega) hP hD hS (lv_sub hl [0, 2, 1, 4, 5, 6] rfl)
                  · have k_82 : (r_76).toInt = (r_45).toInt := z_eq c_78
                    refine lv_iconst (v := 1) hx hb dX10_wordIn_84 (by decide) ?_
                    refine lv_goto (tgt := 89) hx hb dX10_wordIn_85 (by decide) ?_
                    refine lv_istore (lv' := [(4, .int 1), (6, .int r_45), (5, .int i_10), (3, .int pl_8), (2, .int w_7), (0, .ref h0), (1, .ref (sd sx))]) hx hb dX10_wordIn_89 hl (by decide) rfl (fun ls hl => ?_)
                    obtain ⟨z_83, ez_83⟩ : ∃ y : Int32, y = pl_8 + 1 := ⟨_, rfl⟩
                    have kz_83 : (z_83).toInt = (pl_8).toInt + (1 : Int) := by rw [ez_83]; exact z_add (b := 1) rfl rfl (z_al hF_12.1 (by decide)) (z_ah hF_12.2 (by decide))
                    refine lv_iinc (v := z_83) (lv' := [(3, .int z_83), (4, .int 1), (6, .int r_45), (5, .int i_10), (2, .int w_7), (0, .ref h0), (1, .ref (sd sx))]) hx hb dX10_wordIn_91 hl (k := 3) rfl (by rw [ez_83]; rfl) (by decide) rfl (fun ls hl => ?_)
                    refine lv_goto (tgt := 123) hx hb dX10_wordIn_94 (by decide) ?_
                    obtain ⟨z_84, ez_84⟩ : ∃ y : Int32, y = i_10 + 1 := ⟨_, rfl⟩
                    have kz_84 : (z_84).toInt = (i_10).toInt + (1 : Int) := by rw [ez_84]; exact z_add (b := 1) rfl rfl (z_al hF_14.1 (by decide)) (z_ah hF_14.2 (by decide))
                    refine lv_iinc (v := z_84) (lv' := [(5, .int z_84), (3, .int z_83), (4, .int 1), (6, .int r_45), (2, .int w_7), (0, .ref h0), (1, .ref (sd sx))]) hx hb dX10_wordIn_123 hl (k := 3) rfl (by rw [ez_84]; rfl) (by decide) rfl (fun ls hl => ?_)
                    refine lv_goto (tgt := 23) hx hb dX10_wordIn_126 (by decide) ?_
                    exact ih_6 w_7 z_83 1 z_84 _ _ _ (show (59 - (z_84).toInt).toNat < n_5 by omega) (show ((0 : Int) ≤ (w_7).toInt ∧ (w_7).toInt ≤ (60 : Int)) by omega) (show ((0 : Int) ≤ (z_83).toInt ∧ (z_83).toInt ≤ (800 : Int)) by omega) (show ((0 : Int) ≤ (1 : Int) ∧ (1 : Int) ≤ (1 : Int)) by omega) (show ((0 : Int) ≤ (z_84).toInt ∧ (z_84).toInt ≤ (58 : Int)) by omega) (show (w_7).toInt ≤ ((z_cn sx (z_84 : Int32).toNatClampNeg : Nat) : Int) from by first | exact z_cn_s2 (w := (w_7).toInt) ez_84 (by omega) (by omega) hF_15 (by omega) (Or.inl (z_ncn (by omega))) | exact z_cn_s2 (w := (w_7).toInt) ez_84 (by omega) (by omega) hF_15 (by omega) (Or.inr (by rw [← hw_46]; first | decide | omega)) | exact z_cn_s1 ez_84 (by omega) (by omega) hF_15) (show (w_7).toInt ≤ (z_84).toInt by omega) (show (z_83).toInt ≤ 700 + (z_84).toInt by omega) (show (z_84).toInt ≤ ((z_len.getD sx 0 : Nat) : Int) + 1 by omega) hP hD hS (lv_sub hl [0, 2, 1, 4, 5, 6] rfl)
    exact loop_4 _ 0 ts 1 0 _ _ _ (Nat.lt_succ_self _) (show ((0 : Int) ≤ (0 : Int) ∧ (0 : Int) ≤ (60 : Int)) by omega) (show ((0 : Int) ≤ (ts).toInt ∧ (ts).toInt ≤ (800 : Int)) by omega) (show ((0 : Int) ≤ (1 : Int) ∧ (1 : Int) ≤ (1 : Int)) by omega) (show ((0 : Int) ≤ (0 : Int) ∧ (0 : Int) ≤ (58 : Int)) by omega) (show (0 : Int) ≤ ((z_cn sx (0 : Int32).toNatClampNeg : Nat) : Int) from Int.natCast_nonneg _) (show (0 : Int) ≤ (0 : Int) by omega) (show (ts).toInt ≤ 700 + (0 : Int) by omega) (show (0 : Int) ≤ ((z_len.getD sx 0 : Nat) : Int) + 1 by omega) hP hD hS hl
  · have k_85 : (to).toInt ≠ (1 : Int) := z_ne c_1
    refine lv_iconst (v := (-1)) hx hb dX10_wordIn_8 (by decide) ?_
    refine z_backQ hQQ ?_
    refine W.widen (k := 0) (n := 0) (Nat.le_of_ble_eq_true rfl) (Nat.le_of_ble_eq_true rfl) ?_
    exact W.iret (v := (-1)) hx hb hr (fun t ht hW => ⟨⟨(-1), (), rfl, (show ((-1 : Int) ≤ (-1 : Int) ∧ (-1 : Int) ≤ ((z_nw.getD sx 0 : Nat) : Int)) by omega), trivial⟩, hS.F ht⟩) hS.2.2 dX10_wordIn_9
