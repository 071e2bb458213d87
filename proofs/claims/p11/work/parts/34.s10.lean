def u_s_X3_within : List Cond := .code yX3_within cX3_within 2 (some .long) :: ([.constantLong RX3 154 (1000000000000000), .constantLong RX3 74 (-9223372036854775808), .constantLong RX3 156 (-1000000000000000)] ++ [])
theorem gd_s_X3_within : z_gd u_s_X3_within := z_gdc (by decide +kernel) (z_gd0)
set_option maxHeartbeats 4000000 in
set_option maxRecDepth 100000 in
theorem s_X3_within (l : Launch) (dC : Nat → ClassId) (dI : Nat → Nat → Nat) (sz : Nat) (p0 : Int64) : Met l yX3_within u_s_X3_within ({ frames := 0, cells := 0, slots := 0, locals := 0 }) (va_Pc [.long p0] (z_C (dC, dI) vwCl [] [] sz)) (va_Ql (fun (r : Int64) (_ : Unit) => True) (fun (_ : Unit) (_ : State) => True) (va_A [] sz)) 0 0 (va_A [] sz) := by
  refine Met.ofW (cc := cX3_within) (maxL := 2) (ret := (some .long)) (by decide) rfl ?_
  intro p e s m args below meth c s₁ B hml hv
  obtain ⟨rfl, hsz, hP, hK, hD0⟩ := hv
  have hx := B.exec
  have hb := B.bytes
  have hr := B.returns
  have hts := atoms_spec (ws := u_s_X3_within) B.pre
  have hown : s.vm.findClass RX3 = some m.cls := findClass_of_methodNamed B.named
  have hlocks := B.notSynchronized
  subst hsz
  have hD := hD0
  generalize hAe : va_A [] s.heap.size = A
  have hA : ∀ q : Nat, s.heap.size ≤ q → A q := fun q h => by rw [← hAe]; exact Or.inr h
  have hS : va_S A s.heap s.heap [] := va_S.rf
  have hP : va_P (dC, dI) vwCl [] s.heap := hP
  have w__constantLong_RX3_154_1000000000000000_ := hts (.constantLong RX3 154 (1000000000000000)) (z_mc (z_ml z_m0))
  have w__constantLong_RX3_74_9223372036854775808_ := hts (.constantLong RX3 74 (-9223372036854775808)) (z_mc (z_ml z_m1))
  have w__constantLong_RX3_156_1000000000000000_ := hts (.constantLong RX3 156 (-1000000000000000)) (z_mc (z_ml z_m2))
  have hl := lv_entry ([.long p0]) (n := 2) (Nat.le_of_ble_eq_true rfl)
  rw [lg_entry_eq]
  generalize (lg_sl ([.long p0]) ++ List.replicate (2 - (lg_sl ([.long p0])).length) Slot.unset).toArray = ls at hl ⊢
  have hl : lv_has ls 2 [(0, .long p0)] := hl
  refine lv_lload_n hx hb dX3_within_0 rfl (lv_at hl 0 rfl) ?_
  refine lv_ldc2 (v := 1000000000000000) hx hb hown w__constantLong_RX3_154_1000000000000000_ dX3_within_1 ?_
  refine W.lcmp hx hb dX3_within_4 ?_
  refine lv_topi (fun z_1 ez_1 => ?_)
  have kz_1 : ((z_1).toInt = (1 : Int) ∧ (p0).toInt > (1000000000000000 : Int)) ∨ ((z_1).toInt = (0 : Int) ∧ (p0).toInt = (1000000000000000 : Int)) ∨ ((z_1).toInt = (-1 : Int) ∧ (p0).toInt < (1000000000000000 : Int)) := z_lcmp ez_1
  refine lv_if_gt (tgt := 16) hx hb dX3_within_5 (by decide) (fun c_2 => ?_) (fun c_2 => ?_)
  · have k_3 : (0 : Int) < (z_1).toInt := z_lt c_2
    obtain rfl : z_1 = 1 := z_eq' (show (z_1).toInt = (1 : Int) by omega)
    refine lv_ldc2 (v := (-9223372036854775808)) hx hb hown w__constantLong_RX3_74_9223372036854775808_ dX3_within_16 ?_
    refine lv_goto (tgt := 23) hx hb dX3_within_19 (by decide) ?_
    refine W.widen (k := 0) (n := 0) (Nat.le_of_ble_eq_true rfl) (Nat.le_of_ble_eq_true rfl) ?_
    exact W.lret (v := (-9223372036854775808)) hx hb hr (fun t ht hW => ⟨⟨(-9223372036854775808), (), rfl, trivial, trivial⟩, hS.F ht⟩) hS.2.2 dX3_within_23
  · have k_5 : (0 : Int) ≥ (z_1).toInt := z_nlt c_2
    refine lv_lload_n hx hb dX3_within_8 rfl (lv_at hl 0 rfl) ?_
    refine lv_ldc2 (v := (-1000000000000000)) hx hb hown w__constantLong_RX3_156_1000000000000000_ dX3_within_9 ?_
    refine W.lcmp hx hb dX3_within_12 ?_
    refine lv_topi (fun z_6 ez_6 => ?_)
    have kz_6 : ((z_6).toInt = (1 : Int) ∧ (p0).toInt > (-1000000000000000 : Int)) ∨ ((z_6).toInt = (0 : Int) ∧ (p0).toInt = (-1000000000000000 : Int)) ∨ ((z_6).toInt = (-1 : Int) ∧ (p0).toInt < (-1000000000000000 : Int)) := z_lcmp ez_6
    refine lv_if_ge (tgt := 22) hx hb dX3_within_13 (by decide) (fun c_7 => ?_) (fun c_7 => ?_)
    · have k_8 : (0 : Int) ≤ (z_6).toInt := z_le c_7
      refine lv_lload_n hx hb dX3_within_22 rfl (lv_at hl 0 rfl) ?_
      refine W.widen (k := 0) (n := 0) (Nat.le_of_ble_eq_true rfl) (Nat.le_of_ble_eq_true rfl) ?_
      exact W.lret (v := p0) hx hb hr (fun t ht hW => ⟨⟨p0, (), rfl, trivial, trivial⟩, hS.F ht⟩) hS.2.2 dX3_within_23
    · have k_9 : (0 : Int) > (z_6).toInt := z_nle c_7
      obtain rfl : z_6 = (-1) := z_eq' (show (z_6).toInt = (-1 : Int) by omega)
      refine lv_ldc2 (v := (-9223372036854775808)) hx hb hown w__constantLong_RX3_74_9223372036854775808_ dX3_within_16 ?_
      refine lv_goto (tgt := 23) hx hb dX3_within_19 (by decide) ?_
      refine W.widen (k := 0) (n := 0) (Nat.le_of_ble_eq_true rfl) (Nat.le_of_ble_eq_true rfl) ?_
      exact W.lret (v := (-9223372036854775808)) hx hb hr (fun t ht hW => ⟨⟨(-9223372036854775808), (), rfl, trivial, trivial⟩, hS.F ht⟩) hS.2.2 dX3_within_23
def u_s_X3_times : List Cond := .code yX3_times cX3_times 4 (some .long) :: ([.methodLink RX3 158 Lib.MathLoose.abs_long.x, .static Lib.MathLoose.abs_long.x, .initialized "java/lang/Math", .code Lib.MathLoose.abs_long.x Lib.MathLoose.abs_long.code 2 (some .long), .constantLong RX3 154 (1000000000000000), .constantLong RX3 74 (-9223372036854775808)] ++ [])
theorem gd_s_X3_times : z_gd u_s_X3_times := z_gdc (by decide +kernel) (z_gd0)
set_option maxHeartbeats 4000000 in
set_option maxRecDepth 100000 in
theorem s_X3_times (l : Launch) (dC : Nat → ClassId) (dI : Nat → Nat → Nat) (sz : Nat) (p0 : Int64) (p1 : Int64) : Met l yX3_times u_s_X3_times ({ frames := 1, cells := 0, slots := 0, locals := 17 }) (va_Pc [.long p0, .long p1] (z_C (dC, dI) vwCl [] [] sz)) (va_Ql (fun (r : Int64) (_ : Unit) => True) (fun (_ : Unit) (_ : State) => True) (va_A [] sz)) 0 0 (va_A [] sz) := by
  refine Met.ofW (cc := cX3_times) (maxL := 4) (ret := (some .long)) (by decide) rfl ?_
  intro p e s m args below meth c s₁ B hml hv
  obtain ⟨rfl, hsz, hP, hK, hD0⟩ := hv
  have hx := B.exec
  have hb := B.bytes
  have hr := B.returns
  have hts := atoms_spec (ws := u_s_X3_times) B.pre
  have hown : s.vm.findClass RX3 = some m.cls := findClass_of_methodNamed B.named
  have hlocks := B.notSynchronized
  subst hsz
  have hD := hD0
  generalize hAe : va_A [] s.heap.size = A
  have hA : ∀ q : Nat, s.heap.size ≤ q → A q := fun q h => by rw [← hAe]; exact Or.inr h
  have hS : va_S A s.heap s.heap [] := va_S.rf
  have hP : va_P (dC, dI) vwCl [] s.heap := hP
  have w__methodLink_RX3_158_Lib_MathLoose_abs_long_x := hts (.methodLink RX3 158 Lib.MathLoose.abs_long.x) (z_mc (z_ml z_m0))
  have w__static_Lib_MathLoose_abs_long_x := hts (.static Lib.MathLoose.abs_long.x) (z_mc (z_ml z_m1))
  have w__initialized_java_lang_Math_ := hts (.initialized "java/lang/Math") (z_mc (z_ml z_m2))
  have w__code_Lib_MathLoose_abs_long_x_Lib_MathLoose_abs_long_code_2_some_long_ := hts (.code Lib.MathLoose.abs_long.x Lib.MathLoose.abs_long.code 2 (some .long)) (z_mc (z_ml z_m3))
  have w__constantLong_RX3_154_1000000000000000_ := hts (.constantLong RX3 154 (1000000000000000)) (z_mc (z_ml z_m4))
  have w__constantLong_RX3_74_9223372036854775808_ := hts (.constantLong RX3 74 (-9223372036854775808)) (z_mc (z_ml z_m5))
  have hl := lv_entry ([.long p0, .long p1]) (n := 4) (Nat.le_of_ble_eq_true rfl)
  rw [lg_entry_eq]
  generalize (lg_sl ([.long p0, .long p1]) ++ List.replicate (4 - (lg_sl ([.long p0, .long p1])).length) Slot.unset).toArray = ls at hl ⊢
  have hl : lv_has ls 4 [(0, .long p0), (2, .long p1)] := hl
  refine lv_lload_n hx hb dX3_times_0 rfl (lv_at hl 1 rfl) ?_
  refine lv_lconst (v := 0) hx hb dX3_times_1 (by decide) ?_
  refine W.lcmp hx hb dX3_times_2 ?_
  refine lv_topi (fun z_1 ez_1 => ?_)
  have kz_1 : ((z_1).toInt = (1 : Int) ∧ (p1).toInt > (0 : Int)) ∨ ((z_1).toInt = (0 : Int) ∧ (p1).toInt = (0 : Int)) ∨ ((z_1).toInt = (-1 : Int) ∧ (p1).toInt < (0 : Int)) := z_lcmp ez_1
  refine lv_if_eq (tgt := 26) hx hb dX3_times_3 (by decide) (fun c_2 => ?_) (fun c_2 => ?_)
  · have k_3 : (z_1).toInt = (0 : Int) := z_eq c_2
    obtain rfl : z_1 = 0 := z_eq' (show (z_1).toInt = (0 : Int) by omega)
    refine lv_lload_n hx hb dX3_times_26 rfl (lv_at hl 0 rfl) ?_
    refine lv_lload_n hx hb dX3_times_27 rfl (lv_at hl 1 rfl) ?_
    refine lv_lmul hx hb dX3_times_28 ?_
    refine lv_topl (fun z_5 ez_5 => ?_)
    refine W.widen (k := 0) (n := 0) (Nat.le_of_ble_eq_true rfl) (Nat.le_of_ble_eq_true rfl) ?_
    exact W.lret (v := z_5) hx hb hr (fun t ht hW => ⟨⟨z_5, (), rfl, trivial, trivial⟩, hS.F ht⟩) hS.2.2 dX3_times_29
  · have k_6 : (z_1).toInt ≠ (0 : Int) := z_ne c_2
    refine lv_lload_n hx hb dX3_times_6 rfl (lv_at hl 0 rfl) ?_
    refine va_mabs_long hx hb (hml.trans hl.1.symm) hown w__methodLink_RX3_158_Lib_MathLoose_abs_long_x w__static_Lib_MathLoose_abs_long_x w__initialized_java_lang_Math_ w__code_Lib_MathLoose_abs_long_x_Lib_MathLoose_abs_long_code_2_some_long_ (Nat.le_of_ble_eq_true rfl) (Nat.le_of_ble_eq_true rfl) (Nat.le_of_ble_eq_true rfl) (Nat.le_of_ble_eq_true rfl) dX3_times_7 ?_
    refine lv_topl (fun z_7 ez_7 => ?_)
    have kz_7 : ((p0).toInt ≠ (0 : Int) → (z_7).toInt ≠ (0 : Int)) := z_absl ez_7
    refine lv_ldc2 (v := 1000000000000000) hx hb hown w__constantLong_RX3_154_1000000000000000_ dX3_times_10 ?_
    refine lv_lload_n hx hb dX3_times_13 rfl (lv_at hl 1 rfl) ?_
    refine va_mabs_long hx hb (hml.trans hl.1.symm) hown w__methodLink_RX3_158_Lib_MathLoose_abs_long_x w__static_Lib_MathLoose_abs_long_x w__initialized_java_lang_Math_ w__code_Lib_MathLoose_abs_long_x_Lib_MathLoose_abs_long_code_2_some_long_ (Nat.le_of_ble_eq_true rfl) (Nat.le_of_ble_eq_true rfl) (Nat.le_of_ble_eq_true rfl) (Nat.le_of_ble_eq_true rfl) dX3_times_14 ?_
    refine lv_topl (fun z_8 ez_8 => ?_)
    have kz_8 : ((p1).toInt ≠ (0 : Int) → (z_8).toInt ≠ (0 : Int)) := z_absl ez_8
    refine lv_ldiv hx hb dX3_times_17 (fun q => absurd (show (z_8).toInt = (0 : Int) from congrArg Int64.toInt q) (by omega)) ?_
    refine lv_topl (fun z_9 ez_9 => ?_)
    refine W.lcmp hx hb dX3_times_18 ?_
    refine lv_topi (fun z_10 ez_10 => ?_)
    have kz_10 : ((z_10).toInt = (1 : Int) ∧ (z_7).toInt > (z_9).toInt) ∨ ((z_10).toInt = (0 : Int) ∧ (z_7).toInt = (z_9).toInt) ∨ ((z_10).toInt = (-1 : Int) ∧ (z_7).toInt < (z_9).toInt) := z_lcmp ez_10
    refine lv_if_le (tgt := 26) hx hb dX3_times_19 (by decide) (fun c_11 => ?_) (fun c_11 => ?_)
    · have k_12 : (z_10).toInt ≤ (0 : Int) := z_le c_11
      refine lv_lload_n hx hb dX3_times_26 rfl (lv_at hl 0 rfl) ?_
      refine lv_lload_n hx hb dX3_times_27 rfl (lv_at hl 1 rfl) ?_
      refine lv_lmul hx hb dX3_times_28 ?_
      refine lv_topl (fun z_13 ez_13 => ?_)
      refine W.widen (k := 0) (n := 0) (Nat.le_of_ble_eq_true rfl) (Nat.le_of_ble_eq_true rfl) ?_
      exact W.lret (v := z_13) hx hb hr (fun t ht hW => ⟨⟨z_13, (), rfl, trivial, trivial⟩, hS.F ht⟩) hS.2.2 dX3_times_29
    · have k_14 : (z_10).toInt > (0 : Int) := z_nle c_11
      obtain rfl : z_10 = 1 := z_eq' (show (z_10).toInt = (1 : Int) by omega)
      refine lv_ldc2 (v := (-9223372036854775808)) hx hb hown w__constantLong_RX3_74_9223372036854775808_ dX3_times_22 ?_
      refine W.widen (k := 0) (n := 0) (Nat.le_of_ble_eq_true rfl) (Nat.le_of_ble_eq_true rfl) ?_
      exact W.lret (v := (-9223372036854775808)) hx hb hr (fun t ht hW => ⟨⟨(-9223372036854775808), (), rfl, trivial, trivial⟩, hS.F ht⟩) hS.2.2 dX3_times_25
def u_s_X3_holdsTrue : List Cond := .code yX3_holdsTrue cX3_holdsTrue 5 (some .boolean) :: ([] ++ [])
theorem gd_s_X3_holdsTrue : z_gd u_s_X3_holdsTrue := z_gdc (by decide +kernel) (z_gd0)
set_option maxHeartbeats 4000000 in
set_option maxRecDepth 100000 in
theorem s_X3_holdsTrue (l : Launch) (dC : Nat → ClassId) (dI : Nat → Nat → Nat) (sz : Nat) (p0 : Int32) (p1 : Int64) (p2 : Int64) : Met l yX3_holdsTrue u_s_X3_holdsTrue ({ frames := 0, cells := 0, slots := 0, locals := 0 }) (va_Pc [.int p0, .long p1, .long p2] (z_C (dC, dI) vwCl [] [] sz)) (va_Qi (fun (r : Int32) (_ : Unit) => ((0 : Int) ≤ (r).toInt ∧ (r).toInt ≤ (1 : Int))) (fun (_ : Unit) (_ : State) => True) (va_A [] sz)) 0 0 (va_A [] sz) := by
  refine Met.ofW (cc := cX3_holdsTrue) (maxL := 5) (ret := (some .boolean)) (by decide) rfl ?_
  intro p e s m args below meth c s₁ B hml hv
  obtain ⟨rfl, hsz, hP, hK, hD0⟩ := hv
  have hx := B.exec
  have hb := B.bytes
  have hr := B.returns
  have hts := atoms_spec (ws := u_s_X3_holdsTrue) B.pre
  have hown : s.vm.findClass RX3 = some m.cls := findClass_of_methodNamed B.named
  have hlocks := B.notSynchronized
  subst hsz
  have hD := hD0
  generalize hAe : va_A [] s.heap.size = A
  have hA : ∀ q : Nat, s.heap.size ≤ q → A q := fun q h => by rw [← hAe]; exact Or.inr h
  have hS : va_S A s.heap s.heap [] := va_S.rf
  have hP : va_P (dC, dI) vwCl [] s.heap := hP
  have krr_p0 := z_rng p0
  have hl := lv_entry ([.int p0, .long p1, .long p2]) (n := 5) (Nat.le_of_ble_eq_true rfl)
  rw [lg_entry_eq]
  generalize (lg_sl ([.int p0, .long p1, .long p2]) ++ List.replicate (5 - (lg_sl ([.int p0, .long p1, .long p2])).length) Slot.unset).toArray = ls at hl ⊢
  have hl : lv_has ls 5 [(0, .int p0), (1, .long p1), (3, .long p2)] := hl
  refine lv_iload_n hx hb dX3_holdsTrue_0 rfl (lv_at hl 0 rfl) ?_
  rcases (Classical.em ((p0).toInt = (10 : Int))) with he_1 | he_1
  · obtain rfl : p0 = 10 := z_eq' he_1
    refine lv_lookup (off := 67) (tgt := 68) hx hb dX3_holdsTrue_1 (by decide) (by decide) (by decide) ?_
    refine lv_lload_n hx hb dX3_holdsTrue_68 rfl (lv_at hl 1 rfl) ?_
    refine lv_lconst (v := 0) hx hb dX3_holdsTrue_69 (by decide) ?_
    refine W.lcmp hx hb dX3_holdsTrue_70 ?_
    refine lv_topi (fun z_2 ez_2 => ?_)
    have kz_2 : ((z_2).toInt = (1 : Int) ∧ (p1).toInt > (0 : Int)) ∨ ((z_2).toInt = (0 : Int) ∧ (p1).toInt = (0 : Int)) ∨ ((z_2).toInt = (-1 : Int) ∧ (p1).toInt < (0 : Int)) := z_lcmp ez_2
    refine lv_if_ne (tgt := 80) hx hb dX3_holdsTrue_71 (by decide) (fun c_3 => ?_) (fun c_3 => ?_)
    · have k_4 : (z_2).toInt ≠ (0 : Int) := z_ne c_3
      refine lv_iconst (v := 1) hx hb dX3_holdsTrue_80 (by decide) ?_
      refine lv_goto (tgt := 85) hx hb dX3_holdsTrue_81 (by decide) ?_
      refine W.widen (k := 0) (n := 0) (Nat.le_of_ble_eq_true rfl) (Nat.le_of_ble_eq_true rfl) ?_
      exact W.zret (v := 1) hx hb hr (by rfl) (fun t ht hW => ⟨⟨1, (), rfl, (show ((0 : Int) ≤ (1 : Int) ∧ (1 : Int) ≤ (1 : Int)) by decide), trivial⟩, hS.F ht⟩) hS.2.2 dX3_holdsTrue_85
    · have k_5 : (z_2).toInt = (0 : Int) := z_eq c_3
      obtain rfl : z_2 = 0 := z_eq' (show (z_2).toInt = (0 : Int) by omega)
      refine lv_lload_n hx hb dX3_holdsTrue_74 rfl (lv_at hl 2 rfl) ?_
      refine lv_lconst (v := 0) hx hb dX3_holdsTrue_75 (by decide) ?_
      refine W.lcmp hx hb dX3_holdsTrue_76 ?_
      refine lv_topi (fun z_7 ez_7 => ?_)
      have kz_7 : ((z_7).toInt = (1 : Int) ∧ (p2).toInt > (0 : Int)) ∨ ((z_7).toInt = (0 : Int) ∧ (p2).toInt = (0 : Int)) ∨ ((z_7).toInt = (-1 : Int) ∧ (p2).toInt < (0 : Int)) := z_lcmp ez_7
      refine lv_if_eq (tgt := 84) hx hb dX3_holdsTrue_77 (by decide) (fun c_8 => ?_) (fun c_8 => ?_)
      · have k_9 : (z_7).toInt = (0 : Int) := z_eq c_8
        obtain rfl : z_7 = 0 := z_eq' (show (z_7).toInt = (0 : Int) by omega)
        refine lv_iconst (v := 0) hx hb dX3_holdsTrue_84 (by decide) ?_
        refine W.widen (k := 0) (n := 0) (Nat.le_of_ble_eq_true rfl) (Nat.le_of_ble_eq_true rfl) ?_
        exact W.zret (v := 0) hx hb hr (by rfl) (fun t ht hW => ⟨⟨0, (), rfl, (show ((0 : Int) ≤ (0 : Int) ∧ (0 : Int) ≤ (1 : Int)) by decide), trivial⟩, hS.F ht⟩) hS.2.2 dX3_holdsTrue_85
      · have k_11 : (z_7).toInt ≠ (0 : Int) := z_ne c_8
        refine lv_iconst (v := 1) hx hb dX3_holdsTrue_80 (by decide) ?_
        refine lv_goto (tgt := 85) hx hb dX3_holdsTrue_81 (by decide) ?_
        refine W.widen (k := 0) (n := 0) (Nat.le_of_ble_eq_true rfl) (Nat.le_of_ble_eq_true rfl) ?_
        exact W.zret (v := 1) hx hb hr (by rfl) (fun t ht hW => ⟨⟨1, (), rfl, (show ((0 : Int) ≤ (1 : Int) ∧ (1 : Int) ≤ (1 : Int)) by decide), trivial⟩, hS.F ht⟩) hS.2.2 dX3_holdsTrue_85
  · skip
    rcases (Classical.em ((p0).toInt = (20 : Int))) with he_12 | he_12
    · obtain rfl : p0 = 20 := z_eq' he_12
      refine lv_lookup (off := 85) (tgt := 86) hx hb dX3_holdsTrue_1 (by decide) (by decide) (by decide) ?_
      refine lv_lload_n hx hb dX3_holdsTrue_86 rfl (lv_at hl 1 rfl) ?_
      refine lv_lconst (v := 0) hx hb dX3_holdsTrue_87 (by decide) ?_
      refine W.lcmp hx hb dX3_holdsTrue_88 ?_
      refine lv_topi (fun z_13 ez_13 => ?_)
      have kz_13 : ((z_13).toInt = (1 : Int) ∧ (p1).toInt > (0 : Int)) ∨ ((z_13).toInt = (0 : Int) ∧ (p1).toInt = (0 : Int)) ∨ ((z_13).toInt = (-1 : Int) ∧ (p1).toInt < (0 : Int)) := z_lcmp ez_13
      refine lv_if_eq (tgt := 102) hx hb dX3_holdsTrue_89 (by decide) (fun c_14 => ?_) (fun c_14 => ?_)
      · have k_15 : (z_13).toInt = (0 : Int) := z_eq c_14
        obtain rfl : z_13 = 0 := z_eq' (show (z_13).toInt = (0 : Int) by omega)
        refine lv_iconst (v := 0) hx hb dX3_holdsTrue_102 (by decide) ?_
        refine W.widen (k := 0) (n := 0) (Nat.le_of_ble_eq_true rfl) (Nat.le_of_ble_eq_true rfl) ?_
        exact W.zret (v := 0) hx hb hr (by rfl) (fun t ht hW => ⟨⟨0, (), rfl, (show ((0 : Int) ≤ (0 : Int) ∧ (0 : Int) ≤ (1 : Int)) by decide), trivial⟩, hS.F ht⟩) hS.2.2 dX3_holdsTrue_103
      · have k_17 : (z_13).toInt ≠ (0 : Int) := z_ne c_14
        refine lv_lload_n hx hb dX3_holdsTrue_92 rfl (lv_at hl 2 rfl) ?_
        refine lv_lconst (v := 0) hx hb dX3_holdsTrue_93 (by decide) ?_
        refine W.lcmp hx hb dX3_holdsTrue_94 ?_
        refine lv_topi (fun z_18 ez_18 => ?_)
        have kz_18 : ((z_18).toInt = (1 : Int) ∧ (p2).toInt > (0 : Int)) ∨ ((z_18).toInt = (0 : Int) ∧ (p2).toInt = (0 : Int)) ∨ ((z_18).toInt = (-1 : Int) ∧ (p2).toInt < (0 : Int)) := z_lcmp ez_18
        refine lv_if_eq (tgt := 102) hx hb dX3_holdsTrue_95 (by decide) (fun c_19 => ?_) (fun c_19 => ?_)
        · have k_20 : (z_18).toInt = (0 : Int) := z_eq c_19
          obtain rfl : z_18 = 0 := z_eq' (show (z_18).toInt = (0 : Int) by omega)
          refine lv_iconst (v := 0) hx hb dX3_holdsTrue_102 (by decide) ?_
          refine W.widen (k := 0) (n := 0) (Nat.le_of_ble_eq_true rfl) (Nat.le_of_ble_eq_true rfl) ?_
          exact W.zret (v := 0) hx hb hr (by rfl) (fun t ht hW => ⟨⟨0, (), rfl, (show ((0 : Int) ≤ (0 : Int) ∧ (0 : Int) ≤ (1 : Int)) by decide), trivial⟩, hS.F ht⟩) hS.2.2 dX3_holdsTrue_103
        · have k_22 : (z_18).toInt ≠ (0 : Int) := z_ne c_19
          refine lv_iconst (v := 1) hx hb dX3_holdsTrue_98 (by decide) ?_
          refine lv_goto (tgt := 103) hx hb dX3_holdsTrue_99 (by decide) ?_
          refine W.widen (k := 0) (n := 0) (Nat.le_of_ble_eq_true rfl) (Nat.le_of_ble_eq_true rfl) ?_
          exact W.zret (v := 1) hx hb hr (by rfl) (fun t ht hW => ⟨⟨1, (), rfl, (show ((0 : Int) ≤ (1 : Int) ∧ (1 : Int) ≤ (1 : Int)) by decide), trivial⟩, hS.F ht⟩) hS.2.2 dX3_holdsTrue_103
    · skip
      rcases (Classical.em ((p0).toInt = (40 : Int))) with he_23 | he_23
      · obtain rfl : p0 = 40 := z_eq' he_23
        refine lv_lookup (off := 103) (tgt := 104) hx hb dX3_holdsTrue_1 (by decide) (by decide) (by decide) ?_
        refine lv_lload_n hx hb dX3_holdsTrue_104 rfl (lv_at hl 1 rfl) ?_
        refine lv_lload_n hx hb dX3_holdsTrue_105 rfl (lv_at hl 2 rfl) ?_
        refine W.lcmp hx hb dX3_holdsTrue_106 ?_
        refine lv_topi (fun z_24 ez_24 => ?_)
        have kz_24 : ((z_24).toInt = (1 : Int) ∧ (p1).toInt > (p2).toInt) ∨ ((z_24).toInt = (0 : Int) ∧ (p1).toInt = (p2).toInt) ∨ ((z_24).toInt = (-1 : Int) ∧ (p1).toInt < (p2).toInt) := z_lcmp ez_24
        refine lv_if_ge (tgt := 114) hx hb dX3_holdsTrue_107 (by decide) (fun c_25 => ?_) (fun c_25 => ?_)
        · have k_26 : (0 : Int) ≤ (z_24).toInt := z_le c_25
          refine lv_iconst (v := 0) hx hb dX3_holdsTrue_114 (by decide) ?_
          refine W.widen (k := 0) (n := 0) (Nat.le_of_ble_eq_true rfl) (Nat.le_of_ble_eq_true rfl) ?_
          exact W.zret (v := 0) hx hb hr (by rfl) (fun t ht hW => ⟨⟨0, (), rfl, (show ((0 : Int) ≤ (0 : Int) ∧ (0 : Int) ≤ (1 : Int)) by decide), trivial⟩, hS.F ht⟩) hS.2.2 dX3_holdsTrue_115
        · have k_27 : (0 : Int) > (z_24).toInt := z_nle c_25
          obtain rfl : z_24 = (-1) := z_eq' (show (z_24).toInt = (-1 : Int) by omega)
          refine lv_iconst (v := 1) hx hb dX3_holdsTrue_110 (by decide) ?_
          refine lv_goto (tgt := 115) hx hb dX3_holdsTrue_111 (by decide) ?_
          refine W.widen (k := 0) (n := 0) (Nat.le_of_ble_eq_true rfl) (Nat.le_of_ble_eq_true rfl) ?_
          exact W.zret (v := 1) hx hb hr (by rfl) (fun t ht hW => ⟨⟨1, (), rfl, (show ((0 : Int) ≤ (1 : Int) ∧ (1 : Int) ≤ (1 : Int)) by decide), trivial⟩, hS.F ht⟩) hS.2.2 dX3_holdsTrue_115
      · skip
        rcases (Classical.em ((p0).toInt = (41 : Int))) with he_29 | he_29
        · obtain rfl : p0 = 41 := z_eq' he_29
          refine lv_lookup (off := 115) (tgt := 116) hx hb dX3_holdsTrue_1 (by decide) (by decide) (by decide) ?_
          refine lv_lload_n hx hb dX3_holdsTrue_116 rfl (lv_at hl 1 rfl) ?_
          refine lv_lload_n hx hb dX3_holdsTrue_117 rfl (lv_at hl 2 rfl) ?_
          refine W.lcmp hx hb dX3_holdsTrue_118 ?_
          refine lv_topi (fun z_30 ez_30 => ?_)
          have kz_30 : ((z_30).toInt = (1 : Int) ∧ (p1).toInt > (p2).toInt) ∨ ((z_30).toInt = (0 : Int) ∧ (p1).toInt = (p2).toInt) ∨ ((z_30).toInt = (-1 : Int) ∧ (p1).toInt < (p2).toInt) := z_lcmp ez_30
          refine lv_if_gt (tgt := 126) hx hb dX3_holdsTrue_119 (by decide) (fun c_31 => ?_) (fun c_31 => ?_)
          · have k_32 : (0 : Int) < (z_30).toInt := z_lt c_31
            obtain rfl : z_30 = 1 := z_eq' (show (z_30).toInt = (1 : Int) by omega)
            refine lv_iconst (v := 0) hx hb dX3_holdsTrue_126 (by decide) ?_
            refine W.widen (k := 0) (n := 0) (Nat.le_of_ble_eq_true rfl) (Nat.le_of_ble_eq_true rfl) ?_
            exact W.zret (v := 0) hx hb hr (by rfl) (fun t ht hW => ⟨⟨0, (), rfl, (show ((0 : Int) ≤ (0 : Int) ∧ (0 : Int) ≤ (1 : Int)) by decide), trivial⟩, hS.F ht⟩) hS.2.2 dX3_holdsTrue_127
          · have k_34 : (0 : Int) ≥ (z_30).toInt := z_nlt c_31
            refine lv_iconst (v := 1) hx hb dX3_holdsTrue_122 (by decide) ?_
            refine lv_goto (tgt := 127) hx hb dX3_holdsTrue_123 (by decide) ?_
            refine W.widen (k := 0) (n := 0) (Nat.le_of_ble_eq_true rfl) (Nat.le_of_ble_eq_true rfl) ?_
            exact W.zret (v := 1) hx hb hr (by rfl) (fun t ht hW => ⟨⟨1, (), rfl, (show ((0 : Int) ≤ (1 : Int) ∧ (1 : Int) ≤ (1 : Int)) by decide), trivial⟩, hS.F ht⟩) hS.2.2 dX3_holdsTrue_127
        · skip
          rcases (Classical.em ((p0).toInt = (42 : Int))) with he_35 | he_35
          · obtain rfl : p0 = 42 := z_eq' he_35
            refine lv_lookup (off := 127) (tgt := 128) hx hb dX3_holdsTrue_1 (by decide) (by decide) (by decide) ?_
            refine lv_lload_n hx hb dX3_holdsTrue_128 rfl (lv_at hl 1 rfl) ?_
            refine lv_lload_n hx hb dX3_holdsTrue_129 rfl (lv_at hl 2 rfl) ?_
            refine W.lcmp hx hb dX3_holdsTrue_130 ?_
            refine lv_topi (fun z_36 ez_36 => ?_)
            have kz_36 : ((z_36).toInt = (1 : Int) ∧ (p1).toInt > (p2).toInt) ∨ ((z_36).toInt = (0 : Int) ∧ (p1).toInt = (p2).toInt) ∨ ((z_36).toInt = (-1 : Int) ∧ (p1).toInt < (p2).toInt) := z_lcmp ez_36
            refine lv_if_ne (tgt := 138) hx hb dX3_holdsTrue_131 (by decide) (fun c_37 => ?_) (fun c_37 => ?_)
            · have k_38 : (z_36).toInt ≠ (0 : Int) := z_ne c_37
              refine lv_iconst (v := 0) hx hb dX3_holdsTrue_138 (by decide) ?_
              refine W.widen (k := 0) (n := 0) (Nat.le_of_ble_eq_true rfl) (Nat.le_of_ble_eq_true rfl) ?_
              exact W.zret (v := 0) hx hb hr (by rfl) (fun t ht hW => ⟨⟨0, (), rfl, (show ((0 : Int) ≤ (0 : Int) ∧ (0 : Int) ≤ (1 : Int)) by decide), trivial⟩, hS.F ht⟩) hS.2.2 dX3_holdsTrue_139
            · have k_39 : (z_36).toInt = (0 : Int) := z_eq c_37
              obtain rfl : z_36 = 0 := z_eq' (show (z_36).toInt = (0 : Int) by omega)
              refine lv_iconst (v := 1) hx hb dX3_holdsTrue_134 (by decide) ?_
              refine lv_goto (tgt := 139) hx hb dX3_holdsTrue_135 (by decide) ?_
              refine W.widen (k := 0) (n := 0) (Nat.le_of_ble_eq_true rfl) (Nat.le_of_ble_eq_true rfl) ?_
              exact W.zret (v := 1) hx hb hr (by rfl) (fun t ht hW => ⟨⟨1, (), rfl, (show ((0 : Int) ≤ (1 : Int) ∧ (1 : Int) ≤ (1 : Int)) by decide), trivial⟩, hS.F ht⟩) hS.2.2 dX3_holdsTrue_139
          · skip
            rcases (Classical.em ((p0).toInt = (43 : Int))) with he_41 | he_41
            · obtain rfl : p0 = 43 := z_eq' he_41
              refine lv_lookup (off := 139) (tgt := 140) hx hb dX3_holdsTrue_1 (by decide) (by decide) (by decide) ?_
              refine lv_lload_n hx hb dX3_holdsTrue_140 rfl (lv_at hl 1 rfl) ?_
              refine lv_lload_n hx hb dX3_holdsTrue_141 rfl (lv_at hl 2 rfl) ?_
              refine W.lcmp hx hb dX3_holdsTrue_142 ?_
              refine lv_topi (fun z_42 ez_42 => ?_)
              have kz_42 : ((z_42).toInt = (1 : Int) ∧ (p1).toInt > (p2).toInt) ∨ ((z_42).toInt = (0 : Int) ∧ (p1).toInt = (p2).toInt) ∨ ((z_42).toInt = (-1 : Int) ∧ (p1).toInt < (p2).toInt) := z_lcmp ez_42
              refine lv_if_eq (tgt := 150) hx hb dX3_holdsTrue_143 (by decide) (fun c_43 => ?_) (fun c_43 => ?_)
              · have k_44 : (z_42).toInt = (0 : Int) := z_eq c_43
                obtain rfl : z_42 = 0 := z_eq' (show (z_42).toInt = (0 : Int) by omega)
                refine lv_iconst (v := 0) hx hb dX3_holdsTrue_150 (by decide) ?_
                refine W.widen (k := 0) (n := 0) (Nat.le_of_ble_eq_true rfl) (Nat.le_of_ble_eq_true rfl) ?_
                exact W.zret (v := 0) hx hb hr (by rfl) (fun t ht hW => ⟨⟨0, (), rfl, (show ((0 : Int) ≤ (0 : Int) ∧ (0 : Int) ≤ (1 : Int)) by decide), trivial⟩, hS.F ht⟩) hS.2.2 dX3_holdsTrue_151
              · have k_46 : (z_42).toInt ≠ (0 : Int) := z_ne c_43
                refine lv_iconst (v := 1) hx hb dX3_holdsTrue_146 (by decide) ?_
                refine lv_goto (tgt := 151) hx hb dX3_holdsTrue_147 (by decide) ?_
                refine W.widen (k := 0) (n := 0) (Nat.le_of_ble_eq_true rfl) (Nat.le_of_ble_eq_true rfl) ?_
                exact W.zret (v := 1) hx hb hr (by rfl) (fun t ht hW => ⟨⟨1, (), rfl, (show ((0 : Int) ≤ (1 : Int) ∧ (1 : Int) ≤ (1 : Int)) by decide), trivial⟩, hS.F ht⟩) hS.2.2 dX3_holdsTrue_151
            · skip
              rcases (Classical.em ((p0).toInt = (44 : Int))) with he_47 | he_47
              · obtain rfl : p0 = 44 := z_eq' he_47
                refine lv_lookup (off := 151) (tgt := 152) hx hb dX3_holdsTrue_1 (by decide) (by decide) (by decide) ?_
                refine lv_lload_n hx hb dX3_holdsTrue_152 rfl (lv_at hl 1 rfl) ?_
                refine lv_lload_n hx hb dX3_holdsTrue_153 rfl (lv_at hl 2 rfl) ?_
                refine W.lcmp hx hb dX3_holdsTrue_154 ?_
                refine lv_topi (fun z_48 ez_48 => ?_)
                have kz_48 : ((z_48).toInt = (1 : Int) ∧ (p1).toInt > (p2).toInt) ∨ ((z_48).toInt = (0 : Int) ∧ (p1).toInt = (p2).toInt) ∨ ((z_48).toInt = (-1 : Int) ∧ (p1).toInt < (p2).toInt) := z_lcmp ez_48
                refine lv_if_lt (tgt := 162) hx hb dX3_holdsTrue_155 (by decide) (fun c_49 => ?_) (fun c_49 => ?_)
                · have k_50 : (z_48).toInt < (0 : Int) := z_lt c_49
                  obtain rfl : z_48 = (-1) := z_eq' (show (z_48).toInt = (-1 : Int) by omega)
                  refine lv_iconst (v := 0) hx hb dX3_holdsTrue_162 (by decide) ?_
                  refine W.widen (k := 0) (n := 0) (Nat.le_of_ble_eq_true rfl) (Nat.le_of_ble_eq_true rfl) ?_
                  exact W.zret (v := 0) hx hb hr (by rfl) (fun t ht hW => ⟨⟨0, (), rfl, (show ((0 : Int) ≤ (0 : Int) ∧ (0 : Int) ≤ (1 : Int)) by decide), trivial⟩, hS.F ht⟩) hS.2.2 dX3_holdsTrue_163
                · have k_52 : (z_48).toInt ≥ (0 : Int) := z_nlt c_49
                  refine lv_iconst (v := 1) hx hb dX3_holdsTrue_158 (by decide) ?_
                  refine lv_goto (tgt := 163) hx hb dX3_holdsTrue_159 (by decide) ?_
                  refine W.widen (k := 0) (n := 0) (Nat.le_of_ble_eq_true rfl) (Nat.le_of_ble_eq_true rfl) ?_
                  exact W.zret (v := 1) hx hb hr (by rfl) (fun t ht hW => ⟨⟨1, (), rfl, (show ((0 : Int) ≤ (1 : Int) ∧ (1 : Int) ≤ (1 : Int)) by decide), trivial⟩, hS.F ht⟩) hS.2.2 dX3_holdsTrue_163
              · skip
                refine lv_lookup (off := 163) (tgt := 164) hx hb dX3_holdsTrue_1 (by decide) ((lv_osw (k := 10) (fun q => he_1 (z_eq q)) (by decide)).trans ((lv_osw (k := 20) (fun q => he_12 (z_eq q)) (by decide)).trans ((lv_osw (k := 40) (fun q => he_23 (z_eq q)) (by decide)).trans ((lv_osw (k := 41) (fun q => he_29 (z_eq q)) (by decide)).trans ((lv_osw (k := 42) (fun q => he_35 (z_eq q)) (by decide)).trans ((lv_osw (k := 43) (fun q => he_41 (z_eq q)) (by decide)).trans ((lv_osw (k := 44) (fun q => he_47 (z_eq q)) (by decide)).trans (rfl)))))))) (by decide) ?_
                refine lv_lload_n hx hb dX3_holdsTrue_164 rfl (lv_at hl 1 rfl) ?_
                refine lv_lload_n hx hb dX3_holdsTrue_165 rfl (lv_at hl 2 rfl) ?_
                refine W.lcmp hx hb dX3_holdsTrue_166 ?_
                refine lv_topi (fun z_53 ez_53 => ?_)
                have kz_53 : ((z_53).toInt = (1 : Int) ∧ (p1).toInt > (p2).toInt) ∨ ((z_53).toInt = (0 : Int) ∧ (p1).toInt = (p2).toInt) ∨ ((z_53).toInt = (-1 : Int) ∧ (p1).toInt < (p2).toInt) := z_lcmp ez_53
                refine lv_if_le (tgt := 174) hx hb dX3_holdsTrue_167 (by decide) (fun c_54 => ?_) (fun c_54 => ?_)
                · have k_55 : (z_53).toInt ≤ (0 : Int) := z_le c_54
                  refine lv_iconst (v := 0) hx hb dX3_holdsTrue_174 (by decide) ?_
                  refine W.widen (k := 0) (n := 0) (Nat.le_of_ble_eq_true rfl) (Nat.le_of_ble_eq_true rfl) ?_
                  exact W.zret (v := 0) hx hb hr (by rfl) (fun t ht hW => ⟨⟨0, (), rfl, (show ((0 : Int) ≤ (0 : Int) ∧ (0 : Int) ≤ (1 : Int)) by decide), trivial⟩, hS.F ht⟩) hS.2.2 dX3_holdsTrue_175
                · have k_56 : (z_53).toInt > (0 : Int) := z_nle c_54
                  obtain rfl : z_53 = 1 := z_eq' (show (z_53).toInt = (1 : Int) by omega)
                  refine lv_iconst (v := 1) hx hb dX3_holdsTrue_170 (by decide) ?_
                  refine lv_goto (tgt := 175) hx hb dX3_holdsTrue_171 (by decide) ?_
                  refine W.widen (k := 0) (n := 0) (Nat.le_of_ble_eq_true rfl) (Nat.le_of_ble_eq_true rfl) ?_
                  exact W.zret (v := 1) hx hb hr (by rfl) (fun t ht hW => ⟨⟨1, (), rfl, (show ((0 : Int) ≤ (1 : Int) ∧ (1 : Int) ≤ (1 : Int)) by decide), trivial⟩, hS.F ht⟩) hS.2.2 dX3_holdsTrue_175
def u_s_X3_joined : List Cond := .code yX3_joined cX3_joined 5 (some .long) :: ([.methodLink RX3 142 yX3_within, .static yX3_within, .initialized RX3, .methodLink RX3 146 yX3_times, .static yX3_times, .constantLong RX3 74 (-9223372036854775808), .methodLink RX3 150 yX3_holdsTrue, .static yX3_holdsTrue] ++ (u_s_X3_within ++ (u_s_X3_times ++ (u_s_X3_holdsTrue ++ []))))
theorem gd_s_X3_joined : z_gd u_s_X3_joined := z_gdc (by decide +kernel) (z_gda gd_s_X3_within (z_gda gd_s_X3_times (z_gda gd_s_X3_holdsTrue (z_gd0))))
set_option maxRecDepth 20000 in
theorem gw_s_X3_joined_s_X3_within_142 : GoodIn u_s_X3_joined (va_wsS RX3 142 yX3_within u_s_X3_within) := z_gS (z_gr _ [1, 2, 3] rfl (by decide +kernel)) (fun w h => ⟨z_mc (z_mr (z_ml h)), gd_s_X3_within w h⟩)
set_option maxRecDepth 20000 in
theorem gw_s_X3_joined_s_X3_times_146 : GoodIn u_s_X3_joined (va_wsS RX3 146 yX3_times u_s_X3_times) := z_gS (z_gr _ [4, 5, 3] rfl (by decide +kernel)) (fun w h => ⟨z_mc (z_mr (z_mr (z_ml h))), gd_s_X3_times w h⟩)
set_option maxRecDepth 20000 in
theorem gw_s_X3_joined_s_X3_holdsTrue_150 : GoodIn u_s_X3_joined (va_wsS RX3 150 yX3_holdsTrue u_s_X3_holdsTrue) := z_gS (z_gr _ [7, 8, 3] rfl (by decide +kernel)) (fun w h => ⟨z_mc (z_mr (z_mr (z_mr (z_ml h)))), gd_s_X3_holdsTrue w h⟩)
set_option maxHeartbeats 4000000 in
set_option maxRecDepth 100000 in
theorem s_X3_joined (l : Launch) (dC : Nat → ClassId) (dI : Nat → Nat → Nat) (sz : Nat) (p0 : Int32) (p1 : Int64) (p2 : Int64) : Met l yX3_joined u_s_X3_joined ({ frames := 2, cells := 0, slots := 0, locals := 40 }) (va_Pc [.int p0, .long p1, .long p2] (z_C (dC, dI) vwCl [] [] sz)) (va_Ql (fun (r : Int64) (_ : Unit) => True) (fun (_ : Unit) (_ : State) => True) (va_A [] sz)) 0 0 (va_A [] sz) := by
  refine Met.ofW (cc := cX3_joined) (maxL := 5) (ret := (some .long)) (by decide) rfl ?_
  intro p e s m args below meth c s₁ B hml hv
  obtain ⟨rfl, hsz, hP, hK, hD0⟩ := hv
  have hx := B.exec
  have hb := B.bytes
  have hr := B.returns
  have hts := atoms_spec (ws := u_s_X3_joined) B.pre
  have hown : s.vm.findClass RX3 = some m.cls := findClass_of_methodNamed B.named
  have hlocks := B.notSynchronized
  subst hsz
  have hD := hD0
  generalize hAe : va_A [] s.heap.size = A
  have hA : ∀ q : Nat, s.heap.size ≤ q → A q := fun q h => by rw [← hAe]; exact Or.inr h
  have hS : va_S A s.heap s.heap [] := va_S.rf
  have hP : va_P (dC, dI) vwCl [] s.heap := hP
  have w__constantLong_RX3_74_9223372036854775808_ := hts (.constantLong RX3 74 (-9223372036854775808)) (z_mc (z_ml z_m5))
  have krr_p0 := z_rng p0
  have hl := lv_entry ([.int p0, .long p1, .long p2]) (n := 5) (Nat.le_of_ble_eq_true rfl)
  rw [lg_entry_eq]
  generalize (lg_sl ([.int p0, .long p1, .long p2]) ++ List.replicate (5 - (lg_sl ([.int p0, .long p1, .long p2])).length) Slot.unset).toArray = ls at hl ⊢
  have hl : lv_has ls 5 [(0, .int p0), (1, .long p1), (3, .long p2)] := hl
  refine lv_iload_n hx hb dX3_joined_0 rfl (lv_at hl 0 rfl) ?_
  rcases (Classical.em ((p0).toInt = (50 : Int))) with he_1 | he_1
  · obtain rfl : p0 = 50 := z_eq' he_1
    refine lv_lookup (off := 43) (tgt := 44) hx hb dX3_joined_1 (by decide) (by decide) (by decide) ?_
    refine lv_lload_n hx hb dX3_joined_44 rfl (lv_at hl 1 rfl) ?_
    refine lv_lload_n hx hb dX3_joined_45 rfl (lv_at hl 2 rfl) ?_
    refine lv_ladd hx hb dX3_joined_46 ?_
    refine lv_topl (fun z_2 ez_2 => ?_)
    have hPc := hP
    have hDc := hD
    have hKc := hK
    have hFc := va_free (ws := []) (wc := []) (z_D0 _) hS hA [] rfl
    refine va_calll (va_runS (As := [.long z_2]) (rest := []) ⟨hx, hb, hml, hown, hts⟩ (s_X3_within l dC dI s.heap.size z_2) (va_cwS 1 hts gw_s_X3_joined_s_X3_within_142 rfl rfl rfl (by decide +kernel) ⟨Nat.le_of_ble_eq_true rfl, Nat.le_of_ble_eq_true rfl⟩) ⟨z_blind, z_pre hPc hKc hDc⟩ rfl rfl hl.1 rfl (lv_room (Nat.le_of_ble_eq_true rfl)) dX3_joined_47 ⟨Nat.le_of_ble_eq_true rfl, Nat.le_of_ble_eq_true rfl⟩) hS (fun q _ h => hFc q h) hFc (fun r_4 u t H_3 locs ht hvm hw_5 hB hz1 hk1 hS => ?_)
    replace hP := z_pure hP hk1
    clear hPc hDc hKc
    refine W.widen (k := 0) (n := 0) (Nat.le_of_ble_eq_true rfl) (Nat.le_of_ble_eq_true rfl) ?_
    exact W.lret (v := r_4) hx hb hr (fun t ht hW => ⟨⟨r_4, (), rfl, trivial, trivial⟩, hS.F ht⟩) hS.2.2 dX3_joined_50
  · skip
    rcases (Classical.em ((p0).toInt = (51 : Int))) with he_6 | he_6
    · obtain rfl : p0 = 51 := z_eq' he_6
      refine lv_lookup (off := 50) (tgt := 51) hx hb dX3_joined_1 (by decide) (by decide) (by decide) ?_
      refine lv_lload_n hx hb dX3_joined_51 rfl (lv_at hl 1 rfl) ?_
      refine lv_lload_n hx hb dX3_joined_52 rfl (lv_at hl 2 rfl) ?_
      refine lv_lsub hx hb dX3_joined_53 ?_
      refine lv_topl (fun z_7 ez_7 => ?_)
      have hPc := hP
      have hDc := hD
      have hKc := hK
      have hFc := va_free (ws := []) (wc := []) (z_D0 _) hS hA [] rfl
      refine va_calll (va_runS (As := [.long z_7]) (rest := []) ⟨hx, hb, hml, hown, hts⟩ (s_X3_within l dC dI s.heap.size z_7) (va_cwS 1 hts gw_s_X3_joined_s_X3_within_142 rfl rfl rfl (by decide +kernel) ⟨Nat.le_of_ble_eq_true rfl, Nat.le_of_ble_eq_true rfl⟩) ⟨z_blind, z_pre hPc hKc hDc⟩ rfl rfl hl.1 rfl (lv_room (Nat.le_of_ble_eq_true rfl)) dX3_joined_54 ⟨Nat.le_of_ble_eq_true rfl, Nat.le_of_ble_eq_true rfl⟩) hS (fun q _ h => hFc q h) hFc (fun r_9 u t H_8 locs ht hvm hw_10 hB hz1 hk1 hS => ?_)
      replace hP := z_pure hP hk1
      clear hPc hDc hKc
      refine W.widen (k := 0) (n := 0) (Nat.le_of_ble_eq_true rfl) (Nat.le_of_ble_eq_true rfl) ?_
      exact W.lret (v := r_9) hx hb hr (fun t ht hW => ⟨⟨r_9, (), rfl, trivial, trivial⟩, hS.F ht⟩) hS.2.2 dX3_joined_57
    · skip
      rcases (Classical.em ((p0).toInt = (60 : Int))) with he_11 | he_11
      · obtain rfl : p0 = 60 := z_eq' he_11
        refine lv_lookup (off := 57) (tgt := 58) hx hb dX3_joined_1 (by decide) (by decide) (by decide) ?_
        refine lv_lload_n hx hb dX3_joined_58 rfl (lv_at hl 1 rfl) ?_
        refine lv_lload_n hx hb dX3_joined_59 rfl (lv_at hl 2 rfl) ?_
        have hPc := hP
        have hDc := hD
        have hKc := hK
        have hFc := va_free (ws := []) (wc := []) (z_D0 _) hS hA [] rfl
        refine va_calll (va_runS (As := [.long p1, .long p2]) (rest := []) ⟨hx, hb, hml, hown, hts⟩ (s_X3_times l dC dI s.heap.size p1 p2) (va_cwS 2 hts gw_s_X3_joined_s_X3_times_146 rfl rfl rfl (by decide +kernel) ⟨Nat.le_of_ble_eq_true rfl, Nat.le_of_ble_eq_true rfl⟩) ⟨z_blind, z_pre hPc hKc hDc⟩ rfl rfl hl.1 rfl (lv_room (Nat.le_of_ble_eq_true rfl)) dX3_joined_60 ⟨Nat.le_of_ble_eq_true rfl, Nat.le_of_ble_eq_true rfl⟩) hS (fun q _ h => hFc q h) hFc (fun r_13 u t H_12 locs ht hvm hw_14 hB hz1 hk1 hS => ?_)
        replace hP := z_pure hP hk1
        clear hPc hDc hKc
        refine W.widen (k := 0) (n := 0) (Nat.le_of_ble_eq_true rfl) (Nat.le_of_ble_eq_true rfl) ?_
        exact W.lret (v := r_13) hx hb hr (fun t ht hW => ⟨⟨r_13, (), rfl, trivial, trivial⟩, hS.F ht⟩) hS.2.2 dX3_joined_63
      · skip
        rcases (Classical.em ((p0).toInt = (61 : Int))) with he_15 | he_15
        · obtain rfl : p0 = 61 := z_eq' he_15
          refine lv_lookup (off := 63) (tgt := 64) hx hb dX3_joined_1 (by decide) (by decide) (by decide) ?_
          refine lv_lload_n hx hb dX3_joined_64 rfl (lv_at hl 2 rfl) ?_
          refine lv_lconst (v := 0) hx hb dX3_joined_65 (by decide) ?_
          refine W.lcmp hx hb dX3_joined_66 ?_
          refine lv_topi (fun z_16 ez_16 => ?_)
          have kz_16 : ((z_16).toInt = (1 : Int) ∧ (p2).toInt > (0 : Int)) ∨ ((z_16).toInt = (0 : Int) ∧ (p2).toInt = (0 : Int)) ∨ ((z_16).toInt = (-1 : Int) ∧ (p2).toInt < (0 : Int)) := z_lcmp ez_16
          refine lv_if_ne (tgt := 76) hx hb dX3_joined_67 (by decide) (fun c_17 => ?_) (fun c_17 => ?_)
          · have k_18 : (z_16).toInt ≠ (0 : Int) := z_ne c_17
            refine lv_lload_n hx hb dX3_joined_76 rfl (lv_at hl 1 rfl) ?_
            refine lv_lload_n hx hb dX3_joined_77 rfl (lv_at hl 2 rfl) ?_
            refine lv_ldiv hx hb dX3_joined_78 (fun q => absurd (show (p2).toInt = (0 : Int) from congrArg Int64.toInt q) (by omega)) ?_
            refine lv_topl (fun z_19 ez_19 => ?_)
            refine W.widen (k := 0) (n := 0) (Nat.le_of_ble_eq_true rfl) (Nat.le_of_ble_eq_true rfl) ?_
            exact W.lret (v := z_19) hx hb hr (fun t ht hW => ⟨⟨z_19, (), rfl, trivial, trivial⟩, hS.F ht⟩) hS.2.2 dX3_joined_79
          · have k_20 : (z_16).toInt = (0 : Int) := z_eq c_17
            obtain rfl : z_16 = 0 := z_eq' (show (z_16).toInt = (0 : Int) by omega)
            refine lv_ldc2 (v := (-9223372036854775808)) hx hb hown w__constantLong_RX3_74_9223372036854775808_ dX3_joined_70 ?_
            refine lv_goto (tgt := 79) hx hb dX3_joined_73 (by decide) ?_
            refine W.widen (k := 0) (n := 0) (Nat.le_of_ble_eq_true rfl) (Nat.le_of_ble_eq_true rfl) ?_
            exact W.lret (v := (-9223372036854775808)) hx hb hr (fun t ht hW => ⟨⟨(-9223372036854775808), (), rfl, trivial, trivial⟩, hS.F ht⟩) hS.2.2 dX3_joined_79
        · skip
          refine lv_lookup (off := 79) (tgt := 80) hx hb dX3_joined_1 (by decide) ((lv_osw (k := 50) (fun q => he_1 (z_eq q)) (by decide)).trans ((lv_osw (k := 51) (fun q => he_6 (z_eq q)) (by decide)).trans ((lv_osw (k := 60) (fun q => he_11 (z_eq q)) (by decide)).trans ((lv_osw (k := 61) (fun q => he_15 (z_eq q)) (by decide)).trans (rfl))))) (by decide) ?_
          refine lv_iload_n hx hb dX3_joined_80 rfl (lv_at hl 0 rfl) ?_
          refine lv_lload_n hx hb dX3_joined_81 rfl (lv_at hl 1 rfl) ?_
          refine lv_lload_n hx hb dX3_joined_82 rfl (lv_at hl 2 rfl) ?_
          have hPc := hP
          have hDc := hD
          have hKc := hK
          have hFc := va_free (ws := []) (wc := []) (z_D0 _) hS hA [] rfl
          refine va_calli (va_runS (As := [.int p0, .long p1, .long p2]) (rest := []) ⟨hx, hb, hml, hown, hts⟩ (s_X3_holdsTrue l dC dI s.heap.size p0 p1 p2) (va_cwS 3 hts gw_s_X3_joined_s_X3_holdsTrue_150 rfl rfl rfl (by decide +kernel) ⟨Nat.le_of_ble_eq_true rfl, Nat.le_of_ble_eq_true rfl⟩) ⟨z_blind, z_pre hPc hKc hDc⟩ rfl rfl hl.1 rfl (lv_room (Nat.le_of_ble_eq_true rfl)) dX3_joined_83 ⟨Nat.le_of_ble_eq_true rfl, Nat.le_of_ble_eq_true rfl⟩) hS (fun q _ h => hFc q h) hFc (fun r_23 u t H_22 locs ht hvm hw_24 hB hz1 hk1 hS => ?_)
          replace hP := z_pure hP hk1
          clear hPc hDc hKc
          refine lv_if_eq (tgt := 93) hx hb dX3_joined_86 (by decide) (fun c_25 => ?_) (fun c_25 => ?_)
          · have k_26 : (r_23).toInt = (0 : Int) := z_eq c_25
            obtain rfl : r_23 = 0 := z_eq' (show (r_23).toInt = (0 : Int) by omega)
            refine lv_lconst (v := 0) hx hb dX3_joined_93 (by decide) ?_
            refine W.widen (k := 0) (n := 0) (Nat.le_of_ble_eq_true rfl) (Nat.le_of_ble_eq_true rfl) ?_
            exact W.lret (v := 0) hx hb hr (fun t ht hW => ⟨⟨0, (), rfl, trivial, trivial⟩, hS.F ht⟩) hS.2.2 dX3_joined_94
          · have k_28 : (r_23).toInt ≠ (0 : Int) := z_ne c_25
            obtain rfl : r_23 = 1 := z_eq' (show (r_23).toInt = (1 : Int) by omega)
            refine lv_lconst (v := 1) hx hb dX3_joined_89 (by decide) ?_
            refine lv_goto (tgt := 94) hx hb dX3_joined_90 (by decide) ?_
            refine W.widen (k := 0) (n := 0) (Nat.le_of_ble_eq_true rfl) (Nat.le_of_ble_eq_true rfl) ?_
            exact W.lret (v := 1) hx hb hr (fun t ht hW => ⟨⟨1, (), rfl, trivial, trivial⟩, hS.F ht⟩) hS.2.2 dX3_joined_94
def u_s_X3_turnTo : List Cond := .code yX3_turnTo cX3_turnTo 3 none :: ([.fieldLink RX3 24 "ShellHeap$Judge" "own" "I", .fieldLink RX3 31 "ShellHeap$Judge" "known" "LShellHeap$Known;", .methodLink RX3 51 yX4_ahead, .instanceMethod yX4_ahead, .selects RX4 yX4_ahead yX4_ahead, .initialized RX4, .fieldLink RX3 28 "ShellHeap$Judge" "ahead" "I", .fieldLink RX3 15 "ShellHeap$Judge" "isWorked" "[Z"] ++ (wsX30 ++ (u_s_X4_ahead ++ [])))
theorem gd_s_X3_turnTo : z_gd u_s_X3_turnTo := z_gdc (by decide +kernel) (z_gda gdX3 (z_gda gd_s_X4_ahead (z_gd0)))
set_option maxRecDepth 20000 in
theorem gw_s_X3_turnTo_s_X4_ahead_51 : GoodIn u_s_X3_turnTo (wsV RX3 51 RX4 yX4_ahead u_s_X4_ahead) := z_gV (z_gr _ [3, 4, 5, 6] rfl (by decide +kernel)) (fun w h => ⟨z_mc (z_mr (z_mr (z_ml h))), gd_s_X4_ahead w h⟩)
set_option maxHeartbeats 4000000 in
set_option maxRecDepth 100000 in
theorem s_X3_turnTo (l : Launch) (dC : Nat → ClassId) (dI : Nat → Nat → Nat) (sz : Nat) (h0 : Nat) (p1 : Int32) (hkn : Nat) (h0_1 : Value) (h0_2 : Value) (h0_3 : Value) (h0_4 : Value) (h0_5 : Value) (hiw : Nat) (h0_7 : Value) (jo : Int32) (ja : Int32) (hkn_0 : Value) (hkn_1 : Value) (kl : Int32) (hkn_3 : Value) (h1 : Nat) (h2 : Nat) (hkn_6 : Value) (hkn_7 : Value) (hkn_8 : Value) (kc : Int32) (chiw : ClassId) (fhiw : Nat → Int32) (ch1 : ClassId) (fh1 : Nat → Int32) (ch2 : ClassId) (fh2 : Nat → Int32) (hB_kl : ((-1 : Int) ≤ (kl).toInt ∧ (kl).toInt ≤ (12 : Int))) (hB_kc : ((0 : Int) ≤ (kc).toInt ∧ (kc).toInt ≤ (2 : Int))) (hB_p1 : ((0 : Int) ≤ (p1).toInt ∧ (p1).toInt ≤ (11 : Int))) (hB_jo : ((-1 : Int) ≤ (jo).toInt ∧ (jo).toInt ≤ (11 : Int))) (hB_ja : ((-1 : Int) ≤ (ja).toInt ∧ (ja).toInt ≤ (11 : Int))) : Met l yX3_turnTo u_s_X3_turnTo ({ frames := 2, cells := 0, slots := 0, locals := 45 }) (va_Pc [.ref h0, .int p1] (z_C (dC, dI) vwCl [(h0, .inr (3, [.ref hkn, h0_1, h0_2, h0_3, h0_4, h0_5, .ref hiw, h0_7, .int jo, .int ja])), (hkn, .inr (4, [hkn_0, hkn_1, .int kl, hkn_3, .ref h1, .ref h2, hkn_6, hkn_7, hkn_8, .int kc])), (hiw, .inl (chiw, 20, .inl fhiw)), (h1, .inl (ch1, 12, .inl fh1)), (h2, .inl (ch2, 12, .inl fh2))] [(chiw, .boolean), (ch1, .int), (ch2, .int)] sz)) (va_Qv (fun (_ : Unit) => True) (fun (_ : Unit) (t : State) => ∃ (n_h0_own : Int32), ∃ (n_h0_ahead : Int32), ∃ (g_hiw : Nat → Int32), ((-1 : Int) ≤ (n_h0_own).toInt ∧ (n_h0_own).toInt ≤ (11 : Int)) ∧ ((-1 : Int) ≤ (n_h0_ahead).toInt ∧ (n_h0_ahead).toInt ≤ (11 : Int)) ∧ va_P (dC, dI) vwCl [(h0, .inr (3, [.ref hkn, h0_1, h0_2, h0_3, h0_4, h0_5, .ref hiw, h0_7, .int n_h0_own, .int n_h0_ahead])), (hkn, .inr (4, [hkn_0, hkn_1, .int kl, hkn_3, .ref h1, .ref h2, hkn_6, hkn_7, hkn_8, .int kc])), (hiw, .inl (chiw, 20, .inl g_hiw)), (h1, .inl (ch1, 12, .inl fh1)), (h2, .inl (ch2, 12, .inl fh2))] t.heap ∧ va_K (dC, dI) vwCl [] t ∧ va_D (va_A [(h0, .inr (3, [.ref hkn, h0_1, h0_2, h0_3, h0_4, h0_5, .ref hiw, h0_7, .int jo, .int ja])), (hkn, .inr (4, [hkn_0, hkn_1, .int kl, hkn_3, .ref h1, .ref h2, hkn_6, hkn_7, hkn_8, .int kc])), (hiw, .inl (chiw, 20, .inl fhiw)), (h1, .inl (ch1, 12, .inl fh1)), (h2, .inl (ch2, 12, .inl fh2))] sz) [(h0, .inr (3, [.ref hkn, h0_1, h0_2, h0_3, h0_4, h0_5, .ref hiw, h0_7, .int n_h0_own, .int n_h0_ahead])), (hkn, .inr (4, [hkn_0, hkn_1, .int kl, hkn_3, .ref h1, .ref h2, hkn_6, hkn_7, hkn_8, .int kc])), (hiw, .inl (chiw, 20, .inl g_hiw)), (h1, .inl (ch1, 12, .inl fh1)), (h2, .inl (ch2, 12, .inl fh2))]) (va_A [(h0, .inr (3, [.ref hkn, h0_1, h0_2, h0_3, h0_4, h0_5, .ref hiw, h0_7, .int jo, .int ja])), (hkn, .inr (4, [hkn_0, hkn_1, .int kl, hkn_3, .ref h1, .ref h2, hkn_6, hkn_7, hkn_8, .int kc])), (hiw, .inl (chiw, 20, .inl fhiw)), (h1, .inl (ch1, 12, .inl fh1)), (h2, .inl (ch2, 12, .inl fh2))] sz)) 0 0 (va_A [(h0, .inr (3, [.ref hkn, h0_1, h0_2, h0_3, h0_4, h0_5, .ref hiw, h0_7, .int jo, .int ja])), (hkn, .inr (4, [hkn_0, hkn_1, .int kl, hkn_3, .ref h1, .ref h2, hkn_6, hkn_7, hkn_8, .int kc])), (hiw, .inl (chiw, 20, .inl fhiw)), (h1, .inl (ch1, 12, .inl fh1)), (h2, .inl (ch2, 12, .inl fh2))] sz) := by
  refine Met.ofW (cc := cX3_turnTo) (maxL := 3) (ret := none) (by decide) rfl ?_
  intro p e s m args below meth c s₁ B hml hv
  obtain ⟨rfl, hsz, hP, hK, hD0⟩ := hv
  have hx := B.exec
  have hb := B.bytes
  have hr := B.returns
  have hts := atoms_spec (ws := u_s_X3_turnTo) B.pre
  have hown : s.vm.findClass RX3 = some m.cls := findClass_of_methodNamed B.named
  have hlocks := B.notSynchronized
  subst hsz
  have hD := hD0.self (sz := s.heap.size)
  generalize hAe : va_A [(h0, .inr (3, [.ref hkn, h0_1, h0_2, h0_3, h0_4, h0_5, .ref hiw, h0_7, .int jo, .int ja])), (hkn, .inr (4, [hkn_0, hkn_1, .int kl, hkn_3, .ref h1, .ref h2, hkn_6, hkn_7, hkn_8, .int kc])), (hiw, .inl (chiw, 20, .inl fhiw)), (h1, .inl (ch1, 12, .inl fh1)), (h2, .inl (ch2, 12, .inl fh2))] s.heap.size = A at hD ⊢
  have hA : ∀ q : Nat, s.heap.size ≤ q → A q := fun q h => by rw [← hAe]; exact Or.inr h
  have hS : va_S A s.heap s.heap [] := va_S.rf
  have hP : va_P (dC, dI) vwCl [(h0, .inr (3, [.ref hkn, h0_1, h0_2, h0_3, h0_4, h0_5, .ref hiw, h0_7, .int jo, .int ja])), (hkn, .inr (4, [hkn_0, hkn_1, .int kl, hkn_3, .ref h1, .ref h2, hkn_6, hkn_7, hkn_8, .int kc])), (hiw, .inl (chiw, 20, .inl fhiw)), (h1, .inl (ch1, 12, .inl fh1)), (h2, .inl (ch2, 12, .inl fh2))] s.heap := hP
  have w__fieldLink_RX3_24_ShellHeap_Judge_own_I_ := hts (.fieldLink RX3 24 "ShellHeap$Judge" "own" "I") (z_mc (z_ml z_m0))
  have hiX3 := show ∀ w ∈ u_ws RX3 TX3 10, w ∈ u_s_X3_turnTo from fun w h => z_mc (z_mr (z_ml h))
  have w__fieldLink_RX3_31_ShellHeap_Judge_known_LShellHeap_Known_ := hts (.fieldLink RX3 31 "ShellHeap$Judge" "known" "LShellHeap$Known;") (z_mc (z_ml z_m1))
  have w__fieldLink_RX3_28_ShellHeap_Judge_ahead_I_ := hts (.fieldLink RX3 28 "ShellHeap$Judge" "ahead" "I") (z_mc (z_ml z_m6))
  have w__fieldLink_RX3_15_ShellHeap_Judge_isWorked_Z_ := hts (.fieldLink RX3 15 "ShellHeap$Judge" "isWorked" "[Z") (z_mc (z_ml z_m7))
  have hl := lv_entry ([.ref h0, .int p1]) (n := 3) (Nat.le_of_ble_eq_true rfl)
  rw [lg_entry_eq]
  generalize (lg_sl ([.ref h0, .int p1]) ++ List.replicate (3 - (lg_sl ([.ref h0, .int p1])).length) Slot.unset).toArray = ls at hl ⊢
  have hl : lv_has ls 3 [(0, .ref h0), (1, .int p1)] := hl
  refine z_nameQ (fun QQ hQQ => ?_)
  refine lv_aload_n hx hb dX3_turnTo_0 rfl (lv_at hl 0 rfl) ?_
  refine lv_iload_n hx hb dX3_turnTo_1 rfl (lv_at hl 1 rfl) ?_
  refine va_put (D := (dC, dI)) (ci := 3) (v := .int p1) (ty := .int) (C := RX3) (T := TX3) (N := 10) hx hb hts hiX3 tyX3 tyX3_ok nmX3 hown hK hP hD hS 0 rfl rfl 8 (by decide) w__fieldLink_RX3_24_ShellHeap_Judge_own_I_ (fun _ h9 => h9) rfl (by decide +kernel) rfl rfl (Nat.le_of_ble_eq_true rfl) dX3_turnTo_2 (fun H_1 locs hP hD hS => ?_)
  obtain ⟨hP, hD⟩ := z_s_0_8 hP hD
  refine lv_aload_n hx hb dX3_turnTo_5 rfl (lv_at hl 0 rfl) ?_
  refine lv_aload_n hx hb dX3_turnTo_6 rfl (lv_at hl 0 rfl) ?_
  refine va_get (D := (dC, dI)) (ci := 3) (v := .ref hkn) (C := RX3) (T := TX3) (N := 10) hx hb hts hiX3 hown hK hP 0 rfl rfl 0 (by decide) w__fieldLink_RX3_31_ShellHeap_Judge_known_LShellHeap_Known_ (fun _ h9 => h9) rfl dX3_turnTo_7 ?_
  refine lv_iload_n hx hb dX3_turnTo_10 rfl (lv_at hl 1 rfl) ?_
  obtain ⟨hPc, hDc⟩ := z_sub2 (ws' := [(hkn, .inr (4, [hkn_0, hkn_1, .int kl, hkn_3, .ref h1, .ref h2, hkn_6, hkn_7, hkn_8, .int kc])), (h1, .inl (ch1, 12, .inl fh1)), (h2, .inl (ch2, 12, .inl fh2))]) hP hD [1, 3, 4] (by decide) rfl
  have hKc := hK.sub (tys' := [(ch1, .int), (ch2, .int)]) [1, 2] rfl
  have hFc := va_free (ws := []) (wc := []) (z_D0 _) hS hA [] rfl
  refine va_calli (va_runV (As := [.int p1]) (rest := [.ref h0]) ⟨hx, hb, hml, hown, hts⟩ (s_X4_ahead l dC dI H_1.size hkn p1 hkn_0 hkn_1 kl hkn_3 h1 h2 hkn_6 hkn_7 hkn_8 kc ch1 fh1 ch2 fh2 hB_kl hB_kc hB_p1) (cwV 1 hts gw_s_X3_turnTo_s_X4_ahead_51 rfl rfl rfl (by decide +kernel) ⟨Nat.le_of_ble_eq_true rfl, Nat.le_of_ble_eq_true rfl⟩) ⟨z_blind, va_recv hKc hPc (ci := 4) (q0 := 0) rfl rfl, z_pre hPc hKc hDc⟩ rfl rfl hl.1 rfl (lv_room (Nat.le_of_ble_eq_true rfl)) dX3_turnTo_11 ⟨Nat.le_of_ble_eq_true rfl, Nat.le_of_ble_eq_true rfl⟩) hS (fun q _ h => hFc q h) hFc (fun r_3 u t H_2 locs ht hvm hw_4 hB hz1 hk1 hS => ?_)
  replace hP := z_pure hP hk1
  clear hPc hDc hKc
  refine va_put (D := (dC, dI)) (ci := 3) (v := .int r_3) (ty := .int) (C := RX3) (T := TX3) (N := 10) hx hb hts hiX3 tyX3 tyX3_ok nmX3 hown hK hP hD hS 0 rfl rfl 9 (by decide) w__fieldLink_RX3_28_ShellHeap_Judge_ahead_I_ (fun _ h9 => h9) rfl (by decide +kernel) rfl rfl (Nat.le_of_ble_eq_true rfl) dX3_turnTo_14 (fun H_5 locs hP hD hS => ?_)
  obtain ⟨hP, hD⟩ := z_s_0_9 hP hD
  refine lv_iconst (v := 0) hx hb dX3_turnTo_17 (by decide) ?_
  refine lv_istore_n (lv' := [(2, .int 0), (0, .ref h0), (1, .int p1)]) hx hb dX3_turnTo_18 rfl hl (by decide) rfl (fun ls hl => ?_)
  have loop_6 : ∀ (n_7 : Nat) (i_9 : Int32) (f_10 : Nat → Int32) (H : Heap) (locs : List Loc) (ls : Array Slot), (21 - (i_9).toInt).toNat < n_7 → (((0 : Int) ≤ (i_9).toInt ∧ (i_9).toInt ≤ (20 : Int))) → va_P (dC, dI) vwCl [(h0, .inr (3, [.ref hkn, h0_1, h0_2, h0_3, h0_4, h0_5, .ref hiw, h0_7, .int p1, .int r_3])), (hkn, .inr (4, [hkn_0, hkn_1, .int kl, hkn_3, .ref h1, .ref h2, hkn_6, hkn_7, hkn_8, .int kc])), (hiw, .inl (chiw, 20, .inl f_10)), (h1, .inl (ch1, 12, .inl fh1)), (h2, .inl (ch2, 12, .inl fh2))] H → va_D A [(h0, .inr (3, [.ref hkn, h0_1, h0_2, h0_3, h0_4, h0_5, .ref hiw, h0_7, .int p1, .int r_3])), (hkn, .inr (4, [hkn_0, hkn_1, .int kl, hkn_3, .ref h1, .ref h2, hkn_6, hkn_7, hkn_8, .int kc])), (hiw, .inl (chiw, 20, .inl f_10)), (h1, .inl (ch1, 12, .inl fh1)), (h2, .inl (ch2, 12, .inl fh2))] → va_S A s.heap H locs → lv_has ls 3 [(2, .int i_9), (0, .ref h0), (1, .int p1)] → W p l e ({ frames := 2, cells := 0, slots := 0, locals := 45 } : Room) s m ([.ref h0, .int p1] : List Value).toArray below meth c H locs 0 0 QQ (F0 m 19 ls []) := by
    intro n_7
    induction n_7 with
    | zero => intro i_9 f_10 H locs ls hm; exact absurd hm (Nat.not_lt_zero _)
    | succ n_7 ih_8 =>
      intro i_9 f_10 H locs ls hm hF_11 hP hD hS hl
      refine lv_iload_n hx hb dX3_turnTo_19 rfl (lv_at hl 0 rfl) ?_
      refine lv_bipush (v := 20) hx hb dX3_turnTo_20 (by decide) ?_
      refine lv_icmp_ge (tgt := 38) hx hb dX3_turnTo_22 (by decide) (fun c_12 => ?_) (fun c_12 => ?_)
      · have k_13 : (20 : Int) ≤ (i_9).toInt := z_le c_12
        obtain rfl : i_9 = 20 := z_eq' (show (i_9).toInt = (20 : Int) by omega)
        refine z_backQ hQQ ?_
        have hP9 := hP
        have hD9 := hD
        have hK9 := hK.sub (tys' := []) [] rfl
        refine W.widen (k := 0) (n := 0) (Nat.le_of_ble_eq_true rfl) (Nat.le_of_ble_eq_true rfl) ?_
        exact W.vret hx hb hr (fun t ht hW => ⟨⟨(), rfl, trivial, ⟨p1, r_3, f_10, (z_bw hB_p1 (by decide) (by decide)), (by first | omega | decide), by rw [ht]; exact hP9, va_K.moved hW.alike hK9, hD9⟩⟩, hS.F ht⟩) hS.2.2 dX3_turnTo_38
      · have k_15 : (20 : Int) > (i_9).toInt := z_nle c_12
        refine lv_aload_n hx hb dX3_turnTo_25 rfl (lv_at hl 1 rfl) ?_
        refine va_get (D := (dC, dI)) (ci := 3) (v := .ref hiw) (C := RX3) (T := TX3) (N := 10) hx hb hts hiX3 hown hK hP 0 rfl rfl 6 (by decide) w__fieldLink_RX3_15_ShellHeap_Judge_isWorked_Z_ (fun _ h9 => h9) rfl dX3_turnTo_26 ?_
        refine lv_iload_n hx hb dX3_turnTo_29 rfl (lv_at hl 0 rfl) ?_
        refine lv_iconst (v := 0) hx hb dX3_turnTo_30 (by decide) ?_
        refine va_zast hx hb hK hP hD hS 2 0 rfl rfl (z_vpin (by omega) (by omega)) dX3_turnTo_31 (fun H_16 locs hP hD hS => ?_)
        obtain ⟨hP, hD⟩ := z_s_2 hP hD
        generalize (upd f_10 (i_9 : Int32).toNatClampNeg (vp_nar .boolean 0)) = f_17 at hP hD
        obtain ⟨z_18, ez_18⟩ : ∃ y : Int32, y = i_9 + 1 := ⟨_, rfl⟩
        have kz_18 : (z_18).toInt = (i_9).toInt + (1 : Int) := by rw [ez_18]; exact z_add (b := 1) rfl rfl (z_al hF_11.1 (by decide)) (z_ah hF_11.2 (by decide))
        refine lv_iinc (v := z_18) (lv' := [(2, .int z_18), (0, .ref h0), (1, .int p1)]) hx hb dX3_turnTo_32 hl (k := 0) rfl (by rw [ez_18]; rfl) (by decide) rfl (fun ls hl => ?_)
        refine lv_goto (tgt := 19) hx hb dX3_turnTo_35 (by decide) ?_
        exact ih_8 z_18 f_17 _ _ _ (show (21 - (z_18).toInt).toNat < n_7 by omega) (show ((0 : Int) ≤ (z_18).toInt ∧ (z_18).toInt ≤ (20 : Int)) by omega) hP hD hS (lv_sub hl [0, 1, 2] rfl)
  exact loop_6 _ 0 fhiw _ _ _ (Nat.lt_succ_self _) (show ((0 : Int) ≤ (0 : Int) ∧ (0 : Int) ≤ (20 : Int)) by omega) hP hD hS hl
def u_s_X12_big2 : List Cond := .code yX12_big cX12_big 2 (some .long) :: ([] ++ [])
theorem gd_s_X12_big2 : z_gd u_s_X12_big2 := z_gdc (by decide +kernel) (z_gd0)
set_option maxHeartbeats 4000000 in
set_option maxRecDepth 100000 in
theorem s_X12_big2 (l : Launch) (dC : Nat → ClassId) (dI : Nat → Nat → Nat) (sz : Nat) (p0 : Int64) : Met l yX12_big u_s_X12_big2 ({ frames := 0, cells := 0, slots := 0, locals := 0 }) (va_Pc [.long p0] (z_C (dC, dI) vwCl [] [] sz)) (va_Ql (fun (r : Int64) (_ : Unit) => (p0.toInt ≠ (0 : Int) → r.toInt ≠ (0 : Int))) (fun (_ : Unit) (_ : State) => True) (va_A [] sz)) 0 0 (va_A [] sz) := by
  refine Met.ofW (cc := cX12_big) (maxL := 2) (ret := (some .long)) (by decide) rfl ?_
  intro p e s m args below meth c s₁ B hml hv
  obtain ⟨rfl, hsz, hP, hK, hD0⟩ := hv
  have hx := B.exec
  have hb := B.bytes
  have hr := B.returns
  have hts := atoms_spec (ws := u_s_X12_big2) B.pre
  have hown : s.vm.findClass RX12 = some m.cls := findClass_of_methodNamed B.named
  have hlocks := B.notSynchronized
  subst hsz
  have hD := hD0
  generalize hAe : va_A [] s.heap.size = A
  have hA : ∀ q : Nat, s.heap.size ≤ q → A q := fun q h => by rw [← hAe]; exact Or.inr h
  have hS : va_S A s.heap s.heap [] := va_S.rf
  have hP : va_P (dC, dI) vwCl [] s.heap := hP
  have hl := lv_entry ([.long p0]) (n := 2) (Nat.le_of_ble_eq_true rfl)
  rw [lg_entry_eq]
  generalize (lg_sl ([.long p0]) ++ List.replicate (2 - (lg_sl ([.long p0])).length) Slot.unset).toArray = ls at hl ⊢
  have hl : lv_has ls 2 [(0, .long p0)] := hl
  refine lv_lload_n hx hb dX12_big_0 rfl (lv_at hl 0 rfl) ?_
  refine lv_lconst (v := 0) hx hb dX12_big_1 (by decide) ?_
  refine W.lcmp hx hb dX12_big_2 ?_
  refine lv_topi (fun z_1 ez_1 => ?_)
  have kz_1 : ((z_1).toInt = (1 : Int) ∧ (p0).toInt > (0 : Int)) ∨ ((z_1).toInt = (0 : Int) ∧ (p0).toInt = (0 : Int)) ∨ ((z_1).toInt = (-1 : Int) ∧ (p0).toInt < (0 : Int)) := z_lcmp ez_1
  refine lv_if_ge (tgt := 11) hx hb dX12_big_3 (by decide) (fun c_2 => ?_) (fun c_2 => ?_)
  · have k_3 : (0 : Int) ≤ (z_1).toInt := z_le c_2
    refine lv_lload_n hx hb dX12_big_11 rfl (lv_at hl 0 rfl) ?_
    refine W.widen (k := 0) (n := 0) (Nat.le_of_ble_eq_true rfl) (Nat.le_of_ble_eq_true rfl) ?_
    exact W.lret (v := p0) hx hb hr (fun t ht hW => ⟨⟨p0, (), rfl, (show (p0.toInt ≠ (0 : Int) → (p0).toInt ≠ (0 : Int)) from id), trivial⟩, hS.F ht⟩) hS.2.2 dX12_big_12
  · have k_4 : (0 : Int) > (z_1).toInt := z_nle c_2
    obtain rfl : z_1 = (-1) := z_eq' (show (z_1).toInt = (-1 : Int) by omega)
    refine lv_lload_n hx hb dX12_big_6 rfl (lv_at hl 0 rfl) ?_
    refine lv_lneg hx hb dX12_big_7 ?_
    refine lv_topl (fun z_6 ez_6 => ?_)
    refine lv_goto (tgt := 12) hx hb dX12_big_8 (by decide) ?_
    refine W.widen (k := 0) (n := 0) (Nat.le_of_ble_eq_true rfl) (Nat.le_of_ble_eq_true rfl) ?_
    exact W.lret (v := z_6) hx hb hr (fun t ht hW => ⟨⟨z_6, (), rfl, (show (p0.toInt ≠ (0 : Int) → (z_6).toInt ≠ (0 : Int)) from (fun h9 => z_negne ez_6 h9)), trivial⟩, hS.F ht⟩) hS.2.2 dX12_big_12
def u_s_X12_bounded : List Cond := .code yX12_bounded cX12_bounded 2 (some .long) :: ([.methodLink RX12 403 yX12_big, .static yX12_big, .initialized RX12, .constantLong RX12 407 (1000000000000000), .constantLong RX12 396 (-9223372036854775808)] ++ (u_s_X12_big2 ++ []))
theorem gd_s_X12_bounded : z_gd u_s_X12_bounded := z_gdc (by decide +kernel) (z_gda gd_s_X12_big2 (z_gd0))
set_option maxRecDepth 20000 in
theorem gw_s_X12_bounded_s_X12_big2_403 : GoodIn u_s_X12_bounded (va_wsS RX12 403 yX12_big u_s_X12_big2) := z_gS (z_gr _ [1, 2, 3] rfl (by decide +kernel)) (fun w h => ⟨z_mc (z_mr (z_ml h)), gd_s_X12_big2 w h⟩)
set_option maxHeartbeats 4000000 in
set_option maxRecDepth 100000 in
theorem s_X12_bounded (l : Launch) (dC : Nat → ClassId) (dI : Nat → Nat → Nat) (sz : Nat) (p0 : Int64) : Met l yX12_bounded u_s_X12_bounded ({ frames := 1, cells := 0, slots := 0, locals := 21 }) (va_Pc [.long p0] (z_C (dC, dI) vwCl [] [] sz)) (va_Ql (fun (r : Int64) (_ : Unit) => True) (fun (_ : Unit) (_ : State) => True) (va_A [] sz)) 0 0 (va_A [] sz) := by
  refine Met.ofW (cc := cX12_bounded) (maxL := 2) (ret := (some .long)) (by decide) rfl ?_
  intro p e s m args below meth c s₁ B hml hv
  obtain ⟨rfl, hsz, hP, hK, hD0⟩ := hv
  have hx := B.exec
  have hb := B.bytes
  have hr := B.returns
  have hts := atoms_spec (ws := u_s_X12_bounded) B.pre
  have hown : s.vm.findClass RX12 = some m.cls := findClass_of_methodNamed B.named
  have hlocks := B.notSynchronized
  subst hsz
  have hD := hD0
  generalize hAe : va_A [] s.heap.size = A
  have hA : ∀ q : Nat, s.heap.size ≤ q → A q := fun q h => by rw [← hAe]; exact Or.inr h
  have hS : va_S A s.heap s.heap [] := va_S.rf
  have hP : va_P (dC, dI) vwCl [] s.heap := hP
  have w__constantLong_RX12_407_1000000000000000_ := hts (.constantLong RX12 407 (1000000000000000)) (z_mc (z_ml z_m3))
  have w__constantLong_RX12_396_9223372036854775808_ := hts (.constantLong RX12 396 (-9223372036854775808)) (z_mc (z_ml z_m4))
  have hl := lv_entry ([.long p0]) (n := 2) (Nat.le_of_ble_eq_true rfl)
  rw [lg_entry_eq]
  generalize (lg_sl ([.long p0]) ++ List.replicate (2 - (lg_sl ([.long p0])).length) Slot.unset).toArray = ls at hl ⊢
  have hl : lv_has ls 2 [(0, .long p0)] := hl
  refine lv_lload_n hx hb dX12_bounded_0 rfl (lv_at hl 0 rfl) ?_
  have hPc := hP
  have hDc := hD
  have hKc := hK
  have hFc := va_free (ws := []) (wc := []) (z_D0 _) hS hA [] rfl
  refine va_calll (va_runS (As := [.long p0]) (rest := []) ⟨hx, hb, hml, hown, hts⟩ (s_X12_big2 l dC dI s.heap.size p0) (va_cwS 1 hts gw_s_X12_bounded_s_X12_big2_403 rfl rfl rfl (by decide +kernel) ⟨Nat.le_of_ble_eq_true rfl, Nat.le_of_ble_eq_true rfl⟩) ⟨z_blind, z_pre hPc hKc hDc⟩ rfl rfl hl.1 rfl (lv_room (Nat.le_of_ble_eq_true rfl)) dX12_bounded_1 ⟨Nat.le_of_ble_eq_true rfl, Nat.le_of_ble_eq_true rfl⟩) hS (fun q _ h => hFc q h) hFc (fun r_2 u t H_1 locs ht hvm hw_3 hB hz1 hk1 hS => ?_)
  replace hP := z_pure hP hk1
  clear hPc hDc hKc
  refine lv_ldc2 (v := 1000000000000000) hx hb hown w__constantLong_RX12_407_1000000000000000_ dX12_bounded_4 ?_
  refine W.lcmp hx hb dX12_bounded_7 ?_
  refine lv_topi (fun z_4 ez_4 => ?_)
  have kz_4 : ((z_4).toInt = (1 : Int) ∧ (r_2).toInt > (1000000000000000 : Int)) ∨ ((z_4).toInt = (0 : Int) ∧ (r_2).toInt = (1000000000000000 : Int)) ∨ ((z_4).toInt = (-1 : Int) ∧ (r_2).toInt < (1000000000000000 : Int)) := z_lcmp ez_4
  refine lv_if_le (tgt := 17) hx hb dX12_bounded_8 (by decide) (fun c_5 => ?_) (fun c_5 => ?_)
  · have k_6 : (z_4).toInt ≤ (0 : Int) := z_le c_5
    refine lv_lload_n hx hb dX12_bounded_17 rfl (lv_at hl 0 rfl) ?_
    refine W.widen (k := 0) (n := 0) (Nat.le_of_ble_eq_true rfl) (Nat.le_of_ble_eq_true rfl) ?_
    exact W.lret (v := p0) hx hb hr (fun t ht hW => ⟨⟨p0, (), rfl, trivial, trivial⟩, hS.F ht⟩) hS.2.2 dX12_bounded_18
  · have k_7 : (z_4).toInt > (0 : Int) := z_nle c_5
    obtain rfl : z_4 = 1 := z_eq' (show (z_4).toInt = (1 : Int) by omega)
    refine lv_ldc2 (v := (-9223372036854775808)) hx hb hown w__constantLong_RX12_396_9223372036854775808_ dX12_bounded_11 ?_
    refine lv_goto (tgt := 18) hx hb dX12_bounded_14 (by decide) ?_
    refine W.widen (k := 0) (n := 0) (Nat.le_of_ble_eq_true rfl) (Nat.le_of_ble_eq_true rfl) ?_
    exact W.lret (v := (-9223372036854775808)) hx hb hr (fun t ht hW => ⟨⟨(-9223372036854775808), (), rfl, trivial, trivial⟩, hS.F ht⟩) hS.2.2 dX12_bounded_18
def u_s_X12_made : List Cond := .code yX12_made cX12_made 5 (some .long) :: ([.methodLink RX12 409 yX12_truth, .static yX12_truth, .initialized RX12, .methodLink RX12 413 yX12_bounded, .static yX12_bounded, .methodLink RX12 403 yX12_big, .static yX12_big, .constantLong RX12 407 (1000000000000000), .constantLong RX12 396 (-9223372036854775808)] ++ (u_s_X12_truth ++ (u_s_X12_bounded ++ (u_s_X12_big2 ++ []))))
theorem gd_s_X12_made : z_gd u_s_X12_made := z_gdc (by decide +kernel) (z_gda gd_s_X12_truth (z_gda gd_s_X12_bounded (z_gda gd_s_X12_big2 (z_gd0))))
set_option maxRecDepth 20000 in
theorem gw_s_X12_made_s_X12_truth_409 : GoodIn u_s_X12_made (va_wsS RX12 409 yX12_truth u_s_X12_truth) := z_gS (z_gr _ [1, 2, 3] rfl (by decide +kernel)) (fun w h => ⟨z_mc (z_mr (z_ml h)), gd_s_X12_truth w h⟩)
set_option maxRecDepth 20000 in
theorem gw_s_X12_made_s_X12_bounded_413 : GoodIn u_s_X12_made (va_wsS RX12 413 yX12_bounded u_s_X12_bounded) := z_gS (z_gr _ [4, 5, 3] rfl (by decide +kernel)) (fun w h => ⟨z_mc (z_mr (z_mr (z_ml h))), gd_s_X12_bounded w h⟩)
set_option maxRecDepth 20000 in
theorem gw_s_X12_made_s_X12_big2_403 : GoodIn u_s_X12_made (va_wsS RX12 403 yX12_big u_s_X12_big2) := z_gS (z_gr _ [6, 7, 3] rfl (by decide +kernel)) (fun w h => ⟨z_mc (z_mr (z_mr (z_mr (z_ml h)))), gd_s_X12_big2 w h⟩)
set_option maxHeartbeats 4000000 in
set_option maxRecDepth 100000 in
theorem s_X12_made (l : Launch) (dC : Nat → ClassId) (dI : Nat → Nat → Nat) (sz : Nat) (p0 : Int32) (p1 : Int64) (p2 : Int64) : Met l yX12_made u_s_X12_made ({ frames := 2, cells := 0, slots := 0, locals := 42 }) (va_Pc [.int p0, .long p1, .long p2] (z_C (dC, dI) vwCl [] [] sz)) (va_Ql (fun (r : Int64) (_ : Unit) => True) (fun (_ : Unit) (_ : State) => True) (va_A [] sz)) 0 0 (va_A [] sz) := by
  refine Met.ofW (cc := cX12_made) (maxL := 5) (ret := (some .long)) (by decide) rfl ?_
  intro p e s m args below meth c s₁ B hml hv
  obtain ⟨rfl, hsz, hP, hK, hD0⟩ := hv
  have hx := B.exec
  have hb := B.bytes
  have hr := B.returns
  have hts := atoms_spec (ws := u_s_X12_made) B.pre
  have hown : s.vm.findClass RX12 = some m.cls := findClass_of_methodNamed B.named
  have hlocks := B.notSynchronized
  subst hsz
  have hD := hD0
  generalize hAe : va_A [] s.heap.size = A
  have hA : ∀ q : Nat, s.heap.size ≤ q → A q := fun q h => by rw [← hAe]; exact Or.inr h
  have hS : va_S A s.heap s.heap [] := va_S.rf
  have hP : va_P (dC, dI) vwCl [] s.heap := hP
  have w__constantLong_RX12_407_1000000000000000_ := hts (.constantLong RX12 407 (1000000000000000)) (z_mc (z_ml z_m7))
  have w__constantLong_RX12_396_9223372036854775808_ := hts (.constantLong RX12 396 (-9223372036854775808)) (z_mc (z_ml z_m8))
  have krr_p0 := z_rng p0
  have hl := lv_entry ([.int p0, .long p1, .long p2]) (n := 5) (Nat.le_of_ble_eq_true rfl)
  rw [lg_entry_eq]
  generalize (lg_sl ([.int p0, .long p1, .long p2]) ++ List.replicate (5 - (lg_sl ([.int p0, .long p1, .long p2])).length) Slot.unset).toArray = ls at hl ⊢
  have hl : lv_has ls 5 [(0, .int p0), (1, .long p1), (3, .long p2)] := hl
  refine lv_iload_n hx hb dX12_made_0 rfl (lv_at hl 0 rfl) ?_
  rcases z_sw p0 (1) (12) with hsw | hsw
  · refine lv_tableOut (tgt := 237) hx hb dX12_made_1 hsw (by decide) ?_
    refine lv_lload_n hx hb dX12_made_237 rfl (lv_at hl 1 rfl) ?_
    refine lv_lconst (v := 0) hx hb dX12_made_238 (by decide) ?_
    refine W.lcmp hx hb dX12_made_239 ?_
    refine lv_topi (fun z_1 ez_1 => ?_)
    have kz_1 : ((z_1).toInt = (1 : Int) ∧ (p1).toInt > (0 : Int)) ∨ ((z_1).toInt = (0 : Int) ∧ (p1).toInt = (0 : Int)) ∨ ((z_1).toInt = (-1 : Int) ∧ (p1).toInt < (0 : Int)) := z_lcmp ez_1
    refine lv_if_ne (tgt := 249) hx hb dX12_made_240 (by decide) (fun c_2 => ?_) (fun c_2 => ?_)
    · have k_3 : (z_1).toInt ≠ (0 : Int) := z_ne c_2
      refine lv_iconst (v := 1) hx hb dX12_made_249 (by decide) ?_
      refine lv_goto (tgt := 254) hx hb dX12_made_250 (by decide) ?_
      have hPc := hP
      have hDc := hD
      have hKc := hK
      have hFc := va_free (ws := []) (wc := []) (z_D0 _) hS hA [] rfl
      refine va_calll (va_runS (As := [.int 1]) (rest := []) ⟨hx, hb, hml, hown, hts⟩ (s_X12_truth l dC dI s.heap.size 1) (va_cwS 1 hts gw_s_X12_made_s_X12_truth_409 rfl rfl rfl (by decide +kernel) ⟨Nat.le_of_ble_eq_true rfl, Nat.le_of_ble_eq_true rfl⟩) ⟨z_blind, z_pre hPc hKc hDc⟩ rfl rfl hl.1 rfl (lv_room (Nat.le_of_ble_eq_true rfl)) dX12_made_254 ⟨Nat.le_of_ble_eq_true rfl, Nat.le_of_ble_eq_true rfl⟩) hS (fun q _ h => hFc q h) hFc (fun r_5 u t H_4 locs ht hvm hw_6 hB hz1 hk1 hS => ?_)
      replace hP := z_pure hP hk1
      clear hPc hDc hKc
      refine W.widen (k := 0) (n := 0) (Nat.le_of_ble_eq_true rfl) (Nat.le_of_ble_eq_true rfl) ?_
      exact W.lret (v := r_5) hx hb hr (fun t ht hW => ⟨⟨r_5, (), rfl, trivial, trivial⟩, hS.F ht⟩) hS.2.2 dX12_made_257
    · have k_7 : (z_1).toInt = (0 : Int) := z_eq c_2
      obtain rfl : z_1 = 0 := z_eq' (show (z_1).toInt = (0 : Int) by omega)
      refine lv_lload_n hx hb dX12_made_243 rfl (lv_at hl 2 rfl) ?_
      refine lv_lconst (v := 0) hx hb dX12_made_244 (by decide) ?_
      refine W.lcmp hx hb dX12_made_245 ?_
      refine lv_topi (fun z_9 ez_9 => ?_)
      have kz_9 : ((z_9).toInt = (1 : Int) ∧ (p2).toInt > (0 : Int)) ∨ ((z_9).toInt = (0 : Int) ∧ (p2).toInt = (0 : Int)) ∨ ((z_9).toInt = (-1 : Int) ∧ (p2).toInt < (0 : Int)) := z_lcmp ez_9
      refine lv_if_eq (tgt := 253) hx hb dX12_made_246 (by decide) (fun c_10 => ?_) (fun c_10 => ?_)
      · have k_11 : (z_9).toInt = (0 : Int) := z_eq c_10
        obtain rfl : z_9 = 0 := z_eq' (show (z_9).toInt = (0 : Int) by omega)
        refine lv_iconst (v := 0) hx hb dX12_made_253 (by decide) ?_
        have hPc := hP
        have hDc := hD
        have hKc := hK
        have hFc := va_free (ws := []) (wc := []) (z_D0 _) hS hA [] rfl
        refine va_calll (va_runS (As := [.int 0]) (rest := []) ⟨hx, hb, hml, hown, hts⟩ (s_X12_truth l dC dI s.heap.size 0) (va_cwS 1 hts gw_s_X12_made_s_X12_truth_409 rfl rfl rfl (by decide +kernel) ⟨Nat.le_of_ble_eq_true rfl, Nat.le_of_ble_eq_true rfl⟩) ⟨z_blind, z_pre hPc hKc hDc⟩ rfl rfl hl.1 rfl (lv_room (Nat.le_of_ble_eq_true rfl)) dX12_made_254 ⟨Nat.le_of_ble_eq_true rfl, Nat.le_of_ble_eq_true rfl⟩) hS (fun q _ h => hFc q h) hFc (fun r_14 u t H_13 locs ht hvm hw_15 hB hz1 hk1 hS => ?_)
        replace hP := z_pure hP hk1
        clear hPc hDc hKc
        refine W.widen (k := 0) (n := 0) (Nat.le_of_ble_eq_true rfl) (Nat.le_of_ble_eq_true rfl) ?_
        exact W.lret (v := r_14) hx hb hr (fun t ht hW => ⟨⟨r_14, (), rfl, trivial, trivial⟩, hS.F ht⟩) hS.2.2 dX12_made_257
      · have k_16 : (z_9).toInt ≠ (0 : Int) := z_ne c_10
        refine lv_iconst (v := 1) hx hb dX12_made_249 (by decide) ?_
        refine lv_goto (tgt := 254) hx hb dX12_made_250 (by decide) ?_
        have hPc := hP
        have hDc := hD
        have hKc := hK
        have hFc := va_free (ws := []) (wc := []) (z_D0 _) hS hA [] rfl
        refine va_calll (va_runS (As := [.int 1]) (rest := []) ⟨hx, hb, hml, hown, hts⟩ (s_X12_truth l dC dI s.heap.size 1) (va_cwS 1 hts gw_s_X12_made_s_X12_truth_409 rfl rfl rfl (by decide +kernel) ⟨Nat.le_of_ble_eq_true rfl, Nat.le_of_ble_eq_true rfl⟩) ⟨z_blind, z_pre hPc hKc hDc⟩ rfl rfl hl.1 rfl (lv_room (Nat.le_of_ble_eq_true rfl)) dX12_made_254 ⟨Nat.le_of_ble_eq_true rfl, Nat.le_of_ble_eq_true rfl⟩) hS (fun q _ h => hFc q h) hFc (fun r_18 u t H_17 locs ht hvm hw_19 hB hz1 hk1 hS => ?_)
        replace hP := z_pure hP hk1
        clear hPc hDc hKc
        refine W.widen (k := 0) (n := 0) (Nat.le_of_ble_eq_true rfl) (Nat.le_of_ble_eq_true rfl) ?_
        exact W.lret (v := r_18) hx hb hr (fun t ht hW => ⟨⟨r_18, (), rfl, trivial, trivial⟩, hS.F ht⟩) hS.2.2 dX12_made_257
  · rcases (show (p0).toInt = (1 : Int) ∨ ¬ (p0).toInt = (1 : Int) from Classical.em _) with he | he
    · obtain rfl : p0 = 1 := z_eq' he
      refine lv_tableIn (tgt := 64) hx hb dX12_made_1 (by decide) (by decide) (off := 63) rfl (by decide) ?_
      refine lv_lload_n hx hb dX12_made_64 rfl (lv_at hl 1 rfl) ?_
      refine lv_lload_n hx hb dX12_made_65 rfl (lv_at hl 2 rfl) ?_
      refine W.lcmp hx hb dX12_made_66 ?_
      refine lv_topi (fun z_20 ez_20 => ?_)
      have kz_20 : ((z_20).toInt = (1 : Int) ∧ (p1).toInt > (p2).toInt) ∨ ((z_20).toInt = (0 : Int) ∧ (p1).toInt = (p2).toInt) ∨ ((z_20).toInt = (-1 : Int) ∧ (p1).toInt < (p2).toInt) := z_lcmp ez_20
      refine lv_if_ge (tgt := 74) hx hb dX12_made_67 (by decide) (fun c_21 => ?_) (fun c_21 => ?_)
      · have k_22 : (0 : Int) ≤ (z_20).toInt := z_le c_21
        refine lv_iconst (v := 0) hx hb dX12_made_74 (by decide) ?_
        have hPc := hP
        have hDc := hD
        have hKc := hK
        have hFc := va_free (ws := []) (wc := []) (z_D0 _) hS hA [] rfl
        refine va_calll (va_runS (As := [.int 0]) (rest := []) ⟨hx, hb, hml, hown, hts⟩ (s_X12_truth l dC dI s.heap.size 0) (va_cwS 1 hts gw_s_X12_made_s_X12_truth_409 rfl rfl rfl (by decide +kernel) ⟨Nat.le_of_ble_eq_true rfl, Nat.le_of_ble_eq_true rfl⟩) ⟨z_blind, z_pre hPc hKc hDc⟩ rfl rfl hl.1 rfl (lv_room (Nat.le_of_ble_eq_true rfl)) dX12_made_75 ⟨Nat.le_of_ble_eq_true rfl, Nat.le_of_ble_eq_true rfl⟩) hS (fun q _ h => hFc q h) hFc (fun r_24 u t H_23 locs ht hvm hw_25 hB hz1 hk1 hS => ?_)
        replace hP := z_pure hP hk1
        clear hPc hDc hKc
        refine W.widen (k := 0) (n := 0) (Nat.le_of_ble_eq_true rfl) (Nat.le_of_ble_eq_true rfl) ?_
        exact W.lret (v := r_24) hx hb hr (fun t ht hW => ⟨⟨r_24, (), rfl, trivial, trivial⟩, hS.F ht⟩) hS.2.2 dX12_made_78
      · have k_26 : (0 : Int) > (z_20).toInt := z_nle c_21
        obtain rfl : z_20 = (-1) := z_eq' (show (z_20).toInt = (-1 : Int) by omega)
        refine lv_iconst (v := 1) hx hb dX12_made_70 (by decide) ?_
        refine lv_goto (tgt := 75) hx hb dX12_made_71 (by decide) ?_
        have hPc := hP
        have hDc := hD
        have hKc := hK
        have hFc := va_free (ws := []) (wc := []) (z_D0 _) hS hA [] rfl
        refine va_calll (va_runS (As := [.int 1]) (rest := []) ⟨hx, hb, hml, hown, hts⟩ (s_X12_truth l dC dI s.heap.size 1) (va_cwS 1 hts gw_s_X12_made_s_X12_truth_409 rfl rfl rfl (by decide +kernel) ⟨Nat.le_of_ble_eq_true rfl, Nat.le_of_ble_eq_true rfl⟩) ⟨z_blind, z_pre hPc hKc hDc⟩ rfl rfl hl.1 rfl (lv_room (Nat.le_of_ble_eq_true rfl)) dX12_made_75 ⟨Nat.le_of_ble_eq_true rfl, Nat.le_of_ble_eq_true rfl⟩) hS (fun q _ h => hFc q h) hFc (fun r_29 u t H_28 locs ht hvm hw_30 hB hz1 hk1 hS => ?_)
        replace hP := z_pure hP hk1
        clear hPc hDc hKc
        refine W.widen (k := 0) (n := 0) (Nat.le_of_ble_eq_true rfl) (Nat.le_of_ble_eq_true rfl) ?_
        exact W.lret (v := r_29) hx hb hr (fun t ht hW => ⟨⟨r_29, (), rfl, trivial, trivial⟩, hS.F ht⟩) hS.2.2 dX12_made_78
    · rcases (show (p0).toInt = (2 : Int) ∨ ¬ (p0).toInt = (2 : Int) from Classical.em _) with he | he
      · obtain rfl : p0 = 2 := z_eq' he
        refine lv_tableIn (tgt := 79) hx hb dX12_made_1 (by decide) (by decide) (off := 78) rfl (by decide) ?_
        refine lv_lload_n hx hb dX12_made_79 rfl (lv_at hl 1 rfl) ?_
        refine lv_lload_n hx hb dX12_made_80 rfl (lv_at hl 2 rfl) ?_
        refine W.lcmp hx hb dX12_made_81 ?_
        refine lv_topi (fun z_31 ez_31 => ?_)
        have kz_31 : ((z_31).toInt = (1 : Int) ∧ (p1).toInt > (p2).toInt) ∨ ((z_31).toInt = (0 : Int) ∧ (p1).toInt = (p2).toInt) ∨ ((z_31).toInt = (-1 : Int) ∧ (p1).toInt < (p2).toInt) := z_lcmp ez_31
        refine lv_if_gt (tgt := 89) hx hb dX12_made_82 (by decide) (fun c_32 => ?_) (fun c_32 => ?_)
        · have k_33 : (0 : Int) < (z_31).toInt := z_lt c_32
          obtain rfl : z_31 = 1 := z_eq' (show (z_31).toInt = (1 : Int) by omega)
          refine lv_iconst (v := 0) hx hb dX12_made_89 (by decide) ?_
          have hPc := hP
          have hDc := hD
          have hKc := hK
          have hFc := va_free (ws := []) (wc := []) (z_D0 _) hS hA [] rfl
          refine va_calll (va_runS (As := [.int 0]) (rest := []) ⟨hx, hb, hml, hown, hts⟩ (s_X12_truth l dC dI s.heap.size 0) (va_cwS 1 hts gw_s_X12_made_s_X12_truth_409 rfl rfl rfl (by decide +kernel) ⟨Nat.le_of_ble_eq_true rfl, Nat.le_of_ble_eq_true rfl⟩) ⟨z_blind, z_pre hPc hKc hDc⟩ rfl rfl hl.1 rfl (lv_room (Nat.le_of_ble_eq_true rfl)) dX12_made_90 ⟨Nat.le_of_ble_eq_true rfl, Nat.le_of_ble_eq_true rfl⟩) hS (fun q _ h => hFc q h) hFc (fun r_36 u t H_35 locs ht hvm hw_37 hB hz1 hk1 hS => ?_)
          replace hP := z_pure hP hk1
          clear hPc hDc hKc
          refine W.widen (k := 0) (n := 0) (Nat.le_of_ble_eq_true rfl) (Nat.le_of_ble_eq_true rfl) ?_
          exact W.lret (v := r_36) hx hb hr (fun t ht hW => ⟨⟨r_36, (), rfl, trivial, trivial⟩, hS.F ht⟩) hS.2.2 dX12_made_93
        · have k_38 : (0 : Int) ≥ (z_31).toInt := z_nlt c_32
          refine lv_iconst (v := 1) hx hb dX12_made_85 (by decide) ?_
          refine lv_goto (tgt := 90) hx hb dX12_made_86 (by decide) ?_
          have hPc := hP
          have hDc := hD
          have hKc := hK
          have hFc := va_free (ws := []) (wc := []) (z_D0 _) hS hA [] rfl
          refine va_calll (va_runS (As := [.int 1]) (rest := []) ⟨hx, hb, hml, hown, hts⟩ (s_X12_truth l dC dI s.heap.size 1) (va_cwS 1 hts gw_s_X12_made_s_X12_truth_409 rfl rfl rfl (by decide +kernel) ⟨Nat.le_of_ble_eq_true rfl, Nat.le_of_ble_eq_true rfl⟩) ⟨z_blind, z_pre hPc hKc hDc⟩ rfl rfl hl.1 rfl (lv_room (Nat.le_of_ble_eq_true rfl)) dX12_made_90 ⟨Nat.le_of_ble_eq_true rfl, Nat.le_of_ble_eq_true rfl⟩) hS (fun q _ h => hFc q h) hFc (fun r_40 u t H_39 locs ht hvm hw_41 hB hz1 hk1 hS => ?_)
          replace hP := z_pure hP hk1
          clear hPc hDc hKc
          refine W.widen (k := 0) (n := 0) (Nat.le_of_ble_eq_true rfl) (Nat.le_of_ble_eq_true rfl) ?_
          exact W.lret (v := r_40) hx hb hr (fun t ht hW => ⟨⟨r_40, (), rfl, trivial, trivial⟩, hS.F ht⟩) hS.2.2 dX12_made_93
      · rcases (show (p0).toInt = (3 : Int) ∨ ¬ (p0).toInt = (3 : Int) from Classical.em _) with he | he
        · obtain rfl : p0 = 3 := z_eq' he
          refine lv_tableIn (tgt := 94) hx hb dX12_made_1 (by decide) (by decide) (off := 93) rfl (by decide) ?_
          refine lv_lload_n hx hb dX12_made_94 rfl (lv_at hl 1 rfl) ?_
          refine lv_lload_n hx hb dX12_made_95 rfl (lv_at hl 2 rfl) ?_
          refine W.lcmp hx hb dX12_made_96 ?_
          refine lv_topi (fun z_42 ez_42 => ?_)
          have kz_42 : ((z_42).toInt = (1 : Int) ∧ (p1).toInt > (p2).toInt) ∨ ((z_42).toInt = (0 : Int) ∧ (p1).toInt = (p2).toInt) ∨ ((z_42).toInt = (-1 : Int) ∧ (p1).toInt < (p2).toInt) := z_lcmp ez_42
          refine lv_if_ne (tgt := 104) hx hb dX12_made_97 (by decide) (fun c_43 => ?_) (fun c_43 => ?_)
          · have k_44 : (z_42).toInt ≠ (0 : Int) := z_ne c_43
            refine lv_iconst (v := 0) hx hb dX12_made_104 (by decide) ?_
            have hPc := hP
            have hDc := hD
            have hKc := hK
            have hFc := va_free (ws := []) (wc := []) (z_D0 _) hS hA [] rfl
            refine va_calll (va_runS (As := [.int 0]) (rest := []) ⟨hx, hb, hml, hown, hts⟩ (s_X12_truth l dC dI s.heap.size 0) (va_cwS 1 hts gw_s_X12_made_s_X12_truth_409 rfl rfl rfl (by decide +kernel) ⟨Nat.le_of_ble_eq_true rfl, Nat.le_of_ble_eq_true rfl⟩) ⟨z_blind, z_pre hPc hKc hDc⟩ rfl rfl hl.1 rfl (lv_room (Nat.le_of_ble_eq_true rfl)) dX12_made_105 ⟨Nat.le_of_ble_eq_true rfl, Nat.le_of_ble_eq_true rfl⟩) hS (fun q _ h => hFc q h) hFc (fun r_46 u t H_45 locs ht hvm hw_47 hB hz1 hk1 hS => ?_)
            replace hP := z_pure hP hk1
            clear hPc hDc hKc
            refine W.widen (k := 0) (n := 0) (Nat.le_of_ble_eq_true rfl) (Nat.le_of_ble_eq_true rfl) ?_
            exact W.lret (v := r_46) hx hb hr (fun t ht hW => ⟨⟨r_46, (), rfl, trivial, trivial⟩, hS.F ht⟩) hS.2.2 dX12_made_108
          · have k_48 : (z_42).toInt = (0 : Int) := z_eq c_43
            obtain rfl : z_42 = 0 := z_eq' (show (z_42).toInt = (0 : Int) by omega)
            refine lv_iconst (v := 1) hx hb dX12_made_100 (by decide) ?_
            refine lv_goto (tgt := 105) hx hb dX12_made_101 (by decide) ?_
            have hPc := hP
            have hDc := hD
            have hKc := hK
            have hFc := va_free (ws := []) (wc := []) (z_D0 _) hS hA [] rfl
            refine va_calll (va_runS (As := [.int 1]) (rest := []) ⟨hx, hb, hml, hown, hts⟩ (s_X12_truth l dC dI s.heap.size 1) (va_cwS 1 hts gw_s_X12_made_s_X12_truth_409 rfl rfl rfl (by decide +kernel) ⟨Nat.le_of_ble_eq_true rfl, Nat.le_of_ble_eq_true rfl⟩) ⟨z_blind, z_pre hPc hKc hDc⟩ rfl rfl hl.1 rfl (lv_room (Nat.le_of_ble_eq_true rfl)) dX12_made_105 ⟨Nat.le_of_ble_eq_true rfl, Nat.le_of_ble_eq_true rfl⟩) hS (fun q _ h => hFc q h) hFc (fun r_51 u t H_50 locs ht hvm hw_52 hB hz1 hk1 hS => ?_)
            replace hP := z_pure hP hk1
            clear hPc hDc hKc
            refine W.widen (k := 0) (n := 0) (Nat.le_of_ble_eq_true rfl) (Nat.le_of_ble_eq_true rfl) ?_
            exact W.lret (v := r_51) hx hb hr (fun t ht hW => ⟨⟨r_51, (), rfl, trivial, trivial⟩, hS.F ht⟩) hS.2.2 dX12_made_108
        · rcases (show (p0).toInt = (4 : Int) ∨ ¬ (p0).toInt = (4 : Int) from Classical.em _) with he | he
          · obtain rfl : p0 = 4 := z_eq' he
            refine lv_tableIn (tgt := 109) hx hb dX12_made_1 (by decide) (by decide) (off := 108) rfl (by decide) ?_
            refine lv_lload_n hx hb dX12_made_109 rfl (lv_at hl 1 rfl) ?_
            refine lv_lload_n hx hb dX12_made_110 rfl (lv_at hl 2 rfl) ?_
            refine W.lcmp hx hb dX12_made_111 ?_
            refine lv_topi (fun z_53 ez_53 => ?_)
            have kz_53 : ((z_53).toInt = (1 : Int) ∧ (p1).toInt > (p2).toInt) ∨ ((z_53).toInt = (0 : Int) ∧ (p1).toInt = (p2).toInt) ∨ ((z_53).toInt = (-1 : Int) ∧ (p1).toInt < (p2).toInt) := z_lcmp ez_53
            refine lv_if_eq (tgt := 119) hx hb dX12_made_112 (by decide) (fun c_54 => ?_) (fun c_54 => ?_)
            · have k_55 : (z_53).toInt = (0 : Int) := z_eq c_54
              obtain rfl : z_53 = 0 := z_eq' (show (z_53).toInt = (0 : Int) by omega)
              refine lv_iconst (v := 0) hx hb dX12_made_119 (by decide) ?_
              have hPc := hP
              have hDc := hD
              have hKc := hK
              have hFc := va_free (ws := []) (wc := []) (z_D0 _) hS hA [] rfl
              refine va_calll (va_runS (As := [.int 0]) (rest := []) ⟨hx, hb, hml, hown, hts⟩ (s_X12_truth l dC dI s.heap.size 0) (va_cwS 1 hts gw_s_X12_made_s_X12_truth_409 rfl rfl rfl (by decide +kernel) ⟨Nat.le_of_ble_eq_true rfl, Nat.le_of_ble_eq_true rfl⟩) ⟨z_blind, z_pre hPc hKc hDc⟩ rfl rfl hl.1 rfl (lv_room (Nat.le_of_ble_eq_true rfl)) dX12_made_120 ⟨Nat.le_of_ble_eq_true rfl, Nat.le_of_ble_eq_true rfl⟩) hS (fun q _ h => hFc q h) hFc (fun r_58 u t H_57 locs ht hvm hw_59 hB hz1 hk1 hS => ?_)
              replace hP := z_pure hP hk1
              clear hPc hDc hKc
              refine W.widen (k := 0) (n := 0) (Nat.le_of_ble_eq_true rfl) (Nat.le_of_ble_eq_true rfl) ?_
              exact W.lret (v := r_58) hx hb hr (fun t ht hW => ⟨⟨r_58, (), rfl, trivial, trivial⟩, hS.F ht⟩) hS.2.2 dX12_made_123
            · have k_60 : (z_53).toInt ≠ (0 : Int) := z_ne c_54
              refine lv_iconst (v := 1) hx hb dX12_made_115 (by decide) ?_
              refine lv_goto (tgt := 120) hx hb dX12_made_116 (by decide) ?_
              have hPc := hP
              have hDc := hD
              have hKc := hK
              have hFc := va_free (ws := []) (wc := []) (z_D0 _) hS hA [] rfl
              refine va_calll (va_runS (As := [.int 1]) (rest := []) ⟨hx, hb, hml, hown, hts⟩ (s_X12_truth l dC dI s.heap.size 1) (va_cwS 1 hts gw_s_X12_made_s_X12_truth_409 rfl rfl rfl (by decide +kernel) ⟨Nat.le_of_ble_eq_true rfl, Nat.le_of_ble_eq_true rfl⟩) ⟨z_blind, z_pre hPc hKc hDc⟩ rfl rfl hl.1 rfl (lv_room (Nat.le_of_ble_eq_true rfl)) dX12_made_120 ⟨Nat.le_of_ble_eq_true rfl, Nat.le_of_ble_eq_true rfl⟩) hS (fun q _ h => hFc q h) hFc (fun r_62 u t H_61 locs ht hvm hw_63 hB hz1 hk1 hS => ?_)
              replace hP := z_pure hP hk1
              clear hPc hDc hKc
              refine W.widen (k := 0) (n := 0) (Nat.le_of_ble_eq_true rfl) (Nat.le_of_ble_eq_true rfl) ?_
              exact W.lret (v := r_62) hx hb hr (fun t ht hW => ⟨⟨r_62, (), rfl, trivial, trivial⟩, hS.F ht⟩) hS.2.2 dX12_made_123
          · rcases (show (p0).toInt = (5 : Int) ∨ ¬ (p0).toInt = (5 : Int) from Classical.em _) with he | he
            · obtain rfl : p0 = 5 := z_eq' he
              refine lv_tableIn (tgt := 124) hx hb dX12_made_1 (by decide) (by decide) (off := 123) rfl (by decide) ?_
              refine lv_lload_n hx hb dX12_made_124 rfl (lv_at hl 1 rfl) ?_
              refine lv_lload_n hx hb dX12_made_125 rfl (lv_at hl 2 rfl) ?_
              refine W.lcmp hx hb dX12_made_126 ?_
              refine lv_topi (fun z_64 ez_64 => ?_)
              have kz_64 : ((z_64).toInt = (1 : Int) ∧ (p1).toInt > (p2).toInt) ∨ ((z_64).toInt = (0 : Int) ∧ (p1).toInt = (p2).toInt) ∨ ((z_64).toInt = (-1 : Int) ∧ (p1).toInt < (p2).toInt) := z_lcmp ez_64
              refine lv_if_lt (tgt := 134) hx hb dX12_made_127 (by decide) (fun c_65 => ?_) (fun c_65 => ?_)
              · have k_66 : (z_64).toInt < (0 : Int) := z_lt c_65
                obtain rfl : z_64 = (-1) := z_eq' (show (z_64).toInt = (-1 : Int) by omega)
                refine lv_iconst (v := 0) hx hb dX12_made_134 (by decide) ?_
                have hPc := hP
                have hDc := hD
                have hKc := hK
                have hFc := va_free (ws := []) (wc := []) (z_D0 _) hS hA [] rfl
                refine va_calll (va_runS (As := [.int 0]) (rest := []) ⟨hx, hb, hml, hown, hts⟩ (s_X12_truth l dC dI s.heap.size 0) (va_cwS 1 hts gw_s_X12_made_s_X12_truth_409 rfl rfl rfl (by decide +kernel) ⟨Nat.le_of_ble_eq_true rfl, Nat.le_of_ble_eq_true rfl⟩) ⟨z_blind, z_pre hPc hKc hDc⟩ rfl rfl hl.1 rfl (lv_room (Nat.le_of_ble_eq_true rfl)) dX12_made_135 ⟨Nat.le_of_ble_eq_true rfl, Nat.le_of_ble_eq_true rfl⟩) hS (fun q _ h => hFc q h) hFc (fun r_69 u t H_68 locs ht hvm hw_70 hB hz1 hk1 hS => ?_)
                replace hP := z_pure hP hk1
                clear hPc hDc hKc
                refine W.widen (k := 0) (n := 0) (Nat.le_of_ble_eq_true rfl) (Nat.le_of_ble_eq_true rfl) ?_
                exact W.lret (v := r_69) hx hb hr (fun t ht hW => ⟨⟨r_69, (), rfl, trivial, trivial⟩, hS.F ht⟩) hS.2.2 dX12_made_138
              · have k_71 : (z_64).toInt ≥ (0 : Int) := z_nlt c_65
                refine lv_iconst (v := 1) hx hb dX12_made_130 (by decide) ?_
                refine lv_goto (tgt := 135) hx hb dX12_made_131 (by decide) ?_
                have hPc := hP
                have hDc := hD
                have hKc := hK
                have hFc := va_free (ws := []) (wc := []) (z_D0 _) hS hA [] rfl
                refine va_calll (va_runS (As := [.int 1]) (rest := []) ⟨hx, hb, hml, hown, hts⟩ (s_X12_truth l dC dI s.heap.size 1) (va_cwS 1 hts gw_s_X12_made_s_X12_truth_409 rfl rfl rfl (by decide +kernel) ⟨Nat.le_of_ble_eq_true rfl, Nat.le_of_ble_eq_true rfl⟩) ⟨z_blind, z_pre hPc hKc hDc⟩ rfl rfl hl.1 rfl (lv_room (Nat.le_of_ble_eq_true rfl)) dX12_made_135 ⟨Nat.le_of_ble_eq_true rfl, Nat.le_of_ble_eq_true rfl⟩) hS (fun q _ h => hFc q h) hFc (fun r_73 u t H_72 locs ht hvm hw_74 hB hz1 hk1 hS => ?_)
                replace hP := z_pure hP hk1
                clear hPc hDc hKc
                refine W.widen (k := 0) (n := 0) (Nat.le_of_ble_eq_true rfl) (Nat.le_of_ble_eq_true rfl) ?_
                exact W.lret (v := r_73) hx hb hr (fun t ht hW => ⟨⟨r_73, (), rfl, trivial, trivial⟩, hS.F ht⟩) hS.2.2 dX12_made_138
            · rcases (show (p0).toInt = (6 : Int) ∨ ¬ (p0).toInt = (6 : Int) from Classical.em _) with he | he
              · obtain rfl : p0 = 6 := z_eq' he
                refine lv_tableIn (tgt := 139) hx hb dX12_made_1 (by decide) (by decide) (off := 138) rfl (by decide) ?_
                refine lv_lload_n hx hb dX12_made_139 rfl (lv_at hl 1 rfl) ?_
                refine lv_lload_n hx hb dX12_made_140 rfl (lv_at hl 2 rfl) ?_
                refine W.lcmp hx hb dX12_made_141 ?_
                refine lv_topi (fun z_75 ez_75 => ?_)
                have kz_75 : ((z_75).toInt = (1 : Int) ∧ (p1).toInt > (p2).toInt) ∨ ((z_75).toInt = (0 : Int) ∧ (p1).toInt = (p2).toInt) ∨ ((z_75).toInt = (-1 : Int) ∧ (p1).toInt < (p2).toInt) := z_lcmp ez_75
                refine lv_if_le (tgt := 149) hx hb dX12_made_142 (by decide) (fun c_76 => ?_) (fun c_76 => ?_)
                · have k_77 : (z_75).toInt ≤ (0 : Int) := z_le c_76
                  refine lv_iconst (v := 0) hx hb dX12_made_149 (by decide) ?_
                  have hPc := hP
                  have hDc := hD
                  have hKc := hK
                  have hFc := va_free (ws := []) (wc := []) (z_D0 _) hS hA [] rfl
                  refine va_calll (va_runS (As := [.int 0]) (rest := []) ⟨hx, hb, hml, hown, hts⟩ (s_X12_truth l dC dI s.heap.size 0) (va_cwS 1 hts gw_s_X12_made_s_X12_truth_409 rfl rfl rfl (by decide +kernel) ⟨Nat.le_of_ble_eq_true rfl, Nat.le_of_ble_eq_true rfl⟩) ⟨z_blind, z_pre hPc hKc hDc⟩ rfl rfl hl.1 rfl (lv_room (Nat.le_of_ble_eq_true rfl)) dX12_made_150 ⟨Nat.le_of_ble_eq_true rfl, Nat.le_of_ble_eq_true rfl⟩) hS (fun q _ h => hFc q h) hFc (fun r_79 u t H_78 locs ht hvm hw_80 hB hz1 hk1 hS => ?_)
                  replace hP := z_pure hP hk1
                  clear hPc hDc hKc
                  refine W.widen (k := 0) (n := 0) (Nat.le_of_ble_eq_true rfl) (Nat.le_of_ble_eq_true rfl) ?_
                  exact W.lret (v := r_79) hx hb hr (fun t ht hW => ⟨⟨r_79, (), rfl, trivial, trivial⟩, hS.F ht⟩) hS.2.2 dX12_made_153
                · have k_81 : (z_75).toInt > (0 : Int) := z_nle c_76
                  obtain rfl : z_75 = 1 := z_eq' (show (z_75).toInt = (1 : Int) by omega)
                  refine lv_iconst (v := 1) hx hb dX12_made_145 (by decide) ?_
                  refine lv_goto (tgt := 150) hx hb dX12_made_146 (by decide) ?_
                  have hPc := hP
                  have hDc := hD
                  have hKc := hK
                  have hFc := va_free (ws := []) (wc := []) (z_D0 _) hS hA [] rfl
                  refine va_calll (va_runS (As := [.int 1]) (rest := []) ⟨hx, hb, hml, hown, hts⟩ (s_X12_truth l dC dI s.heap.size 1) (va_cwS 1 hts gw_s_X12_made_s_X12_truth_409 rfl rfl rfl (by decide +kernel) ⟨Nat.le_of_ble_eq_true rfl, Nat.le_of_ble_eq_true rfl⟩) ⟨z_blind, z_pre hPc hKc hDc⟩ rfl rfl hl.1 rfl (lv_room (Nat.le_of_ble_eq_true rfl)) dX12_made_150 ⟨Nat.le_of_ble_eq_true rfl, Nat.le_of_ble_eq_true rfl⟩) hS (fun q _ h => hFc q h) hFc (fun r_84 u t H_83 locs ht hvm hw_85 hB hz1 hk1 hS => ?_)
                  replace hP := z_pure hP hk1
                  clear hPc hDc hKc
                  refine W.widen (k := 0) (n := 0) (Nat.le_of_ble_eq_true rfl) (Nat.le_of_ble_eq_true rfl) ?_
                  exact W.lret (v := r_84) hx hb hr (fun t ht hW => ⟨⟨r_84, (), rfl, trivial, trivial⟩, hS.F ht⟩) hS.2.2 dX12_made_153
              · rcases (show (p0).toInt = (7 : Int) ∨ ¬ (p0).toInt = (7 : Int) from Classical.em _) with he | he
                · obtain rfl : p0 = 7 := z_eq' he
                  refine lv_tableIn (tgt := 154) hx hb dX12_made_1 (by decide) (by decide) (off := 153) rfl (by decide) ?_
                  refine lv_lload_n hx hb dX12_made_154 rfl (lv_at hl 1 rfl) ?_
                  refine lv_lload_n hx hb dX12_made_155 rfl (lv_at hl 2 rfl) ?_
                  refine lv_ladd hx hb dX12_made_156 ?_
                  refine lv_topl (fun z_86 ez_86 => ?_)
                  have hPc := hP
                  have hDc := hD
                  have hKc := hK
                  have hFc := va_free (ws := []) (wc := []) (z_D0 _) hS hA [] rfl
                  refine va_calll (va_runS (As := [.long z_86]) (rest := []) ⟨hx, hb, hml, hown, hts⟩ (s_X12_bounded l dC dI s.heap.size z_86) (va_cwS 1 hts gw_s_X12_made_s_X12_bounded_413 rfl rfl rfl (by decide +kernel) ⟨Nat.le_of_ble_eq_true rfl, Nat.le_of_ble_eq_true rfl⟩) ⟨z_blind, z_pre hPc hKc hDc⟩ rfl rfl hl.1 rfl (lv_room (Nat.le_of_ble_eq_true rfl)) dX12_made_157 ⟨Nat.le_of_ble_eq_true rfl, Nat.le_of_ble_eq_true rfl⟩) hS (fun q _ h => hFc q h) hFc (fun r_88 u t H_87 locs ht hvm hw_89 hB hz1 hk1 hS => ?_)
                  replace hP := z_pure hP hk1
                  clear hPc hDc hKc
                  refine W.widen (k := 0) (n := 0) (Nat.le_of_ble_eq_true rfl) (Nat.le_of_ble_eq_true rfl) ?_
                  exact W.lret (v := r_88) hx hb hr (fun t ht hW => ⟨⟨r_88, (), rfl, trivial, trivial⟩, hS.F ht⟩) hS.2.2 dX12_made_160
                · rcases (show (p0).toInt = (8 : Int) ∨ ¬ (p0).toInt = (8 : Int) from Classical.em _) with he | he
                  · obtain rfl : p0 = 8 := z_eq' he
                    refine lv_tableIn (tgt := 161) hx hb dX12_made_1 (by decide) (by decide) (off := 160) rfl (by decide) ?_
                    refine lv_lload_n hx hb dX12_made_161 rfl (lv_at hl 1 rfl) ?_
                    refine lv_lload_n hx hb dX12_made_162 rfl (lv_at hl 2 rfl) ?_
                    refine lv_lsub hx hb dX12_made_163 ?_
                    refine lv_topl (fun z_90 ez_90 => ?_)
                    have hPc := hP
                    have hDc := hD
                    have hKc := hK
                    have hFc := va_free (ws := []) (wc := []) (z_D0 _) hS hA [] rfl
                    refine va_calll (va_runS (As := [.long z_90]) (rest := []) ⟨hx, hb, hml, hown, hts⟩ (s_X12_bounded l dC dI s.heap.size z_90) (va_cwS 1 hts gw_s_X12_made_s_X12_bounded_413 rfl rfl rfl (by decide +kernel) ⟨Nat.le_of_ble_eq_true rfl, Nat.le_of_ble_eq_true rfl⟩) ⟨z_blind, z_pre hPc hKc hDc⟩ rfl rfl hl.1 rfl (lv_room (Nat.le_of_ble_eq_true rfl)) dX12_made_164 ⟨Nat.le_of_ble_eq_true rfl, Nat.le_of_ble_eq_true rfl⟩) hS (fun q _ h => hFc q h) hFc (fun r_92 u t H_91 locs ht hvm hw_93 hB hz1 hk1 hS => ?_)
                    replace hP := z_pure hP hk1
                    clear hPc hDc hKc
                    refine W.widen (k := 0) (n := 0) (Nat.le_of_ble_eq_true rfl) (Nat.le_of_ble_eq_true rfl) ?_
                    exact W.lret (v := r_92) hx hb hr (fun t ht hW => ⟨⟨r_92, (), rfl, trivial, trivial⟩, hS.F ht⟩) hS.2.2 dX12_made_167
                  · rcases (show (p0).toInt = (9 : Int) ∨ ¬ (p0).toInt = (9 : Int) from Classical.em _) with he | he
                    · obtain rfl : p0 = 9 := z_eq' he
                      refine lv_tableIn (tgt := 168) hx hb dX12_made_1 (by decide) (by decide) (off := 167) rfl (by decide) ?_
                      refine lv_lload_n hx hb dX12_made_168 rfl (lv_at hl 1 rfl) ?_
                      refine lv_lconst (v := 0) hx hb dX12_made_169 (by decide) ?_
                      refine W.lcmp hx hb dX12_made_170 ?_
                      refine lv_topi (fun z_94 ez_94 => ?_)
                      have kz_94 : ((z_94).toInt = (1 : Int) ∧ (p1).toInt > (0 : Int)) ∨ ((z_94).toInt = (0 : Int) ∧ (p1).toInt = (0 : Int)) ∨ ((z_94).toInt = (-1 : Int) ∧ (p1).toInt < (0 : Int)) := z_lcmp ez_94
                      refine lv_if_eq (tgt := 196) hx hb dX12_made_171 (by decide) (fun c_95 => ?_) (fun c_95 => ?_)
                      · have k_96 : (z_94).toInt = (0 : Int) := z_eq c_95
                        obtain rfl : z_94 = 0 := z_eq' (show (z_94).toInt = (0 : Int) by omega)
                        refine lv_lload_n hx hb dX12_made_196 rfl (lv_at hl 1 rfl) ?_
                        refine lv_lload_n hx hb dX12_made_197 rfl (lv_at hl 2 rfl) ?_
                        refine lv_lmul hx hb dX12_made_198 ?_
                        refine lv_topl (fun z_98 ez_98 => ?_)
                        refine W.widen (k := 0) (n := 0) (Nat.le_of_ble_eq_true rfl) (Nat.le_of_ble_eq_true rfl) ?_
                        exact W.lret (v := z_98) hx hb hr (fun t ht hW => ⟨⟨z_98, (), rfl, trivial, trivial⟩, hS.F ht⟩) hS.2.2 dX12_made_199
                      · have k_99 : (z_94).toInt ≠ (0 : Int) := z_ne c_95
                        refine lv_lload_n hx hb dX12_made_174 rfl (lv_at hl 2 rfl) ?_
                        have hPc := hP
                        have hDc := hD
                        have hKc := hK
                        have hFc := va_free (ws := []) (wc := []) (z_D0 _) hS hA [] rfl
                        refine va_calll (va_runS (As := [.long p2]) (rest := []) ⟨hx, hb, hml, hown, hts⟩ (s_X12_big2 l dC dI s.heap.size p2) (va_cwS 1 hts gw_s_X12_made_s_X12_big2_403 rfl rfl rfl (by decide +kernel) ⟨Nat.le_of_ble_eq_true rfl, Nat.le_of_ble_eq_true rfl⟩) ⟨z_blind, z_pre hPc hKc hDc⟩ rfl rfl hl.1 rfl (lv_room (Nat.le_of_ble_eq_true rfl)) dX12_made_175 ⟨Nat.le_of_ble_eq_true rfl, Nat.le_of_ble_eq_true rfl⟩) hS (fun q _ h => hFc q h) hFc (fun r_101 u t H_100 locs ht hvm hw_102 hB hz1 hk1 hS => ?_)
                        replace hP := z_pure hP hk1
                        clear hPc hDc hKc
                        refine lv_ldc2 (v := 1000000000000000) hx hb hown w__constantLong_RX12_407_1000000000000000_ dX12_made_178 ?_
                        refine lv_lload_n hx hb dX12_made_181 rfl (lv_at hl 1 rfl) ?_
                        have hPc := hP
                        have hDc := hD
                        have hKc := hK
                        have hFc := va_free (ws := []) (wc := []) (z_D0 _) hS hA [] rfl
                        refine va_calll (va_runS (As := [.long p1]) (rest := [.long 1000000000000000, .long r_101]) ⟨hx, hb, hml, hown, hts⟩ (s_X12_big2 l dC dI H_100.size p1) (va_cwS 1 hts gw_s_X12_made_s_X12_big2_403 rfl rfl rfl (by decide +kernel) ⟨Nat.le_of_ble_eq_true rfl, Nat.le_of_ble_eq_true rfl⟩) ⟨z_blind, z_pre hPc hKc hDc⟩ rfl rfl hl.1 rfl (lv_room (Nat.le_of_ble_eq_true rfl)) dX12_made_182 ⟨Nat.le_of_ble_eq_true rfl, Nat.le_of_ble_eq_true rfl⟩) hS (fun q _ h => hFc q h) hFc (fun r_104 u t H_103 locs ht hvm hw_105 hB hz1 hk1 hS => ?_)
                        replace hP := z_pure hP hk1
                        clear hPc hDc hKc
                        refine lv_ldiv hx hb dX12_made_185 (fun q => absurd (show (r_104).toInt = (0 : Int) from congrArg Int64.toInt q) (by omega)) ?_
                        refine lv_topl (fun z_106 ez_106 => ?_)
                        refine W.lcmp hx hb dX12_made_186 ?_
                        refine lv_topi (fun z_107 ez_107 => ?_)
                        have kz_107 : ((z_107).toInt = (1 : Int) ∧ (r_101).toInt > (z_106).toInt) ∨ ((z_107).toInt = (0 : Int) ∧ (r_101).toInt = (z_106).toInt) ∨ ((z_107).toInt = (-1 : Int) ∧ (r_101).toInt < (z_106).toInt) := z_lcmp ez_107
                        refine lv_if_le (tgt := 196) hx hb dX12_made_187 (by decide) (fun c_108 => ?_) (fun c_108 => ?_)
                        · have k_109 : (z_107).toInt ≤ (0 : Int) := z_le c_108
                          refine lv_lload_n hx hb dX12_made_196 rfl (lv_at hl 1 rfl) ?_
                          refine lv_lload_n hx hb dX12_made_197 rfl (lv_at hl 2 rfl) ?_
                          refine lv_lmul hx hb dX12_made_198 ?_
                          refine lv_topl (fun z_110 ez_110 => ?_)
                          refine W.widen (k := 0) (n := 0) (Nat.le_of_ble_eq_true rfl) (Nat.le_of_ble_eq_true rfl) ?_
                          exact W.lret (v := z_110) hx hb hr (fun t ht hW => ⟨⟨z_110, (), rfl, trivial, trivial⟩, hS.F ht⟩) hS.2.2 dX12_made_199
                        · have k_111 : (z_107).toInt > (0 : Int) := z_nle c_108
                          obtain rfl : z_107 = 1 := z_eq' (show (z_107).toInt = (1 : Int) by omega)
                          refine lv_ldc2 (v := (-9223372036854775808)) hx hb hown w__constantLong_RX12_396_9223372036854775808_ dX12_made_190 ?_
                          refine lv_goto (tgt := 199) hx hb dX12_made_193 (by decide) ?_
                          refine W.widen (k := 0) (n := 0) (Nat.le_of_ble_eq_true rfl) (Nat.le_of_ble_eq_true rfl) ?_
                          exact W.lret (v := (-9223372036854775808)) hx hb hr (fun t ht hW => ⟨⟨(-9223372036854775808), (), rfl, trivial, trivial⟩, hS.F ht⟩) hS.2.2 dX12_made_199
                    · rcases (show (p0).toInt = (10 : Int) ∨ ¬ (p0).toInt = (10 : Int) from Classical.em _) with he | he
                      · obtain rfl : p0 = 10 := z_eq' he
                        refine lv_tableIn (tgt := 200) hx hb dX12_made_1 (by decide) (by decide) (off := 199) rfl (by decide) ?_
                        refine lv_lload_n hx hb dX12_made_200 rfl (lv_at hl 2 rfl) ?_
                        refine lv_lconst (v := 0) hx hb dX12_made_201 (by decide) ?_
                        refine W.lcmp hx hb dX12_made_202 ?_
                        refine lv_topi (fun z_113 ez_113 => ?_)
                        have kz_113 : ((z_113).toInt = (1 : Int) ∧ (p2).toInt > (0 : Int)) ∨ ((z_113).toInt = (0 : Int) ∧ (p2).toInt = (0 : Int)) ∨ ((z_113).toInt = (-1 : Int) ∧ (p2).toInt < (0 : Int)) := z_lcmp ez_113
                        refine lv_if_ne (tgt := 212) hx hb dX12_made_203 (by decide) (fun c_114 => ?_) (fun c_114 => ?_)
                        · have k_115 : (z_113).toInt ≠ (0 : Int) := z_ne c_114
                          refine lv_lload_n hx hb dX12_made_212 rfl (lv_at hl 1 rfl) ?_
                          refine lv_lload_n hx hb dX12_made_213 rfl (lv_at hl 2 rfl) ?_
                          refine lv_ldiv hx hb dX12_made_214 (fun q => absurd (show (p2).toInt = (0 : Int) from congrArg Int64.toInt q) (by omega)) ?_
                          refine lv_topl (fun z_116 ez_116 => ?_)
                          refine W.widen (k := 0) (n := 0) (Nat.le_of_ble_eq_true rfl) (Nat.le_of_ble_eq_true rfl) ?_
                          exact W.lret (v := z_116) hx hb hr (fun t ht hW => ⟨⟨z_116, (), rfl, trivial, trivial⟩, hS.F ht⟩) hS.2.2 dX12_made_215
                        · have k_117 : (z_113).toInt = (0 : Int) := z_eq c_114
                          obtain rfl : z_113 = 0 := z_eq' (show (z_113).toInt = (0 : Int) by omega)
                          refine lv_ldc2 (v := (-9223372036854775808)) hx hb hown w__constantLong_RX12_396_9223372036854775808_ dX12_made_206 ?_
                          refine lv_goto (tgt := 215) hx hb dX12_made_209 (by decide) ?_
                          refine W.widen (k := 0) (n := 0) (Nat.le_of_ble_eq_true rfl) (Nat.le_of_ble_eq_true rfl) ?_
                          exact W.lret (v := (-9223372036854775808)) hx hb hr (fun t ht hW => ⟨⟨(-9223372036854775808), (), rfl, trivial, trivial⟩, hS.F ht⟩) hS.2.2 dX12_made_215
                      · rcases (show (p0).toInt = (11 : Int) ∨ ¬ (p0).toInt = (11 : Int) from Classical.em _) with he | he
                        · obtain rfl : p0 = 11 := z_eq' he
                          refine lv_tableIn (tgt := 237) hx hb dX12_made_1 (by decide) (by decide) (off := 236) rfl (by decide) ?_
                          refine lv_lload_n hx hb dX12_made_237 rfl (lv_at hl 1 rfl) ?_
                          refine lv_lconst (v := 0) hx hb dX12_made_238 (by decide) ?_
                          refine W.lcmp hx hb dX12_made_239 ?_
                          refine lv_topi (fun z_119 ez_119 => ?_)
                          have kz_119 : ((z_119).toInt = (1 : Int) ∧ (p1).toInt > (0 : Int)) ∨ ((z_119).toInt = (0 : Int) ∧ (p1).toInt = (0 : Int)) ∨ ((z_119).toInt = (-1 : Int) ∧ (p1).toInt < (0 : Int)) := z_lcmp ez_119
                          refine lv_if_ne (tgt := 249) hx hb dX12_made_240 (by decide) (fun c_120 => ?_) (fun c_120 => ?_)
                          · have k_121 : (z_119).toInt ≠ (0 : Int) := z_ne c_120
                            refine lv_iconst (v := 1) hx hb dX12_made_249 (by decide) ?_
                            refine lv_goto (tgt := 254) hx hb dX12_made_250 (by decide) ?_
                            have hPc := hP
                            have hDc := hD
                            have hKc := hK
                            have hFc := va_free (ws := []) (wc := []) (z_D0 _) hS hA [] rfl
                            refine va_calll (va_runS (As := [.int 1]) (rest := []) ⟨hx, hb, hml, hown, hts⟩ (s_X12_truth l dC dI s.heap.size 1) (va_cwS 1 hts gw_s_X12_made_s_X12_truth_409 rfl rfl rfl (by decide +kernel) ⟨Nat.le_of_ble_eq_true rfl, Nat.le_of_ble_eq_true rfl⟩) ⟨z_blind, z_pre hPc hKc hDc⟩ rfl rfl hl.1 rfl (lv_room (Nat.le_of_ble_eq_true rfl)) dX12_made_254 ⟨Nat.le_of_ble_eq_true rfl, Nat.le_of_ble_eq_true rfl⟩) hS (fun q _ h => hFc q h) hFc (fun r_123 u t H_122 locs ht hvm hw_124 hB hz1 hk1 hS => ?_)
                            replace hP := z_pure hP hk1
                            clear hPc hDc hKc
                            refine W.widen (k := 0) (n := 0) (Nat.le_of_ble_eq_true rfl) (Nat.le_of_ble_eq_true rfl) ?_
                            exact W.lret (v := r_123) hx hb hr (fun t ht hW => ⟨⟨r_123, (), rfl, trivial, trivial⟩, hS.F ht⟩) hS.2.2 dX12_made_257
                          · have k_125 : (z_119).toInt = (0 : Int) := z_eq c_120
                            obtain rfl : z_119 = 0 := z_eq' (show (z_119).toInt = (0 : Int) by omega)
                            refine lv_lload_n hx hb dX12_made_243 rfl (lv_at hl 2 rfl) ?_
                            refine lv_lconst (v := 0) hx hb dX12_made_244 (by decide) ?_
                            refine W.lcmp hx hb dX12_made_245 ?_
                            refine lv_topi (fun z_127 ez_127 => ?_)
                            have kz_127 : ((z_127).toInt = (1 : Int) ∧ (p2).toInt > (0 : Int)) ∨ ((z_127).toInt = (0 : Int) ∧ (p2).toInt = (0 : Int)) ∨ ((z_127).toInt = (-1 : Int) ∧ (p2).toInt < (0 : Int)) := z_lcmp ez_127
                            refine lv_if_eq (tgt := 253) hx hb dX12_made_246 (by decide) (fun c_128 => ?_) (fun c_128 => ?_)
                            · have k_129 : (z_127).toInt = (0 : Int) := z_eq c_128
                              obtain rfl : z_127 = 0 := z_eq' (show (z_127).toInt = (0 : Int) by omega)
                              refine lv_iconst (v := 0) hx hb dX12_made_253 (by decide) ?_
                              have hPc := hP
                              have hDc := hD
                              have hKc := hK
                              have hFc := va_free (ws := []) (wc := []) (z_D0 _) hS hA [] rfl
                              refine va_calll (va_runS (As := [.int 0]) (rest := []) ⟨hx, hb, hml, hown, hts⟩ (s_X12_truth l dC dI s.heap.size 0) (va_cwS 1 hts gw_s_X12_made_s_X12_truth_409 rfl rfl rfl (by decide +kernel) ⟨Nat.le_of_ble_eq_true rfl, Nat.le_of_ble_eq_true rfl⟩) ⟨z_blind, z_pre hPc hKc hDc⟩ rfl rfl hl.1 rfl (lv_room (Nat.le_of_ble_eq_true rfl)) dX12_made_254 ⟨Nat.le_of_ble_eq_true rfl, Nat.le_of_ble_eq_true rfl⟩) hS (fun q _ h => hFc q h) hFc (fun r_132 u t H_131 locs ht hvm hw_133 hB hz1 hk1 hS => ?_)
                              replace hP := z_pure hP hk1
                              clear hPc hDc hKc
                              refine W.widen (k := 0) (n := 0) (Nat.le_of_ble_eq_true rfl) (Nat.le_of_ble_eq_true rfl) ?_
                              exact W.lret (v := r_132) hx hb hr (fun t ht hW => ⟨⟨r_132, (), rfl, trivial, trivial⟩, hS.F ht⟩) hS.2.2 dX12_made_257
                            · have k_134 : (z_127).toInt ≠ (0 : Int) := z_ne c_128
                              refine lv_iconst (v := 1) hx hb dX12_made_249 (by decide) ?_
                              refine lv_goto (tgt := 254) hx hb dX12_made_250 (by decide) ?_
                              have hPc := hP
                              have hDc := hD
                              have hKc := hK
                              have hFc := va_free (ws := []) (wc := []) (z_D0 _) hS hA [] rfl
                              refine va_calll (va_runS (As := [.int 1]) (rest := []) ⟨hx, hb, hml, hown, hts⟩ (s_X12_truth l dC dI s.heap.size 1) (va_cwS 1 hts gw_s_X12_made_s_X12_truth_409 rfl rfl rfl (by decide +kernel) ⟨Nat.le_of_ble_eq_true rfl, Nat.le_of_ble_eq_true rfl⟩) ⟨z_blind, z_pre hPc hKc hDc⟩ rfl rfl hl.1 rfl (lv_room (Nat.le_of_ble_eq_true rfl)) dX12_made_254 ⟨Nat.le_of_ble_eq_true rfl, Nat.le_of_ble_eq_true rfl⟩) hS (fun q _ h => hFc q h) hFc (fun r_136 u t H_135 locs ht hvm hw_137 hB hz1 hk1 hS => ?_)
                              replace hP := z_pure hP hk1
                              clear hPc hDc hKc
                              refine W.widen (k := 0) (n := 0) (Nat.le_of_ble_eq_true rfl) (Nat.le_of_ble_eq_true rfl) ?_
                              exact W.lret (v := r_136) hx hb hr (fun t ht hW => ⟨⟨r_136, (), rfl, trivial, trivial⟩, hS.F ht⟩) hS.2.2 dX12_made_257
                        · rcases (show (p0).toInt = (12 : Int) ∨ ¬ (p0).toInt = (12 : Int) from Classical.em _) with he | he
                          · obtain rfl : p0 = 12 := z_eq' he
                            refine lv_tableIn (tgt := 216) hx hb dX12_made_1 (by decide) (by decide) (off := 215) rfl (by decide) ?_
                            refine lv_lload_n hx hb dX12_made_216 rfl (lv_at hl 1 rfl) ?_
                            refine lv_lconst (v := 0) hx hb dX12_made_217 (by decide) ?_
                            refine W.lcmp hx hb dX12_made_218 ?_
                            refine lv_topi (fun z_138 ez_138 => ?_)
                            have kz_138 : ((z_138).toInt = (1 : Int) ∧ (p1).toInt > (0 : Int)) ∨ ((z_138).toInt = (0 : Int) ∧ (p1).toInt = (0 : Int)) ∨ ((z_138).toInt = (-1 : Int) ∧ (p1).toInt < (0 : Int)) := z_lcmp ez_138
                            refine lv_if_eq (tgt := 232) hx hb dX12_made_219 (by decide) (fun c_139 => ?_) (fun c_139 => ?_)
                            · have k_140 : (z_138).toInt = (0 : Int) := z_eq c_139
                              obtain rfl : z_138 = 0 := z_eq' (show (z_138).toInt = (0 : Int) by omega)
                              refine lv_iconst (v := 0) hx hb dX12_made_232 (by decide) ?_
                              have hPc := hP
                              have hDc := hD
                              have hKc := hK
                              have hFc := va_free (ws := []) (wc := []) (z_D0 _) hS hA [] rfl
                              refine va_calll (va_runS (As := [.int 0]) (rest := []) ⟨hx, hb, hml, hown, hts⟩ (s_X12_truth l dC dI s.heap.size 0) (va_cwS 1 hts gw_s_X12_made_s_X12_truth_409 rfl rfl rfl (by decide +kernel) ⟨Nat.le_of_ble_eq_true rfl, Nat.le_of_ble_eq_true rfl⟩) ⟨z_blind, z_pre hPc hKc hDc⟩ rfl rfl hl.1 rfl (lv_room (Nat.le_of_ble_eq_true rfl)) dX12_made_233 ⟨Nat.le_of_ble_eq_true rfl, Nat.le_of_ble_eq_true rfl⟩) hS (fun q _ h => hFc q h) hFc (fun r_143 u t H_142 locs ht hvm hw_144 hB hz1 hk1 hS => ?_)
                              replace hP := z_pure hP hk1
                              clear hPc hDc hKc
                              refine W.widen (k := 0) (n := 0) (Nat.le_of_ble_eq_true rfl) (Nat.le_of_ble_eq_true rfl) ?_
                              exact W.lret (v := r_143) hx hb hr (fun t ht hW => ⟨⟨r_143, (), rfl, trivial, trivial⟩, hS.F ht⟩) hS.2.2 dX12_made_236
                            · have k_145 : (z_138).toInt ≠ (0 : Int) := z_ne c_139
                              refine lv_lload_n hx hb dX12_made_222 rfl (lv_at hl 2 rfl) ?_
                              refine lv_lconst (v := 0) hx hb dX12_made_223 (by decide) ?_
                              refine W.lcmp hx hb dX12_made_224 ?_
                              refine lv_topi (fun z_146 ez_146 => ?_)
                              have kz_146 : ((z_146).toInt = (1 : Int) ∧ (p2).toInt > (0 : Int)) ∨ ((z_146).toInt = (0 : Int) ∧ (p2).toInt = (0 : Int)) ∨ ((z_146).toInt = (-1 : Int) ∧ (p2).toInt < (0 : Int)) := z_lcmp ez_146
                              refine lv_if_eq (tgt := 232) hx hb dX12_made_225 (by decide) (fun c_147 => ?_) (fun c_147 => ?_)
                              · have k_148 : (z_146).toInt = (0 : Int) := z_eq c_147
                                obtain rfl : z_146 = 0 := z_eq' (show (z_146).toInt = (0 : Int) by omega)
                                refine lv_iconst (v := 0) hx hb dX12_made_232 (by decide) ?_
                                have hPc := hP
                                have hDc := hD
                                have hKc := hK
                                have hFc := va_free (ws := []) (wc := []) (z_D0 _) hS hA [] rfl
                                refine va_calll (va_runS (As := [.int 0]) (rest := []) ⟨hx, hb, hml, hown, hts⟩ (s_X12_truth l dC dI s.heap.size 0) (va_cwS 1 hts gw_s_X12_made_s_X12_truth_409 rfl rfl rfl (by decide +kernel) ⟨Nat.le_of_ble_eq_true rfl, Nat.le_of_ble_eq_true rfl⟩) ⟨z_blind, z_pre hPc hKc hDc⟩ rfl rfl hl.1 rfl (lv_room (Nat.le_of_ble_eq_true rfl)) dX12_made_233 ⟨Nat.le_of_ble_eq_true rfl, Nat.le_of_ble_eq_true rfl⟩) hS (fun q _ h => hFc q h) hFc (fun r_151 u t H_150 locs ht hvm hw_152 hB hz1 hk1 hS => ?_)
                                replace hP := z_pure hP hk1
                                clear hPc hDc hKc
                                refine W.widen (k := 0) (n := 0) (Nat.le_of_ble_eq_true rfl) (Nat.le_of_ble_eq_true rfl) ?_
                                exact W.lret (v := r_151) hx hb hr (fun t ht hW => ⟨⟨r_151, (), rfl, trivial, trivial⟩, hS.F ht⟩) hS.2.2 dX12_made_236
                              · have k_153 : (z_146).toInt ≠ (0 : Int) := z_ne c_147
                                refine lv_iconst (v := 1) hx hb dX12_made_228 (by decide) ?_
                                refine lv_goto (tgt := 233) hx hb dX12_made_229 (by decide) ?_
                                have hPc := hP
                                have hDc := hD
                                have hKc := hK
                                have hFc := va_free (ws := []) (wc := []) (z_D0 _) hS hA [] rfl
                                refine va_calll (va_runS (As := [.int 1]) (rest := []) ⟨hx, hb, hml, hown, hts⟩ (s_X12_truth l dC dI s.heap.size 1) (va_cwS 1 hts gw_s_X12_made_s_X12_truth_409 rfl rfl rfl (by decide +kernel) ⟨Nat.le_of_ble_eq_true rfl, Nat.le_of_ble_eq_true rfl⟩) ⟨z_blind, z_pre hPc hKc hDc⟩ rfl rfl hl.1 rfl (lv_room (Nat.le_of_ble_eq_true rfl)) dX12_made_233 ⟨Nat.le_of_ble_eq_true rfl, Nat.le_of_ble_eq_true rfl⟩) hS (fun q _ h => hFc q h) hFc (fun r_155 u t H_154 locs ht hvm hw_156 hB hz1 hk1 hS => ?_)
                                replace hP := z_pure hP hk1
                                clear hPc hDc hKc
                                refine W.widen (k := 0) (n := 0) (Nat.le_of_ble_eq_true rfl) (Nat.le_of_ble_eq_true rfl) ?_
                                exact W.lret (v := r_155) hx hb hr (fun t ht hW => ⟨⟨r_155, (), rfl, trivial, trivial⟩, hS.F ht⟩) hS.2.2 dX12_made_236
                          · exfalso; omega
def u_s_X5_gather : List Cond := .code yX5_gather cX5_gather 5 none :: ([.fieldLink RX5 34 "ShellHeap$Pantry" "food" "J", .fieldLink RX5 41 "ShellHeap$Pantry" "kinds" "I", .methodLink RX5 55 yX5_findLost, .instanceMethod yX5_findLost, .selects RX5 yX5_findLost yX5_findLost, .initialized RX5, .methodLink RX5 51 yX5_putRight, .instanceMethod yX5_putRight, .selects RX5 yX5_putRight yX5_putRight, .fieldLink RX5 31 "ShellHeap$Pantry" "righted" "[J", .fieldLink RX5 11 "ShellHeap$Pantry" "meats" "[I", .methodLink RX5 45 yX4_areFindsIn, .instanceMethod yX4_areFindsIn, .selects RX4 yX4_areFindsIn yX4_areFindsIn, .initialized RX4, .fieldLink RX5 21 "ShellHeap$Pantry" "ofBed" "[J", .fieldLink RX5 18 "ShellHeap$Pantry" "found" "[I"] ++ (wsX50 ++ (u_s_X5_findLost ++ (u_s_X5_putRight ++ (u_s_X4_areFindsIn ++ [])))))
theorem gd_s_X5_gather : z_gd u_s_X5_gather := z_gdc (by decide +kernel) (z_gda gdX5 (z_gda gd_s_X5_findLost (z_gda gd_s_X5_putRight (z_gda gd_s_X4_areFindsIn (z_gd0)))))
set_option maxRecDepth 20000 in
theorem gw_s_X5_gather_s_X5_findLost_55 : GoodIn u_s_X5_gather (wsV RX5 55 RX5 yX5_findLost u_s_X5_findLost) := z_gV (z_gr _ [3, 4, 5, 6] rfl (by decide +kernel)) (fun w h => ⟨z_mc (z_mr (z_mr (z_ml h))), gd_s_X5_findLost w h⟩)
set_option maxRecDepth 20000 in
theorem gw_s_X5_gather_s_X5_putRight_51 : GoodIn u_s_X5_gather (wsV RX5 51 RX5 yX5_putRight u_s_X5_putRight) := z_gV (z_gr _ [7, 8, 9, 6] rfl (by decide +kernel)) (fun w h => ⟨z_mc (z_mr (z_mr (z_mr (z_ml h)))), gd_s_X5_putRight w h⟩)
set_option maxRecDepth 20000 in
theorem gw_s_X5_gather_s_X4_areFindsIn_45 : GoodIn u_s_X5_gather (wsV RX5 45 RX4 yX4_areFindsIn u_s_X4_areFindsIn) := z_gV (z_gr _ [12, 13, 14, 15] rfl (by decide +kernel)) (fun w h => ⟨z_mc (z_mr (z_mr (z_mr (z_mr (z_ml h))))), gd_s_X4_areFindsIn w h⟩)
set_option maxHeartbeats 4000000 in
set_option maxRecDepth 100000 in
theorem s_X5_gather (l : Launch) (dC : Nat → ClassId) (dI : Nat → Nat → Nat) (sz : Nat) (h0 : Nat) (h1 : Nat) (p2 : Int32) (hme : Nat) (hvo : Nat) (hfo : Nat) (hob : Nat) (hke : Nat) (hln : Nat) (hri : Nat) (pf : Int64) (pl : Int64) (pk : Int32) (chob : ClassId) (fhob : Nat → Int64) (chfo : ClassId) (fhfo : Nat → Int32) (chme : ClassId) (fhme : Nat → Int32) (chvo : ClassId) (fhvo : Nat → Int32) (chke : ClassId) (fhke : Nat → Int32) (chln : ClassId) (fhln : Nat → Int64) (chri : ClassId) (fhri : Nat → Int64) (hbk : Nat) (kn : Int32) (h1_2 : Value) (hk9 : Nat) (h1_4 : Value) (h1_5 : Value) (h1_6 : Value) (h1_7 : Value) (h1_8 : Value) (h1_9 : Value) (hs : Nat) (ha : Nat) (hbk_2 : Value) (hbk_3 : Value) (hbk_4 : Value) (hbk_5 : Value) (chk9 : ClassId) (fhk9 : Nat → Int32) (chs : ClassId) (fhs : Nat → Int32) (cha : ClassId) (fha : Nat → Int32) (hB_pk : ((0 : Int) ≤ (pk).toInt ∧ (pk).toInt ≤ (6 : Int))) (hB_kn : ((-1 : Int) ≤ (kn).toInt ∧ (kn).toInt ≤ (80 : Int))) (hI_ha : ∀ j : Nat, ((0 : Int) ≤ (fha j).toInt ∧ (fha j).toInt ≤ (79 : Int))) : Met l yX5_gather u_s_X5_gather ({ frames := 3, cells := 0, slots := 0, locals := 73 }) (va_Pc [.ref h0, .ref h1, .int p2] (z_C (dC, dI) vwCl [(h0, .inr (5, [.ref hme, .ref hvo, .ref hfo, .ref hob, .ref hke, .ref hln, .ref hri, .long pf, .long pl, .int pk])), (hob, .inl (chob, 144, .inr (.inl fhob))), (hfo, .inl (chfo, 11520, .inl fhfo)), (hme, .inl (chme, 6, .inl fhme)), (hvo, .inl (chvo, 6, .inl fhvo)), (hke, .inl (chke, 24, .inl fhke)), (hln, .inl (chln, 6, .inr (.inl fhln))), (hri, .inl (chri, 6, .inr (.inl fhri))), (h1, .inr (4, [.ref hbk, .int kn, h1_2, .ref hk9, h1_4, h1_5, h1_6, h1_7, h1_8, h1_9])), (hbk, .inr (0, [.ref hs, .ref ha, hbk_2, hbk_3, hbk_4, hbk_5])), (hk9, .inl (chk9, 80, .inl fhk9)), (hs, .inl (chs, 80, .inl fhs)), (ha, .inl (cha, 80, .inl fha))] [(chob, .long), (chfo, .int), (chme, .int), (chvo, .int), (chke, .int), (chln, .long), (chri, .long), (chk9, .boolean), (chs, .int), (cha, .int)] sz)) (va_Qv (fun (_ : Unit) => True) (fun (_ : Unit) (t : State) => ∃ (n_h0_food : Int64), ∃ (n_h0_lost : Int64), ∃ (g_hob : Nat → Int64), ∃ (g_hln : Nat → Int64), ∃ (g_hri : Nat → Int64), va_P (dC, dI) vwCl [(h0, .inr (5, [.ref hme, .ref hvo, .ref hfo, .ref hob, .ref hke, .ref hln, .ref hri, .long n_h0_food, .long n_h0_lost, .int pk])), (hob, .inl (chob, 144, .inr (.inl g_hob))), (hfo, .inl (chfo, 11520, .inl fhfo)), (hme, .inl (chme, 6, .inl fhme)), (hvo, .inl (chvo, 6, .inl fhvo)), (hke, .inl (chke, 24, .inl fhke)), (hln, .inl (chln, 6, .inr (.inl g_hln))), (hri, .inl (chri, 6, .inr (.inl g_hri))), (h1, .inr (4, [.ref hbk, .int kn, h1_2, .ref hk9, h1_4, h1_5, h1_6, h1_7, h1_8, h1_9])), (hbk, .inr (0, [.ref hs, .ref ha, hbk_2, hbk_3, hbk_4, hbk_5])), (hk9, .inl (chk9, 80, .inl fhk9)), (hs, .inl (chs, 80, .inl fhs)), (ha, .inl (cha, 80, .inl fha))] t.heap ∧ va_K (dC, dI) vwCl [] t ∧ va_D (va_A [(h0, .inr (5, [.ref hme, .ref hvo, .ref hfo, .ref hob, .ref hke, .ref hln, .ref hri, .long pf, .long pl, .int pk])), (hob, .inl (chob, 144, .inr (.inl fhob))), (hfo, .inl (chfo, 11520, .inl fhfo)), (hme, .inl (chme, 6, .inl fhme)), (hvo, .inl (chvo, 6, .inl fhvo)), (hke, .inl (chke, 24, .inl fhke)), (hln, .inl (chln, 6, .inr (.inl fhln))), (hri, .inl (chri, 6, .inr (.inl fhri))), (h1, .inr (4, [.ref hbk, .int kn, h1_2, .ref hk9, h1_4, h1_5, h1_6, h1_7, h1_8, h1_9])), (hbk, .inr (0, [.ref hs, .ref ha, hbk_2, hbk_3, hbk_4, hbk_5])), (hk9, .inl (chk9, 80, .inl fhk9)), (hs, .inl (chs, 80, .inl fhs)), (ha, .inl (cha, 80, .inl fha))] sz) [(h0, .inr (5, [.ref hme, .ref hvo, .ref hfo, .ref hob, .ref hke, .ref hln, .ref hri, .long n_h0_food, .long n_h0_lost, .int pk])), (hob, .inl (chob, 144, .inr (.inl g_hob))), (hfo, .inl (chfo, 11520, .inl fhfo)), (hme, .inl (chme, 6, .inl fhme)), (hvo, .inl (chvo, 6, .inl fhvo)), (hke, .inl (chke, 24, .inl fhke)), (hln, .inl (chln, 6, .inr (.inl g_hln))), (hri, .inl (chri, 6, .inr (.inl g_hri))), (h1, .inr (4, [.ref hbk, .int kn, h1_2, .ref hk9, h1_4, h1_5, h1_6, h1_7, h1_8, h1_9])), (hbk, .inr (0, [.ref hs, .ref ha, hbk_2, hbk_3, hbk_4, hbk_5])), (hk9, .inl (chk9, 80, .inl fhk9)), (hs, .inl (chs, 80, .inl fhs)), (ha, .inl (cha, 80, .inl fha))]) (va_A [(h0, .inr (5, [.ref hme, .ref hvo, .ref hfo, .ref hob, .ref hke, .ref hln, .ref hri, .long pf, .long pl, .int pk])), (hob, .inl (chob, 144, .inr (.inl fhob))), (hfo, .inl (chfo, 11520, .inl fhfo)), (hme, .inl (chme, 6, .inl fhme)), (hvo, .inl (chvo, 6, .inl fhvo)), (hke, .inl (chke, 24, .inl fhke)), (hln, .inl (chln, 6, .inr (.inl fhln))), (hri, .inl (chri, 6, .inr (.inl fhri))), (h1, .inr (4, [.ref hbk, .int kn, h1_2, .ref hk9, h1_4, h1_5, h1_6, h1_7, h1_8, h1_9])), (hbk, .inr (0, [.ref hs, .ref ha, hbk_2, hbk_3, hbk_4, hbk_5])), (hk9, .inl (chk9, 80, .inl fhk9)), (hs, .inl (chs, 80, .inl fhs)), (ha, .inl (cha, 80, .inl fha))] sz)) 0 0 (va_A [(h0, .inr (5, [.ref hme, .ref hvo, .ref hfo, .ref hob, .ref hke, .ref hln, .ref hri, .long pf, .long pl, .int pk])), (hob, .inl (chob, 144, .inr (.inl fhob))), (hfo, .inl (chfo, 11520, .inl fhfo)), (hme, .inl (chme, 6, .inl fhme)), (hvo, .inl (chvo, 6, .inl fhvo)), (hke, .inl (chke, 24, .inl fhke)), (hln, .inl (chln, 6, .inr (.inl fhln))), (hri, .inl (chri, 6, .inr (.inl fhri))), (h1, .inr (4, [.ref hbk, .int kn, h1_2, .ref hk9, h1_4, h1_5, h1_6, h1_7, h1_8, h1_9])), (hbk, .inr (0, [.ref hs, .ref ha, hbk_2, hbk_3, hbk_4, hbk_5])), (hk9, .inl (chk9, 80, .inl fhk9)), (hs, .inl (chs, 80, .inl fhs)), (ha, .inl (cha, 80, .inl fha))] sz) := by
  refine Met.ofW (cc := cX5_gather) (maxL := 5) (ret := none) (by decide) rfl ?_
  intro p e s m args below meth c s₁ B hml hv
  obtain ⟨rfl, hsz, hP, hK, hD0⟩ := hv
  have hx := B.exec
  have hb := B.bytes
  have hr := B.returns
  have hts := atoms_spec (ws := u_s_X5_gather) B.pre
  have hown : s.vm.findClass RX5 = some m.cls := findClass_of_methodNamed B.named
  have hlocks := B.notSynchronized
  subst hsz
  have hD := hD0.self (sz := s.heap.size)
  generalize hAe : va_A [(h0, .inr (5, [.ref hme, .ref hvo, .ref hfo, .ref hob, .ref hke, .ref hln, .ref hri, .long pf, .long pl, .int pk])), (hob, .inl (chob, 144, .inr (.inl fhob))), (hfo, .inl (chfo, 11520, .inl fhfo)), (hme, .inl (chme, 6, .inl fhme)), (hvo, .inl (chvo, 6, .inl fhvo)), (hke, .inl (chke, 24, .inl fhke)), (hln, .inl (chln, 6, .inr (.inl fhln))), (hri, .inl (chri, 6, .inr (.inl fhri))), (h1, .inr (4, [.ref hbk, .int kn, h1_2, .ref hk9, h1_4, h1_5, h1_6, h1_7, h1_8, h1_9])), (hbk, .inr (0, [.ref hs, .ref ha, hbk_2, hbk_3, hbk_4, hbk_5])), (hk9, .inl (chk9, 80, .inl fhk9)), (hs, .inl (chs, 80, .inl fhs)), (ha, .inl (cha, 80, .inl fha))] s.heap.size = A at hD ⊢
  have hA : ∀ q : Nat, s.heap.size ≤ q → A q := fun q h => by rw [← hAe]; exact Or.inr h
  have hS : va_S A s.heap s.heap [] := va_S.rf
  have hP : va_P (dC, dI) vwCl [(h0, .inr (5, [.ref hme, .ref hvo, .ref hfo, .ref hob, .ref hke, .ref hln, .ref hri, .long pf, .long pl, .int pk])), (hob, .inl (chob, 144, .inr (.inl fhob))), (hfo, .inl (chfo, 11520, .inl fhfo)), (hme, .inl (chme, 6, .inl fhme)), (hvo, .inl (chvo, 6, .inl fhvo)), (hke, .inl (chke, 24, .inl fhke)), (hln, .inl (chln, 6, .inr (.inl fhln))), (hri, .inl (chri, 6, .inr (.inl fhri))), (h1, .inr (4, [.ref hbk, .int kn, h1_2, .ref hk9, h1_4, h1_5, h1_6, h1_7, h1_8, h1_9])), (hbk, .inr (0, [.ref hs, .ref ha, hbk_2, hbk_3, hbk_4, hbk_5])), (hk9, .inl (chk9, 80, .inl fhk9)), (hs, .inl (chs, 80, .inl fhs)), (ha, .inl (cha, 80, .inl fha))] s.heap := hP
  have w__fieldLink_RX5_34_ShellHeap_Pantry_food_J_ := hts (.fieldLink RX5 34 "ShellHeap$Pantry" "food" "J") (z_mc (z_ml z_m0))
  have hiX5 := show ∀ w ∈ u_ws RX5 TX5 10, w ∈ u_s_X5_gather from fun w h => z_mc (z_mr (z_ml h))
  have w__fieldLink_RX5_41_ShellHeap_Pantry_kinds_I_ := hts (.fieldLink RX5 41 "ShellHeap$Pantry" "kinds" "I") (z_mc (z_ml z_m1))
  have w__fieldLink_RX5_31_ShellHeap_Pantry_righted_J_ := hts (.fieldLink RX5 31 "ShellHeap$Pantry" "righted" "[J") (z_mc (z_ml z_m9))
  have w__fieldLink_RX5_11_ShellHeap_Pantry_meats_I_ := hts (.fieldLink RX5 11 "ShellHeap$Pantry" "meats" "[I") (z_mc (z_ml z_m10))
  have w__fieldLink_RX5_21_ShellHeap_Pantry_ofBed_J_ := hts (.fieldLink RX5 21 "ShellHeap$Pantry" "ofBed" "[J") (z_mc (z_ml z_m15))
  have w__fieldLink_RX5_18_ShellHeap_Pantry_found_I_ := hts (.fieldLink RX5 18 "ShellHeap$Pantry" "found" "[I") (z_mc (z_ml z_m16))
  have krr_p2 := z_rng p2
  have hl := lv_entry ([.ref h0, .ref h1, .int p2]) (n := 5) (Nat.le_of_ble_eq_true rfl)
  rw [lg_entry_eq]
  generalize (lg_sl ([.ref h0, .ref h1, .int p2]) ++ List.replicate (5 - (lg_sl ([.ref h0, .ref h1, .int p2])).length) Slot.unset).toArray = ls at hl ⊢
  have hl : lv_has ls 5 [(0, .ref h0), (1, .ref h1), (2, .int p2)] := hl
  refine z_nameQ (fun QQ hQQ => ?_)
  refine lv_iconst (v := 0) hx hb dX5_gather_0 (by decide) ?_
  refine lv_istore_n (lv' := [(3, .int 0), (0, .ref h0), (1, .ref h1), (2, .int p2)]) hx hb dX5_gather_1 rfl hl (by decide) rfl (fun ls hl => ?_)
  have loop_1 : ∀ (n_2 : Nat) (i_4 : Int32) (f_5 : Nat → Int64) (H : Heap) (locs : List Loc) (ls : Array Slot), (145 - (i_4).toInt).toNat < n_2 → (((0 : Int) ≤ (i_4).toInt ∧ (i_4).toInt ≤ (144 : Int))) → va_P (dC, dI) vwCl [(h0, .inr (5, [.ref hme, .ref hvo, .ref hfo, .ref hob, .ref hke, .ref hln, .ref hri, .long pf, .long pl, .int pk])), (hob, .inl (chob, 144, .inr (.inl f_5))), (hfo, .inl (chfo, 11520, .inl fhfo)), (hme, .inl (chme, 6, .inl fhme)), (hvo, .inl (chvo, 6, .inl fhvo)), (hke, .inl (chke, 24, .inl fhke)), (hln, .inl (chln, 6, .inr (.inl fhln))), (hri, .inl (chri, 6, .inr (.inl fhri))), (h1, .inr (4, [.ref hbk, .int kn, h1_2, .ref hk9, h1_4, h1_5, h1_6, h1_7, h1_8, h1_9])), (hbk, .inr (0, [.ref hs, .ref ha, hbk_2, hbk_3, hbk_4, hbk_5])), (hk9, .inl (chk9, 80, .inl fhk9)), (hs, .inl (chs, 80, .inl fhs)), (ha, .inl (cha, 80, .inl fha))] H → va_D A [(h0, .inr (5, [.ref hme, .ref hvo, .ref hfo, .ref hob, .ref hke, .ref hln, .ref hri, .long pf, .long pl, .int pk])), (hob, .inl (chob, 144, .inr (.inl f_5))), (hfo, .inl (chfo, 11520, .inl fhfo)), (hme, .inl (chme, 6, .inl fhme)), (hvo, .inl (chvo, 6, .inl fhvo)), (hke, .inl (chke, 24, .inl fhke)), (hln, .inl (chln, 6, .inr (.inl fhln))), (hri, .inl (chri, 6, .inr (.inl fhri))), (h1, .inr (4, [.ref hbk, .int kn, h1_2, .ref hk9, h1_4, h1_5, h1_6, h1_7, h1_8, h1_9])), (hbk, .inr (0, [.ref hs, .ref ha, hbk_2, hbk_3, hbk_4, hbk_5])), (hk9, .inl (chk9, 80, .inl fhk9)), (hs, .inl (chs, 80, .inl fhs)), (ha, .inl (cha, 80, .inl fha))] → va_S A s.heap H locs → lv_has ls 5 [(3, .int i_4), (0, .ref h0), (1, .ref h1), (2, .int p2)] → W p l e ({ frames := 3, cells := 0, slots := 0, locals := 73 } : Room) s m ([.ref h0, .ref h1, .int p2] : List Value).toArray below meth c H locs 0 0 QQ (F0 m 2 ls []) := by
    intro n_2
    induction n_2 with
    | zero => intro i_4 f_5 H locs ls hm; exact absurd hm (Nat.not_lt_zero _)
    | succ n_2 ih_3 =>
      intro i_4 f_5 H locs ls hm hF_6 hP hD hS hl
      refine lv_iload_n hx hb dX5_gather_2 rfl (lv_at hl 0 rfl) ?_
      refine lv_sipush (v := 144) hx hb dX5_gather_3 (by decide) ?_
      refine lv_icmp_ge (tgt := 22) hx hb dX5_gather_6 (by decide) (fun c_7 => ?_) (fun c_7 => ?_)
      · have k_8 : (144 : Int) ≤ (i_4).toInt := z_le c_7
        obtain rfl : i_4 = 144 := z_eq' (show (i_4).toInt = (144 : Int) by omega)
        refine lv_iconst (v := 0) hx hb dX5_gather_22 (by decide) ?_
        refine lv_istore_n (lv' := [(3, .int 0), (0, .ref h0), (1, .ref h1), (2, .int p2)]) hx hb dX5_gather_23 rfl hl (by decide) rfl (fun ls hl => ?_)
        have loop_10 : ∀ (n_11 : Nat) (i_13 : Int32) (f_14 : Nat → Int64) (H : Heap) (locs : List Loc) (ls : Array Slot), (81 - (i_13).toInt).toNat < n_11 → (((0 : Int) ≤ (i_13).toInt ∧ (i_13).toInt ≤ (80 : Int))) → va_P (dC, dI) vwCl [(h0, .inr (5, [.ref hme, .ref hvo, .ref hfo, .ref hob, .ref hke, .ref hln, .ref hri, .long pf, .long pl, .int pk])), (hob, .inl (chob, 144, .inr (.inl f_14))), (hfo, .inl (chfo, 11520, .inl fhfo)), (hme, .inl (chme, 6, .inl fhme)), (hvo, .inl (chvo, 6, .inl fhvo)), (hke, .inl (chke, 24, .inl fhke)), (hln, .inl (chln, 6, .inr (.inl fhln))), (hri, .inl (chri, 6, .inr (.inl fhri))), (h1, .inr (4, [.ref hbk, .int kn, h1_2, .ref hk9, h1_4, h1_5, h1_6, h1_7, h1_8, h1_9])), (hbk, .inr (0, [.ref hs, .ref ha, hbk_2, hbk_3, hbk_4, hbk_5])), (hk9, .inl (chk9, 80, .inl fhk9)), (hs, .inl (chs, 80, .inl fhs)), (ha, .inl (cha, 80, .inl fha))] H → va_D A [(h0, .inr (5, [.ref hme, .ref hvo, .ref hfo, .ref hob, .ref hke, .ref hln, .ref hri, .long pf, .long pl, .int pk])), (hob, .inl (chob, 144, .inr (.inl f_14))), (hfo, .inl (chfo, 11520, .inl fhfo)), (hme, .inl (chme, 6, .inl fhme)), (hvo, .inl (chvo, 6, .inl fhvo)), (hke, .inl (chke, 24, .inl fhke)), (hln, .inl (chln, 6, .inr (.inl fhln))), (hri, .inl (chri, 6, .inr (.inl fhri))), (h1, .inr (4, [.ref hbk, .int kn, h1_2, .ref hk9, h1_4, h1_5, h1_6, h1_7, h1_8, h1_9])), (hbk, .inr (0, [.ref hs, .ref ha, hbk_2, hbk_3, hbk_4, hbk_5])), (hk9, .inl (chk9, 80, .inl fhk9)), (hs, .inl (chs, 80, .inl fhs)), (ha, .inl (cha, 80, .inl fha))] → va_S A s.heap H locs → lv_has ls 5 [(3, .int i_13), (0, .ref h0), (1, .ref h1), (2, .int p2)] → W p l e ({ frames := 3, cells := 0, slots := 0, locals := 73 } : Room) s m ([.ref h0, .ref h1, .int p2] : List Value).toArray below meth c H locs 0 0 QQ (F0 m 24 ls []) := by
          intro n_11
          induction n_11 with
          | zero => intro i_13 f_14 H locs ls hm; exact absurd hm (Nat.not_lt_zero _)
          | succ n_11 ih_12 =>
            intro i_13 f_14 H locs ls hm hF_15 hP hD hS hl
            refine lv_iload_n hx hb dX5_gather_24 rfl (lv_at hl 0 rfl) ?_
            refine lv_bipush (v := 80) hx hb dX5_gather_25 (by decide) ?_
            refine lv_icmp_ge (tgt := 86) hx hb dX5_gather_27 (by decide) (fun c_16 => ?_) (fun c_16 => ?_)
            · have k_17 : (80 : Int) ≤ (i_13).toInt := z_le c_16
              obtain rfl : i_13 = 80 := z_eq' (show (i_13).toInt = (80 : Int) by omega)
              refine lv_aload_n hx hb dX5_gather_86 rfl (lv_at hl 1 rfl) ?_
              refine lv_lconst (v := 0) hx hb dX5_gather_87 (by decide) ?_
              refine va_put (D := (dC, dI)) (ci := 5) (v := .long 0) (ty := .long) (C := RX5) (T := TX5) (N := 10) hx hb hts hiX5 tyX5 tyX5_ok nmX5 hown hK hP hD hS 0 rfl rfl 7 (by decide) w__fieldLink_RX5_34_ShellHeap_Pantry_food_J_ (fun _ h9 => h9) rfl (by decide +kernel) rfl rfl (Nat.le_of_ble_eq_true rfl) dX5_gather_88 (fun H_19 locs hP hD hS => ?_)
              obtain ⟨hP, hD⟩ := z_s_0_7 hP hD
              refine lv_iconst (v := 0) hx hb dX5_gather_91 (by decide) ?_
              refine lv_istore_n (lv' := [(3, .int 0), (0, .ref h0), (1, .ref h1), (2, .int p2)]) hx hb dX5_gather_92 rfl hl (by decide) rfl (fun ls hl => ?_)
              have loop_20 : ∀ (n_21 : Nat) (i_23 : Int32) (v_24 : Int64) (f_25 : Nat → Int64) (f_26 : Nat → Int64) (H : Heap) (locs : List Loc) (ls : Array Slot), (7 - (i_23).toInt).toNat < n_21 → (((0 : Int) ≤ (i_23).toInt ∧ (i_23).toInt ≤ (6 : Int))) → va_P (dC, dI) vwCl [(h0, .inr (5, [.ref hme, .ref hvo, .ref hfo, .ref hob, .ref hke, .ref hln, .ref hri, .long v_24, .long pl, .int pk])), (hob, .inl (chob, 144, .inr (.inl f_14))), (hfo, .inl (chfo, 11520, .inl fhfo)), (hme, .inl (chme, 6, .inl fhme)), (hvo, .inl (chvo, 6, .inl fhvo)), (hke, .inl (chke, 24, .inl fhke)), (hln, .inl (chln, 6, .inr (.inl f_25))), (hri, .inl (chri, 6, .inr (.inl f_26))), (h1, .inr (4, [.ref hbk, .int kn, h1_2, .ref hk9, h1_4, h1_5, h1_6, h1_7, h1_8, h1_9])), (hbk, .inr (0, [.ref hs, .ref ha, hbk_2, hbk_3, hbk_4, hbk_5])), (hk9, .inl (chk9, 80, .inl fhk9)), (hs, .inl (chs, 80, .inl fhs)), (ha, .inl (cha, 80, .inl fha))] H → va_D A [(h0, .inr (5, [.ref hme, .ref hvo, .ref hfo, .ref hob, .ref hke, .ref hln, .ref hri, .long v_24, .long pl, .int pk])), (hob, .inl (chob, 144, .inr (.inl f_14))), (hfo, .inl (chfo, 11520, .inl fhfo)), (hme, .inl (chme, 6, .inl fhme)), (hvo, .inl (chvo, 6, .inl fhvo)), (hke, .inl (chke, 24, .inl fhke)), (hln, .inl (chln, 6, .inr (.inl f_25))), (hri, .inl (chri, 6, .inr (.inl f_26))), (h1, .inr (4, [.ref hbk, .int kn, h1_2, .ref hk9, h1_4, h1_5, h1_6, h1_7, h1_8, h1_9])), (hbk, .inr (0, [.ref hs, .ref ha, hbk_2, hbk_3, hbk_4, hbk_5])), (hk9, .inl (chk9, 80, .inl fhk9)), (hs, .inl (chs, 80, .inl fhs)), (ha, .inl (cha, 80, .inl fha))] → va_S A s.heap H locs → lv_has ls 5 [(3, .int i_23), (0, .ref h0), (1, .ref h1), (2, .int p2)] → W p l e ({ frames := 3, cells := 0, slots := 0, locals := 73 } : Room) s m ([.ref h0, .ref h1, .int p2] : List Value).toArray below meth c H locs 0 0 QQ (F0 m 93 ls []) := by
                intro n_21
                induction n_21 with
                | zero => intro i_23 v_24 f_25 f_26 H locs ls hm; exact absurd hm (Nat.not_lt_zero _)
                | succ n_21 ih_22 =>
                  intro i_23 v_24 f_25 f_26 H locs ls hm hF_27 hP hD hS hl
                  refine lv_iload_n hx hb dX5_gather_93 rfl (lv_at hl 0 rfl) ?_
                  refine lv_aload_n hx hb dX5_gather_94 rfl (lv_at hl 1 rfl) ?_
                  refine va_get (D := (dC, dI)) (ci := 5) (v := .int pk) (C := RX5) (T := TX5) (N := 10) hx hb hts hiX5 hown hK hP 0 rfl rfl 9 (by decide) w__fieldLink_RX5_41_ShellHeap_Pantry_kinds_I_ (fun _ h9 => h9) rfl dX5_gather_95 ?_
                  refine lv_icmp_ge (tgt := 135) hx hb dX5_gather_98 (by decide) (fun c_28 => ?_) (fun c_28 => ?_)
                  · have k_29 : (pk).toInt ≤ (i_23).toInt := z_le c_28
                    refine lv_aload_n hx hb dX5_gather_135 rfl (lv_at hl 1 rfl) ?_
                    obtain ⟨hPc, hDc, hFc⟩ := z_sub3 (ws' := [(h0, .inr (5, [.ref hme, .ref hvo, .ref hfo, .ref hob, .ref hke, .ref hln, .ref hri, .long v_24, .long pl, .int pk])), (hob, .inl (chob, 144, .inr (.inl f_14)))]) hP hD hS hA [0, 1] (by decide) rfl
                    have hKc := hK.sub (tys' := [(chob, .long)]) [0] rfl
                    refine va_callv (va_runV (As := []) (rest := []) ⟨hx, hb, hml, hown, hts⟩ (s_X5_findLost l dC dI H.size h0 (.ref hme) (.ref hvo) (.ref hfo) hob (.ref hke) (.ref hln) (.ref hri) (.long v_24) pl (.int pk) chob f_14) (cwV 0 hts gw_s_X5_gather_s_X5_findLost_55 rfl rfl rfl (by decide +kernel) ⟨Nat.le_of_ble_eq_true rfl, Nat.le_of_ble_eq_true rfl⟩) ⟨z_blind, va_recv hKc hPc (ci := 5) (q0 := 0) rfl rfl, z_pre hPc hKc hDc⟩ rfl rfl hl.1 rfl (lv_room (Nat.le_of_ble_eq_true rfl)) dX5_gather_136 ⟨Nat.le_of_ble_eq_true rfl, Nat.le_of_ble_eq_true rfl⟩) hS (fun q _ h => hFc q h) hFc (fun u t H_30 locs ht hvm hw_32 hB hz1 hk1 hS => ?_)
                    obtain ⟨n_h0_lost_33, hP1, hK1, hD1⟩ := hB
                    rw [ht] at hP1
                    have hK1 := va_K.moved hvm.symm hK1
                    obtain ⟨hP, hD⟩ := z_ap_11 (va_join (wr := [(hfo, .inl (chfo, 11520, .inl fhfo)), (hme, .inl (chme, 6, .inl fhme)), (hvo, .inl (chvo, 6, .inl fhvo)), (hke, .inl (chke, 24, .inl fhke)), (hln, .inl (chln, 6, .inr (.inl f_25))), (hri, .inl (chri, 6, .inr (.inl f_26))), (h1, .inr (4, [.ref hbk, .int kn, h1_2, .ref hk9, h1_4, h1_5, h1_6, h1_7, h1_8, h1_9])), (hbk, .inr (0, [.ref hs, .ref ha, hbk_2, hbk_3, hbk_4, hbk_5])), (hk9, .inl (chk9, 80, .inl fhk9)), (hs, .inl (chs, 80, .inl fhs)), (ha, .inl (cha, 80, .inl fha))]) hP hD [0, 1] [2, 3, 4, 5, 6, 7, 8, 9, 10, 11, 12] rfl rfl (by decide) (by decide) hk1 hFc hP1 hD1)
                    clear hPc hDc hKc
                    refine z_backQ hQQ ?_
                    obtain ⟨hP9, hD9⟩ := z_sub2 (ws' := [(h0, .inr (5, [.ref hme, .ref hvo, .ref hfo, .ref hob, .ref hke, .ref hln, .ref hri, .long v_24, .long n_h0_lost_33, .int pk])), (hob, .inl (chob, 144, .inr (.inl f_14))), (hfo, .inl (chfo, 11520, .inl fhfo)), (hme, .inl (chme, 6, .inl fhme)), (hvo, .inl (chvo, 6, .inl fhvo)), (hke, .inl (chke, 24, .inl fhke)), (hln, .inl (chln, 6, .inr (.inl f_25))), (hri, .inl (chri, 6, .inr (.inl f_26))), (h1, .inr (4, [.ref hbk, .int kn, h1_2, .ref hk9, h1_4, h1_5, h1_6, h1_7, h1_8, h1_9])), (hbk, .inr (0, [.ref hs, .ref ha, hbk_2, hbk_3, hbk_4, hbk_5])), (hk9, .inl (chk9, 80, .inl fhk9)), (hs, .inl (chs, 80, .inl fhs)), (ha, .inl (cha, 80, .inl fha))]) hP hD [11, 12, 0, 1, 2, 3, 4, 5, 6, 7, 8, 9, 10] (by decide) rfl
                    have hK9 := hK.sub (tys' := []) [] rfl
                    refine W.widen (k := 0) (n := 0) (Nat.le_of_ble_eq_true rfl) (Nat.le_of_ble_eq_true rfl) ?_
                    exact W.vret hx hb hr (fun t ht hW => ⟨⟨(), rfl, trivial, ⟨v_24, n_h0_lost_33, f_14, f_25, f_26, by rw [ht]; exact hP9, va_K.moved hW.alike hK9, hD9⟩⟩, hS.F ht⟩) hS.2.2 dX5_gather_139
                  · have k_34 : (pk).toInt > (i_23).toInt := z_nle c_28
                    refine lv_aload_n hx hb dX5_gather_101 rfl (lv_at hl 1 rfl) ?_
                    refine lv_iload_n hx hb dX5_gather_102 rfl (lv_at hl 0 rfl) ?_
                    obtain ⟨hPc, hDc, hFc⟩ := z_sub3 (ws' := [(h0, .inr (5, [.ref hme, .ref hvo, .ref hfo, .ref hob, .ref hke, .ref hln, .ref hri, .long v_24, .long pl, .int pk])), (hvo, .inl (chvo, 6, .inl fhvo)), (hob, .inl (chob, 144, .inr (.inl f_14))), (hke, .inl (chke, 24, .inl fhke)), (hln, .inl (chln, 6, .inr (.inl f_25))), (hri, .inl (chri, 6, .inr (.inl f_26)))]) hP hD hS hA [0, 4, 1, 5, 6, 7] (by decide) rfl
                    have hKc := hK.sub (tys' := [(chvo, .int), (chob, .long), (chke, .int), (chln, .long), (chri, .long)]) [3, 0, 4, 5, 6] rfl
                    refine va_callv (va_runV (As := [.int i_23]) (rest := []) ⟨hx, hb, hml, hown, hts⟩ (s_X5_putRight l dC dI H.size h0 i_23 (.ref hme) hvo (.ref hfo) hob hke hln hri (.long v_24) (.long pl) (.int pk) chvo fhvo chob f_14 chke fhke chln f_25 chri f_26 (by first | omega | decide)) (cwV 1 hts gw_s_X5_gather_s_X5_putRight_51 rfl rfl rfl (by decide +kernel) ⟨Nat.le_of_ble_eq_true rfl, Nat.le_of_ble_eq_true rfl⟩) ⟨z_blind, va_recv hKc hPc (ci := 5) (q0 := 0) rfl rfl, z_pre hPc hKc hDc⟩ rfl rfl hl.1 rfl (lv_room (Nat.le_of_ble_eq_true rfl)) dX5_gather_103 ⟨Nat.le_of_ble_eq_true rfl, Nat.le_of_ble_eq_true rfl⟩) hS (fun q _ h => hFc q h) hFc (fun u t H_35 locs ht hvm hw_37 hB hz1 hk1 hS => ?_)
                    obtain ⟨g_h4_38, g_h5_39, hP1, hK1, hD1⟩ := hB
                    rw [ht] at hP1
                    have hK1 := va_K.moved hvm.symm hK1
                    obtain ⟨hP, hD⟩ := z_ap_7 (va_join (wr := [(hfo, .inl (chfo, 11520, .inl fhfo)), (hme, .inl (chme, 6, .inl fhme)), (h1, .inr (4, [.ref hbk, .int kn, h1_2, .ref hk9, h1_4, h1_5, h1_6, h1_7, h1_8, h1_9])), (hbk, .inr (0, [.ref hs, .ref ha, hbk_2, hbk_3, hbk_4, hbk_5])), (hk9, .inl (chk9, 80, .inl fhk9)), (hs, .inl (chs, 80, .inl fhs)), (ha, .inl (cha, 80, .inl fha))]) hP hD [0, 4, 1, 5, 6, 7] [2, 3, 8, 9, 10, 11, 12] rfl rfl (by decide) (by decide) hk1 hFc hP1 hD1)
                    clear hPc hDc hKc
                    refine lv_aload_n hx hb dX5_gather_106 rfl (lv_at hl 1 rfl) ?_
                    refine lv_dup hx hb dX5_gather_107 rfl ?_
                    refine va_get (D := (dC, dI)) (ci := 5) (v := .long v_24) (C := RX5) (T := TX5) (N := 10) hx hb hts hiX5 hown hK hP 7 rfl rfl 7 (by decide) w__fieldLink_RX5_34_ShellHeap_Pantry_food_J_ (fun _ h9 => h9) rfl dX5_gather_108 ?_
                    refine lv_aload_n hx hb dX5_gather_111 rfl (lv_at hl 1 rfl) ?_
                    refine va_get (D := (dC, dI)) (ci := 5) (v := .ref hri) (C := RX5) (T := TX5) (N := 10) hx hb hts hiX5 hown hK hP 7 rfl rfl 6 (by decide) w__fieldLink_RX5_31_ShellHeap_Pantry_righted_J_ (fun _ h9 => h9) rfl dX5_gather_112 ?_
                    refine lv_iload_n hx hb dX5_gather_115 rfl (lv_at hl 0 rfl) ?_
                    refine va_lald hx hb hK hP 12 6 rfl rfl (z_vpin (by omega) (by omega)) dX5_gather_116 ?_
                    refine lv_topl (fun z_40 ez_40 => ?_)
                    refine lv_aload_n hx hb dX5_gather_117 rfl (lv_at hl 1 rfl) ?_
                    refine va_get (D := (dC, dI)) (ci := 5) (v := .ref hme) (C := RX5) (T := TX5) (N := 10) hx hb hts hiX5 hown hK hP 7 rfl rfl 0 (by decide) w__fieldLink_RX5_11_ShellHeap_Pantry_meats_I_ (fun _ h9 => h9) rfl dX5_gather_118 ?_
                    refine lv_iload_n hx hb dX5_gather_121 rfl (lv_at hl 0 rfl) ?_
                    refine va_iald hx hb hK hP 1 2 rfl rfl (z_vpin (by omega) (by omega)) dX5_gather_122 ?_
                    refine lv_topi (fun z_41 ez_41 => ?_)
                    refine lv_i2l hx hb dX5_gather_123 rfl ?_
                    refine lv_topl (fun z_42 ez_42 => ?_)
                    have kz_42 : (z_42).toInt = (z_41).toInt := by rw [ez_42]; exact z_i2l _
                    refine lv_lmul hx hb dX5_gather_124 ?_
                    refine lv_topl (fun z_43 ez_43 => ?_)
                    refine lv_ladd hx hb dX5_gather_125 ?_
                    refine lv_topl (fun z_44 ez_44 => ?_)
                    refine va_put (D := (dC, dI)) (ci := 5) (v := .long z_44) (ty := .long) (C := RX5) (T := TX5) (N := 10) hx hb hts hiX5 tyX5 tyX5_ok nmX5 hown hK hP hD hS 7 rfl rfl 7 (by decide) w__fieldLink_RX5_34_ShellHeap_Pantry_food_J_ (fun _ h9 => h9) rfl (by decide +kernel) rfl rfl (Nat.le_of_ble_eq_true rfl) dX5_gather_126 (fun H_45 locs hP hD hS => ?_)
                    obtain ⟨hP, hD⟩ := z_s_7_7 hP hD
                    obtain ⟨z_46, ez_46⟩ : ∃ y : Int32, y = i_23 + 1 := ⟨_, rfl⟩
                    have kz_46 : (z_46).toInt = (i_23).toInt + (1 : Int) := by rw [ez_46]; exact z_add (b := 1) rfl rfl (z_al hF_27.1 (by decide)) (z_ah hF_27.2 (by decide))
                    refine lv_iinc (v := z_46) (lv' := [(3, .int z_46), (0, .ref h0), (1, .ref h1), (2, .int p2)]) hx hb dX5_gather_129 hl (k := 0) rfl (by rw [ez_46]; rfl) (by decide) rfl (fun ls hl => ?_)
                    refine lv_goto (tgt := 93) hx hb dX5_gather_132 (by decide) ?_
                    exact ih_22 z_46 z_44 g_h4_38 g_h5_39 _ _ _ (show (7 - (z_46).toInt).toNat < n_21 by omega) (show ((0 : Int) ≤ (z_46).toInt ∧ (z_46).toInt ≤ (6 : Int)) by omega) (hP.sub (ws' := [(h0, .inr (5, [.ref hme, .ref hvo, .ref hfo, .ref hob, .ref hke, .ref hln, .ref hri, .long z_44, .long pl, .int pk])), (hob, .inl (chob, 144, .inr (.inl f_14))), (hfo, .inl (chfo, 11520, .inl fhfo)), (hme, .inl (chme, 6, .inl fhme)), (hvo, .inl (chvo, 6, .inl fhvo)), (hke, .inl (chke, 24, .inl fhke)), (hln, .inl (chln, 6, .inr (.inl g_h4_38))), (hri, .inl (chri, 6, .inr (.inl g_h5_39))), (h1, .inr (4, [.ref hbk, .int kn, h1_2, .ref hk9, h1_4, h1_5, h1_6, h1_7, h1_8, h1_9])), (hbk, .inr (0, [.ref hs, .ref ha, hbk_2, hbk_3, hbk_4, hbk_5])), (hk9, .inl (chk9, 80, .inl fhk9)), (hs, .inl (chs, 80, .inl fhs)), (ha, .inl (cha, 80, .inl fha))]) [7, 9, 0, 1, 8, 10, 11, 12, 2, 3, 4, 5, 6] rfl) (hD.sub (ws' := [(h0, .inr (5, [.ref hme, .ref hvo, .ref hfo, .ref hob, .ref hke, .ref hln, .ref hri, .long z_44, .long pl, .int pk])), (hob, .inl (chob, 144, .inr (.inl f_14))), (hfo, .inl (chfo, 11520, .inl fhfo)), (hme, .inl (chme, 6, .inl fhme)), (hvo, .inl (chvo, 6, .inl fhvo)), (hke, .inl (chke, 24, .inl fhke)), (hln, .inl (chln, 6, .inr (.inl g_h4_38))), (hri, .inl (chri, 6, .inr (.inl g_h5_39))), (h1, .inr (4, [.ref hbk, .int kn, h1_2, .ref hk9, h1_4, h1_5, h1_6, h1_7, h1_8, h1_9])), (hbk, .inr (0, [.ref hs, .ref ha, hbk_2, hbk_3, hbk_4, hbk_5])), (hk9, .inl (chk9, 80, .inl fhk9)), (hs, .inl (chs, 80, .inl fhs)), (ha, .inl (cha, 80, .inl fha))]) [7, 9, 0, 1, 8, 10, 11, 12, 2, 3, 4, 5, 6] (by decide) rfl) hS (lv_sub hl [0, 1, 2, 3] rfl)
              exact loop_20 _ 0 0 fhln fhri _ _ _ (Nat.lt_succ_self _) (show ((0 : Int) ≤ (0 : Int) ∧ (0 : Int) ≤ (6 : Int)) by omega) hP hD hS hl
            · have k_47 : (80 : Int) > (i_13).toInt := z_nle c_16
              refine lv_aload_n hx hb dX5_gather_30 rfl (lv_at hl 2 rfl) ?_
              refine lv_iload_n hx hb dX5_gather_31 rfl (lv_at hl 0 rfl) ?_
              refine lv_iload_n hx hb dX5_gather_32 rfl (lv_at hl 3 rfl) ?_
              obtain ⟨hPc, hDc⟩ := z_sub2 (ws' := [(h1, .inr (4, [.ref hbk, .int kn, h1_2, .ref hk9, h1_4, h1_5, h1_6, h1_7, h1_8, h1_9])), (hbk, .inr (0, [.ref hs, .ref ha, hbk_2, hbk_3, hbk_4, hbk_5])), (hk9, .inl (chk9, 80, .inl fhk9)), (hs, .inl (chs, 80, .inl fhs)), (ha, .inl (cha, 80, .inl fha))]) hP hD [8, 9, 10, 11, 12] (by decide) rfl
              have hKc := hK.sub (tys' := [(chk9, .boolean), (chs, .int), (cha, .int)]) [7, 8, 9] rfl
              have hFc := va_free (ws := []) (wc := []) (z_D0 _) hS hA [] rfl
              refine va_calli (va_runV (As := [.int i_13, .int p2]) (rest := []) ⟨hx, hb, hml, hown, hts⟩ (s_X4_areFindsIn l dC dI H.size h1 i_13 p2 hbk kn h1_2 hk9 h1_4 h1_5 h1_6 h1_7 h1_8 h1_9 hs ha hbk_2 hbk_3 hbk_4 hbk_5 chk9 fhk9 chs fhs cha fha hB_kn (by first | omega | decide) hI_ha) (cwV 2 hts gw_s_X5_gather_s_X4_areFindsIn_45 rfl rfl rfl (by decide +kernel) ⟨Nat.le_of_ble_eq_true rfl, Nat.le_of_ble_eq_true rfl⟩) ⟨z_blind, va_recv hKc hPc (ci := 4) (q0 := 0) rfl rfl, z_pre hPc hKc hDc⟩ rfl rfl hl.1 rfl (lv_room (Nat.le_of_ble_eq_true rfl)) dX5_gather_33 ⟨Nat.le_of_ble_eq_true rfl, Nat.le_of_ble_eq_true rfl⟩) hS (fun q _ h => hFc q h) hFc (fun r_49 u t H_48 locs ht hvm hw_50 hB hz1 hk1 hS => ?_)
              replace hP := z_pure hP hk1
              clear hPc hDc hKc
              refine lv_if_eq (tgt := 80) hx hb dX5_gather_36 (by decide) (fun c_51 => ?_) (fun c_51 => ?_)
              · have k_52 : (r_49).toInt = (0 : Int) := z_eq c_51
                obtain rfl : r_49 = 0 := z_eq' (show (r_49).toInt = (0 : Int) by omega)
                obtain ⟨z_54, ez_54⟩ : ∃ y : Int32, y = i_13 + 1 := ⟨_, rfl⟩
                have kz_54 : (z_54).toInt = (i_13).toInt + (1 : Int) := by rw [ez_54]; exact z_add (b := 1) rfl rfl (z_al hF_15.1 (by decide)) (z_ah hF_15.2 (by decide))
                refine lv_iinc (v := z_54) (lv' := [(3, .int z_54), (0, .ref h0), (1, .ref h1), (2, .int p2)]) hx hb dX5_gather_80 hl (k := 0) rfl (by rw [ez_54]; rfl) (by decide) rfl (fun ls hl => ?_)
                refine lv_goto (tgt := 24) hx hb dX5_gather_83 (by decide) ?_
                exact ih_12 z_54 f_14 _ _ _ (show (81 - (z_54).toInt).toNat < n_11 by omega) (show ((0 : Int) ≤ (z_54).toInt ∧ (z_54).toInt ≤ (80 : Int)) by omega) hP hD hS (lv_sub hl [0, 1, 2, 3] rfl)
              · have k_55 : (r_49).toInt ≠ (0 : Int) := z_ne c_51
                obtain rfl : r_49 = 1 := z_eq' (show (r_49).toInt = (1 : Int) by omega)
                refine lv_iconst (v := 0) hx hb dX5_gather_39 (by decide) ?_
                refine lv_istore (lv' := [(4, .int 0), (3, .int i_13), (0, .ref h0), (1, .ref h1), (2, .int p2)]) hx hb dX5_gather_40 hl (by decide) rfl (fun ls hl => ?_)
                have loop_57 : ∀ (n_58 : Nat) (i_60 : Int32) (f_61 : Nat → Int64) (H : Heap) (locs : List Loc) (ls : Array Slot), (145 - (i_60).toInt).toNat < n_58 → (((0 : Int) ≤ (i_60).toInt ∧ (i_60).toInt ≤ (144 : Int))) → va_P (dC, dI) vwCl [(h0, .inr (5, [.ref hme, .ref hvo, .ref hfo, .ref hob, .ref hke, .ref hln, .ref hri, .long pf, .long pl, .int pk])), (hob, .inl (chob, 144, .inr (.inl f_61))), (hfo, .inl (chfo, 11520, .inl fhfo)), (hme, .inl (chme, 6, .inl fhme)), (hvo, .inl (chvo, 6, .inl fhvo)), (hke, .inl (chke, 24, .inl fhke)), (hln, .inl (chln, 6, .inr (.inl fhln))), (hri, .inl (chri, 6, .inr (.inl fhri))), (h1, .inr (4, [.ref hbk, .int kn, h1_2, .ref hk9, h1_4, h1_5, h1_6, h1_7, h1_8, h1_9])), (hbk, .inr (0, [.ref hs, .ref ha, hbk_2, hbk_3, hbk_4, hbk_5])), (hk9, .inl (chk9, 80, .inl fhk9)), (hs, .inl (chs, 80, .inl fhs)), (ha, .inl (cha, 80, .inl fha))] H → va_D A [(h0, .inr (5, [.ref hme, .ref hvo, .ref hfo, .ref hob, .ref hke, .ref hln, .ref hri, .long pf, .long pl, .int pk])), (hob, .inl (chob, 144, .inr (.inl f_61))), (hfo, .inl (chfo, 11520, .inl fhfo)), (hme, .inl (chme, 6, .inl fhme)), (hvo, .inl (chvo, 6, .inl fhvo)), (hke, .inl (chke, 24, .inl fhke)), (hln, .inl (chln, 6, .inr (.inl fhln))), (hri, .inl (chri, 6, .inr (.inl fhri))), (h1, .inr (4, [.ref hbk, .int kn, h1_2, .ref hk9, h1_4, h1_5, h1_6, h1_7, h1_8, h1_9])), (hbk, .inr (0, [.ref hs, .ref ha, hbk_2, hbk_3, hbk_4, hbk_5])), (hk9, .inl (chk9, 80, .inl fhk9)), (hs, .inl (chs, 80, .inl fhs)), (ha, .inl (cha, 80, .inl fha))] → va_S A s.heap H locs → lv_has ls 5 [(4, .int i_60), (3, .int i_13), (0, .ref h0), (1, .ref h1), (2, .int p2)] → W p l e ({ frames := 3, cells := 0, slots := 0, locals := 73 } : Room) s m ([.ref h0, .ref h1, .int p2] : List Value).toArray below meth c H locs 0 0 QQ (F0 m 42 ls []) := by
                  intro n_58
                  induction n_58 with
                  | zero => intro i_60 f_61 H locs ls hm; exact absurd hm (Nat.not_lt_zero _)
                  | succ n_58 ih_59 =>
                    intro i_60 f_61 H locs ls hm hF_62 hP hD hS hl
                    refine lv_iload hx hb dX5_gather_42 (lv_at hl 0 rfl) ?_
                    refine lv_sipush (v := 144) hx hb dX5_gather_44 (by decide) ?_
                    refine lv_icmp_ge (tgt := 80) hx hb dX5_gather_47 (by decide) (fun c_63 => ?_) (fun c_63 => ?_)
                    · have k_64 : (144 : Int) ≤ (i_60).toInt := z_le c_63
                      obtain rfl : i_60 = 144 := z_eq' (show (i_60).toInt = (144 : Int) by omega)
                      obtain ⟨z_66, ez_66⟩ : ∃ y : Int32, y = i_13 + 1 := ⟨_, rfl⟩
                      have kz_66 : (z_66).toInt = (i_13).toInt + (1 : Int) := by rw [ez_66]; exact z_add (b := 1) rfl rfl (z_al hF_15.1 (by decide)) (z_ah hF_15.2 (by decide))
                      refine lv_iinc (v := z_66) (lv' := [(3, .int z_66), (4, .int 144), (0, .ref h0), (1, .ref h1), (2, .int p2)]) hx hb dX5_gather_80 hl (k := 1) rfl (by rw [ez_66]; rfl) (by decide) rfl (fun ls hl => ?_)
                      refine lv_goto (tgt := 24) hx hb dX5_gather_83 (by decide) ?_
                      exact ih_12 z_66 f_61 _ _ _ (show (81 - (z_66).toInt).toNat < n_11 by omega) (show ((0 : Int) ≤ (z_66).toInt ∧ (z_66).toInt ≤ (80 : Int)) by omega) hP hD hS (lv_sub hl [0, 2, 3, 4] rfl)
                    · have k_67 : (144 : Int) > (i_60).toInt := z_nle c_63
                      refine lv_aload_n hx hb dX5_gather_50 rfl (lv_at hl 2 rfl) ?_
                      refine va_get (D := (dC, dI)) (ci := 5) (v := .ref hob) (C := RX5) (T := TX5) (N := 10) hx hb hts hiX5 hown hK hP 0 rfl rfl 3 (by decide) w__fieldLink_RX5_21_ShellHeap_Pantry_ofBed_J_ (fun _ h9 => h9) rfl dX5_gather_51 ?_
                      refine lv_iload hx hb dX5_gather_54 (lv_at hl 0 rfl) ?_
                      refine lv_dup2_11 hx hb dX5_gather_56 rfl rfl ?_
                      refine va_lald hx hb hK hP 1 0 rfl rfl (z_vpin (by omega) (by omega)) dX5_gather_57 ?_
                      refine lv_topl (fun z_68 ez_68 => ?_)
                      refine lv_aload_n hx hb dX5_gather_58 rfl (lv_at hl 2 rfl) ?_
                      refine va_get (D := (dC, dI)) (ci := 5) (v := .ref hfo) (C := RX5) (T := TX5) (N := 10) hx hb hts hiX5 hown hK hP 0 rfl rfl 2 (by decide) w__fieldLink_RX5_18_ShellHeap_Pantry_found_I_ (fun _ h9 => h9) rfl dX5_gather_59 ?_
                      refine lv_iload_n hx hb dX5_gather_62 rfl (lv_at hl 1 rfl) ?_
                      refine lv_sipush (v := 144) hx hb dX5_gather_63 (by decide) ?_
                      refine lv_imul hx hb dX5_gather_66 ?_
                      refine lv_topi (fun z_69 ez_69 => ?_)
                      have kz_69 : (z_69).toInt = (i_13).toInt * (144 : Int) := by rw [ez_69]; exact z_mul (a := (i_13).toInt) (b := (144 : Int)) rfl rfl (by omega) (by omega)
                      refine lv_iload hx hb dX5_gather_67 (lv_at hl 0 rfl) ?_
                      refine lv_iadd hx hb dX5_gather_69 ?_
                      refine lv_topi (fun z_70 ez_70 => ?_)
                      have kz_70 : (z_70).toInt = (z_69).toInt + (i_60).toInt := by rw [ez_70]; exact z_add (a := (z_69).toInt) (b := (i_60).toInt) rfl rfl (by omega) (by omega)
                      refine va_iald hx hb hK hP 2 1 rfl rfl (z_vpin (by omega) (by omega)) dX5_gather_70 ?_
                      refine lv_topi (fun z_71 ez_71 => ?_)
                      refine lv_i2l hx hb dX5_gather_71 rfl ?_
                      refine lv_topl (fun z_72 ez_72 => ?_)
                      have kz_72 : (z_72).toInt = (z_71).toInt := by rw [ez_72]; exact z_i2l _
                      refine lv_ladd hx hb dX5_gather_72 ?_
                      refine lv_topl (fun z_73 ez_73 => ?_)
                      refine va_last hx hb hK hP hD hS 1 0 rfl rfl (z_vpin (by omega) (by omega)) dX5_gather_73 (fun H_74 locs hP hD hS => ?_)
                      obtain ⟨hP, hD⟩ := z_s_1 hP hD
                      generalize (vp_updL f_61 (i_60 : Int32).toNatClampNeg z_73) = f_75 at hP hD
                      obtain ⟨z_76, ez_76⟩ : ∃ y : Int32, y = i_60 + 1 := ⟨_, rfl⟩
                      have kz_76 : (z_76).toInt = (i_60).toInt + (1 : Int) := by rw [ez_76]; exact z_add (b := 1) rfl rfl (z_al hF_62.1 (by decide)) (z_ah hF_62.2 (by decide))
                      refine lv_iinc (v := z_76) (lv' := [(4, .int z_76), (3, .int i_13), (0, .ref h0), (1, .ref h1), (2, .int p2)]) hx hb dX5_gather_74 hl (k := 0) rfl (by rw [ez_76]; rfl) (by decide) rfl (fun ls hl => ?_)
                      refine lv_goto (tgt := 42) hx hb dX5_gather_77 (by decide) ?_
                      exact ih_59 z_76 f_75 _ _ _ (show (145 - (z_76).toInt).toNat < n_58 by omega) (show ((0 : Int) ≤ (z_76).toInt ∧ (z_76).toInt ≤ (144 : Int)) by omega) hP hD hS (lv_sub hl [0, 1, 2, 3, 4] rfl)
                exact loop_57 _ 0 f_14 _ _ _ (Nat.lt_succ_self _) (show ((0 : Int) ≤ (0 : Int) ∧ (0 : Int) ≤ (144 : Int)) by omega) hP hD hS hl
        exact loop_10 _ 0 f_5 _ _ _ (Nat.lt_succ_self _) (show ((0 : Int) ≤ (0 : Int) ∧ (0 : Int) ≤ (80 : Int)) by omega) hP hD hS hl
      · have k_77 : (144 : Int) > (i_4).toInt := z_nle c_7
        refine lv_aload_n hx hb dX5_gather_9 rfl (lv_at hl 1 rfl) ?_
        refine va_get (D := (dC, dI)) (ci := 5) (v := .ref hob) (C := RX5) (T := TX5) (N := 10) hx hb hts hiX5 hown hK hP 0 rfl rfl 3 (by decide) w__fieldLink_RX5_21_ShellHeap_Pantry_ofBed_J_ (fun _ h9 => h9) rfl dX5_gather_10 ?_
        refine lv_iload_n hx hb dX5_gather_13 rfl (lv_at hl 0 rfl) ?_
        refine lv_lconst (v := 0) hx hb dX5_gather_14 (by decide) ?_
        refine va_last hx hb hK hP hD hS 1 0 rfl rfl (z_vpin (by omega) (by omega)) dX5_gather_15 (fun H_78 locs hP hD hS => ?_)
        obtain ⟨hP, hD⟩ := z_s_1 hP hD
        generalize (vp_updL f_5 (i_4 : Int32).toNatClampNeg 0) = f_79 at hP hD
        obtain ⟨z_80, ez_80⟩ : ∃ y : Int32, y = i_4 + 1 := ⟨_, rfl⟩
        have kz_80 : (z_80).toInt = (i_4).toInt + (1 : Int) := by rw [ez_80]; exact z_add (b := 1) rfl rfl (z_al hF_6.1 (by decide)) (z_ah hF_6.2 (by decide))
        refine lv_iinc (v := z_80) (lv' := [(3, .int z_80), (0, .ref h0), (1, .ref h1), (2, .int p2)]) hx hb dX5_gather_16 hl (k := 0) rfl (by rw [ez_80]; rfl) (by decide) rfl (fun ls hl => ?_)
        refine lv_goto (tgt := 2) hx hb dX5_gather_19 (by decide) ?_
        exact ih_3 z_80 f_79 _ _ _ (show (145 - (z_80).toInt).toNat < n_2 by omega) (show ((0 : Int) ≤ (z_80).toInt ∧ (z_80).toInt ≤ (144 : Int)) by omega) hP hD hS (lv_sub hl [0, 1, 2, 3] rfl)
  exact loop_1 _ 0 fhob _ _ _ (Nat.lt_succ_self _) (show ((0 : Int) ≤ (0 : Int) ∧ (0 : Int) ≤ (144 : Int)) by omega) hP hD hS hl
