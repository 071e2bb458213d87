def u_s_X10_byteAt4 : List Cond := .code yX10_byteAt cX10_byteAt 2 (some .int) :: ([.fieldLink RX10 15 "ShellHeap$Tape" "text" "I", .fieldLink RX10 11 "ShellHeap$Tape" "bytes" "[I"] ++ (wsX100 ++ []))
theorem gd_s_X10_byteAt4 : z_gd u_s_X10_byteAt4 := z_gdc (by decide +kernel) (z_gda gdX10 (z_gd0))
set_option maxHeartbeats 4000000 in
set_option maxRecDepth 100000 in
theorem s_X10_byteAt4 (l : Launch) (dC : Nat → ClassId) (dI : Nat → Nat → Nat) (sz : Nat) (h0 : Nat) (p1 : Int32) (h1 : Nat) (tt : Int32) (h0_2 : Value) (h0_3 : Value) (h0_4 : Value) (h0_5 : Value) (h0_6 : Value) (h0_7 : Value) (h0_8 : Value) (h0_9 : Value) (h0_10 : Value) (ch1 : ClassId) (fh1 : Nat → Int32) (hB_tt : ((0 : Int) ≤ (tt).toInt ∧ (tt).toInt ≤ (700 : Int))) (hI_h1 : ∀ j : Nat, ((0 : Int) ≤ (fh1 j).toInt ∧ (fh1 j).toInt ≤ (255 : Int))) : Met l yX10_byteAt u_s_X10_byteAt4 ({ frames := 0, cells := 0, slots := 0, locals := 0 }) (va_Pc [.ref h0, .int p1] (z_C (dC, dI) vwCl [(h0, .inr (10, [.ref h1, .int tt, h0_2, h0_3, h0_4, h0_5, h0_6, h0_7, h0_8, h0_9, h0_10])), (h1, .inl (ch1, 700, .inl fh1))] [(ch1, .int)] sz)) (va_Qi (fun (r : Int32) (_ : Unit) => ((0 : Int) ≤ (r).toInt ∧ (r).toInt ≤ (255 : Int)) ∧ ((0 : Int) ≤ p1.toInt → p1.toInt < tt.toInt → r = fh1 p1.toNatClampNeg) ∧ (tt.toInt ≤ p1.toInt → r.toInt = (0 : Int))) (fun (_ : Unit) (_ : State) => True) (va_A [] sz)) 0 0 (va_A [] sz) := by
  refine Met.ofW (cc := cX10_byteAt) (maxL := 2) (ret := (some .int)) (by decide) rfl ?_
  intro p e s m args below meth c s₁ B hml hv
  obtain ⟨rfl, hsz, hP, hK, hD0⟩ := hv
  have hx := B.exec
  have hb := B.bytes
  have hr := B.returns
  have hts := atoms_spec (ws := u_s_X10_byteAt4) B.pre
  have hown : s.vm.findClass RX10 = some m.cls := findClass_of_methodNamed B.named
  have hlocks := B.notSynchronized
  subst hsz
  have hD := hD0
  generalize hAe : va_A [] s.heap.size = A
  have hA : ∀ q : Nat, s.heap.size ≤ q → A q := fun q h => by rw [← hAe]; exact Or.inr h
  have hS : va_S A s.heap s.heap [] := va_S.rf
  have hP : va_P (dC, dI) vwCl [(h0, .inr (10, [.ref h1, .int tt, h0_2, h0_3, h0_4, h0_5, h0_6, h0_7, h0_8, h0_9, h0_10])), (h1, .inl (ch1, 700, .inl fh1))] s.heap := hP
  have w__fieldLink_RX10_15_ShellHeap_Tape_text_I_ := hts (.fieldLink RX10 15 "ShellHeap$Tape" "text" "I") (z_mc (z_ml z_m0))
  have hiX10 := show ∀ w ∈ u_ws RX10 TX10 11, w ∈ u_s_X10_byteAt4 from fun w h => z_mc (z_mr (z_ml h))
  have w__fieldLink_RX10_11_ShellHeap_Tape_bytes_I_ := hts (.fieldLink RX10 11 "ShellHeap$Tape" "bytes" "[I") (z_mc (z_ml z_m1))
  have krr_p1 := z_rng p1
  have hl := lv_entry ([.ref h0, .int p1]) (n := 2) (Nat.le_of_ble_eq_true rfl)
  rw [lg_entry_eq]
  generalize (lg_sl ([.ref h0, .int p1]) ++ List.replicate (2 - (lg_sl ([.ref h0, .int p1])).length) Slot.unset).toArray = ls at hl ⊢
  have hl : lv_has ls 2 [(0, .ref h0), (1, .int p1)] := hl
  refine lv_iload_n hx hb dX10_byteAt_0 rfl (lv_at hl 1 rfl) ?_
  refine lv_if_lt (tgt := 28) hx hb dX10_byteAt_1 (by decide) (fun c_1 => ?_) (fun c_1 => ?_)
  · have k_2 : (p1).toInt < (0 : Int) := z_lt c_1
    refine lv_iconst (v := 0) hx hb dX10_byteAt_28 (by decide) ?_
    refine W.widen (k := 0) (n := 0) (Nat.le_of_ble_eq_true rfl) (Nat.le_of_ble_eq_true rfl) ?_
    exact W.iret (v := 0) hx hb hr (fun t ht hW => ⟨⟨0, (), rfl, (show ((0 : Int) ≤ (0 : Int) ∧ (0 : Int) ≤ (255 : Int)) ∧ ((0 : Int) ≤ p1.toInt → p1.toInt < tt.toInt → 0 = fh1 p1.toNatClampNeg) ∧ (tt.toInt ≤ p1.toInt → (0 : Int) = (0 : Int)) from ⟨by omega, fun h8 h9 => by exfalso; omega, fun _ => rfl⟩), trivial⟩, hS.F ht⟩) hS.2.2 dX10_byteAt_29
  · have k_3 : (p1).toInt ≥ (0 : Int) := z_nlt c_1
    refine lv_iload_n hx hb dX10_byteAt_4 rfl (lv_at hl 1 rfl) ?_
    refine lv_aload_n hx hb dX10_byteAt_5 rfl (lv_at hl 0 rfl) ?_
    refine va_get (D := (dC, dI)) (ci := 10) (v := .int tt) (C := RX10) (T := TX10) (N := 11) hx hb hts hiX10 hown hK hP 0 rfl rfl 1 (by decide) w__fieldLink_RX10_15_ShellHeap_Tape_text_I_ (fun _ h9 => h9) rfl dX10_byteAt_6 ?_
    refine lv_icmp_ge (tgt := 28) hx hb dX10_byteAt_9 (by decide) (fun c_4 => ?_) (fun c_4 => ?_)
    · have k_5 : (tt).toInt ≤ (p1).toInt := z_le c_4
      refine lv_iconst (v := 0) hx hb dX10_byteAt_28 (by decide) ?_
      refine W.widen (k := 0) (n := 0) (Nat.le_of_ble_eq_true rfl) (Nat.le_of_ble_eq_true rfl) ?_
      exact W.iret (v := 0) hx hb hr (fun t ht hW => ⟨⟨0, (), rfl, (show ((0 : Int) ≤ (0 : Int) ∧ (0 : Int) ≤ (255 : Int)) ∧ ((0 : Int) ≤ p1.toInt → p1.toInt < tt.toInt → 0 = fh1 p1.toNatClampNeg) ∧ (tt.toInt ≤ p1.toInt → (0 : Int) = (0 : Int)) from ⟨by omega, fun h8 h9 => by exfalso; omega, fun _ => rfl⟩), trivial⟩, hS.F ht⟩) hS.2.2 dX10_byteAt_29
    · have k_6 : (tt).toInt > (p1).toInt := z_nle c_4
      refine lv_iload_n hx hb dX10_byteAt_12 rfl (lv_at hl 1 rfl) ?_
      refine lv_sipush (v := 700) hx hb dX10_byteAt_13 (by decide) ?_
      refine lv_icmp_ge (tgt := 28) hx hb dX10_byteAt_16 (by decide) (fun c_7 => ?_) (fun c_7 => ?_)
      · exfalso
        have k_8 : (700 : Int) ≤ (p1).toInt := z_le c_7
        omega
      refine lv_aload_n hx hb dX10_byteAt_19 rfl (lv_at hl 0 rfl) ?_
      refine va_get (D := (dC, dI)) (ci := 10) (v := .ref h1) (C := RX10) (T := TX10) (N := 11) hx hb hts hiX10 hown hK hP 0 rfl rfl 0 (by decide) w__fieldLink_RX10_11_ShellHeap_Tape_bytes_I_ (fun _ h9 => h9) rfl dX10_byteAt_20 ?_
      refine lv_iload_n hx hb dX10_byteAt_23 rfl (lv_at hl 1 rfl) ?_
      refine va_iald hx hb hK hP 1 0 rfl rfl (z_vpin (by omega) (by omega)) dX10_byteAt_24 ?_
      refine lv_topi (fun z_9 ez_9 => ?_)
      have kz_9 : ((0 : Int) ≤ (z_9).toInt ∧ (z_9).toInt ≤ (255 : Int)) := by rw [ez_9]; exact hI_h1 _
      refine lv_goto (tgt := 29) hx hb dX10_byteAt_25 (by decide) ?_
      refine W.widen (k := 0) (n := 0) (Nat.le_of_ble_eq_true rfl) (Nat.le_of_ble_eq_true rfl) ?_
      exact W.iret (v := z_9) hx hb hr (fun t ht hW => ⟨⟨z_9, (), rfl, (show ((0 : Int) ≤ (z_9).toInt ∧ (z_9).toInt ≤ (255 : Int)) ∧ ((0 : Int) ≤ p1.toInt → p1.toInt < tt.toInt → z_9 = fh1 p1.toNatClampNeg) ∧ (tt.toInt ≤ p1.toInt → (z_9).toInt = (0 : Int)) from ⟨by omega, fun _ _ => ez_9, fun h9 => by exfalso; omega⟩), trivial⟩, hS.F ht⟩) hS.2.2 dX10_byteAt_29
def u_s_X10_isLetter3 : List Cond := .code yX10_isLetter cX10_isLetter 1 (some .boolean) :: ([] ++ [])
theorem gd_s_X10_isLetter3 : z_gd u_s_X10_isLetter3 := z_gdc (by decide +kernel) (z_gd0)
set_option maxHeartbeats 4000000 in
set_option maxRecDepth 100000 in
theorem s_X10_isLetter3 (l : Launch) (dC : Nat → ClassId) (dI : Nat → Nat → Nat) (sz : Nat) (p0 : Int32) : Met l yX10_isLetter u_s_X10_isLetter3 ({ frames := 0, cells := 0, slots := 0, locals := 0 }) (va_Pc [.int p0] (z_C (dC, dI) vwCl [] [] sz)) (va_Qi (fun (r : Int32) (_ : Unit) => (r = 1 ∧ f_le p0.toInt) ∨ (r = 0 ∧ ¬ f_le p0.toInt)) (fun (_ : Unit) (_ : State) => True) (va_A [] sz)) 0 0 (va_A [] sz) := by
  refine Met.ofW (cc := cX10_isLetter) (maxL := 1) (ret := (some .boolean)) (by decide) rfl ?_
  intro p e s m args below meth c s₁ B hml hv
  obtain ⟨rfl, hsz, hP, hK, hD0⟩ := hv
  have hx := B.exec
  have hb := B.bytes
  have hr := B.returns
  have hts := atoms_spec (ws := u_s_X10_isLetter3) B.pre
  have hown : s.vm.findClass RX10 = some m.cls := findClass_of_methodNamed B.named
  have hlocks := B.notSynchronized
  subst hsz
  have hD := hD0
  generalize hAe : va_A [] s.heap.size = A
  have hA : ∀ q : Nat, s.heap.size ≤ q → A q := fun q h => by rw [← hAe]; exact Or.inr h
  have hS : va_S A s.heap s.heap [] := va_S.rf
  have hP : va_P (dC, dI) vwCl [] s.heap := hP
  have krr_p0 := z_rng p0
  have hl := lv_entry ([.int p0]) (n := 1) (Nat.le_of_ble_eq_true rfl)
  rw [lg_entry_eq]
  generalize (lg_sl ([.int p0]) ++ List.replicate (1 - (lg_sl ([.int p0])).length) Slot.unset).toArray = ls at hl ⊢
  have hl : lv_has ls 1 [(0, .int p0)] := hl
  refine lv_iload_n hx hb dX10_isLetter_0 rfl (lv_at hl 0 rfl) ?_
  refine lv_bipush (v := 97) hx hb dX10_isLetter_1 (by decide) ?_
  refine lv_icmp_lt (tgt := 16) hx hb dX10_isLetter_3 (by decide) (fun c_1 => ?_) (fun c_1 => ?_)
  · have k_2 : (p0).toInt < (97 : Int) := z_lt c_1
    refine lv_iconst (v := 0) hx hb dX10_isLetter_16 (by decide) ?_
    refine W.widen (k := 0) (n := 0) (Nat.le_of_ble_eq_true rfl) (Nat.le_of_ble_eq_true rfl) ?_
    exact W.zret (v := 0) hx hb hr (by rfl) (fun t ht hW => ⟨⟨0, (), rfl, (Or.inr (⟨rfl, (show ¬ f_le (p0).toInt from fun h9 => absurd h9 (by unfold f_le; omega))⟩)), trivial⟩, hS.F ht⟩) hS.2.2 dX10_isLetter_17
  · have k_3 : (p0).toInt ≥ (97 : Int) := z_nlt c_1
    refine lv_iload_n hx hb dX10_isLetter_6 rfl (lv_at hl 0 rfl) ?_
    refine lv_bipush (v := 122) hx hb dX10_isLetter_7 (by decide) ?_
    refine lv_icmp_gt (tgt := 16) hx hb dX10_isLetter_9 (by decide) (fun c_4 => ?_) (fun c_4 => ?_)
    · have k_5 : (122 : Int) < (p0).toInt := z_lt c_4
      refine lv_iconst (v := 0) hx hb dX10_isLetter_16 (by decide) ?_
      refine W.widen (k := 0) (n := 0) (Nat.le_of_ble_eq_true rfl) (Nat.le_of_ble_eq_true rfl) ?_
      exact W.zret (v := 0) hx hb hr (by rfl) (fun t ht hW => ⟨⟨0, (), rfl, (Or.inr (⟨rfl, (show ¬ f_le (p0).toInt from fun h9 => absurd h9 (by unfold f_le; omega))⟩)), trivial⟩, hS.F ht⟩) hS.2.2 dX10_isLetter_17
    · have k_6 : (122 : Int) ≥ (p0).toInt := z_nlt c_4
      refine lv_iconst (v := 1) hx hb dX10_isLetter_12 (by decide) ?_
      refine lv_goto (tgt := 17) hx hb dX10_isLetter_13 (by decide) ?_
      refine W.widen (k := 0) (n := 0) (Nat.le_of_ble_eq_true rfl) (Nat.le_of_ble_eq_true rfl) ?_
      exact W.zret (v := 1) hx hb hr (by rfl) (fun t ht hW => ⟨⟨1, (), rfl, (Or.inl (⟨rfl, (show f_le (p0).toInt from ⟨by omega, by omega⟩)⟩)), trivial⟩, hS.F ht⟩) hS.2.2 dX10_isLetter_17
def u_s_X10_isDigit3 : List Cond := .code yX10_isDigit cX10_isDigit 1 (some .boolean) :: ([] ++ [])
theorem gd_s_X10_isDigit3 : z_gd u_s_X10_isDigit3 := z_gdc (by decide +kernel) (z_gd0)
set_option maxHeartbeats 4000000 in
set_option maxRecDepth 100000 in
theorem s_X10_isDigit3 (l : Launch) (dC : Nat → ClassId) (dI : Nat → Nat → Nat) (sz : Nat) (p0 : Int32) : Met l yX10_isDigit u_s_X10_isDigit3 ({ frames := 0, cells := 0, slots := 0, locals := 0 }) (va_Pc [.int p0] (z_C (dC, dI) vwCl [] [] sz)) (va_Qi (fun (r : Int32) (_ : Unit) => (r = 1 ∧ f_di p0.toInt) ∨ (r = 0 ∧ ¬ f_di p0.toInt)) (fun (_ : Unit) (_ : State) => True) (va_A [] sz)) 0 0 (va_A [] sz) := by
  refine Met.ofW (cc := cX10_isDigit) (maxL := 1) (ret := (some .boolean)) (by decide) rfl ?_
  intro p e s m args below meth c s₁ B hml hv
  obtain ⟨rfl, hsz, hP, hK, hD0⟩ := hv
  have hx := B.exec
  have hb := B.bytes
  have hr := B.returns
  have hts := atoms_spec (ws := u_s_X10_isDigit3) B.pre
  have hown : s.vm.findClass RX10 = some m.cls := findClass_of_methodNamed B.named
  have hlocks := B.notSynchronized
  subst hsz
  have hD := hD0
  generalize hAe : va_A [] s.heap.size = A
  have hA : ∀ q : Nat, s.heap.size ≤ q → A q := fun q h => by rw [← hAe]; exact Or.inr h
  have hS : va_S A s.heap s.heap [] := va_S.rf
  have hP : va_P (dC, dI) vwCl [] s.heap := hP
  have krr_p0 := z_rng p0
  have hl := lv_entry ([.int p0]) (n := 1) (Nat.le_of_ble_eq_true rfl)
  rw [lg_entry_eq]
  generalize (lg_sl ([.int p0]) ++ List.replicate (1 - (lg_sl ([.int p0])).length) Slot.unset).toArray = ls at hl ⊢
  have hl : lv_has ls 1 [(0, .int p0)] := hl
  refine lv_iload_n hx hb dX10_isDigit_0 rfl (lv_at hl 0 rfl) ?_
  refine lv_bipush (v := 48) hx hb dX10_isDigit_1 (by decide) ?_
  refine lv_icmp_lt (tgt := 16) hx hb dX10_isDigit_3 (by decide) (fun c_1 => ?_) (fun c_1 => ?_)
  · have k_2 : (p0).toInt < (48 : Int) := z_lt c_1
    refine lv_iconst (v := 0) hx hb dX10_isDigit_16 (by decide) ?_
    refine W.widen (k := 0) (n := 0) (Nat.le_of_ble_eq_true rfl) (Nat.le_of_ble_eq_true rfl) ?_
    exact W.zret (v := 0) hx hb hr (by rfl) (fun t ht hW => ⟨⟨0, (), rfl, (Or.inr (⟨rfl, (show ¬ f_di (p0).toInt from fun h9 => absurd h9 (by unfold f_di; omega))⟩)), trivial⟩, hS.F ht⟩) hS.2.2 dX10_isDigit_17
  · have k_3 : (p0).toInt ≥ (48 : Int) := z_nlt c_1
    refine lv_iload_n hx hb dX10_isDigit_6 rfl (lv_at hl 0 rfl) ?_
    refine lv_bipush (v := 57) hx hb dX10_isDigit_7 (by decide) ?_
    refine lv_icmp_gt (tgt := 16) hx hb dX10_isDigit_9 (by decide) (fun c_4 => ?_) (fun c_4 => ?_)
    · have k_5 : (57 : Int) < (p0).toInt := z_lt c_4
      refine lv_iconst (v := 0) hx hb dX10_isDigit_16 (by decide) ?_
      refine W.widen (k := 0) (n := 0) (Nat.le_of_ble_eq_true rfl) (Nat.le_of_ble_eq_true rfl) ?_
      exact W.zret (v := 0) hx hb hr (by rfl) (fun t ht hW => ⟨⟨0, (), rfl, (Or.inr (⟨rfl, (show ¬ f_di (p0).toInt from fun h9 => absurd h9 (by unfold f_di; omega))⟩)), trivial⟩, hS.F ht⟩) hS.2.2 dX10_isDigit_17
    · have k_6 : (57 : Int) ≥ (p0).toInt := z_nlt c_4
      refine lv_iconst (v := 1) hx hb dX10_isDigit_12 (by decide) ?_
      refine lv_goto (tgt := 17) hx hb dX10_isDigit_13 (by decide) ?_
      refine W.widen (k := 0) (n := 0) (Nat.le_of_ble_eq_true rfl) (Nat.le_of_ble_eq_true rfl) ?_
      exact W.zret (v := 1) hx hb hr (by rfl) (fun t ht hW => ⟨⟨1, (), rfl, (Or.inl (⟨rfl, (show f_di (p0).toInt from ⟨by omega, by omega⟩)⟩)), trivial⟩, hS.F ht⟩) hS.2.2 dX10_isDigit_17
def u_s_X10_passLetters3 : List Cond := .code yX10_passLetters cX10_passLetters 1 none :: ([.fieldLink RX10 19 "ShellHeap$Tape" "at" "I", .fieldLink RX10 15 "ShellHeap$Tape" "text" "I", .methodLink RX10 50 yX10_byteAt, .instanceMethod yX10_byteAt, .selects RX10 yX10_byteAt yX10_byteAt, .initialized RX10, .methodLink RX10 54 yX10_isLetter, .static yX10_isLetter] ++ (wsX100 ++ (u_s_X10_byteAt4 ++ (u_s_X10_isLetter3 ++ []))))
theorem gd_s_X10_passLetters3 : z_gd u_s_X10_passLetters3 := z_gdc (by decide +kernel) (z_gda gdX10 (z_gda gd_s_X10_byteAt4 (z_gda gd_s_X10_isLetter3 (z_gd0))))
set_option maxRecDepth 20000 in
theorem gw_s_X10_passLetters3_s_X10_byteAt4_50 : GoodIn u_s_X10_passLetters3 (wsV RX10 50 RX10 yX10_byteAt u_s_X10_byteAt4) := z_gV (z_gr _ [3, 4, 5, 6] rfl (by decide +kernel)) (fun w h => ⟨z_mc (z_mr (z_mr (z_ml h))), gd_s_X10_byteAt4 w h⟩)
set_option maxRecDepth 20000 in
theorem gw_s_X10_passLetters3_s_X10_isLetter3_54 : GoodIn u_s_X10_passLetters3 (va_wsS RX10 54 yX10_isLetter u_s_X10_isLetter3) := z_gS (z_gr _ [7, 8, 6] rfl (by decide +kernel)) (fun w h => ⟨z_mc (z_mr (z_mr (z_mr (z_ml h)))), gd_s_X10_isLetter3 w h⟩)
set_option maxHeartbeats 4000000 in
set_option maxRecDepth 100000 in
theorem s_X10_passLetters3 (l : Launch) (dC : Nat → ClassId) (dI : Nat → Nat → Nat) (sz : Nat) (h0 : Nat) (h1 : Nat) (tt : Int32) (ta : Int32) (h0_3 : Value) (h0_4 : Value) (h0_5 : Value) (h0_6 : Value) (h0_7 : Value) (h0_8 : Value) (h0_9 : Value) (h0_10 : Value) (ch1 : ClassId) (fh1 : Nat → Int32) (hB_tt : ((0 : Int) ≤ (tt).toInt ∧ (tt).toInt ≤ (700 : Int))) (hB_ta : ((0 : Int) ≤ (ta).toInt ∧ (ta).toInt ≤ (700 : Int))) (hI_h1 : ∀ j : Nat, ((0 : Int) ≤ (fh1 j).toInt ∧ (fh1 j).toInt ≤ (255 : Int))) (hle : ta.toInt ≤ tt.toInt) : Met l yX10_passLetters u_s_X10_passLetters3 ({ frames := 1, cells := 0, slots := 0, locals := 21 }) (va_Pc [.ref h0] (z_C (dC, dI) vwCl [(h0, .inr (10, [.ref h1, .int tt, .int ta, h0_3, h0_4, h0_5, h0_6, h0_7, h0_8, h0_9, h0_10])), (h1, .inl (ch1, 700, .inl fh1))] [(ch1, .int)] sz)) (va_Qv (fun (_ : Unit) => True) (fun (_ : Unit) (t : State) => ∃ (n_h0_at : Int32), ((0 : Int) ≤ (n_h0_at).toInt ∧ (n_h0_at).toInt ≤ (700 : Int)) ∧ (ta.toInt ≤ n_h0_at.toInt ∧ n_h0_at.toInt ≤ tt.toInt) ∧ (f_run f_le fh1 tt.toInt ta.toInt n_h0_at.toInt) ∧ va_P (dC, dI) vwCl [(h0, .inr (10, [.ref h1, .int tt, .int n_h0_at, h0_3, h0_4, h0_5, h0_6, h0_7, h0_8, h0_9, h0_10])), (h1, .inl (ch1, 700, .inl fh1))] t.heap ∧ va_K (dC, dI) vwCl [] t ∧ va_D (va_A [(h0, .inr (10, [.ref h1, .int tt, .int ta, h0_3, h0_4, h0_5, h0_6, h0_7, h0_8, h0_9, h0_10])), (h1, .inl (ch1, 700, .inl fh1))] sz) [(h0, .inr (10, [.ref h1, .int tt, .int n_h0_at, h0_3, h0_4, h0_5, h0_6, h0_7, h0_8, h0_9, h0_10])), (h1, .inl (ch1, 700, .inl fh1))]) (va_A [(h0, .inr (10, [.ref h1, .int tt, .int ta, h0_3, h0_4, h0_5, h0_6, h0_7, h0_8, h0_9, h0_10])), (h1, .inl (ch1, 700, .inl fh1))] sz)) 0 0 (va_A [(h0, .inr (10, [.ref h1, .int tt, .int ta, h0_3, h0_4, h0_5, h0_6, h0_7, h0_8, h0_9, h0_10])), (h1, .inl (ch1, 700, .inl fh1))] sz) := by
  refine Met.ofW (cc := cX10_passLetters) (maxL := 1) (ret := none) (by decide) rfl ?_
  intro p e s m args below meth c s₁ B hml hv
  obtain ⟨rfl, hsz, hP, hK, hD0⟩ := hv
  have hx := B.exec
  have hb := B.bytes
  have hr := B.returns
  have hts := atoms_spec (ws := u_s_X10_passLetters3) B.pre
  have hown : s.vm.findClass RX10 = some m.cls := findClass_of_methodNamed B.named
  have hlocks := B.notSynchronized
  subst hsz
  have hD := hD0.self (sz := s.heap.size)
  generalize hAe : va_A [(h0, .inr (10, [.ref h1, .int tt, .int ta, h0_3, h0_4, h0_5, h0_6, h0_7, h0_8, h0_9, h0_10])), (h1, .inl (ch1, 700, .inl fh1))] s.heap.size = A at hD ⊢
  have hA : ∀ q : Nat, s.heap.size ≤ q → A q := fun q h => by rw [← hAe]; exact Or.inr h
  have hS : va_S A s.heap s.heap [] := va_S.rf
  have hP : va_P (dC, dI) vwCl [(h0, .inr (10, [.ref h1, .int tt, .int ta, h0_3, h0_4, h0_5, h0_6, h0_7, h0_8, h0_9, h0_10])), (h1, .inl (ch1, 700, .inl fh1))] s.heap := hP
  have w__fieldLink_RX10_19_ShellHeap_Tape_at_I_ := hts (.fieldLink RX10 19 "ShellHeap$Tape" "at" "I") (z_mc (z_ml z_m0))
  have hiX10 := show ∀ w ∈ u_ws RX10 TX10 11, w ∈ u_s_X10_passLetters3 from fun w h => z_mc (z_mr (z_ml h))
  have w__fieldLink_RX10_15_ShellHeap_Tape_text_I_ := hts (.fieldLink RX10 15 "ShellHeap$Tape" "text" "I") (z_mc (z_ml z_m1))
  have hl := lv_entry ([.ref h0]) (n := 1) (Nat.le_of_ble_eq_true rfl)
  rw [lg_entry_eq]
  generalize (lg_sl ([.ref h0]) ++ List.replicate (1 - (lg_sl ([.ref h0])).length) Slot.unset).toArray = ls at hl ⊢
  have hl : lv_has ls 1 [(0, .ref h0)] := hl
  refine z_nameQ (fun QQ hQQ => ?_)
  have loop_1 : ∀ (n_2 : Nat) (v_4 : Int32) (H : Heap) (locs : List Loc) (ls : Array Slot), (701 - (v_4).toInt).toNat < n_2 → (((0 : Int) ≤ (v_4).toInt ∧ (v_4).toInt ≤ (700 : Int))) → (f_pre f_le fh1 (tt).toInt (ta).toInt (v_4).toInt) → ((ta).toInt ≤ (v_4).toInt ∧ (v_4).toInt ≤ (tt).toInt) → va_P (dC, dI) vwCl [(h0, .inr (10, [.ref h1, .int tt, .int v_4, h0_3, h0_4, h0_5, h0_6, h0_7, h0_8, h0_9, h0_10])), (h1, .inl (ch1, 700, .inl fh1))] H → va_D A [(h0, .inr (10, [.ref h1, .int tt, .int v_4, h0_3, h0_4, h0_5, h0_6, h0_7, h0_8, h0_9, h0_10])), (h1, .inl (ch1, 700, .inl fh1))] → va_S A s.heap H locs → lv_has ls 1 [(0, .ref h0)] → W p l e ({ frames := 1, cells := 0, slots := 0, locals := 21 } : Room) s m ([.ref h0] : List Value).toArray below meth c H locs 0 0 QQ (F0 m 0 ls []) := by
    intro n_2
    induction n_2 with
    | zero => intro v_4 H locs ls hm; exact absurd hm (Nat.not_lt_zero _)
    | succ n_2 ih_3 =>
      intro v_4 H locs ls hm hF_5 hF_6 hF_7 hP hD hS hl
      refine lv_aload_n hx hb dX10_passLetters_0 rfl (lv_at hl 0 rfl) ?_
      refine va_get (D := (dC, dI)) (ci := 10) (v := .int v_4) (C := RX10) (T := TX10) (N := 11) hx hb hts hiX10 hown hK hP 0 rfl rfl 2 (by decide) w__fieldLink_RX10_19_ShellHeap_Tape_at_I_ (fun _ h9 => h9) rfl dX10_passLetters_1 ?_
      refine lv_aload_n hx hb dX10_passLetters_4 rfl (lv_at hl 0 rfl) ?_
      refine va_get (D := (dC, dI)) (ci := 10) (v := .int tt) (C := RX10) (T := TX10) (N := 11) hx hb hts hiX10 hown hK hP 0 rfl rfl 1 (by decide) w__fieldLink_RX10_15_ShellHeap_Tape_text_I_ (fun _ h9 => h9) rfl dX10_passLetters_5 ?_
      refine lv_icmp_ge (tgt := 38) hx hb dX10_passLetters_8 (by decide) (fun c_8 => ?_) (fun c_8 => ?_)
      · have k_9 : (tt).toInt ≤ (v_4).toInt := z_le c_8
        refine z_backQ hQQ ?_
        have hP9 := hP
        have hD9 := hD
        have hK9 := hK.sub (tys' := []) [] rfl
        refine W.widen (k := 0) (n := 0) (Nat.le_of_ble_eq_true rfl) (Nat.le_of_ble_eq_true rfl) ?_
        exact W.vret hx hb hr (fun t ht hW => ⟨⟨(), rfl, trivial, ⟨v_4, hF_5, (show ta.toInt ≤ v_4.toInt ∧ v_4.toInt ≤ tt.toInt by omega), (show f_run f_le fh1 tt.toInt ta.toInt v_4.toInt from f_run_of hF_6 (fun h9 => absurd h9 (by omega))), by rw [ht]; exact hP9, va_K.moved hW.alike hK9, hD9⟩⟩, hS.F ht⟩) hS.2.2 dX10_passLetters_38
      · have k_10 : (tt).toInt > (v_4).toInt := z_nle c_8
        refine lv_aload_n hx hb dX10_passLetters_11 rfl (lv_at hl 0 rfl) ?_
        refine lv_aload_n hx hb dX10_passLetters_12 rfl (lv_at hl 0 rfl) ?_
        refine va_get (D := (dC, dI)) (ci := 10) (v := .int v_4) (C := RX10) (T := TX10) (N := 11) hx hb hts hiX10 hown hK hP 0 rfl rfl 2 (by decide) w__fieldLink_RX10_19_ShellHeap_Tape_at_I_ (fun _ h9 => h9) rfl dX10_passLetters_13 ?_
        have hPc := hP
        have hDc := hD
        have hKc := hK
        have hFc := va_free (ws := []) (wc := []) (z_D0 _) hS hA [] rfl
        refine va_calli (va_runV (As := [.int v_4]) (rest := []) ⟨hx, hb, hml, hown, hts⟩ (s_X10_byteAt4 l dC dI H.size h0 v_4 h1 tt (.int v_4) h0_3 h0_4 h0_5 h0_6 h0_7 h0_8 h0_9 h0_10 ch1 fh1 hB_tt hI_h1) (cwV 1 hts gw_s_X10_passLetters3_s_X10_byteAt4_50 rfl rfl rfl (by decide +kernel) ⟨Nat.le_of_ble_eq_true rfl, Nat.le_of_ble_eq_true rfl⟩) ⟨z_blind, va_recv hKc hPc (ci := 10) (q0 := 0) rfl rfl, z_pre hPc hKc hDc⟩ rfl rfl hl.1 rfl (lv_room (Nat.le_of_ble_eq_true rfl)) dX10_passLetters_16 ⟨Nat.le_of_ble_eq_true rfl, Nat.le_of_ble_eq_true rfl⟩) hS (fun q _ h => hFc q h) hFc (fun r_12 u t H_11 locs ht hvm hw_13 hB hz1 hk1 hS => ?_)
        replace hP := z_pure hP hk1
        clear hPc hDc hKc
        obtain ⟨hPc, hDc⟩ := z_sub2 (ws' := []) hP hD [] (by decide) rfl
        have hKc := hK.sub (tys' := []) [] rfl
        have hFc := va_free (ws := []) (wc := []) (z_D0 _) hS hA [] rfl
        refine va_calli (va_runS (As := [.int r_12]) (rest := []) ⟨hx, hb, hml, hown, hts⟩ (s_X10_isLetter3 l dC dI H_11.size r_12) (va_cwS 1 hts gw_s_X10_passLetters3_s_X10_isLetter3_54 rfl rfl rfl (by decide +kernel) ⟨Nat.le_of_ble_eq_true rfl, Nat.le_of_ble_eq_true rfl⟩) ⟨z_blind, z_pre hPc hKc hDc⟩ rfl rfl hl.1 rfl (lv_room (Nat.le_of_ble_eq_true rfl)) dX10_passLetters_19 ⟨Nat.le_of_ble_eq_true rfl, Nat.le_of_ble_eq_true rfl⟩) hS (fun q _ h => hFc q h) hFc (fun r_15 u t H_14 locs ht hvm hw_16 hB hz1 hk1 hS => ?_)
        replace hP := z_pure hP hk1
        clear hPc hDc hKc
        rcases hw_16 with ⟨rfl, hw_16⟩ | ⟨rfl, hw_16⟩
        · have hw_16 : f_le r_12.toInt := hw_16
          refine lv_if_eq (tgt := 38) hx hb dX10_passLetters_22 (by decide) (fun c_17 => absurd c_17 (by decide)) (fun _ => ?_)
          refine lv_aload_n hx hb dX10_passLetters_25 rfl (lv_at hl 0 rfl) ?_
          refine lv_dup hx hb dX10_passLetters_26 rfl ?_
          refine va_get (D := (dC, dI)) (ci := 10) (v := .int v_4) (C := RX10) (T := TX10) (N := 11) hx hb hts hiX10 hown hK hP 0 rfl rfl 2 (by decide) w__fieldLink_RX10_19_ShellHeap_Tape_at_I_ (fun _ h9 => h9) rfl dX10_passLetters_27 ?_
          refine lv_iconst (v := 1) hx hb dX10_passLetters_30 (by decide) ?_
          refine lv_iadd hx hb dX10_passLetters_31 ?_
          refine lv_topi (fun z_18 ez_18 => ?_)
          have kz_18 : (z_18).toInt = (v_4).toInt + (1 : Int) := by rw [ez_18]; exact z_add (a := (v_4).toInt) (b := (1 : Int)) rfl rfl (z_al hF_5.1 (by decide)) (z_ah hF_5.2 (by decide))
          refine va_put (D := (dC, dI)) (ci := 10) (v := .int z_18) (ty := .int) (C := RX10) (T := TX10) (N := 11) hx hb hts hiX10 tyX10 tyX10_ok nmX10 hown hK hP hD hS 0 rfl rfl 2 (by decide) w__fieldLink_RX10_19_ShellHeap_Tape_at_I_ (fun _ h9 => h9) rfl (by decide +kernel) rfl rfl (Nat.le_of_ble_eq_true rfl) dX10_passLetters_32 (fun H_19 locs hP hD hS => ?_)
          obtain ⟨hP, hD⟩ := z_s_0_2 hP hD
          refine lv_goto (tgt := 0) hx hb dX10_passLetters_35 (by decide) ?_
          exact ih_3 z_18 _ _ _ (show (701 - (z_18).toInt).toNat < n_2 by omega) (show ((0 : Int) ≤ (z_18).toInt ∧ (z_18).toInt ≤ (700 : Int)) by omega) (show f_pre f_le fh1 (tt).toInt (ta).toInt (z_18).toInt from f_pre1 (i := v_4) hF_6 (by omega) (by omega) (f_atb (hw_13.2.1 (by omega) (by omega)) hw_16) (by omega)) (show (ta).toInt ≤ (z_18).toInt ∧ (z_18).toInt ≤ (tt).toInt by omega) hP hD hS (lv_sub hl [0] rfl)
        · have hw_16 : ¬ f_le r_12.toInt := hw_16
          refine lv_if_eq (tgt := 38) hx hb dX10_passLetters_22 (by decide) (fun _ => ?_) (fun c_20 => absurd (by decide) c_20)
          refine z_backQ hQQ ?_
          have hP9 := hP
          have hD9 := hD
          have hK9 := hK.sub (tys' := []) [] rfl
          refine W.widen (k := 0) (n := 0) (Nat.le_of_ble_eq_true rfl) (Nat.le_of_ble_eq_true rfl) ?_
          exact W.vret hx hb hr (fun t ht hW => ⟨⟨(), rfl, trivial, ⟨v_4, hF_5, (show ta.toInt ≤ v_4.toInt ∧ v_4.toInt ≤ tt.toInt by omega), (show f_run f_le fh1 tt.toInt ta.toInt v_4.toInt from f_run_of hF_6 (fun _ => f_atn (hw_13.2.1 (by omega) (by omega)) hw_16)), by rw [ht]; exact hP9, va_K.moved hW.alike hK9, hD9⟩⟩, hS.F ht⟩) hS.2.2 dX10_passLetters_38
  exact loop_1 _ ta _ _ _ (Nat.lt_succ_self _) (show ((0 : Int) ≤ (ta).toInt ∧ (ta).toInt ≤ (700 : Int)) by omega) (show f_pre f_le fh1 (tt).toInt (ta).toInt (ta).toInt from f_pre0 (by omega)) (show (ta).toInt ≤ (ta).toInt ∧ (ta).toInt ≤ (tt).toInt by omega) hP hD hS hl
def u_s_X10_passDigits3 : List Cond := .code yX10_passDigits cX10_passDigits 1 none :: ([.fieldLink RX10 19 "ShellHeap$Tape" "at" "I", .fieldLink RX10 15 "ShellHeap$Tape" "text" "I", .methodLink RX10 50 yX10_byteAt, .instanceMethod yX10_byteAt, .selects RX10 yX10_byteAt yX10_byteAt, .initialized RX10, .methodLink RX10 64 yX10_isDigit, .static yX10_isDigit] ++ (wsX100 ++ (u_s_X10_byteAt4 ++ (u_s_X10_isDigit3 ++ []))))
theorem gd_s_X10_passDigits3 : z_gd u_s_X10_passDigits3 := z_gdc (by decide +kernel) (z_gda gdX10 (z_gda gd_s_X10_byteAt4 (z_gda gd_s_X10_isDigit3 (z_gd0))))
set_option maxRecDepth 20000 in
theorem gw_s_X10_passDigits3_s_X10_byteAt4_50 : GoodIn u_s_X10_passDigits3 (wsV RX10 50 RX10 yX10_byteAt u_s_X10_byteAt4) := z_gV (z_gr _ [3, 4, 5, 6] rfl (by decide +kernel)) (fun w h => ⟨z_mc (z_mr (z_mr (z_ml h))), gd_s_X10_byteAt4 w h⟩)
set_option maxRecDepth 20000 in
theorem gw_s_X10_passDigits3_s_X10_isDigit3_64 : GoodIn u_s_X10_passDigits3 (va_wsS RX10 64 yX10_isDigit u_s_X10_isDigit3) := z_gS (z_gr _ [7, 8, 6] rfl (by decide +kernel)) (fun w h => ⟨z_mc (z_mr (z_mr (z_mr (z_ml h)))), gd_s_X10_isDigit3 w h⟩)
set_option maxHeartbeats 4000000 in
set_option maxRecDepth 100000 in
theorem s_X10_passDigits3 (l : Launch) (dC : Nat → ClassId) (dI : Nat → Nat → Nat) (sz : Nat) (h0 : Nat) (h1 : Nat) (tt : Int32) (ta : Int32) (h0_3 : Value) (h0_4 : Value) (h0_5 : Value) (h0_6 : Value) (h0_7 : Value) (h0_8 : Value) (h0_9 : Value) (h0_10 : Value) (ch1 : ClassId) (fh1 : Nat → Int32) (hB_tt : ((0 : Int) ≤ (tt).toInt ∧ (tt).toInt ≤ (700 : Int))) (hB_ta : ((0 : Int) ≤ (ta).toInt ∧ (ta).toInt ≤ (700 : Int))) (hI_h1 : ∀ j : Nat, ((0 : Int) ≤ (fh1 j).toInt ∧ (fh1 j).toInt ≤ (255 : Int))) (hle : ta.toInt ≤ tt.toInt) : Met l yX10_passDigits u_s_X10_passDigits3 ({ frames := 1, cells := 0, slots := 0, locals := 21 }) (va_Pc [.ref h0] (z_C (dC, dI) vwCl [(h0, .inr (10, [.ref h1, .int tt, .int ta, h0_3, h0_4, h0_5, h0_6, h0_7, h0_8, h0_9, h0_10])), (h1, .inl (ch1, 700, .inl fh1))] [(ch1, .int)] sz)) (va_Qv (fun (_ : Unit) => True) (fun (_ : Unit) (t : State) => ∃ (n_h0_at : Int32), ((0 : Int) ≤ (n_h0_at).toInt ∧ (n_h0_at).toInt ≤ (700 : Int)) ∧ (ta.toInt ≤ n_h0_at.toInt ∧ n_h0_at.toInt ≤ tt.toInt) ∧ (f_run f_di fh1 tt.toInt ta.toInt n_h0_at.toInt) ∧ va_P (dC, dI) vwCl [(h0, .inr (10, [.ref h1, .int tt, .int n_h0_at, h0_3, h0_4, h0_5, h0_6, h0_7, h0_8, h0_9, h0_10])), (h1, .inl (ch1, 700, .inl fh1))] t.heap ∧ va_K (dC, dI) vwCl [] t ∧ va_D (va_A [(h0, .inr (10, [.ref h1, .int tt, .int ta, h0_3, h0_4, h0_5, h0_6, h0_7, h0_8, h0_9, h0_10])), (h1, .inl (ch1, 700, .inl fh1))] sz) [(h0, .inr (10, [.ref h1, .int tt, .int n_h0_at, h0_3, h0_4, h0_5, h0_6, h0_7, h0_8, h0_9, h0_10])), (h1, .inl (ch1, 700, .inl fh1))]) (va_A [(h0, .inr (10, [.ref h1, .int tt, .int ta, h0_3, h0_4, h0_5, h0_6, h0_7, h0_8, h0_9, h0_10])), (h1, .inl (ch1, 700, .inl fh1))] sz)) 0 0 (va_A [(h0, .inr (10, [.ref h1, .int tt, .int ta, h0_3, h0_4, h0_5, h0_6, h0_7, h0_8, h0_9, h0_10])), (h1, .inl (ch1, 700, .inl fh1))] sz) := by
  refine Met.ofW (cc := cX10_passDigits) (maxL := 1) (ret := none) (by decide) rfl ?_
  intro p e s m args below meth c s₁ B hml hv
  obtain ⟨rfl, hsz, hP, hK, hD0⟩ := hv
  have hx := B.exec
  have hb := B.bytes
  have hr := B.returns
  have hts := atoms_spec (ws := u_s_X10_passDigits3) B.pre
  have hown : s.vm.findClass RX10 = some m.cls := findClass_of_methodNamed B.named
  have hlocks := B.notSynchronized
  subst hsz
  have hD := hD0.self (sz := s.heap.size)
  generalize hAe : va_A [(h0, .inr (10, [.ref h1, .int tt, .int ta, h0_3, h0_4, h0_5, h0_6, h0_7, h0_8, h0_9, h0_10])), (h1, .inl (ch1, 700, .inl fh1))] s.heap.size = A at hD ⊢
  have hA : ∀ q : Nat, s.heap.size ≤ q → A q := fun q h => by rw [← hAe]; exact Or.inr h
  have hS : va_S A s.heap s.heap [] := va_S.rf
  have hP : va_P (dC, dI) vwCl [(h0, .inr (10, [.ref h1, .int tt, .int ta, h0_3, h0_4, h0_5, h0_6, h0_7, h0_8, h0_9, h0_10])), (h1, .inl (ch1, 700, .inl fh1))] s.heap := hP
  have w__fieldLink_RX10_19_ShellHeap_Tape_at_I_ := hts (.fieldLink RX10 19 "ShellHeap$Tape" "at" "I") (z_mc (z_ml z_m0))
  have hiX10 := show ∀ w ∈ u_ws RX10 TX10 11, w ∈ u_s_X10_passDigits3 from fun w h => z_mc (z_mr (z_ml h))
  have w__fieldLink_RX10_15_ShellHeap_Tape_text_I_ := hts (.fieldLink RX10 15 "ShellHeap$Tape" "text" "I") (z_mc (z_ml z_m1))
  have hl := lv_entry ([.ref h0]) (n := 1) (Nat.le_of_ble_eq_true rfl)
  rw [lg_entry_eq]
  generalize (lg_sl ([.ref h0]) ++ List.replicate (1 - (lg_sl ([.ref h0])).length) Slot.unset).toArray = ls at hl ⊢
  have hl : lv_has ls 1 [(0, .ref h0)] := hl
  refine z_nameQ (fun QQ hQQ => ?_)
  have loop_1 : ∀ (n_2 : Nat) (v_4 : Int32) (H : Heap) (locs : List Loc) (ls : Array Slot), (701 - (v_4).toInt).toNat < n_2 → (((0 : Int) ≤ (v_4).toInt ∧ (v_4).toInt ≤ (700 : Int))) → (f_pre f_di fh1 (tt).toInt (ta).toInt (v_4).toInt) → ((ta).toInt ≤ (v_4).toInt ∧ (v_4).toInt ≤ (tt).toInt) → va_P (dC, dI) vwCl [(h0, .inr (10, [.ref h1, .int tt, .int v_4, h0_3, h0_4, h0_5, h0_6, h0_7, h0_8, h0_9, h0_10])), (h1, .inl (ch1, 700, .inl fh1))] H → va_D A [(h0, .inr (10, [.ref h1, .int tt, .int v_4, h0_3, h0_4, h0_5, h0_6, h0_7, h0_8, h0_9, h0_10])), (h1, .inl (ch1, 700, .inl fh1))] → va_S A s.heap H locs → lv_has ls 1 [(0, .ref h0)] → W p l e ({ frames := 1, cells := 0, slots := 0, locals := 21 } : Room) s m ([.ref h0] : List Value).toArray below meth c H locs 0 0 QQ (F0 m 0 ls []) := by
    intro n_2
    induction n_2 with
    | zero => intro v_4 H locs ls hm; exact absurd hm (Nat.not_lt_zero _)
    | succ n_2 ih_3 =>
      intro v_4 H locs ls hm hF_5 hF_6 hF_7 hP hD hS hl
      refine lv_aload_n hx hb dX10_passDigits_0 rfl (lv_at hl 0 rfl) ?_
      refine va_get (D := (dC, dI)) (ci := 10) (v := .int v_4) (C := RX10) (T := TX10) (N := 11) hx hb hts hiX10 hown hK hP 0 rfl rfl 2 (by decide) w__fieldLink_RX10_19_ShellHeap_Tape_at_I_ (fun _ h9 => h9) rfl dX10_passDigits_1 ?_
      refine lv_aload_n hx hb dX10_passDigits_4 rfl (lv_at hl 0 rfl) ?_
      refine va_get (D := (dC, dI)) (ci := 10) (v := .int tt) (C := RX10) (T := TX10) (N := 11) hx hb hts hiX10 hown hK hP 0 rfl rfl 1 (by decide) w__fieldLink_RX10_15_ShellHeap_Tape_text_I_ (fun _ h9 => h9) rfl dX10_passDigits_5 ?_
      refine lv_icmp_ge (tgt := 38) hx hb dX10_passDigits_8 (by decide) (fun c_8 => ?_) (fun c_8 => ?_)
      · have k_9 : (tt).toInt ≤ (v_4).toInt := z_le c_8
        refine z_backQ hQQ ?_
        have hP9 := hP
        have hD9 := hD
        have hK9 := hK.sub (tys' := []) [] rfl
        refine W.widen (k := 0) (n := 0) (Nat.le_of_ble_eq_true rfl) (Nat.le_of_ble_eq_true rfl) ?_
        exact W.vret hx hb hr (fun t ht hW => ⟨⟨(), rfl, trivial, ⟨v_4, hF_5, (show ta.toInt ≤ v_4.toInt ∧ v_4.toInt ≤ tt.toInt by omega), (show f_run f_di fh1 tt.toInt ta.toInt v_4.toInt from f_run_of hF_6 (fun h9 => absurd h9 (by omega))), by rw [ht]; exact hP9, va_K.moved hW.alike hK9, hD9⟩⟩, hS.F ht⟩) hS.2.2 dX10_passDigits_38
      · have k_10 : (tt).toInt > (v_4).toInt := z_nle c_8
        refine lv_aload_n hx hb dX10_passDigits_11 rfl (lv_at hl 0 rfl) ?_
        refine lv_aload_n hx hb dX10_passDigits_12 rfl (lv_at hl 0 rfl) ?_
        refine va_get (D := (dC, dI)) (ci := 10) (v := .int v_4) (C := RX10) (T := TX10) (N := 11) hx hb hts hiX10 hown hK hP 0 rfl rfl 2 (by decide) w__fieldLink_RX10_19_ShellHeap_Tape_at_I_ (fun _ h9 => h9) rfl dX10_passDigits_13 ?_
        have hPc := hP
        have hDc := hD
        have hKc := hK
        have hFc := va_free (ws := []) (wc := []) (z_D0 _) hS hA [] rfl
        refine va_calli (va_runV (As := [.int v_4]) (rest := []) ⟨hx, hb, hml, hown, hts⟩ (s_X10_byteAt4 l dC dI H.size h0 v_4 h1 tt (.int v_4) h0_3 h0_4 h0_5 h0_6 h0_7 h0_8 h0_9 h0_10 ch1 fh1 hB_tt hI_h1) (cwV 1 hts gw_s_X10_passDigits3_s_X10_byteAt4_50 rfl rfl rfl (by decide +kernel) ⟨Nat.le_of_ble_eq_true rfl, Nat.le_of_ble_eq_true rfl⟩) ⟨z_blind, va_recv hKc hPc (ci := 10) (q0 := 0) rfl rfl, z_pre hPc hKc hDc⟩ rfl rfl hl.1 rfl (lv_room (Nat.le_of_ble_eq_true rfl)) dX10_passDigits_16 ⟨Nat.le_of_ble_eq_true rfl, Nat.le_of_ble_eq_true rfl⟩) hS (fun q _ h => hFc q h) hFc (fun r_12 u t H_11 locs ht hvm hw_13 hB hz1 hk1 hS => ?_)
        replace hP := z_pure hP hk1
        clear hPc hDc hKc
        obtain ⟨hPc, hDc⟩ := z_sub2 (ws' := []) hP hD [] (by decide) rfl
        have hKc := hK.sub (tys' := []) [] rfl
        have hFc := va_free (ws := []) (wc := []) (z_D0 _) hS hA [] rfl
        refine va_calli (va_runS (As := [.int r_12]) (rest := []) ⟨hx, hb, hml, hown, hts⟩ (s_X10_isDigit3 l dC dI H_11.size r_12) (va_cwS 1 hts gw_s_X10_passDigits3_s_X10_isDigit3_64 rfl rfl rfl (by decide +kernel) ⟨Nat.le_of_ble_eq_true rfl, Nat.le_of_ble_eq_true rfl⟩) ⟨z_blind, z_pre hPc hKc hDc⟩ rfl rfl hl.1 rfl (lv_room (Nat.le_of_ble_eq_true rfl)) dX10_passDigits_19 ⟨Nat.le_of_ble_eq_true rfl, Nat.le_of_ble_eq_true rfl⟩) hS (fun q _ h => hFc q h) hFc (fun r_15 u t H_14 locs ht hvm hw_16 hB hz1 hk1 hS => ?_)
        replace hP := z_pure hP hk1
        clear hPc hDc hKc
        rcases hw_16 with ⟨rfl, hw_16⟩ | ⟨rfl, hw_16⟩
        · have hw_16 : f_di r_12.toInt := hw_16
          refine lv_if_eq (tgt := 38) hx hb dX10_passDigits_22 (by decide) (fun c_17 => absurd c_17 (by decide)) (fun _ => ?_)
          refine lv_aload_n hx hb dX10_passDigits_25 rfl (lv_at hl 0 rfl) ?_
          refine lv_dup hx hb dX10_passDigits_26 rfl ?_
          refine va_get (D := (dC, dI)) (ci := 10) (v := .int v_4) (C := RX10) (T := TX10) (N := 11) hx hb hts hiX10 hown hK hP 0 rfl rfl 2 (by decide) w__fieldLink_RX10_19_ShellHeap_Tape_at_I_ (fun _ h9 => h9) rfl dX10_passDigits_27 ?_
          refine lv_iconst (v := 1) hx hb dX10_passDigits_30 (by decide) ?_
          refine lv_iadd hx hb dX10_passDigits_31 ?_
          refine lv_topi (fun z_18 ez_18 => ?_)
          have kz_18 : (z_18).toInt = (v_4).toInt + (1 : Int) := by rw [ez_18]; exact z_add (a := (v_4).toInt) (b := (1 : Int)) rfl rfl (z_al hF_5.1 (by decide)) (z_ah hF_5.2 (by decide))
          refine va_put (D := (dC, dI)) (ci := 10) (v := .int z_18) (ty := .int) (C := RX10) (T := TX10) (N := 11) hx hb hts hiX10 tyX10 tyX10_ok nmX10 hown hK hP hD hS 0 rfl rfl 2 (by decide) w__fieldLink_RX10_19_ShellHeap_Tape_at_I_ (fun _ h9 => h9) rfl (by decide +kernel) rfl rfl (Nat.le_of_ble_eq_true rfl) dX10_passDigits_32 (fun H_19 locs hP hD hS => ?_)
          obtain ⟨hP, hD⟩ := z_s_0_2 hP hD
          refine lv_goto (tgt := 0) hx hb dX10_passDigits_35 (by decide) ?_
          exact ih_3 z_18 _ _ _ (show (701 - (z_18).toInt).toNat < n_2 by omega) (show ((0 : Int) ≤ (z_18).toInt ∧ (z_18).toInt ≤ (700 : Int)) by omega) (show f_pre f_di fh1 (tt).toInt (ta).toInt (z_18).toInt from f_pre1 (i := v_4) hF_6 (by omega) (by omega) (f_atb (hw_13.2.1 (by omega) (by omega)) hw_16) (by omega)) (show (ta).toInt ≤ (z_18).toInt ∧ (z_18).toInt ≤ (tt).toInt by omega) hP hD hS (lv_sub hl [0] rfl)
        · have hw_16 : ¬ f_di r_12.toInt := hw_16
          refine lv_if_eq (tgt := 38) hx hb dX10_passDigits_22 (by decide) (fun _ => ?_) (fun c_20 => absurd (by decide) c_20)
          refine z_backQ hQQ ?_
          have hP9 := hP
          have hD9 := hD
          have hK9 := hK.sub (tys' := []) [] rfl
          refine W.widen (k := 0) (n := 0) (Nat.le_of_ble_eq_true rfl) (Nat.le_of_ble_eq_true rfl) ?_
          exact W.vret hx hb hr (fun t ht hW => ⟨⟨(), rfl, trivial, ⟨v_4, hF_5, (show ta.toInt ≤ v_4.toInt ∧ v_4.toInt ≤ tt.toInt by omega), (show f_run f_di fh1 tt.toInt ta.toInt v_4.toInt from f_run_of hF_6 (fun _ => f_atn (hw_13.2.1 (by omega) (by omega)) hw_16)), by rw [ht]; exact hP9, va_K.moved hW.alike hK9, hD9⟩⟩, hS.F ht⟩) hS.2.2 dX10_passDigits_38
  exact loop_1 _ ta _ _ _ (Nat.lt_succ_self _) (show ((0 : Int) ≤ (ta).toInt ∧ (ta).toInt ≤ (700 : Int)) by omega) (show f_pre f_di fh1 (tt).toInt (ta).toInt (ta).toInt from f_pre0 (by omega)) (show (ta).toInt ≤ (ta).toInt ∧ (ta).toInt ≤ (tt).toInt by omega) hP hD hS hl
def u_s_X10_passSign3 : List Cond := .code yX10_passSign cX10_passSign 1 none :: ([.fieldLink RX10 19 "ShellHeap$Tape" "at" "I", .methodLink RX10 50 yX10_byteAt, .instanceMethod yX10_byteAt, .selects RX10 yX10_byteAt yX10_byteAt, .initialized RX10, .fieldLink RX10 38 "ShellHeap$Tape" "sign" "I"] ++ (wsX100 ++ (u_s_X10_byteAt4 ++ [])))
theorem gd_s_X10_passSign3 : z_gd u_s_X10_passSign3 := z_gdc (by decide +kernel) (z_gda gdX10 (z_gda gd_s_X10_byteAt4 (z_gd0)))
set_option maxRecDepth 20000 in
theorem gw_s_X10_passSign3_s_X10_byteAt4_50 : GoodIn u_s_X10_passSign3 (wsV RX10 50 RX10 yX10_byteAt u_s_X10_byteAt4) := z_gV (z_gr _ [2, 3, 4, 5] rfl (by decide +kernel)) (fun w h => ⟨z_mc (z_mr (z_mr (z_ml h))), gd_s_X10_byteAt4 w h⟩)
set_option maxHeartbeats 4000000 in
set_option maxRecDepth 100000 in
theorem s_X10_passSign3 (l : Launch) (dC : Nat → ClassId) (dI : Nat → Nat → Nat) (sz : Nat) (h0 : Nat) (h1 : Nat) (tt : Int32) (ta : Int32) (h0_3 : Value) (h0_4 : Value) (h0_5 : Value) (h0_6 : Value) (h0_7 : Value) (tg : Int32) (h0_9 : Value) (h0_10 : Value) (ch1 : ClassId) (fh1 : Nat → Int32) (hB_tt : ((0 : Int) ≤ (tt).toInt ∧ (tt).toInt ≤ (700 : Int))) (hB_ta : ((0 : Int) ≤ (ta).toInt ∧ (ta).toInt ≤ (700 : Int))) (hI_h1 : ∀ j : Nat, ((0 : Int) ≤ (fh1 j).toInt ∧ (fh1 j).toInt ≤ (255 : Int))) (hat : ta.toInt < tt.toInt) : Met l yX10_passSign u_s_X10_passSign3 ({ frames := 1, cells := 0, slots := 0, locals := 21 }) (va_Pc [.ref h0] (z_C (dC, dI) vwCl [(h0, .inr (10, [.ref h1, .int tt, .int ta, h0_3, h0_4, h0_5, h0_6, h0_7, .int tg, h0_9, h0_10])), (h1, .inl (ch1, 700, .inl fh1))] [(ch1, .int)] sz)) (va_Qv (fun (_ : Unit) => True) (fun (_ : Unit) (t : State) => ∃ (n_h0_at : Int32), ∃ (n_h0_sign : Int32), ((0 : Int) ≤ (n_h0_at).toInt ∧ (n_h0_at).toInt ≤ (700 : Int)) ∧ (ta.toInt < n_h0_at.toInt ∧ n_h0_at.toInt ≤ tt.toInt) ∧ (f_sC (fh1 ta.toNatClampNeg).toInt n_h0_sign.toInt ta.toInt n_h0_at.toInt) ∧ va_P (dC, dI) vwCl [(h0, .inr (10, [.ref h1, .int tt, .int n_h0_at, h0_3, h0_4, h0_5, h0_6, h0_7, .int n_h0_sign, h0_9, h0_10])), (h1, .inl (ch1, 700, .inl fh1))] t.heap ∧ va_K (dC, dI) vwCl [] t ∧ va_D (va_A [(h0, .inr (10, [.ref h1, .int tt, .int ta, h0_3, h0_4, h0_5, h0_6, h0_7, .int tg, h0_9, h0_10])), (h1, .inl (ch1, 700, .inl fh1))] sz) [(h0, .inr (10, [.ref h1, .int tt, .int n_h0_at, h0_3, h0_4, h0_5, h0_6, h0_7, .int n_h0_sign, h0_9, h0_10])), (h1, .inl (ch1, 700, .inl fh1))]) (va_A [(h0, .inr (10, [.ref h1, .int tt, .int ta, h0_3, h0_4, h0_5, h0_6, h0_7, .int tg, h0_9, h0_10])), (h1, .inl (ch1, 700, .inl fh1))] sz)) 0 0 (va_A [(h0, .inr (10, [.ref h1, .int tt, .int ta, h0_3, h0_4, h0_5, h0_6, h0_7, .int tg, h0_9, h0_10])), (h1, .inl (ch1, 700, .inl fh1))] sz) := by
  refine Met.ofW (cc := cX10_passSign) (maxL := 1) (ret := none) (by decide) rfl ?_
  intro p e s m args below meth c s₁ B hml hv
  obtain ⟨rfl, hsz, hP, hK, hD0⟩ := hv
  have hx := B.exec
  have hb := B.bytes
  have hr := B.returns
  have hts := atoms_spec (ws := u_s_X10_passSign3) B.pre
  have hown : s.vm.findClass RX10 = some m.cls := findClass_of_methodNamed B.named
  have hlocks := B.notSynchronized
  subst hsz
  have hD := hD0.self (sz := s.heap.size)
  generalize hAe : va_A [(h0, .inr (10, [.ref h1, .int tt, .int ta, h0_3, h0_4, h0_5, h0_6, h0_7, .int tg, h0_9, h0_10])), (h1, .inl (ch1, 700, .inl fh1))] s.heap.size = A at hD ⊢
  have hA : ∀ q : Nat, s.heap.size ≤ q → A q := fun q h => by rw [← hAe]; exact Or.inr h
  have hS : va_S A s.heap s.heap [] := va_S.rf
  have hP : va_P (dC, dI) vwCl [(h0, .inr (10, [.ref h1, .int tt, .int ta, h0_3, h0_4, h0_5, h0_6, h0_7, .int tg, h0_9, h0_10])), (h1, .inl (ch1, 700, .inl fh1))] s.heap := hP
  have w__fieldLink_RX10_19_ShellHeap_Tape_at_I_ := hts (.fieldLink RX10 19 "ShellHeap$Tape" "at" "I") (z_mc (z_ml z_m0))
  have hiX10 := show ∀ w ∈ u_ws RX10 TX10 11, w ∈ u_s_X10_passSign3 from fun w h => z_mc (z_mr (z_ml h))
  have w__fieldLink_RX10_38_ShellHeap_Tape_sign_I_ := hts (.fieldLink RX10 38 "ShellHeap$Tape" "sign" "I") (z_mc (z_ml z_m5))
  have hl := lv_entry ([.ref h0]) (n := 1) (Nat.le_of_ble_eq_true rfl)
  rw [lg_entry_eq]
  generalize (lg_sl ([.ref h0]) ++ List.replicate (1 - (lg_sl ([.ref h0])).length) Slot.unset).toArray = ls at hl ⊢
  have hl : lv_has ls 1 [(0, .ref h0)] := hl
  refine lv_aload_n hx hb dX10_passSign_0 rfl (lv_at hl 0 rfl) ?_
  refine lv_aload_n hx hb dX10_passSign_1 rfl (lv_at hl 0 rfl) ?_
  refine lv_aload_n hx hb dX10_passSign_2 rfl (lv_at hl 0 rfl) ?_
  refine va_get (D := (dC, dI)) (ci := 10) (v := .int ta) (C := RX10) (T := TX10) (N := 11) hx hb hts hiX10 hown hK hP 0 rfl rfl 2 (by decide) w__fieldLink_RX10_19_ShellHeap_Tape_at_I_ (fun _ h9 => h9) rfl dX10_passSign_3 ?_
  have hPc := hP
  have hDc := hD
  have hKc := hK
  have hFc := va_free (ws := []) (wc := []) (z_D0 _) hS hA [] rfl
  refine va_calli (va_runV (As := [.int ta]) (rest := [.ref h0]) ⟨hx, hb, hml, hown, hts⟩ (s_X10_byteAt4 l dC dI s.heap.size h0 ta h1 tt (.int ta) h0_3 h0_4 h0_5 h0_6 h0_7 (.int tg) h0_9 h0_10 ch1 fh1 hB_tt hI_h1) (cwV 1 hts gw_s_X10_passSign3_s_X10_byteAt4_50 rfl rfl rfl (by decide +kernel) ⟨Nat.le_of_ble_eq_true rfl, Nat.le_of_ble_eq_true rfl⟩) ⟨z_blind, va_recv hKc hPc (ci := 10) (q0 := 0) rfl rfl, z_pre hPc hKc hDc⟩ rfl rfl hl.1 rfl (lv_room (Nat.le_of_ble_eq_true rfl)) dX10_passSign_6 ⟨Nat.le_of_ble_eq_true rfl, Nat.le_of_ble_eq_true rfl⟩) hS (fun q _ h => hFc q h) hFc (fun r_2 u t H_1 locs ht hvm hw_3 hB hz1 hk1 hS => ?_)
  replace hP := z_pure hP hk1
  clear hPc hDc hKc
  refine va_put (D := (dC, dI)) (ci := 10) (v := .int r_2) (ty := .int) (C := RX10) (T := TX10) (N := 11) hx hb hts hiX10 tyX10 tyX10_ok nmX10 hown hK hP hD hS 0 rfl rfl 8 (by decide) w__fieldLink_RX10_38_ShellHeap_Tape_sign_I_ (fun _ h9 => h9) rfl (by decide +kernel) rfl rfl (Nat.le_of_ble_eq_true rfl) dX10_passSign_9 (fun H_4 locs hP hD hS => ?_)
  obtain ⟨hP, hD⟩ := z_s_0_8 hP hD
  refine lv_aload_n hx hb dX10_passSign_12 rfl (lv_at hl 0 rfl) ?_
  refine lv_dup hx hb dX10_passSign_13 rfl ?_
  refine va_get (D := (dC, dI)) (ci := 10) (v := .int ta) (C := RX10) (T := TX10) (N := 11) hx hb hts hiX10 hown hK hP 0 rfl rfl 2 (by decide) w__fieldLink_RX10_19_ShellHeap_Tape_at_I_ (fun _ h9 => h9) rfl dX10_passSign_14 ?_
  refine lv_iconst (v := 1) hx hb dX10_passSign_17 (by decide) ?_
  refine lv_iadd hx hb dX10_passSign_18 ?_
  refine lv_topi (fun z_5 ez_5 => ?_)
  have kz_5 : (z_5).toInt = (ta).toInt + (1 : Int) := by rw [ez_5]; exact z_add (a := (ta).toInt) (b := (1 : Int)) rfl rfl (z_al hB_ta.1 (by decide)) (z_ah hB_ta.2 (by decide))
  refine va_put (D := (dC, dI)) (ci := 10) (v := .int z_5) (ty := .int) (C := RX10) (T := TX10) (N := 11) hx hb hts hiX10 tyX10 tyX10_ok nmX10 hown hK hP hD hS 0 rfl rfl 2 (by decide) w__fieldLink_RX10_19_ShellHeap_Tape_at_I_ (fun _ h9 => h9) rfl (by decide +kernel) rfl rfl (Nat.le_of_ble_eq_true rfl) dX10_passSign_19 (fun H_6 locs hP hD hS => ?_)
  obtain ⟨hP, hD⟩ := z_s_0_2 hP hD
  refine lv_aload_n hx hb dX10_passSign_22 rfl (lv_at hl 0 rfl) ?_
  refine va_get (D := (dC, dI)) (ci := 10) (v := .int r_2) (C := RX10) (T := TX10) (N := 11) hx hb hts hiX10 hown hK hP 0 rfl rfl 8 (by decide) w__fieldLink_RX10_38_ShellHeap_Tape_sign_I_ (fun _ h9 => h9) rfl dX10_passSign_23 ?_
  refine lv_bipush (v := 60) hx hb dX10_passSign_26 (by decide) ?_
  refine lv_icmp_eq (tgt := 40) hx hb dX10_passSign_28 (by decide) (fun c_7 => ?_) (fun c_7 => ?_)
  · have k_8 : (r_2).toInt = (60 : Int) := z_eq c_7
    obtain rfl : r_2 = 60 := z_eq' (show (r_2).toInt = (60 : Int) by omega)
    refine lv_aload_n hx hb dX10_passSign_40 rfl (lv_at hl 0 rfl) ?_
    refine lv_aload_n hx hb dX10_passSign_41 rfl (lv_at hl 0 rfl) ?_
    refine va_get (D := (dC, dI)) (ci := 10) (v := .int z_5) (C := RX10) (T := TX10) (N := 11) hx hb hts hiX10 hown hK hP 0 rfl rfl 2 (by decide) w__fieldLink_RX10_19_ShellHeap_Tape_at_I_ (fun _ h9 => h9) rfl dX10_passSign_42 ?_
    have hPc := hP
    have hDc := hD
    have hKc := hK
    have hFc := va_free (ws := []) (wc := []) (z_D0 _) hS hA [] rfl
    refine va_calli (va_runV (As := [.int z_5]) (rest := []) ⟨hx, hb, hml, hown, hts⟩ (s_X10_byteAt4 l dC dI H_6.size h0 z_5 h1 tt (.int z_5) h0_3 h0_4 h0_5 h0_6 h0_7 (.int 60) h0_9 h0_10 ch1 fh1 hB_tt hI_h1) (cwV 1 hts gw_s_X10_passSign3_s_X10_byteAt4_50 rfl rfl rfl (by decide +kernel) ⟨Nat.le_of_ble_eq_true rfl, Nat.le_of_ble_eq_true rfl⟩) ⟨z_blind, va_recv hKc hPc (ci := 10) (q0 := 0) rfl rfl, z_pre hPc hKc hDc⟩ rfl rfl hl.1 rfl (lv_room (Nat.le_of_ble_eq_true rfl)) dX10_passSign_45 ⟨Nat.le_of_ble_eq_true rfl, Nat.le_of_ble_eq_true rfl⟩) hS (fun q _ h => hFc q h) hFc (fun r_11 u t H_10 locs ht hvm hw_12 hB hz1 hk1 hS => ?_)
    replace hP := z_pure hP hk1
    clear hPc hDc hKc
    refine lv_bipush (v := 61) hx hb dX10_passSign_48 (by decide) ?_
    refine lv_icmp_eq (tgt := 66) hx hb dX10_passSign_50 (by decide) (fun c_13 => ?_) (fun c_13 => ?_)
    · have k_14 : (r_11).toInt = (61 : Int) := z_eq c_13
      obtain rfl : r_11 = 61 := z_eq' (show (r_11).toInt = (61 : Int) by omega)
      refine lv_aload_n hx hb dX10_passSign_66 rfl (lv_at hl 0 rfl) ?_
      refine lv_dup hx hb dX10_passSign_67 rfl ?_
      refine va_get (D := (dC, dI)) (ci := 10) (v := .int 60) (C := RX10) (T := TX10) (N := 11) hx hb hts hiX10 hown hK hP 0 rfl rfl 8 (by decide) w__fieldLink_RX10_38_ShellHeap_Tape_sign_I_ (fun _ h9 => h9) rfl dX10_passSign_68 ?_
      refine lv_sipush (v := 256) hx hb dX10_passSign_71 (by decide) ?_
      refine lv_aload_n hx hb dX10_passSign_74 rfl (lv_at hl 0 rfl) ?_
      refine lv_aload_n hx hb dX10_passSign_75 rfl (lv_at hl 0 rfl) ?_
      refine va_get (D := (dC, dI)) (ci := 10) (v := .int z_5) (C := RX10) (T := TX10) (N := 11) hx hb hts hiX10 hown hK hP 0 rfl rfl 2 (by decide) w__fieldLink_RX10_19_ShellHeap_Tape_at_I_ (fun _ h9 => h9) rfl dX10_passSign_76 ?_
      have hPc := hP
      have hDc := hD
      have hKc := hK
      have hFc := va_free (ws := []) (wc := []) (z_D0 _) hS hA [] rfl
      refine va_calli (va_runV (As := [.int z_5]) (rest := [.int 256, .int 60, .ref h0]) ⟨hx, hb, hml, hown, hts⟩ (s_X10_byteAt4 l dC dI H_10.size h0 z_5 h1 tt (.int z_5) h0_3 h0_4 h0_5 h0_6 h0_7 (.int 60) h0_9 h0_10 ch1 fh1 hB_tt hI_h1) (cwV 1 hts gw_s_X10_passSign3_s_X10_byteAt4_50 rfl rfl rfl (by decide +kernel) ⟨Nat.le_of_ble_eq_true rfl, Nat.le_of_ble_eq_true rfl⟩) ⟨z_blind, va_recv hKc hPc (ci := 10) (q0 := 0) rfl rfl, z_pre hPc hKc hDc⟩ rfl rfl hl.1 rfl (lv_room (Nat.le_of_ble_eq_true rfl)) dX10_passSign_79 ⟨Nat.le_of_ble_eq_true rfl, Nat.le_of_ble_eq_true rfl⟩) hS (fun q _ h => hFc q h) hFc (fun r_17 u t H_16 locs ht hvm hw_18 hB hz1 hk1 hS => ?_)
      replace hP := z_pure hP hk1
      clear hPc hDc hKc
      refine lv_imul hx hb dX10_passSign_82 ?_
      refine lv_topi (fun z_19 ez_19 => ?_)
      have kz_19 : (z_19).toInt = (256 : Int) * (r_17).toInt := by rw [ez_19]; exact z_mul (a := (256 : Int)) (b := (r_17).toInt) rfl rfl (by omega) (by omega)
      refine lv_iadd hx hb dX10_passSign_83 ?_
      refine lv_topi (fun z_20 ez_20 => ?_)
      have kz_20 : (z_20).toInt = (60 : Int) + (z_19).toInt := by rw [ez_20]; exact z_add (a := (60 : Int)) (b := (z_19).toInt) rfl rfl (by omega) (by omega)
      refine va_put (D := (dC, dI)) (ci := 10) (v := .int z_20) (ty := .int) (C := RX10) (T := TX10) (N := 11) hx hb hts hiX10 tyX10 tyX10_ok nmX10 hown hK hP hD hS 0 rfl rfl 8 (by decide) w__fieldLink_RX10_38_ShellHeap_Tape_sign_I_ (fun _ h9 => h9) rfl (by decide +kernel) rfl rfl (Nat.le_of_ble_eq_true rfl) dX10_passSign_84 (fun H_21 locs hP hD hS => ?_)
      obtain ⟨hP, hD⟩ := z_s_0_8 hP hD
      refine lv_aload_n hx hb dX10_passSign_87 rfl (lv_at hl 0 rfl) ?_
      refine lv_dup hx hb dX10_passSign_88 rfl ?_
      refine va_get (D := (dC, dI)) (ci := 10) (v := .int z_5) (C := RX10) (T := TX10) (N := 11) hx hb hts hiX10 hown hK hP 0 rfl rfl 2 (by decide) w__fieldLink_RX10_19_ShellHeap_Tape_at_I_ (fun _ h9 => h9) rfl dX10_passSign_89 ?_
      refine lv_iconst (v := 1) hx hb dX10_passSign_92 (by decide) ?_
      refine lv_iadd hx hb dX10_passSign_93 ?_
      refine lv_topi (fun z_22 ez_22 => ?_)
      have kz_22 : (z_22).toInt = (z_5).toInt + (1 : Int) := by rw [ez_22]; exact z_add (a := (z_5).toInt) (b := (1 : Int)) rfl rfl (by omega) (by omega)
      refine va_put (D := (dC, dI)) (ci := 10) (v := .int z_22) (ty := .int) (C := RX10) (T := TX10) (N := 11) hx hb hts hiX10 tyX10 tyX10_ok nmX10 hown hK hP hD hS 0 rfl rfl 2 (by decide) w__fieldLink_RX10_19_ShellHeap_Tape_at_I_ (fun _ h9 => h9) rfl (by decide +kernel) rfl rfl (Nat.le_of_ble_eq_true rfl) dX10_passSign_94 (fun H_23 locs hP hD hS => ?_)
      obtain ⟨hP, hD⟩ := z_s_0_2 hP hD
      have hP9 := hP
      have hD9 := hD
      have hK9 := hK.sub (tys' := []) [] rfl
      refine W.widen (k := 0) (n := 0) (Nat.le_of_ble_eq_true rfl) (Nat.le_of_ble_eq_true rfl) ?_
      exact W.vret hx hb hr (fun t ht hW => ⟨⟨(), rfl, trivial, ⟨z_22, z_20, (by first | omega | decide), (show ta.toInt < z_22.toInt ∧ z_22.toInt ≤ tt.toInt by omega), (show f_sC (fh1 ta.toNatClampNeg).toInt z_20.toInt ta.toInt z_22.toInt from f_sC_e (hw_3.2.1 (by omega) (by omega)) (by unfold f_sC; omega)), by rw [ht]; exact hP9, va_K.moved hW.alike hK9, hD9⟩⟩, hS.F ht⟩) hS.2.2 dX10_passSign_97
    · have k_24 : (r_11).toInt ≠ (61 : Int) := z_ne c_13
      refine lv_aload_n hx hb dX10_passSign_53 rfl (lv_at hl 0 rfl) ?_
      refine lv_aload_n hx hb dX10_passSign_54 rfl (lv_at hl 0 rfl) ?_
      refine va_get (D := (dC, dI)) (ci := 10) (v := .int z_5) (C := RX10) (T := TX10) (N := 11) hx hb hts hiX10 hown hK hP 0 rfl rfl 2 (by decide) w__fieldLink_RX10_19_ShellHeap_Tape_at_I_ (fun _ h9 => h9) rfl dX10_passSign_55 ?_
      have hPc := hP
      have hDc := hD
      have hKc := hK
      have hFc := va_free (ws := []) (wc := []) (z_D0 _) hS hA [] rfl
      refine va_calli (va_runV (As := [.int z_5]) (rest := []) ⟨hx, hb, hml, hown, hts⟩ (s_X10_byteAt4 l dC dI H_10.size h0 z_5 h1 tt (.int z_5) h0_3 h0_4 h0_5 h0_6 h0_7 (.int 60) h0_9 h0_10 ch1 fh1 hB_tt hI_h1) (cwV 1 hts gw_s_X10_passSign3_s_X10_byteAt4_50 rfl rfl rfl (by decide +kernel) ⟨Nat.le_of_ble_eq_true rfl, Nat.le_of_ble_eq_true rfl⟩) ⟨z_blind, va_recv hKc hPc (ci := 10) (q0 := 0) rfl rfl, z_pre hPc hKc hDc⟩ rfl rfl hl.1 rfl (lv_room (Nat.le_of_ble_eq_true rfl)) dX10_passSign_58 ⟨Nat.le_of_ble_eq_true rfl, Nat.le_of_ble_eq_true rfl⟩) hS (fun q _ h => hFc q h) hFc (fun r_26 u t H_25 locs ht hvm hw_27 hB hz1 hk1 hS => ?_)
      replace hP := z_pure hP hk1
      clear hPc hDc hKc
      refine lv_bipush (v := 62) hx hb dX10_passSign_61 (by decide) ?_
      refine lv_icmp_ne (tgt := 97) hx hb dX10_passSign_63 (by decide) (fun c_28 => ?_) (fun c_28 => ?_)
      · have k_29 : (r_26).toInt ≠ (62 : Int) := z_ne c_28
        have hP9 := hP
        have hD9 := hD
        have hK9 := hK.sub (tys' := []) [] rfl
        refine W.widen (k := 0) (n := 0) (Nat.le_of_ble_eq_true rfl) (Nat.le_of_ble_eq_true rfl) ?_
        exact W.vret hx hb hr (fun t ht hW => ⟨⟨(), rfl, trivial, ⟨z_5, 60, (by first | omega | decide), (show ta.toInt < z_5.toInt ∧ z_5.toInt ≤ tt.toInt by omega), (show f_sC (fh1 ta.toNatClampNeg).toInt (60 : Int) ta.toInt z_5.toInt from f_sC_e (hw_3.2.1 (by omega) (by omega)) (by unfold f_sC; omega)), by rw [ht]; exact hP9, va_K.moved hW.alike hK9, hD9⟩⟩, hS.F ht⟩) hS.2.2 dX10_passSign_97
      · have k_30 : (r_26).toInt = (62 : Int) := z_eq c_28
        obtain rfl : r_26 = 62 := z_eq' (show (r_26).toInt = (62 : Int) by omega)
        refine lv_aload_n hx hb dX10_passSign_66 rfl (lv_at hl 0 rfl) ?_
        refine lv_dup hx hb dX10_passSign_67 rfl ?_
        refine va_get (D := (dC, dI)) (ci := 10) (v := .int 60) (C := RX10) (T := TX10) (N := 11) hx hb hts hiX10 hown hK hP 0 rfl rfl 8 (by decide) w__fieldLink_RX10_38_ShellHeap_Tape_sign_I_ (fun _ h9 => h9) rfl dX10_passSign_68 ?_
        refine lv_sipush (v := 256) hx hb dX10_passSign_71 (by decide) ?_
        refine lv_aload_n hx hb dX10_passSign_74 rfl (lv_at hl 0 rfl) ?_
        refine lv_aload_n hx hb dX10_passSign_75 rfl (lv_at hl 0 rfl) ?_
        refine va_get (D := (dC, dI)) (ci := 10) (v := .int z_5) (C := RX10) (T := TX10) (N := 11) hx hb hts hiX10 hown hK hP 0 rfl rfl 2 (by decide) w__fieldLink_RX10_19_ShellHeap_Tape_at_I_ (fun _ h9 => h9) rfl dX10_passSign_76 ?_
        have hPc := hP
        have hDc := hD
        have hKc := hK
        have hFc := va_free (ws := []) (wc := []) (z_D0 _) hS hA [] rfl
        refine va_calli (va_runV (As := [.int z_5]) (rest := [.int 256, .int 60, .ref h0]) ⟨hx, hb, hml, hown, hts⟩ (s_X10_byteAt4 l dC dI H_25.size h0 z_5 h1 tt (.int z_5) h0_3 h0_4 h0_5 h0_6 h0_7 (.int 60) h0_9 h0_10 ch1 fh1 hB_tt hI_h1) (cwV 1 hts gw_s_X10_passSign3_s_X10_byteAt4_50 rfl rfl rfl (by decide +kernel) ⟨Nat.le_of_ble_eq_true rfl, Nat.le_of_ble_eq_true rfl⟩) ⟨z_blind, va_recv hKc hPc (ci := 10) (q0 := 0) rfl rfl, z_pre hPc hKc hDc⟩ rfl rfl hl.1 rfl (lv_room (Nat.le_of_ble_eq_true rfl)) dX10_passSign_79 ⟨Nat.le_of_ble_eq_true rfl, Nat.le_of_ble_eq_true rfl⟩) hS (fun q _ h => hFc q h) hFc (fun r_33 u t H_32 locs ht hvm hw_34 hB hz1 hk1 hS => ?_)
        replace hP := z_pure hP hk1
        clear hPc hDc hKc
        refine lv_imul hx hb dX10_passSign_82 ?_
        refine lv_topi (fun z_35 ez_35 => ?_)
        have kz_35 : (z_35).toInt = (256 : Int) * (r_33).toInt := by rw [ez_35]; exact z_mul (a := (256 : Int)) (b := (r_33).toInt) rfl rfl (by omega) (by omega)
        refine lv_iadd hx hb dX10_passSign_83 ?_
        refine lv_topi (fun z_36 ez_36 => ?_)
        have kz_36 : (z_36).toInt = (60 : Int) + (z_35).toInt := by rw [ez_36]; exact z_add (a := (60 : Int)) (b := (z_35).toInt) rfl rfl (by omega) (by omega)
        refine va_put (D := (dC, dI)) (ci := 10) (v := .int z_36) (ty := .int) (C := RX10) (T := TX10) (N := 11) hx hb hts hiX10 tyX10 tyX10_ok nmX10 hown hK hP hD hS 0 rfl rfl 8 (by decide) w__fieldLink_RX10_38_ShellHeap_Tape_sign_I_ (fun _ h9 => h9) rfl (by decide +kernel) rfl rfl (Nat.le_of_ble_eq_true rfl) dX10_passSign_84 (fun H_37 locs hP hD hS => ?_)
        obtain ⟨hP, hD⟩ := z_s_0_8 hP hD
        refine lv_aload_n hx hb dX10_passSign_87 rfl (lv_at hl 0 rfl) ?_
        refine lv_dup hx hb dX10_passSign_88 rfl ?_
        refine va_get (D := (dC, dI)) (ci := 10) (v := .int z_5) (C := RX10) (T := TX10) (N := 11) hx hb hts hiX10 hown hK hP 0 rfl rfl 2 (by decide) w__fieldLink_RX10_19_ShellHeap_Tape_at_I_ (fun _ h9 => h9) rfl dX10_passSign_89 ?_
        refine lv_iconst (v := 1) hx hb dX10_passSign_92 (by decide) ?_
        refine lv_iadd hx hb dX10_passSign_93 ?_
        refine lv_topi (fun z_38 ez_38 => ?_)
        have kz_38 : (z_38).toInt = (z_5).toInt + (1 : Int) := by rw [ez_38]; exact z_add (a := (z_5).toInt) (b := (1 : Int)) rfl rfl (by omega) (by omega)
        refine va_put (D := (dC, dI)) (ci := 10) (v := .int z_38) (ty := .int) (C := RX10) (T := TX10) (N := 11) hx hb hts hiX10 tyX10 tyX10_ok nmX10 hown hK hP hD hS 0 rfl rfl 2 (by decide) w__fieldLink_RX10_19_ShellHeap_Tape_at_I_ (fun _ h9 => h9) rfl (by decide +kernel) rfl rfl (Nat.le_of_ble_eq_true rfl) dX10_passSign_94 (fun H_39 locs hP hD hS => ?_)
        obtain ⟨hP, hD⟩ := z_s_0_2 hP hD
        have hP9 := hP
        have hD9 := hD
        have hK9 := hK.sub (tys' := []) [] rfl
        refine W.widen (k := 0) (n := 0) (Nat.le_of_ble_eq_true rfl) (Nat.le_of_ble_eq_true rfl) ?_
        exact W.vret hx hb hr (fun t ht hW => ⟨⟨(), rfl, trivial, ⟨z_38, z_36, (by first | omega | decide), (show ta.toInt < z_38.toInt ∧ z_38.toInt ≤ tt.toInt by omega), (show f_sC (fh1 ta.toNatClampNeg).toInt z_36.toInt ta.toInt z_38.toInt from f_sC_e (hw_3.2.1 (by omega) (by omega)) (by unfold f_sC; omega)), by rw [ht]; exact hP9, va_K.moved hW.alike hK9, hD9⟩⟩, hS.F ht⟩) hS.2.2 dX10_passSign_97
  · have k_40 : (r_2).toInt ≠ (60 : Int) := z_ne c_7
    refine lv_aload_n hx hb dX10_passSign_31 rfl (lv_at hl 0 rfl) ?_
    refine va_get (D := (dC, dI)) (ci := 10) (v := .int r_2) (C := RX10) (T := TX10) (N := 11) hx hb hts hiX10 hown hK hP 0 rfl rfl 8 (by decide) w__fieldLink_RX10_38_ShellHeap_Tape_sign_I_ (fun _ h9 => h9) rfl dX10_passSign_32 ?_
    refine lv_bipush (v := 62) hx hb dX10_passSign_35 (by decide) ?_
    refine lv_icmp_ne (tgt := 97) hx hb dX10_passSign_37 (by decide) (fun c_41 => ?_) (fun c_41 => ?_)
    · have k_42 : (r_2).toInt ≠ (62 : Int) := z_ne c_41
      have hP9 := hP
      have hD9 := hD
      have hK9 := hK.sub (tys' := []) [] rfl
      refine W.widen (k := 0) (n := 0) (Nat.le_of_ble_eq_true rfl) (Nat.le_of_ble_eq_true rfl) ?_
      exact W.vret hx hb hr (fun t ht hW => ⟨⟨(), rfl, trivial, ⟨z_5, r_2, (by first | omega | decide), (show ta.toInt < z_5.toInt ∧ z_5.toInt ≤ tt.toInt by omega), (show f_sC (fh1 ta.toNatClampNeg).toInt r_2.toInt ta.toInt z_5.toInt from f_sC_e (hw_3.2.1 (by omega) (by omega)) (by unfold f_sC; omega)), by rw [ht]; exact hP9, va_K.moved hW.alike hK9, hD9⟩⟩, hS.F ht⟩) hS.2.2 dX10_passSign_97
    · have k_43 : (r_2).toInt = (62 : Int) := z_eq c_41
      obtain rfl : r_2 = 62 := z_eq' (show (r_2).toInt = (62 : Int) by omega)
      refine lv_aload_n hx hb dX10_passSign_40 rfl (lv_at hl 0 rfl) ?_
      refine lv_aload_n hx hb dX10_passSign_41 rfl (lv_at hl 0 rfl) ?_
      refine va_get (D := (dC, dI)) (ci := 10) (v := .int z_5) (C := RX10) (T := TX10) (N := 11) hx hb hts hiX10 hown hK hP 0 rfl rfl 2 (by decide) w__fieldLink_RX10_19_ShellHeap_Tape_at_I_ (fun _ h9 => h9) rfl dX10_passSign_42 ?_
      have hPc := hP
      have hDc := hD
      have hKc := hK
      have hFc := va_free (ws := []) (wc := []) (z_D0 _) hS hA [] rfl
      refine va_calli (va_runV (As := [.int z_5]) (rest := []) ⟨hx, hb, hml, hown, hts⟩ (s_X10_byteAt4 l dC dI H_6.size h0 z_5 h1 tt (.int z_5) h0_3 h0_4 h0_5 h0_6 h0_7 (.int 62) h0_9 h0_10 ch1 fh1 hB_tt hI_h1) (cwV 1 hts gw_s_X10_passSign3_s_X10_byteAt4_50 rfl rfl rfl (by decide +kernel) ⟨Nat.le_of_ble_eq_true rfl, Nat.le_of_ble_eq_true rfl⟩) ⟨z_blind, va_recv hKc hPc (ci := 10) (q0 := 0) rfl rfl, z_pre hPc hKc hDc⟩ rfl rfl hl.1 rfl (lv_room (Nat.le_of_ble_eq_true rfl)) dX10_passSign_45 ⟨Nat.le_of_ble_eq_true rfl, Nat.le_of_ble_eq_true rfl⟩) hS (fun q _ h => hFc q h) hFc (fun r_46 u t H_45 locs ht hvm hw_47 hB hz1 hk1 hS => ?_)
      replace hP := z_pure hP hk1
      clear hPc hDc hKc
      refine lv_bipush (v := 61) hx hb dX10_passSign_48 (by decide) ?_
      refine lv_icmp_eq (tgt := 66) hx hb dX10_passSign_50 (by decide) (fun c_48 => ?_) (fun c_48 => ?_)
      · have k_49 : (r_46).toInt = (61 : Int) := z_eq c_48
        obtain rfl : r_46 = 61 := z_eq' (show (r_46).toInt = (61 : Int) by omega)
        refine lv_aload_n hx hb dX10_passSign_66 rfl (lv_at hl 0 rfl) ?_
        refine lv_dup hx hb dX10_passSign_67 rfl ?_
        refine va_get (D := (dC, dI)) (ci := 10) (v := .int 62) (C := RX10) (T := TX10) (N := 11) hx hb hts hiX10 hown hK hP 0 rfl rfl 8 (by decide) w__fieldLink_RX10_38_ShellHeap_Tape_sign_I_ (fun _ h9 => h9) rfl dX10_passSign_68 ?_
        refine lv_sipush (v := 256) hx hb dX10_passSign_71 (by decide) ?_
        refine lv_aload_n hx hb dX10_passSign_74 rfl (lv_at hl 0 rfl) ?_
        refine lv_aload_n hx hb dX10_passSign_75 rfl (lv_at hl 0 rfl) ?_
        refine va_get (D := (dC, dI)) (ci := 10) (v := .int z_5) (C := RX10) (T := TX10) (N := 11) hx hb hts hiX10 hown hK hP 0 rfl rfl 2 (by decide) w__fieldLink_RX10_19_ShellHeap_Tape_at_I_ (fun _ h9 => h9) rfl dX10_passSign_76 ?_
        have hPc := hP
        have hDc := hD
        have hKc := hK
        have hFc := va_free (ws := []) (wc := []) (z_D0 _) hS hA [] rfl
        refine va_calli (va_runV (As := [.int z_5]) (rest := [.int 256, .int 62, .ref h0]) ⟨hx, hb, hml, hown, hts⟩ (s_X10_byteAt4 l dC dI H_45.size h0 z_5 h1 tt (.int z_5) h0_3 h0_4 h0_5 h0_6 h0_7 (.int 62) h0_9 h0_10 ch1 fh1 hB_tt hI_h1) (cwV 1 hts gw_s_X10_passSign3_s_X10_byteAt4_50 rfl rfl rfl (by decide +kernel) ⟨Nat.le_of_ble_eq_true rfl, Nat.le_of_ble_eq_true rfl⟩) ⟨z_blind, va_recv hKc hPc (ci := 10) (q0 := 0) rfl rfl, z_pre hPc hKc hDc⟩ rfl rfl hl.1 rfl (lv_room (Nat.le_of_ble_eq_true rfl)) dX10_passSign_79 ⟨Nat.le_of_ble_eq_true rfl, Nat.le_of_ble_eq_true rfl⟩) hS (fun q _ h => hFc q h) hFc (fun r_52 u t H_51 locs ht hvm hw_53 hB hz1 hk1 hS => ?_)
        replace hP := z_pure hP hk1
        clear hPc hDc hKc
        refine lv_imul hx hb dX10_passSign_82 ?_
        refine lv_topi (fun z_54 ez_54 => ?_)
        have kz_54 : (z_54).toInt = (256 : Int) * (r_52).toInt := by rw [ez_54]; exact z_mul (a := (256 : Int)) (b := (r_52).toInt) rfl rfl (by omega) (by omega)
        refine lv_iadd hx hb dX10_passSign_83 ?_
        refine lv_topi (fun z_55 ez_55 => ?_)
        have kz_55 : (z_55).toInt = (62 : Int) + (z_54).toInt := by rw [ez_55]; exact z_add (a := (62 : Int)) (b := (z_54).toInt) rfl rfl (by omega) (by omega)
        refine va_put (D := (dC, dI)) (ci := 10) (v := .int z_55) (ty := .int) (C := RX10) (T := TX10) (N := 11) hx hb hts hiX10 tyX10 tyX10_ok nmX10 hown hK hP hD hS 0 rfl rfl 8 (by decide) w__fieldLink_RX10_38_ShellHeap_Tape_sign_I_ (fun _ h9 => h9) rfl (by decide +kernel) rfl rfl (Nat.le_of_ble_eq_true rfl) dX10_passSign_84 (fun H_56 locs hP hD hS => ?_)
        obtain ⟨hP, hD⟩ := z_s_0_8 hP hD
        refine lv_aload_n hx hb dX10_passSign_87 rfl (lv_at hl 0 rfl) ?_
        refine lv_dup hx hb dX10_passSign_88 rfl ?_
        refine va_get (D := (dC, dI)) (ci := 10) (v := .int z_5) (C := RX10) (T := TX10) (N := 11) hx hb hts hiX10 hown hK hP 0 rfl rfl 2 (by decide) w__fieldLink_RX10_19_ShellHeap_Tape_at_I_ (fun _ h9 => h9) rfl dX10_passSign_89 ?_
        refine lv_iconst (v := 1) hx hb dX10_passSign_92 (by decide) ?_
        refine lv_iadd hx hb dX10_passSign_93 ?_
        refine lv_topi (fun z_57 ez_57 => ?_)
        have kz_57 : (z_57).toInt = (z_5).toInt + (1 : Int) := by rw [ez_57]; exact z_add (a := (z_5).toInt) (b := (1 : Int)) rfl rfl (by omega) (by omega)
        refine va_put (D := (dC, dI)) (ci := 10) (v := .int z_57) (ty := .int) (C := RX10) (T := TX10) (N := 11) hx hb hts hiX10 tyX10 tyX10_ok nmX10 hown hK hP hD hS 0 rfl rfl 2 (by decide) w__fieldLink_RX10_19_ShellHeap_Tape_at_I_ (fun _ h9 => h9) rfl (by decide +kernel) rfl rfl (Nat.le_of_ble_eq_true rfl) dX10_passSign_94 (fun H_58 locs hP hD hS => ?_)
        obtain ⟨hP, hD⟩ := z_s_0_2 hP hD
        have hP9 := hP
        have hD9 := hD
        have hK9 := hK.sub (tys' := []) [] rfl
        refine W.widen (k := 0) (n := 0) (Nat.le_of_ble_eq_true rfl) (Nat.le_of_ble_eq_true rfl) ?_
        exact W.vret hx hb hr (fun t ht hW => ⟨⟨(), rfl, trivial, ⟨z_57, z_55, (by first | omega | decide), (show ta.toInt < z_57.toInt ∧ z_57.toInt ≤ tt.toInt by omega), (show f_sC (fh1 ta.toNatClampNeg).toInt z_55.toInt ta.toInt z_57.toInt from f_sC_e (hw_3.2.1 (by omega) (by omega)) (by unfold f_sC; omega)), by rw [ht]; exact hP9, va_K.moved hW.alike hK9, hD9⟩⟩, hS.F ht⟩) hS.2.2 dX10_passSign_97
      · have k_59 : (r_46).toInt ≠ (61 : Int) := z_ne c_48
        refine lv_aload_n hx hb dX10_passSign_53 rfl (lv_at hl 0 rfl) ?_
        refine lv_aload_n hx hb dX10_passSign_54 rfl (lv_at hl 0 rfl) ?_
        refine va_get (D := (dC, dI)) (ci := 10) (v := .int z_5) (C := RX10) (T := TX10) (N := 11) hx hb hts hiX10 hown hK hP 0 rfl rfl 2 (by decide) w__fieldLink_RX10_19_ShellHeap_Tape_at_I_ (fun _ h9 => h9) rfl dX10_passSign_55 ?_
        have hPc := hP
        have hDc := hD
        have hKc := hK
        have hFc := va_free (ws := []) (wc := []) (z_D0 _) hS hA [] rfl
        refine va_calli (va_runV (As := [.int z_5]) (rest := []) ⟨hx, hb, hml, hown, hts⟩ (s_X10_byteAt4 l dC dI H_45.size h0 z_5 h1 tt (.int z_5) h0_3 h0_4 h0_5 h0_6 h0_7 (.int 62) h0_9 h0_10 ch1 fh1 hB_tt hI_h1) (cwV 1 hts gw_s_X10_passSign3_s_X10_byteAt4_50 rfl rfl rfl (by decide +kernel) ⟨Nat.le_of_ble_eq_true rfl, Nat.le_of_ble_eq_true rfl⟩) ⟨z_blind, va_recv hKc hPc (ci := 10) (q0 := 0) rfl rfl, z_pre hPc hKc hDc⟩ rfl rfl hl.1 rfl (lv_room (Nat.le_of_ble_eq_true rfl)) dX10_passSign_58 ⟨Nat.le_of_ble_eq_true rfl, Nat.le_of_ble_eq_true rfl⟩) hS (fun q _ h => hFc q h) hFc (fun r_61 u t H_60 locs ht hvm hw_62 hB hz1 hk1 hS => ?_)
        replace hP := z_pure hP hk1
        clear hPc hDc hKc
        refine lv_bipush (v := 62) hx hb dX10_passSign_61 (by decide) ?_
        refine lv_icmp_ne (tgt := 97) hx hb dX10_passSign_63 (by decide) (fun c_63 => ?_) (fun c_63 => ?_)
        · have k_64 : (r_61).toInt ≠ (62 : Int) := z_ne c_63
          have hP9 := hP
          have hD9 := hD
          have hK9 := hK.sub (tys' := []) [] rfl
          refine W.widen (k := 0) (n := 0) (Nat.le_of_ble_eq_true rfl) (Nat.le_of_ble_eq_true rfl) ?_
          exact W.vret hx hb hr (fun t ht hW => ⟨⟨(), rfl, trivial, ⟨z_5, 62, (by first | omega | decide), (show ta.toInt < z_5.toInt ∧ z_5.toInt ≤ tt.toInt by omega), (show f_sC (fh1 ta.toNatClampNeg).toInt (62 : Int) ta.toInt z_5.toInt from f_sC_e (hw_3.2.1 (by omega) (by omega)) (by unfold f_sC; omega)), by rw [ht]; exact hP9, va_K.moved hW.alike hK9, hD9⟩⟩, hS.F ht⟩) hS.2.2 dX10_passSign_97
        · have k_65 : (r_61).toInt = (62 : Int) := z_eq c_63
          obtain rfl : r_61 = 62 := z_eq' (show (r_61).toInt = (62 : Int) by omega)
          refine lv_aload_n hx hb dX10_passSign_66 rfl (lv_at hl 0 rfl) ?_
          refine lv_dup hx hb dX10_passSign_67 rfl ?_
          refine va_get (D := (dC, dI)) (ci := 10) (v := .int 62) (C := RX10) (T := TX10) (N := 11) hx hb hts hiX10 hown hK hP 0 rfl rfl 8 (by decide) w__fieldLink_RX10_38_ShellHeap_Tape_sign_I_ (fun _ h9 => h9) rfl dX10_passSign_68 ?_
          refine lv_sipush (v := 256) hx hb dX10_passSign_71 (by decide) ?_
          refine lv_aload_n hx hb dX10_passSign_74 rfl (lv_at hl 0 rfl) ?_
          refine lv_aload_n hx hb dX10_passSign_75 rfl (lv_at hl 0 rfl) ?_
          refine va_get (D := (dC, dI)) (ci := 10) (v := .int z_5) (C := RX10) (T := TX10) (N := 11) hx hb hts hiX10 hown hK hP 0 rfl rfl 2 (by decide) w__fieldLink_RX10_19_ShellHeap_Tape_at_I_ (fun _ h9 => h9) rfl dX10_passSign_76 ?_
          have hPc := hP
          have hDc := hD
          have hKc := hK
          have hFc := va_free (ws := []) (wc := []) (z_D0 _) hS hA [] rfl
          refine va_calli (va_runV (As := [.int z_5]) (rest := [.int 256, .int 62, .ref h0]) ⟨hx, hb, hml, hown, hts⟩ (s_X10_byteAt4 l dC dI H_60.size h0 z_5 h1 tt (.int z_5) h0_3 h0_4 h0_5 h0_6 h0_7 (.int 62) h0_9 h0_10 ch1 fh1 hB_tt hI_h1) (cwV 1 hts gw_s_X10_passSign3_s_X10_byteAt4_50 rfl rfl rfl (by decide +kernel) ⟨Nat.le_of_ble_eq_true rfl, Nat.le_of_ble_eq_true rfl⟩) ⟨z_blind, va_recv hKc hPc (ci := 10) (q0 := 0) rfl rfl, z_pre hPc hKc hDc⟩ rfl rfl hl.1 rfl (lv_room (Nat.le_of_ble_eq_true rfl)) dX10_passSign_79 ⟨Nat.le_of_ble_eq_true rfl, Nat.le_of_ble_eq_true rfl⟩) hS (fun q _ h => hFc q h) hFc (fun r_68 u t H_67 locs ht hvm hw_69 hB hz1 hk1 hS => ?_)
          replace hP := z_pure hP hk1
          clear hPc hDc hKc
          refine lv_imul hx hb dX10_passSign_82 ?_
          refine lv_topi (fun z_70 ez_70 => ?_)
          have kz_70 : (z_70).toInt = (256 : Int) * (r_68).toInt := by rw [ez_70]; exact z_mul (a := (256 : Int)) (b := (r_68).toInt) rfl rfl (by omega) (by omega)
          refine lv_iadd hx hb dX10_passSign_83 ?_
          refine lv_topi (fun z_71 ez_71 => ?_)
          have kz_71 : (z_71).toInt = (62 : Int) + (z_70).toInt := by rw [ez_71]; exact z_add (a := (62 : Int)) (b := (z_70).toInt) rfl rfl (by omega) (by omega)
          refine va_put (D := (dC, dI)) (ci := 10) (v := .int z_71) (ty := .int) (C := RX10) (T := TX10) (N := 11) hx hb hts hiX10 tyX10 tyX10_ok nmX10 hown hK hP hD hS 0 rfl rfl 8 (by decide) w__fieldLink_RX10_38_ShellHeap_Tape_sign_I_ (fun _ h9 => h9) rfl (by decide +kernel) rfl rfl (Nat.le_of_ble_eq_true rfl) dX10_passSign_84 (fun H_72 locs hP hD hS => ?_)
          obtain ⟨hP, hD⟩ := z_s_0_8 hP hD
          refine lv_aload_n hx hb dX10_passSign_87 rfl (lv_at hl 0 rfl) ?_
          refine lv_dup hx hb dX10_passSign_88 rfl ?_
          refine va_get (D := (dC, dI)) (ci := 10) (v := .int z_5) (C := RX10) (T := TX10) (N := 11) hx hb hts hiX10 hown hK hP 0 rfl rfl 2 (by decide) w__fieldLink_RX10_19_ShellHeap_Tape_at_I_ (fun _ h9 => h9) rfl dX10_passSign_89 ?_
          refine lv_iconst (v := 1) hx hb dX10_passSign_92 (by decide) ?_
          refine lv_iadd hx hb dX10_passSign_93 ?_
          refine lv_topi (fun z_73 ez_73 => ?_)
          have kz_73 : (z_73).toInt = (z_5).toInt + (1 : Int) := by rw [ez_73]; exact z_add (a := (z_5).toInt) (b := (1 : Int)) rfl rfl (by omega) (by omega)
          refine va_put (D := (dC, dI)) (ci := 10) (v := .int z_73) (ty := .int) (C := RX10) (T := TX10) (N := 11) hx hb hts hiX10 tyX10 tyX10_ok nmX10 hown hK hP hD hS 0 rfl rfl 2 (by decide) w__fieldLink_RX10_19_ShellHeap_Tape_at_I_ (fun _ h9 => h9) rfl (by decide +kernel) rfl rfl (Nat.le_of_ble_eq_true rfl) dX10_passSign_94 (fun H_74 locs hP hD hS => ?_)
          obtain ⟨hP, hD⟩ := z_s_0_2 hP hD
          have hP9 := hP
          have hD9 := hD
          have hK9 := hK.sub (tys' := []) [] rfl
          refine W.widen (k := 0) (n := 0) (Nat.le_of_ble_eq_true rfl) (Nat.le_of_ble_eq_true rfl) ?_
          exact W.vret hx hb hr (fun t ht hW => ⟨⟨(), rfl, trivial, ⟨z_73, z_71, (by first | omega | decide), (show ta.toInt < z_73.toInt ∧ z_73.toInt ≤ tt.toInt by omega), (show f_sC (fh1 ta.toNatClampNeg).toInt z_71.toInt ta.toInt z_73.toInt from f_sC_e (hw_3.2.1 (by omega) (by omega)) (by unfold f_sC; omega)), by rw [ht]; exact hP9, va_K.moved hW.alike hK9, hD9⟩⟩, hS.F ht⟩) hS.2.2 dX10_passSign_97
