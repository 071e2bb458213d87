def u_s_X0_hasLayer : List Cond := .code yX0_hasLayer cX0_hasLayer 2 (some .boolean) :: ([.fieldLink RX0 28 "ShellHeap$Book" "layers" "I"] ++ (wsX00 ++ []))
theorem gd_s_X0_hasLayer : z_gd u_s_X0_hasLayer := z_gdc (by decide +kernel) (z_gda gdX0 (z_gd0))
set_option maxHeartbeats 4000000 in
set_option maxRecDepth 100000 in
theorem s_X0_hasLayer (l : Launch) (dC : Nat → ClassId) (dI : Nat → Nat → Nat) (sz : Nat) (h0 : Nat) (p1 : Int32) (h0_0 : Value) (h0_1 : Value) (h0_2 : Value) (h0_3 : Value) (h0_4 : Value) (bl : Int32) (hB_bl : ((0 : Int) ≤ (bl).toInt ∧ (bl).toInt ≤ (12 : Int))) : Met l yX0_hasLayer u_s_X0_hasLayer ({ frames := 0, cells := 0, slots := 0, locals := 0 }) (va_Pc [.ref h0, .int p1] (z_C (dC, dI) vwCl [(h0, .inr (0, [h0_0, h0_1, h0_2, h0_3, h0_4, .int bl]))] [] sz)) (va_Qi (fun (r : Int32) (_ : Unit) => (r = 1 ∧ (0 ≤ p1.toInt ∧ p1.toInt < bl.toInt)) ∨ (r = 0 ∧ True)) (fun (_ : Unit) (_ : State) => True) (va_A [] sz)) 0 0 (va_A [] sz) := by
  refine Met.ofW (cc := cX0_hasLayer) (maxL := 2) (ret := (some .boolean)) (by decide) rfl ?_
  intro p e s m args below meth c s₁ B hml hv
  obtain ⟨rfl, hsz, hP, hK, hD0⟩ := hv
  have hx := B.exec
  have hb := B.bytes
  have hr := B.returns
  have hts := atoms_spec (ws := u_s_X0_hasLayer) B.pre
  have hown : s.vm.findClass RX0 = some m.cls := findClass_of_methodNamed B.named
  have hlocks := B.notSynchronized
  subst hsz
  have hD := hD0
  generalize hAe : va_A [] s.heap.size = A
  have hA : ∀ q : Nat, s.heap.size ≤ q → A q := fun q h => by rw [← hAe]; exact Or.inr h
  have hS : va_S A s.heap s.heap [] := va_S.rf
  have hP : va_P (dC, dI) vwCl [(h0, .inr (0, [h0_0, h0_1, h0_2, h0_3, h0_4, .int bl]))] s.heap := hP
  have w__fieldLink_RX0_28_ShellHeap_Book_layers_I_ := hts (.fieldLink RX0 28 "ShellHeap$Book" "layers" "I") (z_mc (z_ml z_m0))
  have hiX0 := show ∀ w ∈ u_ws RX0 TX0 6, w ∈ u_s_X0_hasLayer from fun w h => z_mc (z_mr (z_ml h))
  have krr_p1 := z_rng p1
  have hl := lv_entry ([.ref h0, .int p1]) (n := 2) (Nat.le_of_ble_eq_true rfl)
  rw [lg_entry_eq]
  generalize (lg_sl ([.ref h0, .int p1]) ++ List.replicate (2 - (lg_sl ([.ref h0, .int p1])).length) Slot.unset).toArray = ls at hl ⊢
  have hl : lv_has ls 2 [(0, .ref h0), (1, .int p1)] := hl
  refine lv_iload_n hx hb dX0_hasLayer_0 rfl (lv_at hl 1 rfl) ?_
  refine lv_if_lt (tgt := 16) hx hb dX0_hasLayer_1 (by decide) (fun c_1 => ?_) (fun c_1 => ?_)
  · have k_2 : (p1).toInt < (0 : Int) := z_lt c_1
    refine lv_iconst (v := 0) hx hb dX0_hasLayer_16 (by decide) ?_
    refine W.widen (k := 0) (n := 0) (Nat.le_of_ble_eq_true rfl) (Nat.le_of_ble_eq_true rfl) ?_
    exact W.zret (v := 0) hx hb hr (by rfl) (fun t ht hW => ⟨⟨0, (), rfl, (Or.inr (⟨rfl, by first | omega | decide⟩)), trivial⟩, hS.F ht⟩) hS.2.2 dX0_hasLayer_17
  · have k_3 : (p1).toInt ≥ (0 : Int) := z_nlt c_1
    refine lv_iload_n hx hb dX0_hasLayer_4 rfl (lv_at hl 1 rfl) ?_
    refine lv_aload_n hx hb dX0_hasLayer_5 rfl (lv_at hl 0 rfl) ?_
    refine va_get (D := (dC, dI)) (ci := 0) (v := .int bl) (C := RX0) (T := TX0) (N := 6) hx hb hts hiX0 hown hK hP 0 rfl rfl 5 (by decide) w__fieldLink_RX0_28_ShellHeap_Book_layers_I_ (fun _ h9 => h9) rfl dX0_hasLayer_6 ?_
    refine lv_icmp_ge (tgt := 16) hx hb dX0_hasLayer_9 (by decide) (fun c_4 => ?_) (fun c_4 => ?_)
    · have k_5 : (bl).toInt ≤ (p1).toInt := z_le c_4
      refine lv_iconst (v := 0) hx hb dX0_hasLayer_16 (by decide) ?_
      refine W.widen (k := 0) (n := 0) (Nat.le_of_ble_eq_true rfl) (Nat.le_of_ble_eq_true rfl) ?_
      exact W.zret (v := 0) hx hb hr (by rfl) (fun t ht hW => ⟨⟨0, (), rfl, (Or.inr (⟨rfl, by first | omega | decide⟩)), trivial⟩, hS.F ht⟩) hS.2.2 dX0_hasLayer_17
    · have k_6 : (bl).toInt > (p1).toInt := z_nle c_4
      refine lv_iconst (v := 1) hx hb dX0_hasLayer_12 (by decide) ?_
      refine lv_goto (tgt := 17) hx hb dX0_hasLayer_13 (by decide) ?_
      refine W.widen (k := 0) (n := 0) (Nat.le_of_ble_eq_true rfl) (Nat.le_of_ble_eq_true rfl) ?_
      exact W.zret (v := 1) hx hb hr (by rfl) (fun t ht hW => ⟨⟨1, (), rfl, (Or.inl (⟨rfl, by first | omega | decide⟩)), trivial⟩, hS.F ht⟩) hS.2.2 dX0_hasLayer_17
def u_s_X0_hasFirst : List Cond := .code yX0_hasFirst cX0_hasFirst 2 (some .boolean) :: ([.fieldLink RX0 24 "ShellHeap$Book" "notes" "I"] ++ (wsX00 ++ []))
theorem gd_s_X0_hasFirst : z_gd u_s_X0_hasFirst := z_gdc (by decide +kernel) (z_gda gdX0 (z_gd0))
set_option maxHeartbeats 4000000 in
set_option maxRecDepth 100000 in
theorem s_X0_hasFirst (l : Launch) (dC : Nat → ClassId) (dI : Nat → Nat → Nat) (sz : Nat) (h0 : Nat) (p1 : Int32) (h0_0 : Value) (h0_1 : Value) (h0_2 : Value) (h0_3 : Value) (bn : Int32) (h0_5 : Value) (hB_bn : ((0 : Int) ≤ (bn).toInt ∧ (bn).toInt ≤ (80 : Int))) : Met l yX0_hasFirst u_s_X0_hasFirst ({ frames := 0, cells := 0, slots := 0, locals := 0 }) (va_Pc [.ref h0, .int p1] (z_C (dC, dI) vwCl [(h0, .inr (0, [h0_0, h0_1, h0_2, h0_3, .int bn, h0_5]))] [] sz)) (va_Qi (fun (r : Int32) (_ : Unit) => (r = 1 ∧ (0 ≤ p1.toInt ∧ p1.toInt ≤ bn.toInt)) ∨ (r = 0 ∧ True)) (fun (_ : Unit) (_ : State) => True) (va_A [] sz)) 0 0 (va_A [] sz) := by
  refine Met.ofW (cc := cX0_hasFirst) (maxL := 2) (ret := (some .boolean)) (by decide) rfl ?_
  intro p e s m args below meth c s₁ B hml hv
  obtain ⟨rfl, hsz, hP, hK, hD0⟩ := hv
  have hx := B.exec
  have hb := B.bytes
  have hr := B.returns
  have hts := atoms_spec (ws := u_s_X0_hasFirst) B.pre
  have hown : s.vm.findClass RX0 = some m.cls := findClass_of_methodNamed B.named
  have hlocks := B.notSynchronized
  subst hsz
  have hD := hD0
  generalize hAe : va_A [] s.heap.size = A
  have hA : ∀ q : Nat, s.heap.size ≤ q → A q := fun q h => by rw [← hAe]; exact Or.inr h
  have hS : va_S A s.heap s.heap [] := va_S.rf
  have hP : va_P (dC, dI) vwCl [(h0, .inr (0, [h0_0, h0_1, h0_2, h0_3, .int bn, h0_5]))] s.heap := hP
  have w__fieldLink_RX0_24_ShellHeap_Book_notes_I_ := hts (.fieldLink RX0 24 "ShellHeap$Book" "notes" "I") (z_mc (z_ml z_m0))
  have hiX0 := show ∀ w ∈ u_ws RX0 TX0 6, w ∈ u_s_X0_hasFirst from fun w h => z_mc (z_mr (z_ml h))
  have krr_p1 := z_rng p1
  have hl := lv_entry ([.ref h0, .int p1]) (n := 2) (Nat.le_of_ble_eq_true rfl)
  rw [lg_entry_eq]
  generalize (lg_sl ([.ref h0, .int p1]) ++ List.replicate (2 - (lg_sl ([.ref h0, .int p1])).length) Slot.unset).toArray = ls at hl ⊢
  have hl : lv_has ls 2 [(0, .ref h0), (1, .int p1)] := hl
  refine lv_iload_n hx hb dX0_hasFirst_0 rfl (lv_at hl 1 rfl) ?_
  refine lv_if_lt (tgt := 16) hx hb dX0_hasFirst_1 (by decide) (fun c_1 => ?_) (fun c_1 => ?_)
  · have k_2 : (p1).toInt < (0 : Int) := z_lt c_1
    refine lv_iconst (v := 0) hx hb dX0_hasFirst_16 (by decide) ?_
    refine W.widen (k := 0) (n := 0) (Nat.le_of_ble_eq_true rfl) (Nat.le_of_ble_eq_true rfl) ?_
    exact W.zret (v := 0) hx hb hr (by rfl) (fun t ht hW => ⟨⟨0, (), rfl, (Or.inr (⟨rfl, by first | omega | decide⟩)), trivial⟩, hS.F ht⟩) hS.2.2 dX0_hasFirst_17
  · have k_3 : (p1).toInt ≥ (0 : Int) := z_nlt c_1
    refine lv_iload_n hx hb dX0_hasFirst_4 rfl (lv_at hl 1 rfl) ?_
    refine lv_aload_n hx hb dX0_hasFirst_5 rfl (lv_at hl 0 rfl) ?_
    refine va_get (D := (dC, dI)) (ci := 0) (v := .int bn) (C := RX0) (T := TX0) (N := 6) hx hb hts hiX0 hown hK hP 0 rfl rfl 4 (by decide) w__fieldLink_RX0_24_ShellHeap_Book_notes_I_ (fun _ h9 => h9) rfl dX0_hasFirst_6 ?_
    refine lv_icmp_gt (tgt := 16) hx hb dX0_hasFirst_9 (by decide) (fun c_4 => ?_) (fun c_4 => ?_)
    · have k_5 : (bn).toInt < (p1).toInt := z_lt c_4
      refine lv_iconst (v := 0) hx hb dX0_hasFirst_16 (by decide) ?_
      refine W.widen (k := 0) (n := 0) (Nat.le_of_ble_eq_true rfl) (Nat.le_of_ble_eq_true rfl) ?_
      exact W.zret (v := 0) hx hb hr (by rfl) (fun t ht hW => ⟨⟨0, (), rfl, (Or.inr (⟨rfl, by first | omega | decide⟩)), trivial⟩, hS.F ht⟩) hS.2.2 dX0_hasFirst_17
    · have k_6 : (bn).toInt ≥ (p1).toInt := z_nlt c_4
      refine lv_iconst (v := 1) hx hb dX0_hasFirst_12 (by decide) ?_
      refine lv_goto (tgt := 17) hx hb dX0_hasFirst_13 (by decide) ?_
      refine W.widen (k := 0) (n := 0) (Nat.le_of_ble_eq_true rfl) (Nat.le_of_ble_eq_true rfl) ?_
      exact W.zret (v := 1) hx hb hr (by rfl) (fun t ht hW => ⟨⟨1, (), rfl, (Or.inl (⟨rfl, by first | omega | decide⟩)), trivial⟩, hS.F ht⟩) hS.2.2 dX0_hasFirst_17
