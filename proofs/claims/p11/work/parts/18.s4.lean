def u_s_X5_hasKind : List Cond := .code yX5_hasKind cX5_hasKind 2 (some .boolean) :: ([.fieldLink RX5 41 "ShellHeap$Pantry" "kinds" "I"] ++ (wsX50 ++ []))
theorem gd_s_X5_hasKind : z_gd u_s_X5_hasKind := z_gdc (by decide +kernel) (z_gda gdX5 (z_gd0))
set_option maxHeartbeats 4000000 in
set_option maxRecDepth 100000 in
theorem s_X5_hasKind (l : Launch) (dC : Nat → ClassId) (dI : Nat → Nat → Nat) (sz : Nat) (h0 : Nat) (p1 : Int32) (h0_0 : Value) (h0_1 : Value) (h0_2 : Value) (h0_3 : Value) (h0_4 : Value) (h0_5 : Value) (h0_6 : Value) (h0_7 : Value) (h0_8 : Value) (pk : Int32) (hB_pk : ((0 : Int) ≤ (pk).toInt ∧ (pk).toInt ≤ (6 : Int))) : Met l yX5_hasKind u_s_X5_hasKind ({ frames := 0, cells := 0, slots := 0, locals := 0 }) (va_Pc [.ref h0, .int p1] (z_C (dC, dI) vwCl [(h0, .inr (5, [h0_0, h0_1, h0_2, h0_3, h0_4, h0_5, h0_6, h0_7, h0_8, .int pk]))] [] sz)) (va_Qi (fun (r : Int32) (_ : Unit) => (r = 1 ∧ (0 ≤ p1.toInt ∧ p1.toInt < pk.toInt)) ∨ (r = 0 ∧ True)) (fun (_ : Unit) (_ : State) => True) (va_A [] sz)) 0 0 (va_A [] sz) := by
  refine Met.ofW (cc := cX5_hasKind) (maxL := 2) (ret := (some .boolean)) (by decide) rfl ?_
  intro p e s m args below meth c s₁ B hml hv
  obtain ⟨rfl, hsz, hP, hK, hD0⟩ := hv
  have hx := B.exec
  have hb := B.bytes
  have hr := B.returns
  have hts := atoms_spec (ws := u_s_X5_hasKind) B.pre
  have hown : s.vm.findClass RX5 = some m.cls := findClass_of_methodNamed B.named
  have hlocks := B.notSynchronized
  subst hsz
  have hD := hD0
  generalize hAe : va_A [] s.heap.size = A
  have hA : ∀ q : Nat, s.heap.size ≤ q → A q := fun q h => by rw [← hAe]; exact Or.inr h
  have hS : va_S A s.heap s.heap [] := va_S.rf
  have hP : va_P (dC, dI) vwCl [(h0, .inr (5, [h0_0, h0_1, h0_2, h0_3, h0_4, h0_5, h0_6, h0_7, h0_8, .int pk]))] s.heap := hP
  have w__fieldLink_RX5_41_ShellHeap_Pantry_kinds_I_ := hts (.fieldLink RX5 41 "ShellHeap$Pantry" "kinds" "I") (z_mc (z_ml z_m0))
  have hiX5 := show ∀ w ∈ u_ws RX5 TX5 10, w ∈ u_s_X5_hasKind from fun w h => z_mc (z_mr (z_ml h))
  have krr_p1 := z_rng p1
  have hl := lv_entry ([.ref h0, .int p1]) (n := 2) (Nat.le_of_ble_eq_true rfl)
  rw [lg_entry_eq]
  generalize (lg_sl ([.ref h0, .int p1]) ++ List.replicate (2 - (lg_sl ([.ref h0, .int p1])).length) Slot.unset).toArray = ls at hl ⊢
  have hl : lv_has ls 2 [(0, .ref h0), (1, .int p1)] := hl
  refine lv_iload_n hx hb dX5_hasKind_0 rfl (lv_at hl 1 rfl) ?_
  refine lv_if_lt (tgt := 16) hx hb dX5_hasKind_1 (by decide) (fun c_1 => ?_) (fun c_1 => ?_)
  · have k_2 : (p1).toInt < (0 : Int) := z_lt c_1
    refine lv_iconst (v := 0) hx hb dX5_hasKind_16 (by decide) ?_
    refine W.widen (k := 0) (n := 0) (Nat.le_of_ble_eq_true rfl) (Nat.le_of_ble_eq_true rfl) ?_
    exact W.zret (v := 0) hx hb hr (by rfl) (fun t ht hW => ⟨⟨0, (), rfl, (Or.inr (⟨rfl, by first | omega | decide⟩)), trivial⟩, hS.F ht⟩) hS.2.2 dX5_hasKind_17
  · have k_3 : (p1).toInt ≥ (0 : Int) := z_nlt c_1
    refine lv_iload_n hx hb dX5_hasKind_4 rfl (lv_at hl 1 rfl) ?_
    refine lv_aload_n hx hb dX5_hasKind_5 rfl (lv_at hl 0 rfl) ?_
    refine va_get (D := (dC, dI)) (ci := 5) (v := .int pk) (C := RX5) (T := TX5) (N := 10) hx hb hts hiX5 hown hK hP 0 rfl rfl 9 (by decide) w__fieldLink_RX5_41_ShellHeap_Pantry_kinds_I_ (fun _ h9 => h9) rfl dX5_hasKind_6 ?_
    refine lv_icmp_ge (tgt := 16) hx hb dX5_hasKind_9 (by decide) (fun c_4 => ?_) (fun c_4 => ?_)
    · have k_5 : (pk).toInt ≤ (p1).toInt := z_le c_4
      refine lv_iconst (v := 0) hx hb dX5_hasKind_16 (by decide) ?_
      refine W.widen (k := 0) (n := 0) (Nat.le_of_ble_eq_true rfl) (Nat.le_of_ble_eq_true rfl) ?_
      exact W.zret (v := 0) hx hb hr (by rfl) (fun t ht hW => ⟨⟨0, (), rfl, (Or.inr (⟨rfl, by first | omega | decide⟩)), trivial⟩, hS.F ht⟩) hS.2.2 dX5_hasKind_17
    · have k_6 : (pk).toInt > (p1).toInt := z_nle c_4
      refine lv_iconst (v := 1) hx hb dX5_hasKind_12 (by decide) ?_
      refine lv_goto (tgt := 17) hx hb dX5_hasKind_13 (by decide) ?_
      refine W.widen (k := 0) (n := 0) (Nat.le_of_ble_eq_true rfl) (Nat.le_of_ble_eq_true rfl) ?_
      exact W.zret (v := 1) hx hb hr (by rfl) (fun t ht hW => ⟨⟨1, (), rfl, (Or.inl (⟨rfl, by first | omega | decide⟩)), trivial⟩, hS.F ht⟩) hS.2.2 dX5_hasKind_17
def u_s_X5_clear : List Cond := .code yX5_clear cX5_clear 3 none :: ([.fieldLink RX5 18 "ShellHeap$Pantry" "found" "[I"] ++ (wsX50 ++ []))
theorem gd_s_X5_clear : z_gd u_s_X5_clear := z_gdc (by decide +kernel) (z_gda gdX5 (z_gd0))
set_option maxHeartbeats 4000000 in
set_option maxRecDepth 100000 in
theorem s_X5_clear (l : Launch) (dC : Nat → ClassId) (dI : Nat → Nat → Nat) (sz : Nat) (h0 : Nat) (p1 : Int32) (h0_0 : Value) (h0_1 : Value) (h1 : Nat) (h0_3 : Value) (h0_4 : Value) (h0_5 : Value) (h0_6 : Value) (h0_7 : Value) (h0_8 : Value) (h0_9 : Value) (ch1 : ClassId) (fh1 : Nat → Int32) (hB_p1 : ((0 : Int) ≤ (p1).toInt ∧ (p1).toInt ≤ (79 : Int))) : Met l yX5_clear u_s_X5_clear ({ frames := 0, cells := 0, slots := 0, locals := 0 }) (va_Pc [.ref h0, .int p1] (z_C (dC, dI) vwCl [(h0, .inr (5, [h0_0, h0_1, .ref h1, h0_3, h0_4, h0_5, h0_6, h0_7, h0_8, h0_9])), (h1, .inl (ch1, 11520, .inl fh1))] [(ch1, .int)] sz)) (va_Qv (fun (_ : Unit) => True) (fun (_ : Unit) (t : State) => ∃ (g_h1 : Nat → Int32), va_P (dC, dI) vwCl [(h0, .inr (5, [h0_0, h0_1, .ref h1, h0_3, h0_4, h0_5, h0_6, h0_7, h0_8, h0_9])), (h1, .inl (ch1, 11520, .inl g_h1))] t.heap ∧ va_K (dC, dI) vwCl [] t ∧ va_D (va_A [(h0, .inr (5, [h0_0, h0_1, .ref h1, h0_3, h0_4, h0_5, h0_6, h0_7, h0_8, h0_9])), (h1, .inl (ch1, 11520, .inl fh1))] sz) [(h0, .inr (5, [h0_0, h0_1, .ref h1, h0_3, h0_4, h0_5, h0_6, h0_7, h0_8, h0_9])), (h1, .inl (ch1, 11520, .inl g_h1))]) (va_A [(h0, .inr (5, [h0_0, h0_1, .ref h1, h0_3, h0_4, h0_5, h0_6, h0_7, h0_8, h0_9])), (h1, .inl (ch1, 11520, .inl fh1))] sz)) 0 0 (va_A [(h0, .inr (5, [h0_0, h0_1, .ref h1, h0_3, h0_4, h0_5, h0_6, h0_7, h0_8, h0_9])), (h1, .inl (ch1, 11520, .inl fh1))] sz) := by
  refine Met.ofW (cc := cX5_clear) (maxL := 3) (ret := none) (by decide) rfl ?_
  intro p e s m args below meth c s₁ B hml hv
  obtain ⟨rfl, hsz, hP, hK, hD0⟩ := hv
  have hx := B.exec
  have hb := B.bytes
  have hr := B.returns
  have hts := atoms_spec (ws := u_s_X5_clear) B.pre
  have hown : s.vm.findClass RX5 = some m.cls := findClass_of_methodNamed B.named
  have hlocks := B.notSynchronized
  subst hsz
  have hD := hD0.self (sz := s.heap.size)
  generalize hAe : va_A [(h0, .inr (5, [h0_0, h0_1, .ref h1, h0_3, h0_4, h0_5, h0_6, h0_7, h0_8, h0_9])), (h1, .inl (ch1, 11520, .inl fh1))] s.heap.size = A at hD ⊢
  have hA : ∀ q : Nat, s.heap.size ≤ q → A q := fun q h => by rw [← hAe]; exact Or.inr h
  have hS : va_S A s.heap s.heap [] := va_S.rf
  have hP : va_P (dC, dI) vwCl [(h0, .inr (5, [h0_0, h0_1, .ref h1, h0_3, h0_4, h0_5, h0_6, h0_7, h0_8, h0_9])), (h1, .inl (ch1, 11520, .inl fh1))] s.heap := hP
  have w__fieldLink_RX5_18_ShellHeap_Pantry_found_I_ := hts (.fieldLink RX5 18 "ShellHeap$Pantry" "found" "[I") (z_mc (z_ml z_m0))
  have hiX5 := show ∀ w ∈ u_ws RX5 TX5 10, w ∈ u_s_X5_clear from fun w h => z_mc (z_mr (z_ml h))
  have hl := lv_entry ([.ref h0, .int p1]) (n := 3) (Nat.le_of_ble_eq_true rfl)
  rw [lg_entry_eq]
  generalize (lg_sl ([.ref h0, .int p1]) ++ List.replicate (3 - (lg_sl ([.ref h0, .int p1])).length) Slot.unset).toArray = ls at hl ⊢
  have hl : lv_has ls 3 [(0, .ref h0), (1, .int p1)] := hl
  refine z_nameQ (fun QQ hQQ => ?_)
  refine lv_iconst (v := 0) hx hb dX5_clear_0 (by decide) ?_
  refine lv_istore_n (lv' := [(2, .int 0), (0, .ref h0), (1, .int p1)]) hx hb dX5_clear_1 rfl hl (by decide) rfl (fun ls hl => ?_)
  have loop_1 : ∀ (n_2 : Nat) (i_4 : Int32) (f_5 : Nat → Int32) (H : Heap) (locs : List Loc) (ls : Array Slot), (145 - (i_4).toInt).toNat < n_2 → (((0 : Int) ≤ (i_4).toInt ∧ (i_4).toInt ≤ (144 : Int))) → va_P (dC, dI) vwCl [(h0, .inr (5, [h0_0, h0_1, .ref h1, h0_3, h0_4, h0_5, h0_6, h0_7, h0_8, h0_9])), (h1, .inl (ch1, 11520, .inl f_5))] H → va_D A [(h0, .inr (5, [h0_0, h0_1, .ref h1, h0_3, h0_4, h0_5, h0_6, h0_7, h0_8, h0_9])), (h1, .inl (ch1, 11520, .inl f_5))] → va_S A s.heap H locs → lv_has ls 3 [(2, .int i_4), (0, .ref h0), (1, .int p1)] → W p l e ({ frames := 0, cells := 0, slots := 0, locals := 0 } : Room) s m ([.ref h0, .int p1] : List Value).toArray below meth c H locs 0 0 QQ (F0 m 2 ls []) := by
    intro n_2
    induction n_2 with
    | zero => intro i_4 f_5 H locs ls hm; exact absurd hm (Nat.not_lt_zero _)
    | succ n_2 ih_3 =>
      intro i_4 f_5 H locs ls hm hF_6 hP hD hS hl
      refine lv_iload_n hx hb dX5_clear_2 rfl (lv_at hl 0 rfl) ?_
      refine lv_sipush (v := 144) hx hb dX5_clear_3 (by decide) ?_
      refine lv_icmp_ge (tgt := 28) hx hb dX5_clear_6 (by decide) (fun c_7 => ?_) (fun c_7 => ?_)
      · have k_8 : (144 : Int) ≤ (i_4).toInt := z_le c_7
        obtain rfl : i_4 = 144 := z_eq' (show (i_4).toInt = (144 : Int) by omega)
        refine z_backQ hQQ ?_
        have hP9 := hP
        have hD9 := hD
        have hK9 := hK.sub (tys' := []) [] rfl
        refine W.widen (k := 0) (n := 0) (Nat.le_of_ble_eq_true rfl) (Nat.le_of_ble_eq_true rfl) ?_
        exact W.vret hx hb hr (fun t ht hW => ⟨⟨(), rfl, trivial, ⟨f_5, by rw [ht]; exact hP9, va_K.moved hW.alike hK9, hD9⟩⟩, hS.F ht⟩) hS.2.2 dX5_clear_28
      · have k_10 : (144 : Int) > (i_4).toInt := z_nle c_7
        refine lv_aload_n hx hb dX5_clear_9 rfl (lv_at hl 1 rfl) ?_
        refine va_get (D := (dC, dI)) (ci := 5) (v := .ref h1) (C := RX5) (T := TX5) (N := 10) hx hb hts hiX5 hown hK hP 0 rfl rfl 2 (by decide) w__fieldLink_RX5_18_ShellHeap_Pantry_found_I_ (fun _ h9 => h9) rfl dX5_clear_10 ?_
        refine lv_iload_n hx hb dX5_clear_13 rfl (lv_at hl 2 rfl) ?_
        refine lv_sipush (v := 144) hx hb dX5_clear_14 (by decide) ?_
        refine lv_imul hx hb dX5_clear_17 ?_
        refine lv_topi (fun z_11 ez_11 => ?_)
        have kz_11 : (z_11).toInt = (p1).toInt * (144 : Int) := by rw [ez_11]; exact z_mul (a := (p1).toInt) (b := (144 : Int)) rfl rfl (by omega) (by omega)
        refine lv_iload_n hx hb dX5_clear_18 rfl (lv_at hl 0 rfl) ?_
        refine lv_iadd hx hb dX5_clear_19 ?_
        refine lv_topi (fun z_12 ez_12 => ?_)
        have kz_12 : (z_12).toInt = (z_11).toInt + (i_4).toInt := by rw [ez_12]; exact z_add (a := (z_11).toInt) (b := (i_4).toInt) rfl rfl (by omega) (by omega)
        refine lv_iconst (v := 0) hx hb dX5_clear_20 (by decide) ?_
        refine va_iast hx hb hK hP hD hS 1 0 rfl rfl (z_vpin (by omega) (by omega)) dX5_clear_21 (fun H_13 locs hP hD hS => ?_)
        obtain ⟨hP, hD⟩ := z_s_1 hP hD
        generalize (upd f_5 (z_12 : Int32).toNatClampNeg 0) = f_14 at hP hD
        obtain ⟨z_15, ez_15⟩ : ∃ y : Int32, y = i_4 + 1 := ⟨_, rfl⟩
        have kz_15 : (z_15).toInt = (i_4).toInt + (1 : Int) := by rw [ez_15]; exact z_add (b := 1) rfl rfl (z_al hF_6.1 (by decide)) (z_ah hF_6.2 (by decide))
        refine lv_iinc (v := z_15) (lv' := [(2, .int z_15), (0, .ref h0), (1, .int p1)]) hx hb dX5_clear_22 hl (k := 0) rfl (by rw [ez_15]; rfl) (by decide) rfl (fun ls hl => ?_)
        refine lv_goto (tgt := 2) hx hb dX5_clear_25 (by decide) ?_
        exact ih_3 z_15 f_14 _ _ _ (show (145 - (z_15).toInt).toNat < n_2 by omega) (show ((0 : Int) ≤ (z_15).toInt ∧ (z_15).toInt ≤ (144 : Int)) by omega) hP hD hS (lv_sub hl [0, 1, 2] rfl)
  exact loop_1 _ 0 fh1 _ _ _ (Nat.lt_succ_self _) (show ((0 : Int) ≤ (0 : Int) ∧ (0 : Int) ≤ (144 : Int)) by omega) hP hD hS hl
def u_s_X5_add : List Cond := .code yX5_add cX5_add 6 none :: ([.fieldLink RX5 18 "ShellHeap$Pantry" "found" "[I"] ++ (wsX50 ++ []))
theorem gd_s_X5_add : z_gd u_s_X5_add := z_gdc (by decide +kernel) (z_gda gdX5 (z_gd0))
set_option maxHeartbeats 4000000 in
set_option maxRecDepth 100000 in
theorem s_X5_add (l : Launch) (dC : Nat → ClassId) (dI : Nat → Nat → Nat) (sz : Nat) (h0 : Nat) (p1 : Int32) (p2 : Int32) (p3 : Int32) (p4 : Int32) (p5 : Int32) (h0_0 : Value) (h0_1 : Value) (h1 : Nat) (h0_3 : Value) (h0_4 : Value) (h0_5 : Value) (h0_6 : Value) (h0_7 : Value) (h0_8 : Value) (h0_9 : Value) (ch1 : ClassId) (fh1 : Nat → Int32) (hB_p1 : ((0 : Int) ≤ (p1).toInt ∧ (p1).toInt ≤ (79 : Int))) (hB_p2 : ((0 : Int) ≤ (p2).toInt ∧ (p2).toInt ≤ (5 : Int))) (hB_p3 : ((0 : Int) ≤ (p3).toInt ∧ (p3).toInt ≤ (3 : Int))) (hB_p4 : ((0 : Int) ≤ (p4).toInt ∧ (p4).toInt ≤ (5 : Int))) : Met l yX5_add u_s_X5_add ({ frames := 0, cells := 0, slots := 0, locals := 0 }) (va_Pc [.ref h0, .int p1, .int p2, .int p3, .int p4, .int p5] (z_C (dC, dI) vwCl [(h0, .inr (5, [h0_0, h0_1, .ref h1, h0_3, h0_4, h0_5, h0_6, h0_7, h0_8, h0_9])), (h1, .inl (ch1, 11520, .inl fh1))] [(ch1, .int)] sz)) (va_Qv (fun (_ : Unit) => True) (fun (_ : Unit) (t : State) => ∃ (g_h1 : Nat → Int32), va_P (dC, dI) vwCl [(h0, .inr (5, [h0_0, h0_1, .ref h1, h0_3, h0_4, h0_5, h0_6, h0_7, h0_8, h0_9])), (h1, .inl (ch1, 11520, .inl g_h1))] t.heap ∧ va_K (dC, dI) vwCl [] t ∧ va_D (va_A [(h0, .inr (5, [h0_0, h0_1, .ref h1, h0_3, h0_4, h0_5, h0_6, h0_7, h0_8, h0_9])), (h1, .inl (ch1, 11520, .inl fh1))] sz) [(h0, .inr (5, [h0_0, h0_1, .ref h1, h0_3, h0_4, h0_5, h0_6, h0_7, h0_8, h0_9])), (h1, .inl (ch1, 11520, .inl g_h1))]) (va_A [(h0, .inr (5, [h0_0, h0_1, .ref h1, h0_3, h0_4, h0_5, h0_6, h0_7, h0_8, h0_9])), (h1, .inl (ch1, 11520, .inl fh1))] sz)) 0 0 (va_A [(h0, .inr (5, [h0_0, h0_1, .ref h1, h0_3, h0_4, h0_5, h0_6, h0_7, h0_8, h0_9])), (h1, .inl (ch1, 11520, .inl fh1))] sz) := by
  refine Met.ofW (cc := cX5_add) (maxL := 6) (ret := none) (by decide) rfl ?_
  intro p e s m args below meth c s₁ B hml hv
  obtain ⟨rfl, hsz, hP, hK, hD0⟩ := hv
  have hx := B.exec
  have hb := B.bytes
  have hr := B.returns
  have hts := atoms_spec (ws := u_s_X5_add) B.pre
  have hown : s.vm.findClass RX5 = some m.cls := findClass_of_methodNamed B.named
  have hlocks := B.notSynchronized
  subst hsz
  have hD := hD0.self (sz := s.heap.size)
  generalize hAe : va_A [(h0, .inr (5, [h0_0, h0_1, .ref h1, h0_3, h0_4, h0_5, h0_6, h0_7, h0_8, h0_9])), (h1, .inl (ch1, 11520, .inl fh1))] s.heap.size = A at hD ⊢
  have hA : ∀ q : Nat, s.heap.size ≤ q → A q := fun q h => by rw [← hAe]; exact Or.inr h
  have hS : va_S A s.heap s.heap [] := va_S.rf
  have hP : va_P (dC, dI) vwCl [(h0, .inr (5, [h0_0, h0_1, .ref h1, h0_3, h0_4, h0_5, h0_6, h0_7, h0_8, h0_9])), (h1, .inl (ch1, 11520, .inl fh1))] s.heap := hP
  have w__fieldLink_RX5_18_ShellHeap_Pantry_found_I_ := hts (.fieldLink RX5 18 "ShellHeap$Pantry" "found" "[I") (z_mc (z_ml z_m0))
  have hiX5 := show ∀ w ∈ u_ws RX5 TX5 10, w ∈ u_s_X5_add from fun w h => z_mc (z_mr (z_ml h))
  have krr_p5 := z_rng p5
  have hl := lv_entry ([.ref h0, .int p1, .int p2, .int p3, .int p4, .int p5]) (n := 6) (Nat.le_of_ble_eq_true rfl)
  rw [lg_entry_eq]
  generalize (lg_sl ([.ref h0, .int p1, .int p2, .int p3, .int p4, .int p5]) ++ List.replicate (6 - (lg_sl ([.ref h0, .int p1, .int p2, .int p3, .int p4, .int p5])).length) Slot.unset).toArray = ls at hl ⊢
  have hl : lv_has ls 6 [(0, .ref h0), (1, .int p1), (2, .int p2), (3, .int p3), (4, .int p4), (5, .int p5)] := hl
  refine lv_aload_n hx hb dX5_add_0 rfl (lv_at hl 0 rfl) ?_
  refine va_get (D := (dC, dI)) (ci := 5) (v := .ref h1) (C := RX5) (T := TX5) (N := 10) hx hb hts hiX5 hown hK hP 0 rfl rfl 2 (by decide) w__fieldLink_RX5_18_ShellHeap_Pantry_found_I_ (fun _ h9 => h9) rfl dX5_add_1 ?_
  refine lv_iload_n hx hb dX5_add_4 rfl (lv_at hl 1 rfl) ?_
  refine lv_sipush (v := 144) hx hb dX5_add_5 (by decide) ?_
  refine lv_imul hx hb dX5_add_8 ?_
  refine lv_topi (fun z_1 ez_1 => ?_)
  have kz_1 : (z_1).toInt = (p1).toInt * (144 : Int) := by rw [ez_1]; exact z_mul (a := (p1).toInt) (b := (144 : Int)) rfl rfl (by omega) (by omega)
  refine lv_iload_n hx hb dX5_add_9 rfl (lv_at hl 2 rfl) ?_
  refine lv_iconst (v := 4) hx hb dX5_add_10 (by decide) ?_
  refine lv_imul hx hb dX5_add_11 ?_
  refine lv_topi (fun z_2 ez_2 => ?_)
  have kz_2 : (z_2).toInt = (p2).toInt * (4 : Int) := by rw [ez_2]; exact z_mul (a := (p2).toInt) (b := (4 : Int)) rfl rfl (by omega) (by omega)
  refine lv_iload_n hx hb dX5_add_12 rfl (lv_at hl 3 rfl) ?_
  refine lv_iadd hx hb dX5_add_13 ?_
  refine lv_topi (fun z_3 ez_3 => ?_)
  have kz_3 : (z_3).toInt = (z_2).toInt + (p3).toInt := by rw [ez_3]; exact z_add (a := (z_2).toInt) (b := (p3).toInt) rfl rfl (by omega) (by omega)
  refine lv_bipush (v := 6) hx hb dX5_add_14 (by decide) ?_
  refine lv_imul hx hb dX5_add_16 ?_
  refine lv_topi (fun z_4 ez_4 => ?_)
  have kz_4 : (z_4).toInt = (z_3).toInt * (6 : Int) := by rw [ez_4]; exact z_mul (a := (z_3).toInt) (b := (6 : Int)) rfl rfl (by omega) (by omega)
  refine lv_iadd hx hb dX5_add_17 ?_
  refine lv_topi (fun z_5 ez_5 => ?_)
  have kz_5 : (z_5).toInt = (z_1).toInt + (z_4).toInt := by rw [ez_5]; exact z_add (a := (z_1).toInt) (b := (z_4).toInt) rfl rfl (by omega) (by omega)
  refine lv_iload hx hb dX5_add_18 (lv_at hl 4 rfl) ?_
  refine lv_iadd hx hb dX5_add_20 ?_
  refine lv_topi (fun z_6 ez_6 => ?_)
  have kz_6 : (z_6).toInt = (z_5).toInt + (p4).toInt := by rw [ez_6]; exact z_add (a := (z_5).toInt) (b := (p4).toInt) rfl rfl (by omega) (by omega)
  refine lv_dup2_11 hx hb dX5_add_21 rfl rfl ?_
  refine va_iald hx hb hK hP 1 0 rfl rfl (z_vpin (by omega) (by omega)) dX5_add_22 ?_
  refine lv_topi (fun z_7 ez_7 => ?_)
  refine lv_iload hx hb dX5_add_23 (lv_at hl 5 rfl) ?_
  refine lv_iadd hx hb dX5_add_25 ?_
  refine lv_topi (fun z_8 ez_8 => ?_)
  refine va_iast hx hb hK hP hD hS 1 0 rfl rfl (z_vpin (by omega) (by omega)) dX5_add_26 (fun H_9 locs hP hD hS => ?_)
  obtain ⟨hP, hD⟩ := z_s_1 hP hD
  generalize (upd fh1 (z_6 : Int32).toNatClampNeg z_8) = f_10 at hP hD
  have hP9 := hP
  have hD9 := hD
  have hK9 := hK.sub (tys' := []) [] rfl
  refine W.widen (k := 0) (n := 0) (Nat.le_of_ble_eq_true rfl) (Nat.le_of_ble_eq_true rfl) ?_
  exact W.vret hx hb hr (fun t ht hW => ⟨⟨(), rfl, trivial, ⟨f_10, by rw [ht]; exact hP9, va_K.moved hW.alike hK9, hD9⟩⟩, hS.F ht⟩) hS.2.2 dX5_add_27
def u_s_X5_hinges : List Cond := .code yX5_hinges cX5_hinges 10 (some .long) :: ([.fieldLink RX5 21 "ShellHeap$Pantry" "ofBed" "[J", .fieldLink RX5 15 "ShellHeap$Pantry" "valvesOf" "[I", .methodLink RX5 66 Lib.MathLoose.max_long.x, .static Lib.MathLoose.max_long.x, .initialized "java/lang/Math", .code Lib.MathLoose.max_long.x Lib.MathLoose.max_long.code 4 (some .long)] ++ (wsX50 ++ []))
theorem gd_s_X5_hinges : z_gd u_s_X5_hinges := z_gdc (by decide +kernel) (z_gda gdX5 (z_gd0))
set_option maxHeartbeats 4000000 in
set_option maxRecDepth 100000 in
theorem s_X5_hinges (l : Launch) (dC : Nat → ClassId) (dI : Nat → Nat → Nat) (sz : Nat) (h0 : Nat) (p1 : Int32) (p2 : Int32) (h0_0 : Value) (h1 : Nat) (h0_2 : Value) (h2 : Nat) (h0_4 : Value) (h0_5 : Value) (h0_6 : Value) (h0_7 : Value) (h0_8 : Value) (h0_9 : Value) (ch1 : ClassId) (fh1 : Nat → Int32) (ch2 : ClassId) (fh2 : Nat → Int64) (hB_p1 : ((0 : Int) ≤ (p1).toInt ∧ (p1).toInt ≤ (5 : Int))) (hB_p2 : ((0 : Int) ≤ (p2).toInt ∧ (p2).toInt ≤ (3 : Int))) : Met l yX5_hinges u_s_X5_hinges ({ frames := 1, cells := 0, slots := 0, locals := 15 }) (va_Pc [.ref h0, .int p1, .int p2] (z_C (dC, dI) vwCl [(h0, .inr (5, [h0_0, .ref h1, h0_2, .ref h2, h0_4, h0_5, h0_6, h0_7, h0_8, h0_9])), (h1, .inl (ch1, 6, .inl fh1)), (h2, .inl (ch2, 144, .inr (.inl fh2)))] [(ch1, .int), (ch2, .long)] sz)) (va_Ql (fun (r : Int64) (_ : Unit) => True) (fun (_ : Unit) (_ : State) => True) (va_A [] sz)) 0 0 (va_A [] sz) := by
  refine Met.ofW (cc := cX5_hinges) (maxL := 10) (ret := (some .long)) (by decide) rfl ?_
  intro p e s m args below meth c s₁ B hml hv
  obtain ⟨rfl, hsz, hP, hK, hD0⟩ := hv
  have hx := B.exec
  have hb := B.bytes
  have hr := B.returns
  have hts := atoms_spec (ws := u_s_X5_hinges) B.pre
  have hown : s.vm.findClass RX5 = some m.cls := findClass_of_methodNamed B.named
  have hlocks := B.notSynchronized
  subst hsz
  have hD := hD0
  generalize hAe : va_A [] s.heap.size = A
  have hA : ∀ q : Nat, s.heap.size ≤ q → A q := fun q h => by rw [← hAe]; exact Or.inr h
  have hS : va_S A s.heap s.heap [] := va_S.rf
  have hP : va_P (dC, dI) vwCl [(h0, .inr (5, [h0_0, .ref h1, h0_2, .ref h2, h0_4, h0_5, h0_6, h0_7, h0_8, h0_9])), (h1, .inl (ch1, 6, .inl fh1)), (h2, .inl (ch2, 144, .inr (.inl fh2)))] s.heap := hP
  have w__fieldLink_RX5_21_ShellHeap_Pantry_ofBed_J_ := hts (.fieldLink RX5 21 "ShellHeap$Pantry" "ofBed" "[J") (z_mc (z_ml z_m0))
  have hiX5 := show ∀ w ∈ u_ws RX5 TX5 10, w ∈ u_s_X5_hinges from fun w h => z_mc (z_mr (z_ml h))
  have w__fieldLink_RX5_15_ShellHeap_Pantry_valvesOf_I_ := hts (.fieldLink RX5 15 "ShellHeap$Pantry" "valvesOf" "[I") (z_mc (z_ml z_m1))
  have w__methodLink_RX5_66_Lib_MathLoose_max_long_x := hts (.methodLink RX5 66 Lib.MathLoose.max_long.x) (z_mc (z_ml z_m2))
  have w__static_Lib_MathLoose_max_long_x := hts (.static Lib.MathLoose.max_long.x) (z_mc (z_ml z_m3))
  have w__initialized_java_lang_Math_ := hts (.initialized "java/lang/Math") (z_mc (z_ml z_m4))
  have w__code_Lib_MathLoose_max_long_x_Lib_MathLoose_max_long_code_4_some_long_ := hts (.code Lib.MathLoose.max_long.x Lib.MathLoose.max_long.code 4 (some .long)) (z_mc (z_ml z_m5))
  have hl := lv_entry ([.ref h0, .int p1, .int p2]) (n := 10) (Nat.le_of_ble_eq_true rfl)
  rw [lg_entry_eq]
  generalize (lg_sl ([.ref h0, .int p1, .int p2]) ++ List.replicate (10 - (lg_sl ([.ref h0, .int p1, .int p2])).length) Slot.unset).toArray = ls at hl ⊢
  have hl : lv_has ls 10 [(0, .ref h0), (1, .int p1), (2, .int p2)] := hl
  refine lv_iload_n hx hb dX5_hinges_0 rfl (lv_at hl 1 rfl) ?_
  refine lv_iconst (v := 4) hx hb dX5_hinges_1 (by decide) ?_
  refine lv_imul hx hb dX5_hinges_2 ?_
  refine lv_topi (fun z_1 ez_1 => ?_)
  have kz_1 : (z_1).toInt = (p1).toInt * (4 : Int) := by rw [ez_1]; exact z_mul (a := (p1).toInt) (b := (4 : Int)) rfl rfl (by omega) (by omega)
  refine lv_iload_n hx hb dX5_hinges_3 rfl (lv_at hl 2 rfl) ?_
  refine lv_iadd hx hb dX5_hinges_4 ?_
  refine lv_topi (fun z_2 ez_2 => ?_)
  have kz_2 : (z_2).toInt = (z_1).toInt + (p2).toInt := by rw [ez_2]; exact z_add (a := (z_1).toInt) (b := (p2).toInt) rfl rfl (by omega) (by omega)
  refine lv_bipush (v := 6) hx hb dX5_hinges_5 (by decide) ?_
  refine lv_imul hx hb dX5_hinges_7 ?_
  refine lv_topi (fun z_3 ez_3 => ?_)
  have kz_3 : (z_3).toInt = (z_2).toInt * (6 : Int) := by rw [ez_3]; exact z_mul (a := (z_2).toInt) (b := (6 : Int)) rfl rfl (by omega) (by omega)
  refine lv_istore_n (lv' := [(3, .int z_3), (0, .ref h0), (1, .int p1), (2, .int p2)]) hx hb dX5_hinges_8 rfl hl (by decide) rfl (fun ls hl => ?_)
  refine lv_aload_n hx hb dX5_hinges_9 rfl (lv_at hl 1 rfl) ?_
  refine va_get (D := (dC, dI)) (ci := 5) (v := .ref h2) (C := RX5) (T := TX5) (N := 10) hx hb hts hiX5 hown hK hP 0 rfl rfl 3 (by decide) w__fieldLink_RX5_21_ShellHeap_Pantry_ofBed_J_ (fun _ h9 => h9) rfl dX5_hinges_10 ?_
  refine lv_iload_n hx hb dX5_hinges_13 rfl (lv_at hl 0 rfl) ?_
  refine lv_iconst (v := 0) hx hb dX5_hinges_14 (by decide) ?_
  refine lv_iadd hx hb dX5_hinges_15 ?_
  refine lv_topi (fun z_4 ez_4 => ?_)
  have kz_4 : (z_4).toInt = (z_3).toInt + (0 : Int) := by rw [ez_4]; exact z_add (a := (z_3).toInt) (b := (0 : Int)) rfl rfl (by omega) (by omega)
  refine va_lald hx hb hK hP 2 1 rfl rfl (z_vpin (by omega) (by omega)) dX5_hinges_16 ?_
  refine lv_topl (fun z_5 ez_5 => ?_)
  refine lv_lstore (lv' := [(4, .long z_5), (3, .int z_3), (0, .ref h0), (1, .int p1), (2, .int p2)]) hx hb dX5_hinges_17 hl (by decide) rfl (fun ls hl => ?_)
  refine lv_aload_n hx hb dX5_hinges_19 rfl (lv_at hl 2 rfl) ?_
  refine va_get (D := (dC, dI)) (ci := 5) (v := .ref h2) (C := RX5) (T := TX5) (N := 10) hx hb hts hiX5 hown hK hP 0 rfl rfl 3 (by decide) w__fieldLink_RX5_21_ShellHeap_Pantry_ofBed_J_ (fun _ h9 => h9) rfl dX5_hinges_20 ?_
  refine lv_iload_n hx hb dX5_hinges_23 rfl (lv_at hl 1 rfl) ?_
  refine lv_iconst (v := 1) hx hb dX5_hinges_24 (by decide) ?_
  refine lv_iadd hx hb dX5_hinges_25 ?_
  refine lv_topi (fun z_6 ez_6 => ?_)
  have kz_6 : (z_6).toInt = (z_3).toInt + (1 : Int) := by rw [ez_6]; exact z_add (a := (z_3).toInt) (b := (1 : Int)) rfl rfl (by omega) (by omega)
  refine va_lald hx hb hK hP 2 1 rfl rfl (z_vpin (by omega) (by omega)) dX5_hinges_26 ?_
  refine lv_topl (fun z_7 ez_7 => ?_)
  refine lv_lstore (lv' := [(6, .long z_7), (4, .long z_5), (3, .int z_3), (0, .ref h0), (1, .int p1), (2, .int p2)]) hx hb dX5_hinges_27 hl (by decide) rfl (fun ls hl => ?_)
  refine lv_aload_n hx hb dX5_hinges_29 rfl (lv_at hl 3 rfl) ?_
  refine va_get (D := (dC, dI)) (ci := 5) (v := .ref h1) (C := RX5) (T := TX5) (N := 10) hx hb hts hiX5 hown hK hP 0 rfl rfl 1 (by decide) w__fieldLink_RX5_15_ShellHeap_Pantry_valvesOf_I_ (fun _ h9 => h9) rfl dX5_hinges_30 ?_
  refine lv_iload_n hx hb dX5_hinges_33 rfl (lv_at hl 4 rfl) ?_
  refine va_iald hx hb hK hP 1 0 rfl rfl (z_vpinB hB_p1 (by decide) (by decide)) dX5_hinges_34 ?_
  refine lv_topi (fun z_8 ez_8 => ?_)
  refine lv_iconst (v := 1) hx hb dX5_hinges_35 (by decide) ?_
  refine lv_icmp_ne (tgt := 47) hx hb dX5_hinges_36 (by decide) (fun c_9 => ?_) (fun c_9 => ?_)
  · have k_10 : (z_8).toInt ≠ (1 : Int) := z_ne c_9
    refine lv_lload hx hb dX5_hinges_47 (lv_at hl 1 rfl) ?_
    refine lv_lload hx hb dX5_hinges_49 (lv_at hl 0 rfl) ?_
    refine va_mmax_long hx hb (hml.trans hl.1.symm) hown w__methodLink_RX5_66_Lib_MathLoose_max_long_x w__static_Lib_MathLoose_max_long_x w__initialized_java_lang_Math_ w__code_Lib_MathLoose_max_long_x_Lib_MathLoose_max_long_code_4_some_long_ (Nat.le_of_ble_eq_true rfl) (Nat.le_of_ble_eq_true rfl) (Nat.le_of_ble_eq_true rfl) (Nat.le_of_ble_eq_true rfl) dX5_hinges_51 ?_
    refine lv_topl (fun z_11 ez_11 => ?_)
    refine lv_lstore (lv' := [(8, .long z_11), (6, .long z_7), (4, .long z_5), (3, .int z_3), (0, .ref h0), (1, .int p1), (2, .int p2)]) hx hb dX5_hinges_54 hl (by decide) rfl (fun ls hl => ?_)
    refine lv_aload_n hx hb dX5_hinges_56 rfl (lv_at hl 4 rfl) ?_
    refine va_get (D := (dC, dI)) (ci := 5) (v := .ref h2) (C := RX5) (T := TX5) (N := 10) hx hb hts hiX5 hown hK hP 0 rfl rfl 3 (by decide) w__fieldLink_RX5_21_ShellHeap_Pantry_ofBed_J_ (fun _ h9 => h9) rfl dX5_hinges_57 ?_
    refine lv_iload_n hx hb dX5_hinges_60 rfl (lv_at hl 3 rfl) ?_
    refine lv_iconst (v := 2) hx hb dX5_hinges_61 (by decide) ?_
    refine lv_iadd hx hb dX5_hinges_62 ?_
    refine lv_topi (fun z_12 ez_12 => ?_)
    have kz_12 : (z_12).toInt = (z_3).toInt + (2 : Int) := by rw [ez_12]; exact z_add (a := (z_3).toInt) (b := (2 : Int)) rfl rfl (by omega) (by omega)
    refine va_lald hx hb hK hP 2 1 rfl rfl (z_vpin (by omega) (by omega)) dX5_hinges_63 ?_
    refine lv_topl (fun z_13 ez_13 => ?_)
    refine lv_lload hx hb dX5_hinges_64 (lv_at hl 0 rfl) ?_
    refine lv_ladd hx hb dX5_hinges_66 ?_
    refine lv_topl (fun z_14 ez_14 => ?_)
    refine W.widen (k := 0) (n := 0) (Nat.le_of_ble_eq_true rfl) (Nat.le_of_ble_eq_true rfl) ?_
    exact W.lret (v := z_14) hx hb hr (fun t ht hW => ⟨⟨z_14, (), rfl, trivial, trivial⟩, hS.F ht⟩) hS.2.2 dX5_hinges_67
  · have k_15 : (z_8).toInt = (1 : Int) := z_eq c_9
    obtain rfl : z_8 = 1 := z_eq' (show (z_8).toInt = (1 : Int) by omega)
    refine lv_lload hx hb dX5_hinges_39 (lv_at hl 1 rfl) ?_
    refine lv_lload hx hb dX5_hinges_41 (lv_at hl 0 rfl) ?_
    refine lv_ladd hx hb dX5_hinges_43 ?_
    refine lv_topl (fun z_17 ez_17 => ?_)
    refine lv_goto (tgt := 54) hx hb dX5_hinges_44 (by decide) ?_
    refine lv_lstore (lv' := [(8, .long z_17), (6, .long z_7), (4, .long z_5), (3, .int z_3), (0, .ref h0), (1, .int p1), (2, .int p2)]) hx hb dX5_hinges_54 hl (by decide) rfl (fun ls hl => ?_)
    refine lv_aload_n hx hb dX5_hinges_56 rfl (lv_at hl 4 rfl) ?_
    refine va_get (D := (dC, dI)) (ci := 5) (v := .ref h2) (C := RX5) (T := TX5) (N := 10) hx hb hts hiX5 hown hK hP 0 rfl rfl 3 (by decide) w__fieldLink_RX5_21_ShellHeap_Pantry_ofBed_J_ (fun _ h9 => h9) rfl dX5_hinges_57 ?_
    refine lv_iload_n hx hb dX5_hinges_60 rfl (lv_at hl 3 rfl) ?_
    refine lv_iconst (v := 2) hx hb dX5_hinges_61 (by decide) ?_
    refine lv_iadd hx hb dX5_hinges_62 ?_
    refine lv_topi (fun z_18 ez_18 => ?_)
    have kz_18 : (z_18).toInt = (z_3).toInt + (2 : Int) := by rw [ez_18]; exact z_add (a := (z_3).toInt) (b := (2 : Int)) rfl rfl (by omega) (by omega)
    refine va_lald hx hb hK hP 2 1 rfl rfl (z_vpin (by omega) (by omega)) dX5_hinges_63 ?_
    refine lv_topl (fun z_19 ez_19 => ?_)
    refine lv_lload hx hb dX5_hinges_64 (lv_at hl 0 rfl) ?_
    refine lv_ladd hx hb dX5_hinges_66 ?_
    refine lv_topl (fun z_20 ez_20 => ?_)
    refine W.widen (k := 0) (n := 0) (Nat.le_of_ble_eq_true rfl) (Nat.le_of_ble_eq_true rfl) ?_
    exact W.lret (v := z_20) hx hb hr (fun t ht hW => ⟨⟨z_20, (), rfl, trivial, trivial⟩, hS.F ht⟩) hS.2.2 dX5_hinges_67
def u_s_X5_putRight : List Cond := .code yX5_putRight cX5_putRight 10 none :: ([.fieldLink RX5 28 "ShellHeap$Pantry" "leastNumber" "[J", .fieldLink RX5 31 "ShellHeap$Pantry" "righted" "[J", .constantLong RX5 64 (720720), .methodLink RX5 58 yX5_hinges, .instanceMethod yX5_hinges, .selects RX5 yX5_hinges yX5_hinges, .initialized RX5, .fieldLink RX5 25 "ShellHeap$Pantry" "keeps" "[I", .constantLong RX5 62 (16)] ++ (wsX50 ++ (u_s_X5_hinges ++ [])))
theorem gd_s_X5_putRight : z_gd u_s_X5_putRight := z_gdc (by decide +kernel) (z_gda gdX5 (z_gda gd_s_X5_hinges (z_gd0)))
set_option maxRecDepth 20000 in
theorem gw_s_X5_putRight_s_X5_hinges_58 : GoodIn u_s_X5_putRight (wsV RX5 58 RX5 yX5_hinges u_s_X5_hinges) := z_gV (z_gr _ [4, 5, 6, 7] rfl (by decide +kernel)) (fun w h => ⟨z_mc (z_mr (z_mr (z_ml h))), gd_s_X5_hinges w h⟩)
set_option maxHeartbeats 4000000 in
set_option maxRecDepth 100000 in
theorem s_X5_putRight (l : Launch) (dC : Nat → ClassId) (dI : Nat → Nat → Nat) (sz : Nat) (h0 : Nat) (p1 : Int32) (h0_0 : Value) (h1 : Nat) (h0_2 : Value) (h2 : Nat) (h3 : Nat) (h4 : Nat) (h5 : Nat) (h0_7 : Value) (h0_8 : Value) (h0_9 : Value) (ch1 : ClassId) (fh1 : Nat → Int32) (ch2 : ClassId) (fh2 : Nat → Int64) (ch3 : ClassId) (fh3 : Nat → Int32) (ch4 : ClassId) (fh4 : Nat → Int64) (ch5 : ClassId) (fh5 : Nat → Int64) (hB_p1 : ((0 : Int) ≤ (p1).toInt ∧ (p1).toInt ≤ (5 : Int))) : Met l yX5_putRight u_s_X5_putRight ({ frames := 2, cells := 0, slots := 0, locals := 44 }) (va_Pc [.ref h0, .int p1] (z_C (dC, dI) vwCl [(h0, .inr (5, [h0_0, .ref h1, h0_2, .ref h2, .ref h3, .ref h4, .ref h5, h0_7, h0_8, h0_9])), (h1, .inl (ch1, 6, .inl fh1)), (h2, .inl (ch2, 144, .inr (.inl fh2))), (h3, .inl (ch3, 24, .inl fh3)), (h4, .inl (ch4, 6, .inr (.inl fh4))), (h5, .inl (ch5, 6, .inr (.inl fh5)))] [(ch1, .int), (ch2, .long), (ch3, .int), (ch4, .long), (ch5, .long)] sz)) (va_Qv (fun (_ : Unit) => True) (fun (_ : Unit) (t : State) => ∃ (g_h4 : Nat → Int64), ∃ (g_h5 : Nat → Int64), va_P (dC, dI) vwCl [(h0, .inr (5, [h0_0, .ref h1, h0_2, .ref h2, .ref h3, .ref h4, .ref h5, h0_7, h0_8, h0_9])), (h1, .inl (ch1, 6, .inl fh1)), (h2, .inl (ch2, 144, .inr (.inl fh2))), (h3, .inl (ch3, 24, .inl fh3)), (h4, .inl (ch4, 6, .inr (.inl g_h4))), (h5, .inl (ch5, 6, .inr (.inl g_h5)))] t.heap ∧ va_K (dC, dI) vwCl [] t ∧ va_D (va_A [(h0, .inr (5, [h0_0, .ref h1, h0_2, .ref h2, .ref h3, .ref h4, .ref h5, h0_7, h0_8, h0_9])), (h1, .inl (ch1, 6, .inl fh1)), (h2, .inl (ch2, 144, .inr (.inl fh2))), (h3, .inl (ch3, 24, .inl fh3)), (h4, .inl (ch4, 6, .inr (.inl fh4))), (h5, .inl (ch5, 6, .inr (.inl fh5)))] sz) [(h0, .inr (5, [h0_0, .ref h1, h0_2, .ref h2, .ref h3, .ref h4, .ref h5, h0_7, h0_8, h0_9])), (h1, .inl (ch1, 6, .inl fh1)), (h2, .inl (ch2, 144, .inr (.inl fh2))), (h3, .inl (ch3, 24, .inl fh3)), (h4, .inl (ch4, 6, .inr (.inl g_h4))), (h5, .inl (ch5, 6, .inr (.inl g_h5)))]) (va_A [(h0, .inr (5, [h0_0, .ref h1, h0_2, .ref h2, .ref h3, .ref h4, .ref h5, h0_7, h0_8, h0_9])), (h1, .inl (ch1, 6, .inl fh1)), (h2, .inl (ch2, 144, .inr (.inl fh2))), (h3, .inl (ch3, 24, .inl fh3)), (h4, .inl (ch4, 6, .inr (.inl fh4))), (h5, .inl (ch5, 6, .inr (.inl fh5)))] sz)) 0 0 (va_A [(h0, .inr (5, [h0_0, .ref h1, h0_2, .ref h2, .ref h3, .ref h4, .ref h5, h0_7, h0_8, h0_9])), (h1, .inl (ch1, 6, .inl fh1)), (h2, .inl (ch2, 144, .inr (.inl fh2))), (h3, .inl (ch3, 24, .inl fh3)), (h4, .inl (ch4, 6, .inr (.inl fh4))), (h5, .inl (ch5, 6, .inr (.inl fh5)))] sz) := by
  refine Met.ofW (cc := cX5_putRight) (maxL := 10) (ret := none) (by decide) rfl ?_
  intro p e s m args below meth c s₁ B hml hv
  obtain ⟨rfl, hsz, hP, hK, hD0⟩ := hv
  have hx := B.exec
  have hb := B.bytes
  have hr := B.returns
  have hts := atoms_spec (ws := u_s_X5_putRight) B.pre
  have hown : s.vm.findClass RX5 = some m.cls := findClass_of_methodNamed B.named
  have hlocks := B.notSynchronized
  subst hsz
  have hD := hD0.self (sz := s.heap.size)
  generalize hAe : va_A [(h0, .inr (5, [h0_0, .ref h1, h0_2, .ref h2, .ref h3, .ref h4, .ref h5, h0_7, h0_8, h0_9])), (h1, .inl (ch1, 6, .inl fh1)), (h2, .inl (ch2, 144, .inr (.inl fh2))), (h3, .inl (ch3, 24, .inl fh3)), (h4, .inl (ch4, 6, .inr (.inl fh4))), (h5, .inl (ch5, 6, .inr (.inl fh5)))] s.heap.size = A at hD ⊢
  have hA : ∀ q : Nat, s.heap.size ≤ q → A q := fun q h => by rw [← hAe]; exact Or.inr h
  have hS : va_S A s.heap s.heap [] := va_S.rf
  have hP : va_P (dC, dI) vwCl [(h0, .inr (5, [h0_0, .ref h1, h0_2, .ref h2, .ref h3, .ref h4, .ref h5, h0_7, h0_8, h0_9])), (h1, .inl (ch1, 6, .inl fh1)), (h2, .inl (ch2, 144, .inr (.inl fh2))), (h3, .inl (ch3, 24, .inl fh3)), (h4, .inl (ch4, 6, .inr (.inl fh4))), (h5, .inl (ch5, 6, .inr (.inl fh5)))] s.heap := hP
  have w__fieldLink_RX5_28_ShellHeap_Pantry_leastNumber_J_ := hts (.fieldLink RX5 28 "ShellHeap$Pantry" "leastNumber" "[J") (z_mc (z_ml z_m0))
  have hiX5 := show ∀ w ∈ u_ws RX5 TX5 10, w ∈ u_s_X5_putRight from fun w h => z_mc (z_mr (z_ml h))
  have w__fieldLink_RX5_31_ShellHeap_Pantry_righted_J_ := hts (.fieldLink RX5 31 "ShellHeap$Pantry" "righted" "[J") (z_mc (z_ml z_m1))
  have w__constantLong_RX5_64_720720_ := hts (.constantLong RX5 64 (720720)) (z_mc (z_ml z_m2))
  have w__fieldLink_RX5_25_ShellHeap_Pantry_keeps_I_ := hts (.fieldLink RX5 25 "ShellHeap$Pantry" "keeps" "[I") (z_mc (z_ml z_m7))
  have w__constantLong_RX5_62_16_ := hts (.constantLong RX5 62 (16)) (z_mc (z_ml z_m8))
  have hl := lv_entry ([.ref h0, .int p1]) (n := 10) (Nat.le_of_ble_eq_true rfl)
  rw [lg_entry_eq]
  generalize (lg_sl ([.ref h0, .int p1]) ++ List.replicate (10 - (lg_sl ([.ref h0, .int p1])).length) Slot.unset).toArray = ls at hl ⊢
  have hl : lv_has ls 10 [(0, .ref h0), (1, .int p1)] := hl
  refine z_nameQ (fun QQ hQQ => ?_)
  refine lv_lconst (v := 0) hx hb dX5_putRight_0 (by decide) ?_
  refine lv_lstore_n (lv' := [(2, .long 0), (0, .ref h0), (1, .int p1)]) hx hb dX5_putRight_1 rfl hl (by decide) rfl (fun ls hl => ?_)
  refine lv_lconst (v := 0) hx hb dX5_putRight_2 (by decide) ?_
  refine lv_lstore (lv' := [(4, .long 0), (2, .long 0), (0, .ref h0), (1, .int p1)]) hx hb dX5_putRight_3 hl (by decide) rfl (fun ls hl => ?_)
  refine lv_iconst (v := 0) hx hb dX5_putRight_5 (by decide) ?_
  refine lv_istore (lv' := [(6, .int 0), (4, .long 0), (2, .long 0), (0, .ref h0), (1, .int p1)]) hx hb dX5_putRight_6 hl (by decide) rfl (fun ls hl => ?_)
  have loop_1 : ∀ (n_2 : Nat) (i_4 : Int32) (n_5 : Int64) (q_6 : Int64) (H : Heap) (locs : List Loc) (ls : Array Slot), (5 - (i_4).toInt).toNat < n_2 → (((0 : Int) ≤ (i_4).toInt ∧ (i_4).toInt ≤ (4 : Int))) → va_P (dC, dI) vwCl [(h0, .inr (5, [h0_0, .ref h1, h0_2, .ref h2, .ref h3, .ref h4, .ref h5, h0_7, h0_8, h0_9])), (h1, .inl (ch1, 6, .inl fh1)), (h2, .inl (ch2, 144, .inr (.inl fh2))), (h3, .inl (ch3, 24, .inl fh3)), (h4, .inl (ch4, 6, .inr (.inl fh4))), (h5, .inl (ch5, 6, .inr (.inl fh5)))] H → va_D A [(h0, .inr (5, [h0_0, .ref h1, h0_2, .ref h2, .ref h3, .ref h4, .ref h5, h0_7, h0_8, h0_9])), (h1, .inl (ch1, 6, .inl fh1)), (h2, .inl (ch2, 144, .inr (.inl fh2))), (h3, .inl (ch3, 24, .inl fh3)), (h4, .inl (ch4, 6, .inr (.inl fh4))), (h5, .inl (ch5, 6, .inr (.inl fh5)))] → va_S A s.heap H locs → lv_has ls 10 [(6, .int i_4), (4, .long q_6), (2, .long n_5), (0, .ref h0), (1, .int p1)] → W p l e ({ frames := 2, cells := 0, slots := 0, locals := 44 } : Room) s m ([.ref h0, .int p1] : List Value).toArray below meth c H locs 0 0 QQ (F0 m 8 ls []) := by
    intro n_2
    induction n_2 with
    | zero => intro i_4 n_5 q_6 H locs ls hm; exact absurd hm (Nat.not_lt_zero _)
    | succ n_2 ih_3 =>
      intro i_4 n_5 q_6 H locs ls hm hF_7 hP hD hS hl
      refine lv_iload hx hb dX5_putRight_8 (lv_at hl 0 rfl) ?_
      refine lv_iconst (v := 4) hx hb dX5_putRight_10 (by decide) ?_
      refine lv_icmp_ge (tgt := 71) hx hb dX5_putRight_11 (by decide) (fun c_8 => ?_) (fun c_8 => ?_)
      · have k_9 : (4 : Int) ≤ (i_4).toInt := z_le c_8
        obtain rfl : i_4 = 4 := z_eq' (show (i_4).toInt = (4 : Int) by omega)
        refine lv_aload_n hx hb dX5_putRight_71 rfl (lv_at hl 3 rfl) ?_
        refine va_get (D := (dC, dI)) (ci := 5) (v := .ref h4) (C := RX5) (T := TX5) (N := 10) hx hb hts hiX5 hown hK hP 0 rfl rfl 5 (by decide) w__fieldLink_RX5_28_ShellHeap_Pantry_leastNumber_J_ (fun _ h9 => h9) rfl dX5_putRight_72 ?_
        refine lv_iload_n hx hb dX5_putRight_75 rfl (lv_at hl 4 rfl) ?_
        refine lv_lload_n hx hb dX5_putRight_76 rfl (lv_at hl 2 rfl) ?_
        refine va_last hx hb hK hP hD hS 4 3 rfl rfl (z_vpinB hB_p1 (by decide) (by decide)) dX5_putRight_77 (fun H_11 locs hP hD hS => ?_)
        obtain ⟨hP, hD⟩ := z_s_4 hP hD
        generalize (vp_updL fh4 (p1 : Int32).toNatClampNeg n_5) = f_12 at hP hD
        refine lv_aload_n hx hb dX5_putRight_78 rfl (lv_at hl 3 rfl) ?_
        refine va_get (D := (dC, dI)) (ci := 5) (v := .ref h5) (C := RX5) (T := TX5) (N := 10) hx hb hts hiX5 hown hK hP 0 rfl rfl 6 (by decide) w__fieldLink_RX5_31_ShellHeap_Pantry_righted_J_ (fun _ h9 => h9) rfl dX5_putRight_79 ?_
        refine lv_iload_n hx hb dX5_putRight_82 rfl (lv_at hl 4 rfl) ?_
        refine lv_lload hx hb dX5_putRight_83 (lv_at hl 1 rfl) ?_
        refine lv_ldc2 (v := 720720) hx hb hown w__constantLong_RX5_64_720720_ dX5_putRight_85 ?_
        refine lv_ldiv hx hb dX5_putRight_88 (by decide) ?_
        refine lv_topl (fun z_13 ez_13 => ?_)
        refine va_last hx hb hK hP hD hS 5 4 rfl rfl (z_vpinB hB_p1 (by decide) (by decide)) dX5_putRight_89 (fun H_14 locs hP hD hS => ?_)
        obtain ⟨hP, hD⟩ := z_s_5 hP hD
        generalize (vp_updL fh5 (p1 : Int32).toNatClampNeg z_13) = f_15 at hP hD
        refine z_backQ hQQ ?_
        have hP9 := hP
        have hD9 := hD
        have hK9 := hK.sub (tys' := []) [] rfl
        refine W.widen (k := 0) (n := 0) (Nat.le_of_ble_eq_true rfl) (Nat.le_of_ble_eq_true rfl) ?_
        exact W.vret hx hb hr (fun t ht hW => ⟨⟨(), rfl, trivial, ⟨f_12, f_15, by rw [ht]; exact hP9, va_K.moved hW.alike hK9, hD9⟩⟩, hS.F ht⟩) hS.2.2 dX5_putRight_90
      · have k_16 : (4 : Int) > (i_4).toInt := z_nle c_8
        refine lv_aload_n hx hb dX5_putRight_14 rfl (lv_at hl 3 rfl) ?_
        refine lv_iload_n hx hb dX5_putRight_15 rfl (lv_at hl 4 rfl) ?_
        refine lv_iload hx hb dX5_putRight_16 (lv_at hl 0 rfl) ?_
        obtain ⟨hPc, hDc⟩ := z_sub2 (ws' := [(h0, .inr (5, [h0_0, .ref h1, h0_2, .ref h2, .ref h3, .ref h4, .ref h5, h0_7, h0_8, h0_9])), (h1, .inl (ch1, 6, .inl fh1)), (h2, .inl (ch2, 144, .inr (.inl fh2)))]) hP hD [0, 1, 2] (by decide) rfl
        have hKc := hK.sub (tys' := [(ch1, .int), (ch2, .long)]) [0, 1] rfl
        have hFc := va_free (ws := []) (wc := []) (z_D0 _) hS hA [] rfl
        refine va_calll (va_runV (As := [.int p1, .int i_4]) (rest := []) ⟨hx, hb, hml, hown, hts⟩ (s_X5_hinges l dC dI H.size h0 p1 i_4 h0_0 h1 h0_2 h2 (.ref h3) (.ref h4) (.ref h5) h0_7 h0_8 h0_9 ch1 fh1 ch2 fh2 hB_p1 (by first | omega | decide)) (cwV 2 hts gw_s_X5_putRight_s_X5_hinges_58 rfl rfl rfl (by decide +kernel) ⟨Nat.le_of_ble_eq_true rfl, Nat.le_of_ble_eq_true rfl⟩) ⟨z_blind, va_recv hKc hPc (ci := 5) (q0 := 0) rfl rfl, z_pre hPc hKc hDc⟩ rfl rfl hl.1 rfl (lv_room (Nat.le_of_ble_eq_true rfl)) dX5_putRight_18 ⟨Nat.le_of_ble_eq_true rfl, Nat.le_of_ble_eq_true rfl⟩) hS (fun q _ h => hFc q h) hFc (fun r_18 u t H_17 locs ht hvm hw_19 hB hz1 hk1 hS => ?_)
        replace hP := z_pure hP hk1
        clear hPc hDc hKc
        refine lv_lstore (lv' := [(7, .long r_18), (6, .int i_4), (4, .long q_6), (2, .long n_5), (0, .ref h0), (1, .int p1)]) hx hb dX5_putRight_21 hl (by decide) rfl (fun ls hl => ?_)
        refine lv_aload_n hx hb dX5_putRight_23 rfl (lv_at hl 4 rfl) ?_
        refine va_get (D := (dC, dI)) (ci := 5) (v := .ref h3) (C := RX5) (T := TX5) (N := 10) hx hb hts hiX5 hown hK hP 0 rfl rfl 4 (by decide) w__fieldLink_RX5_25_ShellHeap_Pantry_keeps_I_ (fun _ h9 => h9) rfl dX5_putRight_24 ?_
        refine lv_iload_n hx hb dX5_putRight_27 rfl (lv_at hl 5 rfl) ?_
        refine lv_iconst (v := 4) hx hb dX5_putRight_28 (by decide) ?_
        refine lv_imul hx hb dX5_putRight_29 ?_
        refine lv_topi (fun z_20 ez_20 => ?_)
        have kz_20 : (z_20).toInt = (p1).toInt * (4 : Int) := by rw [ez_20]; exact z_mul (a := (p1).toInt) (b := (4 : Int)) rfl rfl (by omega) (by omega)
        refine lv_iload hx hb dX5_putRight_30 (lv_at hl 1 rfl) ?_
        refine lv_iadd hx hb dX5_putRight_32 ?_
        refine lv_topi (fun z_21 ez_21 => ?_)
        have kz_21 : (z_21).toInt = (z_20).toInt + (i_4).toInt := by rw [ez_21]; exact z_add (a := (z_20).toInt) (b := (i_4).toInt) rfl rfl (by omega) (by omega)
        refine va_iald hx hb hK hP 3 2 rfl rfl (z_vpin (by omega) (by omega)) dX5_putRight_33 ?_
        refine lv_topi (fun z_22 ez_22 => ?_)
        refine lv_istore (lv' := [(9, .int z_22), (7, .long r_18), (6, .int i_4), (4, .long q_6), (2, .long n_5), (0, .ref h0), (1, .int p1)]) hx hb dX5_putRight_34 hl (by decide) rfl (fun ls hl => ?_)
        refine lv_lload_n hx hb dX5_putRight_36 rfl (lv_at hl 4 rfl) ?_
        refine lv_lload hx hb dX5_putRight_37 (lv_at hl 1 rfl) ?_
        refine lv_ladd hx hb dX5_putRight_39 ?_
        refine lv_topl (fun z_23 ez_23 => ?_)
        refine lv_lstore_n (lv' := [(2, .long z_23), (9, .int z_22), (7, .long r_18), (6, .int i_4), (4, .long q_6), (0, .ref h0), (1, .int p1)]) hx hb dX5_putRight_40 rfl hl (by decide) rfl (fun ls hl => ?_)
        refine lv_iload hx hb dX5_putRight_41 (lv_at hl 1 rfl) ?_
        refine lv_if_le (tgt := 65) hx hb dX5_putRight_43 (by decide) (fun c_24 => ?_) (fun c_24 => ?_)
        · have k_25 : (z_22).toInt ≤ (0 : Int) := z_le c_24
          obtain ⟨z_26, ez_26⟩ : ∃ y : Int32, y = i_4 + 1 := ⟨_, rfl⟩
          have kz_26 : (z_26).toInt = (i_4).toInt + (1 : Int) := by rw [ez_26]; exact z_add (b := 1) rfl rfl (z_al hF_7.1 (by decide)) (z_ah hF_7.2 (by decide))
          refine lv_iinc (v := z_26) (lv' := [(6, .int z_26), (2, .long z_23), (9, .int z_22), (7, .long r_18), (4, .long q_6), (0, .ref h0), (1, .int p1)]) hx hb dX5_putRight_65 hl (k := 3) rfl (by rw [ez_26]; rfl) (by decide) rfl (fun ls hl => ?_)
          refine lv_goto (tgt := 8) hx hb dX5_putRight_68 (by decide) ?_
          exact ih_3 z_26 z_23 q_6 _ _ _ (show (5 - (z_26).toInt).toNat < n_2 by omega) (show ((0 : Int) ≤ (z_26).toInt ∧ (z_26).toInt ≤ (4 : Int)) by omega) hP hD hS (lv_sub hl [0, 4, 1, 5, 6] rfl)
        · have k_27 : (z_22).toInt > (0 : Int) := z_nle c_24
          refine lv_lload hx hb dX5_putRight_46 (lv_at hl 4 rfl) ?_
          refine lv_lload hx hb dX5_putRight_48 (lv_at hl 2 rfl) ?_
          refine lv_ldc2 (v := 16) hx hb hown w__constantLong_RX5_62_16_ dX5_putRight_50 ?_
          refine lv_lmul hx hb dX5_putRight_53 ?_
          refine lv_topl (fun z_28 ez_28 => ?_)
          refine lv_ldc2 (v := 720720) hx hb hown w__constantLong_RX5_64_720720_ dX5_putRight_54 ?_
          refine lv_iload hx hb dX5_putRight_57 (lv_at hl 1 rfl) ?_
          refine lv_i2l hx hb dX5_putRight_59 rfl ?_
          refine lv_topl (fun z_29 ez_29 => ?_)
          have kz_29 : (z_29).toInt = (z_22).toInt := by rw [ez_29]; exact z_i2l _
          refine lv_ldiv hx hb dX5_putRight_60 (fun q => absurd (show (z_29).toInt = (0 : Int) from congrArg Int64.toInt q) (by omega)) ?_
          refine lv_topl (fun z_30 ez_30 => ?_)
          refine lv_lmul hx hb dX5_putRight_61 ?_
          refine lv_topl (fun z_31 ez_31 => ?_)
          refine lv_ladd hx hb dX5_putRight_62 ?_
          refine lv_topl (fun z_32 ez_32 => ?_)
          refine lv_lstore (lv' := [(4, .long z_32), (2, .long z_23), (9, .int z_22), (7, .long r_18), (6, .int i_4), (0, .ref h0), (1, .int p1)]) hx hb dX5_putRight_63 hl (by decide) rfl (fun ls hl => ?_)
          obtain ⟨z_33, ez_33⟩ : ∃ y : Int32, y = i_4 + 1 := ⟨_, rfl⟩
          have kz_33 : (z_33).toInt = (i_4).toInt + (1 : Int) := by rw [ez_33]; exact z_add (b := 1) rfl rfl (z_al hF_7.1 (by decide)) (z_ah hF_7.2 (by decide))
          refine lv_iinc (v := z_33) (lv' := [(6, .int z_33), (4, .long z_32), (2, .long z_23), (9, .int z_22), (7, .long r_18), (0, .ref h0), (1, .int p1)]) hx hb dX5_putRight_65 hl (k := 4) rfl (by rw [ez_33]; rfl) (by decide) rfl (fun ls hl => ?_)
          refine lv_goto (tgt := 8) hx hb dX5_putRight_68 (by decide) ?_
          exact ih_3 z_33 z_23 z_32 _ _ _ (show (5 - (z_33).toInt).toNat < n_2 by omega) (show ((0 : Int) ≤ (z_33).toInt ∧ (z_33).toInt ≤ (4 : Int)) by omega) hP hD hS (lv_sub hl [0, 1, 2, 5, 6] rfl)
  exact loop_1 _ 0 0 0 _ _ _ (Nat.lt_succ_self _) (show ((0 : Int) ≤ (0 : Int) ∧ (0 : Int) ≤ (4 : Int)) by omega) hP hD hS hl
def u_s_X5_findLost : List Cond := .code yX5_findLost cX5_findLost 6 none :: ([.fieldLink RX5 38 "ShellHeap$Pantry" "lost" "J", .constantLong RX5 72 (1000), .fieldLink RX5 21 "ShellHeap$Pantry" "ofBed" "[J"] ++ (wsX50 ++ []))
theorem gd_s_X5_findLost : z_gd u_s_X5_findLost := z_gdc (by decide +kernel) (z_gda gdX5 (z_gd0))
set_option maxHeartbeats 4000000 in
set_option maxRecDepth 100000 in
theorem s_X5_findLost (l : Launch) (dC : Nat → ClassId) (dI : Nat → Nat → Nat) (sz : Nat) (h0 : Nat) (h0_0 : Value) (h0_1 : Value) (h0_2 : Value) (h1 : Nat) (h0_4 : Value) (h0_5 : Value) (h0_6 : Value) (h0_7 : Value) (pl : Int64) (h0_9 : Value) (ch1 : ClassId) (fh1 : Nat → Int64) : Met l yX5_findLost u_s_X5_findLost ({ frames := 0, cells := 0, slots := 0, locals := 0 }) (va_Pc [.ref h0] (z_C (dC, dI) vwCl [(h0, .inr (5, [h0_0, h0_1, h0_2, .ref h1, h0_4, h0_5, h0_6, h0_7, .long pl, h0_9])), (h1, .inl (ch1, 144, .inr (.inl fh1)))] [(ch1, .long)] sz)) (va_Qv (fun (_ : Unit) => True) (fun (_ : Unit) (t : State) => ∃ (n_h0_lost : Int64), va_P (dC, dI) vwCl [(h0, .inr (5, [h0_0, h0_1, h0_2, .ref h1, h0_4, h0_5, h0_6, h0_7, .long n_h0_lost, h0_9])), (h1, .inl (ch1, 144, .inr (.inl fh1)))] t.heap ∧ va_K (dC, dI) vwCl [] t ∧ va_D (va_A [(h0, .inr (5, [h0_0, h0_1, h0_2, .ref h1, h0_4, h0_5, h0_6, h0_7, .long pl, h0_9])), (h1, .inl (ch1, 144, .inr (.inl fh1)))] sz) [(h0, .inr (5, [h0_0, h0_1, h0_2, .ref h1, h0_4, h0_5, h0_6, h0_7, .long n_h0_lost, h0_9])), (h1, .inl (ch1, 144, .inr (.inl fh1)))]) (va_A [(h0, .inr (5, [h0_0, h0_1, h0_2, .ref h1, h0_4, h0_5, h0_6, h0_7, .long pl, h0_9])), (h1, .inl (ch1, 144, .inr (.inl fh1)))] sz)) 0 0 (va_A [(h0, .inr (5, [h0_0, h0_1, h0_2, .ref h1, h0_4, h0_5, h0_6, h0_7, .long pl, h0_9])), (h1, .inl (ch1, 144, .inr (.inl fh1)))] sz) := by
  refine Met.ofW (cc := cX5_findLost) (maxL := 6) (ret := none) (by decide) rfl ?_
  intro p e s m args below meth c s₁ B hml hv
  obtain ⟨rfl, hsz, hP, hK, hD0⟩ := hv
  have hx := B.exec
  have hb := B.bytes
  have hr := B.returns
  have hts := atoms_spec (ws := u_s_X5_findLost) B.pre
  have hown : s.vm.findClass RX5 = some m.cls := findClass_of_methodNamed B.named
  have hlocks := B.notSynchronized
  subst hsz
  have hD := hD0.self (sz := s.heap.size)
  generalize hAe : va_A [(h0, .inr (5, [h0_0, h0_1, h0_2, .ref h1, h0_4, h0_5, h0_6, h0_7, .long pl, h0_9])), (h1, .inl (ch1, 144, .inr (.inl fh1)))] s.heap.size = A at hD ⊢
  have hA : ∀ q : Nat, s.heap.size ≤ q → A q := fun q h => by rw [← hAe]; exact Or.inr h
  have hS : va_S A s.heap s.heap [] := va_S.rf
  have hP : va_P (dC, dI) vwCl [(h0, .inr (5, [h0_0, h0_1, h0_2, .ref h1, h0_4, h0_5, h0_6, h0_7, .long pl, h0_9])), (h1, .inl (ch1, 144, .inr (.inl fh1)))] s.heap := hP
  have w__fieldLink_RX5_38_ShellHeap_Pantry_lost_J_ := hts (.fieldLink RX5 38 "ShellHeap$Pantry" "lost" "J") (z_mc (z_ml z_m0))
  have hiX5 := show ∀ w ∈ u_ws RX5 TX5 10, w ∈ u_s_X5_findLost from fun w h => z_mc (z_mr (z_ml h))
  have w__constantLong_RX5_72_1000_ := hts (.constantLong RX5 72 (1000)) (z_mc (z_ml z_m1))
  have w__fieldLink_RX5_21_ShellHeap_Pantry_ofBed_J_ := hts (.fieldLink RX5 21 "ShellHeap$Pantry" "ofBed" "[J") (z_mc (z_ml z_m2))
  have hl := lv_entry ([.ref h0]) (n := 6) (Nat.le_of_ble_eq_true rfl)
  rw [lg_entry_eq]
  generalize (lg_sl ([.ref h0]) ++ List.replicate (6 - (lg_sl ([.ref h0])).length) Slot.unset).toArray = ls at hl ⊢
  have hl : lv_has ls 6 [(0, .ref h0)] := hl
  refine z_nameQ (fun QQ hQQ => ?_)
  refine lv_lconst (v := 0) hx hb dX5_findLost_0 (by decide) ?_
  refine lv_lstore_n (lv' := [(1, .long 0), (0, .ref h0)]) hx hb dX5_findLost_1 rfl hl (by decide) rfl (fun ls hl => ?_)
  refine lv_lconst (v := 0) hx hb dX5_findLost_2 (by decide) ?_
  refine lv_lstore_n (lv' := [(3, .long 0), (1, .long 0), (0, .ref h0)]) hx hb dX5_findLost_3 rfl hl (by decide) rfl (fun ls hl => ?_)
  refine lv_iconst (v := 0) hx hb dX5_findLost_4 (by decide) ?_
  refine lv_istore (lv' := [(5, .int 0), (3, .long 0), (1, .long 0), (0, .ref h0)]) hx hb dX5_findLost_5 hl (by decide) rfl (fun ls hl => ?_)
  have loop_1 : ∀ (n_2 : Nat) (i_4 : Int32) (n_5 : Int64) (q_6 : Int64) (H : Heap) (locs : List Loc) (ls : Array Slot), (145 - (i_4).toInt).toNat < n_2 → (((0 : Int) ≤ (i_4).toInt ∧ (i_4).toInt ≤ (144 : Int))) → va_P (dC, dI) vwCl [(h0, .inr (5, [h0_0, h0_1, h0_2, .ref h1, h0_4, h0_5, h0_6, h0_7, .long pl, h0_9])), (h1, .inl (ch1, 144, .inr (.inl fh1)))] H → va_D A [(h0, .inr (5, [h0_0, h0_1, h0_2, .ref h1, h0_4, h0_5, h0_6, h0_7, .long pl, h0_9])), (h1, .inl (ch1, 144, .inr (.inl fh1)))] → va_S A s.heap H locs → lv_has ls 6 [(5, .int i_4), (3, .long q_6), (1, .long n_5), (0, .ref h0)] → W p l e ({ frames := 0, cells := 0, slots := 0, locals := 0 } : Room) s m ([.ref h0] : List Value).toArray below meth c H locs 0 0 QQ (F0 m 7 ls []) := by
    intro n_2
    induction n_2 with
    | zero => intro i_4 n_5 q_6 H locs ls hm; exact absurd hm (Nat.not_lt_zero _)
    | succ n_2 ih_3 =>
      intro i_4 n_5 q_6 H locs ls hm hF_7 hP hD hS hl
      refine lv_iload hx hb dX5_findLost_7 (lv_at hl 0 rfl) ?_
      refine lv_sipush (v := 144) hx hb dX5_findLost_9 (by decide) ?_
      refine lv_icmp_ge (tgt := 50) hx hb dX5_findLost_12 (by decide) (fun c_8 => ?_) (fun c_8 => ?_)
      · have k_9 : (144 : Int) ≤ (i_4).toInt := z_le c_8
        obtain rfl : i_4 = 144 := z_eq' (show (i_4).toInt = (144 : Int) by omega)
        refine lv_aload_n hx hb dX5_findLost_50 rfl (lv_at hl 3 rfl) ?_
        refine lv_lload_n hx hb dX5_findLost_51 rfl (lv_at hl 1 rfl) ?_
        refine lv_lconst (v := 0) hx hb dX5_findLost_52 (by decide) ?_
        refine W.lcmp hx hb dX5_findLost_53 ?_
        refine lv_topi (fun z_11 ez_11 => ?_)
        have kz_11 : ((z_11).toInt = (1 : Int) ∧ (q_6).toInt > (0 : Int)) ∨ ((z_11).toInt = (0 : Int) ∧ (q_6).toInt = (0 : Int)) ∨ ((z_11).toInt = (-1 : Int) ∧ (q_6).toInt < (0 : Int)) := z_lcmp ez_11
        refine lv_if_le (tgt := 67) hx hb dX5_findLost_54 (by decide) (fun c_12 => ?_) (fun c_12 => ?_)
        · have k_13 : (z_11).toInt ≤ (0 : Int) := z_le c_12
          refine lv_lconst (v := 0) hx hb dX5_findLost_67 (by decide) ?_
          refine va_put (D := (dC, dI)) (ci := 5) (v := .long 0) (ty := .long) (C := RX5) (T := TX5) (N := 10) hx hb hts hiX5 tyX5 tyX5_ok nmX5 hown hK hP hD hS 0 rfl rfl 8 (by decide) w__fieldLink_RX5_38_ShellHeap_Pantry_lost_J_ (fun _ h9 => h9) rfl (by decide +kernel) rfl rfl (Nat.le_of_ble_eq_true rfl) dX5_findLost_68 (fun H_14 locs hP hD hS => ?_)
          obtain ⟨hP, hD⟩ := z_s_0_8 hP hD
          refine z_backQ hQQ ?_
          have hP9 := hP
          have hD9 := hD
          have hK9 := hK.sub (tys' := []) [] rfl
          refine W.widen (k := 0) (n := 0) (Nat.le_of_ble_eq_true rfl) (Nat.le_of_ble_eq_true rfl) ?_
          exact W.vret hx hb hr (fun t ht hW => ⟨⟨(), rfl, trivial, ⟨0, by rw [ht]; exact hP9, va_K.moved hW.alike hK9, hD9⟩⟩, hS.F ht⟩) hS.2.2 dX5_findLost_71
        · have k_15 : (z_11).toInt > (0 : Int) := z_nle c_12
          obtain rfl : z_11 = 1 := z_eq' (show (z_11).toInt = (1 : Int) by omega)
          refine lv_lload_n hx hb dX5_findLost_57 rfl (lv_at hl 2 rfl) ?_
          refine lv_ldc2 (v := 1000) hx hb hown w__constantLong_RX5_72_1000_ dX5_findLost_58 ?_
          refine lv_lmul hx hb dX5_findLost_61 ?_
          refine lv_topl (fun z_17 ez_17 => ?_)
          refine lv_lload_n hx hb dX5_findLost_62 rfl (lv_at hl 1 rfl) ?_
          refine lv_ldiv hx hb dX5_findLost_63 (fun q => absurd (show (q_6).toInt = (0 : Int) from congrArg Int64.toInt q) (by omega)) ?_
          refine lv_topl (fun z_18 ez_18 => ?_)
          refine lv_goto (tgt := 68) hx hb dX5_findLost_64 (by decide) ?_
          refine va_put (D := (dC, dI)) (ci := 5) (v := .long z_18) (ty := .long) (C := RX5) (T := TX5) (N := 10) hx hb hts hiX5 tyX5 tyX5_ok nmX5 hown hK hP hD hS 0 rfl rfl 8 (by decide) w__fieldLink_RX5_38_ShellHeap_Pantry_lost_J_ (fun _ h9 => h9) rfl (by decide +kernel) rfl rfl (Nat.le_of_ble_eq_true rfl) dX5_findLost_68 (fun H_19 locs hP hD hS => ?_)
          obtain ⟨hP, hD⟩ := z_s_0_8 hP hD
          refine z_backQ hQQ ?_
          have hP9 := hP
          have hD9 := hD
          have hK9 := hK.sub (tys' := []) [] rfl
          refine W.widen (k := 0) (n := 0) (Nat.le_of_ble_eq_true rfl) (Nat.le_of_ble_eq_true rfl) ?_
          exact W.vret hx hb hr (fun t ht hW => ⟨⟨(), rfl, trivial, ⟨z_18, by rw [ht]; exact hP9, va_K.moved hW.alike hK9, hD9⟩⟩, hS.F ht⟩) hS.2.2 dX5_findLost_71
      · have k_20 : (144 : Int) > (i_4).toInt := z_nle c_8
        refine lv_lload_n hx hb dX5_findLost_15 rfl (lv_at hl 1 rfl) ?_
        refine lv_aload_n hx hb dX5_findLost_16 rfl (lv_at hl 3 rfl) ?_
        refine va_get (D := (dC, dI)) (ci := 5) (v := .ref h1) (C := RX5) (T := TX5) (N := 10) hx hb hts hiX5 hown hK hP 0 rfl rfl 3 (by decide) w__fieldLink_RX5_21_ShellHeap_Pantry_ofBed_J_ (fun _ h9 => h9) rfl dX5_findLost_17 ?_
        refine lv_iload hx hb dX5_findLost_20 (lv_at hl 0 rfl) ?_
        refine va_lald hx hb hK hP 1 0 rfl rfl (z_vpin (by omega) (by omega)) dX5_findLost_22 ?_
        refine lv_topl (fun z_21 ez_21 => ?_)
        refine lv_ladd hx hb dX5_findLost_23 ?_
        refine lv_topl (fun z_22 ez_22 => ?_)
        refine lv_lstore_n (lv' := [(3, .long z_22), (5, .int i_4), (1, .long n_5), (0, .ref h0)]) hx hb dX5_findLost_24 rfl hl (by decide) rfl (fun ls hl => ?_)
        refine lv_iload hx hb dX5_findLost_25 (lv_at hl 1 rfl) ?_
        refine lv_bipush (v := 6) hx hb dX5_findLost_27 (by decide) ?_
        refine lv_irem hx hb dX5_findLost_29 (by decide) ?_
        refine lv_topi (fun z_23 ez_23 => ?_)
        refine lv_iconst (v := 5) hx hb dX5_findLost_30 (by decide) ?_
        refine lv_icmp_ne (tgt := 44) hx hb dX5_findLost_31 (by decide) (fun c_24 => ?_) (fun c_24 => ?_)
        · have k_25 : (z_23).toInt ≠ (5 : Int) := z_ne c_24
          obtain ⟨z_26, ez_26⟩ : ∃ y : Int32, y = i_4 + 1 := ⟨_, rfl⟩
          have kz_26 : (z_26).toInt = (i_4).toInt + (1 : Int) := by rw [ez_26]; exact z_add (b := 1) rfl rfl (z_al hF_7.1 (by decide)) (z_ah hF_7.2 (by decide))
          refine lv_iinc (v := z_26) (lv' := [(5, .int z_26), (3, .long z_22), (1, .long n_5), (0, .ref h0)]) hx hb dX5_findLost_44 hl (k := 1) rfl (by rw [ez_26]; rfl) (by decide) rfl (fun ls hl => ?_)
          refine lv_goto (tgt := 7) hx hb dX5_findLost_47 (by decide) ?_
          exact ih_3 z_26 n_5 z_22 _ _ _ (show (145 - (z_26).toInt).toNat < n_2 by omega) (show ((0 : Int) ≤ (z_26).toInt ∧ (z_26).toInt ≤ (144 : Int)) by omega) hP hD hS (lv_sub hl [0, 1, 2, 3] rfl)
        · have k_27 : (z_23).toInt = (5 : Int) := z_eq c_24
          obtain rfl : z_23 = 5 := z_eq' (show (z_23).toInt = (5 : Int) by omega)
          refine lv_lload_n hx hb dX5_findLost_34 rfl (lv_at hl 2 rfl) ?_
          refine lv_aload_n hx hb dX5_findLost_35 rfl (lv_at hl 3 rfl) ?_
          refine va_get (D := (dC, dI)) (ci := 5) (v := .ref h1) (C := RX5) (T := TX5) (N := 10) hx hb hts hiX5 hown hK hP 0 rfl rfl 3 (by decide) w__fieldLink_RX5_21_ShellHeap_Pantry_ofBed_J_ (fun _ h9 => h9) rfl dX5_findLost_36 ?_
          refine lv_iload hx hb dX5_findLost_39 (lv_at hl 1 rfl) ?_
          refine va_lald hx hb hK hP 1 0 rfl rfl (z_vpin (by omega) (by omega)) dX5_findLost_41 ?_
          refine lv_topl (fun z_29 ez_29 => ?_)
          refine lv_ladd hx hb dX5_findLost_42 ?_
          refine lv_topl (fun z_30 ez_30 => ?_)
          refine lv_lstore_n (lv' := [(1, .long z_30), (3, .long z_22), (5, .int i_4), (0, .ref h0)]) hx hb dX5_findLost_43 rfl hl (by decide) rfl (fun ls hl => ?_)
          obtain ⟨z_31, ez_31⟩ : ∃ y : Int32, y = i_4 + 1 := ⟨_, rfl⟩
          have kz_31 : (z_31).toInt = (i_4).toInt + (1 : Int) := by rw [ez_31]; exact z_add (b := 1) rfl rfl (z_al hF_7.1 (by decide)) (z_ah hF_7.2 (by decide))
          refine lv_iinc (v := z_31) (lv' := [(5, .int z_31), (1, .long z_30), (3, .long z_22), (0, .ref h0)]) hx hb dX5_findLost_44 hl (k := 2) rfl (by rw [ez_31]; rfl) (by decide) rfl (fun ls hl => ?_)
          refine lv_goto (tgt := 7) hx hb dX5_findLost_47 (by decide) ?_
          exact ih_3 z_31 z_30 z_22 _ _ _ (show (145 - (z_31).toInt).toNat < n_2 by omega) (show ((0 : Int) ≤ (z_31).toInt ∧ (z_31).toInt ≤ (144 : Int)) by omega) hP hD hS (lv_sub hl [0, 2, 1, 3] rfl)
  exact loop_1 _ 0 0 0 _ _ _ (Nat.lt_succ_self _) (show ((0 : Int) ≤ (0 : Int) ∧ (0 : Int) ≤ (144 : Int)) by omega) hP hD hS hl
def u_s_X5_lasts : List Cond := .code yX5_lasts cX5_lasts 5 (some .long) :: ([.fieldLink RX5 34 "ShellHeap$Pantry" "food" "J", .constantLong RX5 74 (100)] ++ (wsX50 ++ []))
theorem gd_s_X5_lasts : z_gd u_s_X5_lasts := z_gdc (by decide +kernel) (z_gda gdX5 (z_gd0))
set_option maxHeartbeats 4000000 in
set_option maxRecDepth 100000 in
theorem s_X5_lasts (l : Launch) (dC : Nat → ClassId) (dI : Nat → Nat → Nat) (sz : Nat) (h0 : Nat) (p1 : Int32) (p2 : Int32) (h0_0 : Value) (h0_1 : Value) (h0_2 : Value) (h0_3 : Value) (h0_4 : Value) (h0_5 : Value) (h0_6 : Value) (pf : Int64) (h0_8 : Value) (h0_9 : Value) : Met l yX5_lasts u_s_X5_lasts ({ frames := 0, cells := 0, slots := 0, locals := 0 }) (va_Pc [.ref h0, .int p1, .int p2] (z_C (dC, dI) vwCl [(h0, .inr (5, [h0_0, h0_1, h0_2, h0_3, h0_4, h0_5, h0_6, .long pf, h0_8, h0_9]))] [] sz)) (va_Ql (fun (r : Int64) (_ : Unit) => True) (fun (_ : Unit) (_ : State) => True) (va_A [] sz)) 0 0 (va_A [] sz) := by
  refine Met.ofW (cc := cX5_lasts) (maxL := 5) (ret := (some .long)) (by decide) rfl ?_
  intro p e s m args below meth c s₁ B hml hv
  obtain ⟨rfl, hsz, hP, hK, hD0⟩ := hv
  have hx := B.exec
  have hb := B.bytes
  have hr := B.returns
  have hts := atoms_spec (ws := u_s_X5_lasts) B.pre
  have hown : s.vm.findClass RX5 = some m.cls := findClass_of_methodNamed B.named
  have hlocks := B.notSynchronized
  subst hsz
  have hD := hD0
  generalize hAe : va_A [] s.heap.size = A
  have hA : ∀ q : Nat, s.heap.size ≤ q → A q := fun q h => by rw [← hAe]; exact Or.inr h
  have hS : va_S A s.heap s.heap [] := va_S.rf
  have hP : va_P (dC, dI) vwCl [(h0, .inr (5, [h0_0, h0_1, h0_2, h0_3, h0_4, h0_5, h0_6, .long pf, h0_8, h0_9]))] s.heap := hP
  have w__fieldLink_RX5_34_ShellHeap_Pantry_food_J_ := hts (.fieldLink RX5 34 "ShellHeap$Pantry" "food" "J") (z_mc (z_ml z_m0))
  have hiX5 := show ∀ w ∈ u_ws RX5 TX5 10, w ∈ u_s_X5_lasts from fun w h => z_mc (z_mr (z_ml h))
  have w__constantLong_RX5_74_100_ := hts (.constantLong RX5 74 (100)) (z_mc (z_ml z_m1))
  have krr_p1 := z_rng p1
  have krr_p2 := z_rng p2
  have hl := lv_entry ([.ref h0, .int p1, .int p2]) (n := 5) (Nat.le_of_ble_eq_true rfl)
  rw [lg_entry_eq]
  generalize (lg_sl ([.ref h0, .int p1, .int p2]) ++ List.replicate (5 - (lg_sl ([.ref h0, .int p1, .int p2])).length) Slot.unset).toArray = ls at hl ⊢
  have hl : lv_has ls 5 [(0, .ref h0), (1, .int p1), (2, .int p2)] := hl
  refine lv_iload_n hx hb dX5_lasts_0 rfl (lv_at hl 1 rfl) ?_
  refine lv_i2l hx hb dX5_lasts_1 rfl ?_
  refine lv_topl (fun z_1 ez_1 => ?_)
  have kz_1 : (z_1).toInt = (p1).toInt := by rw [ez_1]; exact z_i2l _
  refine lv_iload_n hx hb dX5_lasts_2 rfl (lv_at hl 2 rfl) ?_
  refine lv_i2l hx hb dX5_lasts_3 rfl ?_
  refine lv_topl (fun z_2 ez_2 => ?_)
  have kz_2 : (z_2).toInt = (p2).toInt := by rw [ez_2]; exact z_i2l _
  refine lv_lmul hx hb dX5_lasts_4 ?_
  refine lv_topl (fun z_3 ez_3 => ?_)
  refine lv_lstore_n (lv' := [(3, .long z_3), (0, .ref h0), (1, .int p1), (2, .int p2)]) hx hb dX5_lasts_5 rfl hl (by decide) rfl (fun ls hl => ?_)
  refine lv_lload_n hx hb dX5_lasts_6 rfl (lv_at hl 0 rfl) ?_
  refine lv_lconst (v := 0) hx hb dX5_lasts_7 (by decide) ?_
  refine W.lcmp hx hb dX5_lasts_8 ?_
  refine lv_topi (fun z_4 ez_4 => ?_)
  have kz_4 : ((z_4).toInt = (1 : Int) ∧ (z_3).toInt > (0 : Int)) ∨ ((z_4).toInt = (0 : Int) ∧ (z_3).toInt = (0 : Int)) ∨ ((z_4).toInt = (-1 : Int) ∧ (z_3).toInt < (0 : Int)) := z_lcmp ez_4
  refine lv_if_le (tgt := 25) hx hb dX5_lasts_9 (by decide) (fun c_5 => ?_) (fun c_5 => ?_)
  · have k_6 : (z_4).toInt ≤ (0 : Int) := z_le c_5
    refine lv_lconst (v := 0) hx hb dX5_lasts_25 (by decide) ?_
    refine W.widen (k := 0) (n := 0) (Nat.le_of_ble_eq_true rfl) (Nat.le_of_ble_eq_true rfl) ?_
    exact W.lret (v := 0) hx hb hr (fun t ht hW => ⟨⟨0, (), rfl, trivial, trivial⟩, hS.F ht⟩) hS.2.2 dX5_lasts_26
  · have k_7 : (z_4).toInt > (0 : Int) := z_nle c_5
    obtain rfl : z_4 = 1 := z_eq' (show (z_4).toInt = (1 : Int) by omega)
    refine lv_aload_n hx hb dX5_lasts_12 rfl (lv_at hl 1 rfl) ?_
    refine va_get (D := (dC, dI)) (ci := 5) (v := .long pf) (C := RX5) (T := TX5) (N := 10) hx hb hts hiX5 hown hK hP 0 rfl rfl 7 (by decide) w__fieldLink_RX5_34_ShellHeap_Pantry_food_J_ (fun _ h9 => h9) rfl dX5_lasts_13 ?_
    refine lv_ldc2 (v := 100) hx hb hown w__constantLong_RX5_74_100_ dX5_lasts_16 ?_
    refine lv_lmul hx hb dX5_lasts_19 ?_
    refine lv_topl (fun z_9 ez_9 => ?_)
    refine lv_lload_n hx hb dX5_lasts_20 rfl (lv_at hl 0 rfl) ?_
    refine lv_ldiv hx hb dX5_lasts_21 (fun q => absurd (show (z_3).toInt = (0 : Int) from congrArg Int64.toInt q) (by omega)) ?_
    refine lv_topl (fun z_10 ez_10 => ?_)
    refine lv_goto (tgt := 26) hx hb dX5_lasts_22 (by decide) ?_
    refine W.widen (k := 0) (n := 0) (Nat.le_of_ble_eq_true rfl) (Nat.le_of_ble_eq_true rfl) ?_
    exact W.lret (v := z_10) hx hb hr (fun t ht hW => ⟨⟨z_10, (), rfl, trivial, trivial⟩, hS.F ht⟩) hS.2.2 dX5_lasts_26
def u_s_X4_isLater : List Cond := .code yX4_isLater cX4_isLater 3 (some .boolean) :: ([.fieldLink RX4 22 "ShellHeap$Known" "later" "[I"] ++ (wsX40 ++ []))
theorem gd_s_X4_isLater : z_gd u_s_X4_isLater := z_gdc (by decide +kernel) (z_gda gdX4 (z_gd0))
set_option maxHeartbeats 4000000 in
set_option maxRecDepth 100000 in
theorem s_X4_isLater (l : Launch) (dC : Nat → ClassId) (dI : Nat → Nat → Nat) (sz : Nat) (h0 : Nat) (p1 : Int32) (p2 : Int32) (h0_0 : Value) (h0_1 : Value) (h0_2 : Value) (h0_3 : Value) (h1 : Nat) (h0_5 : Value) (h0_6 : Value) (h0_7 : Value) (h0_8 : Value) (h0_9 : Value) (ch1 : ClassId) (fh1 : Nat → Int32) (hB_p1 : ((0 : Int) ≤ (p1).toInt ∧ (p1).toInt ≤ (11 : Int))) : Met l yX4_isLater u_s_X4_isLater ({ frames := 0, cells := 0, slots := 0, locals := 0 }) (va_Pc [.ref h0, .int p1, .int p2] (z_C (dC, dI) vwCl [(h0, .inr (4, [h0_0, h0_1, h0_2, h0_3, .ref h1, h0_5, h0_6, h0_7, h0_8, h0_9])), (h1, .inl (ch1, 12, .inl fh1))] [(ch1, .int)] sz)) (va_Qi (fun (r : Int32) (_ : Unit) => ((0 : Int) ≤ (r).toInt ∧ (r).toInt ≤ (1 : Int))) (fun (_ : Unit) (_ : State) => True) (va_A [] sz)) 0 0 (va_A [] sz) := by
  refine Met.ofW (cc := cX4_isLater) (maxL := 3) (ret := (some .boolean)) (by decide) rfl ?_
  intro p e s m args below meth c s₁ B hml hv
  obtain ⟨rfl, hsz, hP, hK, hD0⟩ := hv
  have hx := B.exec
  have hb := B.bytes
  have hr := B.returns
  have hts := atoms_spec (ws := u_s_X4_isLater) B.pre
  have hown : s.vm.findClass RX4 = some m.cls := findClass_of_methodNamed B.named
  have hlocks := B.notSynchronized
  subst hsz
  have hD := hD0
  generalize hAe : va_A [] s.heap.size = A
  have hA : ∀ q : Nat, s.heap.size ≤ q → A q := fun q h => by rw [← hAe]; exact Or.inr h
  have hS : va_S A s.heap s.heap [] := va_S.rf
  have hP : va_P (dC, dI) vwCl [(h0, .inr (4, [h0_0, h0_1, h0_2, h0_3, .ref h1, h0_5, h0_6, h0_7, h0_8, h0_9])), (h1, .inl (ch1, 12, .inl fh1))] s.heap := hP
  have w__fieldLink_RX4_22_ShellHeap_Known_later_I_ := hts (.fieldLink RX4 22 "ShellHeap$Known" "later" "[I") (z_mc (z_ml z_m0))
  have hiX4 := show ∀ w ∈ u_ws RX4 TX4 10, w ∈ u_s_X4_isLater from fun w h => z_mc (z_mr (z_ml h))
  have krr_p2 := z_rng p2
  have hl := lv_entry ([.ref h0, .int p1, .int p2]) (n := 3) (Nat.le_of_ble_eq_true rfl)
  rw [lg_entry_eq]
  generalize (lg_sl ([.ref h0, .int p1, .int p2]) ++ List.replicate (3 - (lg_sl ([.ref h0, .int p1, .int p2])).length) Slot.unset).toArray = ls at hl ⊢
  have hl : lv_has ls 3 [(0, .ref h0), (1, .int p1), (2, .int p2)] := hl
  refine lv_aload_n hx hb dX4_isLater_0 rfl (lv_at hl 0 rfl) ?_
  refine va_get (D := (dC, dI)) (ci := 4) (v := .ref h1) (C := RX4) (T := TX4) (N := 10) hx hb hts hiX4 hown hK hP 0 rfl rfl 4 (by decide) w__fieldLink_RX4_22_ShellHeap_Known_later_I_ (fun _ h9 => h9) rfl dX4_isLater_1 ?_
  refine lv_iload_n hx hb dX4_isLater_4 rfl (lv_at hl 1 rfl) ?_
  refine va_iald hx hb hK hP 1 0 rfl rfl (z_vpinB hB_p1 (by decide) (by decide)) dX4_isLater_5 ?_
  refine lv_topi (fun z_1 ez_1 => ?_)
  refine lv_iload_n hx hb dX4_isLater_6 rfl (lv_at hl 2 rfl) ?_
  refine lv_ishr hx hb dX4_isLater_7 ?_
  refine lv_topi (fun z_2 ez_2 => ?_)
  refine lv_iconst (v := 1) hx hb dX4_isLater_8 (by decide) ?_
  refine lv_iand hx hb dX4_isLater_9 ?_
  refine lv_topi (fun z_3 ez_3 => ?_)
  have kz_3 : (0 : Int) ≤ (z_3).toInt ∧ (z_3).toInt ≤ (1 : Int) := by rw [ez_3]; exact z_and _ 1 (by decide) (by decide)
  refine lv_if_eq (tgt := 17) hx hb dX4_isLater_10 (by decide) (fun c_4 => ?_) (fun c_4 => ?_)
  · have k_5 : (z_3).toInt = (0 : Int) := z_eq c_4
    obtain rfl : z_3 = 0 := z_eq' (show (z_3).toInt = (0 : Int) by omega)
    refine lv_iconst (v := 0) hx hb dX4_isLater_17 (by decide) ?_
    refine W.widen (k := 0) (n := 0) (Nat.le_of_ble_eq_true rfl) (Nat.le_of_ble_eq_true rfl) ?_
    exact W.zret (v := 0) hx hb hr (by rfl) (fun t ht hW => ⟨⟨0, (), rfl, (show ((0 : Int) ≤ (0 : Int) ∧ (0 : Int) ≤ (1 : Int)) by decide), trivial⟩, hS.F ht⟩) hS.2.2 dX4_isLater_18
  · have k_7 : (z_3).toInt ≠ (0 : Int) := z_ne c_4
    obtain rfl : z_3 = 1 := z_eq' (show (z_3).toInt = (1 : Int) by omega)
    refine lv_iconst (v := 1) hx hb dX4_isLater_13 (by decide) ?_
    refine lv_goto (tgt := 18) hx hb dX4_isLater_14 (by decide) ?_
    refine W.widen (k := 0) (n := 0) (Nat.le_of_ble_eq_true rfl) (Nat.le_of_ble_eq_true rfl) ?_
    exact W.zret (v := 1) hx hb hr (by rfl) (fun t ht hW => ⟨⟨1, (), rfl, (show ((0 : Int) ≤ (1 : Int) ∧ (1 : Int) ≤ (1 : Int)) by decide), trivial⟩, hS.F ht⟩) hS.2.2 dX4_isLater_18
def u_s_X4_rankOf : List Cond := .code yX4_rankOf cX4_rankOf 2 (some .int) :: ([.fieldLink RX4 38 "ShellHeap$Known" "clash" "I", .fieldLink RX4 26 "ShellHeap$Known" "ranks" "[I"] ++ (wsX40 ++ []))
theorem gd_s_X4_rankOf : z_gd u_s_X4_rankOf := z_gdc (by decide +kernel) (z_gda gdX4 (z_gd0))
set_option maxHeartbeats 4000000 in
set_option maxRecDepth 100000 in
theorem s_X4_rankOf (l : Launch) (dC : Nat → ClassId) (dI : Nat → Nat → Nat) (sz : Nat) (h0 : Nat) (p1 : Int32) (h0_0 : Value) (h0_1 : Value) (h0_2 : Value) (h0_3 : Value) (h0_4 : Value) (h1 : Nat) (h0_6 : Value) (h0_7 : Value) (h0_8 : Value) (kc : Int32) (ch1 : ClassId) (fh1 : Nat → Int32) (hB_p1 : ((0 : Int) ≤ (p1).toInt ∧ (p1).toInt ≤ (11 : Int))) (hB_kc : ((0 : Int) ≤ (kc).toInt ∧ (kc).toInt ≤ (2 : Int))) : Met l yX4_rankOf u_s_X4_rankOf ({ frames := 0, cells := 0, slots := 0, locals := 0 }) (va_Pc [.ref h0, .int p1] (z_C (dC, dI) vwCl [(h0, .inr (4, [h0_0, h0_1, h0_2, h0_3, h0_4, .ref h1, h0_6, h0_7, h0_8, .int kc])), (h1, .inl (ch1, 12, .inl fh1))] [(ch1, .int)] sz)) (va_Qi (fun (r : Int32) (_ : Unit) => True) (fun (_ : Unit) (_ : State) => True) (va_A [] sz)) 0 0 (va_A [] sz) := by
  refine Met.ofW (cc := cX4_rankOf) (maxL := 2) (ret := (some .int)) (by decide) rfl ?_
  intro p e s m args below meth c s₁ B hml hv
  obtain ⟨rfl, hsz, hP, hK, hD0⟩ := hv
  have hx := B.exec
  have hb := B.bytes
  have hr := B.returns
  have hts := atoms_spec (ws := u_s_X4_rankOf) B.pre
  have hown : s.vm.findClass RX4 = some m.cls := findClass_of_methodNamed B.named
  have hlocks := B.notSynchronized
  subst hsz
  have hD := hD0
  generalize hAe : va_A [] s.heap.size = A
  have hA : ∀ q : Nat, s.heap.size ≤ q → A q := fun q h => by rw [← hAe]; exact Or.inr h
  have hS : va_S A s.heap s.heap [] := va_S.rf
  have hP : va_P (dC, dI) vwCl [(h0, .inr (4, [h0_0, h0_1, h0_2, h0_3, h0_4, .ref h1, h0_6, h0_7, h0_8, .int kc])), (h1, .inl (ch1, 12, .inl fh1))] s.heap := hP
  have w__fieldLink_RX4_38_ShellHeap_Known_clash_I_ := hts (.fieldLink RX4 38 "ShellHeap$Known" "clash" "I") (z_mc (z_ml z_m0))
  have hiX4 := show ∀ w ∈ u_ws RX4 TX4 10, w ∈ u_s_X4_rankOf from fun w h => z_mc (z_mr (z_ml h))
  have w__fieldLink_RX4_26_ShellHeap_Known_ranks_I_ := hts (.fieldLink RX4 26 "ShellHeap$Known" "ranks" "[I") (z_mc (z_ml z_m1))
  have hl := lv_entry ([.ref h0, .int p1]) (n := 2) (Nat.le_of_ble_eq_true rfl)
  rw [lg_entry_eq]
  generalize (lg_sl ([.ref h0, .int p1]) ++ List.replicate (2 - (lg_sl ([.ref h0, .int p1])).length) Slot.unset).toArray = ls at hl ⊢
  have hl : lv_has ls 2 [(0, .ref h0), (1, .int p1)] := hl
  refine lv_aload_n hx hb dX4_rankOf_0 rfl (lv_at hl 0 rfl) ?_
  refine va_get (D := (dC, dI)) (ci := 4) (v := .int kc) (C := RX4) (T := TX4) (N := 10) hx hb hts hiX4 hown hK hP 0 rfl rfl 9 (by decide) w__fieldLink_RX4_38_ShellHeap_Known_clash_I_ (fun _ h9 => h9) rfl dX4_rankOf_1 ?_
  refine lv_iconst (v := 1) hx hb dX4_rankOf_4 (by decide) ?_
  refine lv_icmp_ne (tgt := 12) hx hb dX4_rankOf_5 (by decide) (fun c_1 => ?_) (fun c_1 => ?_)
  · have k_2 : (kc).toInt ≠ (1 : Int) := z_ne c_1
    refine lv_aload_n hx hb dX4_rankOf_12 rfl (lv_at hl 0 rfl) ?_
    refine va_get (D := (dC, dI)) (ci := 4) (v := .ref h1) (C := RX4) (T := TX4) (N := 10) hx hb hts hiX4 hown hK hP 0 rfl rfl 5 (by decide) w__fieldLink_RX4_26_ShellHeap_Known_ranks_I_ (fun _ h9 => h9) rfl dX4_rankOf_13 ?_
    refine lv_iload_n hx hb dX4_rankOf_16 rfl (lv_at hl 1 rfl) ?_
    refine va_iald hx hb hK hP 1 0 rfl rfl (z_vpinB hB_p1 (by decide) (by decide)) dX4_rankOf_17 ?_
    refine lv_topi (fun z_3 ez_3 => ?_)
    refine W.widen (k := 0) (n := 0) (Nat.le_of_ble_eq_true rfl) (Nat.le_of_ble_eq_true rfl) ?_
    exact W.iret (v := z_3) hx hb hr (fun t ht hW => ⟨⟨z_3, (), rfl, trivial, trivial⟩, hS.F ht⟩) hS.2.2 dX4_rankOf_18
  · have k_4 : (kc).toInt = (1 : Int) := z_eq c_1
    obtain rfl : kc = 1 := z_eq' (show (kc).toInt = (1 : Int) by omega)
    refine lv_iconst (v := (-1)) hx hb dX4_rankOf_8 (by decide) ?_
    refine lv_goto (tgt := 18) hx hb dX4_rankOf_9 (by decide) ?_
    refine W.widen (k := 0) (n := 0) (Nat.le_of_ble_eq_true rfl) (Nat.le_of_ble_eq_true rfl) ?_
    exact W.iret (v := (-1)) hx hb hr (fun t ht hW => ⟨⟨(-1), (), rfl, trivial, trivial⟩, hS.F ht⟩) hS.2.2 dX4_rankOf_18
def u_s_X4_layersOf : List Cond := .code yX4_layersOf cX4_layersOf 4 (some .int) :: ([.fieldLink RX4 15 "ShellHeap$Known" "layersSeen" "I", .fieldLink RX4 29 "ShellHeap$Known" "bedOf" "[I"] ++ (wsX40 ++ []))
theorem gd_s_X4_layersOf : z_gd u_s_X4_layersOf := z_gdc (by decide +kernel) (z_gda gdX4 (z_gd0))
set_option maxHeartbeats 4000000 in
set_option maxRecDepth 100000 in
theorem s_X4_layersOf (l : Launch) (dC : Nat → ClassId) (dI : Nat → Nat → Nat) (sz : Nat) (h0 : Nat) (p1 : Int32) (h0_0 : Value) (h0_1 : Value) (kl : Int32) (h0_3 : Value) (h0_4 : Value) (h0_5 : Value) (h1 : Nat) (h0_7 : Value) (h0_8 : Value) (h0_9 : Value) (ch1 : ClassId) (fh1 : Nat → Int32) (hB_kl : ((-1 : Int) ≤ (kl).toInt ∧ (kl).toInt ≤ (12 : Int))) (hI_h1 : ∀ j : Nat, ((0 : Int) ≤ (fh1 j).toInt ∧ (fh1 j).toInt ≤ (11 : Int))) : Met l yX4_layersOf u_s_X4_layersOf ({ frames := 0, cells := 0, slots := 0, locals := 0 }) (va_Pc [.ref h0, .int p1] (z_C (dC, dI) vwCl [(h0, .inr (4, [h0_0, h0_1, .int kl, h0_3, h0_4, h0_5, .ref h1, h0_7, h0_8, h0_9])), (h1, .inl (ch1, 12, .inl fh1))] [(ch1, .int)] sz)) (va_Qi (fun (r : Int32) (_ : Unit) => True) (fun (_ : Unit) (_ : State) => True) (va_A [] sz)) 0 0 (va_A [] sz) := by
  refine Met.ofW (cc := cX4_layersOf) (maxL := 4) (ret := (some .int)) (by decide) rfl ?_
  intro p e s m args below meth c s₁ B hml hv
  obtain ⟨rfl, hsz, hP, hK, hD0⟩ := hv
  have hx := B.exec
  have hb := B.bytes
  have hr := B.returns
  have hts := atoms_spec (ws := u_s_X4_layersOf) B.pre
  have hown : s.vm.findClass RX4 = some m.cls := findClass_of_methodNamed B.named
  have hlocks := B.notSynchronized
  subst hsz
  have hD := hD0
  generalize hAe : va_A [] s.heap.size = A
  have hA : ∀ q : Nat, s.heap.size ≤ q → A q := fun q h => by rw [← hAe]; exact Or.inr h
  have hS : va_S A s.heap s.heap [] := va_S.rf
  have hP : va_P (dC, dI) vwCl [(h0, .inr (4, [h0_0, h0_1, .int kl, h0_3, h0_4, h0_5, .ref h1, h0_7, h0_8, h0_9])), (h1, .inl (ch1, 12, .inl fh1))] s.heap := hP
  have w__fieldLink_RX4_15_ShellHeap_Known_layersSeen_I_ := hts (.fieldLink RX4 15 "ShellHeap$Known" "layersSeen" "I") (z_mc (z_ml z_m0))
  have hiX4 := show ∀ w ∈ u_ws RX4 TX4 10, w ∈ u_s_X4_layersOf from fun w h => z_mc (z_mr (z_ml h))
  have w__fieldLink_RX4_29_ShellHeap_Known_bedOf_I_ := hts (.fieldLink RX4 29 "ShellHeap$Known" "bedOf" "[I") (z_mc (z_ml z_m1))
  have krr_p1 := z_rng p1
  have hl := lv_entry ([.ref h0, .int p1]) (n := 4) (Nat.le_of_ble_eq_true rfl)
  rw [lg_entry_eq]
  generalize (lg_sl ([.ref h0, .int p1]) ++ List.replicate (4 - (lg_sl ([.ref h0, .int p1])).length) Slot.unset).toArray = ls at hl ⊢
  have hl : lv_has ls 4 [(0, .ref h0), (1, .int p1)] := hl
  refine z_nameQ (fun QQ hQQ => ?_)
  refine lv_iconst (v := 0) hx hb dX4_layersOf_0 (by decide) ?_
  refine lv_istore_n (lv' := [(2, .int 0), (0, .ref h0), (1, .int p1)]) hx hb dX4_layersOf_1 rfl hl (by decide) rfl (fun ls hl => ?_)
  refine lv_iconst (v := 0) hx hb dX4_layersOf_2 (by decide) ?_
  refine lv_istore_n (lv' := [(3, .int 0), (2, .int 0), (0, .ref h0), (1, .int p1)]) hx hb dX4_layersOf_3 rfl hl (by decide) rfl (fun ls hl => ?_)
  have loop_1 : ∀ (n_2 : Nat) (i_4 : Int32) (n_5 : Int32) (H : Heap) (locs : List Loc) (ls : Array Slot), (13 - (i_4).toInt).toNat < n_2 → (((0 : Int) ≤ (i_4).toInt ∧ (i_4).toInt ≤ (12 : Int))) → va_P (dC, dI) vwCl [(h0, .inr (4, [h0_0, h0_1, .int kl, h0_3, h0_4, h0_5, .ref h1, h0_7, h0_8, h0_9])), (h1, .inl (ch1, 12, .inl fh1))] H → va_D (fun _ => True) [(h0, .inr (4, [h0_0, h0_1, .int kl, h0_3, h0_4, h0_5, .ref h1, h0_7, h0_8, h0_9])), (h1, .inl (ch1, 12, .inl fh1))] → va_S A s.heap H locs → lv_has ls 4 [(3, .int i_4), (2, .int n_5), (0, .ref h0), (1, .int p1)] → W p l e ({ frames := 0, cells := 0, slots := 0, locals := 0 } : Room) s m ([.ref h0, .int p1] : List Value).toArray below meth c H locs 0 0 QQ (F0 m 4 ls []) := by
    intro n_2
    induction n_2 with
    | zero => intro i_4 n_5 H locs ls hm; exact absurd hm (Nat.not_lt_zero _)
    | succ n_2 ih_3 =>
      intro i_4 n_5 H locs ls hm hF_6 hP hD hS hl
      refine lv_iload_n hx hb dX4_layersOf_4 rfl (lv_at hl 0 rfl) ?_
      refine lv_aload_n hx hb dX4_layersOf_5 rfl (lv_at hl 2 rfl) ?_
      refine va_get (D := (dC, dI)) (ci := 4) (v := .int kl) (C := RX4) (T := TX4) (N := 10) hx hb hts hiX4 hown hK hP 0 rfl rfl 2 (by decide) w__fieldLink_RX4_15_ShellHeap_Known_layersSeen_I_ (fun _ h9 => h9) rfl dX4_layersOf_6 ?_
      refine lv_icmp_ge (tgt := 34) hx hb dX4_layersOf_9 (by decide) (fun c_7 => ?_) (fun c_7 => ?_)
      · have k_8 : (kl).toInt ≤ (i_4).toInt := z_le c_7
        refine lv_iload_n hx hb dX4_layersOf_34 rfl (lv_at hl 1 rfl) ?_
        refine z_backQ hQQ ?_
        refine W.widen (k := 0) (n := 0) (Nat.le_of_ble_eq_true rfl) (Nat.le_of_ble_eq_true rfl) ?_
        exact W.iret (v := n_5) hx hb hr (fun t ht hW => ⟨⟨n_5, (), rfl, trivial, trivial⟩, hS.F ht⟩) hS.2.2 dX4_layersOf_35
      · have k_9 : (kl).toInt > (i_4).toInt := z_nle c_7
        refine lv_aload_n hx hb dX4_layersOf_12 rfl (lv_at hl 2 rfl) ?_
        refine va_get (D := (dC, dI)) (ci := 4) (v := .ref h1) (C := RX4) (T := TX4) (N := 10) hx hb hts hiX4 hown hK hP 0 rfl rfl 6 (by decide) w__fieldLink_RX4_29_ShellHeap_Known_bedOf_I_ (fun _ h9 => h9) rfl dX4_layersOf_13 ?_
        refine lv_iload_n hx hb dX4_layersOf_16 rfl (lv_at hl 0 rfl) ?_
        refine va_iald hx hb hK hP 1 0 rfl rfl (z_vpin (by omega) (by omega)) dX4_layersOf_17 ?_
        refine lv_topi (fun z_10 ez_10 => ?_)
        have kz_10 : ((0 : Int) ≤ (z_10).toInt ∧ (z_10).toInt ≤ (11 : Int)) := by rw [ez_10]; exact hI_h1 _
        refine lv_iload_n hx hb dX4_layersOf_18 rfl (lv_at hl 3 rfl) ?_
        refine lv_icmp_ne (tgt := 28) hx hb dX4_layersOf_19 (by decide) (fun c_11 => ?_) (fun c_11 => ?_)
        · have k_12 : (z_10).toInt ≠ (p1).toInt := z_ne c_11
          obtain ⟨z_13, ez_13⟩ : ∃ y : Int32, y = i_4 + 1 := ⟨_, rfl⟩
          have kz_13 : (z_13).toInt = (i_4).toInt + (1 : Int) := by rw [ez_13]; exact z_add (b := 1) rfl rfl (z_al hF_6.1 (by decide)) (z_ah hF_6.2 (by decide))
          refine lv_iinc (v := z_13) (lv' := [(3, .int z_13), (2, .int n_5), (0, .ref h0), (1, .int p1)]) hx hb dX4_layersOf_28 hl (k := 0) rfl (by rw [ez_13]; rfl) (by decide) rfl (fun ls hl => ?_)
          refine lv_goto (tgt := 4) hx hb dX4_layersOf_31 (by decide) ?_
          exact ih_3 z_13 n_5 _ _ _ (show (13 - (z_13).toInt).toNat < n_2 by omega) (show ((0 : Int) ≤ (z_13).toInt ∧ (z_13).toInt ≤ (12 : Int)) by omega) hP hD hS (lv_sub hl [0, 1, 2, 3] rfl)
        · have k_14 : (z_10).toInt = (p1).toInt := z_eq c_11
          refine lv_iload_n hx hb dX4_layersOf_22 rfl (lv_at hl 1 rfl) ?_
          refine lv_iconst (v := 1) hx hb dX4_layersOf_23 (by decide) ?_
          refine lv_iload_n hx hb dX4_layersOf_24 rfl (lv_at hl 0 rfl) ?_
          refine lv_ishl hx hb dX4_layersOf_25 ?_
          refine lv_topi (fun z_15 ez_15 => ?_)
          refine lv_ior hx hb dX4_layersOf_26 ?_
          refine lv_topi (fun z_16 ez_16 => ?_)
          refine lv_istore_n (lv' := [(2, .int z_16), (3, .int i_4), (0, .ref h0), (1, .int p1)]) hx hb dX4_layersOf_27 rfl hl (by decide) rfl (fun ls hl => ?_)
          obtain ⟨z_17, ez_17⟩ : ∃ y : Int32, y = i_4 + 1 := ⟨_, rfl⟩
          have kz_17 : (z_17).toInt = (i_4).toInt + (1 : Int) := by rw [ez_17]; exact z_add (b := 1) rfl rfl (z_al hF_6.1 (by decide)) (z_ah hF_6.2 (by decide))
          refine lv_iinc (v := z_17) (lv' := [(3, .int z_17), (2, .int z_16), (0, .ref h0), (1, .int p1)]) hx hb dX4_layersOf_28 hl (k := 1) rfl (by rw [ez_17]; rfl) (by decide) rfl (fun ls hl => ?_)
          refine lv_goto (tgt := 4) hx hb dX4_layersOf_31 (by decide) ?_
          exact ih_3 z_17 z_16 _ _ _ (show (13 - (z_17).toInt).toNat < n_2 by omega) (show ((0 : Int) ≤ (z_17).toInt ∧ (z_17).toInt ≤ (12 : Int)) by omega) hP hD hS (lv_sub hl [0, 1, 2, 3] rfl)
  exact loop_1 _ 0 0 _ _ _ (Nat.lt_succ_self _) (show ((0 : Int) ≤ (0 : Int) ∧ (0 : Int) ≤ (12 : Int)) by omega) hP hD hS hl
def u_s_X4_bedsInAll : List Cond := .code yX4_bedsInAll cX4_bedsInAll 3 (some .int) :: ([.fieldLink RX4 15 "ShellHeap$Known" "layersSeen" "I", .fieldLink RX4 29 "ShellHeap$Known" "bedOf" "[I"] ++ (wsX40 ++ []))
theorem gd_s_X4_bedsInAll : z_gd u_s_X4_bedsInAll := z_gdc (by decide +kernel) (z_gda gdX4 (z_gd0))
set_option maxHeartbeats 4000000 in
set_option maxRecDepth 100000 in
theorem s_X4_bedsInAll (l : Launch) (dC : Nat → ClassId) (dI : Nat → Nat → Nat) (sz : Nat) (h0 : Nat) (h0_0 : Value) (h0_1 : Value) (kl : Int32) (h0_3 : Value) (h0_4 : Value) (h0_5 : Value) (h1 : Nat) (h0_7 : Value) (h0_8 : Value) (h0_9 : Value) (ch1 : ClassId) (fh1 : Nat → Int32) (hB_kl : ((-1 : Int) ≤ (kl).toInt ∧ (kl).toInt ≤ (12 : Int))) (hI_h1 : ∀ j : Nat, ((0 : Int) ≤ (fh1 j).toInt ∧ (fh1 j).toInt ≤ (11 : Int))) : Met l yX4_bedsInAll u_s_X4_bedsInAll ({ frames := 0, cells := 0, slots := 0, locals := 0 }) (va_Pc [.ref h0] (z_C (dC, dI) vwCl [(h0, .inr (4, [h0_0, h0_1, .int kl, h0_3, h0_4, h0_5, .ref h1, h0_7, h0_8, h0_9])), (h1, .inl (ch1, 12, .inl fh1))] [(ch1, .int)] sz)) (va_Qi (fun (r : Int32) (_ : Unit) => True) (fun (_ : Unit) (_ : State) => True) (va_A [] sz)) 0 0 (va_A [] sz) := by
  refine Met.ofW (cc := cX4_bedsInAll) (maxL := 3) (ret := (some .int)) (by decide) rfl ?_
  intro p e s m args below meth c s₁ B hml hv
  obtain ⟨rfl, hsz, hP, hK, hD0⟩ := hv
  have hx := B.exec
  have hb := B.bytes
  have hr := B.returns
  have hts := atoms_spec (ws := u_s_X4_bedsInAll) B.pre
  have hown : s.vm.findClass RX4 = some m.cls := findClass_of_methodNamed B.named
  have hlocks := B.notSynchronized
  subst hsz
  have hD := hD0
  generalize hAe : va_A [] s.heap.size = A
  have hA : ∀ q : Nat, s.heap.size ≤ q → A q := fun q h => by rw [← hAe]; exact Or.inr h
  have hS : va_S A s.heap s.heap [] := va_S.rf
  have hP : va_P (dC, dI) vwCl [(h0, .inr (4, [h0_0, h0_1, .int kl, h0_3, h0_4, h0_5, .ref h1, h0_7, h0_8, h0_9])), (h1, .inl (ch1, 12, .inl fh1))] s.heap := hP
  have w__fieldLink_RX4_15_ShellHeap_Known_layersSeen_I_ := hts (.fieldLink RX4 15 "ShellHeap$Known" "layersSeen" "I") (z_mc (z_ml z_m0))
  have hiX4 := show ∀ w ∈ u_ws RX4 TX4 10, w ∈ u_s_X4_bedsInAll from fun w h => z_mc (z_mr (z_ml h))
  have w__fieldLink_RX4_29_ShellHeap_Known_bedOf_I_ := hts (.fieldLink RX4 29 "ShellHeap$Known" "bedOf" "[I") (z_mc (z_ml z_m1))
  have hl := lv_entry ([.ref h0]) (n := 3) (Nat.le_of_ble_eq_true rfl)
  rw [lg_entry_eq]
  generalize (lg_sl ([.ref h0]) ++ List.replicate (3 - (lg_sl ([.ref h0])).length) Slot.unset).toArray = ls at hl ⊢
  have hl : lv_has ls 3 [(0, .ref h0)] := hl
  refine z_nameQ (fun QQ hQQ => ?_)
  refine lv_iconst (v := 0) hx hb dX4_bedsInAll_0 (by decide) ?_
  refine lv_istore_n (lv' := [(1, .int 0), (0, .ref h0)]) hx hb dX4_bedsInAll_1 rfl hl (by decide) rfl (fun ls hl => ?_)
  refine lv_iconst (v := 0) hx hb dX4_bedsInAll_2 (by decide) ?_
  refine lv_istore_n (lv' := [(2, .int 0), (1, .int 0), (0, .ref h0)]) hx hb dX4_bedsInAll_3 rfl hl (by decide) rfl (fun ls hl => ?_)
  have loop_1 : ∀ (n_2 : Nat) (i_4 : Int32) (n_5 : Int32) (H : Heap) (locs : List Loc) (ls : Array Slot), (13 - (i_4).toInt).toNat < n_2 → (((0 : Int) ≤ (i_4).toInt ∧ (i_4).toInt ≤ (12 : Int))) → (((0 : Int) ≤ (n_5).toInt ∧ (n_5).toInt ≤ (12 : Int))) → ((n_5).toInt ≤ (i_4).toInt) → va_P (dC, dI) vwCl [(h0, .inr (4, [h0_0, h0_1, .int kl, h0_3, h0_4, h0_5, .ref h1, h0_7, h0_8, h0_9])), (h1, .inl (ch1, 12, .inl fh1))] H → va_D (fun _ => True) [(h0, .inr (4, [h0_0, h0_1, .int kl, h0_3, h0_4, h0_5, .ref h1, h0_7, h0_8, h0_9])), (h1, .inl (ch1, 12, .inl fh1))] → va_S A s.heap H locs → lv_has ls 3 [(2, .int i_4), (1, .int n_5), (0, .ref h0)] → W p l e ({ frames := 0, cells := 0, slots := 0, locals := 0 } : Room) s m ([.ref h0] : List Value).toArray below meth c H locs 0 0 QQ (F0 m 4 ls []) := by
    intro n_2
    induction n_2 with
    | zero => intro i_4 n_5 H locs ls hm; exact absurd hm (Nat.not_lt_zero _)
    | succ n_2 ih_3 =>
      intro i_4 n_5 H locs ls hm hF_6 hF_7 hF_8 hP hD hS hl
      refine lv_iload_n hx hb dX4_bedsInAll_4 rfl (lv_at hl 0 rfl) ?_
      refine lv_aload_n hx hb dX4_bedsInAll_5 rfl (lv_at hl 2 rfl) ?_
      refine va_get (D := (dC, dI)) (ci := 4) (v := .int kl) (C := RX4) (T := TX4) (N := 10) hx hb hts hiX4 hown hK hP 0 rfl rfl 2 (by decide) w__fieldLink_RX4_15_ShellHeap_Known_layersSeen_I_ (fun _ h9 => h9) rfl dX4_bedsInAll_6 ?_
      refine lv_icmp_ge (tgt := 31) hx hb dX4_bedsInAll_9 (by decide) (fun c_9 => ?_) (fun c_9 => ?_)
      · have k_10 : (kl).toInt ≤ (i_4).toInt := z_le c_9
        refine lv_iload_n hx hb dX4_bedsInAll_31 rfl (lv_at hl 1 rfl) ?_
        refine z_backQ hQQ ?_
        refine W.widen (k := 0) (n := 0) (Nat.le_of_ble_eq_true rfl) (Nat.le_of_ble_eq_true rfl) ?_
        exact W.iret (v := n_5) hx hb hr (fun t ht hW => ⟨⟨n_5, (), rfl, trivial, trivial⟩, hS.F ht⟩) hS.2.2 dX4_bedsInAll_32
      · have k_11 : (kl).toInt > (i_4).toInt := z_nle c_9
        refine lv_aload_n hx hb dX4_bedsInAll_12 rfl (lv_at hl 2 rfl) ?_
        refine va_get (D := (dC, dI)) (ci := 4) (v := .ref h1) (C := RX4) (T := TX4) (N := 10) hx hb hts hiX4 hown hK hP 0 rfl rfl 6 (by decide) w__fieldLink_RX4_29_ShellHeap_Known_bedOf_I_ (fun _ h9 => h9) rfl dX4_bedsInAll_13 ?_
        refine lv_iload_n hx hb dX4_bedsInAll_16 rfl (lv_at hl 0 rfl) ?_
        refine va_iald hx hb hK hP 1 0 rfl rfl (z_vpin (by omega) (by omega)) dX4_bedsInAll_17 ?_
        refine lv_topi (fun z_12 ez_12 => ?_)
        have kz_12 : ((0 : Int) ≤ (z_12).toInt ∧ (z_12).toInt ≤ (11 : Int)) := by rw [ez_12]; exact hI_h1 _
        refine lv_iload_n hx hb dX4_bedsInAll_18 rfl (lv_at hl 0 rfl) ?_
        refine lv_icmp_ne (tgt := 25) hx hb dX4_bedsInAll_19 (by decide) (fun c_13 => ?_) (fun c_13 => ?_)
        · have k_14 : (z_12).toInt ≠ (i_4).toInt := z_ne c_13
          obtain ⟨z_15, ez_15⟩ : ∃ y : Int32, y = i_4 + 1 := ⟨_, rfl⟩
          have kz_15 : (z_15).toInt = (i_4).toInt + (1 : Int) := by rw [ez_15]; exact z_add (b := 1) rfl rfl (z_al hF_6.1 (by decide)) (z_ah hF_6.2 (by decide))
          refine lv_iinc (v := z_15) (lv' := [(2, .int z_15), (1, .int n_5), (0, .ref h0)]) hx hb dX4_bedsInAll_25 hl (k := 0) rfl (by rw [ez_15]; rfl) (by decide) rfl (fun ls hl => ?_)
          refine lv_goto (tgt := 4) hx hb dX4_bedsInAll_28 (by decide) ?_
          exact ih_3 z_15 n_5 _ _ _ (show (13 - (z_15).toInt).toNat < n_2 by omega) (show ((0 : Int) ≤ (z_15).toInt ∧ (z_15).toInt ≤ (12 : Int)) by omega) (show ((0 : Int) ≤ (n_5).toInt ∧ (n_5).toInt ≤ (12 : Int)) by omega) (show (n_5).toInt ≤ (z_15).toInt by omega) hP hD hS (lv_sub hl [0, 1, 2] rfl)
        · have k_16 : (z_12).toInt = (i_4).toInt := z_eq c_13
          obtain ⟨z_17, ez_17⟩ : ∃ y : Int32, y = n_5 + 1 := ⟨_, rfl⟩
          have kz_17 : (z_17).toInt = (n_5).toInt + (1 : Int) := by rw [ez_17]; exact z_add (b := 1) rfl rfl (z_al hF_7.1 (by decide)) (z_ah hF_7.2 (by decide))
          refine lv_iinc (v := z_17) (lv' := [(1, .int z_17), (2, .int i_4), (0, .ref h0)]) hx hb dX4_bedsInAll_22 hl (k := 1) rfl (by rw [ez_17]; rfl) (by decide) rfl (fun ls hl => ?_)
          obtain ⟨z_18, ez_18⟩ : ∃ y : Int32, y = i_4 + 1 := ⟨_, rfl⟩
          have kz_18 : (z_18).toInt = (i_4).toInt + (1 : Int) := by rw [ez_18]; exact z_add (b := 1) rfl rfl (z_al hF_6.1 (by decide)) (z_ah hF_6.2 (by decide))
          refine lv_iinc (v := z_18) (lv' := [(2, .int z_18), (1, .int z_17), (0, .ref h0)]) hx hb dX4_bedsInAll_25 hl (k := 1) rfl (by rw [ez_18]; rfl) (by decide) rfl (fun ls hl => ?_)
          refine lv_goto (tgt := 4) hx hb dX4_bedsInAll_28 (by decide) ?_
          exact ih_3 z_18 z_17 _ _ _ (show (13 - (z_18).toInt).toNat < n_2 by omega) (show ((0 : Int) ≤ (z_18).toInt ∧ (z_18).toInt ≤ (12 : Int)) by omega) (show ((0 : Int) ≤ (z_17).toInt ∧ (z_17).toInt ≤ (12 : Int)) by omega) (show (z_17).toInt ≤ (z_18).toInt by omega) hP hD hS (lv_sub hl [0, 1, 2] rfl)
  exact loop_1 _ 0 0 _ _ _ (Nat.lt_succ_self _) (show ((0 : Int) ≤ (0 : Int) ∧ (0 : Int) ≤ (12 : Int)) by omega) (show ((0 : Int) ≤ (0 : Int) ∧ (0 : Int) ≤ (12 : Int)) by omega) (show (0 : Int) ≤ (0 : Int) by omega) hP hD hS hl
def u_s_X4_ahead : List Cond := .code yX4_ahead cX4_ahead 4 (some .int) :: ([.fieldLink RX4 15 "ShellHeap$Known" "layersSeen" "I", .fieldLink RX4 38 "ShellHeap$Known" "clash" "I", .methodLink RX4 95 yX4_isLater, .instanceMethod yX4_isLater, .selects RX4 yX4_isLater yX4_isLater, .initialized RX4, .fieldLink RX4 26 "ShellHeap$Known" "ranks" "[I"] ++ (wsX40 ++ (u_s_X4_isLater ++ [])))
theorem gd_s_X4_ahead : z_gd u_s_X4_ahead := z_gdc (by decide +kernel) (z_gda gdX4 (z_gda gd_s_X4_isLater (z_gd0)))
set_option maxRecDepth 20000 in
theorem gw_s_X4_ahead_s_X4_isLater_95 : GoodIn u_s_X4_ahead (wsV RX4 95 RX4 yX4_isLater u_s_X4_isLater) := z_gV (z_gr _ [3, 4, 5, 6] rfl (by decide +kernel)) (fun w h => ⟨z_mc (z_mr (z_mr (z_ml h))), gd_s_X4_isLater w h⟩)
set_option maxHeartbeats 4000000 in
set_option maxRecDepth 100000 in
theorem s_X4_ahead (l : Launch) (dC : Nat → ClassId) (dI : Nat → Nat → Nat) (sz : Nat) (h0 : Nat) (p1 : Int32) (h0_0 : Value) (h0_1 : Value) (kl : Int32) (h0_3 : Value) (h1 : Nat) (h2 : Nat) (h0_6 : Value) (h0_7 : Value) (h0_8 : Value) (kc : Int32) (ch1 : ClassId) (fh1 : Nat → Int32) (ch2 : ClassId) (fh2 : Nat → Int32) (hB_kl : ((-1 : Int) ≤ (kl).toInt ∧ (kl).toInt ≤ (12 : Int))) (hB_kc : ((0 : Int) ≤ (kc).toInt ∧ (kc).toInt ≤ (2 : Int))) (hB_p1 : ((0 : Int) ≤ (p1).toInt ∧ (p1).toInt ≤ (11 : Int))) : Met l yX4_ahead u_s_X4_ahead ({ frames := 1, cells := 0, slots := 0, locals := 22 }) (va_Pc [.ref h0, .int p1] (z_C (dC, dI) vwCl [(h0, .inr (4, [h0_0, h0_1, .int kl, h0_3, .ref h1, .ref h2, h0_6, h0_7, h0_8, .int kc])), (h1, .inl (ch1, 12, .inl fh1)), (h2, .inl (ch2, 12, .inl fh2))] [(ch1, .int), (ch2, .int)] sz)) (va_Qi (fun (r : Int32) (_ : Unit) => ((-1 : Int) ≤ (r).toInt ∧ (r).toInt ≤ (11 : Int))) (fun (_ : Unit) (_ : State) => True) (va_A [] sz)) 0 0 (va_A [] sz) := by
  refine Met.ofW (cc := cX4_ahead) (maxL := 4) (ret := (some .int)) (by decide) rfl ?_
  intro p e s m args below meth c s₁ B hml hv
  obtain ⟨rfl, hsz, hP, hK, hD0⟩ := hv
  have hx := B.exec
  have hb := B.bytes
  have hr := B.returns
  have hts := atoms_spec (ws := u_s_X4_ahead) B.pre
  have hown : s.vm.findClass RX4 = some m.cls := findClass_of_methodNamed B.named
  have hlocks := B.notSynchronized
  subst hsz
  have hD := hD0
  generalize hAe : va_A [] s.heap.size = A
  have hA : ∀ q : Nat, s.heap.size ≤ q → A q := fun q h => by rw [← hAe]; exact Or.inr h
  have hS : va_S A s.heap s.heap [] := va_S.rf
  have hP : va_P (dC, dI) vwCl [(h0, .inr (4, [h0_0, h0_1, .int kl, h0_3, .ref h1, .ref h2, h0_6, h0_7, h0_8, .int kc])), (h1, .inl (ch1, 12, .inl fh1)), (h2, .inl (ch2, 12, .inl fh2))] s.heap := hP
  have w__fieldLink_RX4_15_ShellHeap_Known_layersSeen_I_ := hts (.fieldLink RX4 15 "ShellHeap$Known" "layersSeen" "I") (z_mc (z_ml z_m0))
  have hiX4 := show ∀ w ∈ u_ws RX4 TX4 10, w ∈ u_s_X4_ahead from fun w h => z_mc (z_mr (z_ml h))
  have w__fieldLink_RX4_38_ShellHeap_Known_clash_I_ := hts (.fieldLink RX4 38 "ShellHeap$Known" "clash" "I") (z_mc (z_ml z_m1))
  have w__fieldLink_RX4_26_ShellHeap_Known_ranks_I_ := hts (.fieldLink RX4 26 "ShellHeap$Known" "ranks" "[I") (z_mc (z_ml z_m6))
  have hl := lv_entry ([.ref h0, .int p1]) (n := 4) (Nat.le_of_ble_eq_true rfl)
  rw [lg_entry_eq]
  generalize (lg_sl ([.ref h0, .int p1]) ++ List.replicate (4 - (lg_sl ([.ref h0, .int p1])).length) Slot.unset).toArray = ls at hl ⊢
  have hl : lv_has ls 4 [(0, .ref h0), (1, .int p1)] := hl
  refine z_nameQ (fun QQ hQQ => ?_)
  refine lv_iconst (v := (-1)) hx hb dX4_ahead_0 (by decide) ?_
  refine lv_istore_n (lv' := [(2, .int (-1)), (0, .ref h0), (1, .int p1)]) hx hb dX4_ahead_1 rfl hl (by decide) rfl (fun ls hl => ?_)
  refine lv_iconst (v := 0) hx hb dX4_ahead_2 (by decide) ?_
  refine lv_istore_n (lv' := [(3, .int 0), (2, .int (-1)), (0, .ref h0), (1, .int p1)]) hx hb dX4_ahead_3 rfl hl (by decide) rfl (fun ls hl => ?_)
  have loop_1 : ∀ (n_2 : Nat) (i_4 : Int32) (a_5 : Int32) (H : Heap) (locs : List Loc) (ls : Array Slot), (13 - (i_4).toInt).toNat < n_2 → (((0 : Int) ≤ (i_4).toInt ∧ (i_4).toInt ≤ (12 : Int))) → (((-1 : Int) ≤ (a_5).toInt ∧ (a_5).toInt ≤ (11 : Int))) → va_P (dC, dI) vwCl [(h0, .inr (4, [h0_0, h0_1, .int kl, h0_3, .ref h1, .ref h2, h0_6, h0_7, h0_8, .int kc])), (h1, .inl (ch1, 12, .inl fh1)), (h2, .inl (ch2, 12, .inl fh2))] H → va_D (fun _ => True) [(h0, .inr (4, [h0_0, h0_1, .int kl, h0_3, .ref h1, .ref h2, h0_6, h0_7, h0_8, .int kc])), (h1, .inl (ch1, 12, .inl fh1)), (h2, .inl (ch2, 12, .inl fh2))] → va_S A s.heap H locs → lv_has ls 4 [(3, .int i_4), (2, .int a_5), (0, .ref h0), (1, .int p1)] → W p l e ({ frames := 1, cells := 0, slots := 0, locals := 22 } : Room) s m ([.ref h0, .int p1] : List Value).toArray below meth c H locs 0 0 QQ (F0 m 4 ls []) := by
    intro n_2
    induction n_2 with
    | zero => intro i_4 a_5 H locs ls hm; exact absurd hm (Nat.not_lt_zero _)
    | succ n_2 ih_3 =>
      intro i_4 a_5 H locs ls hm hF_6 hF_7 hP hD hS hl
      refine lv_iload_n hx hb dX4_ahead_4 rfl (lv_at hl 0 rfl) ?_
      refine lv_aload_n hx hb dX4_ahead_5 rfl (lv_at hl 2 rfl) ?_
      refine va_get (D := (dC, dI)) (ci := 4) (v := .int kl) (C := RX4) (T := TX4) (N := 10) hx hb hts hiX4 hown hK hP 0 rfl rfl 2 (by decide) w__fieldLink_RX4_15_ShellHeap_Known_layersSeen_I_ (fun _ h9 => h9) rfl dX4_ahead_6 ?_
      refine lv_icmp_ge (tgt := 57) hx hb dX4_ahead_9 (by decide) (fun c_8 => ?_) (fun c_8 => ?_)
      · have k_9 : (kl).toInt ≤ (i_4).toInt := z_le c_8
        refine lv_iload_n hx hb dX4_ahead_57 rfl (lv_at hl 1 rfl) ?_
        refine z_backQ hQQ ?_
        refine W.widen (k := 0) (n := 0) (Nat.le_of_ble_eq_true rfl) (Nat.le_of_ble_eq_true rfl) ?_
        exact W.iret (v := a_5) hx hb hr (fun t ht hW => ⟨⟨a_5, (), rfl, (show ((-1 : Int) ≤ (a_5).toInt ∧ (a_5).toInt ≤ (11 : Int)) from hF_7), trivial⟩, hS.F ht⟩) hS.2.2 dX4_ahead_58
      · have k_10 : (kl).toInt > (i_4).toInt := z_nle c_8
        refine lv_aload_n hx hb dX4_ahead_12 rfl (lv_at hl 2 rfl) ?_
        refine va_get (D := (dC, dI)) (ci := 4) (v := .int kc) (C := RX4) (T := TX4) (N := 10) hx hb hts hiX4 hown hK hP 0 rfl rfl 9 (by decide) w__fieldLink_RX4_38_ShellHeap_Known_clash_I_ (fun _ h9 => h9) rfl dX4_ahead_13 ?_
        refine lv_iconst (v := 1) hx hb dX4_ahead_16 (by decide) ?_
        refine lv_icmp_eq (tgt := 57) hx hb dX4_ahead_17 (by decide) (fun c_11 => ?_) (fun c_11 => ?_)
        · have k_12 : (kc).toInt = (1 : Int) := z_eq c_11
          obtain rfl : kc = 1 := z_eq' (show (kc).toInt = (1 : Int) by omega)
          refine lv_iload_n hx hb dX4_ahead_57 rfl (lv_at hl 1 rfl) ?_
          refine z_backQ hQQ ?_
          refine W.widen (k := 0) (n := 0) (Nat.le_of_ble_eq_true rfl) (Nat.le_of_ble_eq_true rfl) ?_
          exact W.iret (v := a_5) hx hb hr (fun t ht hW => ⟨⟨a_5, (), rfl, (show ((-1 : Int) ≤ (a_5).toInt ∧ (a_5).toInt ≤ (11 : Int)) from hF_7), trivial⟩, hS.F ht⟩) hS.2.2 dX4_ahead_58
        · have k_14 : (kc).toInt ≠ (1 : Int) := z_ne c_11
          refine lv_aload_n hx hb dX4_ahead_20 rfl (lv_at hl 2 rfl) ?_
          refine lv_iload_n hx hb dX4_ahead_21 rfl (lv_at hl 3 rfl) ?_
          refine lv_iload_n hx hb dX4_ahead_22 rfl (lv_at hl 0 rfl) ?_
          obtain ⟨hPc, hDc⟩ := z_sub2 (ws' := [(h0, .inr (4, [h0_0, h0_1, .int kl, h0_3, .ref h1, .ref h2, h0_6, h0_7, h0_8, .int kc])), (h1, .inl (ch1, 12, .inl fh1))]) hP hD [0, 1] (by decide) rfl
          have hKc := hK.sub (tys' := [(ch1, .int)]) [0] rfl
          have hFc := va_free (ws := []) (wc := []) (z_D0 _) hS hA [] rfl
          refine va_calli (va_runV (As := [.int p1, .int i_4]) (rest := []) ⟨hx, hb, hml, hown, hts⟩ (s_X4_isLater l dC dI H.size h0 p1 i_4 h0_0 h0_1 (.int kl) h0_3 h1 (.ref h2) h0_6 h0_7 h0_8 (.int kc) ch1 fh1 hB_p1) (cwV 2 hts gw_s_X4_ahead_s_X4_isLater_95 rfl rfl rfl (by decide +kernel) ⟨Nat.le_of_ble_eq_true rfl, Nat.le_of_ble_eq_true rfl⟩) ⟨z_blind, va_recv hKc hPc (ci := 4) (q0 := 0) rfl rfl, z_pre hPc hKc hDc⟩ rfl rfl hl.1 rfl (lv_room (Nat.le_of_ble_eq_true rfl)) dX4_ahead_23 ⟨Nat.le_of_ble_eq_true rfl, Nat.le_of_ble_eq_true rfl⟩) hS (fun q _ h => hFc q h) hFc (fun r_16 u t H_15 locs ht hvm hw_17 hB hz1 hk1 hS => ?_)
          replace hP := z_pure hP hk1
          clear hPc hDc hKc
          refine lv_if_eq (tgt := 51) hx hb dX4_ahead_26 (by decide) (fun c_18 => ?_) (fun c_18 => ?_)
          · have k_19 : (r_16).toInt = (0 : Int) := z_eq c_18
            obtain rfl : r_16 = 0 := z_eq' (show (r_16).toInt = (0 : Int) by omega)
            obtain ⟨z_21, ez_21⟩ : ∃ y : Int32, y = i_4 + 1 := ⟨_, rfl⟩
            have kz_21 : (z_21).toInt = (i_4).toInt + (1 : Int) := by rw [ez_21]; exact z_add (b := 1) rfl rfl (z_al hF_6.1 (by decide)) (z_ah hF_6.2 (by decide))
            refine lv_iinc (v := z_21) (lv' := [(3, .int z_21), (2, .int a_5), (0, .ref h0), (1, .int p1)]) hx hb dX4_ahead_51 hl (k := 0) rfl (by rw [ez_21]; rfl) (by decide) rfl (fun ls hl => ?_)
            refine lv_goto (tgt := 4) hx hb dX4_ahead_54 (by decide) ?_
            exact ih_3 z_21 a_5 _ _ _ (show (13 - (z_21).toInt).toNat < n_2 by omega) (show ((0 : Int) ≤ (z_21).toInt ∧ (z_21).toInt ≤ (12 : Int)) by omega) (show ((-1 : Int) ≤ (a_5).toInt ∧ (a_5).toInt ≤ (11 : Int)) by omega) hP hD hS (lv_sub hl [0, 1, 2, 3] rfl)
          · have k_22 : (r_16).toInt ≠ (0 : Int) := z_ne c_18
            obtain rfl : r_16 = 1 := z_eq' (show (r_16).toInt = (1 : Int) by omega)
            refine lv_iload_n hx hb dX4_ahead_29 rfl (lv_at hl 1 rfl) ?_
            refine lv_iconst (v := (-1)) hx hb dX4_ahead_30 (by decide) ?_
            refine lv_icmp_eq (tgt := 49) hx hb dX4_ahead_31 (by decide) (fun c_24 => ?_) (fun c_24 => ?_)
            · have k_25 : (a_5).toInt = (-1 : Int) := z_eq c_24
              obtain rfl : a_5 = (-1) := z_eq' (show (a_5).toInt = (-1 : Int) by omega)
              refine lv_iload_n hx hb dX4_ahead_49 rfl (lv_at hl 0 rfl) ?_
              refine lv_istore_n (lv' := [(2, .int i_4), (3, .int i_4), (0, .ref h0), (1, .int p1)]) hx hb dX4_ahead_50 rfl hl (by decide) rfl (fun ls hl => ?_)
              obtain ⟨z_27, ez_27⟩ : ∃ y : Int32, y = i_4 + 1 := ⟨_, rfl⟩
              have kz_27 : (z_27).toInt = (i_4).toInt + (1 : Int) := by rw [ez_27]; exact z_add (b := 1) rfl rfl (z_al hF_6.1 (by decide)) (z_ah hF_6.2 (by decide))
              refine lv_iinc (v := z_27) (lv' := [(3, .int z_27), (2, .int i_4), (0, .ref h0), (1, .int p1)]) hx hb dX4_ahead_51 hl (k := 1) rfl (by rw [ez_27]; rfl) (by decide) rfl (fun ls hl => ?_)
              refine lv_goto (tgt := 4) hx hb dX4_ahead_54 (by decide) ?_
              exact ih_3 z_27 i_4 _ _ _ (show (13 - (z_27).toInt).toNat < n_2 by omega) (show ((0 : Int) ≤ (z_27).toInt ∧ (z_27).toInt ≤ (12 : Int)) by omega) (show ((-1 : Int) ≤ (i_4).toInt ∧ (i_4).toInt ≤ (11 : Int)) by omega) hP hD hS (lv_sub hl [0, 1, 2, 3] rfl)
            · have k_28 : (a_5).toInt ≠ (-1 : Int) := z_ne c_24
              refine lv_aload_n hx hb dX4_ahead_34 rfl (lv_at hl 2 rfl) ?_
              refine va_get (D := (dC, dI)) (ci := 4) (v := .ref h2) (C := RX4) (T := TX4) (N := 10) hx hb hts hiX4 hown hK hP 0 rfl rfl 5 (by decide) w__fieldLink_RX4_26_ShellHeap_Known_ranks_I_ (fun _ h9 => h9) rfl dX4_ahead_35 ?_
              refine lv_iload_n hx hb dX4_ahead_38 rfl (lv_at hl 0 rfl) ?_
              refine va_iald hx hb hK hP 2 1 rfl rfl (z_vpin (by omega) (by omega)) dX4_ahead_39 ?_
              refine lv_topi (fun z_29 ez_29 => ?_)
              refine lv_aload_n hx hb dX4_ahead_40 rfl (lv_at hl 2 rfl) ?_
              refine va_get (D := (dC, dI)) (ci := 4) (v := .ref h2) (C := RX4) (T := TX4) (N := 10) hx hb hts hiX4 hown hK hP 0 rfl rfl 5 (by decide) w__fieldLink_RX4_26_ShellHeap_Known_ranks_I_ (fun _ h9 => h9) rfl dX4_ahead_41 ?_
              refine lv_iload_n hx hb dX4_ahead_44 rfl (lv_at hl 1 rfl) ?_
              refine va_iald hx hb hK hP 2 1 rfl rfl (z_vpin (by omega) (by omega)) dX4_ahead_45 ?_
              refine lv_topi (fun z_30 ez_30 => ?_)
              refine lv_icmp_le (tgt := 51) hx hb dX4_ahead_46 (by decide) (fun c_31 => ?_) (fun c_31 => ?_)
              · have k_32 : (z_29).toInt ≤ (z_30).toInt := z_le c_31
                obtain ⟨z_33, ez_33⟩ : ∃ y : Int32, y = i_4 + 1 := ⟨_, rfl⟩
                have kz_33 : (z_33).toInt = (i_4).toInt + (1 : Int) := by rw [ez_33]; exact z_add (b := 1) rfl rfl (z_al hF_6.1 (by decide)) (z_ah hF_6.2 (by decide))
                refine lv_iinc (v := z_33) (lv' := [(3, .int z_33), (2, .int a_5), (0, .ref h0), (1, .int p1)]) hx hb dX4_ahead_51 hl (k := 0) rfl (by rw [ez_33]; rfl) (by decide) rfl (fun ls hl => ?_)
                refine lv_goto (tgt := 4) hx hb dX4_ahead_54 (by decide) ?_
                exact ih_3 z_33 a_5 _ _ _ (show (13 - (z_33).toInt).toNat < n_2 by omega) (show ((0 : Int) ≤ (z_33).toInt ∧ (z_33).toInt ≤ (12 : Int)) by omega) (show ((-1 : Int) ≤ (a_5).toInt ∧ (a_5).toInt ≤ (11 : Int)) by omega) hP hD hS (lv_sub hl [0, 1, 2, 3] rfl)
              · have k_34 : (z_29).toInt > (z_30).toInt := z_nle c_31
                refine lv_iload_n hx hb dX4_ahead_49 rfl (lv_at hl 0 rfl) ?_
                refine lv_istore_n (lv' := [(2, .int i_4), (3, .int i_4), (0, .ref h0), (1, .int p1)]) hx hb dX4_ahead_50 rfl hl (by decide) rfl (fun ls hl => ?_)
                obtain ⟨z_35, ez_35⟩ : ∃ y : Int32, y = i_4 + 1 := ⟨_, rfl⟩
                have kz_35 : (z_35).toInt = (i_4).toInt + (1 : Int) := by rw [ez_35]; exact z_add (b := 1) rfl rfl (z_al hF_6.1 (by decide)) (z_ah hF_6.2 (by decide))
                refine lv_iinc (v := z_35) (lv' := [(3, .int z_35), (2, .int i_4), (0, .ref h0), (1, .int p1)]) hx hb dX4_ahead_51 hl (k := 1) rfl (by rw [ez_35]; rfl) (by decide) rfl (fun ls hl => ?_)
                refine lv_goto (tgt := 4) hx hb dX4_ahead_54 (by decide) ?_
                exact ih_3 z_35 i_4 _ _ _ (show (13 - (z_35).toInt).toNat < n_2 by omega) (show ((0 : Int) ≤ (z_35).toInt ∧ (z_35).toInt ≤ (12 : Int)) by omega) (show ((-1 : Int) ≤ (i_4).toInt ∧ (i_4).toInt ≤ (11 : Int)) by omega) hP hD hS (lv_sub hl [0, 1, 2, 3] rfl)
  exact loop_1 _ 0 (-1) _ _ _ (Nat.lt_succ_self _) (show ((0 : Int) ≤ (0 : Int) ∧ (0 : Int) ≤ (12 : Int)) by omega) (show ((-1 : Int) ≤ (-1 : Int) ∧ (-1 : Int) ≤ (11 : Int)) by omega) hP hD hS hl
