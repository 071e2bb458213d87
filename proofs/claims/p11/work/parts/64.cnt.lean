def z_FIL : List Cond := (z_ats.filter vx_no).filter goodWord
def z_dc (C : String) : MethodName := ⟨C, "<init>", "(Ljava/lang/String;)V"⟩
def z_TH (sa : Nat) (A : Nat → Prop) (U : State) (H : Heap) : Prop := (va_Nw (.castable z_XN z_XN) U ∧ va_Nw (.declares (z_dc "java/lang/RuntimeException")) U ∧ va_Nw (.declares (z_dc "java/lang/Exception")) U ∧ va_Nw (.declares (z_dc "java/lang/Throwable")) U) ∧ vk_R RX11 296 "no such count" sa U ∧ vx_Zq Bundle.tN "UNASSIGNED_STACK" Bundle.steD A U H ∧ vx_Zq Bundle.tN "SUPPRESSED_SENTINEL" Bundle.listD A U H
theorem z_TH.warm {sa : Nat} {A : Nat → Prop} {s U : State} {H : Heap} (hW : s.WarmedH U.vm) (h : z_TH sa A s H) : z_TH sa A U H := ⟨⟨va_Nw.warmC hW h.1.1, va_Nw.warmD hW h.1.2.1, va_Nw.warmD hW h.1.2.2.1, va_Nw.warmD hW h.1.2.2.2⟩, vk_R.warm hW h.2.1, vx_Zq.moved hW.alike h.2.2.1, vx_Zq.moved hW.alike h.2.2.2⟩
theorem z_TH.call {sa : Nat} {A : Nat → Prop} {U : State} {H : Heap} {g : JFrame} {mk : MethodId} {a : Array Value} (h : z_TH sa A U H) : z_TH sa A (U.calling g mk a) H := ⟨⟨va_Nw.same rfl (rfl : U.vm = (U.calling g mk a).vm) h.1.1, va_Nw.same rfl (rfl : U.vm = (U.calling g mk a).vm) h.1.2.1, va_Nw.same rfl (rfl : U.vm = (U.calling g mk a).vm) h.1.2.2.1, va_Nw.same rfl (rfl : U.vm = (U.calling g mk a).vm) h.1.2.2.2⟩, vk_R.same rfl h.2.1, vx_Zq.moved (u := U) (U := U.calling g mk a) (Vm.Alike.refl U.vm) h.2.2.1, vx_Zq.moved (u := U) (U := U.calling g mk a) (Vm.Alike.refl U.vm) h.2.2.2⟩
theorem z_TH.kept {sa : Nat} {A : Nat → Prop} {U : State} {H H1 : Heap} (h : z_TH sa A U H) (hq : ∀ a : Nat, a < H.size → ¬ A a → H1[a]? = H[a]?) : z_TH sa A U H1 := ⟨h.1, h.2.1, h.2.2.1.kept hq, h.2.2.2.kept hq⟩
theorem z_TH.narrow {sa : Nat} {A B : Nat → Prop} {U : State} {H : Heap} (h : z_TH sa A U H) (hAB : ∀ q, B q → A q) : z_TH sa B U H := ⟨h.1, h.2.1, h.2.2.1.narrow hAB, h.2.2.2.narrow hAB⟩
def z_CT (D : va_G) (cl : List vw_C) (ws : va_W) (tys : List (ClassId × FieldType)) (sz sa : Nat) : State → Prop := fun U => z_C D cl ws tys sz U ∧ z_TH sa (va_A [] sz) U U.heap
theorem z_blindT {av : List Value} {D : va_G} {cl : List vw_C} {ws : va_W} {tys : List (ClassId × FieldType)} {sz sa : Nat} : FrameBlind (va_Pc av (z_CT D cl ws tys sz sa)) := fun a U g mk q => by
  obtain ⟨q0, ⟨q1, qP, qK, qD⟩, qT⟩ := q
  exact ⟨q0, ⟨q1, qP, va_K.moved (u := U) (U := U.calling g mk a) (Vm.Alike.refl U.vm) qK, qD⟩, qT.call⟩
theorem z_preT {av : List Value} {s : State} {H : Heap} {D : va_G} {cl : List vw_C} {ws : va_W} {tys : List (ClassId × FieldType)} {A : Nat → Prop} {sa : Nat} (hP : va_P D cl ws H) (hK : va_K D cl tys s) (hD : va_D A ws) (hT : z_TH sa (va_A [] H.size) s H) : ∀ U : State, U.heap = H → s.WarmedH U.vm → va_Pc av (z_CT D cl ws tys H.size sa) av.toArray U := fun U hU hW => ⟨rfl, ⟨by rw [hU], by rw [hU]; exact hP, va_K.moved hW.alike hK, hD.weaken (fun _ _ _ _ => trivial)⟩, by rw [hU]; exact hT.warm hW⟩
def u_c_X11_count_out : List Cond := .code yX11_count cX11_count 2 (some .int) :: ([.classLink RX11 294 z_XN, .initialized z_XN] ++ z_FIL)
def u_c_L_count_out : List Cond := .codeWith yL_count cL_count 4 (some .int) [(0, 9, 12, 13)] :: ([.classLink RL 13 z_XN, .methodLink RL 7 yX11_count, .instanceMethod yX11_count, .selects RX11 yX11_count yX11_count, .initialized RX11, .code yX11_count cX11_count 2 (some .int), .classLink RX11 294 z_XN, .initialized z_XN] ++ z_FIL)
set_option maxRecDepth 20000 in
theorem z_FIL_good : z_FIL.all goodWord = true := by decide +kernel
set_option maxRecDepth 20000 in
theorem gw_L_out : GoodIn u_c_L_count_out (wsV RL 7 RX11 yX11_count u_c_X11_count_out) := goodIn_app (goodIn_of _ (by decide +kernel)) (goodIn_ca (goodIn_of _ (by decide +kernel)) (goodIn_sub (fun w h => List.mem_cons_of_mem _ (List.mem_append_right _ h)) z_FIL_good))
set_option maxHeartbeats 4000000 in
set_option maxRecDepth 100000 in
theorem c_X11_count_out (l : Launch) (hst : l.stackTraces = false) (dC : Nat → ClassId) (dI : Nat → Nat → Nat) (sz : Nat) (h0 sa : Nat) (p1 : Int32) (fs : List Value) (hq : p1.toInt < 0 ∨ 7 < p1.toInt) : vx_Met l yX11_count u_c_X11_count_out ({ frames := 6, cells := 1, slots := 6, locals := 82 }) (va_Pc [.ref h0, .int p1] (z_CT (dC, dI) vwCl [(h0, .inr (11, fs))] [] sz sa)) (va_Qi (fun (_ : Int32) (_ : Unit) => False) (fun (_ : Unit) (_ : State) => True) (va_A [] sz)) (vx_X (fun (_ : Unit) => True) (fun (E : String) (_ : Unit) (_ : State) => E = z_XN) (va_A [] sz)) 1 6 (va_A [] sz) := by
  refine vx_ofW (cc := cX11_count) (maxL := 2) (ret := (some .int)) (by decide) rfl ?_
  intro p e s m args below meth c s₁ B hml htab hv
  obtain ⟨rfl, ⟨hsz, hP, hK, hD0⟩, hT⟩ := hv
  have hx := B.exec
  have hb := B.bytes
  have hr := B.returns
  have hts := atoms_spec (ws := u_c_X11_count_out) B.pre
  have hown : s.vm.findClass RX11 = some m.cls := findClass_of_methodNamed B.named
  have hlocks := B.notSynchronized
  subst hsz
  have hS : va_S (va_A [] s.heap.size) s.heap s.heap [] := va_S.rf
  have hl := lv_entry ([.ref h0, .int p1]) (n := 2) (Nat.le_of_ble_eq_true rfl)
  rw [lg_entry_eq]
  generalize (lg_sl ([.ref h0, .int p1]) ++ List.replicate (2 - (lg_sl ([.ref h0, .int p1])).length) Slot.unset).toArray = ls at hl ⊢
  have hl : lv_has ls 2 [(0, .ref h0), (1, .int p1)] := hl
  refine lv_iload_n hx hb dX11_count_0 rfl (lv_at hl 1 rfl) ?_
  refine lv_tableOut (tgt := 132) hx hb dX11_count_1 (by omega) (by decide) ?_
  have hat : ∀ w ∈ z_ats.filter vx_no, w.before _ s = true := vx_hat (B := [Cond.castable z_XN z_XN, .declares (z_dc "java/lang/RuntimeException"), .declares (z_dc "java/lang/Exception"), .declares (z_dc "java/lang/Throwable")]) (fun w h => hts w (List.mem_cons_of_mem _ (List.mem_append_right _ h))) (by decide +kernel) (vx_c (va_Nw.use rfl hT.1.1) (vx_c (va_Nw.use rfl hT.1.2.1) (vx_c (va_Nw.use rfl hT.1.2.2.1) (vx_c (va_Nw.use rfl hT.1.2.2.2) vx_n))))
  exact z_throwW (sa := sa) (A := va_A [] s.heap.size) hx hb hst hown (hts (.classLink RX11 294 z_XN) (by decide +kernel)) (hts (.initialized z_XN) (by decide +kernel)) hT.2.1 hat (by decide +kernel) hT.2.2.1 hT.2.2.2 hS (by rw [hml]; exact hl.1) dX11_count_132 dX11_count_135 dX11_count_136 dX11_count_139 dX11_count_142 (fun x h => (htab x h).elim) (Nat.le_of_ble_eq_true rfl) (Nat.le_of_ble_eq_true rfl) (Nat.le_of_ble_eq_true rfl) (Nat.le_of_ble_eq_true rfl) hlocks (fun t _ h1 h2 => ⟨(), trivial, rfl, h1, fun q h _ => h2 q h⟩) hS.2.2 (Nat.le_of_ble_eq_true rfl) (Nat.le_of_ble_eq_true rfl)
set_option maxHeartbeats 4000000 in
set_option maxRecDepth 100000 in
theorem c_L_count_out (l : Launch) (hst : l.stackTraces = false) (dC : Nat → ClassId) (dI : Nat → Nat → Nat) (sz : Nat) (h0 ho sa : Nat) (p1 : Int32) (fs : List Value) (hq : p1.toInt < 0 ∨ 7 < p1.toInt) : Met l yL_count u_c_L_count_out ({ frames := 7, cells := 1, slots := 6, locals := 103 }) (va_Pc [.ref h0, .int p1, .ref ho] (z_CT (dC, dI) vwCl [(h0, .inr (11, fs))] [] sz sa)) (va_Qi (fun (r : Int32) (_ : Unit) => r = 1) (fun (_ : Unit) (_ : State) => True) (va_A [] sz)) 1 6 (va_A [] sz) := by
  refine z_ofWH (cc := cL_count) (maxL := 4) (ret := (some .int)) (hh := [(0, 9, 12, 13)]) (by decide) rfl ?_
  intro p e s m args below meth c s₁ B hml hv
  obtain ⟨rfl, ⟨hsz, hP, hK, hD0⟩, hT⟩ := hv
  have hx := B.exec
  have hb := B.bytes
  have hr := B.returns
  have hts := atoms_spec (ws := u_c_L_count_out) B.pre
  have hown : s.vm.findClass RL = some m.cls := findClass_of_methodNamed B.named
  have hlocks := B.notSynchronized
  have htab : c.exceptionTable.toList = tableOf [(0, 9, 12, 13)] := vx_table (x := yL_count) B (hts (.codeWith yL_count cL_count 4 (some .int) [(0, 9, 12, 13)]) List.mem_cons_self)
  subst hsz
  have hA : ∀ q : Nat, s.heap.size ≤ q → va_A [] s.heap.size q := fun q h => Or.inr h
  have hS : va_S (va_A [] s.heap.size) s.heap s.heap [] := va_S.rf
  have hl := lv_entry ([.ref h0, .int p1, .ref ho]) (n := 4) (Nat.le_of_ble_eq_true rfl)
  rw [lg_entry_eq]
  generalize (lg_sl ([.ref h0, .int p1, .ref ho]) ++ List.replicate (4 - (lg_sl ([.ref h0, .int p1, .ref ho])).length) Slot.unset).toArray = ls at hl ⊢
  have hl : lv_has ls 4 [(0, .ref h0), (1, .int p1), (2, .ref ho)] := hl
  refine lv_aload_n hx hb dL_count_0 rfl (lv_at hl 2 rfl) ?_
  refine lv_iconst (v := 0) hx hb dL_count_1 (by decide) ?_
  refine lv_aload_n hx hb dL_count_2 rfl (lv_at hl 0 rfl) ?_
  refine lv_iload_n hx hb dL_count_3 rfl (lv_at hl 1 rfl) ?_
  have hFc := va_free (ws := []) (wc := []) (z_D0 _) hS hA [] rfl
  refine vx_calli (vx_runV (As := [.int p1]) (rest := [.int 0, .ref ho]) ⟨hx, hb, hml, hown, hts⟩ (c_X11_count_out l hst dC dI s.heap.size h0 sa p1 fs hq) (cwV 1 hts gw_L_out rfl rfl rfl (by decide +kernel) ⟨Nat.le_of_ble_eq_true rfl, Nat.le_of_ble_eq_true rfl⟩) ⟨z_blindT, va_recv hK hP (ci := 11) (q0 := 0) rfl rfl, z_preT hP hK hD0 hT⟩ rfl rfl hl.1 rfl (lv_room (Nat.le_of_ble_eq_true rfl)) dL_count_4 ⟨Nat.le_of_ble_eq_true rfl, Nat.le_of_ble_eq_true rfl⟩) hS (fun q _ h => hFc q h) hFc (fun q _ h => hFc q h) (fun E ce q9 u t H1 locs ht hvm _ hB hz1 hk1 hS hce hcv hcl => ?_) (fun r u t H1 locs ht hvm hw hB hz1 hk1 hS => hw.elim)
  obtain rfl : E = z_XN := hB
  refine vx_catch (name := z_XN) (E := z_XN) (ce := ce) hown [] ⟨0, 9, 12, 13⟩ [] htab (fun z h => nomatch h) (by decide) (by decide) (hts (.classLink RL 13 z_XN) (by decide +kernel)) (va_Nw.use rfl hT.1.1) hce hcv hcl ?_
  refine lv_astore_n (lv' := [(3, .ref q9), (0, .ref h0), (1, .int p1), (2, .ref ho)]) hx hb dL_count_12 rfl hl (by decide) rfl (fun ls hl => ?_)
  refine lv_iconst (v := 1) hx hb dL_count_13 (by decide) ?_
  refine W.widen (k := 1) (n := 6) (Nat.le_of_ble_eq_true rfl) (Nat.le_of_ble_eq_true rfl) ?_
  exact W.iret (v := 1) hx hb hr (fun t ht hW => ⟨⟨1, (), rfl, rfl, trivial⟩, hS.F ht⟩) hS.2.2 dL_count_14
