set_option maxHeartbeats 4000000 in
set_option maxRecDepth 100000 in
theorem law_c26 {p : Program} {l : Launch} {e : Env} {s : State} {m : MethodId} {below : List Frame} {meth : Method} {c : Code} {dC : Nat → ClassId} {dI : Nat → Nat → Nat} {b L : Nat} {xs : Nat → Int32} {ad : Nat → Nat} {ca : Nat → ClassId} {sd sv : Nat → Nat} {sf : Value} (C0 : lw_At p s m meth c b L xs) (hK : va_K (dC, dI) vwCl (z_T ca) s) (hST : z_ST sd sv sf (fun q : Nat => s.heap.size ≤ q) s s.heap) (hst : l.stackTraces = false) {sa : Nat} (hT0 : z_TH sa (fun q : Nat => s.heap.size ≤ q) s s.heap) (hL : L ≤ 3584) {cells slots : Nat} (hc : cells ≤ 690) (hs : slots ≤ 37000) {i : Int32} (hi : 0 ≤ i.toInt ∧ i.toInt + 7 ≤ (L : Int)) {H : Heap} {locs : List Loc} {ls : Array Slot} {g : Nat → Nat → Int32} (hI : z_In dC dI (fun q : Nat => s.heap.size ≤ q) ad ca g g H) (hS : va_S (fun q : Nat => s.heap.size ≤ q) s.heap H locs) (hl : lv_has ls 7 [(4, .int i), (3, .ref (ad 99)), (2, .ref (ad 57)), (1, .ref (ad 0)), (0, .ref b)]) (hN : (∀ (cells9 slots9 : Nat) (g : Nat → Nat → Int32) (H : Heap) (locs : List Loc) (ls : Array Slot), cells9 ≤ cells + 1 → slots9 ≤ slots + 6 → z_In dC dI (fun q : Nat => s.heap.size ≤ q) ad ca g g H → va_S (fun q : Nat => s.heap.size ≤ q) s.heap H locs → lv_has ls 7 [(4, .int i), (3, .ref (ad 99)), (2, .ref (ad 57)), (1, .ref (ad 0)), (0, .ref b)] → W p l e room_1 s m #[Value.ref b] below meth c H locs cells9 slots9 (lw_Z below #[Value.ref b] s) (F0 m 1326 ls []))) : W p l e room_1 s m #[Value.ref b] below meth c H locs cells slots (lw_Z below #[Value.ref b] s) (F0 m 1298 ls []) := by
  obtain ⟨hx, hb, hr, hml, hown, hts, hX, hbl, hlocks, hgv⟩ := id C0
  have hown : s.vm.findClass RL = some m.cls := hown
  have hA : ∀ q : Nat, s.heap.size ≤ q → (fun q : Nat => s.heap.size ≤ q) q := fun _ h => h
  have hbA : ¬ (fun q : Nat => s.heap.size ≤ q) b := Nat.not_le.mpr hbl
  refine lv_aload_n hx hb dL_law_1298 rfl (lv_at hl 3 rfl) ?_
  refine lv_aload_n hx hb dL_law_1299 rfl (lv_at hl 4 rfl) ?_
  refine lv_iload hx hb dL_law_1300 (lv_at hl 0 rfl) ?_
  refine lv_iconst (v := 1) hx hb dL_law_1302 (by decide) ?_
  refine lv_iadd hx hb dL_law_1303 ?_
  refine lv_topi (fun z_1 ez_1 => ?_)
  have kz_1 : (z_1).toInt = (i).toInt + (1 : Int) := by rw [ez_1]; exact z_add (a := (i).toInt) (b := (1 : Int)) rfl rfl (by omega) (by omega)
  refine va_sld hx hb hX hbl hbA hS (z_vpin (by omega) (by omega)) dL_law_1304 ?_
  refine lv_topi (fun t_2 et_2 => ?_)
  refine lv_aload_n hx hb dL_law_1305 rfl (lv_at hl 1 rfl) ?_
  rcases z_sw t_2 0 7 with hqc | hqc
  · refine q_1306_out C0 hK hST hst hT0 (by omega) (by omega) hI hS hl t_2 hqc (fun r_3  H locs hw_4 hI hS => ?_)
    refine lv_istore (lv' := [(5, .int r_3), (4, .int i), (3, .ref (ad 99)), (2, .ref (ad 57)), (1, .ref (ad 0)), (0, .ref b)]) hx hb dL_law_1309 hl (by decide) rfl (fun ls hl => ?_)
    refine lv_aload_n hx hb dL_law_1311 rfl (lv_at hl 3 rfl) ?_
    refine lv_aload_n hx hb dL_law_1312 rfl (lv_at hl 5 rfl) ?_
    refine lv_iload hx hb dL_law_1313 (lv_at hl 1 rfl) ?_
    refine lv_iconst (v := 1) hx hb dL_law_1315 (by decide) ?_
    refine lv_iadd hx hb dL_law_1316 ?_
    refine lv_topi (fun z_5 ez_5 => ?_)
    have kz_5 : (z_5).toInt = (i).toInt + (1 : Int) := by rw [ez_5]; exact z_add (a := (i).toInt) (b := (1 : Int)) rfl rfl (by omega) (by omega)
    refine va_sld hx hb hX hbl hbA hS (z_vpin (by omega) (by omega)) dL_law_1317 ?_
    refine z_topeq (y := t_2) (by rw [et_2, ez_5, ez_1]) ?_
    refine q_1318 C0 hK hST (by omega) (by omega) hI hS hl t_2 (fun r_6  H locs hw_7 hI hS => ?_)
    refine lv_istore (lv' := [(6, .int r_6), (5, .int r_3), (4, .int i), (3, .ref (ad 99)), (2, .ref (ad 57)), (1, .ref (ad 0)), (0, .ref b)]) hx hb dL_law_1321 hl (by decide) rfl (fun ls hl => ?_)
    refine lv_goto (tgt := 1326) hx hb dL_law_1323 (by decide) ?_
    exact hN _ _ _ _ _ _ (by omega) (by omega) hI hS (lv_sub hl [2, 3, 4, 5, 6] rfl)
  · refine q_1306_in C0 hK hST (by omega) (by omega) hI hS hl t_2 hqc (fun r_8  H locs hw_9 hI hS => ?_)
    refine lv_istore (lv' := [(5, .int r_8), (4, .int i), (3, .ref (ad 99)), (2, .ref (ad 57)), (1, .ref (ad 0)), (0, .ref b)]) hx hb dL_law_1309 hl (by decide) rfl (fun ls hl => ?_)
    refine lv_aload_n hx hb dL_law_1311 rfl (lv_at hl 3 rfl) ?_
    refine lv_aload_n hx hb dL_law_1312 rfl (lv_at hl 5 rfl) ?_
    refine lv_iload hx hb dL_law_1313 (lv_at hl 1 rfl) ?_
    refine lv_iconst (v := 1) hx hb dL_law_1315 (by decide) ?_
    refine lv_iadd hx hb dL_law_1316 ?_
    refine lv_topi (fun z_10 ez_10 => ?_)
    have kz_10 : (z_10).toInt = (i).toInt + (1 : Int) := by rw [ez_10]; exact z_add (a := (i).toInt) (b := (1 : Int)) rfl rfl (by omega) (by omega)
    refine va_sld hx hb hX hbl hbA hS (z_vpin (by omega) (by omega)) dL_law_1317 ?_
    refine z_topeq (y := t_2) (by rw [et_2, ez_10, ez_1]) ?_
    refine q_1318 C0 hK hST (by omega) (by omega) hI hS hl t_2 (fun r_11  H locs hw_12 hI hS => ?_)
    refine lv_istore (lv' := [(6, .int r_11), (5, .int r_8), (4, .int i), (3, .ref (ad 99)), (2, .ref (ad 57)), (1, .ref (ad 0)), (0, .ref b)]) hx hb dL_law_1321 hl (by decide) rfl (fun ls hl => ?_)
    refine lv_goto (tgt := 1326) hx hb dL_law_1323 (by decide) ?_
    exact hN _ _ _ _ _ _ (by omega) (by omega) hI hS (lv_sub hl [2, 3, 4, 5, 6] rfl)
