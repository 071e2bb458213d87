set_option maxHeartbeats 4000000 in
set_option maxRecDepth 100000 in
theorem law_c3 {p : Program} {l : Launch} {e : Env} {s : State} {m : MethodId} {below : List Frame} {meth : Method} {c : Code} {dC : Nat → ClassId} {dI : Nat → Nat → Nat} {b L : Nat} {xs : Nat → Int32} {ad : Nat → Nat} {ca : Nat → ClassId} {sd sv : Nat → Nat} {sf : Value} (C0 : lw_At p s m meth c b L xs) (hK : va_K (dC, dI) vwCl (z_T ca) s) (hST : z_ST sd sv sf (fun q : Nat => s.heap.size ≤ q) s s.heap) (hst : l.stackTraces = false) {sa : Nat} (hT0 : z_TH sa (fun q : Nat => s.heap.size ≤ q) s s.heap) (hL : L ≤ 3584) {cells slots : Nat} (hc : cells ≤ 690) (hs : slots ≤ 37000) {i : Int32} (hi : 0 ≤ i.toInt ∧ i.toInt + 7 ≤ (L : Int)) {H : Heap} {locs : List Loc} {ls : Array Slot} {g : Nat → Nat → Int32} (hI : z_In dC dI (fun q : Nat => s.heap.size ≤ q) ad ca g g H) (hS : va_S (fun q : Nat => s.heap.size ≤ q) s.heap H locs) (hl : lv_has ls 7 [(4, .int i), (3, .ref (ad 99)), (2, .ref (ad 57)), (1, .ref (ad 0)), (0, .ref b)]) (hN : (∀ (cells9 slots9 : Nat) (g : Nat → Nat → Int32) (H : Heap) (locs : List Loc) (ls : Array Slot), cells9 ≤ cells + 1 → slots9 ≤ slots + 6 → z_In dC dI (fun q : Nat => s.heap.size ≤ q) ad ca g g H → va_S (fun q : Nat => s.heap.size ≤ q) s.heap H locs → lv_has ls 7 [(4, .int i), (3, .ref (ad 99)), (2, .ref (ad 57)), (1, .ref (ad 0)), (0, .ref b)] → W p l e room_1 s m #[Value.ref b] below meth c H locs cells9 slots9 (lw_Z below #[Value.ref b] s) (F0 m 1326 ls []))) : W p l e room_1 s m #[Value.ref b] below meth c H locs cells slots (lw_Z below #[Value.ref b] s) (F0 m 299 ls []) := by
  obtain ⟨hx, hb, hr, hml, hown, hts, hX, hbl, hlocks, hgv⟩ := id C0
  have hown : s.vm.findClass RL = some m.cls := hown
  have hA : ∀ q : Nat, s.heap.size ≤ q → (fun q : Nat => s.heap.size ≤ q) q := fun _ h => h
  have hbA : ¬ (fun q : Nat => s.heap.size ≤ q) b := Nat.not_le.mpr hbl
  refine lv_aload_n hx hb dL_law_299 rfl (lv_at hl 3 rfl) ?_
  refine lv_aload_n hx hb dL_law_300 rfl (lv_at hl 4 rfl) ?_
  refine lv_iload hx hb dL_law_301 (lv_at hl 0 rfl) ?_
  refine lv_iconst (v := 1) hx hb dL_law_303 (by decide) ?_
  refine lv_iadd hx hb dL_law_304 ?_
  refine lv_topi (fun z_1 ez_1 => ?_)
  have kz_1 : (z_1).toInt = (i).toInt + (1 : Int) := by rw [ez_1]; exact z_add (a := (i).toInt) (b := (1 : Int)) rfl rfl (by omega) (by omega)
  refine va_sld hx hb hX hbl hbA hS (z_vpin (by omega) (by omega)) dL_law_305 ?_
  refine lv_topi (fun t_2 et_2 => ?_)
  refine q_306 C0 hK hST (by omega) (by omega) hI hS hl t_2 (fun r_3  H locs hw_4 hI hS => ?_)
  refine lv_pop hx hb dL_law_309 rfl ?_
  refine lv_aload_n hx hb dL_law_310 rfl (lv_at hl 2 rfl) ?_
  refine lv_aload_n hx hb dL_law_311 rfl (lv_at hl 4 rfl) ?_
  refine lv_iload hx hb dL_law_312 (lv_at hl 0 rfl) ?_
  refine lv_iconst (v := 1) hx hb dL_law_314 (by decide) ?_
  refine lv_iadd hx hb dL_law_315 ?_
  refine lv_topi (fun z_5 ez_5 => ?_)
  have kz_5 : (z_5).toInt = (i).toInt + (1 : Int) := by rw [ez_5]; exact z_add (a := (i).toInt) (b := (1 : Int)) rfl rfl (by omega) (by omega)
  refine va_sld hx hb hX hbl hbA hS (z_vpin (by omega) (by omega)) dL_law_316 ?_
  refine z_topeq (y := t_2) (by rw [et_2, ez_5, ez_1]) ?_
  refine q_317 C0 hK hST (by omega) (by omega) hI hS hl t_2 (fun r_6  H locs hw_7 hI hS => ?_)
  refine lv_pop hx hb dL_law_320 rfl ?_
  refine lv_goto (tgt := 1326) hx hb dL_law_321 (by decide) ?_
  exact hN _ _ _ _ _ _ (by omega) (by omega) hI hS (lv_sub hl [0, 1, 2, 3, 4] rfl)
set_option maxHeartbeats 4000000 in
set_option maxRecDepth 100000 in
theorem law_c4 {p : Program} {l : Launch} {e : Env} {s : State} {m : MethodId} {below : List Frame} {meth : Method} {c : Code} {dC : Nat → ClassId} {dI : Nat → Nat → Nat} {b L : Nat} {xs : Nat → Int32} {ad : Nat → Nat} {ca : Nat → ClassId} {sd sv : Nat → Nat} {sf : Value} (C0 : lw_At p s m meth c b L xs) (hK : va_K (dC, dI) vwCl (z_T ca) s) (hST : z_ST sd sv sf (fun q : Nat => s.heap.size ≤ q) s s.heap) (hst : l.stackTraces = false) {sa : Nat} (hT0 : z_TH sa (fun q : Nat => s.heap.size ≤ q) s s.heap) (hL : L ≤ 3584) {cells slots : Nat} (hc : cells ≤ 690) (hs : slots ≤ 37000) {i : Int32} (hi : 0 ≤ i.toInt ∧ i.toInt + 7 ≤ (L : Int)) {H : Heap} {locs : List Loc} {ls : Array Slot} {g : Nat → Nat → Int32} (hI : z_In dC dI (fun q : Nat => s.heap.size ≤ q) ad ca g g H) (hS : va_S (fun q : Nat => s.heap.size ≤ q) s.heap H locs) (hl : lv_has ls 7 [(4, .int i), (3, .ref (ad 99)), (2, .ref (ad 57)), (1, .ref (ad 0)), (0, .ref b)]) (hN : (∀ (cells9 slots9 : Nat) (g : Nat → Nat → Int32) (H : Heap) (locs : List Loc) (ls : Array Slot), cells9 ≤ cells + 1 → slots9 ≤ slots + 6 → z_In dC dI (fun q : Nat => s.heap.size ≤ q) ad ca g g H → va_S (fun q : Nat => s.heap.size ≤ q) s.heap H locs → lv_has ls 7 [(4, .int i), (3, .ref (ad 99)), (2, .ref (ad 57)), (1, .ref (ad 0)), (0, .ref b)] → W p l e room_1 s m #[Value.ref b] below meth c H locs cells9 slots9 (lw_Z below #[Value.ref b] s) (F0 m 1326 ls []))) : W p l e room_1 s m #[Value.ref b] below meth c H locs cells slots (lw_Z below #[Value.ref b] s) (F0 m 324 ls []) := by
  obtain ⟨hx, hb, hr, hml, hown, hts, hX, hbl, hlocks, hgv⟩ := id C0
  have hown : s.vm.findClass RL = some m.cls := hown
  have hA : ∀ q : Nat, s.heap.size ≤ q → (fun q : Nat => s.heap.size ≤ q) q := fun _ h => h
  have hbA : ¬ (fun q : Nat => s.heap.size ≤ q) b := Nat.not_le.mpr hbl
  refine lv_aload_n hx hb dL_law_324 rfl (lv_at hl 3 rfl) ?_
  refine q_325 C0 hK hST (by omega) (by omega) hI hS hl  (fun r_1  H locs hw_2 hI hS => ?_)
  refine lv_pop hx hb dL_law_328 rfl ?_
  refine lv_aload_n hx hb dL_law_329 rfl (lv_at hl 2 rfl) ?_
  refine q_330 C0 hK hST (by omega) (by omega) hI hS hl  (fun r_3  H locs hw_4 hI hS => ?_)
  refine lv_pop hx hb dL_law_333 rfl ?_
  refine lv_goto (tgt := 1326) hx hb dL_law_334 (by decide) ?_
  exact hN _ _ _ _ _ _ (by omega) (by omega) hI hS (lv_sub hl [0, 1, 2, 3, 4] rfl)
set_option maxHeartbeats 4000000 in
set_option maxRecDepth 100000 in
theorem law_c5 {p : Program} {l : Launch} {e : Env} {s : State} {m : MethodId} {below : List Frame} {meth : Method} {c : Code} {dC : Nat → ClassId} {dI : Nat → Nat → Nat} {b L : Nat} {xs : Nat → Int32} {ad : Nat → Nat} {ca : Nat → ClassId} {sd sv : Nat → Nat} {sf : Value} (C0 : lw_At p s m meth c b L xs) (hK : va_K (dC, dI) vwCl (z_T ca) s) (hST : z_ST sd sv sf (fun q : Nat => s.heap.size ≤ q) s s.heap) (hst : l.stackTraces = false) {sa : Nat} (hT0 : z_TH sa (fun q : Nat => s.heap.size ≤ q) s s.heap) (hL : L ≤ 3584) {cells slots : Nat} (hc : cells ≤ 690) (hs : slots ≤ 37000) {i : Int32} (hi : 0 ≤ i.toInt ∧ i.toInt + 7 ≤ (L : Int)) {H : Heap} {locs : List Loc} {ls : Array Slot} {g : Nat → Nat → Int32} (hI : z_In dC dI (fun q : Nat => s.heap.size ≤ q) ad ca g g H) (hS : va_S (fun q : Nat => s.heap.size ≤ q) s.heap H locs) (hl : lv_has ls 7 [(4, .int i), (3, .ref (ad 99)), (2, .ref (ad 57)), (1, .ref (ad 0)), (0, .ref b)]) (hN : (∀ (cells9 slots9 : Nat) (g : Nat → Nat → Int32) (H : Heap) (locs : List Loc) (ls : Array Slot), cells9 ≤ cells + 1 → slots9 ≤ slots + 6 → z_In dC dI (fun q : Nat => s.heap.size ≤ q) ad ca g g H → va_S (fun q : Nat => s.heap.size ≤ q) s.heap H locs → lv_has ls 7 [(4, .int i), (3, .ref (ad 99)), (2, .ref (ad 57)), (1, .ref (ad 0)), (0, .ref b)] → W p l e room_1 s m #[Value.ref b] below meth c H locs cells9 slots9 (lw_Z below #[Value.ref b] s) (F0 m 1326 ls []))) : W p l e room_1 s m #[Value.ref b] below meth c H locs cells slots (lw_Z below #[Value.ref b] s) (F0 m 337 ls []) := by
  obtain ⟨hx, hb, hr, hml, hown, hts, hX, hbl, hlocks, hgv⟩ := id C0
  have hown : s.vm.findClass RL = some m.cls := hown
  have hA : ∀ q : Nat, s.heap.size ≤ q → (fun q : Nat => s.heap.size ≤ q) q := fun _ h => h
  have hbA : ¬ (fun q : Nat => s.heap.size ≤ q) b := Nat.not_le.mpr hbl
  refine lv_aload_n hx hb dL_law_337 rfl (lv_at hl 3 rfl) ?_
  refine lv_aload_n hx hb dL_law_338 rfl (lv_at hl 4 rfl) ?_
  refine lv_iload hx hb dL_law_339 (lv_at hl 0 rfl) ?_
  refine lv_iconst (v := 1) hx hb dL_law_341 (by decide) ?_
  refine lv_iadd hx hb dL_law_342 ?_
  refine lv_topi (fun z_1 ez_1 => ?_)
  have kz_1 : (z_1).toInt = (i).toInt + (1 : Int) := by rw [ez_1]; exact z_add (a := (i).toInt) (b := (1 : Int)) rfl rfl (by omega) (by omega)
  refine va_sld hx hb hX hbl hbA hS (z_vpin (by omega) (by omega)) dL_law_343 ?_
  refine lv_topi (fun t_2 et_2 => ?_)
  refine lv_aload_n hx hb dL_law_344 rfl (lv_at hl 4 rfl) ?_
  refine lv_iload hx hb dL_law_345 (lv_at hl 0 rfl) ?_
  refine lv_iconst (v := 2) hx hb dL_law_347 (by decide) ?_
  refine lv_iadd hx hb dL_law_348 ?_
  refine lv_topi (fun z_3 ez_3 => ?_)
  have kz_3 : (z_3).toInt = (i).toInt + (2 : Int) := by rw [ez_3]; exact z_add (a := (i).toInt) (b := (2 : Int)) rfl rfl (by omega) (by omega)
  refine va_sld hx hb hX hbl hbA hS (z_vpin (by omega) (by omega)) dL_law_349 ?_
  refine lv_topi (fun t_4 et_4 => ?_)
  refine lv_aload_n hx hb dL_law_350 rfl (lv_at hl 4 rfl) ?_
  refine lv_iload hx hb dL_law_351 (lv_at hl 0 rfl) ?_
  refine lv_iconst (v := 3) hx hb dL_law_353 (by decide) ?_
  refine lv_iadd hx hb dL_law_354 ?_
  refine lv_topi (fun z_5 ez_5 => ?_)
  have kz_5 : (z_5).toInt = (i).toInt + (3 : Int) := by rw [ez_5]; exact z_add (a := (i).toInt) (b := (3 : Int)) rfl rfl (by omega) (by omega)
  refine va_sld hx hb hX hbl hbA hS (z_vpin (by omega) (by omega)) dL_law_355 ?_
  refine lv_topi (fun t_6 et_6 => ?_)
  refine lv_aload_n hx hb dL_law_356 rfl (lv_at hl 4 rfl) ?_
  refine lv_iload hx hb dL_law_357 (lv_at hl 0 rfl) ?_
  refine lv_iconst (v := 4) hx hb dL_law_359 (by decide) ?_
  refine lv_iadd hx hb dL_law_360 ?_
  refine lv_topi (fun z_7 ez_7 => ?_)
  have kz_7 : (z_7).toInt = (i).toInt + (4 : Int) := by rw [ez_7]; exact z_add (a := (i).toInt) (b := (4 : Int)) rfl rfl (by omega) (by omega)
  refine va_sld hx hb hX hbl hbA hS (z_vpin (by omega) (by omega)) dL_law_361 ?_
  refine lv_topi (fun t_8 et_8 => ?_)
  refine q_362 C0 hK hST (by omega) (by omega) hI hS hl t_2 t_4 t_6 t_8 (fun r_9  H locs hw_10 hI hS => ?_)
  refine lv_pop hx hb dL_law_365 rfl ?_
  refine lv_aload_n hx hb dL_law_366 rfl (lv_at hl 2 rfl) ?_
  refine lv_aload_n hx hb dL_law_367 rfl (lv_at hl 4 rfl) ?_
  refine lv_iload hx hb dL_law_368 (lv_at hl 0 rfl) ?_
  refine lv_iconst (v := 1) hx hb dL_law_370 (by decide) ?_
  refine lv_iadd hx hb dL_law_371 ?_
  refine lv_topi (fun z_11 ez_11 => ?_)
  have kz_11 : (z_11).toInt = (i).toInt + (1 : Int) := by rw [ez_11]; exact z_add (a := (i).toInt) (b := (1 : Int)) rfl rfl (by omega) (by omega)
  refine va_sld hx hb hX hbl hbA hS (z_vpin (by omega) (by omega)) dL_law_372 ?_
  refine z_topeq (y := t_2) (by rw [et_2, ez_11, ez_1]) ?_
  refine lv_aload_n hx hb dL_law_373 rfl (lv_at hl 4 rfl) ?_
  refine lv_iload hx hb dL_law_374 (lv_at hl 0 rfl) ?_
  refine lv_iconst (v := 2) hx hb dL_law_376 (by decide) ?_
  refine lv_iadd hx hb dL_law_377 ?_
  refine lv_topi (fun z_12 ez_12 => ?_)
  have kz_12 : (z_12).toInt = (i).toInt + (2 : Int) := by rw [ez_12]; exact z_add (a := (i).toInt) (b := (2 : Int)) rfl rfl (by omega) (by omega)
  refine va_sld hx hb hX hbl hbA hS (z_vpin (by omega) (by omega)) dL_law_378 ?_
  refine z_topeq (y := t_4) (by rw [et_4, ez_12, ez_3]) ?_
  refine lv_aload_n hx hb dL_law_379 rfl (lv_at hl 4 rfl) ?_
  refine lv_iload hx hb dL_law_380 (lv_at hl 0 rfl) ?_
  refine lv_iconst (v := 3) hx hb dL_law_382 (by decide) ?_
  refine lv_iadd hx hb dL_law_383 ?_
  refine lv_topi (fun z_13 ez_13 => ?_)
  have kz_13 : (z_13).toInt = (i).toInt + (3 : Int) := by rw [ez_13]; exact z_add (a := (i).toInt) (b := (3 : Int)) rfl rfl (by omega) (by omega)
  refine va_sld hx hb hX hbl hbA hS (z_vpin (by omega) (by omega)) dL_law_384 ?_
  refine z_topeq (y := t_6) (by rw [et_6, ez_13, ez_5]) ?_
  refine lv_aload_n hx hb dL_law_385 rfl (lv_at hl 4 rfl) ?_
  refine lv_iload hx hb dL_law_386 (lv_at hl 0 rfl) ?_
  refine lv_iconst (v := 4) hx hb dL_law_388 (by decide) ?_
  refine lv_iadd hx hb dL_law_389 ?_
  refine lv_topi (fun z_14 ez_14 => ?_)
  have kz_14 : (z_14).toInt = (i).toInt + (4 : Int) := by rw [ez_14]; exact z_add (a := (i).toInt) (b := (4 : Int)) rfl rfl (by omega) (by omega)
  refine va_sld hx hb hX hbl hbA hS (z_vpin (by omega) (by omega)) dL_law_390 ?_
  refine z_topeq (y := t_8) (by rw [et_8, ez_14, ez_7]) ?_
  refine q_391 C0 hK hST (by omega) (by omega) hI hS hl t_2 t_4 t_6 t_8 (fun r_15  H locs hw_16 hI hS => ?_)
  refine lv_pop hx hb dL_law_394 rfl ?_
  refine lv_goto (tgt := 1326) hx hb dL_law_395 (by decide) ?_
  exact hN _ _ _ _ _ _ (by omega) (by omega) hI hS (lv_sub hl [0, 1, 2, 3, 4] rfl)
set_option maxHeartbeats 4000000 in
set_option maxRecDepth 100000 in
theorem law_c6 {p : Program} {l : Launch} {e : Env} {s : State} {m : MethodId} {below : List Frame} {meth : Method} {c : Code} {dC : Nat → ClassId} {dI : Nat → Nat → Nat} {b L : Nat} {xs : Nat → Int32} {ad : Nat → Nat} {ca : Nat → ClassId} {sd sv : Nat → Nat} {sf : Value} (C0 : lw_At p s m meth c b L xs) (hK : va_K (dC, dI) vwCl (z_T ca) s) (hST : z_ST sd sv sf (fun q : Nat => s.heap.size ≤ q) s s.heap) (hst : l.stackTraces = false) {sa : Nat} (hT0 : z_TH sa (fun q : Nat => s.heap.size ≤ q) s s.heap) (hL : L ≤ 3584) {cells slots : Nat} (hc : cells ≤ 690) (hs : slots ≤ 37000) {i : Int32} (hi : 0 ≤ i.toInt ∧ i.toInt + 7 ≤ (L : Int)) {H : Heap} {locs : List Loc} {ls : Array Slot} {g : Nat → Nat → Int32} (hI : z_In dC dI (fun q : Nat => s.heap.size ≤ q) ad ca g g H) (hS : va_S (fun q : Nat => s.heap.size ≤ q) s.heap H locs) (hl : lv_has ls 7 [(4, .int i), (3, .ref (ad 99)), (2, .ref (ad 57)), (1, .ref (ad 0)), (0, .ref b)]) (hN : (∀ (cells9 slots9 : Nat) (g : Nat → Nat → Int32) (H : Heap) (locs : List Loc) (ls : Array Slot), cells9 ≤ cells + 1 → slots9 ≤ slots + 6 → z_In dC dI (fun q : Nat => s.heap.size ≤ q) ad ca g g H → va_S (fun q : Nat => s.heap.size ≤ q) s.heap H locs → lv_has ls 7 [(4, .int i), (3, .ref (ad 99)), (2, .ref (ad 57)), (1, .ref (ad 0)), (0, .ref b)] → W p l e room_1 s m #[Value.ref b] below meth c H locs cells9 slots9 (lw_Z below #[Value.ref b] s) (F0 m 1326 ls []))) : W p l e room_1 s m #[Value.ref b] below meth c H locs cells slots (lw_Z below #[Value.ref b] s) (F0 m 398 ls []) := by
  obtain ⟨hx, hb, hr, hml, hown, hts, hX, hbl, hlocks, hgv⟩ := id C0
  have hown : s.vm.findClass RL = some m.cls := hown
  have hA : ∀ q : Nat, s.heap.size ≤ q → (fun q : Nat => s.heap.size ≤ q) q := fun _ h => h
  have hbA : ¬ (fun q : Nat => s.heap.size ≤ q) b := Nat.not_le.mpr hbl
  refine lv_aload_n hx hb dL_law_398 rfl (lv_at hl 3 rfl) ?_
  refine lv_aload_n hx hb dL_law_399 rfl (lv_at hl 4 rfl) ?_
  refine lv_iload hx hb dL_law_400 (lv_at hl 0 rfl) ?_
  refine lv_iconst (v := 1) hx hb dL_law_402 (by decide) ?_
  refine lv_iadd hx hb dL_law_403 ?_
  refine lv_topi (fun z_1 ez_1 => ?_)
  have kz_1 : (z_1).toInt = (i).toInt + (1 : Int) := by rw [ez_1]; exact z_add (a := (i).toInt) (b := (1 : Int)) rfl rfl (by omega) (by omega)
  refine va_sld hx hb hX hbl hbA hS (z_vpin (by omega) (by omega)) dL_law_404 ?_
  refine lv_topi (fun t_2 et_2 => ?_)
  refine q_405 C0 hK hST (by omega) (by omega) hI hS hl t_2 (fun r_3  H locs hw_4 hI hS => ?_)
  refine lv_pop hx hb dL_law_408 rfl ?_
  refine lv_aload_n hx hb dL_law_409 rfl (lv_at hl 2 rfl) ?_
  refine lv_aload_n hx hb dL_law_410 rfl (lv_at hl 4 rfl) ?_
  refine lv_iload hx hb dL_law_411 (lv_at hl 0 rfl) ?_
  refine lv_iconst (v := 1) hx hb dL_law_413 (by decide) ?_
  refine lv_iadd hx hb dL_law_414 ?_
  refine lv_topi (fun z_5 ez_5 => ?_)
  have kz_5 : (z_5).toInt = (i).toInt + (1 : Int) := by rw [ez_5]; exact z_add (a := (i).toInt) (b := (1 : Int)) rfl rfl (by omega) (by omega)
  refine va_sld hx hb hX hbl hbA hS (z_vpin (by omega) (by omega)) dL_law_415 ?_
  refine z_topeq (y := t_2) (by rw [et_2, ez_5, ez_1]) ?_
  refine q_416 C0 hK hST (by omega) (by omega) hI hS hl t_2 (fun r_6  H locs hw_7 hI hS => ?_)
  refine lv_pop hx hb dL_law_419 rfl ?_
  refine lv_goto (tgt := 1326) hx hb dL_law_420 (by decide) ?_
  exact hN _ _ _ _ _ _ (by omega) (by omega) hI hS (lv_sub hl [0, 1, 2, 3, 4] rfl)
set_option maxHeartbeats 4000000 in
set_option maxRecDepth 100000 in
theorem law_c7 {p : Program} {l : Launch} {e : Env} {s : State} {m : MethodId} {below : List Frame} {meth : Method} {c : Code} {dC : Nat → ClassId} {dI : Nat → Nat → Nat} {b L : Nat} {xs : Nat → Int32} {ad : Nat → Nat} {ca : Nat → ClassId} {sd sv : Nat → Nat} {sf : Value} (C0 : lw_At p s m meth c b L xs) (hK : va_K (dC, dI) vwCl (z_T ca) s) (hST : z_ST sd sv sf (fun q : Nat => s.heap.size ≤ q) s s.heap) (hst : l.stackTraces = false) {sa : Nat} (hT0 : z_TH sa (fun q : Nat => s.heap.size ≤ q) s s.heap) (hL : L ≤ 3584) {cells slots : Nat} (hc : cells ≤ 690) (hs : slots ≤ 37000) {i : Int32} (hi : 0 ≤ i.toInt ∧ i.toInt + 7 ≤ (L : Int)) {H : Heap} {locs : List Loc} {ls : Array Slot} {g : Nat → Nat → Int32} (hI : z_In dC dI (fun q : Nat => s.heap.size ≤ q) ad ca g g H) (hS : va_S (fun q : Nat => s.heap.size ≤ q) s.heap H locs) (hl : lv_has ls 7 [(4, .int i), (3, .ref (ad 99)), (2, .ref (ad 57)), (1, .ref (ad 0)), (0, .ref b)]) (hN : (∀ (cells9 slots9 : Nat) (g : Nat → Nat → Int32) (H : Heap) (locs : List Loc) (ls : Array Slot), cells9 ≤ cells + 1 → slots9 ≤ slots + 6 → z_In dC dI (fun q : Nat => s.heap.size ≤ q) ad ca g g H → va_S (fun q : Nat => s.heap.size ≤ q) s.heap H locs → lv_has ls 7 [(4, .int i), (3, .ref (ad 99)), (2, .ref (ad 57)), (1, .ref (ad 0)), (0, .ref b)] → W p l e room_1 s m #[Value.ref b] below meth c H locs cells9 slots9 (lw_Z below #[Value.ref b] s) (F0 m 1326 ls []))) : W p l e room_1 s m #[Value.ref b] below meth c H locs cells slots (lw_Z below #[Value.ref b] s) (F0 m 423 ls []) := by
  obtain ⟨hx, hb, hr, hml, hown, hts, hX, hbl, hlocks, hgv⟩ := id C0
  have hown : s.vm.findClass RL = some m.cls := hown
  have hA : ∀ q : Nat, s.heap.size ≤ q → (fun q : Nat => s.heap.size ≤ q) q := fun _ h => h
  have hbA : ¬ (fun q : Nat => s.heap.size ≤ q) b := Nat.not_le.mpr hbl
  refine lv_aload_n hx hb dL_law_423 rfl (lv_at hl 3 rfl) ?_
  refine lv_aload_n hx hb dL_law_424 rfl (lv_at hl 4 rfl) ?_
  refine lv_iload hx hb dL_law_425 (lv_at hl 0 rfl) ?_
  refine lv_iconst (v := 1) hx hb dL_law_427 (by decide) ?_
  refine lv_iadd hx hb dL_law_428 ?_
  refine lv_topi (fun z_1 ez_1 => ?_)
  have kz_1 : (z_1).toInt = (i).toInt + (1 : Int) := by rw [ez_1]; exact z_add (a := (i).toInt) (b := (1 : Int)) rfl rfl (by omega) (by omega)
  refine va_sld hx hb hX hbl hbA hS (z_vpin (by omega) (by omega)) dL_law_429 ?_
  refine lv_topi (fun t_2 et_2 => ?_)
  refine lv_aload_n hx hb dL_law_430 rfl (lv_at hl 4 rfl) ?_
  refine lv_iload hx hb dL_law_431 (lv_at hl 0 rfl) ?_
  refine lv_iconst (v := 2) hx hb dL_law_433 (by decide) ?_
  refine lv_iadd hx hb dL_law_434 ?_
  refine lv_topi (fun z_3 ez_3 => ?_)
  have kz_3 : (z_3).toInt = (i).toInt + (2 : Int) := by rw [ez_3]; exact z_add (a := (i).toInt) (b := (2 : Int)) rfl rfl (by omega) (by omega)
  refine va_sld hx hb hX hbl hbA hS (z_vpin (by omega) (by omega)) dL_law_435 ?_
  refine lv_topi (fun t_4 et_4 => ?_)
  refine lv_aload_n hx hb dL_law_436 rfl (lv_at hl 4 rfl) ?_
  refine lv_iload hx hb dL_law_437 (lv_at hl 0 rfl) ?_
  refine lv_iconst (v := 3) hx hb dL_law_439 (by decide) ?_
  refine lv_iadd hx hb dL_law_440 ?_
  refine lv_topi (fun z_5 ez_5 => ?_)
  have kz_5 : (z_5).toInt = (i).toInt + (3 : Int) := by rw [ez_5]; exact z_add (a := (i).toInt) (b := (3 : Int)) rfl rfl (by omega) (by omega)
  refine va_sld hx hb hX hbl hbA hS (z_vpin (by omega) (by omega)) dL_law_441 ?_
  refine lv_topi (fun t_6 et_6 => ?_)
  refine q_442 C0 hK hST (by omega) (by omega) hI hS hl t_2 t_4 t_6 (fun r_7  H locs hw_8 hI hS => ?_)
  refine lv_aload_n hx hb dL_law_445 rfl (lv_at hl 2 rfl) ?_
  refine lv_aload_n hx hb dL_law_446 rfl (lv_at hl 4 rfl) ?_
  refine lv_iload hx hb dL_law_447 (lv_at hl 0 rfl) ?_
  refine lv_iconst (v := 1) hx hb dL_law_449 (by decide) ?_
  refine lv_iadd hx hb dL_law_450 ?_
  refine lv_topi (fun z_9 ez_9 => ?_)
  have kz_9 : (z_9).toInt = (i).toInt + (1 : Int) := by rw [ez_9]; exact z_add (a := (i).toInt) (b := (1 : Int)) rfl rfl (by omega) (by omega)
  refine va_sld hx hb hX hbl hbA hS (z_vpin (by omega) (by omega)) dL_law_451 ?_
  refine z_topeq (y := t_2) (by rw [et_2, ez_9, ez_1]) ?_
  refine lv_aload_n hx hb dL_law_452 rfl (lv_at hl 4 rfl) ?_
  refine lv_iload hx hb dL_law_453 (lv_at hl 0 rfl) ?_
  refine lv_iconst (v := 2) hx hb dL_law_455 (by decide) ?_
  refine lv_iadd hx hb dL_law_456 ?_
  refine lv_topi (fun z_10 ez_10 => ?_)
  have kz_10 : (z_10).toInt = (i).toInt + (2 : Int) := by rw [ez_10]; exact z_add (a := (i).toInt) (b := (2 : Int)) rfl rfl (by omega) (by omega)
  refine va_sld hx hb hX hbl hbA hS (z_vpin (by omega) (by omega)) dL_law_457 ?_
  refine z_topeq (y := t_4) (by rw [et_4, ez_10, ez_3]) ?_
  refine lv_aload_n hx hb dL_law_458 rfl (lv_at hl 4 rfl) ?_
  refine lv_iload hx hb dL_law_459 (lv_at hl 0 rfl) ?_
  refine lv_iconst (v := 3) hx hb dL_law_461 (by decide) ?_
  refine lv_iadd hx hb dL_law_462 ?_
  refine lv_topi (fun z_11 ez_11 => ?_)
  have kz_11 : (z_11).toInt = (i).toInt + (3 : Int) := by rw [ez_11]; exact z_add (a := (i).toInt) (b := (3 : Int)) rfl rfl (by omega) (by omega)
  refine va_sld hx hb hX hbl hbA hS (z_vpin (by omega) (by omega)) dL_law_463 ?_
  refine z_topeq (y := t_6) (by rw [et_6, ez_11, ez_5]) ?_
  refine q_464 C0 hK hST (by omega) (by omega) hI hS hl t_2 t_4 t_6 r_7 (fun r_12  H locs hw_13 hI hS => ?_)
  refine lv_icmp_eq (tgt := 1326) hx hb dL_law_467 (by decide) (fun _ => ?_) (fun c_14 => absurd (hw_8.trans hw_13.symm) c_14)
  exact hN _ _ _ _ _ _ (by omega) (by omega) hI hS (lv_sub hl [0, 1, 2, 3, 4] rfl)
set_option maxHeartbeats 4000000 in
set_option maxRecDepth 100000 in
theorem law_c8 {p : Program} {l : Launch} {e : Env} {s : State} {m : MethodId} {below : List Frame} {meth : Method} {c : Code} {dC : Nat → ClassId} {dI : Nat → Nat → Nat} {b L : Nat} {xs : Nat → Int32} {ad : Nat → Nat} {ca : Nat → ClassId} {sd sv : Nat → Nat} {sf : Value} (C0 : lw_At p s m meth c b L xs) (hK : va_K (dC, dI) vwCl (z_T ca) s) (hST : z_ST sd sv sf (fun q : Nat => s.heap.size ≤ q) s s.heap) (hst : l.stackTraces = false) {sa : Nat} (hT0 : z_TH sa (fun q : Nat => s.heap.size ≤ q) s s.heap) (hL : L ≤ 3584) {cells slots : Nat} (hc : cells ≤ 690) (hs : slots ≤ 37000) {i : Int32} (hi : 0 ≤ i.toInt ∧ i.toInt + 7 ≤ (L : Int)) {H : Heap} {locs : List Loc} {ls : Array Slot} {g : Nat → Nat → Int32} (hI : z_In dC dI (fun q : Nat => s.heap.size ≤ q) ad ca g g H) (hS : va_S (fun q : Nat => s.heap.size ≤ q) s.heap H locs) (hl : lv_has ls 7 [(4, .int i), (3, .ref (ad 99)), (2, .ref (ad 57)), (1, .ref (ad 0)), (0, .ref b)]) (hN : (∀ (cells9 slots9 : Nat) (g : Nat → Nat → Int32) (H : Heap) (locs : List Loc) (ls : Array Slot), cells9 ≤ cells + 1 → slots9 ≤ slots + 6 → z_In dC dI (fun q : Nat => s.heap.size ≤ q) ad ca g g H → va_S (fun q : Nat => s.heap.size ≤ q) s.heap H locs → lv_has ls 7 [(4, .int i), (3, .ref (ad 99)), (2, .ref (ad 57)), (1, .ref (ad 0)), (0, .ref b)] → W p l e room_1 s m #[Value.ref b] below meth c H locs cells9 slots9 (lw_Z below #[Value.ref b] s) (F0 m 1326 ls []))) : W p l e room_1 s m #[Value.ref b] below meth c H locs cells slots (lw_Z below #[Value.ref b] s) (F0 m 472 ls []) := by
  obtain ⟨hx, hb, hr, hml, hown, hts, hX, hbl, hlocks, hgv⟩ := id C0
  have hown : s.vm.findClass RL = some m.cls := hown
  have hA : ∀ q : Nat, s.heap.size ≤ q → (fun q : Nat => s.heap.size ≤ q) q := fun _ h => h
  have hbA : ¬ (fun q : Nat => s.heap.size ≤ q) b := Nat.not_le.mpr hbl
  refine lv_aload_n hx hb dL_law_472 rfl (lv_at hl 3 rfl) ?_
  refine lv_aload_n hx hb dL_law_473 rfl (lv_at hl 4 rfl) ?_
  refine lv_iload hx hb dL_law_474 (lv_at hl 0 rfl) ?_
  refine lv_iconst (v := 1) hx hb dL_law_476 (by decide) ?_
  refine lv_iadd hx hb dL_law_477 ?_
  refine lv_topi (fun z_1 ez_1 => ?_)
  have kz_1 : (z_1).toInt = (i).toInt + (1 : Int) := by rw [ez_1]; exact z_add (a := (i).toInt) (b := (1 : Int)) rfl rfl (by omega) (by omega)
  refine va_sld hx hb hX hbl hbA hS (z_vpin (by omega) (by omega)) dL_law_478 ?_
  refine lv_topi (fun t_2 et_2 => ?_)
  refine lv_aload_n hx hb dL_law_479 rfl (lv_at hl 4 rfl) ?_
  refine lv_iload hx hb dL_law_480 (lv_at hl 0 rfl) ?_
  refine lv_iconst (v := 2) hx hb dL_law_482 (by decide) ?_
  refine lv_iadd hx hb dL_law_483 ?_
  refine lv_topi (fun z_3 ez_3 => ?_)
  have kz_3 : (z_3).toInt = (i).toInt + (2 : Int) := by rw [ez_3]; exact z_add (a := (i).toInt) (b := (2 : Int)) rfl rfl (by omega) (by omega)
  refine va_sld hx hb hX hbl hbA hS (z_vpin (by omega) (by omega)) dL_law_484 ?_
  refine lv_topi (fun t_4 et_4 => ?_)
  refine lv_aload_n hx hb dL_law_485 rfl (lv_at hl 4 rfl) ?_
  refine lv_iload hx hb dL_law_486 (lv_at hl 0 rfl) ?_
  refine lv_iconst (v := 3) hx hb dL_law_488 (by decide) ?_
  refine lv_iadd hx hb dL_law_489 ?_
  refine lv_topi (fun z_5 ez_5 => ?_)
  have kz_5 : (z_5).toInt = (i).toInt + (3 : Int) := by rw [ez_5]; exact z_add (a := (i).toInt) (b := (3 : Int)) rfl rfl (by omega) (by omega)
  refine va_sld hx hb hX hbl hbA hS (z_vpin (by omega) (by omega)) dL_law_490 ?_
  refine lv_topi (fun t_6 et_6 => ?_)
  refine q_491 C0 hK hST (by omega) (by omega) hI hS hl t_2 t_4 t_6 (fun r_7  H locs hw_8 hI hS => ?_)
  refine lv_pop hx hb dL_law_494 rfl ?_
  refine lv_aload_n hx hb dL_law_495 rfl (lv_at hl 2 rfl) ?_
  refine lv_aload_n hx hb dL_law_496 rfl (lv_at hl 4 rfl) ?_
  refine lv_iload hx hb dL_law_497 (lv_at hl 0 rfl) ?_
  refine lv_iconst (v := 1) hx hb dL_law_499 (by decide) ?_
  refine lv_iadd hx hb dL_law_500 ?_
  refine lv_topi (fun z_9 ez_9 => ?_)
  have kz_9 : (z_9).toInt = (i).toInt + (1 : Int) := by rw [ez_9]; exact z_add (a := (i).toInt) (b := (1 : Int)) rfl rfl (by omega) (by omega)
  refine va_sld hx hb hX hbl hbA hS (z_vpin (by omega) (by omega)) dL_law_501 ?_
  refine z_topeq (y := t_2) (by rw [et_2, ez_9, ez_1]) ?_
  refine lv_aload_n hx hb dL_law_502 rfl (lv_at hl 4 rfl) ?_
  refine lv_iload hx hb dL_law_503 (lv_at hl 0 rfl) ?_
  refine lv_iconst (v := 2) hx hb dL_law_505 (by decide) ?_
  refine lv_iadd hx hb dL_law_506 ?_
  refine lv_topi (fun z_10 ez_10 => ?_)
  have kz_10 : (z_10).toInt = (i).toInt + (2 : Int) := by rw [ez_10]; exact z_add (a := (i).toInt) (b := (2 : Int)) rfl rfl (by omega) (by omega)
  refine va_sld hx hb hX hbl hbA hS (z_vpin (by omega) (by omega)) dL_law_507 ?_
  refine z_topeq (y := t_4) (by rw [et_4, ez_10, ez_3]) ?_
  refine lv_aload_n hx hb dL_law_508 rfl (lv_at hl 4 rfl) ?_
  refine lv_iload hx hb dL_law_509 (lv_at hl 0 rfl) ?_
  refine lv_iconst (v := 3) hx hb dL_law_511 (by decide) ?_
  refine lv_iadd hx hb dL_law_512 ?_
  refine lv_topi (fun z_11 ez_11 => ?_)
  have kz_11 : (z_11).toInt = (i).toInt + (3 : Int) := by rw [ez_11]; exact z_add (a := (i).toInt) (b := (3 : Int)) rfl rfl (by omega) (by omega)
  refine va_sld hx hb hX hbl hbA hS (z_vpin (by omega) (by omega)) dL_law_513 ?_
  refine z_topeq (y := t_6) (by rw [et_6, ez_11, ez_5]) ?_
  refine q_514 C0 hK hST (by omega) (by omega) hI hS hl t_2 t_4 t_6 (fun r_12  H locs hw_13 hI hS => ?_)
  refine lv_pop hx hb dL_law_517 rfl ?_
  refine lv_goto (tgt := 1326) hx hb dL_law_518 (by decide) ?_
  exact hN _ _ _ _ _ _ (by omega) (by omega) hI hS (lv_sub hl [0, 1, 2, 3, 4] rfl)
set_option maxHeartbeats 4000000 in
set_option maxRecDepth 100000 in
theorem law_c9 {p : Program} {l : Launch} {e : Env} {s : State} {m : MethodId} {below : List Frame} {meth : Method} {c : Code} {dC : Nat → ClassId} {dI : Nat → Nat → Nat} {b L : Nat} {xs : Nat → Int32} {ad : Nat → Nat} {ca : Nat → ClassId} {sd sv : Nat → Nat} {sf : Value} (C0 : lw_At p s m meth c b L xs) (hK : va_K (dC, dI) vwCl (z_T ca) s) (hST : z_ST sd sv sf (fun q : Nat => s.heap.size ≤ q) s s.heap) (hst : l.stackTraces = false) {sa : Nat} (hT0 : z_TH sa (fun q : Nat => s.heap.size ≤ q) s s.heap) (hL : L ≤ 3584) {cells slots : Nat} (hc : cells ≤ 690) (hs : slots ≤ 37000) {i : Int32} (hi : 0 ≤ i.toInt ∧ i.toInt + 7 ≤ (L : Int)) {H : Heap} {locs : List Loc} {ls : Array Slot} {g : Nat → Nat → Int32} (hI : z_In dC dI (fun q : Nat => s.heap.size ≤ q) ad ca g g H) (hS : va_S (fun q : Nat => s.heap.size ≤ q) s.heap H locs) (hl : lv_has ls 7 [(4, .int i), (3, .ref (ad 99)), (2, .ref (ad 57)), (1, .ref (ad 0)), (0, .ref b)]) (hN : (∀ (cells9 slots9 : Nat) (g : Nat → Nat → Int32) (H : Heap) (locs : List Loc) (ls : Array Slot), cells9 ≤ cells + 1 → slots9 ≤ slots + 6 → z_In dC dI (fun q : Nat => s.heap.size ≤ q) ad ca g g H → va_S (fun q : Nat => s.heap.size ≤ q) s.heap H locs → lv_has ls 7 [(4, .int i), (3, .ref (ad 99)), (2, .ref (ad 57)), (1, .ref (ad 0)), (0, .ref b)] → W p l e room_1 s m #[Value.ref b] below meth c H locs cells9 slots9 (lw_Z below #[Value.ref b] s) (F0 m 1326 ls []))) : W p l e room_1 s m #[Value.ref b] below meth c H locs cells slots (lw_Z below #[Value.ref b] s) (F0 m 521 ls []) := by
  obtain ⟨hx, hb, hr, hml, hown, hts, hX, hbl, hlocks, hgv⟩ := id C0
  have hown : s.vm.findClass RL = some m.cls := hown
  have hA : ∀ q : Nat, s.heap.size ≤ q → (fun q : Nat => s.heap.size ≤ q) q := fun _ h => h
  have hbA : ¬ (fun q : Nat => s.heap.size ≤ q) b := Nat.not_le.mpr hbl
  refine lv_aload_n hx hb dL_law_521 rfl (lv_at hl 3 rfl) ?_
  refine lv_aload_n hx hb dL_law_522 rfl (lv_at hl 4 rfl) ?_
  refine lv_iload hx hb dL_law_523 (lv_at hl 0 rfl) ?_
  refine lv_iconst (v := 1) hx hb dL_law_525 (by decide) ?_
  refine lv_iadd hx hb dL_law_526 ?_
  refine lv_topi (fun z_1 ez_1 => ?_)
  have kz_1 : (z_1).toInt = (i).toInt + (1 : Int) := by rw [ez_1]; exact z_add (a := (i).toInt) (b := (1 : Int)) rfl rfl (by omega) (by omega)
  refine va_sld hx hb hX hbl hbA hS (z_vpin (by omega) (by omega)) dL_law_527 ?_
  refine lv_topi (fun t_2 et_2 => ?_)
  refine q_528 C0 hK hST (by omega) (by omega) hI hS hl t_2 (fun r_3  H locs hw_4 hI hS => ?_)
  refine lv_pop hx hb dL_law_531 rfl ?_
  refine lv_aload_n hx hb dL_law_532 rfl (lv_at hl 2 rfl) ?_
  refine lv_aload_n hx hb dL_law_533 rfl (lv_at hl 4 rfl) ?_
  refine lv_iload hx hb dL_law_534 (lv_at hl 0 rfl) ?_
  refine lv_iconst (v := 1) hx hb dL_law_536 (by decide) ?_
  refine lv_iadd hx hb dL_law_537 ?_
  refine lv_topi (fun z_5 ez_5 => ?_)
  have kz_5 : (z_5).toInt = (i).toInt + (1 : Int) := by rw [ez_5]; exact z_add (a := (i).toInt) (b := (1 : Int)) rfl rfl (by omega) (by omega)
  refine va_sld hx hb hX hbl hbA hS (z_vpin (by omega) (by omega)) dL_law_538 ?_
  refine z_topeq (y := t_2) (by rw [et_2, ez_5, ez_1]) ?_
  refine q_539 C0 hK hST (by omega) (by omega) hI hS hl t_2 (fun r_6  H locs hw_7 hI hS => ?_)
  refine lv_pop hx hb dL_law_542 rfl ?_
  refine lv_goto (tgt := 1326) hx hb dL_law_543 (by decide) ?_
  exact hN _ _ _ _ _ _ (by omega) (by omega) hI hS (lv_sub hl [0, 1, 2, 3, 4] rfl)
set_option maxHeartbeats 4000000 in
set_option maxRecDepth 100000 in
theorem law_c10 {p : Program} {l : Launch} {e : Env} {s : State} {m : MethodId} {below : List Frame} {meth : Method} {c : Code} {dC : Nat → ClassId} {dI : Nat → Nat → Nat} {b L : Nat} {xs : Nat → Int32} {ad : Nat → Nat} {ca : Nat → ClassId} {sd sv : Nat → Nat} {sf : Value} (C0 : lw_At p s m meth c b L xs) (hK : va_K (dC, dI) vwCl (z_T ca) s) (hST : z_ST sd sv sf (fun q : Nat => s.heap.size ≤ q) s s.heap) (hst : l.stackTraces = false) {sa : Nat} (hT0 : z_TH sa (fun q : Nat => s.heap.size ≤ q) s s.heap) (hL : L ≤ 3584) {cells slots : Nat} (hc : cells ≤ 690) (hs : slots ≤ 37000) {i : Int32} (hi : 0 ≤ i.toInt ∧ i.toInt + 7 ≤ (L : Int)) {H : Heap} {locs : List Loc} {ls : Array Slot} {g : Nat → Nat → Int32} (hI : z_In dC dI (fun q : Nat => s.heap.size ≤ q) ad ca g g H) (hS : va_S (fun q : Nat => s.heap.size ≤ q) s.heap H locs) (hl : lv_has ls 7 [(4, .int i), (3, .ref (ad 99)), (2, .ref (ad 57)), (1, .ref (ad 0)), (0, .ref b)]) (hN : (∀ (cells9 slots9 : Nat) (g : Nat → Nat → Int32) (H : Heap) (locs : List Loc) (ls : Array Slot), cells9 ≤ cells + 1 → slots9 ≤ slots + 6 → z_In dC dI (fun q : Nat => s.heap.size ≤ q) ad ca g g H → va_S (fun q : Nat => s.heap.size ≤ q) s.heap H locs → lv_has ls 7 [(4, .int i), (3, .ref (ad 99)), (2, .ref (ad 57)), (1, .ref (ad 0)), (0, .ref b)] → W p l e room_1 s m #[Value.ref b] below meth c H locs cells9 slots9 (lw_Z below #[Value.ref b] s) (F0 m 1326 ls []))) : W p l e room_1 s m #[Value.ref b] below meth c H locs cells slots (lw_Z below #[Value.ref b] s) (F0 m 546 ls []) := by
  obtain ⟨hx, hb, hr, hml, hown, hts, hX, hbl, hlocks, hgv⟩ := id C0
  have hown : s.vm.findClass RL = some m.cls := hown
  have hA : ∀ q : Nat, s.heap.size ≤ q → (fun q : Nat => s.heap.size ≤ q) q := fun _ h => h
  have hbA : ¬ (fun q : Nat => s.heap.size ≤ q) b := Nat.not_le.mpr hbl
  refine lv_aload_n hx hb dL_law_546 rfl (lv_at hl 3 rfl) ?_
  refine lv_aload_n hx hb dL_law_547 rfl (lv_at hl 4 rfl) ?_
  refine lv_iload hx hb dL_law_548 (lv_at hl 0 rfl) ?_
  refine lv_iconst (v := 1) hx hb dL_law_550 (by decide) ?_
  refine lv_iadd hx hb dL_law_551 ?_
  refine lv_topi (fun z_1 ez_1 => ?_)
  have kz_1 : (z_1).toInt = (i).toInt + (1 : Int) := by rw [ez_1]; exact z_add (a := (i).toInt) (b := (1 : Int)) rfl rfl (by omega) (by omega)
  refine va_sld hx hb hX hbl hbA hS (z_vpin (by omega) (by omega)) dL_law_552 ?_
  refine lv_topi (fun t_2 et_2 => ?_)
  refine lv_aload_n hx hb dL_law_553 rfl (lv_at hl 4 rfl) ?_
  refine lv_iload hx hb dL_law_554 (lv_at hl 0 rfl) ?_
  refine lv_iconst (v := 2) hx hb dL_law_556 (by decide) ?_
  refine lv_iadd hx hb dL_law_557 ?_
  refine lv_topi (fun z_3 ez_3 => ?_)
  have kz_3 : (z_3).toInt = (i).toInt + (2 : Int) := by rw [ez_3]; exact z_add (a := (i).toInt) (b := (2 : Int)) rfl rfl (by omega) (by omega)
  refine va_sld hx hb hX hbl hbA hS (z_vpin (by omega) (by omega)) dL_law_558 ?_
  refine lv_topi (fun t_4 et_4 => ?_)
  refine q_559 C0 hK hST (by omega) (by omega) hI hS hl t_2 t_4 (fun r_5  H locs hw_6 hI hS => ?_)
  refine lv_pop hx hb dL_law_562 rfl ?_
  refine lv_aload_n hx hb dL_law_563 rfl (lv_at hl 2 rfl) ?_
  refine lv_aload_n hx hb dL_law_564 rfl (lv_at hl 4 rfl) ?_
  refine lv_iload hx hb dL_law_565 (lv_at hl 0 rfl) ?_
  refine lv_iconst (v := 1) hx hb dL_law_567 (by decide) ?_
  refine lv_iadd hx hb dL_law_568 ?_
  refine lv_topi (fun z_7 ez_7 => ?_)
  have kz_7 : (z_7).toInt = (i).toInt + (1 : Int) := by rw [ez_7]; exact z_add (a := (i).toInt) (b := (1 : Int)) rfl rfl (by omega) (by omega)
  refine va_sld hx hb hX hbl hbA hS (z_vpin (by omega) (by omega)) dL_law_569 ?_
  refine z_topeq (y := t_2) (by rw [et_2, ez_7, ez_1]) ?_
  refine lv_aload_n hx hb dL_law_570 rfl (lv_at hl 4 rfl) ?_
  refine lv_iload hx hb dL_law_571 (lv_at hl 0 rfl) ?_
  refine lv_iconst (v := 2) hx hb dL_law_573 (by decide) ?_
  refine lv_iadd hx hb dL_law_574 ?_
  refine lv_topi (fun z_8 ez_8 => ?_)
  have kz_8 : (z_8).toInt = (i).toInt + (2 : Int) := by rw [ez_8]; exact z_add (a := (i).toInt) (b := (2 : Int)) rfl rfl (by omega) (by omega)
  refine va_sld hx hb hX hbl hbA hS (z_vpin (by omega) (by omega)) dL_law_575 ?_
  refine z_topeq (y := t_4) (by rw [et_4, ez_8, ez_3]) ?_
  refine q_576 C0 hK hST (by omega) (by omega) hI hS hl t_2 t_4 (fun r_9  H locs hw_10 hI hS => ?_)
  refine lv_pop hx hb dL_law_579 rfl ?_
  refine lv_goto (tgt := 1326) hx hb dL_law_580 (by decide) ?_
  exact hN _ _ _ _ _ _ (by omega) (by omega) hI hS (lv_sub hl [0, 1, 2, 3, 4] rfl)
set_option maxHeartbeats 4000000 in
set_option maxRecDepth 100000 in
theorem law_c11 {p : Program} {l : Launch} {e : Env} {s : State} {m : MethodId} {below : List Frame} {meth : Method} {c : Code} {dC : Nat → ClassId} {dI : Nat → Nat → Nat} {b L : Nat} {xs : Nat → Int32} {ad : Nat → Nat} {ca : Nat → ClassId} {sd sv : Nat → Nat} {sf : Value} (C0 : lw_At p s m meth c b L xs) (hK : va_K (dC, dI) vwCl (z_T ca) s) (hST : z_ST sd sv sf (fun q : Nat => s.heap.size ≤ q) s s.heap) (hst : l.stackTraces = false) {sa : Nat} (hT0 : z_TH sa (fun q : Nat => s.heap.size ≤ q) s s.heap) (hL : L ≤ 3584) {cells slots : Nat} (hc : cells ≤ 690) (hs : slots ≤ 37000) {i : Int32} (hi : 0 ≤ i.toInt ∧ i.toInt + 7 ≤ (L : Int)) {H : Heap} {locs : List Loc} {ls : Array Slot} {g : Nat → Nat → Int32} (hI : z_In dC dI (fun q : Nat => s.heap.size ≤ q) ad ca g g H) (hS : va_S (fun q : Nat => s.heap.size ≤ q) s.heap H locs) (hl : lv_has ls 7 [(4, .int i), (3, .ref (ad 99)), (2, .ref (ad 57)), (1, .ref (ad 0)), (0, .ref b)]) (hN : (∀ (cells9 slots9 : Nat) (g : Nat → Nat → Int32) (H : Heap) (locs : List Loc) (ls : Array Slot), cells9 ≤ cells + 1 → slots9 ≤ slots + 6 → z_In dC dI (fun q : Nat => s.heap.size ≤ q) ad ca g g H → va_S (fun q : Nat => s.heap.size ≤ q) s.heap H locs → lv_has ls 7 [(4, .int i), (3, .ref (ad 99)), (2, .ref (ad 57)), (1, .ref (ad 0)), (0, .ref b)] → W p l e room_1 s m #[Value.ref b] below meth c H locs cells9 slots9 (lw_Z below #[Value.ref b] s) (F0 m 1326 ls []))) : W p l e room_1 s m #[Value.ref b] below meth c H locs cells slots (lw_Z below #[Value.ref b] s) (F0 m 583 ls []) := by
  obtain ⟨hx, hb, hr, hml, hown, hts, hX, hbl, hlocks, hgv⟩ := id C0
  have hown : s.vm.findClass RL = some m.cls := hown
  have hA : ∀ q : Nat, s.heap.size ≤ q → (fun q : Nat => s.heap.size ≤ q) q := fun _ h => h
  have hbA : ¬ (fun q : Nat => s.heap.size ≤ q) b := Nat.not_le.mpr hbl
  refine lv_aload_n hx hb dL_law_583 rfl (lv_at hl 3 rfl) ?_
  refine lv_aload_n hx hb dL_law_584 rfl (lv_at hl 4 rfl) ?_
  refine lv_iload hx hb dL_law_585 (lv_at hl 0 rfl) ?_
  refine lv_iconst (v := 1) hx hb dL_law_587 (by decide) ?_
  refine lv_iadd hx hb dL_law_588 ?_
  refine lv_topi (fun z_1 ez_1 => ?_)
  have kz_1 : (z_1).toInt = (i).toInt + (1 : Int) := by rw [ez_1]; exact z_add (a := (i).toInt) (b := (1 : Int)) rfl rfl (by omega) (by omega)
  refine va_sld hx hb hX hbl hbA hS (z_vpin (by omega) (by omega)) dL_law_589 ?_
  refine lv_topi (fun t_2 et_2 => ?_)
  refine lv_aload_n hx hb dL_law_590 rfl (lv_at hl 4 rfl) ?_
  refine lv_iload hx hb dL_law_591 (lv_at hl 0 rfl) ?_
  refine lv_iconst (v := 2) hx hb dL_law_593 (by decide) ?_
  refine lv_iadd hx hb dL_law_594 ?_
  refine lv_topi (fun z_3 ez_3 => ?_)
  have kz_3 : (z_3).toInt = (i).toInt + (2 : Int) := by rw [ez_3]; exact z_add (a := (i).toInt) (b := (2 : Int)) rfl rfl (by omega) (by omega)
  refine va_sld hx hb hX hbl hbA hS (z_vpin (by omega) (by omega)) dL_law_595 ?_
  refine lv_topi (fun t_4 et_4 => ?_)
  refine q_596 C0 hK hST (by omega) (by omega) hI hS hl t_2 t_4 (fun r_5  H locs hw_6 hI hS => ?_)
  refine lv_pop hx hb dL_law_599 rfl ?_
  refine lv_aload_n hx hb dL_law_600 rfl (lv_at hl 2 rfl) ?_
  refine lv_aload_n hx hb dL_law_601 rfl (lv_at hl 4 rfl) ?_
  refine lv_iload hx hb dL_law_602 (lv_at hl 0 rfl) ?_
  refine lv_iconst (v := 1) hx hb dL_law_604 (by decide) ?_
  refine lv_iadd hx hb dL_law_605 ?_
  refine lv_topi (fun z_7 ez_7 => ?_)
  have kz_7 : (z_7).toInt = (i).toInt + (1 : Int) := by rw [ez_7]; exact z_add (a := (i).toInt) (b := (1 : Int)) rfl rfl (by omega) (by omega)
  refine va_sld hx hb hX hbl hbA hS (z_vpin (by omega) (by omega)) dL_law_606 ?_
  refine z_topeq (y := t_2) (by rw [et_2, ez_7, ez_1]) ?_
  refine lv_aload_n hx hb dL_law_607 rfl (lv_at hl 4 rfl) ?_
  refine lv_iload hx hb dL_law_608 (lv_at hl 0 rfl) ?_
  refine lv_iconst (v := 2) hx hb dL_law_610 (by decide) ?_
  refine lv_iadd hx hb dL_law_611 ?_
  refine lv_topi (fun z_8 ez_8 => ?_)
  have kz_8 : (z_8).toInt = (i).toInt + (2 : Int) := by rw [ez_8]; exact z_add (a := (i).toInt) (b := (2 : Int)) rfl rfl (by omega) (by omega)
  refine va_sld hx hb hX hbl hbA hS (z_vpin (by omega) (by omega)) dL_law_612 ?_
  refine z_topeq (y := t_4) (by rw [et_4, ez_8, ez_3]) ?_
  refine q_613 C0 hK hST (by omega) (by omega) hI hS hl t_2 t_4 (fun r_9  H locs hw_10 hI hS => ?_)
  refine lv_pop hx hb dL_law_616 rfl ?_
  refine lv_goto (tgt := 1326) hx hb dL_law_617 (by decide) ?_
  exact hN _ _ _ _ _ _ (by omega) (by omega) hI hS (lv_sub hl [0, 1, 2, 3, 4] rfl)
set_option maxHeartbeats 4000000 in
set_option maxRecDepth 100000 in
theorem law_c12 {p : Program} {l : Launch} {e : Env} {s : State} {m : MethodId} {below : List Frame} {meth : Method} {c : Code} {dC : Nat → ClassId} {dI : Nat → Nat → Nat} {b L : Nat} {xs : Nat → Int32} {ad : Nat → Nat} {ca : Nat → ClassId} {sd sv : Nat → Nat} {sf : Value} (C0 : lw_At p s m meth c b L xs) (hK : va_K (dC, dI) vwCl (z_T ca) s) (hST : z_ST sd sv sf (fun q : Nat => s.heap.size ≤ q) s s.heap) (hst : l.stackTraces = false) {sa : Nat} (hT0 : z_TH sa (fun q : Nat => s.heap.size ≤ q) s s.heap) (hL : L ≤ 3584) {cells slots : Nat} (hc : cells ≤ 690) (hs : slots ≤ 37000) {i : Int32} (hi : 0 ≤ i.toInt ∧ i.toInt + 7 ≤ (L : Int)) {H : Heap} {locs : List Loc} {ls : Array Slot} {g : Nat → Nat → Int32} (hI : z_In dC dI (fun q : Nat => s.heap.size ≤ q) ad ca g g H) (hS : va_S (fun q : Nat => s.heap.size ≤ q) s.heap H locs) (hl : lv_has ls 7 [(4, .int i), (3, .ref (ad 99)), (2, .ref (ad 57)), (1, .ref (ad 0)), (0, .ref b)]) (hN : (∀ (cells9 slots9 : Nat) (g : Nat → Nat → Int32) (H : Heap) (locs : List Loc) (ls : Array Slot), cells9 ≤ cells + 1 → slots9 ≤ slots + 6 → z_In dC dI (fun q : Nat => s.heap.size ≤ q) ad ca g g H → va_S (fun q : Nat => s.heap.size ≤ q) s.heap H locs → lv_has ls 7 [(4, .int i), (3, .ref (ad 99)), (2, .ref (ad 57)), (1, .ref (ad 0)), (0, .ref b)] → W p l e room_1 s m #[Value.ref b] below meth c H locs cells9 slots9 (lw_Z below #[Value.ref b] s) (F0 m 1326 ls []))) : W p l e room_1 s m #[Value.ref b] below meth c H locs cells slots (lw_Z below #[Value.ref b] s) (F0 m 620 ls []) := by
  obtain ⟨hx, hb, hr, hml, hown, hts, hX, hbl, hlocks, hgv⟩ := id C0
  have hown : s.vm.findClass RL = some m.cls := hown
  have hA : ∀ q : Nat, s.heap.size ≤ q → (fun q : Nat => s.heap.size ≤ q) q := fun _ h => h
  have hbA : ¬ (fun q : Nat => s.heap.size ≤ q) b := Nat.not_le.mpr hbl
  refine lv_aload_n hx hb dL_law_620 rfl (lv_at hl 3 rfl) ?_
  refine lv_aload_n hx hb dL_law_621 rfl (lv_at hl 4 rfl) ?_
  refine lv_iload hx hb dL_law_622 (lv_at hl 0 rfl) ?_
  refine lv_iconst (v := 1) hx hb dL_law_624 (by decide) ?_
  refine lv_iadd hx hb dL_law_625 ?_
  refine lv_topi (fun z_1 ez_1 => ?_)
  have kz_1 : (z_1).toInt = (i).toInt + (1 : Int) := by rw [ez_1]; exact z_add (a := (i).toInt) (b := (1 : Int)) rfl rfl (by omega) (by omega)
  refine va_sld hx hb hX hbl hbA hS (z_vpin (by omega) (by omega)) dL_law_626 ?_
  refine lv_topi (fun t_2 et_2 => ?_)
  refine lv_aload_n hx hb dL_law_627 rfl (lv_at hl 4 rfl) ?_
  refine lv_iload hx hb dL_law_628 (lv_at hl 0 rfl) ?_
  refine lv_iconst (v := 2) hx hb dL_law_630 (by decide) ?_
  refine lv_iadd hx hb dL_law_631 ?_
  refine lv_topi (fun z_3 ez_3 => ?_)
  have kz_3 : (z_3).toInt = (i).toInt + (2 : Int) := by rw [ez_3]; exact z_add (a := (i).toInt) (b := (2 : Int)) rfl rfl (by omega) (by omega)
  refine va_sld hx hb hX hbl hbA hS (z_vpin (by omega) (by omega)) dL_law_632 ?_
  refine lv_topi (fun t_4 et_4 => ?_)
  refine lv_aload_n hx hb dL_law_633 rfl (lv_at hl 4 rfl) ?_
  refine lv_iload hx hb dL_law_634 (lv_at hl 0 rfl) ?_
  refine lv_iconst (v := 3) hx hb dL_law_636 (by decide) ?_
  refine lv_iadd hx hb dL_law_637 ?_
  refine lv_topi (fun z_5 ez_5 => ?_)
  have kz_5 : (z_5).toInt = (i).toInt + (3 : Int) := by rw [ez_5]; exact z_add (a := (i).toInt) (b := (3 : Int)) rfl rfl (by omega) (by omega)
  refine va_sld hx hb hX hbl hbA hS (z_vpin (by omega) (by omega)) dL_law_638 ?_
  refine lv_topi (fun t_6 et_6 => ?_)
  refine q_639 C0 hK hST (by omega) (by omega) hI hS hl t_2 t_4 t_6 (fun r_7  H locs hw_8 hI hS => ?_)
  refine lv_pop hx hb dL_law_642 rfl ?_
  refine lv_aload_n hx hb dL_law_643 rfl (lv_at hl 2 rfl) ?_
  refine lv_aload_n hx hb dL_law_644 rfl (lv_at hl 4 rfl) ?_
  refine lv_iload hx hb dL_law_645 (lv_at hl 0 rfl) ?_
  refine lv_iconst (v := 1) hx hb dL_law_647 (by decide) ?_
  refine lv_iadd hx hb dL_law_648 ?_
  refine lv_topi (fun z_9 ez_9 => ?_)
  have kz_9 : (z_9).toInt = (i).toInt + (1 : Int) := by rw [ez_9]; exact z_add (a := (i).toInt) (b := (1 : Int)) rfl rfl (by omega) (by omega)
  refine va_sld hx hb hX hbl hbA hS (z_vpin (by omega) (by omega)) dL_law_649 ?_
  refine z_topeq (y := t_2) (by rw [et_2, ez_9, ez_1]) ?_
  refine lv_aload_n hx hb dL_law_650 rfl (lv_at hl 4 rfl) ?_
  refine lv_iload hx hb dL_law_651 (lv_at hl 0 rfl) ?_
  refine lv_iconst (v := 2) hx hb dL_law_653 (by decide) ?_
  refine lv_iadd hx hb dL_law_654 ?_
  refine lv_topi (fun z_10 ez_10 => ?_)
  have kz_10 : (z_10).toInt = (i).toInt + (2 : Int) := by rw [ez_10]; exact z_add (a := (i).toInt) (b := (2 : Int)) rfl rfl (by omega) (by omega)
  refine va_sld hx hb hX hbl hbA hS (z_vpin (by omega) (by omega)) dL_law_655 ?_
  refine z_topeq (y := t_4) (by rw [et_4, ez_10, ez_3]) ?_
  refine lv_aload_n hx hb dL_law_656 rfl (lv_at hl 4 rfl) ?_
  refine lv_iload hx hb dL_law_657 (lv_at hl 0 rfl) ?_
  refine lv_iconst (v := 3) hx hb dL_law_659 (by decide) ?_
  refine lv_iadd hx hb dL_law_660 ?_
  refine lv_topi (fun z_11 ez_11 => ?_)
  have kz_11 : (z_11).toInt = (i).toInt + (3 : Int) := by rw [ez_11]; exact z_add (a := (i).toInt) (b := (3 : Int)) rfl rfl (by omega) (by omega)
  refine va_sld hx hb hX hbl hbA hS (z_vpin (by omega) (by omega)) dL_law_661 ?_
  refine z_topeq (y := t_6) (by rw [et_6, ez_11, ez_5]) ?_
  refine q_662 C0 hK hST (by omega) (by omega) hI hS hl t_2 t_4 t_6 (fun r_12  H locs hw_13 hI hS => ?_)
  refine lv_pop hx hb dL_law_665 rfl ?_
  refine lv_goto (tgt := 1326) hx hb dL_law_666 (by decide) ?_
  exact hN _ _ _ _ _ _ (by omega) (by omega) hI hS (lv_sub hl [0, 1, 2, 3, 4] rfl)
set_option maxHeartbeats 4000000 in
set_option maxRecDepth 100000 in
theorem law_c13 {p : Program} {l : Launch} {e : Env} {s : State} {m : MethodId} {below : List Frame} {meth : Method} {c : Code} {dC : Nat → ClassId} {dI : Nat → Nat → Nat} {b L : Nat} {xs : Nat → Int32} {ad : Nat → Nat} {ca : Nat → ClassId} {sd sv : Nat → Nat} {sf : Value} (C0 : lw_At p s m meth c b L xs) (hK : va_K (dC, dI) vwCl (z_T ca) s) (hST : z_ST sd sv sf (fun q : Nat => s.heap.size ≤ q) s s.heap) (hst : l.stackTraces = false) {sa : Nat} (hT0 : z_TH sa (fun q : Nat => s.heap.size ≤ q) s s.heap) (hL : L ≤ 3584) {cells slots : Nat} (hc : cells ≤ 690) (hs : slots ≤ 37000) {i : Int32} (hi : 0 ≤ i.toInt ∧ i.toInt + 7 ≤ (L : Int)) {H : Heap} {locs : List Loc} {ls : Array Slot} {g : Nat → Nat → Int32} (hI : z_In dC dI (fun q : Nat => s.heap.size ≤ q) ad ca g g H) (hS : va_S (fun q : Nat => s.heap.size ≤ q) s.heap H locs) (hl : lv_has ls 7 [(4, .int i), (3, .ref (ad 99)), (2, .ref (ad 57)), (1, .ref (ad 0)), (0, .ref b)]) (hN : (∀ (cells9 slots9 : Nat) (g : Nat → Nat → Int32) (H : Heap) (locs : List Loc) (ls : Array Slot), cells9 ≤ cells + 1 → slots9 ≤ slots + 6 → z_In dC dI (fun q : Nat => s.heap.size ≤ q) ad ca g g H → va_S (fun q : Nat => s.heap.size ≤ q) s.heap H locs → lv_has ls 7 [(4, .int i), (3, .ref (ad 99)), (2, .ref (ad 57)), (1, .ref (ad 0)), (0, .ref b)] → W p l e room_1 s m #[Value.ref b] below meth c H locs cells9 slots9 (lw_Z below #[Value.ref b] s) (F0 m 1326 ls []))) : W p l e room_1 s m #[Value.ref b] below meth c H locs cells slots (lw_Z below #[Value.ref b] s) (F0 m 669 ls []) := by
  obtain ⟨hx, hb, hr, hml, hown, hts, hX, hbl, hlocks, hgv⟩ := id C0
  have hown : s.vm.findClass RL = some m.cls := hown
  have hA : ∀ q : Nat, s.heap.size ≤ q → (fun q : Nat => s.heap.size ≤ q) q := fun _ h => h
  have hbA : ¬ (fun q : Nat => s.heap.size ≤ q) b := Nat.not_le.mpr hbl
  refine lv_aload_n hx hb dL_law_669 rfl (lv_at hl 3 rfl) ?_
  refine lv_aload_n hx hb dL_law_670 rfl (lv_at hl 4 rfl) ?_
  refine lv_iload hx hb dL_law_671 (lv_at hl 0 rfl) ?_
  refine lv_iconst (v := 1) hx hb dL_law_673 (by decide) ?_
  refine lv_iadd hx hb dL_law_674 ?_
  refine lv_topi (fun z_1 ez_1 => ?_)
  have kz_1 : (z_1).toInt = (i).toInt + (1 : Int) := by rw [ez_1]; exact z_add (a := (i).toInt) (b := (1 : Int)) rfl rfl (by omega) (by omega)
  refine va_sld hx hb hX hbl hbA hS (z_vpin (by omega) (by omega)) dL_law_675 ?_
  refine lv_topi (fun t_2 et_2 => ?_)
  refine lv_aload_n hx hb dL_law_676 rfl (lv_at hl 4 rfl) ?_
  refine lv_iload hx hb dL_law_677 (lv_at hl 0 rfl) ?_
  refine lv_iconst (v := 2) hx hb dL_law_679 (by decide) ?_
  refine lv_iadd hx hb dL_law_680 ?_
  refine lv_topi (fun z_3 ez_3 => ?_)
  have kz_3 : (z_3).toInt = (i).toInt + (2 : Int) := by rw [ez_3]; exact z_add (a := (i).toInt) (b := (2 : Int)) rfl rfl (by omega) (by omega)
  refine va_sld hx hb hX hbl hbA hS (z_vpin (by omega) (by omega)) dL_law_681 ?_
  refine lv_topi (fun t_4 et_4 => ?_)
  refine q_682 C0 hK hST (by omega) (by omega) hI hS hl t_2 t_4 (fun r_5  H locs hw_6 hI hS => ?_)
  refine lv_pop hx hb dL_law_685 rfl ?_
  refine lv_aload_n hx hb dL_law_686 rfl (lv_at hl 2 rfl) ?_
  refine lv_aload_n hx hb dL_law_687 rfl (lv_at hl 4 rfl) ?_
  refine lv_iload hx hb dL_law_688 (lv_at hl 0 rfl) ?_
  refine lv_iconst (v := 1) hx hb dL_law_690 (by decide) ?_
  refine lv_iadd hx hb dL_law_691 ?_
  refine lv_topi (fun z_7 ez_7 => ?_)
  have kz_7 : (z_7).toInt = (i).toInt + (1 : Int) := by rw [ez_7]; exact z_add (a := (i).toInt) (b := (1 : Int)) rfl rfl (by omega) (by omega)
  refine va_sld hx hb hX hbl hbA hS (z_vpin (by omega) (by omega)) dL_law_692 ?_
  refine z_topeq (y := t_2) (by rw [et_2, ez_7, ez_1]) ?_
  refine lv_aload_n hx hb dL_law_693 rfl (lv_at hl 4 rfl) ?_
  refine lv_iload hx hb dL_law_694 (lv_at hl 0 rfl) ?_
  refine lv_iconst (v := 2) hx hb dL_law_696 (by decide) ?_
  refine lv_iadd hx hb dL_law_697 ?_
  refine lv_topi (fun z_8 ez_8 => ?_)
  have kz_8 : (z_8).toInt = (i).toInt + (2 : Int) := by rw [ez_8]; exact z_add (a := (i).toInt) (b := (2 : Int)) rfl rfl (by omega) (by omega)
  refine va_sld hx hb hX hbl hbA hS (z_vpin (by omega) (by omega)) dL_law_698 ?_
  refine z_topeq (y := t_4) (by rw [et_4, ez_8, ez_3]) ?_
  refine q_699 C0 hK hST (by omega) (by omega) hI hS hl t_2 t_4 (fun r_9  H locs hw_10 hI hS => ?_)
  refine lv_pop hx hb dL_law_702 rfl ?_
  refine lv_goto (tgt := 1326) hx hb dL_law_703 (by decide) ?_
  exact hN _ _ _ _ _ _ (by omega) (by omega) hI hS (lv_sub hl [0, 1, 2, 3, 4] rfl)
set_option maxHeartbeats 4000000 in
set_option maxRecDepth 100000 in
theorem law_c14 {p : Program} {l : Launch} {e : Env} {s : State} {m : MethodId} {below : List Frame} {meth : Method} {c : Code} {dC : Nat → ClassId} {dI : Nat → Nat → Nat} {b L : Nat} {xs : Nat → Int32} {ad : Nat → Nat} {ca : Nat → ClassId} {sd sv : Nat → Nat} {sf : Value} (C0 : lw_At p s m meth c b L xs) (hK : va_K (dC, dI) vwCl (z_T ca) s) (hST : z_ST sd sv sf (fun q : Nat => s.heap.size ≤ q) s s.heap) (hst : l.stackTraces = false) {sa : Nat} (hT0 : z_TH sa (fun q : Nat => s.heap.size ≤ q) s s.heap) (hL : L ≤ 3584) {cells slots : Nat} (hc : cells ≤ 690) (hs : slots ≤ 37000) {i : Int32} (hi : 0 ≤ i.toInt ∧ i.toInt + 7 ≤ (L : Int)) {H : Heap} {locs : List Loc} {ls : Array Slot} {g : Nat → Nat → Int32} (hI : z_In dC dI (fun q : Nat => s.heap.size ≤ q) ad ca g g H) (hS : va_S (fun q : Nat => s.heap.size ≤ q) s.heap H locs) (hl : lv_has ls 7 [(4, .int i), (3, .ref (ad 99)), (2, .ref (ad 57)), (1, .ref (ad 0)), (0, .ref b)]) (hN : (∀ (cells9 slots9 : Nat) (g : Nat → Nat → Int32) (H : Heap) (locs : List Loc) (ls : Array Slot), cells9 ≤ cells + 1 → slots9 ≤ slots + 6 → z_In dC dI (fun q : Nat => s.heap.size ≤ q) ad ca g g H → va_S (fun q : Nat => s.heap.size ≤ q) s.heap H locs → lv_has ls 7 [(4, .int i), (3, .ref (ad 99)), (2, .ref (ad 57)), (1, .ref (ad 0)), (0, .ref b)] → W p l e room_1 s m #[Value.ref b] below meth c H locs cells9 slots9 (lw_Z below #[Value.ref b] s) (F0 m 1326 ls []))) : W p l e room_1 s m #[Value.ref b] below meth c H locs cells slots (lw_Z below #[Value.ref b] s) (F0 m 706 ls []) := by
  obtain ⟨hx, hb, hr, hml, hown, hts, hX, hbl, hlocks, hgv⟩ := id C0
  have hown : s.vm.findClass RL = some m.cls := hown
  have hA : ∀ q : Nat, s.heap.size ≤ q → (fun q : Nat => s.heap.size ≤ q) q := fun _ h => h
  have hbA : ¬ (fun q : Nat => s.heap.size ≤ q) b := Nat.not_le.mpr hbl
  refine lv_aload_n hx hb dL_law_706 rfl (lv_at hl 3 rfl) ?_
  refine lv_aload_n hx hb dL_law_707 rfl (lv_at hl 4 rfl) ?_
  refine lv_iload hx hb dL_law_708 (lv_at hl 0 rfl) ?_
  refine lv_iconst (v := 1) hx hb dL_law_710 (by decide) ?_
  refine lv_iadd hx hb dL_law_711 ?_
  refine lv_topi (fun z_1 ez_1 => ?_)
  have kz_1 : (z_1).toInt = (i).toInt + (1 : Int) := by rw [ez_1]; exact z_add (a := (i).toInt) (b := (1 : Int)) rfl rfl (by omega) (by omega)
  refine va_sld hx hb hX hbl hbA hS (z_vpin (by omega) (by omega)) dL_law_712 ?_
  refine lv_topi (fun t_2 et_2 => ?_)
  refine lv_aload_n hx hb dL_law_713 rfl (lv_at hl 4 rfl) ?_
  refine lv_iload hx hb dL_law_714 (lv_at hl 0 rfl) ?_
  refine lv_iconst (v := 2) hx hb dL_law_716 (by decide) ?_
  refine lv_iadd hx hb dL_law_717 ?_
  refine lv_topi (fun z_3 ez_3 => ?_)
  have kz_3 : (z_3).toInt = (i).toInt + (2 : Int) := by rw [ez_3]; exact z_add (a := (i).toInt) (b := (2 : Int)) rfl rfl (by omega) (by omega)
  refine va_sld hx hb hX hbl hbA hS (z_vpin (by omega) (by omega)) dL_law_718 ?_
  refine lv_topi (fun t_4 et_4 => ?_)
  refine q_719 C0 hK hST (by omega) (by omega) hI hS hl t_2 t_4 (fun r_5  H locs hw_6 hI hS => ?_)
  refine lv_pop hx hb dL_law_722 rfl ?_
  refine lv_aload_n hx hb dL_law_723 rfl (lv_at hl 2 rfl) ?_
  refine lv_aload_n hx hb dL_law_724 rfl (lv_at hl 4 rfl) ?_
  refine lv_iload hx hb dL_law_725 (lv_at hl 0 rfl) ?_
  refine lv_iconst (v := 1) hx hb dL_law_727 (by decide) ?_
  refine lv_iadd hx hb dL_law_728 ?_
  refine lv_topi (fun z_7 ez_7 => ?_)
  have kz_7 : (z_7).toInt = (i).toInt + (1 : Int) := by rw [ez_7]; exact z_add (a := (i).toInt) (b := (1 : Int)) rfl rfl (by omega) (by omega)
  refine va_sld hx hb hX hbl hbA hS (z_vpin (by omega) (by omega)) dL_law_729 ?_
  refine z_topeq (y := t_2) (by rw [et_2, ez_7, ez_1]) ?_
  refine lv_aload_n hx hb dL_law_730 rfl (lv_at hl 4 rfl) ?_
  refine lv_iload hx hb dL_law_731 (lv_at hl 0 rfl) ?_
  refine lv_iconst (v := 2) hx hb dL_law_733 (by decide) ?_
  refine lv_iadd hx hb dL_law_734 ?_
  refine lv_topi (fun z_8 ez_8 => ?_)
  have kz_8 : (z_8).toInt = (i).toInt + (2 : Int) := by rw [ez_8]; exact z_add (a := (i).toInt) (b := (2 : Int)) rfl rfl (by omega) (by omega)
  refine va_sld hx hb hX hbl hbA hS (z_vpin (by omega) (by omega)) dL_law_735 ?_
  refine z_topeq (y := t_4) (by rw [et_4, ez_8, ez_3]) ?_
  refine q_736 C0 hK hST (by omega) (by omega) hI hS hl t_2 t_4 (fun r_9  H locs hw_10 hI hS => ?_)
  refine lv_pop hx hb dL_law_739 rfl ?_
  refine lv_goto (tgt := 1326) hx hb dL_law_740 (by decide) ?_
  exact hN _ _ _ _ _ _ (by omega) (by omega) hI hS (lv_sub hl [0, 1, 2, 3, 4] rfl)
set_option maxHeartbeats 4000000 in
set_option maxRecDepth 100000 in
theorem law_c15 {p : Program} {l : Launch} {e : Env} {s : State} {m : MethodId} {below : List Frame} {meth : Method} {c : Code} {dC : Nat → ClassId} {dI : Nat → Nat → Nat} {b L : Nat} {xs : Nat → Int32} {ad : Nat → Nat} {ca : Nat → ClassId} {sd sv : Nat → Nat} {sf : Value} (C0 : lw_At p s m meth c b L xs) (hK : va_K (dC, dI) vwCl (z_T ca) s) (hST : z_ST sd sv sf (fun q : Nat => s.heap.size ≤ q) s s.heap) (hst : l.stackTraces = false) {sa : Nat} (hT0 : z_TH sa (fun q : Nat => s.heap.size ≤ q) s s.heap) (hL : L ≤ 3584) {cells slots : Nat} (hc : cells ≤ 690) (hs : slots ≤ 37000) {i : Int32} (hi : 0 ≤ i.toInt ∧ i.toInt + 7 ≤ (L : Int)) {H : Heap} {locs : List Loc} {ls : Array Slot} {g : Nat → Nat → Int32} (hI : z_In dC dI (fun q : Nat => s.heap.size ≤ q) ad ca g g H) (hS : va_S (fun q : Nat => s.heap.size ≤ q) s.heap H locs) (hl : lv_has ls 7 [(4, .int i), (3, .ref (ad 99)), (2, .ref (ad 57)), (1, .ref (ad 0)), (0, .ref b)]) (hN : (∀ (cells9 slots9 : Nat) (g : Nat → Nat → Int32) (H : Heap) (locs : List Loc) (ls : Array Slot), cells9 ≤ cells + 1 → slots9 ≤ slots + 6 → z_In dC dI (fun q : Nat => s.heap.size ≤ q) ad ca g g H → va_S (fun q : Nat => s.heap.size ≤ q) s.heap H locs → lv_has ls 7 [(4, .int i), (3, .ref (ad 99)), (2, .ref (ad 57)), (1, .ref (ad 0)), (0, .ref b)] → W p l e room_1 s m #[Value.ref b] below meth c H locs cells9 slots9 (lw_Z below #[Value.ref b] s) (F0 m 1326 ls []))) : W p l e room_1 s m #[Value.ref b] below meth c H locs cells slots (lw_Z below #[Value.ref b] s) (F0 m 743 ls []) := by
  obtain ⟨hx, hb, hr, hml, hown, hts, hX, hbl, hlocks, hgv⟩ := id C0
  have hown : s.vm.findClass RL = some m.cls := hown
  have hA : ∀ q : Nat, s.heap.size ≤ q → (fun q : Nat => s.heap.size ≤ q) q := fun _ h => h
  have hbA : ¬ (fun q : Nat => s.heap.size ≤ q) b := Nat.not_le.mpr hbl
  refine lv_aload_n hx hb dL_law_743 rfl (lv_at hl 3 rfl) ?_
  refine lv_aload_n hx hb dL_law_744 rfl (lv_at hl 4 rfl) ?_
  refine lv_iload hx hb dL_law_745 (lv_at hl 0 rfl) ?_
  refine lv_iconst (v := 1) hx hb dL_law_747 (by decide) ?_
  refine lv_iadd hx hb dL_law_748 ?_
  refine lv_topi (fun z_1 ez_1 => ?_)
  have kz_1 : (z_1).toInt = (i).toInt + (1 : Int) := by rw [ez_1]; exact z_add (a := (i).toInt) (b := (1 : Int)) rfl rfl (by omega) (by omega)
  refine va_sld hx hb hX hbl hbA hS (z_vpin (by omega) (by omega)) dL_law_749 ?_
  refine lv_topi (fun t_2 et_2 => ?_)
  refine lv_aload_n hx hb dL_law_750 rfl (lv_at hl 4 rfl) ?_
  refine lv_iload hx hb dL_law_751 (lv_at hl 0 rfl) ?_
  refine lv_iconst (v := 2) hx hb dL_law_753 (by decide) ?_
  refine lv_iadd hx hb dL_law_754 ?_
  refine lv_topi (fun z_3 ez_3 => ?_)
  have kz_3 : (z_3).toInt = (i).toInt + (2 : Int) := by rw [ez_3]; exact z_add (a := (i).toInt) (b := (2 : Int)) rfl rfl (by omega) (by omega)
  refine va_sld hx hb hX hbl hbA hS (z_vpin (by omega) (by omega)) dL_law_755 ?_
  refine lv_topi (fun t_4 et_4 => ?_)
  refine lv_aload_n hx hb dL_law_756 rfl (lv_at hl 4 rfl) ?_
  refine lv_iload hx hb dL_law_757 (lv_at hl 0 rfl) ?_
  refine lv_iconst (v := 3) hx hb dL_law_759 (by decide) ?_
  refine lv_iadd hx hb dL_law_760 ?_
  refine lv_topi (fun z_5 ez_5 => ?_)
  have kz_5 : (z_5).toInt = (i).toInt + (3 : Int) := by rw [ez_5]; exact z_add (a := (i).toInt) (b := (3 : Int)) rfl rfl (by omega) (by omega)
  refine va_sld hx hb hX hbl hbA hS (z_vpin (by omega) (by omega)) dL_law_761 ?_
  refine lv_topi (fun t_6 et_6 => ?_)
  refine q_762 C0 hK hST (by omega) (by omega) hI hS hl t_2 t_4 t_6 (fun r_7  H locs hw_8 hI hS => ?_)
  refine lv_pop hx hb dL_law_765 rfl ?_
  refine lv_aload_n hx hb dL_law_766 rfl (lv_at hl 2 rfl) ?_
  refine lv_aload_n hx hb dL_law_767 rfl (lv_at hl 4 rfl) ?_
  refine lv_iload hx hb dL_law_768 (lv_at hl 0 rfl) ?_
  refine lv_iconst (v := 1) hx hb dL_law_770 (by decide) ?_
  refine lv_iadd hx hb dL_law_771 ?_
  refine lv_topi (fun z_9 ez_9 => ?_)
  have kz_9 : (z_9).toInt = (i).toInt + (1 : Int) := by rw [ez_9]; exact z_add (a := (i).toInt) (b := (1 : Int)) rfl rfl (by omega) (by omega)
  refine va_sld hx hb hX hbl hbA hS (z_vpin (by omega) (by omega)) dL_law_772 ?_
  refine z_topeq (y := t_2) (by rw [et_2, ez_9, ez_1]) ?_
  refine lv_aload_n hx hb dL_law_773 rfl (lv_at hl 4 rfl) ?_
  refine lv_iload hx hb dL_law_774 (lv_at hl 0 rfl) ?_
  refine lv_iconst (v := 2) hx hb dL_law_776 (by decide) ?_
  refine lv_iadd hx hb dL_law_777 ?_
  refine lv_topi (fun z_10 ez_10 => ?_)
  have kz_10 : (z_10).toInt = (i).toInt + (2 : Int) := by rw [ez_10]; exact z_add (a := (i).toInt) (b := (2 : Int)) rfl rfl (by omega) (by omega)
  refine va_sld hx hb hX hbl hbA hS (z_vpin (by omega) (by omega)) dL_law_778 ?_
  refine z_topeq (y := t_4) (by rw [et_4, ez_10, ez_3]) ?_
  refine lv_aload_n hx hb dL_law_779 rfl (lv_at hl 4 rfl) ?_
  refine lv_iload hx hb dL_law_780 (lv_at hl 0 rfl) ?_
  refine lv_iconst (v := 3) hx hb dL_law_782 (by decide) ?_
  refine lv_iadd hx hb dL_law_783 ?_
  refine lv_topi (fun z_11 ez_11 => ?_)
  have kz_11 : (z_11).toInt = (i).toInt + (3 : Int) := by rw [ez_11]; exact z_add (a := (i).toInt) (b := (3 : Int)) rfl rfl (by omega) (by omega)
  refine va_sld hx hb hX hbl hbA hS (z_vpin (by omega) (by omega)) dL_law_784 ?_
  refine z_topeq (y := t_6) (by rw [et_6, ez_11, ez_5]) ?_
  refine q_785 C0 hK hST (by omega) (by omega) hI hS hl t_2 t_4 t_6 (fun r_12  H locs hw_13 hI hS => ?_)
  refine lv_pop hx hb dL_law_788 rfl ?_
  refine lv_goto (tgt := 1326) hx hb dL_law_789 (by decide) ?_
  exact hN _ _ _ _ _ _ (by omega) (by omega) hI hS (lv_sub hl [0, 1, 2, 3, 4] rfl)
