set_option maxHeartbeats 4000000 in
set_option maxRecDepth 100000 in
theorem q_317 {p : Program} {l : Launch} {e : Env} {s : State} {m : MethodId} {below : List Frame} {meth : Method} {c : Code} {dC : Nat → ClassId} {dI : Nat → Nat → Nat} {b L : Nat} {xs : Nat → Int32} {ad : Nat → Nat} {ca : Nat → ClassId} {sd sv : Nat → Nat} {sf : Value} (C0 : lw_At p s m meth c b L xs) (hK : va_K (dC, dI) vwCl (z_T ca) s) (hST : z_ST sd sv sf (fun q : Nat => s.heap.size ≤ q) s s.heap) {cells slots : Nat} (hc : cells ≤ 700) (hs : slots ≤ 38000) {H : Heap} {locs : List Loc} {ls : Array Slot} {lv : List (Nat × Value)} {gx gm : Nat → Nat → Int32} (hI : z_In dC dI (fun q : Nat => s.heap.size ≤ q) ad ca gx gm H) (hS : va_S (fun q : Nat => s.heap.size ≤ q) s.heap H locs) (hl : lv_has ls 7 lv) (p1 : Int32) (k : ∀ (r : Int32) (H1 : Heap) (locs : List Loc), True → z_In dC dI (fun q : Nat => s.heap.size ≤ q) ad ca gx gm H1 → va_S (fun q : Nat => s.heap.size ≤ q) s.heap H1 locs → W p l e room_1 s m #[Value.ref b] below meth c H1 locs (cells + 0) (slots + 0) (lw_Z below #[Value.ref b] s) (F0 m (317 + 3) ls [.int r])) : W p l e room_1 s m #[Value.ref b] below meth c H locs cells slots (lw_Z below #[Value.ref b] s) (F0 m 317 ls [.int p1, .ref (ad 57)]) := by
  obtain ⟨hx, hb, hr, hml, hown, hts, hX, hbl, hlocks, hgv⟩ := id C0
  have hown : s.vm.findClass RL = some m.cls := hown
  have hA : ∀ q : Nat, s.heap.size ≤ q → (fun q : Nat => s.heap.size ≤ q) q := fun _ h => h
  have hbA : ¬ (fun q : Nat => s.heap.size ≤ q) b := Nat.not_le.mpr hbl
  obtain ⟨dr, ru, vi, vl, fa, fl, kg, hF, hP, hD⟩ := id hI
  obtain ⟨hPc, hDc, hFc⟩ := z_sub3 (ws' := [((ad 57), .inr (12, [.ref (ad 58), .int (vi 39), .int (vi 40), .int (vi 41), .int (vi 42), .ref (ad 59), .ref (ad 60), .ref (ad 61), .ref (ad 62), .ref (ad 63), .ref (ad 64), .ref (ad 65), .ref (ad 66), .ref (ad 67), .ref (ad 68), .ref (ad 69), .int (vi 43), .int (vi 44), .int (vi 45), .int (vi 46), .ref (ad 70), .ref (ad 71), .ref (ad 72), .int (vi 47), .ref (ad 73), .ref (ad 74), .ref (ad 75), .ref (ad 76), .int (vi 48), .int (vi 49), .int (vi 50), .int (vi 51), .int (vi 52), .int (vi 53), .int (vi 54), .ref (ad 77), .ref (ad 78), .ref (ad 79), .ref (ad 80), .long (vl 2), .int (vi 55), .ref (ad 81), .ref (ad 82), .ref (ad 83), .int (vi 56), .int (vi 57), .int (vi 58), .int (vi 59), .ref (ad 84), .ref (ad 85), .ref (ad 86), .ref (ad 87), .ref (ad 88), .ref (ad 89), .ref (ad 90), .ref (ad 91), .ref (ad 92), .ref (ad 93), .int (vi 60), .ref (ad 94), .ref (ad 95), .int (vi 61), .ref (ad 96), .int (vi 62), .ref (ad 97), .int (vi 63), .int (vi 64), .int (vi 65), .int (vi 66), .ref (ad 98)]))]) hP hD hS hA [57] (by decide) rfl
  have hKc := hK.sub (tys' := []) [] rfl
  refine va_calli (va_runV (As := [.int p1]) (rest := []) ⟨hx, hb, hml, hown, hts⟩ (s_X12_fault l dC dI H.size (ad 57) p1 (.ref (ad 58)) (.int (vi 39)) (vi 40) (.int (vi 41)) (.int (vi 42)) (.ref (ad 59)) (.ref (ad 60)) (.ref (ad 61)) (.ref (ad 62)) (.ref (ad 63)) (.ref (ad 64)) (.ref (ad 65)) (.ref (ad 66)) (.ref (ad 67)) (.ref (ad 68)) (.ref (ad 69)) (.int (vi 43)) (.int (vi 44)) (.int (vi 45)) (.int (vi 46)) (.ref (ad 70)) (.ref (ad 71)) (.ref (ad 72)) (.int (vi 47)) (.ref (ad 73)) (.ref (ad 74)) (.ref (ad 75)) (.ref (ad 76)) (vi 48) (vi 49) (.int (vi 50)) (.int (vi 51)) (.int (vi 52)) (.int (vi 53)) (.int (vi 54)) (.ref (ad 77)) (.ref (ad 78)) (.ref (ad 79)) (.ref (ad 80)) (.long (vl 2)) (.int (vi 55)) (.ref (ad 81)) (.ref (ad 82)) (.ref (ad 83)) (.int (vi 56)) (.int (vi 57)) (.int (vi 58)) (.int (vi 59)) (.ref (ad 84)) (.ref (ad 85)) (.ref (ad 86)) (.ref (ad 87)) (.ref (ad 88)) (.ref (ad 89)) (.ref (ad 90)) (.ref (ad 91)) (.ref (ad 92)) (.ref (ad 93)) (.int (vi 60)) (.ref (ad 94)) (.ref (ad 95)) (.int (vi 61)) (.ref (ad 96)) (.int (vi 62)) (.ref (ad 97)) (.int (vi 63)) (.int (vi 64)) (.int (vi 65)) (.int (vi 66)) (.ref (ad 98))) (cwV 1 hts gw_law_s_X12_fault_36 rfl rfl rfl (by decide +kernel) ⟨Nat.le_of_ble_eq_true rfl, Nat.le_of_ble_eq_true rfl⟩) ⟨z_blind, va_recv hKc hPc (ci := 12) (q0 := 0) rfl rfl, z_pre hPc hKc hDc⟩ rfl rfl hl.1 rfl (lv_room (Nat.le_of_ble_eq_true rfl)) dL_law_317 ⟨(show cells + 0 ≤ 1125 by omega), (show slots + 0 ≤ 39162 by omega)⟩) hS (fun q _ h => hFc q h) hFc (fun r u t H1 locs ht hvm hw hB hz1 hk1 hS => ?_)
  obtain ⟨n_h0_thrown_1, hP1, hK1, hD1⟩ := hB
  rw [ht] at hP1
  have hq : z_PD (dC, dI) vwCl (fun q : Nat => s.heap.size ≤ q) (z_W ad ca dr ru (upd vi 40 n_h0_thrown_1) vl fa fl) H1 := z_put3 (wc := [((ad 57), .inr (12, [.ref (ad 58), .int (vi 39), .int (vi 40), .int (vi 41), .int (vi 42), .ref (ad 59), .ref (ad 60), .ref (ad 61), .ref (ad 62), .ref (ad 63), .ref (ad 64), .ref (ad 65), .ref (ad 66), .ref (ad 67), .ref (ad 68), .ref (ad 69), .int (vi 43), .int (vi 44), .int (vi 45), .int (vi 46), .ref (ad 70), .ref (ad 71), .ref (ad 72), .int (vi 47), .ref (ad 73), .ref (ad 74), .ref (ad 75), .ref (ad 76), .int (vi 48), .int (vi 49), .int (vi 50), .int (vi 51), .int (vi 52), .int (vi 53), .int (vi 54), .ref (ad 77), .ref (ad 78), .ref (ad 79), .ref (ad 80), .long (vl 2), .int (vi 55), .ref (ad 81), .ref (ad 82), .ref (ad 83), .int (vi 56), .int (vi 57), .int (vi 58), .int (vi 59), .ref (ad 84), .ref (ad 85), .ref (ad 86), .ref (ad 87), .ref (ad 88), .ref (ad 89), .ref (ad 90), .ref (ad 91), .ref (ad 92), .ref (ad 93), .int (vi 60), .ref (ad 94), .ref (ad 95), .int (vi 61), .ref (ad 96), .int (vi 62), .ref (ad 97), .int (vi 63), .int (vi 64), .int (vi 65), .int (vi 66), .ref (ad 98)]))]) (n := 1) hP hD [57] rfl hk1 hP1 rfl [none, none, none, none, none, none, none, none, none, none, none, none, none, none, none, none, none, none, none, none, none, none, none, none, none, none, none, none, none, none, none, none, none, none, none, none, none, none, none, none, none, none, none, none, none, none, none, none, none, none, none, none, none, none, none, none, none, some 0, none, none, none, none, none, none, none, none, none, none, none, none, none, none, none, none, none, none, none, none, none, none, none, none, none, none, none, none, none, none, none, none, none, none, none, none, none, none, none, none, none, none] rfl (by decide +kernel) rfl
  have hI : z_In dC dI (fun q : Nat => s.heap.size ≤ q) ad ca gx gm H1 := ⟨dr, ru, (upd vi 40 n_h0_thrown_1), vl, fa, fl, kg, ⟨⟨(@z_q_hv_0 _ _ _ vi fa _ gx gm hF), (@z_q_hv_1 _ _ _ vi fa _ gx gm hF), (@z_q_hv_3 _ _ _ vi fa _ gx gm hF), (@z_q_hv_4 _ _ _ vi fa _ gx gm hF), (@z_q_hv_5 _ _ _ vi fa _ gx gm hF), (@z_q_hv_10 _ _ _ vi fa _ gx gm hF), (@z_q_hv_11 _ _ _ vi fa _ gx gm hF), (@z_q_hv_12 _ _ _ vi fa _ gx gm hF), (@z_q_hv_13 _ _ _ vi fa _ gx gm hF), (@z_q_hv_14 _ _ _ vi fa _ gx gm hF)⟩, ⟨(@z_q_hv_15 _ _ _ vi fa _ gx gm hF), (@z_q_hv_16 _ _ _ vi fa _ gx gm hF), (@z_q_hv_17 _ _ _ vi fa _ gx gm hF), (@z_q_hv_21 _ _ _ vi fa _ gx gm hF), (@z_q_hv_23 _ _ _ vi fa _ gx gm hF), (@z_q_hv_28 _ _ _ vi fa _ gx gm hF), (@z_q_hv_29 _ _ _ vi fa _ gx gm hF), (@z_q_hv_30 _ _ _ vi fa _ gx gm hF), (@z_q_hv_31 _ _ _ vi fa _ gx gm hF), (@z_q_hv_32 _ _ _ vi fa _ gx gm hF)⟩, ⟨(@z_q_hv_33 _ _ _ vi fa _ gx gm hF), (@z_q_hv_34 _ _ _ vi fa _ gx gm hF), (@z_q_hv_35 _ _ _ vi fa _ gx gm hF), (@z_q_hv_36 _ _ _ vi fa _ gx gm hF), (@z_q_hv_37 _ _ _ vi fa _ gx gm hF), (@z_q_hv_38 _ _ _ vi fa _ gx gm hF), (@z_q_hv_39 _ _ _ vi fa _ gx gm hF), (@z_q_hv_41 _ _ _ vi fa _ gx gm hF), (@z_q_hv_42 _ _ _ vi fa _ gx gm hF), (@z_q_hv_43 _ _ _ vi fa _ gx gm hF)⟩, ⟨(@z_q_hv_44 _ _ _ vi fa _ gx gm hF), (@z_q_hv_45 _ _ _ vi fa _ gx gm hF), (@z_q_hv_46 _ _ _ vi fa _ gx gm hF), (@z_q_hv_47 _ _ _ vi fa _ gx gm hF), (@z_q_hv_50 _ _ _ vi fa _ gx gm hF), (@z_q_hv_51 _ _ _ vi fa _ gx gm hF), (@z_q_hv_52 _ _ _ vi fa _ gx gm hF), (@z_q_hv_54 _ _ _ vi fa _ gx gm hF), (@z_q_hv_55 _ _ _ vi fa _ gx gm hF), (@z_q_hv_56 _ _ _ vi fa _ gx gm hF)⟩, ⟨(@z_q_hv_57 _ _ _ vi fa _ gx gm hF), (@z_q_hv_58 _ _ _ vi fa _ gx gm hF), (@z_q_hv_59 _ _ _ vi fa _ gx gm hF), (@z_q_hv_60 _ _ _ vi fa _ gx gm hF), (@z_q_hv_61 _ _ _ vi fa _ gx gm hF), (@z_q_hv_62 _ _ _ vi fa _ gx gm hF), (@z_q_hv_63 _ _ _ vi fa _ gx gm hF), (@z_q_hv_64 _ _ _ vi fa _ gx gm hF), (@z_q_hv_65 _ _ _ vi fa _ gx gm hF), (@z_q_hv_66 _ _ _ vi fa _ gx gm hF)⟩, ⟨(@z_q_hf_0 _ _ _ vi fa _ gx gm hF), (@z_q_hf_2 _ _ _ vi fa _ gx gm hF), (@z_q_hf_8 _ _ _ vi fa _ gx gm hF), (@z_q_hf_27 _ _ _ vi fa _ gx gm hF), (@z_q_hf_34 _ _ _ vi fa _ gx gm hF), (@z_q_hf_37 _ _ _ vi fa _ gx gm hF), (@z_q_hf_39 _ _ _ vi fa _ gx gm hF), (@z_q_hf_40 _ _ _ vi fa _ gx gm hF), (@z_q_hf_41 _ _ _ vi fa _ gx gm hF), (@z_q_hf_46 _ _ _ vi fa _ gx gm hF)⟩, ⟨(@z_q_hf_56 _ _ _ vi fa _ gx gm hF), (@z_q_hf_62 _ _ _ vi fa _ gx gm hF), (@z_q_hf_66 _ _ _ vi fa _ gx gm hF), (@z_q_hf_78 _ _ _ vi fa _ gx gm hF), (@z_q_hRx _ _ _ vi fa _ gx gm hF), (@z_q_hRm _ _ _ vi fa _ gx gm hF), (@z_q_hLow _ _ _ vi fa _ gx gm hF), (@z_q_hkg _ _ _ vi fa _ gx gm hF), (@z_q_hWD _ _ _ vi fa _ gx gm hF), (@z_q_hdr _ _ _ vi fa _ gx gm hF)⟩, ⟨(@z_q_hWX _ _ _ vi fa _ gx gm hF), (@z_q_hgx_0 _ _ _ vi fa _ gx gm hF), (@z_q_hgm_0 _ _ _ vi fa _ gx gm hF), (@z_q_hgx_1 _ _ _ vi fa _ gx gm hF), (@z_q_hgm_1 _ _ _ vi fa _ gx gm hF), (@z_q_hgx_2 _ _ _ vi fa _ gx gm hF), (@z_q_hgm_2 _ _ _ vi fa _ gx gm hF), (@z_q_hgx_3 _ _ _ vi fa _ gx gm hF), (@z_q_hgm_3 _ _ _ vi fa _ gx gm hF), (@z_q_hgx_4 _ _ _ vi fa _ gx gm hF)⟩, ⟨(@z_q_hgm_4 _ _ _ vi fa _ gx gm hF), (@z_q_hgx_5 _ _ _ vi fa _ gx gm hF), (@z_q_hgx_6 _ _ _ vi fa _ gx gm hF), (@z_q_hgx_7 _ _ _ vi fa _ gx gm hF), (@z_q_hgx_8 _ _ _ vi fa _ gx gm hF), (@z_q_hCAx _ _ _ vi fa _ gx gm hF), (@z_q_hGFx _ _ _ vi fa _ gx gm hF), (@z_q_hGFm _ _ _ vi fa _ gx gm hF), (@z_q_hNRm _ _ _ vi fa _ gx gm hF)⟩⟩, hq.1, hq.2⟩
  exact k r H1 locs trivial hI hS
set_option maxHeartbeats 4000000 in
set_option maxRecDepth 100000 in
theorem q_325 {p : Program} {l : Launch} {e : Env} {s : State} {m : MethodId} {below : List Frame} {meth : Method} {c : Code} {dC : Nat → ClassId} {dI : Nat → Nat → Nat} {b L : Nat} {xs : Nat → Int32} {ad : Nat → Nat} {ca : Nat → ClassId} {sd sv : Nat → Nat} {sf : Value} (C0 : lw_At p s m meth c b L xs) (hK : va_K (dC, dI) vwCl (z_T ca) s) (hST : z_ST sd sv sf (fun q : Nat => s.heap.size ≤ q) s s.heap) {cells slots : Nat} (hc : cells ≤ 700) (hs : slots ≤ 38000) {H : Heap} {locs : List Loc} {ls : Array Slot} {lv : List (Nat × Value)} {gx gm : Nat → Nat → Int32} (hI : z_In dC dI (fun q : Nat => s.heap.size ≤ q) ad ca gx gm H) (hS : va_S (fun q : Nat => s.heap.size ≤ q) s.heap H locs) (hl : lv_has ls 7 lv) (k : ∀ (r : Int32) (H1 : Heap) (locs : List Loc), r = v_layA (gx 1 0) → z_In dC dI (fun q : Nat => s.heap.size ≤ q) ad ca (z_upF gx 1 (fun _ => v_layN (gx 1 0))) gm H1 → va_S (fun q : Nat => s.heap.size ≤ q) s.heap H1 locs → W p l e room_1 s m #[Value.ref b] below meth c H1 locs (cells + 0) (slots + 0) (lw_Z below #[Value.ref b] s) (F0 m (325 + 3) ls [.int r])) : W p l e room_1 s m #[Value.ref b] below meth c H locs cells slots (lw_Z below #[Value.ref b] s) (F0 m 325 ls [.ref (ad 0)]) := by
  obtain ⟨hx, hb, hr, hml, hown, hts, hX, hbl, hlocks, hgv⟩ := id C0
  have hown : s.vm.findClass RL = some m.cls := hown
  have hA : ∀ q : Nat, s.heap.size ≤ q → (fun q : Nat => s.heap.size ≤ q) q := fun _ h => h
  have hbA : ¬ (fun q : Nat => s.heap.size ≤ q) b := Nat.not_le.mpr hbl
  obtain ⟨dr, ru, vi, vl, fa, fl, kg, hF, hP, hD⟩ := id hI
  have hv_0 := z_q_hv_0 hF
  have hv_1 := z_q_hv_1 hF
  have hv_3 := z_q_hv_3 hF
  have hv_4 := z_q_hv_4 hF
  have hv_5 := z_q_hv_5 hF
  have hv_10 := z_q_hv_10 hF
  have hv_11 := z_q_hv_11 hF
  have hv_12 := z_q_hv_12 hF
  have hv_13 := z_q_hv_13 hF
  have hv_14 := z_q_hv_14 hF
  have hv_15 := z_q_hv_15 hF
  have hv_16 := z_q_hv_16 hF
  have hv_17 := z_q_hv_17 hF
  have hv_21 := z_q_hv_21 hF
  have hv_23 := z_q_hv_23 hF
  have hv_28 := z_q_hv_28 hF
  have hv_29 := z_q_hv_29 hF
  have hv_30 := z_q_hv_30 hF
  have hv_31 := z_q_hv_31 hF
  have hv_32 := z_q_hv_32 hF
  have hv_33 := z_q_hv_33 hF
  have hv_34 := z_q_hv_34 hF
  have hv_35 := z_q_hv_35 hF
  have hv_36 := z_q_hv_36 hF
  have hv_37 := z_q_hv_37 hF
  have hv_38 := z_q_hv_38 hF
  have hv_39 := z_q_hv_39 hF
  have hv_41 := z_q_hv_41 hF
  have hv_42 := z_q_hv_42 hF
  have hv_43 := z_q_hv_43 hF
  have hv_44 := z_q_hv_44 hF
  have hv_45 := z_q_hv_45 hF
  have hv_46 := z_q_hv_46 hF
  have hv_47 := z_q_hv_47 hF
  have hv_50 := z_q_hv_50 hF
  have hv_51 := z_q_hv_51 hF
  have hv_52 := z_q_hv_52 hF
  have hv_54 := z_q_hv_54 hF
  have hv_55 := z_q_hv_55 hF
  have hv_56 := z_q_hv_56 hF
  have hv_57 := z_q_hv_57 hF
  have hv_58 := z_q_hv_58 hF
  have hv_59 := z_q_hv_59 hF
  have hv_60 := z_q_hv_60 hF
  have hv_61 := z_q_hv_61 hF
  have hv_62 := z_q_hv_62 hF
  have hv_63 := z_q_hv_63 hF
  have hv_64 := z_q_hv_64 hF
  have hv_65 := z_q_hv_65 hF
  have hv_66 := z_q_hv_66 hF
  have hgx_1 := z_q_hgx_1 hF
  have hGFx := z_q_hGFx hF
  obtain ⟨hPc, hDc, hFc⟩ := z_sub3 (ws' := [((ad 0), .inr (11, [.ref (ad 1), .ref (ad 3), .ref (ad 8), .ref (ad 15), .ref (ad 21), .ref (ad 29), .ref (ad 36), .ref (ad 40), .ref (ad 41), .ref (ad 53)])), ((ad 3), .inr (0, [.ref (ad 4), .ref (ad 5), .ref (ad 6), .ref (ad 7), .int (vi 10), .int (vi 11)]))]) hP hD hS hA [0, 3] (by decide) rfl
  have hKc := hK.sub (tys' := []) [] rfl
  refine va_calli (va_runV (As := []) (rest := []) ⟨hx, hb, hml, hown, hts⟩ (s_X11_layerA l dC dI H.size (ad 0) (.ref (ad 1)) (ad 3) (.ref (ad 8)) (.ref (ad 15)) (.ref (ad 21)) (.ref (ad 29)) (.ref (ad 36)) (.ref (ad 40)) (.ref (ad 41)) (.ref (ad 53)) (.ref (ad 4)) (.ref (ad 5)) (.ref (ad 6)) (.ref (ad 7)) (.int (vi 10)) (vi 11) hv_11) (cwV 0 hts gw_law_s_X11_layerA_37 rfl rfl rfl (by decide +kernel) ⟨Nat.le_of_ble_eq_true rfl, Nat.le_of_ble_eq_true rfl⟩) ⟨z_blind, va_recv hKc hPc (ci := 11) (q0 := 0) rfl rfl, z_pre hPc hKc hDc⟩ rfl rfl hl.1 rfl (lv_room (Nat.le_of_ble_eq_true rfl)) dL_law_325 ⟨(show cells + 0 ≤ 1125 by omega), (show slots + 0 ≤ 39162 by omega)⟩) hS (fun q _ h => hFc q h) hFc (fun r u t H1 locs ht hvm hw hB hz1 hk1 hS => ?_)
  obtain ⟨n_h1_layers_1, hp_2, hp_3, hP1, hK1, hD1⟩ := hB
  rw [ht] at hP1
  have hq : z_PD (dC, dI) vwCl (fun q : Nat => s.heap.size ≤ q) (z_W ad ca dr ru (upd vi 11 n_h1_layers_1) vl fa fl) H1 := z_put3 (wc := [((ad 0), .inr (11, [.ref (ad 1), .ref (ad 3), .ref (ad 8), .ref (ad 15), .ref (ad 21), .ref (ad 29), .ref (ad 36), .ref (ad 40), .ref (ad 41), .ref (ad 53)])), ((ad 3), .inr (0, [.ref (ad 4), .ref (ad 5), .ref (ad 6), .ref (ad 7), .int (vi 10), .int (vi 11)]))]) (n := 2) hP hD [0, 3] rfl hk1 hP1 rfl [some 0, none, none, some 1, none, none, none, none, none, none, none, none, none, none, none, none, none, none, none, none, none, none, none, none, none, none, none, none, none, none, none, none, none, none, none, none, none, none, none, none, none, none, none, none, none, none, none, none, none, none, none, none, none, none, none, none, none, none, none, none, none, none, none, none, none, none, none, none, none, none, none, none, none, none, none, none, none, none, none, none, none, none, none, none, none, none, none, none, none, none, none, none, none, none, none, none, none, none, none, none] rfl (by decide +kernel) rfl
  have hI : z_In dC dI (fun q : Nat => s.heap.size ≤ q) ad ca (z_upF gx 1 (fun _ => v_layN (gx 1 0))) gm H1 := ⟨dr, ru, (upd vi 11 n_h1_layers_1), vl, fa, fl, kg, ⟨⟨(@z_q_hv_0 _ _ _ vi fa _ gx gm hF), (@z_q_hv_1 _ _ _ vi fa _ gx gm hF), (@z_q_hv_3 _ _ _ vi fa _ gx gm hF), (@z_q_hv_4 _ _ _ vi fa _ gx gm hF), (@z_q_hv_5 _ _ _ vi fa _ gx gm hF), (@z_q_hv_10 _ _ _ vi fa _ gx gm hF), hp_2, (@z_q_hv_12 _ _ _ vi fa _ gx gm hF), (@z_q_hv_13 _ _ _ vi fa _ gx gm hF), (@z_q_hv_14 _ _ _ vi fa _ gx gm hF)⟩, ⟨(@z_q_hv_15 _ _ _ vi fa _ gx gm hF), (@z_q_hv_16 _ _ _ vi fa _ gx gm hF), (@z_q_hv_17 _ _ _ vi fa _ gx gm hF), (@z_q_hv_21 _ _ _ vi fa _ gx gm hF), (@z_q_hv_23 _ _ _ vi fa _ gx gm hF), (@z_q_hv_28 _ _ _ vi fa _ gx gm hF), (@z_q_hv_29 _ _ _ vi fa _ gx gm hF), (@z_q_hv_30 _ _ _ vi fa _ gx gm hF), (@z_q_hv_31 _ _ _ vi fa _ gx gm hF), (@z_q_hv_32 _ _ _ vi fa _ gx gm hF)⟩, ⟨(@z_q_hv_33 _ _ _ vi fa _ gx gm hF), (@z_q_hv_34 _ _ _ vi fa _ gx gm hF), (@z_q_hv_35 _ _ _ vi fa _ gx gm hF), (@z_q_hv_36 _ _ _ vi fa _ gx gm hF), (@z_q_hv_37 _ _ _ vi fa _ gx gm hF), (@z_q_hv_38 _ _ _ vi fa _ gx gm hF), (@z_q_hv_39 _ _ _ vi fa _ gx gm hF), (@z_q_hv_41 _ _ _ vi fa _ gx gm hF), (@z_q_hv_42 _ _ _ vi fa _ gx gm hF), (@z_q_hv_43 _ _ _ vi fa _ gx gm hF)⟩, ⟨(@z_q_hv_44 _ _ _ vi fa _ gx gm hF), (@z_q_hv_45 _ _ _ vi fa _ gx gm hF), (@z_q_hv_46 _ _ _ vi fa _ gx gm hF), (@z_q_hv_47 _ _ _ vi fa _ gx gm hF), (@z_q_hv_50 _ _ _ vi fa _ gx gm hF), (@z_q_hv_51 _ _ _ vi fa _ gx gm hF), (@z_q_hv_52 _ _ _ vi fa _ gx gm hF), (@z_q_hv_54 _ _ _ vi fa _ gx gm hF), (@z_q_hv_55 _ _ _ vi fa _ gx gm hF), (@z_q_hv_56 _ _ _ vi fa _ gx gm hF)⟩, ⟨(@z_q_hv_57 _ _ _ vi fa _ gx gm hF), (@z_q_hv_58 _ _ _ vi fa _ gx gm hF), (@z_q_hv_59 _ _ _ vi fa _ gx gm hF), (@z_q_hv_60 _ _ _ vi fa _ gx gm hF), (@z_q_hv_61 _ _ _ vi fa _ gx gm hF), (@z_q_hv_62 _ _ _ vi fa _ gx gm hF), (@z_q_hv_63 _ _ _ vi fa _ gx gm hF), (@z_q_hv_64 _ _ _ vi fa _ gx gm hF), (@z_q_hv_65 _ _ _ vi fa _ gx gm hF), (@z_q_hv_66 _ _ _ vi fa _ gx gm hF)⟩, ⟨(@z_q_hf_0 _ _ _ vi fa _ gx gm hF), (@z_q_hf_2 _ _ _ vi fa _ gx gm hF), (@z_q_hf_8 _ _ _ vi fa _ gx gm hF), (@z_q_hf_27 _ _ _ vi fa _ gx gm hF), (@z_q_hf_34 _ _ _ vi fa _ gx gm hF), (@z_q_hf_37 _ _ _ vi fa _ gx gm hF), (@z_q_hf_39 _ _ _ vi fa _ gx gm hF), (@z_q_hf_40 _ _ _ vi fa _ gx gm hF), (@z_q_hf_41 _ _ _ vi fa _ gx gm hF), (@z_q_hf_46 _ _ _ vi fa _ gx gm hF)⟩, ⟨(@z_q_hf_56 _ _ _ vi fa _ gx gm hF), (@z_q_hf_62 _ _ _ vi fa _ gx gm hF), (@z_q_hf_66 _ _ _ vi fa _ gx gm hF), (@z_q_hf_78 _ _ _ vi fa _ gx gm hF), (@z_q_hRx _ _ _ vi fa _ gx gm hF), (@z_q_hRm _ _ _ vi fa _ gx gm hF), (@z_q_hLow _ _ _ vi fa _ gx gm hF), (@z_q_hkg _ _ _ vi fa _ gx gm hF), (@z_q_hWD _ _ _ vi fa _ gx gm hF), (@z_q_hdr _ _ _ vi fa _ gx gm hF)⟩, ⟨(@z_q_hWX _ _ _ vi fa _ gx gm hF), (@z_q_hgx_0 _ _ _ vi fa _ gx gm hF), (@z_q_hgm_0 _ _ _ vi fa _ gx gm hF), (show n_h1_layers_1 = v_layN (gx 1 0) from hp_3.trans (by rw [hgx_1])), (@z_q_hgm_1 _ _ _ vi fa _ gx gm hF), (@z_q_hgx_2 _ _ _ vi fa _ gx gm hF), (@z_q_hgm_2 _ _ _ vi fa _ gx gm hF), (@z_q_hgx_3 _ _ _ vi fa _ gx gm hF), (@z_q_hgm_3 _ _ _ vi fa _ gx gm hF), (@z_q_hgx_4 _ _ _ vi fa _ gx gm hF)⟩, ⟨(@z_q_hgm_4 _ _ _ vi fa _ gx gm hF), (@z_q_hgx_5 _ _ _ vi fa _ gx gm hF), (@z_q_hgx_6 _ _ _ vi fa _ gx gm hF), (@z_q_hgx_7 _ _ _ vi fa _ gx gm hF), (@z_q_hgx_8 _ _ _ vi fa _ gx gm hF), (@z_q_hCAx _ _ _ vi fa _ gx gm hF), (show k_GF (gx 5) (gx 6) (gx 7) (gx 0 0).toInt (v_layN (gx 1 0)).toInt from k_GF_la hGFx (by rw [← hgx_1]; omega)), (@z_q_hGFm _ _ _ vi fa _ gx gm hF), (@z_q_hNRm _ _ _ vi fa _ gx gm hF)⟩⟩, hq.1, hq.2⟩
  exact k r H1 locs (hw.trans (by rw [hgx_1])) hI hS
set_option maxHeartbeats 4000000 in
set_option maxRecDepth 100000 in
theorem q_330 {p : Program} {l : Launch} {e : Env} {s : State} {m : MethodId} {below : List Frame} {meth : Method} {c : Code} {dC : Nat → ClassId} {dI : Nat → Nat → Nat} {b L : Nat} {xs : Nat → Int32} {ad : Nat → Nat} {ca : Nat → ClassId} {sd sv : Nat → Nat} {sf : Value} (C0 : lw_At p s m meth c b L xs) (hK : va_K (dC, dI) vwCl (z_T ca) s) (hST : z_ST sd sv sf (fun q : Nat => s.heap.size ≤ q) s s.heap) {cells slots : Nat} (hc : cells ≤ 700) (hs : slots ≤ 38000) {H : Heap} {locs : List Loc} {ls : Array Slot} {lv : List (Nat × Value)} {gx gm : Nat → Nat → Int32} (hI : z_In dC dI (fun q : Nat => s.heap.size ≤ q) ad ca gx gm H) (hS : va_S (fun q : Nat => s.heap.size ≤ q) s.heap H locs) (hl : lv_has ls 7 lv) (k : ∀ (r : Int32) (H1 : Heap) (locs : List Loc), r = v_layA (gm 1 0) → z_In dC dI (fun q : Nat => s.heap.size ≤ q) ad ca gx (z_upF gm 1 (fun _ => v_layN (gm 1 0))) H1 → va_S (fun q : Nat => s.heap.size ≤ q) s.heap H1 locs → W p l e room_1 s m #[Value.ref b] below meth c H1 locs (cells + 0) (slots + 0) (lw_Z below #[Value.ref b] s) (F0 m (330 + 3) ls [.int r])) : W p l e room_1 s m #[Value.ref b] below meth c H locs cells slots (lw_Z below #[Value.ref b] s) (F0 m 330 ls [.ref (ad 57)]) := by
  obtain ⟨hx, hb, hr, hml, hown, hts, hX, hbl, hlocks, hgv⟩ := id C0
  have hown : s.vm.findClass RL = some m.cls := hown
  have hA : ∀ q : Nat, s.heap.size ≤ q → (fun q : Nat => s.heap.size ≤ q) q := fun _ h => h
  have hbA : ¬ (fun q : Nat => s.heap.size ≤ q) b := Nat.not_le.mpr hbl
  obtain ⟨dr, ru, vi, vl, fa, fl, kg, hF, hP, hD⟩ := id hI
  have hv_0 := z_q_hv_0 hF
  have hv_1 := z_q_hv_1 hF
  have hv_3 := z_q_hv_3 hF
  have hv_4 := z_q_hv_4 hF
  have hv_5 := z_q_hv_5 hF
  have hv_10 := z_q_hv_10 hF
  have hv_11 := z_q_hv_11 hF
  have hv_12 := z_q_hv_12 hF
  have hv_13 := z_q_hv_13 hF
  have hv_14 := z_q_hv_14 hF
  have hv_15 := z_q_hv_15 hF
  have hv_16 := z_q_hv_16 hF
  have hv_17 := z_q_hv_17 hF
  have hv_21 := z_q_hv_21 hF
  have hv_23 := z_q_hv_23 hF
  have hv_28 := z_q_hv_28 hF
  have hv_29 := z_q_hv_29 hF
  have hv_30 := z_q_hv_30 hF
  have hv_31 := z_q_hv_31 hF
  have hv_32 := z_q_hv_32 hF
  have hv_33 := z_q_hv_33 hF
  have hv_34 := z_q_hv_34 hF
  have hv_35 := z_q_hv_35 hF
  have hv_36 := z_q_hv_36 hF
  have hv_37 := z_q_hv_37 hF
  have hv_38 := z_q_hv_38 hF
  have hv_39 := z_q_hv_39 hF
  have hv_41 := z_q_hv_41 hF
  have hv_42 := z_q_hv_42 hF
  have hv_43 := z_q_hv_43 hF
  have hv_44 := z_q_hv_44 hF
  have hv_45 := z_q_hv_45 hF
  have hv_46 := z_q_hv_46 hF
  have hv_47 := z_q_hv_47 hF
  have hv_50 := z_q_hv_50 hF
  have hv_51 := z_q_hv_51 hF
  have hv_52 := z_q_hv_52 hF
  have hv_54 := z_q_hv_54 hF
  have hv_55 := z_q_hv_55 hF
  have hv_56 := z_q_hv_56 hF
  have hv_57 := z_q_hv_57 hF
  have hv_58 := z_q_hv_58 hF
  have hv_59 := z_q_hv_59 hF
  have hv_60 := z_q_hv_60 hF
  have hv_61 := z_q_hv_61 hF
  have hv_62 := z_q_hv_62 hF
  have hv_63 := z_q_hv_63 hF
  have hv_64 := z_q_hv_64 hF
  have hv_65 := z_q_hv_65 hF
  have hv_66 := z_q_hv_66 hF
  have hgm_1 := z_q_hgm_1 hF
  have hGFm := z_q_hGFm hF
  obtain ⟨hPc, hDc, hFc⟩ := z_sub3 (ws' := [((ad 57), .inr (12, [.ref (ad 58), .int (vi 39), .int (vi 40), .int (vi 41), .int (vi 42), .ref (ad 59), .ref (ad 60), .ref (ad 61), .ref (ad 62), .ref (ad 63), .ref (ad 64), .ref (ad 65), .ref (ad 66), .ref (ad 67), .ref (ad 68), .ref (ad 69), .int (vi 43), .int (vi 44), .int (vi 45), .int (vi 46), .ref (ad 70), .ref (ad 71), .ref (ad 72), .int (vi 47), .ref (ad 73), .ref (ad 74), .ref (ad 75), .ref (ad 76), .int (vi 48), .int (vi 49), .int (vi 50), .int (vi 51), .int (vi 52), .int (vi 53), .int (vi 54), .ref (ad 77), .ref (ad 78), .ref (ad 79), .ref (ad 80), .long (vl 2), .int (vi 55), .ref (ad 81), .ref (ad 82), .ref (ad 83), .int (vi 56), .int (vi 57), .int (vi 58), .int (vi 59), .ref (ad 84), .ref (ad 85), .ref (ad 86), .ref (ad 87), .ref (ad 88), .ref (ad 89), .ref (ad 90), .ref (ad 91), .ref (ad 92), .ref (ad 93), .int (vi 60), .ref (ad 94), .ref (ad 95), .int (vi 61), .ref (ad 96), .int (vi 62), .ref (ad 97), .int (vi 63), .int (vi 64), .int (vi 65), .int (vi 66), .ref (ad 98)]))]) hP hD hS hA [57] (by decide) rfl
  have hKc := hK.sub (tys' := []) [] rfl
  refine va_calli (va_runV (As := []) (rest := []) ⟨hx, hb, hml, hown, hts⟩ (s_X12_layerA l dC dI H.size (ad 57) (.ref (ad 58)) (.int (vi 39)) (vi 40) (vi 41) (.int (vi 42)) (.ref (ad 59)) (.ref (ad 60)) (.ref (ad 61)) (.ref (ad 62)) (.ref (ad 63)) (.ref (ad 64)) (.ref (ad 65)) (.ref (ad 66)) (.ref (ad 67)) (.ref (ad 68)) (.ref (ad 69)) (.int (vi 43)) (.int (vi 44)) (.int (vi 45)) (.int (vi 46)) (.ref (ad 70)) (.ref (ad 71)) (.ref (ad 72)) (.int (vi 47)) (.ref (ad 73)) (.ref (ad 74)) (.ref (ad 75)) (.ref (ad 76)) (.int (vi 48)) (.int (vi 49)) (.int (vi 50)) (.int (vi 51)) (.int (vi 52)) (.int (vi 53)) (.int (vi 54)) (.ref (ad 77)) (.ref (ad 78)) (.ref (ad 79)) (.ref (ad 80)) (.long (vl 2)) (.int (vi 55)) (.ref (ad 81)) (.ref (ad 82)) (.ref (ad 83)) (.int (vi 56)) (.int (vi 57)) (.int (vi 58)) (.int (vi 59)) (.ref (ad 84)) (.ref (ad 85)) (.ref (ad 86)) (.ref (ad 87)) (.ref (ad 88)) (.ref (ad 89)) (.ref (ad 90)) (.ref (ad 91)) (.ref (ad 92)) (.ref (ad 93)) (.int (vi 60)) (.ref (ad 94)) (.ref (ad 95)) (.int (vi 61)) (.ref (ad 96)) (.int (vi 62)) (.ref (ad 97)) (.int (vi 63)) (.int (vi 64)) (.int (vi 65)) (.int (vi 66)) (.ref (ad 98)) hv_41) (cwV 0 hts gw_law_s_X12_layerA_41 rfl rfl rfl (by decide +kernel) ⟨Nat.le_of_ble_eq_true rfl, Nat.le_of_ble_eq_true rfl⟩) ⟨z_blind, va_recv hKc hPc (ci := 12) (q0 := 0) rfl rfl, z_pre hPc hKc hDc⟩ rfl rfl hl.1 rfl (lv_room (Nat.le_of_ble_eq_true rfl)) dL_law_330 ⟨(show cells + 0 ≤ 1125 by omega), (show slots + 0 ≤ 39162 by omega)⟩) hS (fun q _ h => hFc q h) hFc (fun r u t H1 locs ht hvm hw hB hz1 hk1 hS => ?_)
  obtain ⟨n_h0_thrown_1, n_h0_layers_2, hp_3, hp_4, hP1, hK1, hD1⟩ := hB
  rw [ht] at hP1
  have hq : z_PD (dC, dI) vwCl (fun q : Nat => s.heap.size ≤ q) (z_W ad ca dr ru (fun j9 : Nat => (cond (Nat.ble j9 40) (cond (Nat.beq j9 40) n_h0_thrown_1 (vi j9)) (cond (Nat.beq j9 41) n_h0_layers_2 (vi j9)))) vl fa fl) H1 := z_put3 (wc := [((ad 57), .inr (12, [.ref (ad 58), .int (vi 39), .int (vi 40), .int (vi 41), .int (vi 42), .ref (ad 59), .ref (ad 60), .ref (ad 61), .ref (ad 62), .ref (ad 63), .ref (ad 64), .ref (ad 65), .ref (ad 66), .ref (ad 67), .ref (ad 68), .ref (ad 69), .int (vi 43), .int (vi 44), .int (vi 45), .int (vi 46), .ref (ad 70), .ref (ad 71), .ref (ad 72), .int (vi 47), .ref (ad 73), .ref (ad 74), .ref (ad 75), .ref (ad 76), .int (vi 48), .int (vi 49), .int (vi 50), .int (vi 51), .int (vi 52), .int (vi 53), .int (vi 54), .ref (ad 77), .ref (ad 78), .ref (ad 79), .ref (ad 80), .long (vl 2), .int (vi 55), .ref (ad 81), .ref (ad 82), .ref (ad 83), .int (vi 56), .int (vi 57), .int (vi 58), .int (vi 59), .ref (ad 84), .ref (ad 85), .ref (ad 86), .ref (ad 87), .ref (ad 88), .ref (ad 89), .ref (ad 90), .ref (ad 91), .ref (ad 92), .ref (ad 93), .int (vi 60), .ref (ad 94), .ref (ad 95), .int (vi 61), .ref (ad 96), .int (vi 62), .ref (ad 97), .int (vi 63), .int (vi 64), .int (vi 65), .int (vi 66), .ref (ad 98)]))]) (n := 1) hP hD [57] rfl hk1 hP1 rfl [none, none, none, none, none, none, none, none, none, none, none, none, none, none, none, none, none, none, none, none, none, none, none, none, none, none, none, none, none, none, none, none, none, none, none, none, none, none, none, none, none, none, none, none, none, none, none, none, none, none, none, none, none, none, none, none, none, some 0, none, none, none, none, none, none, none, none, none, none, none, none, none, none, none, none, none, none, none, none, none, none, none, none, none, none, none, none, none, none, none, none, none, none, none, none, none, none, none, none, none, none] rfl (by decide +kernel) rfl
  have hI : z_In dC dI (fun q : Nat => s.heap.size ≤ q) ad ca gx (z_upF gm 1 (fun _ => v_layN (gm 1 0))) H1 := ⟨dr, ru, (fun j9 : Nat => (cond (Nat.ble j9 40) (cond (Nat.beq j9 40) n_h0_thrown_1 (vi j9)) (cond (Nat.beq j9 41) n_h0_layers_2 (vi j9)))), vl, fa, fl, kg, ⟨⟨(@z_q_hv_0 _ _ _ vi fa _ gx gm hF), (@z_q_hv_1 _ _ _ vi fa _ gx gm hF), (@z_q_hv_3 _ _ _ vi fa _ gx gm hF), (@z_q_hv_4 _ _ _ vi fa _ gx gm hF), (@z_q_hv_5 _ _ _ vi fa _ gx gm hF), (@z_q_hv_10 _ _ _ vi fa _ gx gm hF), (@z_q_hv_11 _ _ _ vi fa _ gx gm hF), (@z_q_hv_12 _ _ _ vi fa _ gx gm hF), (@z_q_hv_13 _ _ _ vi fa _ gx gm hF), (@z_q_hv_14 _ _ _ vi fa _ gx gm hF)⟩, ⟨(@z_q_hv_15 _ _ _ vi fa _ gx gm hF), (@z_q_hv_16 _ _ _ vi fa _ gx gm hF), (@z_q_hv_17 _ _ _ vi fa _ gx gm hF), (@z_q_hv_21 _ _ _ vi fa _ gx gm hF), (@z_q_hv_23 _ _ _ vi fa _ gx gm hF), (@z_q_hv_28 _ _ _ vi fa _ gx gm hF), (@z_q_hv_29 _ _ _ vi fa _ gx gm hF), (@z_q_hv_30 _ _ _ vi fa _ gx gm hF), (@z_q_hv_31 _ _ _ vi fa _ gx gm hF), (@z_q_hv_32 _ _ _ vi fa _ gx gm hF)⟩, ⟨(@z_q_hv_33 _ _ _ vi fa _ gx gm hF), (@z_q_hv_34 _ _ _ vi fa _ gx gm hF), (@z_q_hv_35 _ _ _ vi fa _ gx gm hF), (@z_q_hv_36 _ _ _ vi fa _ gx gm hF), (@z_q_hv_37 _ _ _ vi fa _ gx gm hF), (@z_q_hv_38 _ _ _ vi fa _ gx gm hF), (@z_q_hv_39 _ _ _ vi fa _ gx gm hF), hp_3, (@z_q_hv_42 _ _ _ vi fa _ gx gm hF), (@z_q_hv_43 _ _ _ vi fa _ gx gm hF)⟩, ⟨(@z_q_hv_44 _ _ _ vi fa _ gx gm hF), (@z_q_hv_45 _ _ _ vi fa _ gx gm hF), (@z_q_hv_46 _ _ _ vi fa _ gx gm hF), (@z_q_hv_47 _ _ _ vi fa _ gx gm hF), (@z_q_hv_50 _ _ _ vi fa _ gx gm hF), (@z_q_hv_51 _ _ _ vi fa _ gx gm hF), (@z_q_hv_52 _ _ _ vi fa _ gx gm hF), (@z_q_hv_54 _ _ _ vi fa _ gx gm hF), (@z_q_hv_55 _ _ _ vi fa _ gx gm hF), (@z_q_hv_56 _ _ _ vi fa _ gx gm hF)⟩, ⟨(@z_q_hv_57 _ _ _ vi fa _ gx gm hF), (@z_q_hv_58 _ _ _ vi fa _ gx gm hF), (@z_q_hv_59 _ _ _ vi fa _ gx gm hF), (@z_q_hv_60 _ _ _ vi fa _ gx gm hF), (@z_q_hv_61 _ _ _ vi fa _ gx gm hF), (@z_q_hv_62 _ _ _ vi fa _ gx gm hF), (@z_q_hv_63 _ _ _ vi fa _ gx gm hF), (@z_q_hv_64 _ _ _ vi fa _ gx gm hF), (@z_q_hv_65 _ _ _ vi fa _ gx gm hF), (@z_q_hv_66 _ _ _ vi fa _ gx gm hF)⟩, ⟨(@z_q_hf_0 _ _ _ vi fa _ gx gm hF), (@z_q_hf_2 _ _ _ vi fa _ gx gm hF), (@z_q_hf_8 _ _ _ vi fa _ gx gm hF), (@z_q_hf_27 _ _ _ vi fa _ gx gm hF), (@z_q_hf_34 _ _ _ vi fa _ gx gm hF), (@z_q_hf_37 _ _ _ vi fa _ gx gm hF), (@z_q_hf_39 _ _ _ vi fa _ gx gm hF), (@z_q_hf_40 _ _ _ vi fa _ gx gm hF), (@z_q_hf_41 _ _ _ vi fa _ gx gm hF), (@z_q_hf_46 _ _ _ vi fa _ gx gm hF)⟩, ⟨(@z_q_hf_56 _ _ _ vi fa _ gx gm hF), (@z_q_hf_62 _ _ _ vi fa _ gx gm hF), (@z_q_hf_66 _ _ _ vi fa _ gx gm hF), (@z_q_hf_78 _ _ _ vi fa _ gx gm hF), (@z_q_hRx _ _ _ vi fa _ gx gm hF), (@z_q_hRm _ _ _ vi fa _ gx gm hF), (@z_q_hLow _ _ _ vi fa _ gx gm hF), (@z_q_hkg _ _ _ vi fa _ gx gm hF), (@z_q_hWD _ _ _ vi fa _ gx gm hF), (@z_q_hdr _ _ _ vi fa _ gx gm hF)⟩, ⟨(@z_q_hWX _ _ _ vi fa _ gx gm hF), (@z_q_hgx_0 _ _ _ vi fa _ gx gm hF), (@z_q_hgm_0 _ _ _ vi fa _ gx gm hF), (@z_q_hgx_1 _ _ _ vi fa _ gx gm hF), (show n_h0_layers_2 = v_layN (gm 1 0) from hp_4.trans (by rw [hgm_1])), (@z_q_hgx_2 _ _ _ vi fa _ gx gm hF), (@z_q_hgm_2 _ _ _ vi fa _ gx gm hF), (@z_q_hgx_3 _ _ _ vi fa _ gx gm hF), (@z_q_hgm_3 _ _ _ vi fa _ gx gm hF), (@z_q_hgx_4 _ _ _ vi fa _ gx gm hF)⟩, ⟨(@z_q_hgm_4 _ _ _ vi fa _ gx gm hF), (@z_q_hgx_5 _ _ _ vi fa _ gx gm hF), (@z_q_hgx_6 _ _ _ vi fa _ gx gm hF), (@z_q_hgx_7 _ _ _ vi fa _ gx gm hF), (@z_q_hgx_8 _ _ _ vi fa _ gx gm hF), (@z_q_hCAx _ _ _ vi fa _ gx gm hF), (@z_q_hGFx _ _ _ vi fa _ gx gm hF), (show k_GF (gm 5) (gm 6) (gm 7) (gm 0 0).toInt (v_layN (gm 1 0)).toInt from k_GF_la hGFm (by rw [← hgm_1]; omega)), (@z_q_hNRm _ _ _ vi fa _ gx gm hF)⟩⟩, hq.1, hq.2⟩
  exact k r H1 locs (hw.trans (by rw [hgm_1])) hI hS
set_option maxHeartbeats 4000000 in
set_option maxRecDepth 100000 in
theorem q_362 {p : Program} {l : Launch} {e : Env} {s : State} {m : MethodId} {below : List Frame} {meth : Method} {c : Code} {dC : Nat → ClassId} {dI : Nat → Nat → Nat} {b L : Nat} {xs : Nat → Int32} {ad : Nat → Nat} {ca : Nat → ClassId} {sd sv : Nat → Nat} {sf : Value} (C0 : lw_At p s m meth c b L xs) (hK : va_K (dC, dI) vwCl (z_T ca) s) (hST : z_ST sd sv sf (fun q : Nat => s.heap.size ≤ q) s s.heap) {cells slots : Nat} (hc : cells ≤ 700) (hs : slots ≤ 38000) {H : Heap} {locs : List Loc} {ls : Array Slot} {lv : List (Nat × Value)} {gx gm : Nat → Nat → Int32} (hI : z_In dC dI (fun q : Nat => s.heap.size ≤ q) ad ca gx gm H) (hS : va_S (fun q : Nat => s.heap.size ≤ q) s.heap H locs) (hl : lv_has ls 7 lv) (p1 : Int32) (p2 : Int32) (p3 : Int32) (p4 : Int32) (k : ∀ (r : Int32) (H1 : Heap) (locs : List Loc), r = v_noA (gx 1 0) (gx 0 0) p1 p2 p3 p4 → z_In dC dI (fun q : Nat => s.heap.size ≤ q) ad ca (z_upF (z_upF (z_upF (z_upF (z_upF gx 0 (fun _ => v_noN (gx 1 0) (gx 0 0) p1 p2 p3 p4)) 5 (v_up (v_nok (gx 1 0) (gx 0 0) p1 p2 p3 p4) (gx 5) (gx 0 0) p1)) 6 (v_up (v_nok (gx 1 0) (gx 0 0) p1 p2 p3 p4) (gx 6) (gx 0 0) p2)) 7 (v_up (v_nok (gx 1 0) (gx 0 0) p1 p2 p3 p4) (gx 7) (gx 0 0) p3)) 8 (v_up (v_nok (gx 1 0) (gx 0 0) p1 p2 p3 p4) (gx 8) (gx 0 0) (v_c3 p1 p4))) gm H1 → va_S (fun q : Nat => s.heap.size ≤ q) s.heap H1 locs → W p l e room_1 s m #[Value.ref b] below meth c H1 locs (cells + 0) (slots + 0) (lw_Z below #[Value.ref b] s) (F0 m (362 + 3) ls [.int r])) : W p l e room_1 s m #[Value.ref b] below meth c H locs cells slots (lw_Z below #[Value.ref b] s) (F0 m 362 ls [.int p4, .int p3, .int p2, .int p1, .ref (ad 0)]) := by
  obtain ⟨hx, hb, hr, hml, hown, hts, hX, hbl, hlocks, hgv⟩ := id C0
  have hown : s.vm.findClass RL = some m.cls := hown
  have hA : ∀ q : Nat, s.heap.size ≤ q → (fun q : Nat => s.heap.size ≤ q) q := fun _ h => h
  have hbA : ¬ (fun q : Nat => s.heap.size ≤ q) b := Nat.not_le.mpr hbl
  obtain ⟨dr, ru, vi, vl, fa, fl, kg, hF, hP, hD⟩ := id hI
  have hv_0 := z_q_hv_0 hF
  have hv_1 := z_q_hv_1 hF
  have hv_3 := z_q_hv_3 hF
  have hv_4 := z_q_hv_4 hF
  have hv_5 := z_q_hv_5 hF
  have hv_10 := z_q_hv_10 hF
  have hv_11 := z_q_hv_11 hF
  have hv_12 := z_q_hv_12 hF
  have hv_13 := z_q_hv_13 hF
  have hv_14 := z_q_hv_14 hF
  have hv_15 := z_q_hv_15 hF
  have hv_16 := z_q_hv_16 hF
  have hv_17 := z_q_hv_17 hF
  have hv_21 := z_q_hv_21 hF
  have hv_23 := z_q_hv_23 hF
  have hv_28 := z_q_hv_28 hF
  have hv_29 := z_q_hv_29 hF
  have hv_30 := z_q_hv_30 hF
  have hv_31 := z_q_hv_31 hF
  have hv_32 := z_q_hv_32 hF
  have hv_33 := z_q_hv_33 hF
  have hv_34 := z_q_hv_34 hF
  have hv_35 := z_q_hv_35 hF
  have hv_36 := z_q_hv_36 hF
  have hv_37 := z_q_hv_37 hF
  have hv_38 := z_q_hv_38 hF
  have hv_39 := z_q_hv_39 hF
  have hv_41 := z_q_hv_41 hF
  have hv_42 := z_q_hv_42 hF
  have hv_43 := z_q_hv_43 hF
  have hv_44 := z_q_hv_44 hF
  have hv_45 := z_q_hv_45 hF
  have hv_46 := z_q_hv_46 hF
  have hv_47 := z_q_hv_47 hF
  have hv_50 := z_q_hv_50 hF
  have hv_51 := z_q_hv_51 hF
  have hv_52 := z_q_hv_52 hF
  have hv_54 := z_q_hv_54 hF
  have hv_55 := z_q_hv_55 hF
  have hv_56 := z_q_hv_56 hF
  have hv_57 := z_q_hv_57 hF
  have hv_58 := z_q_hv_58 hF
  have hv_59 := z_q_hv_59 hF
  have hv_60 := z_q_hv_60 hF
  have hv_61 := z_q_hv_61 hF
  have hv_62 := z_q_hv_62 hF
  have hv_63 := z_q_hv_63 hF
  have hv_64 := z_q_hv_64 hF
  have hv_65 := z_q_hv_65 hF
  have hv_66 := z_q_hv_66 hF
  have hf_2 := z_q_hf_2 hF
  have hRx := z_q_hRx hF
  have hgx_0 := z_q_hgx_0 hF
  have hgx_1 := z_q_hgx_1 hF
  have hgx_5 := z_q_hgx_5 hF
  have hgx_6 := z_q_hgx_6 hF
  have hgx_7 := z_q_hgx_7 hF
  have hgx_8 := z_q_hgx_8 hF
  have hCAx := z_q_hCAx hF
  have hGFx := z_q_hGFx hF
  obtain ⟨hPc, hDc, hFc⟩ := z_sub3 (ws' := [((ad 0), .inr (11, [.ref (ad 1), .ref (ad 3), .ref (ad 8), .ref (ad 15), .ref (ad 21), .ref (ad 29), .ref (ad 36), .ref (ad 40), .ref (ad 41), .ref (ad 53)])), ((ad 3), .inr (0, [.ref (ad 4), .ref (ad 5), .ref (ad 6), .ref (ad 7), .int (vi 10), .int (vi 11)])), ((ad 4), .inl ((ca 1), 80, .inl (fa 1))), ((ad 5), .inl ((ca 2), 80, .inl (fa 2))), ((ad 6), .inl ((ca 3), 80, .inl (fa 3))), ((ad 7), .inl ((ca 4), 80, .inl (fa 4)))]) hP hD hS hA [0, 3, 4, 5, 6, 7] (by decide) rfl
  have hKc := hK.sub (tys' := [((ca 1), .int), ((ca 2), .int), ((ca 3), .int), ((ca 4), .int)]) [1, 2, 3, 4] rfl
  refine va_calli (va_runV (As := [.int p1, .int p2, .int p3, .int p4]) (rest := []) ⟨hx, hb, hml, hown, hts⟩ (s_X11_noteK l dC dI H.size (ad 0) p1 p2 p3 p4 (.ref (ad 1)) (ad 3) (.ref (ad 8)) (.ref (ad 15)) (.ref (ad 21)) (.ref (ad 29)) (.ref (ad 36)) (.ref (ad 40)) (.ref (ad 41)) (.ref (ad 53)) (ad 4) (ad 5) (ad 6) (ad 7) (vi 10) (vi 11) (ca 1) (fa 1) (ca 2) (fa 2) (ca 3) (fa 3) (ca 4) (fa 4) hv_10 hv_11 hf_2 hRx) (cwV 4 hts gw_law_s_X11_noteK_42 rfl rfl rfl (by decide +kernel) ⟨Nat.le_of_ble_eq_true rfl, Nat.le_of_ble_eq_true rfl⟩) ⟨z_blind, va_recv hKc hPc (ci := 11) (q0 := 0) rfl rfl, z_pre hPc hKc hDc⟩ rfl rfl hl.1 rfl (lv_room (Nat.le_of_ble_eq_true rfl)) dL_law_362 ⟨(show cells + 0 ≤ 1125 by omega), (show slots + 0 ≤ 39162 by omega)⟩) hS (fun q _ h => hFc q h) hFc (fun r u t H1 locs ht hvm hw hB hz1 hk1 hS => ?_)
  obtain ⟨n_h1_notes_1, g_hs_2, g_ha_3, g_hb9_4, g_hc9_5, hp_6, hp_7, hp_8, hp_9, hp_10, hp_11, hp_12, hp_13, hP1, hK1, hD1⟩ := hB
  rw [ht] at hP1
  have hq : z_PD (dC, dI) vwCl (fun q : Nat => s.heap.size ≤ q) (z_W ad ca dr ru (upd vi 10 n_h1_notes_1) vl (fun j9 : Nat => (cond (Nat.ble j9 2) (cond (Nat.ble j9 1) (cond (Nat.beq j9 1) g_hs_2 (fa j9)) (cond (Nat.beq j9 2) g_ha_3 (fa j9))) (cond (Nat.ble j9 3) (cond (Nat.beq j9 3) g_hb9_4 (fa j9)) (cond (Nat.beq j9 4) g_hc9_5 (fa j9))))) fl) H1 := z_put3 (wc := [((ad 0), .inr (11, [.ref (ad 1), .ref (ad 3), .ref (ad 8), .ref (ad 15), .ref (ad 21), .ref (ad 29), .ref (ad 36), .ref (ad 40), .ref (ad 41), .ref (ad 53)])), ((ad 3), .inr (0, [.ref (ad 4), .ref (ad 5), .ref (ad 6), .ref (ad 7), .int (vi 10), .int (vi 11)])), ((ad 4), .inl ((ca 1), 80, .inl (fa 1))), ((ad 5), .inl ((ca 2), 80, .inl (fa 2))), ((ad 6), .inl ((ca 3), 80, .inl (fa 3))), ((ad 7), .inl ((ca 4), 80, .inl (fa 4)))]) (n := 6) hP hD [0, 3, 4, 5, 6, 7] rfl hk1 hP1 rfl [some 0, none, none, some 1, some 2, some 3, some 4, some 5, none, none, none, none, none, none, none, none, none, none, none, none, none, none, none, none, none, none, none, none, none, none, none, none, none, none, none, none, none, none, none, none, none, none, none, none, none, none, none, none, none, none, none, none, none, none, none, none, none, none, none, none, none, none, none, none, none, none, none, none, none, none, none, none, none, none, none, none, none, none, none, none, none, none, none, none, none, none, none, none, none, none, none, none, none, none, none, none, none, none, none, none] rfl (by decide +kernel) rfl
  have hI : z_In dC dI (fun q : Nat => s.heap.size ≤ q) ad ca (z_upF (z_upF (z_upF (z_upF (z_upF gx 0 (fun _ => v_noN (gx 1 0) (gx 0 0) p1 p2 p3 p4)) 5 (v_up (v_nok (gx 1 0) (gx 0 0) p1 p2 p3 p4) (gx 5) (gx 0 0) p1)) 6 (v_up (v_nok (gx 1 0) (gx 0 0) p1 p2 p3 p4) (gx 6) (gx 0 0) p2)) 7 (v_up (v_nok (gx 1 0) (gx 0 0) p1 p2 p3 p4) (gx 7) (gx 0 0) p3)) 8 (v_up (v_nok (gx 1 0) (gx 0 0) p1 p2 p3 p4) (gx 8) (gx 0 0) (v_c3 p1 p4))) gm H1 := ⟨dr, ru, (upd vi 10 n_h1_notes_1), vl, (fun j9 : Nat => (cond (Nat.ble j9 2) (cond (Nat.ble j9 1) (cond (Nat.beq j9 1) g_hs_2 (fa j9)) (cond (Nat.beq j9 2) g_ha_3 (fa j9))) (cond (Nat.ble j9 3) (cond (Nat.beq j9 3) g_hb9_4 (fa j9)) (cond (Nat.beq j9 4) g_hc9_5 (fa j9))))), fl, kg, ⟨⟨(@z_q_hv_0 _ _ _ vi fa _ gx gm hF), (@z_q_hv_1 _ _ _ vi fa _ gx gm hF), (@z_q_hv_3 _ _ _ vi fa _ gx gm hF), (@z_q_hv_4 _ _ _ vi fa _ gx gm hF), (@z_q_hv_5 _ _ _ vi fa _ gx gm hF), hp_6, (@z_q_hv_11 _ _ _ vi fa _ gx gm hF), (@z_q_hv_12 _ _ _ vi fa _ gx gm hF), (@z_q_hv_13 _ _ _ vi fa _ gx gm hF), (@z_q_hv_14 _ _ _ vi fa _ gx gm hF)⟩, ⟨(@z_q_hv_15 _ _ _ vi fa _ gx gm hF), (@z_q_hv_16 _ _ _ vi fa _ gx gm hF), (@z_q_hv_17 _ _ _ vi fa _ gx gm hF), (@z_q_hv_21 _ _ _ vi fa _ gx gm hF), (@z_q_hv_23 _ _ _ vi fa _ gx gm hF), (@z_q_hv_28 _ _ _ vi fa _ gx gm hF), (@z_q_hv_29 _ _ _ vi fa _ gx gm hF), (@z_q_hv_30 _ _ _ vi fa _ gx gm hF), (@z_q_hv_31 _ _ _ vi fa _ gx gm hF), (@z_q_hv_32 _ _ _ vi fa _ gx gm hF)⟩, ⟨(@z_q_hv_33 _ _ _ vi fa _ gx gm hF), (@z_q_hv_34 _ _ _ vi fa _ gx gm hF), (@z_q_hv_35 _ _ _ vi fa _ gx gm hF), (@z_q_hv_36 _ _ _ vi fa _ gx gm hF), (@z_q_hv_37 _ _ _ vi fa _ gx gm hF), (@z_q_hv_38 _ _ _ vi fa _ gx gm hF), (@z_q_hv_39 _ _ _ vi fa _ gx gm hF), (@z_q_hv_41 _ _ _ vi fa _ gx gm hF), (@z_q_hv_42 _ _ _ vi fa _ gx gm hF), (@z_q_hv_43 _ _ _ vi fa _ gx gm hF)⟩, ⟨(@z_q_hv_44 _ _ _ vi fa _ gx gm hF), (@z_q_hv_45 _ _ _ vi fa _ gx gm hF), (@z_q_hv_46 _ _ _ vi fa _ gx gm hF), (@z_q_hv_47 _ _ _ vi fa _ gx gm hF), (@z_q_hv_50 _ _ _ vi fa _ gx gm hF), (@z_q_hv_51 _ _ _ vi fa _ gx gm hF), (@z_q_hv_52 _ _ _ vi fa _ gx gm hF), (@z_q_hv_54 _ _ _ vi fa _ gx gm hF), (@z_q_hv_55 _ _ _ vi fa _ gx gm hF), (@z_q_hv_56 _ _ _ vi fa _ gx gm hF)⟩, ⟨(@z_q_hv_57 _ _ _ vi fa _ gx gm hF), (@z_q_hv_58 _ _ _ vi fa _ gx gm hF), (@z_q_hv_59 _ _ _ vi fa _ gx gm hF), (@z_q_hv_60 _ _ _ vi fa _ gx gm hF), (@z_q_hv_61 _ _ _ vi fa _ gx gm hF), (@z_q_hv_62 _ _ _ vi fa _ gx gm hF), (@z_q_hv_63 _ _ _ vi fa _ gx gm hF), (@z_q_hv_64 _ _ _ vi fa _ gx gm hF), (@z_q_hv_65 _ _ _ vi fa _ gx gm hF), (@z_q_hv_66 _ _ _ vi fa _ gx gm hF)⟩, ⟨(@z_q_hf_0 _ _ _ vi fa _ gx gm hF), hp_7, (@z_q_hf_8 _ _ _ vi fa _ gx gm hF), (@z_q_hf_27 _ _ _ vi fa _ gx gm hF), (@z_q_hf_34 _ _ _ vi fa _ gx gm hF), (@z_q_hf_37 _ _ _ vi fa _ gx gm hF), (@z_q_hf_39 _ _ _ vi fa _ gx gm hF), (@z_q_hf_40 _ _ _ vi fa _ gx gm hF), (@z_q_hf_41 _ _ _ vi fa _ gx gm hF), (@z_q_hf_46 _ _ _ vi fa _ gx gm hF)⟩, ⟨(@z_q_hf_56 _ _ _ vi fa _ gx gm hF), (@z_q_hf_62 _ _ _ vi fa _ gx gm hF), (@z_q_hf_66 _ _ _ vi fa _ gx gm hF), (@z_q_hf_78 _ _ _ vi fa _ gx gm hF), hp_8, (@z_q_hRm _ _ _ vi fa _ gx gm hF), (@z_q_hLow _ _ _ vi fa _ gx gm hF), (@z_q_hkg _ _ _ vi fa _ gx gm hF), (@z_q_hWD _ _ _ vi fa _ gx gm hF), (@z_q_hdr _ _ _ vi fa _ gx gm hF)⟩, ⟨(@z_q_hWX _ _ _ vi fa _ gx gm hF), (show n_h1_notes_1 = v_noN (gx 1 0) (gx 0 0) p1 p2 p3 p4 from hp_9.trans (by rw [hgx_0, hgx_1])), (@z_q_hgm_0 _ _ _ vi fa _ gx gm hF), (@z_q_hgx_1 _ _ _ vi fa _ gx gm hF), (@z_q_hgm_1 _ _ _ vi fa _ gx gm hF), (@z_q_hgx_2 _ _ _ vi fa _ gx gm hF), (@z_q_hgm_2 _ _ _ vi fa _ gx gm hF), (@z_q_hgx_3 _ _ _ vi fa _ gx gm hF), (@z_q_hgm_3 _ _ _ vi fa _ gx gm hF), (@z_q_hgx_4 _ _ _ vi fa _ gx gm hF)⟩, ⟨(@z_q_hgm_4 _ _ _ vi fa _ gx gm hF), (show g_hs_2 = v_up (v_nok (gx 1 0) (gx 0 0) p1 p2 p3 p4) (gx 5) (gx 0 0) p1 from hp_10.trans (by rw [hgx_0, hgx_1, hgx_5])), (show g_ha_3 = v_up (v_nok (gx 1 0) (gx 0 0) p1 p2 p3 p4) (gx 6) (gx 0 0) p2 from hp_11.trans (by rw [hgx_0, hgx_1, hgx_6])), (show g_hb9_4 = v_up (v_nok (gx 1 0) (gx 0 0) p1 p2 p3 p4) (gx 7) (gx 0 0) p3 from hp_12.trans (by rw [hgx_0, hgx_1, hgx_7])), (show g_hc9_5 = v_up (v_nok (gx 1 0) (gx 0 0) p1 p2 p3 p4) (gx 8) (gx 0 0) (v_c3 p1 p4) from hp_13.trans (by rw [hgx_0, hgx_1, hgx_8])), (show k_CA (v_up (v_nok (gx 1 0) (gx 0 0) p1 p2 p3 p4) (gx 5) (gx 0 0) p1) (v_up (v_nok (gx 1 0) (gx 0 0) p1 p2 p3 p4) (gx 6) (gx 0 0) p2) (v_up (v_nok (gx 1 0) (gx 0 0) p1 p2 p3 p4) (gx 7) (gx 0 0) p3) (v_up (v_nok (gx 1 0) (gx 0 0) p1 p2 p3 p4) (gx 8) (gx 0 0) (v_c3 p1 p4)) (v_noN (gx 1 0) (gx 0 0) p1 p2 p3 p4).toInt (vi 12).toInt (vi 13).toInt (fa 5) (fa 8) (fa 6) (fa 7) (fa 9) (fa 10) (vi 14).toInt from k_CA_w hCAx (by rw [← hgx_0]; omega) (v_noN_le (by rw [← hgx_0]; omega))), (show k_GF (v_up (v_nok (gx 1 0) (gx 0 0) p1 p2 p3 p4) (gx 5) (gx 0 0) p1) (v_up (v_nok (gx 1 0) (gx 0 0) p1 p2 p3 p4) (gx 6) (gx 0 0) p2) (v_up (v_nok (gx 1 0) (gx 0 0) p1 p2 p3 p4) (gx 7) (gx 0 0) p3) (v_noN (gx 1 0) (gx 0 0) p1 p2 p3 p4).toInt (gx 1 0).toInt from k_GF_no hGFx (by rw [← hgx_0]; omega)), (@z_q_hGFm _ _ _ vi fa _ gx gm hF), (@z_q_hNRm _ _ _ vi fa _ gx gm hF)⟩⟩, hq.1, hq.2⟩
  exact k r H1 locs (hw.trans (by rw [hgx_0, hgx_1])) hI hS
set_option maxHeartbeats 4000000 in
set_option maxRecDepth 100000 in
theorem q_391 {p : Program} {l : Launch} {e : Env} {s : State} {m : MethodId} {below : List Frame} {meth : Method} {c : Code} {dC : Nat → ClassId} {dI : Nat → Nat → Nat} {b L : Nat} {xs : Nat → Int32} {ad : Nat → Nat} {ca : Nat → ClassId} {sd sv : Nat → Nat} {sf : Value} (C0 : lw_At p s m meth c b L xs) (hK : va_K (dC, dI) vwCl (z_T ca) s) (hST : z_ST sd sv sf (fun q : Nat => s.heap.size ≤ q) s s.heap) {cells slots : Nat} (hc : cells ≤ 700) (hs : slots ≤ 38000) {H : Heap} {locs : List Loc} {ls : Array Slot} {lv : List (Nat × Value)} {gx gm : Nat → Nat → Int32} (hI : z_In dC dI (fun q : Nat => s.heap.size ≤ q) ad ca gx gm H) (hS : va_S (fun q : Nat => s.heap.size ≤ q) s.heap H locs) (hl : lv_has ls 7 lv) (p1 : Int32) (p2 : Int32) (p3 : Int32) (p4 : Int32) (k : ∀ (r : Int32) (H1 : Heap) (locs : List Loc), r = v_noA (gm 1 0) (gm 0 0) p1 p2 p3 p4 → z_In dC dI (fun q : Nat => s.heap.size ≤ q) ad ca gx (z_upF (z_upF (z_upF (z_upF (z_upF gm 0 (fun _ => v_noN (gm 1 0) (gm 0 0) p1 p2 p3 p4)) 5 (v_up (v_nok (gm 1 0) (gm 0 0) p1 p2 p3 p4) (gm 5) (gm 0 0) p1)) 6 (v_up (v_nok (gm 1 0) (gm 0 0) p1 p2 p3 p4) (gm 6) (gm 0 0) p2)) 7 (v_up (v_nok (gm 1 0) (gm 0 0) p1 p2 p3 p4) (gm 7) (gm 0 0) p3)) 8 (v_up (v_nok (gm 1 0) (gm 0 0) p1 p2 p3 p4) (gm 8) (gm 0 0) (v_c3 p1 p4))) H1 → va_S (fun q : Nat => s.heap.size ≤ q) s.heap H1 locs → W p l e room_1 s m #[Value.ref b] below meth c H1 locs (cells + 0) (slots + 0) (lw_Z below #[Value.ref b] s) (F0 m (391 + 3) ls [.int r])) : W p l e room_1 s m #[Value.ref b] below meth c H locs cells slots (lw_Z below #[Value.ref b] s) (F0 m 391 ls [.int p4, .int p3, .int p2, .int p1, .ref (ad 57)]) := by
  obtain ⟨hx, hb, hr, hml, hown, hts, hX, hbl, hlocks, hgv⟩ := id C0
  have hown : s.vm.findClass RL = some m.cls := hown
  have hA : ∀ q : Nat, s.heap.size ≤ q → (fun q : Nat => s.heap.size ≤ q) q := fun _ h => h
  have hbA : ¬ (fun q : Nat => s.heap.size ≤ q) b := Nat.not_le.mpr hbl
  obtain ⟨dr, ru, vi, vl, fa, fl, kg, hF, hP, hD⟩ := id hI
  have hv_0 := z_q_hv_0 hF
  have hv_1 := z_q_hv_1 hF
  have hv_3 := z_q_hv_3 hF
  have hv_4 := z_q_hv_4 hF
  have hv_5 := z_q_hv_5 hF
  have hv_10 := z_q_hv_10 hF
  have hv_11 := z_q_hv_11 hF
  have hv_12 := z_q_hv_12 hF
  have hv_13 := z_q_hv_13 hF
  have hv_14 := z_q_hv_14 hF
  have hv_15 := z_q_hv_15 hF
  have hv_16 := z_q_hv_16 hF
  have hv_17 := z_q_hv_17 hF
  have hv_21 := z_q_hv_21 hF
  have hv_23 := z_q_hv_23 hF
  have hv_28 := z_q_hv_28 hF
  have hv_29 := z_q_hv_29 hF
  have hv_30 := z_q_hv_30 hF
  have hv_31 := z_q_hv_31 hF
  have hv_32 := z_q_hv_32 hF
  have hv_33 := z_q_hv_33 hF
  have hv_34 := z_q_hv_34 hF
  have hv_35 := z_q_hv_35 hF
  have hv_36 := z_q_hv_36 hF
  have hv_37 := z_q_hv_37 hF
  have hv_38 := z_q_hv_38 hF
  have hv_39 := z_q_hv_39 hF
  have hv_41 := z_q_hv_41 hF
  have hv_42 := z_q_hv_42 hF
  have hv_43 := z_q_hv_43 hF
  have hv_44 := z_q_hv_44 hF
  have hv_45 := z_q_hv_45 hF
  have hv_46 := z_q_hv_46 hF
  have hv_47 := z_q_hv_47 hF
  have hv_50 := z_q_hv_50 hF
  have hv_51 := z_q_hv_51 hF
  have hv_52 := z_q_hv_52 hF
  have hv_54 := z_q_hv_54 hF
  have hv_55 := z_q_hv_55 hF
  have hv_56 := z_q_hv_56 hF
  have hv_57 := z_q_hv_57 hF
  have hv_58 := z_q_hv_58 hF
  have hv_59 := z_q_hv_59 hF
  have hv_60 := z_q_hv_60 hF
  have hv_61 := z_q_hv_61 hF
  have hv_62 := z_q_hv_62 hF
  have hv_63 := z_q_hv_63 hF
  have hv_64 := z_q_hv_64 hF
  have hv_65 := z_q_hv_65 hF
  have hv_66 := z_q_hv_66 hF
  have hf_40 := z_q_hf_40 hF
  have hf_41 := z_q_hf_41 hF
  have hRm := z_q_hRm hF
  have hgm_0 := z_q_hgm_0 hF
  have hgm_1 := z_q_hgm_1 hF
  have hGFm := z_q_hGFm hF
  have hNRm := z_q_hNRm hF
  obtain ⟨hPc, hDc, hFc⟩ := z_sub3 (ws' := [((ad 57), .inr (12, [.ref (ad 58), .int (vi 39), .int (vi 40), .int (vi 41), .int (vi 42), .ref (ad 59), .ref (ad 60), .ref (ad 61), .ref (ad 62), .ref (ad 63), .ref (ad 64), .ref (ad 65), .ref (ad 66), .ref (ad 67), .ref (ad 68), .ref (ad 69), .int (vi 43), .int (vi 44), .int (vi 45), .int (vi 46), .ref (ad 70), .ref (ad 71), .ref (ad 72), .int (vi 47), .ref (ad 73), .ref (ad 74), .ref (ad 75), .ref (ad 76), .int (vi 48), .int (vi 49), .int (vi 50), .int (vi 51), .int (vi 52), .int (vi 53), .int (vi 54), .ref (ad 77), .ref (ad 78), .ref (ad 79), .ref (ad 80), .long (vl 2), .int (vi 55), .ref (ad 81), .ref (ad 82), .ref (ad 83), .int (vi 56), .int (vi 57), .int (vi 58), .int (vi 59), .ref (ad 84), .ref (ad 85), .ref (ad 86), .ref (ad 87), .ref (ad 88), .ref (ad 89), .ref (ad 90), .ref (ad 91), .ref (ad 92), .ref (ad 93), .int (vi 60), .ref (ad 94), .ref (ad 95), .int (vi 61), .ref (ad 96), .int (vi 62), .ref (ad 97), .int (vi 63), .int (vi 64), .int (vi 65), .int (vi 66), .ref (ad 98)])), ((ad 59), .inl ((ca 45), 80, .inl (fa 40))), ((ad 60), .inl ((ca 46), 80, .inl (fa 41))), ((ad 61), .inl ((ca 47), 80, .inl (fa 42))), ((ad 62), .inl ((ca 48), 80, .inl (fa 43)))]) hP hD hS hA [57, 59, 60, 61, 62] (by decide) rfl
  have hKc := hK.sub (tys' := [((ca 45), .int), ((ca 46), .int), ((ca 47), .int), ((ca 48), .int)]) [45, 46, 47, 48] rfl
  refine va_calli (va_runV (As := [.int p1, .int p2, .int p3, .int p4]) (rest := []) ⟨hx, hb, hml, hown, hts⟩ (s_X12_noteK l dC dI H.size (ad 57) p1 p2 p3 p4 (.ref (ad 58)) (.int (vi 39)) (vi 40) (vi 41) (vi 42) (ad 59) (ad 60) (ad 61) (ad 62) (.ref (ad 63)) (.ref (ad 64)) (.ref (ad 65)) (.ref (ad 66)) (.ref (ad 67)) (.ref (ad 68)) (.ref (ad 69)) (.int (vi 43)) (.int (vi 44)) (.int (vi 45)) (.int (vi 46)) (.ref (ad 70)) (.ref (ad 71)) (.ref (ad 72)) (.int (vi 47)) (.ref (ad 73)) (.ref (ad 74)) (.ref (ad 75)) (.ref (ad 76)) (.int (vi 48)) (.int (vi 49)) (.int (vi 50)) (.int (vi 51)) (.int (vi 52)) (.int (vi 53)) (.int (vi 54)) (.ref (ad 77)) (.ref (ad 78)) (.ref (ad 79)) (.ref (ad 80)) (.long (vl 2)) (.int (vi 55)) (.ref (ad 81)) (.ref (ad 82)) (.ref (ad 83)) (.int (vi 56)) (.int (vi 57)) (.int (vi 58)) (.int (vi 59)) (.ref (ad 84)) (.ref (ad 85)) (.ref (ad 86)) (.ref (ad 87)) (.ref (ad 88)) (.ref (ad 89)) (.ref (ad 90)) (.ref (ad 91)) (.ref (ad 92)) (.ref (ad 93)) (.int (vi 60)) (.ref (ad 94)) (.ref (ad 95)) (.int (vi 61)) (.ref (ad 96)) (.int (vi 62)) (.ref (ad 97)) (.int (vi 63)) (.int (vi 64)) (.int (vi 65)) (.int (vi 66)) (.ref (ad 98)) (ca 45) (fa 40) (ca 46) (fa 41) (ca 47) (fa 42) (ca 48) (fa 43) (gm 5) (gm 6) (gm 7) (gm 8) hv_42 hv_41 hf_40 hf_41 hRm (by rw [hgm_0]; exact hNRm)) (cwV 4 hts gw_law_s_X12_noteK_46 rfl rfl rfl (by decide +kernel) ⟨Nat.le_of_ble_eq_true rfl, Nat.le_of_ble_eq_true rfl⟩) ⟨z_blind, va_recv hKc hPc (ci := 12) (q0 := 0) rfl rfl, z_pre hPc hKc hDc⟩ rfl rfl hl.1 rfl (lv_room (Nat.le_of_ble_eq_true rfl)) dL_law_391 ⟨(show cells + 0 ≤ 1125 by omega), (show slots + 0 ≤ 39162 by omega)⟩) hS (fun q _ h => hFc q h) hFc (fun r u t H1 locs ht hvm hw hB hz1 hk1 hS => ?_)
  obtain ⟨n_h0_thrown_1, n_h0_notes_2, g_hs_3, g_ha_4, g_hb9_5, g_hc9_6, hp_7, hp_8, hp_9, hp_10, hp_11, hp_12, hP1, hK1, hD1⟩ := hB
  rw [ht] at hP1
  have hq : z_PD (dC, dI) vwCl (fun q : Nat => s.heap.size ≤ q) (z_W ad ca dr ru (fun j9 : Nat => (cond (Nat.ble j9 40) (cond (Nat.beq j9 40) n_h0_thrown_1 (vi j9)) (cond (Nat.beq j9 42) n_h0_notes_2 (vi j9)))) vl (fun j9 : Nat => (cond (Nat.ble j9 41) (cond (Nat.ble j9 40) (cond (Nat.beq j9 40) g_hs_3 (fa j9)) (cond (Nat.beq j9 41) g_ha_4 (fa j9))) (cond (Nat.ble j9 42) (cond (Nat.beq j9 42) g_hb9_5 (fa j9)) (cond (Nat.beq j9 43) g_hc9_6 (fa j9))))) fl) H1 := z_put3 (wc := [((ad 57), .inr (12, [.ref (ad 58), .int (vi 39), .int (vi 40), .int (vi 41), .int (vi 42), .ref (ad 59), .ref (ad 60), .ref (ad 61), .ref (ad 62), .ref (ad 63), .ref (ad 64), .ref (ad 65), .ref (ad 66), .ref (ad 67), .ref (ad 68), .ref (ad 69), .int (vi 43), .int (vi 44), .int (vi 45), .int (vi 46), .ref (ad 70), .ref (ad 71), .ref (ad 72), .int (vi 47), .ref (ad 73), .ref (ad 74), .ref (ad 75), .ref (ad 76), .int (vi 48), .int (vi 49), .int (vi 50), .int (vi 51), .int (vi 52), .int (vi 53), .int (vi 54), .ref (ad 77), .ref (ad 78), .ref (ad 79), .ref (ad 80), .long (vl 2), .int (vi 55), .ref (ad 81), .ref (ad 82), .ref (ad 83), .int (vi 56), .int (vi 57), .int (vi 58), .int (vi 59), .ref (ad 84), .ref (ad 85), .ref (ad 86), .ref (ad 87), .ref (ad 88), .ref (ad 89), .ref (ad 90), .ref (ad 91), .ref (ad 92), .ref (ad 93), .int (vi 60), .ref (ad 94), .ref (ad 95), .int (vi 61), .ref (ad 96), .int (vi 62), .ref (ad 97), .int (vi 63), .int (vi 64), .int (vi 65), .int (vi 66), .ref (ad 98)])), ((ad 59), .inl ((ca 45), 80, .inl (fa 40))), ((ad 60), .inl ((ca 46), 80, .inl (fa 41))), ((ad 61), .inl ((ca 47), 80, .inl (fa 42))), ((ad 62), .inl ((ca 48), 80, .inl (fa 43)))]) (n := 5) hP hD [57, 59, 60, 61, 62] rfl hk1 hP1 rfl [none, none, none, none, none, none, none, none, none, none, none, none, none, none, none, none, none, none, none, none, none, none, none, none, none, none, none, none, none, none, none, none, none, none, none, none, none, none, none, none, none, none, none, none, none, none, none, none, none, none, none, none, none, none, none, none, none, some 0, none, some 1, some 2, some 3, some 4, none, none, none, none, none, none, none, none, none, none, none, none, none, none, none, none, none, none, none, none, none, none, none, none, none, none, none, none, none, none, none, none, none, none, none, none, none] rfl (by decide +kernel) rfl
  have hI : z_In dC dI (fun q : Nat => s.heap.size ≤ q) ad ca gx (z_upF (z_upF (z_upF (z_upF (z_upF gm 0 (fun _ => v_noN (gm 1 0) (gm 0 0) p1 p2 p3 p4)) 5 (v_up (v_nok (gm 1 0) (gm 0 0) p1 p2 p3 p4) (gm 5) (gm 0 0) p1)) 6 (v_up (v_nok (gm 1 0) (gm 0 0) p1 p2 p3 p4) (gm 6) (gm 0 0) p2)) 7 (v_up (v_nok (gm 1 0) (gm 0 0) p1 p2 p3 p4) (gm 7) (gm 0 0) p3)) 8 (v_up (v_nok (gm 1 0) (gm 0 0) p1 p2 p3 p4) (gm 8) (gm 0 0) (v_c3 p1 p4))) H1 := ⟨dr, ru, (fun j9 : Nat => (cond (Nat.ble j9 40) (cond (Nat.beq j9 40) n_h0_thrown_1 (vi j9)) (cond (Nat.beq j9 42) n_h0_notes_2 (vi j9)))), vl, (fun j9 : Nat => (cond (Nat.ble j9 41) (cond (Nat.ble j9 40) (cond (Nat.beq j9 40) g_hs_3 (fa j9)) (cond (Nat.beq j9 41) g_ha_4 (fa j9))) (cond (Nat.ble j9 42) (cond (Nat.beq j9 42) g_hb9_5 (fa j9)) (cond (Nat.beq j9 43) g_hc9_6 (fa j9))))), fl, kg, ⟨⟨(@z_q_hv_0 _ _ _ vi fa _ gx gm hF), (@z_q_hv_1 _ _ _ vi fa _ gx gm hF), (@z_q_hv_3 _ _ _ vi fa _ gx gm hF), (@z_q_hv_4 _ _ _ vi fa _ gx gm hF), (@z_q_hv_5 _ _ _ vi fa _ gx gm hF), (@z_q_hv_10 _ _ _ vi fa _ gx gm hF), (@z_q_hv_11 _ _ _ vi fa _ gx gm hF), (@z_q_hv_12 _ _ _ vi fa _ gx gm hF), (@z_q_hv_13 _ _ _ vi fa _ gx gm hF), (@z_q_hv_14 _ _ _ vi fa _ gx gm hF)⟩, ⟨(@z_q_hv_15 _ _ _ vi fa _ gx gm hF), (@z_q_hv_16 _ _ _ vi fa _ gx gm hF), (@z_q_hv_17 _ _ _ vi fa _ gx gm hF), (@z_q_hv_21 _ _ _ vi fa _ gx gm hF), (@z_q_hv_23 _ _ _ vi fa _ gx gm hF), (@z_q_hv_28 _ _ _ vi fa _ gx gm hF), (@z_q_hv_29 _ _ _ vi fa _ gx gm hF), (@z_q_hv_30 _ _ _ vi fa _ gx gm hF), (@z_q_hv_31 _ _ _ vi fa _ gx gm hF), (@z_q_hv_32 _ _ _ vi fa _ gx gm hF)⟩, ⟨(@z_q_hv_33 _ _ _ vi fa _ gx gm hF), (@z_q_hv_34 _ _ _ vi fa _ gx gm hF), (@z_q_hv_35 _ _ _ vi fa _ gx gm hF), (@z_q_hv_36 _ _ _ vi fa _ gx gm hF), (@z_q_hv_37 _ _ _ vi fa _ gx gm hF), (@z_q_hv_38 _ _ _ vi fa _ gx gm hF), (@z_q_hv_39 _ _ _ vi fa _ gx gm hF), (@z_q_hv_41 _ _ _ vi fa _ gx gm hF), hp_7, (@z_q_hv_43 _ _ _ vi fa _ gx gm hF)⟩, ⟨(@z_q_hv_44 _ _ _ vi fa _ gx gm hF), (@z_q_hv_45 _ _ _ vi fa _ gx gm hF), (@z_q_hv_46 _ _ _ vi fa _ gx gm hF), (@z_q_hv_47 _ _ _ vi fa _ gx gm hF), (@z_q_hv_50 _ _ _ vi fa _ gx gm hF), (@z_q_hv_51 _ _ _ vi fa _ gx gm hF), (@z_q_hv_52 _ _ _ vi fa _ gx gm hF), (@z_q_hv_54 _ _ _ vi fa _ gx gm hF), (@z_q_hv_55 _ _ _ vi fa _ gx gm hF), (@z_q_hv_56 _ _ _ vi fa _ gx gm hF)⟩, ⟨(@z_q_hv_57 _ _ _ vi fa _ gx gm hF), (@z_q_hv_58 _ _ _ vi fa _ gx gm hF), (@z_q_hv_59 _ _ _ vi fa _ gx gm hF), (@z_q_hv_60 _ _ _ vi fa _ gx gm hF), (@z_q_hv_61 _ _ _ vi fa _ gx gm hF), (@z_q_hv_62 _ _ _ vi fa _ gx gm hF), (@z_q_hv_63 _ _ _ vi fa _ gx gm hF), (@z_q_hv_64 _ _ _ vi fa _ gx gm hF), (@z_q_hv_65 _ _ _ vi fa _ gx gm hF), (@z_q_hv_66 _ _ _ vi fa _ gx gm hF)⟩, ⟨(@z_q_hf_0 _ _ _ vi fa _ gx gm hF), (@z_q_hf_2 _ _ _ vi fa _ gx gm hF), (@z_q_hf_8 _ _ _ vi fa _ gx gm hF), (@z_q_hf_27 _ _ _ vi fa _ gx gm hF), (@z_q_hf_34 _ _ _ vi fa _ gx gm hF), (@z_q_hf_37 _ _ _ vi fa _ gx gm hF), (@z_q_hf_39 _ _ _ vi fa _ gx gm hF), hp_8, hp_9, (@z_q_hf_46 _ _ _ vi fa _ gx gm hF)⟩, ⟨(@z_q_hf_56 _ _ _ vi fa _ gx gm hF), (@z_q_hf_62 _ _ _ vi fa _ gx gm hF), (@z_q_hf_66 _ _ _ vi fa _ gx gm hF), (@z_q_hf_78 _ _ _ vi fa _ gx gm hF), (@z_q_hRx _ _ _ vi fa _ gx gm hF), hp_10, (@z_q_hLow _ _ _ vi fa _ gx gm hF), (@z_q_hkg _ _ _ vi fa _ gx gm hF), (@z_q_hWD _ _ _ vi fa _ gx gm hF), (@z_q_hdr _ _ _ vi fa _ gx gm hF)⟩, ⟨(@z_q_hWX _ _ _ vi fa _ gx gm hF), (@z_q_hgx_0 _ _ _ vi fa _ gx gm hF), (show n_h0_notes_2 = v_noN (gm 1 0) (gm 0 0) p1 p2 p3 p4 from hp_11.trans (by rw [hgm_0, hgm_1])), (@z_q_hgx_1 _ _ _ vi fa _ gx gm hF), (@z_q_hgm_1 _ _ _ vi fa _ gx gm hF), (@z_q_hgx_2 _ _ _ vi fa _ gx gm hF), (@z_q_hgm_2 _ _ _ vi fa _ gx gm hF), (@z_q_hgx_3 _ _ _ vi fa _ gx gm hF), (@z_q_hgm_3 _ _ _ vi fa _ gx gm hF), (@z_q_hgx_4 _ _ _ vi fa _ gx gm hF)⟩, ⟨(@z_q_hgm_4 _ _ _ vi fa _ gx gm hF), (@z_q_hgx_5 _ _ _ vi fa _ gx gm hF), (@z_q_hgx_6 _ _ _ vi fa _ gx gm hF), (@z_q_hgx_7 _ _ _ vi fa _ gx gm hF), (@z_q_hgx_8 _ _ _ vi fa _ gx gm hF), (@z_q_hCAx _ _ _ vi fa _ gx gm hF), (@z_q_hGFx _ _ _ vi fa _ gx gm hF), (show k_GF (v_up (v_nok (gm 1 0) (gm 0 0) p1 p2 p3 p4) (gm 5) (gm 0 0) p1) (v_up (v_nok (gm 1 0) (gm 0 0) p1 p2 p3 p4) (gm 6) (gm 0 0) p2) (v_up (v_nok (gm 1 0) (gm 0 0) p1 p2 p3 p4) (gm 7) (gm 0 0) p3) (v_noN (gm 1 0) (gm 0 0) p1 p2 p3 p4).toInt (gm 1 0).toInt from k_GF_no hGFm (by rw [← hgm_0]; omega)), (show k_nn g_hs_3 g_ha_4 g_hb9_5 g_hc9_6 (v_noN (gm 1 0) (gm 0 0) p1 p2 p3 p4).toInt (v_up (v_nok (gm 1 0) (gm 0 0) p1 p2 p3 p4) (gm 5) (gm 0 0) p1) (v_up (v_nok (gm 1 0) (gm 0 0) p1 p2 p3 p4) (gm 6) (gm 0 0) p2) (v_up (v_nok (gm 1 0) (gm 0 0) p1 p2 p3 p4) (gm 7) (gm 0 0) p3) (v_up (v_nok (gm 1 0) (gm 0 0) p1 p2 p3 p4) (gm 8) (gm 0 0) (v_c3 p1 p4)) from by have h9 := hp_12; rw [hp_11, hgm_0, hgm_1] at h9; exact h9)⟩⟩, hq.1, hq.2⟩
  exact k r H1 locs (hw.trans (by rw [hgm_0, hgm_1])) hI hS
