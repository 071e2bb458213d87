set_option maxHeartbeats 4000000 in
set_option maxRecDepth 100000 in
theorem q_1306_out {p : Program} {l : Launch} {e : Env} {s : State} {m : MethodId} {below : List Frame} {meth : Method} {c : Code} {dC : Nat → ClassId} {dI : Nat → Nat → Nat} {b L : Nat} {xs : Nat → Int32} {ad : Nat → Nat} {ca : Nat → ClassId} {sd sv : Nat → Nat} {sf : Value} (C0 : lw_At p s m meth c b L xs) (hK : va_K (dC, dI) vwCl (z_T ca) s) (hST : z_ST sd sv sf (fun q : Nat => s.heap.size ≤ q) s s.heap) (hst : l.stackTraces = false) {sa : Nat} (hT0 : z_TH sa (fun q : Nat => s.heap.size ≤ q) s s.heap) {cells slots : Nat} (hc : cells ≤ 700) (hs : slots ≤ 38000) {H : Heap} {locs : List Loc} {ls : Array Slot} {lv : List (Nat × Value)} {gx gm : Nat → Nat → Int32} (hI : z_In dC dI (fun q : Nat => s.heap.size ≤ q) ad ca gx gm H) (hS : va_S (fun q : Nat => s.heap.size ≤ q) s.heap H locs) (hl : lv_has ls 7 lv) (p1 : Int32) (hqc : (p1).toInt < 0 ∨ 7 < (p1).toInt) (k : ∀ (r : Int32) (H1 : Heap) (locs : List Loc), True → z_In dC dI (fun q : Nat => s.heap.size ≤ q) ad ca gx gm H1 → va_S (fun q : Nat => s.heap.size ≤ q) s.heap H1 locs → W p l e room_1 s m #[Value.ref b] below meth c H1 locs (cells + 1) (slots + 6) (lw_Z below #[Value.ref b] s) (F0 m (1306 + 3) ls [.int r])) : W p l e room_1 s m #[Value.ref b] below meth c H locs cells slots (lw_Z below #[Value.ref b] s) (F0 m 1306 ls [.ref (ad 99), .int p1, .ref (ad 0)]) := by
  obtain ⟨hx, hb, hr, hml, hown, hts, hX, hbl, hlocks, hgv⟩ := id C0
  have hown : s.vm.findClass RL = some m.cls := hown
  have hA : ∀ q : Nat, s.heap.size ≤ q → (fun q : Nat => s.heap.size ≤ q) q := fun _ h => h
  have hbA : ¬ (fun q : Nat => s.heap.size ≤ q) b := Nat.not_le.mpr hbl
  obtain ⟨dr, ru, vi, vl, fa, fl, kg, hF, hP, hD⟩ := id hI
  obtain ⟨hPc, hDc⟩ := z_sub2 (ws' := [((ad 0), .inr (11, [.ref (ad 1), .ref (ad 3), .ref (ad 8), .ref (ad 15), .ref (ad 21), .ref (ad 29), .ref (ad 36), .ref (ad 40), .ref (ad 41), .ref (ad 53)]))]) hP hD [0] (by decide) rfl
  have hKc := hK.sub (tys' := []) [] rfl
  have hFc := va_free (ws := []) (wc := []) (z_D0 _) hS hA [] rfl
  have hT : z_TH sa (va_A [] H.size) s H := (hT0.kept hS.2.1).narrow (fun q h => by rcases h with ⟨k9, e9, h⟩ | h <;> first | (simp at h; done) | exact Nat.le_trans hS.1 h)
  refine va_calli (vx_runSW (As := [.ref (ad 0), .int p1, .ref (ad 99)]) (rest := []) ⟨hx, hb, hml, hown, hts⟩ (c_L_count_out l hst dC dI H.size (ad 0) (ad 99) sa p1 [.ref (ad 1), .ref (ad 3), .ref (ad 8), .ref (ad 15), .ref (ad 21), .ref (ad 29), .ref (ad 36), .ref (ad 40), .ref (ad 41), .ref (ad 53)] hqc) (vx_cwSW (hh := [(0, 9, 12, 13)]) 3 hts gw_law_c_L_count_out_134 rfl rfl rfl (by decide +kernel) ⟨Nat.le_of_ble_eq_true rfl, Nat.le_of_ble_eq_true rfl⟩) ⟨z_blindT, z_preT hPc hKc hDc hT⟩ rfl rfl hl.1 rfl (lv_room (Nat.le_of_ble_eq_true rfl)) dL_law_1306 ⟨(show cells + 1 ≤ 1125 by omega), (show slots + 6 ≤ 39162 by omega)⟩) hS (fun q _ h => hFc q h) hFc (fun r u t H1 locs ht hvm hw hB hz1 hk1 hS => ?_)
  have hP := z_pure hP hk1
  have hI : z_In dC dI (fun q : Nat => s.heap.size ≤ q) ad ca gx gm H1 := ⟨dr, ru, vi, vl, fa, fl, kg, ⟨⟨(@z_q_hv_0 _ _ _ vi fa _ gx gm hF), (@z_q_hv_1 _ _ _ vi fa _ gx gm hF), (@z_q_hv_3 _ _ _ vi fa _ gx gm hF), (@z_q_hv_4 _ _ _ vi fa _ gx gm hF), (@z_q_hv_5 _ _ _ vi fa _ gx gm hF), (@z_q_hv_10 _ _ _ vi fa _ gx gm hF), (@z_q_hv_11 _ _ _ vi fa _ gx gm hF), (@z_q_hv_12 _ _ _ vi fa _ gx gm hF), (@z_q_hv_13 _ _ _ vi fa _ gx gm hF), (@z_q_hv_14 _ _ _ vi fa _ gx gm hF)⟩, ⟨(@z_q_hv_15 _ _ _ vi fa _ gx gm hF), (@z_q_hv_16 _ _ _ vi fa _ gx gm hF), (@z_q_hv_17 _ _ _ vi fa _ gx gm hF), (@z_q_hv_21 _ _ _ vi fa _ gx gm hF), (@z_q_hv_23 _ _ _ vi fa _ gx gm hF), (@z_q_hv_28 _ _ _ vi fa _ gx gm hF), (@z_q_hv_29 _ _ _ vi fa _ gx gm hF), (@z_q_hv_30 _ _ _ vi fa _ gx gm hF), (@z_q_hv_31 _ _ _ vi fa _ gx gm hF), (@z_q_hv_32 _ _ _ vi fa _ gx gm hF)⟩, ⟨(@z_q_hv_33 _ _ _ vi fa _ gx gm hF), (@z_q_hv_34 _ _ _ vi fa _ gx gm hF), (@z_q_hv_35 _ _ _ vi fa _ gx gm hF), (@z_q_hv_36 _ _ _ vi fa _ gx gm hF), (@z_q_hv_37 _ _ _ vi fa _ gx gm hF), (@z_q_hv_38 _ _ _ vi fa _ gx gm hF), (@z_q_hv_39 _ _ _ vi fa _ gx gm hF), (@z_q_hv_41 _ _ _ vi fa _ gx gm hF), (@z_q_hv_42 _ _ _ vi fa _ gx gm hF), (@z_q_hv_43 _ _ _ vi fa _ gx gm hF)⟩, ⟨(@z_q_hv_44 _ _ _ vi fa _ gx gm hF), (@z_q_hv_45 _ _ _ vi fa _ gx gm hF), (@z_q_hv_46 _ _ _ vi fa _ gx gm hF), (@z_q_hv_47 _ _ _ vi fa _ gx gm hF), (@z_q_hv_50 _ _ _ vi fa _ gx gm hF), (@z_q_hv_51 _ _ _ vi fa _ gx gm hF), (@z_q_hv_52 _ _ _ vi fa _ gx gm hF), (@z_q_hv_54 _ _ _ vi fa _ gx gm hF), (@z_q_hv_55 _ _ _ vi fa _ gx gm hF), (@z_q_hv_56 _ _ _ vi fa _ gx gm hF)⟩, ⟨(@z_q_hv_57 _ _ _ vi fa _ gx gm hF), (@z_q_hv_58 _ _ _ vi fa _ gx gm hF), (@z_q_hv_59 _ _ _ vi fa _ gx gm hF), (@z_q_hv_60 _ _ _ vi fa _ gx gm hF), (@z_q_hv_61 _ _ _ vi fa _ gx gm hF), (@z_q_hv_62 _ _ _ vi fa _ gx gm hF), (@z_q_hv_63 _ _ _ vi fa _ gx gm hF), (@z_q_hv_64 _ _ _ vi fa _ gx gm hF), (@z_q_hv_65 _ _ _ vi fa _ gx gm hF), (@z_q_hv_66 _ _ _ vi fa _ gx gm hF)⟩, ⟨(@z_q_hf_0 _ _ _ vi fa _ gx gm hF), (@z_q_hf_2 _ _ _ vi fa _ gx gm hF), (@z_q_hf_8 _ _ _ vi fa _ gx gm hF), (@z_q_hf_27 _ _ _ vi fa _ gx gm hF), (@z_q_hf_34 _ _ _ vi fa _ gx gm hF), (@z_q_hf_37 _ _ _ vi fa _ gx gm hF), (@z_q_hf_39 _ _ _ vi fa _ gx gm hF), (@z_q_hf_40 _ _ _ vi fa _ gx gm hF), (@z_q_hf_41 _ _ _ vi fa _ gx gm hF), (@z_q_hf_46 _ _ _ vi fa _ gx gm hF)⟩, ⟨(@z_q_hf_56 _ _ _ vi fa _ gx gm hF), (@z_q_hf_62 _ _ _ vi fa _ gx gm hF), (@z_q_hf_66 _ _ _ vi fa _ gx gm hF), (@z_q_hf_78 _ _ _ vi fa _ gx gm hF), (@z_q_hRx _ _ _ vi fa _ gx gm hF), (@z_q_hRm _ _ _ vi fa _ gx gm hF), (@z_q_hLow _ _ _ vi fa _ gx gm hF), (@z_q_hkg _ _ _ vi fa _ gx gm hF), (@z_q_hWD _ _ _ vi fa _ gx gm hF), (@z_q_hdr _ _ _ vi fa _ gx gm hF)⟩, ⟨(@z_q_hWX _ _ _ vi fa _ gx gm hF), (@z_q_hgx_0 _ _ _ vi fa _ gx gm hF), (@z_q_hgm_0 _ _ _ vi fa _ gx gm hF), (@z_q_hgx_1 _ _ _ vi fa _ gx gm hF), (@z_q_hgm_1 _ _ _ vi fa _ gx gm hF), (@z_q_hgx_2 _ _ _ vi fa _ gx gm hF), (@z_q_hgm_2 _ _ _ vi fa _ gx gm hF), (@z_q_hgx_3 _ _ _ vi fa _ gx gm hF), (@z_q_hgm_3 _ _ _ vi fa _ gx gm hF), (@z_q_hgx_4 _ _ _ vi fa _ gx gm hF)⟩, ⟨(@z_q_hgm_4 _ _ _ vi fa _ gx gm hF), (@z_q_hgx_5 _ _ _ vi fa _ gx gm hF), (@z_q_hgx_6 _ _ _ vi fa _ gx gm hF), (@z_q_hgx_7 _ _ _ vi fa _ gx gm hF), (@z_q_hgx_8 _ _ _ vi fa _ gx gm hF), (@z_q_hCAx _ _ _ vi fa _ gx gm hF), (@z_q_hGFx _ _ _ vi fa _ gx gm hF), (@z_q_hGFm _ _ _ vi fa _ gx gm hF), (@z_q_hNRm _ _ _ vi fa _ gx gm hF)⟩⟩, hP, hD⟩
  exact k r H1 locs trivial hI hS
set_option maxHeartbeats 4000000 in
set_option maxRecDepth 100000 in
theorem q_1318 {p : Program} {l : Launch} {e : Env} {s : State} {m : MethodId} {below : List Frame} {meth : Method} {c : Code} {dC : Nat → ClassId} {dI : Nat → Nat → Nat} {b L : Nat} {xs : Nat → Int32} {ad : Nat → Nat} {ca : Nat → ClassId} {sd sv : Nat → Nat} {sf : Value} (C0 : lw_At p s m meth c b L xs) (hK : va_K (dC, dI) vwCl (z_T ca) s) (hST : z_ST sd sv sf (fun q : Nat => s.heap.size ≤ q) s s.heap) {cells slots : Nat} (hc : cells ≤ 700) (hs : slots ≤ 38000) {H : Heap} {locs : List Loc} {ls : Array Slot} {lv : List (Nat × Value)} {gx gm : Nat → Nat → Int32} (hI : z_In dC dI (fun q : Nat => s.heap.size ≤ q) ad ca gx gm H) (hS : va_S (fun q : Nat => s.heap.size ≤ q) s.heap H locs) (hl : lv_has ls 7 lv) (p1 : Int32) (k : ∀ (r : Int32) (H1 : Heap) (locs : List Loc), True → z_In dC dI (fun q : Nat => s.heap.size ≤ q) ad ca gx gm H1 → va_S (fun q : Nat => s.heap.size ≤ q) s.heap H1 locs → W p l e room_1 s m #[Value.ref b] below meth c H1 locs (cells + 0) (slots + 0) (lw_Z below #[Value.ref b] s) (F0 m (1318 + 3) ls [.int r])) : W p l e room_1 s m #[Value.ref b] below meth c H locs cells slots (lw_Z below #[Value.ref b] s) (F0 m 1318 ls [.int p1, .ref (ad 57)]) := by
  obtain ⟨hx, hb, hr, hml, hown, hts, hX, hbl, hlocks, hgv⟩ := id C0
  have hown : s.vm.findClass RL = some m.cls := hown
  have hA : ∀ q : Nat, s.heap.size ≤ q → (fun q : Nat => s.heap.size ≤ q) q := fun _ h => h
  have hbA : ¬ (fun q : Nat => s.heap.size ≤ q) b := Nat.not_le.mpr hbl
  obtain ⟨dr, ru, vi, vl, fa, fl, kg, hF, hP, hD⟩ := id hI
  have hv_41 := z_q_hv_41 hF
  have hv_42 := z_q_hv_42 hF
  have hv_43 := z_q_hv_43 hF
  have hv_46 := z_q_hv_46 hF
  have hv_47 := z_q_hv_47 hF
  have hv_55 := z_q_hv_55 hF
  have hf_41 := z_q_hf_41 hF
  have hf_46 := z_q_hf_46 hF
  have hRm := z_q_hRm hF
  obtain ⟨hPc, hDc, hFc⟩ := z_sub3 (ws' := [((ad 57), .inr (12, [.ref (ad 58), .int (vi 39), .int (vi 40), .int (vi 41), .int (vi 42), .ref (ad 59), .ref (ad 60), .ref (ad 61), .ref (ad 62), .ref (ad 63), .ref (ad 64), .ref (ad 65), .ref (ad 66), .ref (ad 67), .ref (ad 68), .ref (ad 69), .int (vi 43), .int (vi 44), .int (vi 45), .int (vi 46), .ref (ad 70), .ref (ad 71), .ref (ad 72), .int (vi 47), .ref (ad 73), .ref (ad 74), .ref (ad 75), .ref (ad 76), .int (vi 48), .int (vi 49), .int (vi 50), .int (vi 51), .int (vi 52), .int (vi 53), .int (vi 54), .ref (ad 77), .ref (ad 78), .ref (ad 79), .ref (ad 80), .long (vl 2), .int (vi 55), .ref (ad 81), .ref (ad 82), .ref (ad 83), .int (vi 56), .int (vi 57), .int (vi 58), .int (vi 59), .ref (ad 84), .ref (ad 85), .ref (ad 86), .ref (ad 87), .ref (ad 88), .ref (ad 89), .ref (ad 90), .ref (ad 91), .ref (ad 92), .ref (ad 93), .int (vi 60), .ref (ad 94), .ref (ad 95), .int (vi 61), .ref (ad 96), .int (vi 62), .ref (ad 97), .int (vi 63), .int (vi 64), .int (vi 65), .int (vi 66), .ref (ad 98)])), ((ad 63), .inl ((ca 49), 80, .inl (fa 44))), ((ad 59), .inl ((ca 45), 80, .inl (fa 40))), ((ad 60), .inl ((ca 46), 80, .inl (fa 41))), ((ad 61), .inl ((ca 47), 80, .inl (fa 42))), ((ad 62), .inl ((ca 48), 80, .inl (fa 43))), ((ad 65), .inl ((ca 51), 12, .inl (fa 46))), ((ad 66), .inl ((ca 52), 144, .inl (fa 47))), ((ad 67), .inl ((ca 53), 12, .inl (fa 48))), ((ad 68), .inl ((ca 54), 12, .inl (fa 49))), ((ad 69), .inl ((ca 55), 12, .inl (fa 50)))]) hP hD hS hA [57, 63, 59, 60, 61, 62, 65, 66, 67, 68, 69] (by decide) rfl
  have hKc := hK.sub (tys' := [((ca 49), .boolean), ((ca 45), .int), ((ca 46), .int), ((ca 47), .int), ((ca 48), .int), ((ca 51), .int), ((ca 52), .boolean), ((ca 53), .int), ((ca 54), .int), ((ca 55), .int)]) [49, 45, 46, 47, 48, 51, 52, 53, 54, 55] rfl
  refine va_calli (va_runV (As := [.int p1]) (rest := []) ⟨hx, hb, hml, hown, hts⟩ (s_X12_count l dC dI H.size (ad 57) p1 (.ref (ad 58)) (.int (vi 39)) (vi 40) (vi 41) (vi 42) (ad 59) (ad 60) (ad 61) (ad 62) (ad 63) (.ref (ad 64)) (ad 65) (ad 66) (ad 67) (ad 68) (ad 69) (vi 43) (.int (vi 44)) (.int (vi 45)) (vi 46) (.ref (ad 70)) (.ref (ad 71)) (.ref (ad 72)) (vi 47) (.ref (ad 73)) (.ref (ad 74)) (.ref (ad 75)) (.ref (ad 76)) (.int (vi 48)) (.int (vi 49)) (.int (vi 50)) (.int (vi 51)) (.int (vi 52)) (.int (vi 53)) (.int (vi 54)) (.ref (ad 77)) (.ref (ad 78)) (.ref (ad 79)) (.ref (ad 80)) (.long (vl 2)) (vi 55) (.ref (ad 81)) (.ref (ad 82)) (.ref (ad 83)) (vi 56) (.int (vi 57)) (vi 58) (.int (vi 59)) (.ref (ad 84)) (.ref (ad 85)) (.ref (ad 86)) (.ref (ad 87)) (.ref (ad 88)) (.ref (ad 89)) (.ref (ad 90)) (.ref (ad 91)) (.ref (ad 92)) (.ref (ad 93)) (.int (vi 60)) (.ref (ad 94)) (.ref (ad 95)) (.int (vi 61)) (.ref (ad 96)) (.int (vi 62)) (.ref (ad 97)) (.int (vi 63)) (.int (vi 64)) (.int (vi 65)) (.int (vi 66)) (.ref (ad 98)) (ca 49) (fa 44) (ca 45) (fa 40) (ca 46) (fa 41) (ca 47) (fa 42) (ca 48) (fa 43) (ca 51) (fa 46) (ca 52) (fa 47) (ca 53) (fa 48) (ca 54) (fa 49) (ca 55) (fa 50) hv_42 hv_41 hv_43 hv_46 hv_47 hv_55 hf_41 hf_46 hRm) (cwV 1 hts gw_law_s_X12_count_139 rfl rfl rfl (by decide +kernel) ⟨Nat.le_of_ble_eq_true rfl, Nat.le_of_ble_eq_true rfl⟩) ⟨z_blind, va_recv hKc hPc (ci := 12) (q0 := 0) rfl rfl, z_pre hPc hKc hDc⟩ rfl rfl hl.1 rfl (lv_room (Nat.le_of_ble_eq_true rfl)) dL_law_1318 ⟨(show cells + 0 ≤ 1125 by omega), (show slots + 0 ≤ 39162 by omega)⟩) hS (fun q _ h => hFc q h) hFc (fun r u t H1 locs ht hvm hw hB hz1 hk1 hS => ?_)
  obtain ⟨n_h0_thrown_1, n_h0_quarrelNow_2, g_hct_3, g_hbd_4, g_hlt_5, g_hrk_6, g_hfi_7, g_hla_8, hp_9, hp_10, hP1, hK1, hD1⟩ := hB
  rw [ht] at hP1
  have hq : z_PD (dC, dI) vwCl (fun q : Nat => s.heap.size ≤ q) (z_W ad ca dr ru (fun j9 : Nat => (cond (Nat.ble j9 40) (cond (Nat.beq j9 40) n_h0_thrown_1 (vi j9)) (cond (Nat.beq j9 43) n_h0_quarrelNow_2 (vi j9)))) vl (fun j9 : Nat => (cond (Nat.ble j9 47) (cond (Nat.ble j9 44) (cond (Nat.beq j9 44) g_hct_3 (fa j9)) (cond (Nat.ble j9 46) (cond (Nat.beq j9 46) g_hbd_4 (fa j9)) (cond (Nat.beq j9 47) g_hlt_5 (fa j9)))) (cond (Nat.ble j9 48) (cond (Nat.beq j9 48) g_hrk_6 (fa j9)) (cond (Nat.ble j9 49) (cond (Nat.beq j9 49) g_hfi_7 (fa j9)) (cond (Nat.beq j9 50) g_hla_8 (fa j9)))))) fl) H1 := z_put3 (wc := [((ad 57), .inr (12, [.ref (ad 58), .int (vi 39), .int (vi 40), .int (vi 41), .int (vi 42), .ref (ad 59), .ref (ad 60), .ref (ad 61), .ref (ad 62), .ref (ad 63), .ref (ad 64), .ref (ad 65), .ref (ad 66), .ref (ad 67), .ref (ad 68), .ref (ad 69), .int (vi 43), .int (vi 44), .int (vi 45), .int (vi 46), .ref (ad 70), .ref (ad 71), .ref (ad 72), .int (vi 47), .ref (ad 73), .ref (ad 74), .ref (ad 75), .ref (ad 76), .int (vi 48), .int (vi 49), .int (vi 50), .int (vi 51), .int (vi 52), .int (vi 53), .int (vi 54), .ref (ad 77), .ref (ad 78), .ref (ad 79), .ref (ad 80), .long (vl 2), .int (vi 55), .ref (ad 81), .ref (ad 82), .ref (ad 83), .int (vi 56), .int (vi 57), .int (vi 58), .int (vi 59), .ref (ad 84), .ref (ad 85), .ref (ad 86), .ref (ad 87), .ref (ad 88), .ref (ad 89), .ref (ad 90), .ref (ad 91), .ref (ad 92), .ref (ad 93), .int (vi 60), .ref (ad 94), .ref (ad 95), .int (vi 61), .ref (ad 96), .int (vi 62), .ref (ad 97), .int (vi 63), .int (vi 64), .int (vi 65), .int (vi 66), .ref (ad 98)])), ((ad 63), .inl ((ca 49), 80, .inl (fa 44))), ((ad 59), .inl ((ca 45), 80, .inl (fa 40))), ((ad 60), .inl ((ca 46), 80, .inl (fa 41))), ((ad 61), .inl ((ca 47), 80, .inl (fa 42))), ((ad 62), .inl ((ca 48), 80, .inl (fa 43))), ((ad 65), .inl ((ca 51), 12, .inl (fa 46))), ((ad 66), .inl ((ca 52), 144, .inl (fa 47))), ((ad 67), .inl ((ca 53), 12, .inl (fa 48))), ((ad 68), .inl ((ca 54), 12, .inl (fa 49))), ((ad 69), .inl ((ca 55), 12, .inl (fa 50)))]) (n := 11) hP hD [57, 63, 59, 60, 61, 62, 65, 66, 67, 68, 69] rfl hk1 hP1 rfl [none, none, none, none, none, none, none, none, none, none, none, none, none, none, none, none, none, none, none, none, none, none, none, none, none, none, none, none, none, none, none, none, none, none, none, none, none, none, none, none, none, none, none, none, none, none, none, none, none, none, none, none, none, none, none, none, none, some 0, none, some 2, some 3, some 4, some 5, some 1, none, some 6, some 7, some 8, some 9, some 10, none, none, none, none, none, none, none, none, none, none, none, none, none, none, none, none, none, none, none, none, none, none, none, none, none, none, none, none, none, none] rfl (by decide +kernel) rfl
  have hI : z_In dC dI (fun q : Nat => s.heap.size ≤ q) ad ca gx gm H1 := ⟨dr, ru, (fun j9 : Nat => (cond (Nat.ble j9 40) (cond (Nat.beq j9 40) n_h0_thrown_1 (vi j9)) (cond (Nat.beq j9 43) n_h0_quarrelNow_2 (vi j9)))), vl, (fun j9 : Nat => (cond (Nat.ble j9 47) (cond (Nat.ble j9 44) (cond (Nat.beq j9 44) g_hct_3 (fa j9)) (cond (Nat.ble j9 46) (cond (Nat.beq j9 46) g_hbd_4 (fa j9)) (cond (Nat.beq j9 47) g_hlt_5 (fa j9)))) (cond (Nat.ble j9 48) (cond (Nat.beq j9 48) g_hrk_6 (fa j9)) (cond (Nat.ble j9 49) (cond (Nat.beq j9 49) g_hfi_7 (fa j9)) (cond (Nat.beq j9 50) g_hla_8 (fa j9)))))), fl, kg, ⟨⟨(@z_q_hv_0 _ _ _ vi fa _ gx gm hF), (@z_q_hv_1 _ _ _ vi fa _ gx gm hF), (@z_q_hv_3 _ _ _ vi fa _ gx gm hF), (@z_q_hv_4 _ _ _ vi fa _ gx gm hF), (@z_q_hv_5 _ _ _ vi fa _ gx gm hF), (@z_q_hv_10 _ _ _ vi fa _ gx gm hF), (@z_q_hv_11 _ _ _ vi fa _ gx gm hF), (@z_q_hv_12 _ _ _ vi fa _ gx gm hF), (@z_q_hv_13 _ _ _ vi fa _ gx gm hF), (@z_q_hv_14 _ _ _ vi fa _ gx gm hF)⟩, ⟨(@z_q_hv_15 _ _ _ vi fa _ gx gm hF), (@z_q_hv_16 _ _ _ vi fa _ gx gm hF), (@z_q_hv_17 _ _ _ vi fa _ gx gm hF), (@z_q_hv_21 _ _ _ vi fa _ gx gm hF), (@z_q_hv_23 _ _ _ vi fa _ gx gm hF), (@z_q_hv_28 _ _ _ vi fa _ gx gm hF), (@z_q_hv_29 _ _ _ vi fa _ gx gm hF), (@z_q_hv_30 _ _ _ vi fa _ gx gm hF), (@z_q_hv_31 _ _ _ vi fa _ gx gm hF), (@z_q_hv_32 _ _ _ vi fa _ gx gm hF)⟩, ⟨(@z_q_hv_33 _ _ _ vi fa _ gx gm hF), (@z_q_hv_34 _ _ _ vi fa _ gx gm hF), (@z_q_hv_35 _ _ _ vi fa _ gx gm hF), (@z_q_hv_36 _ _ _ vi fa _ gx gm hF), (@z_q_hv_37 _ _ _ vi fa _ gx gm hF), (@z_q_hv_38 _ _ _ vi fa _ gx gm hF), (@z_q_hv_39 _ _ _ vi fa _ gx gm hF), (@z_q_hv_41 _ _ _ vi fa _ gx gm hF), (@z_q_hv_42 _ _ _ vi fa _ gx gm hF), hp_9⟩, ⟨(@z_q_hv_44 _ _ _ vi fa _ gx gm hF), (@z_q_hv_45 _ _ _ vi fa _ gx gm hF), (@z_q_hv_46 _ _ _ vi fa _ gx gm hF), (@z_q_hv_47 _ _ _ vi fa _ gx gm hF), (@z_q_hv_50 _ _ _ vi fa _ gx gm hF), (@z_q_hv_51 _ _ _ vi fa _ gx gm hF), (@z_q_hv_52 _ _ _ vi fa _ gx gm hF), (@z_q_hv_54 _ _ _ vi fa _ gx gm hF), (@z_q_hv_55 _ _ _ vi fa _ gx gm hF), (@z_q_hv_56 _ _ _ vi fa _ gx gm hF)⟩, ⟨(@z_q_hv_57 _ _ _ vi fa _ gx gm hF), (@z_q_hv_58 _ _ _ vi fa _ gx gm hF), (@z_q_hv_59 _ _ _ vi fa _ gx gm hF), (@z_q_hv_60 _ _ _ vi fa _ gx gm hF), (@z_q_hv_61 _ _ _ vi fa _ gx gm hF), (@z_q_hv_62 _ _ _ vi fa _ gx gm hF), (@z_q_hv_63 _ _ _ vi fa _ gx gm hF), (@z_q_hv_64 _ _ _ vi fa _ gx gm hF), (@z_q_hv_65 _ _ _ vi fa _ gx gm hF), (@z_q_hv_66 _ _ _ vi fa _ gx gm hF)⟩, ⟨(@z_q_hf_0 _ _ _ vi fa _ gx gm hF), (@z_q_hf_2 _ _ _ vi fa _ gx gm hF), (@z_q_hf_8 _ _ _ vi fa _ gx gm hF), (@z_q_hf_27 _ _ _ vi fa _ gx gm hF), (@z_q_hf_34 _ _ _ vi fa _ gx gm hF), (@z_q_hf_37 _ _ _ vi fa _ gx gm hF), (@z_q_hf_39 _ _ _ vi fa _ gx gm hF), (@z_q_hf_40 _ _ _ vi fa _ gx gm hF), (@z_q_hf_41 _ _ _ vi fa _ gx gm hF), hp_10⟩, ⟨(@z_q_hf_56 _ _ _ vi fa _ gx gm hF), (@z_q_hf_62 _ _ _ vi fa _ gx gm hF), (@z_q_hf_66 _ _ _ vi fa _ gx gm hF), (@z_q_hf_78 _ _ _ vi fa _ gx gm hF), (@z_q_hRx _ _ _ vi fa _ gx gm hF), (@z_q_hRm _ _ _ vi fa _ gx gm hF), (@z_q_hLow _ _ _ vi fa _ gx gm hF), (@z_q_hkg _ _ _ vi fa _ gx gm hF), (@z_q_hWD _ _ _ vi fa _ gx gm hF), (@z_q_hdr _ _ _ vi fa _ gx gm hF)⟩, ⟨(@z_q_hWX _ _ _ vi fa _ gx gm hF), (@z_q_hgx_0 _ _ _ vi fa _ gx gm hF), (@z_q_hgm_0 _ _ _ vi fa _ gx gm hF), (@z_q_hgx_1 _ _ _ vi fa _ gx gm hF), (@z_q_hgm_1 _ _ _ vi fa _ gx gm hF), (@z_q_hgx_2 _ _ _ vi fa _ gx gm hF), (@z_q_hgm_2 _ _ _ vi fa _ gx gm hF), (@z_q_hgx_3 _ _ _ vi fa _ gx gm hF), (@z_q_hgm_3 _ _ _ vi fa _ gx gm hF), (@z_q_hgx_4 _ _ _ vi fa _ gx gm hF)⟩, ⟨(@z_q_hgm_4 _ _ _ vi fa _ gx gm hF), (@z_q_hgx_5 _ _ _ vi fa _ gx gm hF), (@z_q_hgx_6 _ _ _ vi fa _ gx gm hF), (@z_q_hgx_7 _ _ _ vi fa _ gx gm hF), (@z_q_hgx_8 _ _ _ vi fa _ gx gm hF), (@z_q_hCAx _ _ _ vi fa _ gx gm hF), (@z_q_hGFx _ _ _ vi fa _ gx gm hF), (@z_q_hGFm _ _ _ vi fa _ gx gm hF), (@z_q_hNRm _ _ _ vi fa _ gx gm hF)⟩⟩, hq.1, hq.2⟩
  exact k r H1 locs trivial hI hS
set_option maxHeartbeats 4000000 in
set_option maxRecDepth 100000 in
theorem q_1306_in {p : Program} {l : Launch} {e : Env} {s : State} {m : MethodId} {below : List Frame} {meth : Method} {c : Code} {dC : Nat → ClassId} {dI : Nat → Nat → Nat} {b L : Nat} {xs : Nat → Int32} {ad : Nat → Nat} {ca : Nat → ClassId} {sd sv : Nat → Nat} {sf : Value} (C0 : lw_At p s m meth c b L xs) (hK : va_K (dC, dI) vwCl (z_T ca) s) (hST : z_ST sd sv sf (fun q : Nat => s.heap.size ≤ q) s s.heap) {cells slots : Nat} (hc : cells ≤ 700) (hs : slots ≤ 38000) {H : Heap} {locs : List Loc} {ls : Array Slot} {lv : List (Nat × Value)} {gx gm : Nat → Nat → Int32} (hI : z_In dC dI (fun q : Nat => s.heap.size ≤ q) ad ca gx gm H) (hS : va_S (fun q : Nat => s.heap.size ≤ q) s.heap H locs) (hl : lv_has ls 7 lv) (p1 : Int32) (hqc : 0 ≤ (p1).toInt ∧ (p1).toInt ≤ 7) (k : ∀ (r : Int32) (H1 : Heap) (locs : List Loc), True → z_In dC dI (fun q : Nat => s.heap.size ≤ q) ad ca gx gm H1 → va_S (fun q : Nat => s.heap.size ≤ q) s.heap H1 locs → W p l e room_1 s m #[Value.ref b] below meth c H1 locs (cells + 0) (slots + 0) (lw_Z below #[Value.ref b] s) (F0 m (1306 + 3) ls [.int r])) : W p l e room_1 s m #[Value.ref b] below meth c H locs cells slots (lw_Z below #[Value.ref b] s) (F0 m 1306 ls [.ref (ad 99), .int p1, .ref (ad 0)]) := by
  obtain ⟨hx, hb, hr, hml, hown, hts, hX, hbl, hlocks, hgv⟩ := id C0
  have hown : s.vm.findClass RL = some m.cls := hown
  have hA : ∀ q : Nat, s.heap.size ≤ q → (fun q : Nat => s.heap.size ≤ q) q := fun _ h => h
  have hbA : ¬ (fun q : Nat => s.heap.size ≤ q) b := Nat.not_le.mpr hbl
  obtain ⟨dr, ru, vi, vl, fa, fl, kg, hF, hP, hD⟩ := id hI
  have hv_0 := z_q_hv_0 hF
  have hv_1 := z_q_hv_1 hF
  have hv_3 := z_q_hv_3 hF
  have hv_4 := z_q_hv_4 hF
  have hv_5 := z_q_hv_5 hF
  have hv_10 := z_q_hv_10 hF
  have hv_11 := z_q_hv_11 hF
  have hv_12 := z_q_hv_12 hF
  have hv_13 := z_q_hv_13 hF
  have hv_14 := z_q_hv_14 hF
  have hv_15 := z_q_hv_15 hF
  have hv_16 := z_q_hv_16 hF
  have hv_17 := z_q_hv_17 hF
  have hv_21 := z_q_hv_21 hF
  have hv_23 := z_q_hv_23 hF
  have hv_28 := z_q_hv_28 hF
  have hv_29 := z_q_hv_29 hF
  have hv_30 := z_q_hv_30 hF
  have hv_31 := z_q_hv_31 hF
  have hv_32 := z_q_hv_32 hF
  have hv_33 := z_q_hv_33 hF
  have hv_34 := z_q_hv_34 hF
  have hv_35 := z_q_hv_35 hF
  have hv_36 := z_q_hv_36 hF
  have hv_37 := z_q_hv_37 hF
  have hv_38 := z_q_hv_38 hF
  have hv_39 := z_q_hv_39 hF
  have hv_41 := z_q_hv_41 hF
  have hv_42 := z_q_hv_42 hF
  have hv_43 := z_q_hv_43 hF
  have hv_44 := z_q_hv_44 hF
  have hv_45 := z_q_hv_45 hF
  have hv_46 := z_q_hv_46 hF
  have hv_47 := z_q_hv_47 hF
  have hv_50 := z_q_hv_50 hF
  have hv_51 := z_q_hv_51 hF
  have hv_52 := z_q_hv_52 hF
  have hv_54 := z_q_hv_54 hF
  have hv_55 := z_q_hv_55 hF
  have hv_56 := z_q_hv_56 hF
  have hv_57 := z_q_hv_57 hF
  have hv_58 := z_q_hv_58 hF
  have hv_59 := z_q_hv_59 hF
  have hv_60 := z_q_hv_60 hF
  have hv_61 := z_q_hv_61 hF
  have hv_62 := z_q_hv_62 hF
  have hv_63 := z_q_hv_63 hF
  have hv_64 := z_q_hv_64 hF
  have hv_65 := z_q_hv_65 hF
  have hv_66 := z_q_hv_66 hF
  have hf_2 := z_q_hf_2 hF
  have hf_8 := z_q_hf_8 hF
  have hRx := z_q_hRx hF
  have hgx_0 := z_q_hgx_0 hF
  have hgx_1 := z_q_hgx_1 hF
  have hgx_5 := z_q_hgx_5 hF
  have hgx_6 := z_q_hgx_6 hF
  have hgx_7 := z_q_hgx_7 hF
  have hgx_8 := z_q_hgx_8 hF
  have hCAx := z_q_hCAx hF
  have hGFx := z_q_hGFx hF
  rcases (z_q_hdr hF) with ⟨h9, h8⟩ | ⟨h9, h8⟩
  · subst h9; subst h8
    obtain ⟨hPc, hDc, hFc⟩ := z_sub3 (ws' := [((ad 0), .inr (11, [.ref (ad 1), .ref (ad 3), .ref (ad 8), .ref (ad 15), .ref (ad 21), .ref (ad 29), .ref (ad 36), .ref (ad 40), .ref (ad 41), .ref (ad 53)])), ((ad 8), .inr (4, [.ref (ad 3), .int (vi 12), .int (vi 13), .ref (ad 9), .ref (ad 10), .ref (ad 11), .ref (ad 12), .ref (ad 13), .ref (ad 14), .int (vi 14)])), ((ad 3), .inr (0, [.ref (ad 4), .ref (ad 5), .ref (ad 6), .ref (ad 7), .int (vi 10), .int (vi 11)])), ((ad 9), .inl ((ca 5), 80, .inl (fa 5))), ((ad 4), .inl ((ca 1), 80, .inl (fa 1))), ((ad 5), .inl ((ca 2), 80, .inl (fa 2))), ((ad 6), .inl ((ca 3), 80, .inl (fa 3))), ((ad 7), .inl ((ca 4), 80, .inl (fa 4))), ((ad 12), .inl ((ca 8), 12, .inl (fa 8))), ((ad 10), .inl ((ca 6), 12, .inl (fa 6))), ((ad 11), .inl ((ca 7), 12, .inl (fa 7))), ((ad 13), .inl ((ca 9), 12, .inl (fa 9))), ((ad 14), .inl ((ca 10), 12, .inl (fa 10))), ((ad 15), .inr (2, [.int (vi 15), .int (vi 16), .ref (ad 16), .ref (ad 17), .ref (ad 18), .ref (ad 19), .ref (ad 20), .int (vi 17), .int (vi 18), .int (vi 19), .int (vi 20)])), ((ad 21), .inr (5, [.ref (ad 22), .ref (ad 23), .ref (ad 24), .ref (ad 25), .ref (ad 26), .ref (ad 27), .ref (ad 28), .long (vl 0), .long (vl 1), .int (vi 21)])), ((ad 36), .inr (9, [.ref (ad 37), .ref (ad 38), .ref (ad 39), .int (vi 23)])), ((ad 41), .inr (8, [.ref (ad 1), .ref (ad 42), .ref (ad 43), .ref (ad 44), .int (vi 28), .int (vi 29), .int (vi 30), .ref (ad 45), .ref (ad 49)])), ((ad 49), .inr (7, [.ref (ad 50), .ref (ad 51), .ref (ad 52), .int (vi 34), .int (vi 35), .int (vi 36)])), ((ad 99), .inl ((ca 85), 1, .inr (.inl (fl 6))))]) hP hD hS hA [0, 8, 3, 9, 4, 5, 6, 7, 12, 10, 11, 13, 14, 15, 21, 36, 41, 49, 99] (by decide) rfl
    have hKc := hK.sub (tys' := [((ca 5), .boolean), ((ca 1), .int), ((ca 2), .int), ((ca 3), .int), ((ca 4), .int), ((ca 8), .int), ((ca 6), .int), ((ca 7), .int), ((ca 9), .int), ((ca 10), .int), ((ca 85), .long)]) [5, 1, 2, 3, 4, 8, 6, 7, 9, 10, 85] rfl
    refine va_calli (vx_runSW (As := [.ref (ad 0), .int p1, .ref (ad 99)]) (rest := []) ⟨hx, hb, hml, hown, hts⟩ (s_L_count_inK l dC dI H.size (ad 0) p1 (ad 99) (.ref (ad 1)) (ad 3) (ad 8) (ad 15) (ad 21) (.ref (ad 29)) (ad 36) (.ref (ad 40)) (ad 41) (.ref (ad 53)) (vi 12) (vi 13) (ad 9) (ad 10) (ad 11) (ad 12) (ad 13) (ad 14) (vi 14) (ad 4) (ad 5) (ad 6) (ad 7) (vi 10) (vi 11) (ca 5) (fa 5) (ca 1) (fa 1) (ca 2) (fa 2) (ca 3) (fa 3) (ca 4) (fa 4) (ca 8) (fa 8) (ca 6) (fa 6) (ca 7) (fa 7) (ca 9) (fa 9) (ca 10) (fa 10) (.int (vi 15)) (.int (vi 16)) (.ref (ad 16)) (.ref (ad 17)) (.ref (ad 18)) (.ref (ad 19)) (.ref (ad 20)) (vi 17) (.int (vi 18)) (.int (vi 19)) (.int (vi 20)) (.ref (ad 22)) (.ref (ad 23)) (.ref (ad 24)) (.ref (ad 25)) (.ref (ad 26)) (.ref (ad 27)) (.ref (ad 28)) (.long (vl 0)) (.long (vl 1)) (vi 21) (.ref (ad 37)) (.ref (ad 38)) (.ref (ad 39)) (vi 23) (.ref (ad 1)) (.ref (ad 42)) (.ref (ad 43)) (.ref (ad 44)) (.int (vi 28)) (.int (vi 29)) (.int (vi 30)) (.ref (ad 45)) (ad 49) (.ref (ad 50)) (.ref (ad 51)) (.ref (ad 52)) (.int (vi 34)) (vi 35) (vi 36) (ca 85) (fl 6) hv_12 hv_13 hv_14 hv_11 hv_10 (by omega) hf_2 hf_8 hRx (by rw [hgx_5, hgx_6, hgx_7, hgx_8, hgx_0]; exact hCAx) (by rw [hgx_5, hgx_6, hgx_7, hgx_0, hgx_1]; exact hGFx)) (vx_cwSW (hh := [(0, 9, 12, 13)]) 3 hts gw_law_s_L_count_inK_134 rfl rfl rfl (by decide +kernel) ⟨Nat.le_of_ble_eq_true rfl, Nat.le_of_ble_eq_true rfl⟩) ⟨z_blind, z_pre hPc hKc hDc⟩ rfl rfl hl.1 rfl (lv_room (Nat.le_of_ble_eq_true rfl)) dL_law_1306 ⟨(show cells + 0 ≤ 1125 by omega), (show slots + 0 ≤ 39162 by omega)⟩) hS (fun q _ h => hFc q h) hFc (fun r u t H1 locs ht hvm hw hB hz1 hk1 hS => ?_)
    obtain ⟨n_hkn_notesSeen_1, n_hkn_layersSeen_2, n_hkn_clash_3, g_hk9_4, g_hbd_5, g_hlt_6, g_hrk_7, g_hle_8, g_hgr_9, g_ho_10, hp_11, hp_12, hp_13, hp_14, hp_15, hP1, hK1, hD1⟩ := hB
    rw [ht] at hP1
    have hq : z_PD (dC, dI) vwCl (fun q : Nat => s.heap.size ≤ q) (z_W ad ca (ad 45) (ad 49) (fun j9 : Nat => (cond (Nat.ble j9 12) (cond (Nat.beq j9 12) n_hkn_notesSeen_1 (vi j9)) (cond (Nat.ble j9 13) (cond (Nat.beq j9 13) n_hkn_layersSeen_2 (vi j9)) (cond (Nat.beq j9 14) n_hkn_clash_3 (vi j9))))) vl (fun j9 : Nat => (cond (Nat.ble j9 7) (cond (Nat.ble j9 5) (cond (Nat.beq j9 5) g_hk9_4 (fa j9)) (cond (Nat.ble j9 6) (cond (Nat.beq j9 6) g_hlt_6 (fa j9)) (cond (Nat.beq j9 7) g_hrk_7 (fa j9)))) (cond (Nat.ble j9 8) (cond (Nat.beq j9 8) g_hbd_5 (fa j9)) (cond (Nat.ble j9 9) (cond (Nat.beq j9 9) g_hle_8 (fa j9)) (cond (Nat.beq j9 10) g_hgr_9 (fa j9)))))) (z_upG fl 6 g_ho_10)) H1 := z_put3 (wc := [((ad 0), .inr (11, [.ref (ad 1), .ref (ad 3), .ref (ad 8), .ref (ad 15), .ref (ad 21), .ref (ad 29), .ref (ad 36), .ref (ad 40), .ref (ad 41), .ref (ad 53)])), ((ad 8), .inr (4, [.ref (ad 3), .int (vi 12), .int (vi 13), .ref (ad 9), .ref (ad 10), .ref (ad 11), .ref (ad 12), .ref (ad 13), .ref (ad 14), .int (vi 14)])), ((ad 3), .inr (0, [.ref (ad 4), .ref (ad 5), .ref (ad 6), .ref (ad 7), .int (vi 10), .int (vi 11)])), ((ad 9), .inl ((ca 5), 80, .inl (fa 5))), ((ad 4), .inl ((ca 1), 80, .inl (fa 1))), ((ad 5), .inl ((ca 2), 80, .inl (fa 2))), ((ad 6), .inl ((ca 3), 80, .inl (fa 3))), ((ad 7), .inl ((ca 4), 80, .inl (fa 4))), ((ad 12), .inl ((ca 8), 12, .inl (fa 8))), ((ad 10), .inl ((ca 6), 12, .inl (fa 6))), ((ad 11), .inl ((ca 7), 12, .inl (fa 7))), ((ad 13), .inl ((ca 9), 12, .inl (fa 9))), ((ad 14), .inl ((ca 10), 12, .inl (fa 10))), ((ad 15), .inr (2, [.int (vi 15), .int (vi 16), .ref (ad 16), .ref (ad 17), .ref (ad 18), .ref (ad 19), .ref (ad 20), .int (vi 17), .int (vi 18), .int (vi 19), .int (vi 20)])), ((ad 21), .inr (5, [.ref (ad 22), .ref (ad 23), .ref (ad 24), .ref (ad 25), .ref (ad 26), .ref (ad 27), .ref (ad 28), .long (vl 0), .long (vl 1), .int (vi 21)])), ((ad 36), .inr (9, [.ref (ad 37), .ref (ad 38), .ref (ad 39), .int (vi 23)])), ((ad 41), .inr (8, [.ref (ad 1), .ref (ad 42), .ref (ad 43), .ref (ad 44), .int (vi 28), .int (vi 29), .int (vi 30), .ref (ad 45), .ref (ad 49)])), ((ad 49), .inr (7, [.ref (ad 50), .ref (ad 51), .ref (ad 52), .int (vi 34), .int (vi 35), .int (vi 36)])), ((ad 99), .inl ((ca 85), 1, .inr (.inl (fl 6))))]) (n := 19) hP hD [0, 8, 3, 9, 4, 5, 6, 7, 12, 10, 11, 13, 14, 15, 21, 36, 41, 49, 99] rfl hk1 hP1 rfl [some 0, none, none, some 2, some 4, some 5, some 6, some 7, some 1, some 3, some 9, some 10, some 8, some 11, some 12, some 13, none, none, none, none, none, some 14, none, none, none, none, none, none, none, none, none, none, none, none, none, none, some 15, none, none, none, none, some 16, none, none, none, none, none, none, none, some 17, none, none, none, none, none, none, none, none, none, none, none, none, none, none, none, none, none, none, none, none, none, none, none, none, none, none, none, none, none, none, none, none, none, none, none, none, none, none, none, none, none, none, none, none, none, none, none, none, none, some 18] rfl (by decide +kernel) rfl
    have hI : z_In dC dI (fun q : Nat => s.heap.size ≤ q) ad ca gx gm H1 := ⟨(ad 45), (ad 49), (fun j9 : Nat => (cond (Nat.ble j9 12) (cond (Nat.beq j9 12) n_hkn_notesSeen_1 (vi j9)) (cond (Nat.ble j9 13) (cond (Nat.beq j9 13) n_hkn_layersSeen_2 (vi j9)) (cond (Nat.beq j9 14) n_hkn_clash_3 (vi j9))))), vl, (fun j9 : Nat => (cond (Nat.ble j9 7) (cond (Nat.ble j9 5) (cond (Nat.beq j9 5) g_hk9_4 (fa j9)) (cond (Nat.ble j9 6) (cond (Nat.beq j9 6) g_hlt_6 (fa j9)) (cond (Nat.beq j9 7) g_hrk_7 (fa j9)))) (cond (Nat.ble j9 8) (cond (Nat.beq j9 8) g_hbd_5 (fa j9)) (cond (Nat.ble j9 9) (cond (Nat.beq j9 9) g_hle_8 (fa j9)) (cond (Nat.beq j9 10) g_hgr_9 (fa j9)))))), (z_upG fl 6 g_ho_10), kg, ⟨⟨(@z_q_hv_0 _ _ _ vi fa _ gx gm hF), (@z_q_hv_1 _ _ _ vi fa _ gx gm hF), (@z_q_hv_3 _ _ _ vi fa _ gx gm hF), (@z_q_hv_4 _ _ _ vi fa _ gx gm hF), (@z_q_hv_5 _ _ _ vi fa _ gx gm hF), (@z_q_hv_10 _ _ _ vi fa _ gx gm hF), (@z_q_hv_11 _ _ _ vi fa _ gx gm hF), hp_11, hp_12, hp_13⟩, ⟨(@z_q_hv_15 _ _ _ vi fa _ gx gm hF), (@z_q_hv_16 _ _ _ vi fa _ gx gm hF), (@z_q_hv_17 _ _ _ vi fa _ gx gm hF), (@z_q_hv_21 _ _ _ vi fa _ gx gm hF), (@z_q_hv_23 _ _ _ vi fa _ gx gm hF), (@z_q_hv_28 _ _ _ vi fa _ gx gm hF), (@z_q_hv_29 _ _ _ vi fa _ gx gm hF), (@z_q_hv_30 _ _ _ vi fa _ gx gm hF), (@z_q_hv_31 _ _ _ vi fa _ gx gm hF), (@z_q_hv_32 _ _ _ vi fa _ gx gm hF)⟩, ⟨(@z_q_hv_33 _ _ _ vi fa _ gx gm hF), (@z_q_hv_34 _ _ _ vi fa _ gx gm hF), (@z_q_hv_35 _ _ _ vi fa _ gx gm hF), (@z_q_hv_36 _ _ _ vi fa _ gx gm hF), (@z_q_hv_37 _ _ _ vi fa _ gx gm hF), (@z_q_hv_38 _ _ _ vi fa _ gx gm hF), (@z_q_hv_39 _ _ _ vi fa _ gx gm hF), (@z_q_hv_41 _ _ _ vi fa _ gx gm hF), (@z_q_hv_42 _ _ _ vi fa _ gx gm hF), (@z_q_hv_43 _ _ _ vi fa _ gx gm hF)⟩, ⟨(@z_q_hv_44 _ _ _ vi fa _ gx gm hF), (@z_q_hv_45 _ _ _ vi fa _ gx gm hF), (@z_q_hv_46 _ _ _ vi fa _ gx gm hF), (@z_q_hv_47 _ _ _ vi fa _ gx gm hF), (@z_q_hv_50 _ _ _ vi fa _ gx gm hF), (@z_q_hv_51 _ _ _ vi fa _ gx gm hF), (@z_q_hv_52 _ _ _ vi fa _ gx gm hF), (@z_q_hv_54 _ _ _ vi fa _ gx gm hF), (@z_q_hv_55 _ _ _ vi fa _ gx gm hF), (@z_q_hv_56 _ _ _ vi fa _ gx gm hF)⟩, ⟨(@z_q_hv_57 _ _ _ vi fa _ gx gm hF), (@z_q_hv_58 _ _ _ vi fa _ gx gm hF), (@z_q_hv_59 _ _ _ vi fa _ gx gm hF), (@z_q_hv_60 _ _ _ vi fa _ gx gm hF), (@z_q_hv_61 _ _ _ vi fa _ gx gm hF), (@z_q_hv_62 _ _ _ vi fa _ gx gm hF), (@z_q_hv_63 _ _ _ vi fa _ gx gm hF), (@z_q_hv_64 _ _ _ vi fa _ gx gm hF), (@z_q_hv_65 _ _ _ vi fa _ gx gm hF), (@z_q_hv_66 _ _ _ vi fa _ gx gm hF)⟩, ⟨(@z_q_hf_0 _ _ _ vi fa _ gx gm hF), (@z_q_hf_2 _ _ _ vi fa _ gx gm hF), hp_14, (@z_q_hf_27 _ _ _ vi fa _ gx gm hF), (@z_q_hf_34 _ _ _ vi fa _ gx gm hF), (@z_q_hf_37 _ _ _ vi fa _ gx gm hF), (@z_q_hf_39 _ _ _ vi fa _ gx gm hF), (@z_q_hf_40 _ _ _ vi fa _ gx gm hF), (@z_q_hf_41 _ _ _ vi fa _ gx gm hF), (@z_q_hf_46 _ _ _ vi fa _ gx gm hF)⟩, ⟨(@z_q_hf_56 _ _ _ vi fa _ gx gm hF), (@z_q_hf_62 _ _ _ vi fa _ gx gm hF), (@z_q_hf_66 _ _ _ vi fa _ gx gm hF), (@z_q_hf_78 _ _ _ vi fa _ gx gm hF), (@z_q_hRx _ _ _ vi fa _ gx gm hF), (@z_q_hRm _ _ _ vi fa _ gx gm hF), (@z_q_hLow _ _ _ vi fa _ gx gm hF), (@z_q_hkg _ _ _ vi fa _ gx gm hF), (@z_q_hWD _ _ _ vi fa _ gx gm hF), Or.inl ⟨rfl, rfl⟩⟩, ⟨(@z_q_hWX _ _ _ vi fa _ gx gm hF), (@z_q_hgx_0 _ _ _ vi fa _ gx gm hF), (@z_q_hgm_0 _ _ _ vi fa _ gx gm hF), (@z_q_hgx_1 _ _ _ vi fa _ gx gm hF), (@z_q_hgm_1 _ _ _ vi fa _ gx gm hF), (@z_q_hgx_2 _ _ _ vi fa _ gx gm hF), (@z_q_hgm_2 _ _ _ vi fa _ gx gm hF), (@z_q_hgx_3 _ _ _ vi fa _ gx gm hF), (@z_q_hgm_3 _ _ _ vi fa _ gx gm hF), (@z_q_hgx_4 _ _ _ vi fa _ gx gm hF)⟩, ⟨(@z_q_hgm_4 _ _ _ vi fa _ gx gm hF), (@z_q_hgx_5 _ _ _ vi fa _ gx gm hF), (@z_q_hgx_6 _ _ _ vi fa _ gx gm hF), (@z_q_hgx_7 _ _ _ vi fa _ gx gm hF), (@z_q_hgx_8 _ _ _ vi fa _ gx gm hF), (show k_CA (gx 5) (gx 6) (gx 7) (gx 8) (gx 0 0).toInt n_hkn_notesSeen_1.toInt n_hkn_layersSeen_2.toInt g_hk9_4 g_hbd_5 g_hlt_6 g_hrk_7 g_hle_8 g_hgr_9 n_hkn_clash_3.toInt from by have h9 := hp_15; rw [hgx_5, hgx_6, hgx_7, hgx_8, hgx_0] at h9; exact h9), (@z_q_hGFx _ _ _ vi fa _ gx gm hF), (@z_q_hGFm _ _ _ vi fa _ gx gm hF), (@z_q_hNRm _ _ _ vi fa _ gx gm hF)⟩⟩, hq.1, hq.2⟩
    exact k r H1 locs trivial hI hS
  · subst h9; subst h8
    obtain ⟨hPc, hDc, hFc⟩ := z_sub3 (ws' := [((ad 0), .inr (11, [.ref (ad 1), .ref (ad 3), .ref (ad 8), .ref (ad 15), .ref (ad 21), .ref (ad 29), .ref (ad 36), .ref (ad 40), .ref (ad 41), .ref (ad 53)])), ((ad 8), .inr (4, [.ref (ad 3), .int (vi 12), .int (vi 13), .ref (ad 9), .ref (ad 10), .ref (ad 11), .ref (ad 12), .ref (ad 13), .ref (ad 14), .int (vi 14)])), ((ad 3), .inr (0, [.ref (ad 4), .ref (ad 5), .ref (ad 6), .ref (ad 7), .int (vi 10), .int (vi 11)])), ((ad 9), .inl ((ca 5), 80, .inl (fa 5))), ((ad 4), .inl ((ca 1), 80, .inl (fa 1))), ((ad 5), .inl ((ca 2), 80, .inl (fa 2))), ((ad 6), .inl ((ca 3), 80, .inl (fa 3))), ((ad 7), .inl ((ca 4), 80, .inl (fa 4))), ((ad 12), .inl ((ca 8), 12, .inl (fa 8))), ((ad 10), .inl ((ca 6), 12, .inl (fa 6))), ((ad 11), .inl ((ca 7), 12, .inl (fa 7))), ((ad 13), .inl ((ca 9), 12, .inl (fa 9))), ((ad 14), .inl ((ca 10), 12, .inl (fa 10))), ((ad 15), .inr (2, [.int (vi 15), .int (vi 16), .ref (ad 16), .ref (ad 17), .ref (ad 18), .ref (ad 19), .ref (ad 20), .int (vi 17), .int (vi 18), .int (vi 19), .int (vi 20)])), ((ad 21), .inr (5, [.ref (ad 22), .ref (ad 23), .ref (ad 24), .ref (ad 25), .ref (ad 26), .ref (ad 27), .ref (ad 28), .long (vl 0), .long (vl 1), .int (vi 21)])), ((ad 36), .inr (9, [.ref (ad 37), .ref (ad 38), .ref (ad 39), .int (vi 23)])), ((ad 41), .inr (8, [.ref (ad 1), .ref (ad 42), .ref (ad 43), .ref (ad 44), .int (vi 28), .int (vi 29), .int (vi 30), .ref (ad 49), .ref (ad 45)])), ((ad 45), .inr (7, [.ref (ad 46), .ref (ad 47), .ref (ad 48), .int (vi 31), .int (vi 32), .int (vi 33)])), ((ad 99), .inl ((ca 85), 1, .inr (.inl (fl 6))))]) hP hD hS hA [0, 8, 3, 9, 4, 5, 6, 7, 12, 10, 11, 13, 14, 15, 21, 36, 41, 45, 99] (by decide) rfl
    have hKc := hK.sub (tys' := [((ca 5), .boolean), ((ca 1), .int), ((ca 2), .int), ((ca 3), .int), ((ca 4), .int), ((ca 8), .int), ((ca 6), .int), ((ca 7), .int), ((ca 9), .int), ((ca 10), .int), ((ca 85), .long)]) [5, 1, 2, 3, 4, 8, 6, 7, 9, 10, 85] rfl
    refine va_calli (vx_runSW (As := [.ref (ad 0), .int p1, .ref (ad 99)]) (rest := []) ⟨hx, hb, hml, hown, hts⟩ (s_L_count_inK l dC dI H.size (ad 0) p1 (ad 99) (.ref (ad 1)) (ad 3) (ad 8) (ad 15) (ad 21) (.ref (ad 29)) (ad 36) (.ref (ad 40)) (ad 41) (.ref (ad 53)) (vi 12) (vi 13) (ad 9) (ad 10) (ad 11) (ad 12) (ad 13) (ad 14) (vi 14) (ad 4) (ad 5) (ad 6) (ad 7) (vi 10) (vi 11) (ca 5) (fa 5) (ca 1) (fa 1) (ca 2) (fa 2) (ca 3) (fa 3) (ca 4) (fa 4) (ca 8) (fa 8) (ca 6) (fa 6) (ca 7) (fa 7) (ca 9) (fa 9) (ca 10) (fa 10) (.int (vi 15)) (.int (vi 16)) (.ref (ad 16)) (.ref (ad 17)) (.ref (ad 18)) (.ref (ad 19)) (.ref (ad 20)) (vi 17) (.int (vi 18)) (.int (vi 19)) (.int (vi 20)) (.ref (ad 22)) (.ref (ad 23)) (.ref (ad 24)) (.ref (ad 25)) (.ref (ad 26)) (.ref (ad 27)) (.ref (ad 28)) (.long (vl 0)) (.long (vl 1)) (vi 21) (.ref (ad 37)) (.ref (ad 38)) (.ref (ad 39)) (vi 23) (.ref (ad 1)) (.ref (ad 42)) (.ref (ad 43)) (.ref (ad 44)) (.int (vi 28)) (.int (vi 29)) (.int (vi 30)) (.ref (ad 49)) (ad 45) (.ref (ad 46)) (.ref (ad 47)) (.ref (ad 48)) (.int (vi 31)) (vi 32) (vi 33) (ca 85) (fl 6) hv_12 hv_13 hv_14 hv_11 hv_10 (by omega) hf_2 hf_8 hRx (by rw [hgx_5, hgx_6, hgx_7, hgx_8, hgx_0]; exact hCAx) (by rw [hgx_5, hgx_6, hgx_7, hgx_0, hgx_1]; exact hGFx)) (vx_cwSW (hh := [(0, 9, 12, 13)]) 3 hts gw_law_s_L_count_inK_134 rfl rfl rfl (by decide +kernel) ⟨Nat.le_of_ble_eq_true rfl, Nat.le_of_ble_eq_true rfl⟩) ⟨z_blind, z_pre hPc hKc hDc⟩ rfl rfl hl.1 rfl (lv_room (Nat.le_of_ble_eq_true rfl)) dL_law_1306 ⟨(show cells + 0 ≤ 1125 by omega), (show slots + 0 ≤ 39162 by omega)⟩) hS (fun q _ h => hFc q h) hFc (fun r u t H1 locs ht hvm hw hB hz1 hk1 hS => ?_)
    obtain ⟨n_hkn_notesSeen_16, n_hkn_layersSeen_17, n_hkn_clash_18, g_hk9_19, g_hbd_20, g_hlt_21, g_hrk_22, g_hle_23, g_hgr_24, g_ho_25, hp_26, hp_27, hp_28, hp_29, hp_30, hP1, hK1, hD1⟩ := hB
    rw [ht] at hP1
    have hq : z_PD (dC, dI) vwCl (fun q : Nat => s.heap.size ≤ q) (z_W ad ca (ad 49) (ad 45) (fun j9 : Nat => (cond (Nat.ble j9 12) (cond (Nat.beq j9 12) n_hkn_notesSeen_16 (vi j9)) (cond (Nat.ble j9 13) (cond (Nat.beq j9 13) n_hkn_layersSeen_17 (vi j9)) (cond (Nat.beq j9 14) n_hkn_clash_18 (vi j9))))) vl (fun j9 : Nat => (cond (Nat.ble j9 7) (cond (Nat.ble j9 5) (cond (Nat.beq j9 5) g_hk9_19 (fa j9)) (cond (Nat.ble j9 6) (cond (Nat.beq j9 6) g_hlt_21 (fa j9)) (cond (Nat.beq j9 7) g_hrk_22 (fa j9)))) (cond (Nat.ble j9 8) (cond (Nat.beq j9 8) g_hbd_20 (fa j9)) (cond (Nat.ble j9 9) (cond (Nat.beq j9 9) g_hle_23 (fa j9)) (cond (Nat.beq j9 10) g_hgr_24 (fa j9)))))) (z_upG fl 6 g_ho_25)) H1 := z_put3 (wc := [((ad 0), .inr (11, [.ref (ad 1), .ref (ad 3), .ref (ad 8), .ref (ad 15), .ref (ad 21), .ref (ad 29), .ref (ad 36), .ref (ad 40), .ref (ad 41), .ref (ad 53)])), ((ad 8), .inr (4, [.ref (ad 3), .int (vi 12), .int (vi 13), .ref (ad 9), .ref (ad 10), .ref (ad 11), .ref (ad 12), .ref (ad 13), .ref (ad 14), .int (vi 14)])), ((ad 3), .inr (0, [.ref (ad 4), .ref (ad 5), .ref (ad 6), .ref (ad 7), .int (vi 10), .int (vi 11)])), ((ad 9), .inl ((ca 5), 80, .inl (fa 5))), ((ad 4), .inl ((ca 1), 80, .inl (fa 1))), ((ad 5), .inl ((ca 2), 80, .inl (fa 2))), ((ad 6), .inl ((ca 3), 80, .inl (fa 3))), ((ad 7), .inl ((ca 4), 80, .inl (fa 4))), ((ad 12), .inl ((ca 8), 12, .inl (fa 8))), ((ad 10), .inl ((ca 6), 12, .inl (fa 6))), ((ad 11), .inl ((ca 7), 12, .inl (fa 7))), ((ad 13), .inl ((ca 9), 12, .inl (fa 9))), ((ad 14), .inl ((ca 10), 12, .inl (fa 10))), ((ad 15), .inr (2, [.int (vi 15), .int (vi 16), .ref (ad 16), .ref (ad 17), .ref (ad 18), .ref (ad 19), .ref (ad 20), .int (vi 17), .int (vi 18), .int (vi 19), .int (vi 20)])), ((ad 21), .inr (5, [.ref (ad 22), .ref (ad 23), .ref (ad 24), .ref (ad 25), .ref (ad 26), .ref (ad 27), .ref (ad 28), .long (vl 0), .long (vl 1), .int (vi 21)])), ((ad 36), .inr (9, [.ref (ad 37), .ref (ad 38), .ref (ad 39), .int (vi 23)])), ((ad 41), .inr (8, [.ref (ad 1), .ref (ad 42), .ref (ad 43), .ref (ad 44), .int (vi 28), .int (vi 29), .int (vi 30), .ref (ad 49), .ref (ad 45)])), ((ad 45), .inr (7, [.ref (ad 46), .ref (ad 47), .ref (ad 48), .int (vi 31), .int (vi 32), .int (vi 33)])), ((ad 99), .inl ((ca 85), 1, .inr (.inl (fl 6))))]) (n := 19) hP hD [0, 8, 3, 9, 4, 5, 6, 7, 12, 10, 11, 13, 14, 15, 21, 36, 41, 45, 99] rfl hk1 hP1 rfl [some 0, none, none, some 2, some 4, some 5, some 6, some 7, some 1, some 3, some 9, some 10, some 8, some 11, some 12, some 13, none, none, none, none, none, some 14, none, none, none, none, none, none, none, none, none, none, none, none, none, none, some 15, none, none, none, none, some 16, none, none, none, some 17, none, none, none, none, none, none, none, none, none, none, none, none, none, none, none, none, none, none, none, none, none, none, none, none, none, none, none, none, none, none, none, none, none, none, none, none, none, none, none, none, none, none, none, none, none, none, none, none, none, none, none, none, none, some 18] rfl (by decide +kernel) rfl
    have hI : z_In dC dI (fun q : Nat => s.heap.size ≤ q) ad ca gx gm H1 := ⟨(ad 49), (ad 45), (fun j9 : Nat => (cond (Nat.ble j9 12) (cond (Nat.beq j9 12) n_hkn_notesSeen_16 (vi j9)) (cond (Nat.ble j9 13) (cond (Nat.beq j9 13) n_hkn_layersSeen_17 (vi j9)) (cond (Nat.beq j9 14) n_hkn_clash_18 (vi j9))))), vl, (fun j9 : Nat => (cond (Nat.ble j9 7) (cond (Nat.ble j9 5) (cond (Nat.beq j9 5) g_hk9_19 (fa j9)) (cond (Nat.ble j9 6) (cond (Nat.beq j9 6) g_hlt_21 (fa j9)) (cond (Nat.beq j9 7) g_hrk_22 (fa j9)))) (cond (Nat.ble j9 8) (cond (Nat.beq j9 8) g_hbd_20 (fa j9)) (cond (Nat.ble j9 9) (cond (Nat.beq j9 9) g_hle_23 (fa j9)) (cond (Nat.beq j9 10) g_hgr_24 (fa j9)))))), (z_upG fl 6 g_ho_25), kg, ⟨⟨(@z_q_hv_0 _ _ _ vi fa _ gx gm hF), (@z_q_hv_1 _ _ _ vi fa _ gx gm hF), (@z_q_hv_3 _ _ _ vi fa _ gx gm hF), (@z_q_hv_4 _ _ _ vi fa _ gx gm hF), (@z_q_hv_5 _ _ _ vi fa _ gx gm hF), (@z_q_hv_10 _ _ _ vi fa _ gx gm hF), (@z_q_hv_11 _ _ _ vi fa _ gx gm hF), hp_26, hp_27, hp_28⟩, ⟨(@z_q_hv_15 _ _ _ vi fa _ gx gm hF), (@z_q_hv_16 _ _ _ vi fa _ gx gm hF), (@z_q_hv_17 _ _ _ vi fa _ gx gm hF), (@z_q_hv_21 _ _ _ vi fa _ gx gm hF), (@z_q_hv_23 _ _ _ vi fa _ gx gm hF), (@z_q_hv_28 _ _ _ vi fa _ gx gm hF), (@z_q_hv_29 _ _ _ vi fa _ gx gm hF), (@z_q_hv_30 _ _ _ vi fa _ gx gm hF), (@z_q_hv_31 _ _ _ vi fa _ gx gm hF), (@z_q_hv_32 _ _ _ vi fa _ gx gm hF)⟩, ⟨(@z_q_hv_33 _ _ _ vi fa _ gx gm hF), (@z_q_hv_34 _ _ _ vi fa _ gx gm hF), (@z_q_hv_35 _ _ _ vi fa _ gx gm hF), (@z_q_hv_36 _ _ _ vi fa _ gx gm hF), (@z_q_hv_37 _ _ _ vi fa _ gx gm hF), (@z_q_hv_38 _ _ _ vi fa _ gx gm hF), (@z_q_hv_39 _ _ _ vi fa _ gx gm hF), (@z_q_hv_41 _ _ _ vi fa _ gx gm hF), (@z_q_hv_42 _ _ _ vi fa _ gx gm hF), (@z_q_hv_43 _ _ _ vi fa _ gx gm hF)⟩, ⟨(@z_q_hv_44 _ _ _ vi fa _ gx gm hF), (@z_q_hv_45 _ _ _ vi fa _ gx gm hF), (@z_q_hv_46 _ _ _ vi fa _ gx gm hF), (@z_q_hv_47 _ _ _ vi fa _ gx gm hF), (@z_q_hv_50 _ _ _ vi fa _ gx gm hF), (@z_q_hv_51 _ _ _ vi fa _ gx gm hF), (@z_q_hv_52 _ _ _ vi fa _ gx gm hF), (@z_q_hv_54 _ _ _ vi fa _ gx gm hF), (@z_q_hv_55 _ _ _ vi fa _ gx gm hF), (@z_q_hv_56 _ _ _ vi fa _ gx gm hF)⟩, ⟨(@z_q_hv_57 _ _ _ vi fa _ gx gm hF), (@z_q_hv_58 _ _ _ vi fa _ gx gm hF), (@z_q_hv_59 _ _ _ vi fa _ gx gm hF), (@z_q_hv_60 _ _ _ vi fa _ gx gm hF), (@z_q_hv_61 _ _ _ vi fa _ gx gm hF), (@z_q_hv_62 _ _ _ vi fa _ gx gm hF), (@z_q_hv_63 _ _ _ vi fa _ gx gm hF), (@z_q_hv_64 _ _ _ vi fa _ gx gm hF), (@z_q_hv_65 _ _ _ vi fa _ gx gm hF), (@z_q_hv_66 _ _ _ vi fa _ gx gm hF)⟩, ⟨(@z_q_hf_0 _ _ _ vi fa _ gx gm hF), (@z_q_hf_2 _ _ _ vi fa _ gx gm hF), hp_29, (@z_q_hf_27 _ _ _ vi fa _ gx gm hF), (@z_q_hf_34 _ _ _ vi fa _ gx gm hF), (@z_q_hf_37 _ _ _ vi fa _ gx gm hF), (@z_q_hf_39 _ _ _ vi fa _ gx gm hF), (@z_q_hf_40 _ _ _ vi fa _ gx gm hF), (@z_q_hf_41 _ _ _ vi fa _ gx gm hF), (@z_q_hf_46 _ _ _ vi fa _ gx gm hF)⟩, ⟨(@z_q_hf_56 _ _ _ vi fa _ gx gm hF), (@z_q_hf_62 _ _ _ vi fa _ gx gm hF), (@z_q_hf_66 _ _ _ vi fa _ gx gm hF), (@z_q_hf_78 _ _ _ vi fa _ gx gm hF), (@z_q_hRx _ _ _ vi fa _ gx gm hF), (@z_q_hRm _ _ _ vi fa _ gx gm hF), (@z_q_hLow _ _ _ vi fa _ gx gm hF), (@z_q_hkg _ _ _ vi fa _ gx gm hF), (@z_q_hWD _ _ _ vi fa _ gx gm hF), Or.inr ⟨rfl, rfl⟩⟩, ⟨(@z_q_hWX _ _ _ vi fa _ gx gm hF), (@z_q_hgx_0 _ _ _ vi fa _ gx gm hF), (@z_q_hgm_0 _ _ _ vi fa _ gx gm hF), (@z_q_hgx_1 _ _ _ vi fa _ gx gm hF), (@z_q_hgm_1 _ _ _ vi fa _ gx gm hF), (@z_q_hgx_2 _ _ _ vi fa _ gx gm hF), (@z_q_hgm_2 _ _ _ vi fa _ gx gm hF), (@z_q_hgx_3 _ _ _ vi fa _ gx gm hF), (@z_q_hgm_3 _ _ _ vi fa _ gx gm hF), (@z_q_hgx_4 _ _ _ vi fa _ gx gm hF)⟩, ⟨(@z_q_hgm_4 _ _ _ vi fa _ gx gm hF), (@z_q_hgx_5 _ _ _ vi fa _ gx gm hF), (@z_q_hgx_6 _ _ _ vi fa _ gx gm hF), (@z_q_hgx_7 _ _ _ vi fa _ gx gm hF), (@z_q_hgx_8 _ _ _ vi fa _ gx gm hF), (show k_CA (gx 5) (gx 6) (gx 7) (gx 8) (gx 0 0).toInt n_hkn_notesSeen_16.toInt n_hkn_layersSeen_17.toInt g_hk9_19 g_hbd_20 g_hlt_21 g_hrk_22 g_hle_23 g_hgr_24 n_hkn_clash_18.toInt from by have h9 := hp_30; rw [hgx_5, hgx_6, hgx_7, hgx_8, hgx_0] at h9; exact h9), (@z_q_hGFx _ _ _ vi fa _ gx gm hF), (@z_q_hGFm _ _ _ vi fa _ gx gm hF), (@z_q_hNRm _ _ _ vi fa _ gx gm hF)⟩⟩, hq.1, hq.2⟩
    exact k r H1 locs trivial hI hS
set_option maxHeartbeats 4000000 in
set_option maxRecDepth 100000 in
theorem law_c0 {p : Program} {l : Launch} {e : Env} {s : State} {m : MethodId} {below : List Frame} {meth : Method} {c : Code} {dC : Nat → ClassId} {dI : Nat → Nat → Nat} {b L : Nat} {xs : Nat → Int32} {ad : Nat → Nat} {ca : Nat → ClassId} {sd sv : Nat → Nat} {sf : Value} (C0 : lw_At p s m meth c b L xs) (hK : va_K (dC, dI) vwCl (z_T ca) s) (hST : z_ST sd sv sf (fun q : Nat => s.heap.size ≤ q) s s.heap) (hst : l.stackTraces = false) {sa : Nat} (hT0 : z_TH sa (fun q : Nat => s.heap.size ≤ q) s s.heap) (hL : L ≤ 3584) {cells slots : Nat} (hc : cells ≤ 690) (hs : slots ≤ 37000) {i : Int32} (hi : 0 ≤ i.toInt ∧ i.toInt + 7 ≤ (L : Int)) {H : Heap} {locs : List Loc} {ls : Array Slot} {g : Nat → Nat → Int32} (hI : z_In dC dI (fun q : Nat => s.heap.size ≤ q) ad ca g g H) (hS : va_S (fun q : Nat => s.heap.size ≤ q) s.heap H locs) (hl : lv_has ls 7 [(4, .int i), (3, .ref (ad 99)), (2, .ref (ad 57)), (1, .ref (ad 0)), (0, .ref b)]) (hN : (∀ (cells9 slots9 : Nat) (g : Nat → Nat → Int32) (H : Heap) (locs : List Loc) (ls : Array Slot), cells9 ≤ cells + 1 → slots9 ≤ slots + 6 → z_In dC dI (fun q : Nat => s.heap.size ≤ q) ad ca g g H → va_S (fun q : Nat => s.heap.size ≤ q) s.heap H locs → lv_has ls 7 [(4, .int i), (3, .ref (ad 99)), (2, .ref (ad 57)), (1, .ref (ad 0)), (0, .ref b)] → W p l e room_1 s m #[Value.ref b] below meth c H locs cells9 slots9 (lw_Z below #[Value.ref b] s) (F0 m 1326 ls []))) : W p l e room_1 s m #[Value.ref b] below meth c H locs cells slots (lw_Z below #[Value.ref b] s) (F0 m 164 ls []) := by
  obtain ⟨hx, hb, hr, hml, hown, hts, hX, hbl, hlocks, hgv⟩ := id C0
  have hown : s.vm.findClass RL = some m.cls := hown
  have hA : ∀ q : Nat, s.heap.size ≤ q → (fun q : Nat => s.heap.size ≤ q) q := fun _ h => h
  have hbA : ¬ (fun q : Nat => s.heap.size ≤ q) b := Nat.not_le.mpr hbl
  refine lv_aload_n hx hb dL_law_164 rfl (lv_at hl 3 rfl) ?_
  refine lv_aload_n hx hb dL_law_165 rfl (lv_at hl 4 rfl) ?_
  refine lv_iload hx hb dL_law_166 (lv_at hl 0 rfl) ?_
  refine lv_iconst (v := 1) hx hb dL_law_168 (by decide) ?_
  refine lv_iadd hx hb dL_law_169 ?_
  refine lv_topi (fun z_1 ez_1 => ?_)
  have kz_1 : (z_1).toInt = (i).toInt + (1 : Int) := by rw [ez_1]; exact z_add (a := (i).toInt) (b := (1 : Int)) rfl rfl (by omega) (by omega)
  refine va_sld hx hb hX hbl hbA hS (z_vpin (by omega) (by omega)) dL_law_170 ?_
  refine lv_topi (fun t_2 et_2 => ?_)
  refine lv_aload_n hx hb dL_law_171 rfl (lv_at hl 4 rfl) ?_
  refine lv_iload hx hb dL_law_172 (lv_at hl 0 rfl) ?_
  refine lv_iconst (v := 2) hx hb dL_law_174 (by decide) ?_
  refine lv_iadd hx hb dL_law_175 ?_
  refine lv_topi (fun z_3 ez_3 => ?_)
  have kz_3 : (z_3).toInt = (i).toInt + (2 : Int) := by rw [ez_3]; exact z_add (a := (i).toInt) (b := (2 : Int)) rfl rfl (by omega) (by omega)
  refine va_sld hx hb hX hbl hbA hS (z_vpin (by omega) (by omega)) dL_law_176 ?_
  refine lv_topi (fun t_4 et_4 => ?_)
  refine lv_aload_n hx hb dL_law_177 rfl (lv_at hl 4 rfl) ?_
  refine lv_iload hx hb dL_law_178 (lv_at hl 0 rfl) ?_
  refine lv_iconst (v := 3) hx hb dL_law_180 (by decide) ?_
  refine lv_iadd hx hb dL_law_181 ?_
  refine lv_topi (fun z_5 ez_5 => ?_)
  have kz_5 : (z_5).toInt = (i).toInt + (3 : Int) := by rw [ez_5]; exact z_add (a := (i).toInt) (b := (3 : Int)) rfl rfl (by omega) (by omega)
  refine va_sld hx hb hX hbl hbA hS (z_vpin (by omega) (by omega)) dL_law_182 ?_
  refine lv_topi (fun t_6 et_6 => ?_)
  refine lv_aload_n hx hb dL_law_183 rfl (lv_at hl 4 rfl) ?_
  refine lv_iload hx hb dL_law_184 (lv_at hl 0 rfl) ?_
  refine lv_iconst (v := 4) hx hb dL_law_186 (by decide) ?_
  refine lv_iadd hx hb dL_law_187 ?_
  refine lv_topi (fun z_7 ez_7 => ?_)
  have kz_7 : (z_7).toInt = (i).toInt + (4 : Int) := by rw [ez_7]; exact z_add (a := (i).toInt) (b := (4 : Int)) rfl rfl (by omega) (by omega)
  refine va_sld hx hb hX hbl hbA hS (z_vpin (by omega) (by omega)) dL_law_188 ?_
  refine lv_topi (fun t_8 et_8 => ?_)
  refine lv_aload_n hx hb dL_law_189 rfl (lv_at hl 4 rfl) ?_
  refine lv_iload hx hb dL_law_190 (lv_at hl 0 rfl) ?_
  refine lv_iconst (v := 5) hx hb dL_law_192 (by decide) ?_
  refine lv_iadd hx hb dL_law_193 ?_
  refine lv_topi (fun z_9 ez_9 => ?_)
  have kz_9 : (z_9).toInt = (i).toInt + (5 : Int) := by rw [ez_9]; exact z_add (a := (i).toInt) (b := (5 : Int)) rfl rfl (by omega) (by omega)
  refine va_sld hx hb hX hbl hbA hS (z_vpin (by omega) (by omega)) dL_law_194 ?_
  refine lv_topi (fun t_10 et_10 => ?_)
  refine q_195 C0 hK hST (by omega) (by omega) hI hS hl t_2 t_4 t_6 t_8 t_10 (fun r_11  H locs hw_12 hI hS => ?_)
  refine lv_pop hx hb dL_law_198 rfl ?_
  refine lv_aload_n hx hb dL_law_199 rfl (lv_at hl 2 rfl) ?_
  refine lv_aload_n hx hb dL_law_200 rfl (lv_at hl 4 rfl) ?_
  refine lv_iload hx hb dL_law_201 (lv_at hl 0 rfl) ?_
  refine lv_iconst (v := 1) hx hb dL_law_203 (by decide) ?_
  refine lv_iadd hx hb dL_law_204 ?_
  refine lv_topi (fun z_13 ez_13 => ?_)
  have kz_13 : (z_13).toInt = (i).toInt + (1 : Int) := by rw [ez_13]; exact z_add (a := (i).toInt) (b := (1 : Int)) rfl rfl (by omega) (by omega)
  refine va_sld hx hb hX hbl hbA hS (z_vpin (by omega) (by omega)) dL_law_205 ?_
  refine z_topeq (y := t_2) (by rw [et_2, ez_13, ez_1]) ?_
  refine lv_aload_n hx hb dL_law_206 rfl (lv_at hl 4 rfl) ?_
  refine lv_iload hx hb dL_law_207 (lv_at hl 0 rfl) ?_
  refine lv_iconst (v := 2) hx hb dL_law_209 (by decide) ?_
  refine lv_iadd hx hb dL_law_210 ?_
  refine lv_topi (fun z_14 ez_14 => ?_)
  have kz_14 : (z_14).toInt = (i).toInt + (2 : Int) := by rw [ez_14]; exact z_add (a := (i).toInt) (b := (2 : Int)) rfl rfl (by omega) (by omega)
  refine va_sld hx hb hX hbl hbA hS (z_vpin (by omega) (by omega)) dL_law_211 ?_
  refine z_topeq (y := t_4) (by rw [et_4, ez_14, ez_3]) ?_
  refine lv_aload_n hx hb dL_law_212 rfl (lv_at hl 4 rfl) ?_
  refine lv_iload hx hb dL_law_213 (lv_at hl 0 rfl) ?_
  refine lv_iconst (v := 3) hx hb dL_law_215 (by decide) ?_
  refine lv_iadd hx hb dL_law_216 ?_
  refine lv_topi (fun z_15 ez_15 => ?_)
  have kz_15 : (z_15).toInt = (i).toInt + (3 : Int) := by rw [ez_15]; exact z_add (a := (i).toInt) (b := (3 : Int)) rfl rfl (by omega) (by omega)
  refine va_sld hx hb hX hbl hbA hS (z_vpin (by omega) (by omega)) dL_law_217 ?_
  refine z_topeq (y := t_6) (by rw [et_6, ez_15, ez_5]) ?_
  refine lv_aload_n hx hb dL_law_218 rfl (lv_at hl 4 rfl) ?_
  refine lv_iload hx hb dL_law_219 (lv_at hl 0 rfl) ?_
  refine lv_iconst (v := 4) hx hb dL_law_221 (by decide) ?_
  refine lv_iadd hx hb dL_law_222 ?_
  refine lv_topi (fun z_16 ez_16 => ?_)
  have kz_16 : (z_16).toInt = (i).toInt + (4 : Int) := by rw [ez_16]; exact z_add (a := (i).toInt) (b := (4 : Int)) rfl rfl (by omega) (by omega)
  refine va_sld hx hb hX hbl hbA hS (z_vpin (by omega) (by omega)) dL_law_223 ?_
  refine z_topeq (y := t_8) (by rw [et_8, ez_16, ez_7]) ?_
  refine lv_aload_n hx hb dL_law_224 rfl (lv_at hl 4 rfl) ?_
  refine lv_iload hx hb dL_law_225 (lv_at hl 0 rfl) ?_
  refine lv_iconst (v := 5) hx hb dL_law_227 (by decide) ?_
  refine lv_iadd hx hb dL_law_228 ?_
  refine lv_topi (fun z_17 ez_17 => ?_)
  have kz_17 : (z_17).toInt = (i).toInt + (5 : Int) := by rw [ez_17]; exact z_add (a := (i).toInt) (b := (5 : Int)) rfl rfl (by omega) (by omega)
  refine va_sld hx hb hX hbl hbA hS (z_vpin (by omega) (by omega)) dL_law_229 ?_
  refine z_topeq (y := t_10) (by rw [et_10, ez_17, ez_9]) ?_
  refine q_230 C0 hK hST (by omega) (by omega) hI hS hl t_2 t_4 t_6 t_8 t_10 (fun r_18  H locs hw_19 hI hS => ?_)
  refine lv_pop hx hb dL_law_233 rfl ?_
  refine lv_goto (tgt := 1326) hx hb dL_law_234 (by decide) ?_
  exact hN _ _ _ _ _ _ (by omega) (by omega) hI hS (lv_sub hl [0, 1, 2, 3, 4] rfl)
set_option maxHeartbeats 4000000 in
set_option maxRecDepth 100000 in
theorem law_c1 {p : Program} {l : Launch} {e : Env} {s : State} {m : MethodId} {below : List Frame} {meth : Method} {c : Code} {dC : Nat → ClassId} {dI : Nat → Nat → Nat} {b L : Nat} {xs : Nat → Int32} {ad : Nat → Nat} {ca : Nat → ClassId} {sd sv : Nat → Nat} {sf : Value} (C0 : lw_At p s m meth c b L xs) (hK : va_K (dC, dI) vwCl (z_T ca) s) (hST : z_ST sd sv sf (fun q : Nat => s.heap.size ≤ q) s s.heap) (hst : l.stackTraces = false) {sa : Nat} (hT0 : z_TH sa (fun q : Nat => s.heap.size ≤ q) s s.heap) (hL : L ≤ 3584) {cells slots : Nat} (hc : cells ≤ 690) (hs : slots ≤ 37000) {i : Int32} (hi : 0 ≤ i.toInt ∧ i.toInt + 7 ≤ (L : Int)) {H : Heap} {locs : List Loc} {ls : Array Slot} {g : Nat → Nat → Int32} (hI : z_In dC dI (fun q : Nat => s.heap.size ≤ q) ad ca g g H) (hS : va_S (fun q : Nat => s.heap.size ≤ q) s.heap H locs) (hl : lv_has ls 7 [(4, .int i), (3, .ref (ad 99)), (2, .ref (ad 57)), (1, .ref (ad 0)), (0, .ref b)]) (hN : (∀ (cells9 slots9 : Nat) (g : Nat → Nat → Int32) (H : Heap) (locs : List Loc) (ls : Array Slot), cells9 ≤ cells + 1 → slots9 ≤ slots + 6 → z_In dC dI (fun q : Nat => s.heap.size ≤ q) ad ca g g H → va_S (fun q : Nat => s.heap.size ≤ q) s.heap H locs → lv_has ls 7 [(4, .int i), (3, .ref (ad 99)), (2, .ref (ad 57)), (1, .ref (ad 0)), (0, .ref b)] → W p l e room_1 s m #[Value.ref b] below meth c H locs cells9 slots9 (lw_Z below #[Value.ref b] s) (F0 m 1326 ls []))) : W p l e room_1 s m #[Value.ref b] below meth c H locs cells slots (lw_Z below #[Value.ref b] s) (F0 m 237 ls []) := by
  obtain ⟨hx, hb, hr, hml, hown, hts, hX, hbl, hlocks, hgv⟩ := id C0
  have hown : s.vm.findClass RL = some m.cls := hown
  have hA : ∀ q : Nat, s.heap.size ≤ q → (fun q : Nat => s.heap.size ≤ q) q := fun _ h => h
  have hbA : ¬ (fun q : Nat => s.heap.size ≤ q) b := Nat.not_le.mpr hbl
  refine lv_aload_n hx hb dL_law_237 rfl (lv_at hl 3 rfl) ?_
  refine lv_aload_n hx hb dL_law_238 rfl (lv_at hl 4 rfl) ?_
  refine lv_iload hx hb dL_law_239 (lv_at hl 0 rfl) ?_
  refine lv_iconst (v := 1) hx hb dL_law_241 (by decide) ?_
  refine lv_iadd hx hb dL_law_242 ?_
  refine lv_topi (fun z_1 ez_1 => ?_)
  have kz_1 : (z_1).toInt = (i).toInt + (1 : Int) := by rw [ez_1]; exact z_add (a := (i).toInt) (b := (1 : Int)) rfl rfl (by omega) (by omega)
  refine va_sld hx hb hX hbl hbA hS (z_vpin (by omega) (by omega)) dL_law_243 ?_
  refine lv_topi (fun t_2 et_2 => ?_)
  refine q_244 C0 hK hST (by omega) (by omega) hI hS hl t_2 (fun r_3  H locs hw_4 hI hS => ?_)
  refine lv_pop hx hb dL_law_247 rfl ?_
  refine lv_aload_n hx hb dL_law_248 rfl (lv_at hl 2 rfl) ?_
  refine lv_aload_n hx hb dL_law_249 rfl (lv_at hl 4 rfl) ?_
  refine lv_iload hx hb dL_law_250 (lv_at hl 0 rfl) ?_
  refine lv_iconst (v := 1) hx hb dL_law_252 (by decide) ?_
  refine lv_iadd hx hb dL_law_253 ?_
  refine lv_topi (fun z_5 ez_5 => ?_)
  have kz_5 : (z_5).toInt = (i).toInt + (1 : Int) := by rw [ez_5]; exact z_add (a := (i).toInt) (b := (1 : Int)) rfl rfl (by omega) (by omega)
  refine va_sld hx hb hX hbl hbA hS (z_vpin (by omega) (by omega)) dL_law_254 ?_
  refine z_topeq (y := t_2) (by rw [et_2, ez_5, ez_1]) ?_
  refine q_255 C0 hK hST (by omega) (by omega) hI hS hl t_2 (fun r_6  H locs hw_7 hI hS => ?_)
  refine lv_pop hx hb dL_law_258 rfl ?_
  refine lv_goto (tgt := 1326) hx hb dL_law_259 (by decide) ?_
  exact hN _ _ _ _ _ _ (by omega) (by omega) hI hS (lv_sub hl [0, 1, 2, 3, 4] rfl)
set_option maxHeartbeats 4000000 in
set_option maxRecDepth 100000 in
theorem law_c2 {p : Program} {l : Launch} {e : Env} {s : State} {m : MethodId} {below : List Frame} {meth : Method} {c : Code} {dC : Nat → ClassId} {dI : Nat → Nat → Nat} {b L : Nat} {xs : Nat → Int32} {ad : Nat → Nat} {ca : Nat → ClassId} {sd sv : Nat → Nat} {sf : Value} (C0 : lw_At p s m meth c b L xs) (hK : va_K (dC, dI) vwCl (z_T ca) s) (hST : z_ST sd sv sf (fun q : Nat => s.heap.size ≤ q) s s.heap) (hst : l.stackTraces = false) {sa : Nat} (hT0 : z_TH sa (fun q : Nat => s.heap.size ≤ q) s s.heap) (hL : L ≤ 3584) {cells slots : Nat} (hc : cells ≤ 690) (hs : slots ≤ 37000) {i : Int32} (hi : 0 ≤ i.toInt ∧ i.toInt + 7 ≤ (L : Int)) {H : Heap} {locs : List Loc} {ls : Array Slot} {g : Nat → Nat → Int32} (hI : z_In dC dI (fun q : Nat => s.heap.size ≤ q) ad ca g g H) (hS : va_S (fun q : Nat => s.heap.size ≤ q) s.heap H locs) (hl : lv_has ls 7 [(4, .int i), (3, .ref (ad 99)), (2, .ref (ad 57)), (1, .ref (ad 0)), (0, .ref b)]) (hN : (∀ (cells9 slots9 : Nat) (g : Nat → Nat → Int32) (H : Heap) (locs : List Loc) (ls : Array Slot), cells9 ≤ cells + 1 → slots9 ≤ slots + 6 → z_In dC dI (fun q : Nat => s.heap.size ≤ q) ad ca g g H → va_S (fun q : Nat => s.heap.size ≤ q) s.heap H locs → lv_has ls 7 [(4, .int i), (3, .ref (ad 99)), (2, .ref (ad 57)), (1, .ref (ad 0)), (0, .ref b)] → W p l e room_1 s m #[Value.ref b] below meth c H locs cells9 slots9 (lw_Z below #[Value.ref b] s) (F0 m 1326 ls []))) : W p l e room_1 s m #[Value.ref b] below meth c H locs cells slots (lw_Z below #[Value.ref b] s) (F0 m 262 ls []) := by
  obtain ⟨hx, hb, hr, hml, hown, hts, hX, hbl, hlocks, hgv⟩ := id C0
  have hown : s.vm.findClass RL = some m.cls := hown
  have hA : ∀ q : Nat, s.heap.size ≤ q → (fun q : Nat => s.heap.size ≤ q) q := fun _ h => h
  have hbA : ¬ (fun q : Nat => s.heap.size ≤ q) b := Nat.not_le.mpr hbl
  refine lv_aload_n hx hb dL_law_262 rfl (lv_at hl 3 rfl) ?_
  refine lv_aload_n hx hb dL_law_263 rfl (lv_at hl 4 rfl) ?_
  refine lv_iload hx hb dL_law_264 (lv_at hl 0 rfl) ?_
  refine lv_iconst (v := 1) hx hb dL_law_266 (by decide) ?_
  refine lv_iadd hx hb dL_law_267 ?_
  refine lv_topi (fun z_1 ez_1 => ?_)
  have kz_1 : (z_1).toInt = (i).toInt + (1 : Int) := by rw [ez_1]; exact z_add (a := (i).toInt) (b := (1 : Int)) rfl rfl (by omega) (by omega)
  refine va_sld hx hb hX hbl hbA hS (z_vpin (by omega) (by omega)) dL_law_268 ?_
  refine lv_topi (fun t_2 et_2 => ?_)
  refine lv_aload_n hx hb dL_law_269 rfl (lv_at hl 4 rfl) ?_
  refine lv_iload hx hb dL_law_270 (lv_at hl 0 rfl) ?_
  refine lv_iconst (v := 2) hx hb dL_law_272 (by decide) ?_
  refine lv_iadd hx hb dL_law_273 ?_
  refine lv_topi (fun z_3 ez_3 => ?_)
  have kz_3 : (z_3).toInt = (i).toInt + (2 : Int) := by rw [ez_3]; exact z_add (a := (i).toInt) (b := (2 : Int)) rfl rfl (by omega) (by omega)
  refine va_sld hx hb hX hbl hbA hS (z_vpin (by omega) (by omega)) dL_law_274 ?_
  refine lv_topi (fun t_4 et_4 => ?_)
  refine q_275 C0 hK hST (by omega) (by omega) hI hS hl t_2 t_4 (fun r_5  H locs hw_6 hI hS => ?_)
  refine lv_pop hx hb dL_law_278 rfl ?_
  refine lv_aload_n hx hb dL_law_279 rfl (lv_at hl 2 rfl) ?_
  refine lv_aload_n hx hb dL_law_280 rfl (lv_at hl 4 rfl) ?_
  refine lv_iload hx hb dL_law_281 (lv_at hl 0 rfl) ?_
  refine lv_iconst (v := 1) hx hb dL_law_283 (by decide) ?_
  refine lv_iadd hx hb dL_law_284 ?_
  refine lv_topi (fun z_7 ez_7 => ?_)
  have kz_7 : (z_7).toInt = (i).toInt + (1 : Int) := by rw [ez_7]; exact z_add (a := (i).toInt) (b := (1 : Int)) rfl rfl (by omega) (by omega)
  refine va_sld hx hb hX hbl hbA hS (z_vpin (by omega) (by omega)) dL_law_285 ?_
  refine z_topeq (y := t_2) (by rw [et_2, ez_7, ez_1]) ?_
  refine lv_aload_n hx hb dL_law_286 rfl (lv_at hl 4 rfl) ?_
  refine lv_iload hx hb dL_law_287 (lv_at hl 0 rfl) ?_
  refine lv_iconst (v := 2) hx hb dL_law_289 (by decide) ?_
  refine lv_iadd hx hb dL_law_290 ?_
  refine lv_topi (fun z_8 ez_8 => ?_)
  have kz_8 : (z_8).toInt = (i).toInt + (2 : Int) := by rw [ez_8]; exact z_add (a := (i).toInt) (b := (2 : Int)) rfl rfl (by omega) (by omega)
  refine va_sld hx hb hX hbl hbA hS (z_vpin (by omega) (by omega)) dL_law_291 ?_
  refine z_topeq (y := t_4) (by rw [et_4, ez_8, ez_3]) ?_
  refine q_292 C0 hK hST (by omega) (by omega) hI hS hl t_2 t_4 (fun r_9  H locs hw_10 hI hS => ?_)
  refine lv_pop hx hb dL_law_295 rfl ?_
  refine lv_goto (tgt := 1326) hx hb dL_law_296 (by decide) ?_
  exact hN _ _ _ _ _ _ (by omega) (by omega) hI hS (lv_sub hl [0, 1, 2, 3, 4] rfl)
