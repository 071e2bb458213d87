set_option maxHeartbeats 4000000 in
set_option maxRecDepth 100000 in
theorem law_loop {p : Program} {l : Launch} {e : Env} {s : State} {m : MethodId} {below : List Frame} {meth : Method} {c : Code} {dC : Nat → ClassId} {dI : Nat → Nat → Nat} {b L : Nat} {xs : Nat → Int32} {ad : Nat → Nat} {ca : Nat → ClassId} {sd sv : Nat → Nat} {sf : Value} (C0 : lw_At p s m meth c b L xs) (hK : va_K (dC, dI) vwCl (z_T ca) s) (hST : z_ST sd sv sf (fun q : Nat => s.heap.size ≤ q) s s.heap) (hst : l.stackTraces = false) {sa : Nat} (hT0 : z_TH sa (fun q : Nat => s.heap.size ≤ q) s s.heap) (hL : L ≤ 3584) : ∀ (n : Nat) (i : Int32) (cells slots : Nat) (g : Nat → Nat → Int32) (H : Heap) (locs : List Loc) (ls : Array Slot), (3600 - (i).toInt).toNat < n → ((0 : Int) ≤ (i).toInt ∧ (i).toInt ≤ (3591 : Int)) → 7 * (cells : Int) ≤ 700 + (i).toInt → 7 * (slots : Int) ≤ 216748 + 6 * (i).toInt → z_In dC dI (fun q : Nat => s.heap.size ≤ q) ad ca g g H → va_S (fun q : Nat => s.heap.size ≤ q) s.heap H locs → lv_has ls 7 [(4, .int i), (3, .ref (ad 99)), (2, .ref (ad 57)), (1, .ref (ad 0)), (0, .ref b)] → W p l e room_1 s m #[Value.ref b] below meth c H locs cells slots (lw_Z below #[Value.ref b] s) (F0 m 23 ls []) := by
  obtain ⟨hx, hb, hr, hml, hown, hts, hX, hbl, hlocks, hgv⟩ := id C0
  have hown : s.vm.findClass RL = some m.cls := hown
  have hA : ∀ q : Nat, s.heap.size ≤ q → (fun q : Nat => s.heap.size ≤ q) q := fun _ h => h
  have hbA : ¬ (fun q : Nat => s.heap.size ≤ q) b := Nat.not_le.mpr hbl
  intro n
  induction n with
  | zero => intro i cells slots g H locs ls hm; exact absurd hm (Nat.not_lt_zero _)
  | succ n ih =>
    intro i cells slots g H locs ls hm hi hcl hsl hI hS hl
    refine lv_iload hx hb dL_law_23 (lv_at hl 0 rfl) ?_
    refine lv_aload_n hx hb dL_law_25 rfl (lv_at hl 4 rfl) ?_
    refine va_slen hx hb hX hbl hbA hS dL_law_26 ?_
    refine lv_topi (fun z_1 ez_1 => ?_)
    have kz_1 : (z_1).toInt = (L : Int) := by rw [ez_1]; exact nI_toInt (by omega)
    refine lv_bipush (v := 7) hx hb dL_law_27 (by decide) ?_
    refine lv_isub hx hb dL_law_29 ?_
    refine lv_topi (fun z_2 ez_2 => ?_)
    have kz_2 : (z_2).toInt = (z_1).toInt - (7 : Int) := by rw [ez_2]; exact z_sub (a := (z_1).toInt) (b := (7 : Int)) rfl rfl (by omega) (by omega)
    refine lv_icmp_gt (tgt := 1332) hx hb dL_law_30 (by decide) (fun c_3 => ?_) (fun c_3 => ?_)
    · have k_4 : (z_2).toInt < (i).toInt := z_lt c_3
      refine lv_iconst (v := 1) hx hb dL_law_1332 (by decide) ?_
      refine va_forget (fun q hq => hS.2.2 q hq) ?_
      refine W.widen (k := 1125) (n := 39162) (by omega) (by omega) ?_
      exact lw_ret hx hb hr hlocks dL_law_1333
    · have k_5 : (z_2).toInt ≥ (i).toInt := z_nlt c_3
      refine lv_aload_n hx hb dL_law_33 rfl (lv_at hl 4 rfl) ?_
      refine lv_iload hx hb dL_law_34 (lv_at hl 0 rfl) ?_
      refine va_sld hx hb hX hbl hbA hS (z_vpin (by omega) (by omega)) dL_law_36 ?_
      refine lv_topi (fun t_6 et_6 => ?_)
      refine lv_bipush (v := 31) hx hb dL_law_37 (by decide) ?_
      refine lv_iand hx hb dL_law_39 ?_
      refine lv_topi (fun z_7 ez_7 => ?_)
      have kz_7 : (0 : Int) ≤ (z_7).toInt ∧ (z_7).toInt ≤ (31 : Int) := by rw [ez_7]; exact z_and _ 5 (by decide) (by decide)
      have hN : (∀ (cells9 slots9 : Nat) (g : Nat → Nat → Int32) (H : Heap) (locs : List Loc) (ls : Array Slot), cells9 ≤ cells + 1 → slots9 ≤ slots + 6 → z_In dC dI (fun q : Nat => s.heap.size ≤ q) ad ca g g H → va_S (fun q : Nat => s.heap.size ≤ q) s.heap H locs → lv_has ls 7 [(4, .int i), (3, .ref (ad 99)), (2, .ref (ad 57)), (1, .ref (ad 0)), (0, .ref b)] → W p l e room_1 s m #[Value.ref b] below meth c H locs cells9 slots9 (lw_Z below #[Value.ref b] s) (F0 m 1326 ls [])) := by
        intro cells9 slots9 g H locs ls h1 h2 hI hS hl
        obtain ⟨z, ez⟩ : ∃ y : Int32, y = i + 7 := ⟨_, rfl⟩
        have kz : (z).toInt = (i).toInt + (7 : Int) := by rw [ez]; exact z_add (b := 7) rfl rfl (by omega) (by omega)
        refine lv_iinc (v := z) (lv' := [(4, .int z), (3, .ref (ad 99)), (2, .ref (ad 57)), (1, .ref (ad 0)), (0, .ref b)]) hx hb dL_law_1326 hl (k := 0) rfl (by rw [ez]; rfl) (by decide) rfl (fun ls hl => ?_)
        refine lv_goto (tgt := 23) hx hb dL_law_1329 (by decide) ?_
        exact ih z cells9 slots9 g H locs ls (by omega) (by omega) (by omega) (by omega) hI hS (lv_sub hl [0, 1, 2, 3, 4] rfl)
      rcases z_sw z_7 (0) (26) with hsw | hsw
      · refine lv_tableOut (tgt := 1326) hx hb dL_law_40 hsw (by decide) ?_
        exact hN _ _ _ _ _ _ (by omega) (by omega) hI hS (lv_sub hl [0, 1, 2, 3, 4] rfl)
      · rcases (show (z_7).toInt = (0 : Int) ∨ ¬ (z_7).toInt = (0 : Int) from Classical.em _) with he | he
        · obtain rfl : z_7 = 0 := z_eq' he
          refine lv_tableIn (tgt := 164) hx hb dL_law_40 (by decide) (by decide) (off := 124) rfl (by decide) ?_
          exact law_c0 C0 hK hST hst hT0 hL (by omega) (by omega) (by omega) hI hS (lv_sub hl [0, 1, 2, 3, 4] rfl) hN
        · rcases (show (z_7).toInt = (1 : Int) ∨ ¬ (z_7).toInt = (1 : Int) from Classical.em _) with he | he
          · obtain rfl : z_7 = 1 := z_eq' he
            refine lv_tableIn (tgt := 237) hx hb dL_law_40 (by decide) (by decide) (off := 197) rfl (by decide) ?_
            exact law_c1 C0 hK hST hst hT0 hL (by omega) (by omega) (by omega) hI hS (lv_sub hl [0, 1, 2, 3, 4] rfl) hN
          · rcases (show (z_7).toInt = (2 : Int) ∨ ¬ (z_7).toInt = (2 : Int) from Classical.em _) with he | he
            · obtain rfl : z_7 = 2 := z_eq' he
              refine lv_tableIn (tgt := 262) hx hb dL_law_40 (by decide) (by decide) (off := 222) rfl (by decide) ?_
              exact law_c2 C0 hK hST hst hT0 hL (by omega) (by omega) (by omega) hI hS (lv_sub hl [0, 1, 2, 3, 4] rfl) hN
            · rcases (show (z_7).toInt = (3 : Int) ∨ ¬ (z_7).toInt = (3 : Int) from Classical.em _) with he | he
              · obtain rfl : z_7 = 3 := z_eq' he
                refine lv_tableIn (tgt := 299) hx hb dL_law_40 (by decide) (by decide) (off := 259) rfl (by decide) ?_
                exact law_c3 C0 hK hST hst hT0 hL (by omega) (by omega) (by omega) hI hS (lv_sub hl [0, 1, 2, 3, 4] rfl) hN
              · rcases (show (z_7).toInt = (4 : Int) ∨ ¬ (z_7).toInt = (4 : Int) from Classical.em _) with he | he
                · obtain rfl : z_7 = 4 := z_eq' he
                  refine lv_tableIn (tgt := 324) hx hb dL_law_40 (by decide) (by decide) (off := 284) rfl (by decide) ?_
                  exact law_c4 C0 hK hST hst hT0 hL (by omega) (by omega) (by omega) hI hS (lv_sub hl [0, 1, 2, 3, 4] rfl) hN
                · rcases (show (z_7).toInt = (5 : Int) ∨ ¬ (z_7).toInt = (5 : Int) from Classical.em _) with he | he
                  · obtain rfl : z_7 = 5 := z_eq' he
                    refine lv_tableIn (tgt := 337) hx hb dL_law_40 (by decide) (by decide) (off := 297) rfl (by decide) ?_
                    exact law_c5 C0 hK hST hst hT0 hL (by omega) (by omega) (by omega) hI hS (lv_sub hl [0, 1, 2, 3, 4] rfl) hN
                  · rcases (show (z_7).toInt = (6 : Int) ∨ ¬ (z_7).toInt = (6 : Int) from Classical.em _) with he | he
                    · obtain rfl : z_7 = 6 := z_eq' he
                      refine lv_tableIn (tgt := 398) hx hb dL_law_40 (by decide) (by decide) (off := 358) rfl (by decide) ?_
                      exact law_c6 C0 hK hST hst hT0 hL (by omega) (by omega) (by omega) hI hS (lv_sub hl [0, 1, 2, 3, 4] rfl) hN
                    · rcases (show (z_7).toInt = (7 : Int) ∨ ¬ (z_7).toInt = (7 : Int) from Classical.em _) with he | he
                      · obtain rfl : z_7 = 7 := z_eq' he
                        refine lv_tableIn (tgt := 423) hx hb dL_law_40 (by decide) (by decide) (off := 383) rfl (by decide) ?_
                        exact law_c7 C0 hK hST hst hT0 hL (by omega) (by omega) (by omega) hI hS (lv_sub hl [0, 1, 2, 3, 4] rfl) hN
                      · rcases (show (z_7).toInt = (8 : Int) ∨ ¬ (z_7).toInt = (8 : Int) from Classical.em _) with he | he
                        · obtain rfl : z_7 = 8 := z_eq' he
                          refine lv_tableIn (tgt := 472) hx hb dL_law_40 (by decide) (by decide) (off := 432) rfl (by decide) ?_
                          exact law_c8 C0 hK hST hst hT0 hL (by omega) (by omega) (by omega) hI hS (lv_sub hl [0, 1, 2, 3, 4] rfl) hN
                        · rcases (show (z_7).toInt = (9 : Int) ∨ ¬ (z_7).toInt = (9 : Int) from Classical.em _) with he | he
                          · obtain rfl : z_7 = 9 := z_eq' he
                            refine lv_tableIn (tgt := 521) hx hb dL_law_40 (by decide) (by decide) (off := 481) rfl (by decide) ?_
                            exact law_c9 C0 hK hST hst hT0 hL (by omega) (by omega) (by omega) hI hS (lv_sub hl [0, 1, 2, 3, 4] rfl) hN
                          · rcases (show (z_7).toInt = (10 : Int) ∨ ¬ (z_7).toInt = (10 : Int) from Classical.em _) with he | he
                            · obtain rfl : z_7 = 10 := z_eq' he
                              refine lv_tableIn (tgt := 546) hx hb dL_law_40 (by decide) (by decide) (off := 506) rfl (by decide) ?_
                              exact law_c10 C0 hK hST hst hT0 hL (by omega) (by omega) (by omega) hI hS (lv_sub hl [0, 1, 2, 3, 4] rfl) hN
                            · rcases (show (z_7).toInt = (11 : Int) ∨ ¬ (z_7).toInt = (11 : Int) from Classical.em _) with he | he
                              · obtain rfl : z_7 = 11 := z_eq' he
                                refine lv_tableIn (tgt := 583) hx hb dL_law_40 (by decide) (by decide) (off := 543) rfl (by decide) ?_
                                exact law_c11 C0 hK hST hst hT0 hL (by omega) (by omega) (by omega) hI hS (lv_sub hl [0, 1, 2, 3, 4] rfl) hN
                              · rcases (show (z_7).toInt = (12 : Int) ∨ ¬ (z_7).toInt = (12 : Int) from Classical.em _) with he | he
                                · obtain rfl : z_7 = 12 := z_eq' he
                                  refine lv_tableIn (tgt := 620) hx hb dL_law_40 (by decide) (by decide) (off := 580) rfl (by decide) ?_
                                  exact law_c12 C0 hK hST hst hT0 hL (by omega) (by omega) (by omega) hI hS (lv_sub hl [0, 1, 2, 3, 4] rfl) hN
                                · rcases (show (z_7).toInt = (13 : Int) ∨ ¬ (z_7).toInt = (13 : Int) from Classical.em _) with he | he
                                  · obtain rfl : z_7 = 13 := z_eq' he
                                    refine lv_tableIn (tgt := 669) hx hb dL_law_40 (by decide) (by decide) (off := 629) rfl (by decide) ?_
                                    exact law_c13 C0 hK hST hst hT0 hL (by omega) (by omega) (by omega) hI hS (lv_sub hl [0, 1, 2, 3, 4] rfl) hN
                                  · rcases (show (z_7).toInt = (14 : Int) ∨ ¬ (z_7).toInt = (14 : Int) from Classical.em _) with he | he
                                    · obtain rfl : z_7 = 14 := z_eq' he
                                      refine lv_tableIn (tgt := 706) hx hb dL_law_40 (by decide) (by decide) (off := 666) rfl (by decide) ?_
                                      exact law_c14 C0 hK hST hst hT0 hL (by omega) (by omega) (by omega) hI hS (lv_sub hl [0, 1, 2, 3, 4] rfl) hN
                                    · rcases (show (z_7).toInt = (15 : Int) ∨ ¬ (z_7).toInt = (15 : Int) from Classical.em _) with he | he
                                      · obtain rfl : z_7 = 15 := z_eq' he
                                        refine lv_tableIn (tgt := 743) hx hb dL_law_40 (by decide) (by decide) (off := 703) rfl (by decide) ?_
                                        exact law_c15 C0 hK hST hst hT0 hL (by omega) (by omega) (by omega) hI hS (lv_sub hl [0, 1, 2, 3, 4] rfl) hN
                                      · rcases (show (z_7).toInt = (16 : Int) ∨ ¬ (z_7).toInt = (16 : Int) from Classical.em _) with he | he
                                        · obtain rfl : z_7 = 16 := z_eq' he
                                          refine lv_tableIn (tgt := 792) hx hb dL_law_40 (by decide) (by decide) (off := 752) rfl (by decide) ?_
                                          exact law_c16 C0 hK hST hst hT0 hL (by omega) (by omega) (by omega) hI hS (lv_sub hl [0, 1, 2, 3, 4] rfl) hN
                                        · rcases (show (z_7).toInt = (17 : Int) ∨ ¬ (z_7).toInt = (17 : Int) from Classical.em _) with he | he
                                          · obtain rfl : z_7 = 17 := z_eq' he
                                            refine lv_tableIn (tgt := 841) hx hb dL_law_40 (by decide) (by decide) (off := 801) rfl (by decide) ?_
                                            exact law_c17 C0 hK hST hst hT0 hL (by omega) (by omega) (by omega) hI hS (lv_sub hl [0, 1, 2, 3, 4] rfl) hN
                                          · rcases (show (z_7).toInt = (18 : Int) ∨ ¬ (z_7).toInt = (18 : Int) from Classical.em _) with he | he
                                            · obtain rfl : z_7 = 18 := z_eq' he
                                              refine lv_tableIn (tgt := 890) hx hb dL_law_40 (by decide) (by decide) (off := 850) rfl (by decide) ?_
                                              exact law_c18 C0 hK hST hst hT0 hL (by omega) (by omega) (by omega) hI hS (lv_sub hl [0, 1, 2, 3, 4] rfl) hN
                                            · rcases (show (z_7).toInt = (19 : Int) ∨ ¬ (z_7).toInt = (19 : Int) from Classical.em _) with he | he
                                              · obtain rfl : z_7 = 19 := z_eq' he
                                                refine lv_tableIn (tgt := 977) hx hb dL_law_40 (by decide) (by decide) (off := 937) rfl (by decide) ?_
                                                exact law_c19 C0 hK hST hst hT0 hL (by omega) (by omega) (by omega) hI hS (lv_sub hl [0, 1, 2, 3, 4] rfl) hN
                                              · rcases (show (z_7).toInt = (20 : Int) ∨ ¬ (z_7).toInt = (20 : Int) from Classical.em _) with he | he
                                                · obtain rfl : z_7 = 20 := z_eq' he
                                                  refine lv_tableIn (tgt := 1064) hx hb dL_law_40 (by decide) (by decide) (off := 1024) rfl (by decide) ?_
                                                  exact law_c20 C0 hK hST hst hT0 hL (by omega) (by omega) (by omega) hI hS (lv_sub hl [0, 1, 2, 3, 4] rfl) hN
                                                · rcases (show (z_7).toInt = (21 : Int) ∨ ¬ (z_7).toInt = (21 : Int) from Classical.em _) with he | he
                                                  · obtain rfl : z_7 = 21 := z_eq' he
                                                    refine lv_tableIn (tgt := 1113) hx hb dL_law_40 (by decide) (by decide) (off := 1073) rfl (by decide) ?_
                                                    exact law_c21 C0 hK hST hst hT0 hL (by omega) (by omega) (by omega) hI hS (lv_sub hl [0, 1, 2, 3, 4] rfl) hN
                                                  · rcases (show (z_7).toInt = (22 : Int) ∨ ¬ (z_7).toInt = (22 : Int) from Classical.em _) with he | he
                                                    · obtain rfl : z_7 = 22 := z_eq' he
                                                      refine lv_tableIn (tgt := 1138) hx hb dL_law_40 (by decide) (by decide) (off := 1098) rfl (by decide) ?_
                                                      exact law_c22 C0 hK hST hst hT0 hL (by omega) (by omega) (by omega) hI hS (lv_sub hl [0, 1, 2, 3, 4] rfl) hN
                                                    · rcases (show (z_7).toInt = (23 : Int) ∨ ¬ (z_7).toInt = (23 : Int) from Classical.em _) with he | he
                                                      · obtain rfl : z_7 = 23 := z_eq' he
                                                        refine lv_tableIn (tgt := 1199) hx hb dL_law_40 (by decide) (by decide) (off := 1159) rfl (by decide) ?_
                                                        exact law_c23 C0 hK hST hst hT0 hL (by omega) (by omega) (by omega) hI hS (lv_sub hl [0, 1, 2, 3, 4] rfl) hN
                                                      · rcases (show (z_7).toInt = (24 : Int) ∨ ¬ (z_7).toInt = (24 : Int) from Classical.em _) with he | he
                                                        · obtain rfl : z_7 = 24 := z_eq' he
                                                          refine lv_tableIn (tgt := 1236) hx hb dL_law_40 (by decide) (by decide) (off := 1196) rfl (by decide) ?_
                                                          exact law_c24 C0 hK hST hst hT0 hL (by omega) (by omega) (by omega) hI hS (lv_sub hl [0, 1, 2, 3, 4] rfl) hN
                                                        · rcases (show (z_7).toInt = (25 : Int) ∨ ¬ (z_7).toInt = (25 : Int) from Classical.em _) with he | he
                                                          · obtain rfl : z_7 = 25 := z_eq' he
                                                            refine lv_tableIn (tgt := 1273) hx hb dL_law_40 (by decide) (by decide) (off := 1233) rfl (by decide) ?_
                                                            exact law_c25 C0 hK hST hst hT0 hL (by omega) (by omega) (by omega) hI hS (lv_sub hl [0, 1, 2, 3, 4] rfl) hN
                                                          · rcases (show (z_7).toInt = (26 : Int) ∨ ¬ (z_7).toInt = (26 : Int) from Classical.em _) with he | he
                                                            · obtain rfl : z_7 = 26 := z_eq' he
                                                              refine lv_tableIn (tgt := 1298) hx hb dL_law_40 (by decide) (by decide) (off := 1258) rfl (by decide) ?_
                                                              exact law_c26 C0 hK hST hst hT0 hL (by omega) (by omega) (by omega) hI hS (lv_sub hl [0, 1, 2, 3, 4] rfl) hN
                                                            · exfalso; omega
