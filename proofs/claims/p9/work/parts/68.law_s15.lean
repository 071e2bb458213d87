set_option maxHeartbeats 4000000 in
set_option maxRecDepth 100000 in
theorem law_c16 {p : Program} {l : Launch} {e : Env} {s : State} {m : MethodId} {below : List Frame} {meth : Method} {c : Code} {dC : Nat → ClassId} {dI : Nat → Nat → Nat} {b L : Nat} {xs : Nat → Int32} {ad : Nat → Nat} {ca : Nat → ClassId} {sd sv : Nat → Nat} {sf : Value} (C0 : lw_At p s m meth c b L xs) (hK : va_K (dC, dI) vwCl (z_T ca) s) (hST : z_ST sd sv sf (fun q : Nat => s.heap.size ≤ q) s s.heap) (hst : l.stackTraces = false) {sa : Nat} (hT0 : z_TH sa (fun q : Nat => s.heap.size ≤ q) s s.heap) (hL : L ≤ 3584) {cells slots : Nat} (hc : cells ≤ 690) (hs : slots ≤ 37000) {i : Int32} (hi : 0 ≤ i.toInt ∧ i.toInt + 7 ≤ (L : Int)) {H : Heap} {locs : List Loc} {ls : Array Slot} {g : Nat → Nat → Int32} (hI : z_In dC dI (fun q : Nat => s.heap.size ≤ q) ad ca g g H) (hS : va_S (fun q : Nat => s.heap.size ≤ q) s.heap H locs) (hl : lv_has ls 7 [(4, .int i), (3, .ref (ad 99)), (2, .ref (ad 57)), (1, .ref (ad 0)), (0, .ref b)]) (hN : (∀ (cells9 slots9 : Nat) (g : Nat → Nat → Int32) (H : Heap) (locs : List Loc) (ls : Array Slot), cells9 ≤ cells + 1 → slots9 ≤ slots + 6 → z_In dC dI (fun q : Nat => s.heap.size ≤ q) ad ca g g H → va_S (fun q : Nat => s.heap.size ≤ q) s.heap H locs → lv_has ls 7 [(4, .int i), (3, .ref (ad 99)), (2, .ref (ad 57)), (1, .ref (ad 0)), (0, .ref b)] → W p l e room_1 s m #[Value.ref b] below meth c H locs cells9 slots9 (lw_Z below #[Value.ref b] s) (F0 m 1326 ls []))) : W p l e room_1 s m #[Value.ref b] below meth c H locs cells slots (lw_Z below #[Value.ref b] s) (F0 m 792 ls []) := by
  obtain ⟨hx, hb, hr, hml, hown, hts, hX, hbl, hlocks, hgv⟩ := id C0
  have hown : s.vm.findClass RL = some m.cls := hown
  have hA : ∀ q : Nat, s.heap.size ≤ q → (fun q : Nat => s.heap.size ≤ q) q := fun _ h => h
  have hbA : ¬ (fun q : Nat => s.heap.size ≤ q) b := Nat.not_le.mpr hbl
  refine lv_aload_n hx hb dL_law_792 rfl (lv_at hl 3 rfl) ?_
  refine lv_aload_n hx hb dL_law_793 rfl (lv_at hl 4 rfl) ?_
  refine lv_iload hx hb dL_law_794 (lv_at hl 0 rfl) ?_
  refine lv_iconst (v := 1) hx hb dL_law_796 (by decide) ?_
  refine lv_iadd hx hb dL_law_797 ?_
  refine lv_topi (fun z_1 ez_1 => ?_)
  have kz_1 : (z_1).toInt = (i).toInt + (1 : Int) := by rw [ez_1]; exact z_add (a := (i).toInt) (b := (1 : Int)) rfl rfl (by omega) (by omega)
  refine va_sld hx hb hX hbl hbA hS (z_vpin (by omega) (by omega)) dL_law_798 ?_
  refine lv_topi (fun t_2 et_2 => ?_)
  refine lv_aload_n hx hb dL_law_799 rfl (lv_at hl 4 rfl) ?_
  refine lv_iload hx hb dL_law_800 (lv_at hl 0 rfl) ?_
  refine lv_iconst (v := 2) hx hb dL_law_802 (by decide) ?_
  refine lv_iadd hx hb dL_law_803 ?_
  refine lv_topi (fun z_3 ez_3 => ?_)
  have kz_3 : (z_3).toInt = (i).toInt + (2 : Int) := by rw [ez_3]; exact z_add (a := (i).toInt) (b := (2 : Int)) rfl rfl (by omega) (by omega)
  refine va_sld hx hb hX hbl hbA hS (z_vpin (by omega) (by omega)) dL_law_804 ?_
  refine lv_topi (fun t_4 et_4 => ?_)
  refine lv_aload_n hx hb dL_law_805 rfl (lv_at hl 4 rfl) ?_
  refine lv_iload hx hb dL_law_806 (lv_at hl 0 rfl) ?_
  refine lv_iconst (v := 3) hx hb dL_law_808 (by decide) ?_
  refine lv_iadd hx hb dL_law_809 ?_
  refine lv_topi (fun z_5 ez_5 => ?_)
  have kz_5 : (z_5).toInt = (i).toInt + (3 : Int) := by rw [ez_5]; exact z_add (a := (i).toInt) (b := (3 : Int)) rfl rfl (by omega) (by omega)
  refine va_sld hx hb hX hbl hbA hS (z_vpin (by omega) (by omega)) dL_law_810 ?_
  refine lv_topi (fun t_6 et_6 => ?_)
  refine q_811 C0 hK hST (by omega) (by omega) hI hS hl t_2 t_4 t_6 (fun r_7  H locs hw_8 hI hS => ?_)
  refine lv_pop2_2 hx hb dL_law_814 rfl ?_
  refine lv_aload_n hx hb dL_law_815 rfl (lv_at hl 2 rfl) ?_
  refine lv_aload_n hx hb dL_law_816 rfl (lv_at hl 4 rfl) ?_
  refine lv_iload hx hb dL_law_817 (lv_at hl 0 rfl) ?_
  refine lv_iconst (v := 1) hx hb dL_law_819 (by decide) ?_
  refine lv_iadd hx hb dL_law_820 ?_
  refine lv_topi (fun z_9 ez_9 => ?_)
  have kz_9 : (z_9).toInt = (i).toInt + (1 : Int) := by rw [ez_9]; exact z_add (a := (i).toInt) (b := (1 : Int)) rfl rfl (by omega) (by omega)
  refine va_sld hx hb hX hbl hbA hS (z_vpin (by omega) (by omega)) dL_law_821 ?_
  refine z_topeq (y := t_2) (by rw [et_2, ez_9, ez_1]) ?_
  refine lv_aload_n hx hb dL_law_822 rfl (lv_at hl 4 rfl) ?_
  refine lv_iload hx hb dL_law_823 (lv_at hl 0 rfl) ?_
  refine lv_iconst (v := 2) hx hb dL_law_825 (by decide) ?_
  refine lv_iadd hx hb dL_law_826 ?_
  refine lv_topi (fun z_10 ez_10 => ?_)
  have kz_10 : (z_10).toInt = (i).toInt + (2 : Int) := by rw [ez_10]; exact z_add (a := (i).toInt) (b := (2 : Int)) rfl rfl (by omega) (by omega)
  refine va_sld hx hb hX hbl hbA hS (z_vpin (by omega) (by omega)) dL_law_827 ?_
  refine z_topeq (y := t_4) (by rw [et_4, ez_10, ez_3]) ?_
  refine lv_aload_n hx hb dL_law_828 rfl (lv_at hl 4 rfl) ?_
  refine lv_iload hx hb dL_law_829 (lv_at hl 0 rfl) ?_
  refine lv_iconst (v := 3) hx hb dL_law_831 (by decide) ?_
  refine lv_iadd hx hb dL_law_832 ?_
  refine lv_topi (fun z_11 ez_11 => ?_)
  have kz_11 : (z_11).toInt = (i).toInt + (3 : Int) := by rw [ez_11]; exact z_add (a := (i).toInt) (b := (3 : Int)) rfl rfl (by omega) (by omega)
  refine va_sld hx hb hX hbl hbA hS (z_vpin (by omega) (by omega)) dL_law_833 ?_
  refine z_topeq (y := t_6) (by rw [et_6, ez_11, ez_5]) ?_
  refine q_834 C0 hK hST (by omega) (by omega) hI hS hl t_2 t_4 t_6 (fun r_12  H locs hw_13 hI hS => ?_)
  refine lv_pop2_2 hx hb dL_law_837 rfl ?_
  refine lv_goto (tgt := 1326) hx hb dL_law_838 (by decide) ?_
  exact hN _ _ _ _ _ _ (by omega) (by omega) hI hS (lv_sub hl [0, 1, 2, 3, 4] rfl)
set_option maxHeartbeats 4000000 in
set_option maxRecDepth 100000 in
theorem law_c17 {p : Program} {l : Launch} {e : Env} {s : State} {m : MethodId} {below : List Frame} {meth : Method} {c : Code} {dC : Nat → ClassId} {dI : Nat → Nat → Nat} {b L : Nat} {xs : Nat → Int32} {ad : Nat → Nat} {ca : Nat → ClassId} {sd sv : Nat → Nat} {sf : Value} (C0 : lw_At p s m meth c b L xs) (hK : va_K (dC, dI) vwCl (z_T ca) s) (hST : z_ST sd sv sf (fun q : Nat => s.heap.size ≤ q) s s.heap) (hst : l.stackTraces = false) {sa : Nat} (hT0 : z_TH sa (fun q : Nat => s.heap.size ≤ q) s s.heap) (hL : L ≤ 3584) {cells slots : Nat} (hc : cells ≤ 690) (hs : slots ≤ 37000) {i : Int32} (hi : 0 ≤ i.toInt ∧ i.toInt + 7 ≤ (L : Int)) {H : Heap} {locs : List Loc} {ls : Array Slot} {g : Nat → Nat → Int32} (hI : z_In dC dI (fun q : Nat => s.heap.size ≤ q) ad ca g g H) (hS : va_S (fun q : Nat => s.heap.size ≤ q) s.heap H locs) (hl : lv_has ls 7 [(4, .int i), (3, .ref (ad 99)), (2, .ref (ad 57)), (1, .ref (ad 0)), (0, .ref b)]) (hN : (∀ (cells9 slots9 : Nat) (g : Nat → Nat → Int32) (H : Heap) (locs : List Loc) (ls : Array Slot), cells9 ≤ cells + 1 → slots9 ≤ slots + 6 → z_In dC dI (fun q : Nat => s.heap.size ≤ q) ad ca g g H → va_S (fun q : Nat => s.heap.size ≤ q) s.heap H locs → lv_has ls 7 [(4, .int i), (3, .ref (ad 99)), (2, .ref (ad 57)), (1, .ref (ad 0)), (0, .ref b)] → W p l e room_1 s m #[Value.ref b] below meth c H locs cells9 slots9 (lw_Z below #[Value.ref b] s) (F0 m 1326 ls []))) : W p l e room_1 s m #[Value.ref b] below meth c H locs cells slots (lw_Z below #[Value.ref b] s) (F0 m 841 ls []) := by
  obtain ⟨hx, hb, hr, hml, hown, hts, hX, hbl, hlocks, hgv⟩ := id C0
  have hown : s.vm.findClass RL = some m.cls := hown
  have hA : ∀ q : Nat, s.heap.size ≤ q → (fun q : Nat => s.heap.size ≤ q) q := fun _ h => h
  have hbA : ¬ (fun q : Nat => s.heap.size ≤ q) b := Nat.not_le.mpr hbl
  refine lv_aload_n hx hb dL_law_841 rfl (lv_at hl 3 rfl) ?_
  refine lv_aload_n hx hb dL_law_842 rfl (lv_at hl 4 rfl) ?_
  refine lv_iload hx hb dL_law_843 (lv_at hl 0 rfl) ?_
  refine lv_iconst (v := 1) hx hb dL_law_845 (by decide) ?_
  refine lv_iadd hx hb dL_law_846 ?_
  refine lv_topi (fun z_1 ez_1 => ?_)
  have kz_1 : (z_1).toInt = (i).toInt + (1 : Int) := by rw [ez_1]; exact z_add (a := (i).toInt) (b := (1 : Int)) rfl rfl (by omega) (by omega)
  refine va_sld hx hb hX hbl hbA hS (z_vpin (by omega) (by omega)) dL_law_847 ?_
  refine lv_topi (fun t_2 et_2 => ?_)
  refine lv_aload_n hx hb dL_law_848 rfl (lv_at hl 4 rfl) ?_
  refine lv_iload hx hb dL_law_849 (lv_at hl 0 rfl) ?_
  refine lv_iconst (v := 2) hx hb dL_law_851 (by decide) ?_
  refine lv_iadd hx hb dL_law_852 ?_
  refine lv_topi (fun z_3 ez_3 => ?_)
  have kz_3 : (z_3).toInt = (i).toInt + (2 : Int) := by rw [ez_3]; exact z_add (a := (i).toInt) (b := (2 : Int)) rfl rfl (by omega) (by omega)
  refine va_sld hx hb hX hbl hbA hS (z_vpin (by omega) (by omega)) dL_law_853 ?_
  refine lv_topi (fun t_4 et_4 => ?_)
  refine lv_aload_n hx hb dL_law_854 rfl (lv_at hl 4 rfl) ?_
  refine lv_iload hx hb dL_law_855 (lv_at hl 0 rfl) ?_
  refine lv_iconst (v := 3) hx hb dL_law_857 (by decide) ?_
  refine lv_iadd hx hb dL_law_858 ?_
  refine lv_topi (fun z_5 ez_5 => ?_)
  have kz_5 : (z_5).toInt = (i).toInt + (3 : Int) := by rw [ez_5]; exact z_add (a := (i).toInt) (b := (3 : Int)) rfl rfl (by omega) (by omega)
  refine va_sld hx hb hX hbl hbA hS (z_vpin (by omega) (by omega)) dL_law_859 ?_
  refine lv_topi (fun t_6 et_6 => ?_)
  refine q_860 C0 hK hST (by omega) (by omega) hI hS hl t_2 t_4 t_6 (fun r_7  H locs hw_8 hI hS => ?_)
  refine lv_pop2_2 hx hb dL_law_863 rfl ?_
  refine lv_aload_n hx hb dL_law_864 rfl (lv_at hl 2 rfl) ?_
  refine lv_aload_n hx hb dL_law_865 rfl (lv_at hl 4 rfl) ?_
  refine lv_iload hx hb dL_law_866 (lv_at hl 0 rfl) ?_
  refine lv_iconst (v := 1) hx hb dL_law_868 (by decide) ?_
  refine lv_iadd hx hb dL_law_869 ?_
  refine lv_topi (fun z_9 ez_9 => ?_)
  have kz_9 : (z_9).toInt = (i).toInt + (1 : Int) := by rw [ez_9]; exact z_add (a := (i).toInt) (b := (1 : Int)) rfl rfl (by omega) (by omega)
  refine va_sld hx hb hX hbl hbA hS (z_vpin (by omega) (by omega)) dL_law_870 ?_
  refine z_topeq (y := t_2) (by rw [et_2, ez_9, ez_1]) ?_
  refine lv_aload_n hx hb dL_law_871 rfl (lv_at hl 4 rfl) ?_
  refine lv_iload hx hb dL_law_872 (lv_at hl 0 rfl) ?_
  refine lv_iconst (v := 2) hx hb dL_law_874 (by decide) ?_
  refine lv_iadd hx hb dL_law_875 ?_
  refine lv_topi (fun z_10 ez_10 => ?_)
  have kz_10 : (z_10).toInt = (i).toInt + (2 : Int) := by rw [ez_10]; exact z_add (a := (i).toInt) (b := (2 : Int)) rfl rfl (by omega) (by omega)
  refine va_sld hx hb hX hbl hbA hS (z_vpin (by omega) (by omega)) dL_law_876 ?_
  refine z_topeq (y := t_4) (by rw [et_4, ez_10, ez_3]) ?_
  refine lv_aload_n hx hb dL_law_877 rfl (lv_at hl 4 rfl) ?_
  refine lv_iload hx hb dL_law_878 (lv_at hl 0 rfl) ?_
  refine lv_iconst (v := 3) hx hb dL_law_880 (by decide) ?_
  refine lv_iadd hx hb dL_law_881 ?_
  refine lv_topi (fun z_11 ez_11 => ?_)
  have kz_11 : (z_11).toInt = (i).toInt + (3 : Int) := by rw [ez_11]; exact z_add (a := (i).toInt) (b := (3 : Int)) rfl rfl (by omega) (by omega)
  refine va_sld hx hb hX hbl hbA hS (z_vpin (by omega) (by omega)) dL_law_882 ?_
  refine z_topeq (y := t_6) (by rw [et_6, ez_11, ez_5]) ?_
  refine q_883 C0 hK hST (by omega) (by omega) hI hS hl t_2 t_4 t_6 (fun r_12  H locs hw_13 hI hS => ?_)
  refine lv_pop2_2 hx hb dL_law_886 rfl ?_
  refine lv_goto (tgt := 1326) hx hb dL_law_887 (by decide) ?_
  exact hN _ _ _ _ _ _ (by omega) (by omega) hI hS (lv_sub hl [0, 1, 2, 3, 4] rfl)
set_option maxHeartbeats 4000000 in
set_option maxRecDepth 100000 in
theorem law_c18 {p : Program} {l : Launch} {e : Env} {s : State} {m : MethodId} {below : List Frame} {meth : Method} {c : Code} {dC : Nat → ClassId} {dI : Nat → Nat → Nat} {b L : Nat} {xs : Nat → Int32} {ad : Nat → Nat} {ca : Nat → ClassId} {sd sv : Nat → Nat} {sf : Value} (C0 : lw_At p s m meth c b L xs) (hK : va_K (dC, dI) vwCl (z_T ca) s) (hST : z_ST sd sv sf (fun q : Nat => s.heap.size ≤ q) s s.heap) (hst : l.stackTraces = false) {sa : Nat} (hT0 : z_TH sa (fun q : Nat => s.heap.size ≤ q) s s.heap) (hL : L ≤ 3584) {cells slots : Nat} (hc : cells ≤ 690) (hs : slots ≤ 37000) {i : Int32} (hi : 0 ≤ i.toInt ∧ i.toInt + 7 ≤ (L : Int)) {H : Heap} {locs : List Loc} {ls : Array Slot} {g : Nat → Nat → Int32} (hI : z_In dC dI (fun q : Nat => s.heap.size ≤ q) ad ca g g H) (hS : va_S (fun q : Nat => s.heap.size ≤ q) s.heap H locs) (hl : lv_has ls 7 [(4, .int i), (3, .ref (ad 99)), (2, .ref (ad 57)), (1, .ref (ad 0)), (0, .ref b)]) (hN : (∀ (cells9 slots9 : Nat) (g : Nat → Nat → Int32) (H : Heap) (locs : List Loc) (ls : Array Slot), cells9 ≤ cells + 1 → slots9 ≤ slots + 6 → z_In dC dI (fun q : Nat => s.heap.size ≤ q) ad ca g g H → va_S (fun q : Nat => s.heap.size ≤ q) s.heap H locs → lv_has ls 7 [(4, .int i), (3, .ref (ad 99)), (2, .ref (ad 57)), (1, .ref (ad 0)), (0, .ref b)] → W p l e room_1 s m #[Value.ref b] below meth c H locs cells9 slots9 (lw_Z below #[Value.ref b] s) (F0 m 1326 ls []))) : W p l e room_1 s m #[Value.ref b] below meth c H locs cells slots (lw_Z below #[Value.ref b] s) (F0 m 890 ls []) := by
  obtain ⟨hx, hb, hr, hml, hown, hts, hX, hbl, hlocks, hgv⟩ := id C0
  have hown : s.vm.findClass RL = some m.cls := hown
  have hA : ∀ q : Nat, s.heap.size ≤ q → (fun q : Nat => s.heap.size ≤ q) q := fun _ h => h
  have hbA : ¬ (fun q : Nat => s.heap.size ≤ q) b := Nat.not_le.mpr hbl
  refine lv_aload_n hx hb dL_law_890 rfl (lv_at hl 3 rfl) ?_
  refine lv_aload_n hx hb dL_law_891 rfl (lv_at hl 4 rfl) ?_
  refine lv_iload hx hb dL_law_892 (lv_at hl 0 rfl) ?_
  refine lv_iconst (v := 1) hx hb dL_law_894 (by decide) ?_
  refine lv_iadd hx hb dL_law_895 ?_
  refine lv_topi (fun z_1 ez_1 => ?_)
  have kz_1 : (z_1).toInt = (i).toInt + (1 : Int) := by rw [ez_1]; exact z_add (a := (i).toInt) (b := (1 : Int)) rfl rfl (by omega) (by omega)
  refine va_sld hx hb hX hbl hbA hS (z_vpin (by omega) (by omega)) dL_law_896 ?_
  refine lv_topi (fun t_2 et_2 => ?_)
  refine lv_aload_n hx hb dL_law_897 rfl (lv_at hl 4 rfl) ?_
  refine lv_iload hx hb dL_law_898 (lv_at hl 0 rfl) ?_
  refine lv_iconst (v := 2) hx hb dL_law_900 (by decide) ?_
  refine lv_iadd hx hb dL_law_901 ?_
  refine lv_topi (fun z_3 ez_3 => ?_)
  have kz_3 : (z_3).toInt = (i).toInt + (2 : Int) := by rw [ez_3]; exact z_add (a := (i).toInt) (b := (2 : Int)) rfl rfl (by omega) (by omega)
  refine va_sld hx hb hX hbl hbA hS (z_vpin (by omega) (by omega)) dL_law_902 ?_
  refine lv_topi (fun t_4 et_4 => ?_)
  refine lv_aload_n hx hb dL_law_903 rfl (lv_at hl 4 rfl) ?_
  refine lv_iload hx hb dL_law_904 (lv_at hl 0 rfl) ?_
  refine lv_iconst (v := 3) hx hb dL_law_906 (by decide) ?_
  refine lv_iadd hx hb dL_law_907 ?_
  refine lv_topi (fun z_5 ez_5 => ?_)
  have kz_5 : (z_5).toInt = (i).toInt + (3 : Int) := by rw [ez_5]; exact z_add (a := (i).toInt) (b := (3 : Int)) rfl rfl (by omega) (by omega)
  refine va_sld hx hb hX hbl hbA hS (z_vpin (by omega) (by omega)) dL_law_908 ?_
  refine lv_topi (fun t_6 et_6 => ?_)
  refine lv_aload_n hx hb dL_law_909 rfl (lv_at hl 4 rfl) ?_
  refine lv_iload hx hb dL_law_910 (lv_at hl 0 rfl) ?_
  refine lv_iconst (v := 4) hx hb dL_law_912 (by decide) ?_
  refine lv_iadd hx hb dL_law_913 ?_
  refine lv_topi (fun z_7 ez_7 => ?_)
  have kz_7 : (z_7).toInt = (i).toInt + (4 : Int) := by rw [ez_7]; exact z_add (a := (i).toInt) (b := (4 : Int)) rfl rfl (by omega) (by omega)
  refine va_sld hx hb hX hbl hbA hS (z_vpin (by omega) (by omega)) dL_law_914 ?_
  refine lv_topi (fun t_8 et_8 => ?_)
  refine lv_aload_n hx hb dL_law_915 rfl (lv_at hl 4 rfl) ?_
  refine lv_iload hx hb dL_law_916 (lv_at hl 0 rfl) ?_
  refine lv_iconst (v := 5) hx hb dL_law_918 (by decide) ?_
  refine lv_iadd hx hb dL_law_919 ?_
  refine lv_topi (fun z_9 ez_9 => ?_)
  have kz_9 : (z_9).toInt = (i).toInt + (5 : Int) := by rw [ez_9]; exact z_add (a := (i).toInt) (b := (5 : Int)) rfl rfl (by omega) (by omega)
  refine va_sld hx hb hX hbl hbA hS (z_vpin (by omega) (by omega)) dL_law_920 ?_
  refine lv_topi (fun t_10 et_10 => ?_)
  refine lv_aload_n hx hb dL_law_921 rfl (lv_at hl 4 rfl) ?_
  refine lv_iload hx hb dL_law_922 (lv_at hl 0 rfl) ?_
  refine lv_bipush (v := 6) hx hb dL_law_924 (by decide) ?_
  refine lv_iadd hx hb dL_law_926 ?_
  refine lv_topi (fun z_11 ez_11 => ?_)
  have kz_11 : (z_11).toInt = (i).toInt + (6 : Int) := by rw [ez_11]; exact z_add (a := (i).toInt) (b := (6 : Int)) rfl rfl (by omega) (by omega)
  refine va_sld hx hb hX hbl hbA hS (z_vpin (by omega) (by omega)) dL_law_927 ?_
  refine lv_topi (fun t_12 et_12 => ?_)
  refine q_928 C0 hK hST (by omega) (by omega) hI hS hl t_2 t_4 t_6 t_8 t_10 t_12 (fun r_13  H locs hw_14 hI hS => ?_)
  refine lv_pop hx hb dL_law_931 rfl ?_
  refine lv_aload_n hx hb dL_law_932 rfl (lv_at hl 2 rfl) ?_
  refine lv_aload_n hx hb dL_law_933 rfl (lv_at hl 4 rfl) ?_
  refine lv_iload hx hb dL_law_934 (lv_at hl 0 rfl) ?_
  refine lv_iconst (v := 1) hx hb dL_law_936 (by decide) ?_
  refine lv_iadd hx hb dL_law_937 ?_
  refine lv_topi (fun z_15 ez_15 => ?_)
  have kz_15 : (z_15).toInt = (i).toInt + (1 : Int) := by rw [ez_15]; exact z_add (a := (i).toInt) (b := (1 : Int)) rfl rfl (by omega) (by omega)
  refine va_sld hx hb hX hbl hbA hS (z_vpin (by omega) (by omega)) dL_law_938 ?_
  refine z_topeq (y := t_2) (by rw [et_2, ez_15, ez_1]) ?_
  refine lv_aload_n hx hb dL_law_939 rfl (lv_at hl 4 rfl) ?_
  refine lv_iload hx hb dL_law_940 (lv_at hl 0 rfl) ?_
  refine lv_iconst (v := 2) hx hb dL_law_942 (by decide) ?_
  refine lv_iadd hx hb dL_law_943 ?_
  refine lv_topi (fun z_16 ez_16 => ?_)
  have kz_16 : (z_16).toInt = (i).toInt + (2 : Int) := by rw [ez_16]; exact z_add (a := (i).toInt) (b := (2 : Int)) rfl rfl (by omega) (by omega)
  refine va_sld hx hb hX hbl hbA hS (z_vpin (by omega) (by omega)) dL_law_944 ?_
  refine z_topeq (y := t_4) (by rw [et_4, ez_16, ez_3]) ?_
  refine lv_aload_n hx hb dL_law_945 rfl (lv_at hl 4 rfl) ?_
  refine lv_iload hx hb dL_law_946 (lv_at hl 0 rfl) ?_
  refine lv_iconst (v := 3) hx hb dL_law_948 (by decide) ?_
  refine lv_iadd hx hb dL_law_949 ?_
  refine lv_topi (fun z_17 ez_17 => ?_)
  have kz_17 : (z_17).toInt = (i).toInt + (3 : Int) := by rw [ez_17]; exact z_add (a := (i).toInt) (b := (3 : Int)) rfl rfl (by omega) (by omega)
  refine va_sld hx hb hX hbl hbA hS (z_vpin (by omega) (by omega)) dL_law_950 ?_
  refine z_topeq (y := t_6) (by rw [et_6, ez_17, ez_5]) ?_
  refine lv_aload_n hx hb dL_law_951 rfl (lv_at hl 4 rfl) ?_
  refine lv_iload hx hb dL_law_952 (lv_at hl 0 rfl) ?_
  refine lv_iconst (v := 4) hx hb dL_law_954 (by decide) ?_
  refine lv_iadd hx hb dL_law_955 ?_
  refine lv_topi (fun z_18 ez_18 => ?_)
  have kz_18 : (z_18).toInt = (i).toInt + (4 : Int) := by rw [ez_18]; exact z_add (a := (i).toInt) (b := (4 : Int)) rfl rfl (by omega) (by omega)
  refine va_sld hx hb hX hbl hbA hS (z_vpin (by omega) (by omega)) dL_law_956 ?_
  refine z_topeq (y := t_8) (by rw [et_8, ez_18, ez_7]) ?_
  refine lv_aload_n hx hb dL_law_957 rfl (lv_at hl 4 rfl) ?_
  refine lv_iload hx hb dL_law_958 (lv_at hl 0 rfl) ?_
  refine lv_iconst (v := 5) hx hb dL_law_960 (by decide) ?_
  refine lv_iadd hx hb dL_law_961 ?_
  refine lv_topi (fun z_19 ez_19 => ?_)
  have kz_19 : (z_19).toInt = (i).toInt + (5 : Int) := by rw [ez_19]; exact z_add (a := (i).toInt) (b := (5 : Int)) rfl rfl (by omega) (by omega)
  refine va_sld hx hb hX hbl hbA hS (z_vpin (by omega) (by omega)) dL_law_962 ?_
  refine z_topeq (y := t_10) (by rw [et_10, ez_19, ez_9]) ?_
  refine lv_aload_n hx hb dL_law_963 rfl (lv_at hl 4 rfl) ?_
  refine lv_iload hx hb dL_law_964 (lv_at hl 0 rfl) ?_
  refine lv_bipush (v := 6) hx hb dL_law_966 (by decide) ?_
  refine lv_iadd hx hb dL_law_968 ?_
  refine lv_topi (fun z_20 ez_20 => ?_)
  have kz_20 : (z_20).toInt = (i).toInt + (6 : Int) := by rw [ez_20]; exact z_add (a := (i).toInt) (b := (6 : Int)) rfl rfl (by omega) (by omega)
  refine va_sld hx hb hX hbl hbA hS (z_vpin (by omega) (by omega)) dL_law_969 ?_
  refine z_topeq (y := t_12) (by rw [et_12, ez_20, ez_11]) ?_
  refine q_970 C0 hK hST (by omega) (by omega) hI hS hl t_2 t_4 t_6 t_8 t_10 t_12 (fun r_21  H locs hw_22 hI hS => ?_)
  refine lv_pop hx hb dL_law_973 rfl ?_
  refine lv_goto (tgt := 1326) hx hb dL_law_974 (by decide) ?_
  exact hN _ _ _ _ _ _ (by omega) (by omega) hI hS (lv_sub hl [0, 1, 2, 3, 4] rfl)
set_option maxHeartbeats 4000000 in
set_option maxRecDepth 100000 in
theorem law_c19 {p : Program} {l : Launch} {e : Env} {s : State} {m : MethodId} {below : List Frame} {meth : Method} {c : Code} {dC : Nat → ClassId} {dI : Nat → Nat → Nat} {b L : Nat} {xs : Nat → Int32} {ad : Nat → Nat} {ca : Nat → ClassId} {sd sv : Nat → Nat} {sf : Value} (C0 : lw_At p s m meth c b L xs) (hK : va_K (dC, dI) vwCl (z_T ca) s) (hST : z_ST sd sv sf (fun q : Nat => s.heap.size ≤ q) s s.heap) (hst : l.stackTraces = false) {sa : Nat} (hT0 : z_TH sa (fun q : Nat => s.heap.size ≤ q) s s.heap) (hL : L ≤ 3584) {cells slots : Nat} (hc : cells ≤ 690) (hs : slots ≤ 37000) {i : Int32} (hi : 0 ≤ i.toInt ∧ i.toInt + 7 ≤ (L : Int)) {H : Heap} {locs : List Loc} {ls : Array Slot} {g : Nat → Nat → Int32} (hI : z_In dC dI (fun q : Nat => s.heap.size ≤ q) ad ca g g H) (hS : va_S (fun q : Nat => s.heap.size ≤ q) s.heap H locs) (hl : lv_has ls 7 [(4, .int i), (3, .ref (ad 99)), (2, .ref (ad 57)), (1, .ref (ad 0)), (0, .ref b)]) (hN : (∀ (cells9 slots9 : Nat) (g : Nat → Nat → Int32) (H : Heap) (locs : List Loc) (ls : Array Slot), cells9 ≤ cells + 1 → slots9 ≤ slots + 6 → z_In dC dI (fun q : Nat => s.heap.size ≤ q) ad ca g g H → va_S (fun q : Nat => s.heap.size ≤ q) s.heap H locs → lv_has ls 7 [(4, .int i), (3, .ref (ad 99)), (2, .ref (ad 57)), (1, .ref (ad 0)), (0, .ref b)] → W p l e room_1 s m #[Value.ref b] below meth c H locs cells9 slots9 (lw_Z below #[Value.ref b] s) (F0 m 1326 ls []))) : W p l e room_1 s m #[Value.ref b] below meth c H locs cells slots (lw_Z below #[Value.ref b] s) (F0 m 977 ls []) := by
  obtain ⟨hx, hb, hr, hml, hown, hts, hX, hbl, hlocks, hgv⟩ := id C0
  have hown : s.vm.findClass RL = some m.cls := hown
  have hA : ∀ q : Nat, s.heap.size ≤ q → (fun q : Nat => s.heap.size ≤ q) q := fun _ h => h
  have hbA : ¬ (fun q : Nat => s.heap.size ≤ q) b := Nat.not_le.mpr hbl
  refine lv_aload_n hx hb dL_law_977 rfl (lv_at hl 3 rfl) ?_
  refine lv_aload_n hx hb dL_law_978 rfl (lv_at hl 4 rfl) ?_
  refine lv_iload hx hb dL_law_979 (lv_at hl 0 rfl) ?_
  refine lv_iconst (v := 1) hx hb dL_law_981 (by decide) ?_
  refine lv_iadd hx hb dL_law_982 ?_
  refine lv_topi (fun z_1 ez_1 => ?_)
  have kz_1 : (z_1).toInt = (i).toInt + (1 : Int) := by rw [ez_1]; exact z_add (a := (i).toInt) (b := (1 : Int)) rfl rfl (by omega) (by omega)
  refine va_sld hx hb hX hbl hbA hS (z_vpin (by omega) (by omega)) dL_law_983 ?_
  refine lv_topi (fun t_2 et_2 => ?_)
  refine lv_aload_n hx hb dL_law_984 rfl (lv_at hl 4 rfl) ?_
  refine lv_iload hx hb dL_law_985 (lv_at hl 0 rfl) ?_
  refine lv_iconst (v := 2) hx hb dL_law_987 (by decide) ?_
  refine lv_iadd hx hb dL_law_988 ?_
  refine lv_topi (fun z_3 ez_3 => ?_)
  have kz_3 : (z_3).toInt = (i).toInt + (2 : Int) := by rw [ez_3]; exact z_add (a := (i).toInt) (b := (2 : Int)) rfl rfl (by omega) (by omega)
  refine va_sld hx hb hX hbl hbA hS (z_vpin (by omega) (by omega)) dL_law_989 ?_
  refine lv_topi (fun t_4 et_4 => ?_)
  refine lv_aload_n hx hb dL_law_990 rfl (lv_at hl 4 rfl) ?_
  refine lv_iload hx hb dL_law_991 (lv_at hl 0 rfl) ?_
  refine lv_iconst (v := 3) hx hb dL_law_993 (by decide) ?_
  refine lv_iadd hx hb dL_law_994 ?_
  refine lv_topi (fun z_5 ez_5 => ?_)
  have kz_5 : (z_5).toInt = (i).toInt + (3 : Int) := by rw [ez_5]; exact z_add (a := (i).toInt) (b := (3 : Int)) rfl rfl (by omega) (by omega)
  refine va_sld hx hb hX hbl hbA hS (z_vpin (by omega) (by omega)) dL_law_995 ?_
  refine lv_topi (fun t_6 et_6 => ?_)
  refine lv_aload_n hx hb dL_law_996 rfl (lv_at hl 4 rfl) ?_
  refine lv_iload hx hb dL_law_997 (lv_at hl 0 rfl) ?_
  refine lv_iconst (v := 4) hx hb dL_law_999 (by decide) ?_
  refine lv_iadd hx hb dL_law_1000 ?_
  refine lv_topi (fun z_7 ez_7 => ?_)
  have kz_7 : (z_7).toInt = (i).toInt + (4 : Int) := by rw [ez_7]; exact z_add (a := (i).toInt) (b := (4 : Int)) rfl rfl (by omega) (by omega)
  refine va_sld hx hb hX hbl hbA hS (z_vpin (by omega) (by omega)) dL_law_1001 ?_
  refine lv_topi (fun t_8 et_8 => ?_)
  refine lv_aload_n hx hb dL_law_1002 rfl (lv_at hl 4 rfl) ?_
  refine lv_iload hx hb dL_law_1003 (lv_at hl 0 rfl) ?_
  refine lv_iconst (v := 5) hx hb dL_law_1005 (by decide) ?_
  refine lv_iadd hx hb dL_law_1006 ?_
  refine lv_topi (fun z_9 ez_9 => ?_)
  have kz_9 : (z_9).toInt = (i).toInt + (5 : Int) := by rw [ez_9]; exact z_add (a := (i).toInt) (b := (5 : Int)) rfl rfl (by omega) (by omega)
  refine va_sld hx hb hX hbl hbA hS (z_vpin (by omega) (by omega)) dL_law_1007 ?_
  refine lv_topi (fun t_10 et_10 => ?_)
  refine lv_aload_n hx hb dL_law_1008 rfl (lv_at hl 4 rfl) ?_
  refine lv_iload hx hb dL_law_1009 (lv_at hl 0 rfl) ?_
  refine lv_bipush (v := 6) hx hb dL_law_1011 (by decide) ?_
  refine lv_iadd hx hb dL_law_1013 ?_
  refine lv_topi (fun z_11 ez_11 => ?_)
  have kz_11 : (z_11).toInt = (i).toInt + (6 : Int) := by rw [ez_11]; exact z_add (a := (i).toInt) (b := (6 : Int)) rfl rfl (by omega) (by omega)
  refine va_sld hx hb hX hbl hbA hS (z_vpin (by omega) (by omega)) dL_law_1014 ?_
  refine lv_topi (fun t_12 et_12 => ?_)
  refine q_1015 C0 hK hST (by omega) (by omega) hI hS hl t_2 t_4 t_6 t_8 t_10 t_12 (fun r_13  H locs hw_14 hI hS => ?_)
  refine lv_pop hx hb dL_law_1018 rfl ?_
  refine lv_aload_n hx hb dL_law_1019 rfl (lv_at hl 2 rfl) ?_
  refine lv_aload_n hx hb dL_law_1020 rfl (lv_at hl 4 rfl) ?_
  refine lv_iload hx hb dL_law_1021 (lv_at hl 0 rfl) ?_
  refine lv_iconst (v := 1) hx hb dL_law_1023 (by decide) ?_
  refine lv_iadd hx hb dL_law_1024 ?_
  refine lv_topi (fun z_15 ez_15 => ?_)
  have kz_15 : (z_15).toInt = (i).toInt + (1 : Int) := by rw [ez_15]; exact z_add (a := (i).toInt) (b := (1 : Int)) rfl rfl (by omega) (by omega)
  refine va_sld hx hb hX hbl hbA hS (z_vpin (by omega) (by omega)) dL_law_1025 ?_
  refine z_topeq (y := t_2) (by rw [et_2, ez_15, ez_1]) ?_
  refine lv_aload_n hx hb dL_law_1026 rfl (lv_at hl 4 rfl) ?_
  refine lv_iload hx hb dL_law_1027 (lv_at hl 0 rfl) ?_
  refine lv_iconst (v := 2) hx hb dL_law_1029 (by decide) ?_
  refine lv_iadd hx hb dL_law_1030 ?_
  refine lv_topi (fun z_16 ez_16 => ?_)
  have kz_16 : (z_16).toInt = (i).toInt + (2 : Int) := by rw [ez_16]; exact z_add (a := (i).toInt) (b := (2 : Int)) rfl rfl (by omega) (by omega)
  refine va_sld hx hb hX hbl hbA hS (z_vpin (by omega) (by omega)) dL_law_1031 ?_
  refine z_topeq (y := t_4) (by rw [et_4, ez_16, ez_3]) ?_
  refine lv_aload_n hx hb dL_law_1032 rfl (lv_at hl 4 rfl) ?_
  refine lv_iload hx hb dL_law_1033 (lv_at hl 0 rfl) ?_
  refine lv_iconst (v := 3) hx hb dL_law_1035 (by decide) ?_
  refine lv_iadd hx hb dL_law_1036 ?_
  refine lv_topi (fun z_17 ez_17 => ?_)
  have kz_17 : (z_17).toInt = (i).toInt + (3 : Int) := by rw [ez_17]; exact z_add (a := (i).toInt) (b := (3 : Int)) rfl rfl (by omega) (by omega)
  refine va_sld hx hb hX hbl hbA hS (z_vpin (by omega) (by omega)) dL_law_1037 ?_
  refine z_topeq (y := t_6) (by rw [et_6, ez_17, ez_5]) ?_
  refine lv_aload_n hx hb dL_law_1038 rfl (lv_at hl 4 rfl) ?_
  refine lv_iload hx hb dL_law_1039 (lv_at hl 0 rfl) ?_
  refine lv_iconst (v := 4) hx hb dL_law_1041 (by decide) ?_
  refine lv_iadd hx hb dL_law_1042 ?_
  refine lv_topi (fun z_18 ez_18 => ?_)
  have kz_18 : (z_18).toInt = (i).toInt + (4 : Int) := by rw [ez_18]; exact z_add (a := (i).toInt) (b := (4 : Int)) rfl rfl (by omega) (by omega)
  refine va_sld hx hb hX hbl hbA hS (z_vpin (by omega) (by omega)) dL_law_1043 ?_
  refine z_topeq (y := t_8) (by rw [et_8, ez_18, ez_7]) ?_
  refine lv_aload_n hx hb dL_law_1044 rfl (lv_at hl 4 rfl) ?_
  refine lv_iload hx hb dL_law_1045 (lv_at hl 0 rfl) ?_
  refine lv_iconst (v := 5) hx hb dL_law_1047 (by decide) ?_
  refine lv_iadd hx hb dL_law_1048 ?_
  refine lv_topi (fun z_19 ez_19 => ?_)
  have kz_19 : (z_19).toInt = (i).toInt + (5 : Int) := by rw [ez_19]; exact z_add (a := (i).toInt) (b := (5 : Int)) rfl rfl (by omega) (by omega)
  refine va_sld hx hb hX hbl hbA hS (z_vpin (by omega) (by omega)) dL_law_1049 ?_
  refine z_topeq (y := t_10) (by rw [et_10, ez_19, ez_9]) ?_
  refine lv_aload_n hx hb dL_law_1050 rfl (lv_at hl 4 rfl) ?_
  refine lv_iload hx hb dL_law_1051 (lv_at hl 0 rfl) ?_
  refine lv_bipush (v := 6) hx hb dL_law_1053 (by decide) ?_
  refine lv_iadd hx hb dL_law_1055 ?_
  refine lv_topi (fun z_20 ez_20 => ?_)
  have kz_20 : (z_20).toInt = (i).toInt + (6 : Int) := by rw [ez_20]; exact z_add (a := (i).toInt) (b := (6 : Int)) rfl rfl (by omega) (by omega)
  refine va_sld hx hb hX hbl hbA hS (z_vpin (by omega) (by omega)) dL_law_1056 ?_
  refine z_topeq (y := t_12) (by rw [et_12, ez_20, ez_11]) ?_
  refine q_1057 C0 hK hST (by omega) (by omega) hI hS hl t_2 t_4 t_6 t_8 t_10 t_12 (fun r_21  H locs hw_22 hI hS => ?_)
  refine lv_pop hx hb dL_law_1060 rfl ?_
  refine lv_goto (tgt := 1326) hx hb dL_law_1061 (by decide) ?_
  exact hN _ _ _ _ _ _ (by omega) (by omega) hI hS (lv_sub hl [0, 1, 2, 3, 4] rfl)
set_option maxHeartbeats 4000000 in
set_option maxRecDepth 100000 in
theorem law_c20 {p : Program} {l : Launch} {e : Env} {s : State} {m : MethodId} {below : List Frame} {meth : Method} {c : Code} {dC : Nat → ClassId} {dI : Nat → Nat → Nat} {b L : Nat} {xs : Nat → Int32} {ad : Nat → Nat} {ca : Nat → ClassId} {sd sv : Nat → Nat} {sf : Value} (C0 : lw_At p s m meth c b L xs) (hK : va_K (dC, dI) vwCl (z_T ca) s) (hST : z_ST sd sv sf (fun q : Nat => s.heap.size ≤ q) s s.heap) (hst : l.stackTraces = false) {sa : Nat} (hT0 : z_TH sa (fun q : Nat => s.heap.size ≤ q) s s.heap) (hL : L ≤ 3584) {cells slots : Nat} (hc : cells ≤ 690) (hs : slots ≤ 37000) {i : Int32} (hi : 0 ≤ i.toInt ∧ i.toInt + 7 ≤ (L : Int)) {H : Heap} {locs : List Loc} {ls : Array Slot} {g : Nat → Nat → Int32} (hI : z_In dC dI (fun q : Nat => s.heap.size ≤ q) ad ca g g H) (hS : va_S (fun q : Nat => s.heap.size ≤ q) s.heap H locs) (hl : lv_has ls 7 [(4, .int i), (3, .ref (ad 99)), (2, .ref (ad 57)), (1, .ref (ad 0)), (0, .ref b)]) (hN : (∀ (cells9 slots9 : Nat) (g : Nat → Nat → Int32) (H : Heap) (locs : List Loc) (ls : Array Slot), cells9 ≤ cells + 1 → slots9 ≤ slots + 6 → z_In dC dI (fun q : Nat => s.heap.size ≤ q) ad ca g g H → va_S (fun q : Nat => s.heap.size ≤ q) s.heap H locs → lv_has ls 7 [(4, .int i), (3, .ref (ad 99)), (2, .ref (ad 57)), (1, .ref (ad 0)), (0, .ref b)] → W p l e room_1 s m #[Value.ref b] below meth c H locs cells9 slots9 (lw_Z below #[Value.ref b] s) (F0 m 1326 ls []))) : W p l e room_1 s m #[Value.ref b] below meth c H locs cells slots (lw_Z below #[Value.ref b] s) (F0 m 1064 ls []) := by
  obtain ⟨hx, hb, hr, hml, hown, hts, hX, hbl, hlocks, hgv⟩ := id C0
  have hown : s.vm.findClass RL = some m.cls := hown
  have hA : ∀ q : Nat, s.heap.size ≤ q → (fun q : Nat => s.heap.size ≤ q) q := fun _ h => h
  have hbA : ¬ (fun q : Nat => s.heap.size ≤ q) b := Nat.not_le.mpr hbl
  refine lv_aload_n hx hb dL_law_1064 rfl (lv_at hl 3 rfl) ?_
  refine lv_aload_n hx hb dL_law_1065 rfl (lv_at hl 4 rfl) ?_
  refine lv_iload hx hb dL_law_1066 (lv_at hl 0 rfl) ?_
  refine lv_iconst (v := 1) hx hb dL_law_1068 (by decide) ?_
  refine lv_iadd hx hb dL_law_1069 ?_
  refine lv_topi (fun z_1 ez_1 => ?_)
  have kz_1 : (z_1).toInt = (i).toInt + (1 : Int) := by rw [ez_1]; exact z_add (a := (i).toInt) (b := (1 : Int)) rfl rfl (by omega) (by omega)
  refine va_sld hx hb hX hbl hbA hS (z_vpin (by omega) (by omega)) dL_law_1070 ?_
  refine lv_topi (fun t_2 et_2 => ?_)
  refine lv_aload_n hx hb dL_law_1071 rfl (lv_at hl 4 rfl) ?_
  refine lv_iload hx hb dL_law_1072 (lv_at hl 0 rfl) ?_
  refine lv_iconst (v := 2) hx hb dL_law_1074 (by decide) ?_
  refine lv_iadd hx hb dL_law_1075 ?_
  refine lv_topi (fun z_3 ez_3 => ?_)
  have kz_3 : (z_3).toInt = (i).toInt + (2 : Int) := by rw [ez_3]; exact z_add (a := (i).toInt) (b := (2 : Int)) rfl rfl (by omega) (by omega)
  refine va_sld hx hb hX hbl hbA hS (z_vpin (by omega) (by omega)) dL_law_1076 ?_
  refine lv_topi (fun t_4 et_4 => ?_)
  refine lv_aload_n hx hb dL_law_1077 rfl (lv_at hl 4 rfl) ?_
  refine lv_iload hx hb dL_law_1078 (lv_at hl 0 rfl) ?_
  refine lv_iconst (v := 3) hx hb dL_law_1080 (by decide) ?_
  refine lv_iadd hx hb dL_law_1081 ?_
  refine lv_topi (fun z_5 ez_5 => ?_)
  have kz_5 : (z_5).toInt = (i).toInt + (3 : Int) := by rw [ez_5]; exact z_add (a := (i).toInt) (b := (3 : Int)) rfl rfl (by omega) (by omega)
  refine va_sld hx hb hX hbl hbA hS (z_vpin (by omega) (by omega)) dL_law_1082 ?_
  refine lv_topi (fun t_6 et_6 => ?_)
  refine q_1083 C0 hK hST (by omega) (by omega) hI hS hl t_2 t_4 t_6 (fun r_7  H locs hw_8 hI hS => ?_)
  refine lv_pop hx hb dL_law_1086 rfl ?_
  refine lv_aload_n hx hb dL_law_1087 rfl (lv_at hl 2 rfl) ?_
  refine lv_aload_n hx hb dL_law_1088 rfl (lv_at hl 4 rfl) ?_
  refine lv_iload hx hb dL_law_1089 (lv_at hl 0 rfl) ?_
  refine lv_iconst (v := 1) hx hb dL_law_1091 (by decide) ?_
  refine lv_iadd hx hb dL_law_1092 ?_
  refine lv_topi (fun z_9 ez_9 => ?_)
  have kz_9 : (z_9).toInt = (i).toInt + (1 : Int) := by rw [ez_9]; exact z_add (a := (i).toInt) (b := (1 : Int)) rfl rfl (by omega) (by omega)
  refine va_sld hx hb hX hbl hbA hS (z_vpin (by omega) (by omega)) dL_law_1093 ?_
  refine z_topeq (y := t_2) (by rw [et_2, ez_9, ez_1]) ?_
  refine lv_aload_n hx hb dL_law_1094 rfl (lv_at hl 4 rfl) ?_
  refine lv_iload hx hb dL_law_1095 (lv_at hl 0 rfl) ?_
  refine lv_iconst (v := 2) hx hb dL_law_1097 (by decide) ?_
  refine lv_iadd hx hb dL_law_1098 ?_
  refine lv_topi (fun z_10 ez_10 => ?_)
  have kz_10 : (z_10).toInt = (i).toInt + (2 : Int) := by rw [ez_10]; exact z_add (a := (i).toInt) (b := (2 : Int)) rfl rfl (by omega) (by omega)
  refine va_sld hx hb hX hbl hbA hS (z_vpin (by omega) (by omega)) dL_law_1099 ?_
  refine z_topeq (y := t_4) (by rw [et_4, ez_10, ez_3]) ?_
  refine lv_aload_n hx hb dL_law_1100 rfl (lv_at hl 4 rfl) ?_
  refine lv_iload hx hb dL_law_1101 (lv_at hl 0 rfl) ?_
  refine lv_iconst (v := 3) hx hb dL_law_1103 (by decide) ?_
  refine lv_iadd hx hb dL_law_1104 ?_
  refine lv_topi (fun z_11 ez_11 => ?_)
  have kz_11 : (z_11).toInt = (i).toInt + (3 : Int) := by rw [ez_11]; exact z_add (a := (i).toInt) (b := (3 : Int)) rfl rfl (by omega) (by omega)
  refine va_sld hx hb hX hbl hbA hS (z_vpin (by omega) (by omega)) dL_law_1105 ?_
  refine z_topeq (y := t_6) (by rw [et_6, ez_11, ez_5]) ?_
  refine q_1106 C0 hK hST (by omega) (by omega) hI hS hl t_2 t_4 t_6 (fun r_12  H locs hw_13 hI hS => ?_)
  refine lv_pop hx hb dL_law_1109 rfl ?_
  refine lv_goto (tgt := 1326) hx hb dL_law_1110 (by decide) ?_
  exact hN _ _ _ _ _ _ (by omega) (by omega) hI hS (lv_sub hl [0, 1, 2, 3, 4] rfl)
set_option maxHeartbeats 4000000 in
set_option maxRecDepth 100000 in
theorem law_c21 {p : Program} {l : Launch} {e : Env} {s : State} {m : MethodId} {below : List Frame} {meth : Method} {c : Code} {dC : Nat → ClassId} {dI : Nat → Nat → Nat} {b L : Nat} {xs : Nat → Int32} {ad : Nat → Nat} {ca : Nat → ClassId} {sd sv : Nat → Nat} {sf : Value} (C0 : lw_At p s m meth c b L xs) (hK : va_K (dC, dI) vwCl (z_T ca) s) (hST : z_ST sd sv sf (fun q : Nat => s.heap.size ≤ q) s s.heap) (hst : l.stackTraces = false) {sa : Nat} (hT0 : z_TH sa (fun q : Nat => s.heap.size ≤ q) s s.heap) (hL : L ≤ 3584) {cells slots : Nat} (hc : cells ≤ 690) (hs : slots ≤ 37000) {i : Int32} (hi : 0 ≤ i.toInt ∧ i.toInt + 7 ≤ (L : Int)) {H : Heap} {locs : List Loc} {ls : Array Slot} {g : Nat → Nat → Int32} (hI : z_In dC dI (fun q : Nat => s.heap.size ≤ q) ad ca g g H) (hS : va_S (fun q : Nat => s.heap.size ≤ q) s.heap H locs) (hl : lv_has ls 7 [(4, .int i), (3, .ref (ad 99)), (2, .ref (ad 57)), (1, .ref (ad 0)), (0, .ref b)]) (hN : (∀ (cells9 slots9 : Nat) (g : Nat → Nat → Int32) (H : Heap) (locs : List Loc) (ls : Array Slot), cells9 ≤ cells + 1 → slots9 ≤ slots + 6 → z_In dC dI (fun q : Nat => s.heap.size ≤ q) ad ca g g H → va_S (fun q : Nat => s.heap.size ≤ q) s.heap H locs → lv_has ls 7 [(4, .int i), (3, .ref (ad 99)), (2, .ref (ad 57)), (1, .ref (ad 0)), (0, .ref b)] → W p l e room_1 s m #[Value.ref b] below meth c H locs cells9 slots9 (lw_Z below #[Value.ref b] s) (F0 m 1326 ls []))) : W p l e room_1 s m #[Value.ref b] below meth c H locs cells slots (lw_Z below #[Value.ref b] s) (F0 m 1113 ls []) := by
  obtain ⟨hx, hb, hr, hml, hown, hts, hX, hbl, hlocks, hgv⟩ := id C0
  have hown : s.vm.findClass RL = some m.cls := hown
  have hA : ∀ q : Nat, s.heap.size ≤ q → (fun q : Nat => s.heap.size ≤ q) q := fun _ h => h
  have hbA : ¬ (fun q : Nat => s.heap.size ≤ q) b := Nat.not_le.mpr hbl
  refine lv_aload_n hx hb dL_law_1113 rfl (lv_at hl 3 rfl) ?_
  refine lv_aload_n hx hb dL_law_1114 rfl (lv_at hl 4 rfl) ?_
  refine lv_iload hx hb dL_law_1115 (lv_at hl 0 rfl) ?_
  refine lv_iconst (v := 1) hx hb dL_law_1117 (by decide) ?_
  refine lv_iadd hx hb dL_law_1118 ?_
  refine lv_topi (fun z_1 ez_1 => ?_)
  have kz_1 : (z_1).toInt = (i).toInt + (1 : Int) := by rw [ez_1]; exact z_add (a := (i).toInt) (b := (1 : Int)) rfl rfl (by omega) (by omega)
  refine va_sld hx hb hX hbl hbA hS (z_vpin (by omega) (by omega)) dL_law_1119 ?_
  refine lv_topi (fun t_2 et_2 => ?_)
  refine q_1120 C0 hK hST (by omega) (by omega) hI hS hl t_2 (fun r_3  H locs hw_4 hI hS => ?_)
  refine lv_pop hx hb dL_law_1123 rfl ?_
  refine lv_aload_n hx hb dL_law_1124 rfl (lv_at hl 2 rfl) ?_
  refine lv_aload_n hx hb dL_law_1125 rfl (lv_at hl 4 rfl) ?_
  refine lv_iload hx hb dL_law_1126 (lv_at hl 0 rfl) ?_
  refine lv_iconst (v := 1) hx hb dL_law_1128 (by decide) ?_
  refine lv_iadd hx hb dL_law_1129 ?_
  refine lv_topi (fun z_5 ez_5 => ?_)
  have kz_5 : (z_5).toInt = (i).toInt + (1 : Int) := by rw [ez_5]; exact z_add (a := (i).toInt) (b := (1 : Int)) rfl rfl (by omega) (by omega)
  refine va_sld hx hb hX hbl hbA hS (z_vpin (by omega) (by omega)) dL_law_1130 ?_
  refine z_topeq (y := t_2) (by rw [et_2, ez_5, ez_1]) ?_
  refine q_1131 C0 hK hST (by omega) (by omega) hI hS hl t_2 (fun r_6  H locs hw_7 hI hS => ?_)
  refine lv_pop hx hb dL_law_1134 rfl ?_
  refine lv_goto (tgt := 1326) hx hb dL_law_1135 (by decide) ?_
  exact hN _ _ _ _ _ _ (by omega) (by omega) hI hS (lv_sub hl [0, 1, 2, 3, 4] rfl)
set_option maxHeartbeats 4000000 in
set_option maxRecDepth 100000 in
theorem law_c22 {p : Program} {l : Launch} {e : Env} {s : State} {m : MethodId} {below : List Frame} {meth : Method} {c : Code} {dC : Nat → ClassId} {dI : Nat → Nat → Nat} {b L : Nat} {xs : Nat → Int32} {ad : Nat → Nat} {ca : Nat → ClassId} {sd sv : Nat → Nat} {sf : Value} (C0 : lw_At p s m meth c b L xs) (hK : va_K (dC, dI) vwCl (z_T ca) s) (hST : z_ST sd sv sf (fun q : Nat => s.heap.size ≤ q) s s.heap) (hst : l.stackTraces = false) {sa : Nat} (hT0 : z_TH sa (fun q : Nat => s.heap.size ≤ q) s s.heap) (hL : L ≤ 3584) {cells slots : Nat} (hc : cells ≤ 690) (hs : slots ≤ 37000) {i : Int32} (hi : 0 ≤ i.toInt ∧ i.toInt + 7 ≤ (L : Int)) {H : Heap} {locs : List Loc} {ls : Array Slot} {g : Nat → Nat → Int32} (hI : z_In dC dI (fun q : Nat => s.heap.size ≤ q) ad ca g g H) (hS : va_S (fun q : Nat => s.heap.size ≤ q) s.heap H locs) (hl : lv_has ls 7 [(4, .int i), (3, .ref (ad 99)), (2, .ref (ad 57)), (1, .ref (ad 0)), (0, .ref b)]) (hN : (∀ (cells9 slots9 : Nat) (g : Nat → Nat → Int32) (H : Heap) (locs : List Loc) (ls : Array Slot), cells9 ≤ cells + 1 → slots9 ≤ slots + 6 → z_In dC dI (fun q : Nat => s.heap.size ≤ q) ad ca g g H → va_S (fun q : Nat => s.heap.size ≤ q) s.heap H locs → lv_has ls 7 [(4, .int i), (3, .ref (ad 99)), (2, .ref (ad 57)), (1, .ref (ad 0)), (0, .ref b)] → W p l e room_1 s m #[Value.ref b] below meth c H locs cells9 slots9 (lw_Z below #[Value.ref b] s) (F0 m 1326 ls []))) : W p l e room_1 s m #[Value.ref b] below meth c H locs cells slots (lw_Z below #[Value.ref b] s) (F0 m 1138 ls []) := by
  obtain ⟨hx, hb, hr, hml, hown, hts, hX, hbl, hlocks, hgv⟩ := id C0
  have hown : s.vm.findClass RL = some m.cls := hown
  have hA : ∀ q : Nat, s.heap.size ≤ q → (fun q : Nat => s.heap.size ≤ q) q := fun _ h => h
  have hbA : ¬ (fun q : Nat => s.heap.size ≤ q) b := Nat.not_le.mpr hbl
  refine lv_aload_n hx hb dL_law_1138 rfl (lv_at hl 3 rfl) ?_
  refine lv_aload_n hx hb dL_law_1139 rfl (lv_at hl 4 rfl) ?_
  refine lv_iload hx hb dL_law_1140 (lv_at hl 0 rfl) ?_
  refine lv_iconst (v := 1) hx hb dL_law_1142 (by decide) ?_
  refine lv_iadd hx hb dL_law_1143 ?_
  refine lv_topi (fun z_1 ez_1 => ?_)
  have kz_1 : (z_1).toInt = (i).toInt + (1 : Int) := by rw [ez_1]; exact z_add (a := (i).toInt) (b := (1 : Int)) rfl rfl (by omega) (by omega)
  refine va_sld hx hb hX hbl hbA hS (z_vpin (by omega) (by omega)) dL_law_1144 ?_
  refine lv_topi (fun t_2 et_2 => ?_)
  refine lv_aload_n hx hb dL_law_1145 rfl (lv_at hl 4 rfl) ?_
  refine lv_iload hx hb dL_law_1146 (lv_at hl 0 rfl) ?_
  refine lv_iconst (v := 2) hx hb dL_law_1148 (by decide) ?_
  refine lv_iadd hx hb dL_law_1149 ?_
  refine lv_topi (fun z_3 ez_3 => ?_)
  have kz_3 : (z_3).toInt = (i).toInt + (2 : Int) := by rw [ez_3]; exact z_add (a := (i).toInt) (b := (2 : Int)) rfl rfl (by omega) (by omega)
  refine va_sld hx hb hX hbl hbA hS (z_vpin (by omega) (by omega)) dL_law_1150 ?_
  refine lv_topi (fun t_4 et_4 => ?_)
  refine lv_aload_n hx hb dL_law_1151 rfl (lv_at hl 4 rfl) ?_
  refine lv_iload hx hb dL_law_1152 (lv_at hl 0 rfl) ?_
  refine lv_iconst (v := 3) hx hb dL_law_1154 (by decide) ?_
  refine lv_iadd hx hb dL_law_1155 ?_
  refine lv_topi (fun z_5 ez_5 => ?_)
  have kz_5 : (z_5).toInt = (i).toInt + (3 : Int) := by rw [ez_5]; exact z_add (a := (i).toInt) (b := (3 : Int)) rfl rfl (by omega) (by omega)
  refine va_sld hx hb hX hbl hbA hS (z_vpin (by omega) (by omega)) dL_law_1156 ?_
  refine lv_topi (fun t_6 et_6 => ?_)
  refine lv_aload_n hx hb dL_law_1157 rfl (lv_at hl 4 rfl) ?_
  refine lv_iload hx hb dL_law_1158 (lv_at hl 0 rfl) ?_
  refine lv_iconst (v := 4) hx hb dL_law_1160 (by decide) ?_
  refine lv_iadd hx hb dL_law_1161 ?_
  refine lv_topi (fun z_7 ez_7 => ?_)
  have kz_7 : (z_7).toInt = (i).toInt + (4 : Int) := by rw [ez_7]; exact z_add (a := (i).toInt) (b := (4 : Int)) rfl rfl (by omega) (by omega)
  refine va_sld hx hb hX hbl hbA hS (z_vpin (by omega) (by omega)) dL_law_1162 ?_
  refine lv_topi (fun t_8 et_8 => ?_)
  refine q_1163 C0 hK hST (by omega) (by omega) hI hS hl t_2 t_4 t_6 t_8 (fun r_9  H locs hw_10 hI hS => ?_)
  refine lv_pop hx hb dL_law_1166 rfl ?_
  refine lv_aload_n hx hb dL_law_1167 rfl (lv_at hl 2 rfl) ?_
  refine lv_aload_n hx hb dL_law_1168 rfl (lv_at hl 4 rfl) ?_
  refine lv_iload hx hb dL_law_1169 (lv_at hl 0 rfl) ?_
  refine lv_iconst (v := 1) hx hb dL_law_1171 (by decide) ?_
  refine lv_iadd hx hb dL_law_1172 ?_
  refine lv_topi (fun z_11 ez_11 => ?_)
  have kz_11 : (z_11).toInt = (i).toInt + (1 : Int) := by rw [ez_11]; exact z_add (a := (i).toInt) (b := (1 : Int)) rfl rfl (by omega) (by omega)
  refine va_sld hx hb hX hbl hbA hS (z_vpin (by omega) (by omega)) dL_law_1173 ?_
  refine z_topeq (y := t_2) (by rw [et_2, ez_11, ez_1]) ?_
  refine lv_aload_n hx hb dL_law_1174 rfl (lv_at hl 4 rfl) ?_
  refine lv_iload hx hb dL_law_1175 (lv_at hl 0 rfl) ?_
  refine lv_iconst (v := 2) hx hb dL_law_1177 (by decide) ?_
  refine lv_iadd hx hb dL_law_1178 ?_
  refine lv_topi (fun z_12 ez_12 => ?_)
  have kz_12 : (z_12).toInt = (i).toInt + (2 : Int) := by rw [ez_12]; exact z_add (a := (i).toInt) (b := (2 : Int)) rfl rfl (by omega) (by omega)
  refine va_sld hx hb hX hbl hbA hS (z_vpin (by omega) (by omega)) dL_law_1179 ?_
  refine z_topeq (y := t_4) (by rw [et_4, ez_12, ez_3]) ?_
  refine lv_aload_n hx hb dL_law_1180 rfl (lv_at hl 4 rfl) ?_
  refine lv_iload hx hb dL_law_1181 (lv_at hl 0 rfl) ?_
  refine lv_iconst (v := 3) hx hb dL_law_1183 (by decide) ?_
  refine lv_iadd hx hb dL_law_1184 ?_
  refine lv_topi (fun z_13 ez_13 => ?_)
  have kz_13 : (z_13).toInt = (i).toInt + (3 : Int) := by rw [ez_13]; exact z_add (a := (i).toInt) (b := (3 : Int)) rfl rfl (by omega) (by omega)
  refine va_sld hx hb hX hbl hbA hS (z_vpin (by omega) (by omega)) dL_law_1185 ?_
  refine z_topeq (y := t_6) (by rw [et_6, ez_13, ez_5]) ?_
  refine lv_aload_n hx hb dL_law_1186 rfl (lv_at hl 4 rfl) ?_
  refine lv_iload hx hb dL_law_1187 (lv_at hl 0 rfl) ?_
  refine lv_iconst (v := 4) hx hb dL_law_1189 (by decide) ?_
  refine lv_iadd hx hb dL_law_1190 ?_
  refine lv_topi (fun z_14 ez_14 => ?_)
  have kz_14 : (z_14).toInt = (i).toInt + (4 : Int) := by rw [ez_14]; exact z_add (a := (i).toInt) (b := (4 : Int)) rfl rfl (by omega) (by omega)
  refine va_sld hx hb hX hbl hbA hS (z_vpin (by omega) (by omega)) dL_law_1191 ?_
  refine z_topeq (y := t_8) (by rw [et_8, ez_14, ez_7]) ?_
  refine q_1192 C0 hK hST (by omega) (by omega) hI hS hl t_2 t_4 t_6 t_8 (fun r_15  H locs hw_16 hI hS => ?_)
  refine lv_pop hx hb dL_law_1195 rfl ?_
  refine lv_goto (tgt := 1326) hx hb dL_law_1196 (by decide) ?_
  exact hN _ _ _ _ _ _ (by omega) (by omega) hI hS (lv_sub hl [0, 1, 2, 3, 4] rfl)
set_option maxHeartbeats 4000000 in
set_option maxRecDepth 100000 in
theorem law_c23 {p : Program} {l : Launch} {e : Env} {s : State} {m : MethodId} {below : List Frame} {meth : Method} {c : Code} {dC : Nat → ClassId} {dI : Nat → Nat → Nat} {b L : Nat} {xs : Nat → Int32} {ad : Nat → Nat} {ca : Nat → ClassId} {sd sv : Nat → Nat} {sf : Value} (C0 : lw_At p s m meth c b L xs) (hK : va_K (dC, dI) vwCl (z_T ca) s) (hST : z_ST sd sv sf (fun q : Nat => s.heap.size ≤ q) s s.heap) (hst : l.stackTraces = false) {sa : Nat} (hT0 : z_TH sa (fun q : Nat => s.heap.size ≤ q) s s.heap) (hL : L ≤ 3584) {cells slots : Nat} (hc : cells ≤ 690) (hs : slots ≤ 37000) {i : Int32} (hi : 0 ≤ i.toInt ∧ i.toInt + 7 ≤ (L : Int)) {H : Heap} {locs : List Loc} {ls : Array Slot} {g : Nat → Nat → Int32} (hI : z_In dC dI (fun q : Nat => s.heap.size ≤ q) ad ca g g H) (hS : va_S (fun q : Nat => s.heap.size ≤ q) s.heap H locs) (hl : lv_has ls 7 [(4, .int i), (3, .ref (ad 99)), (2, .ref (ad 57)), (1, .ref (ad 0)), (0, .ref b)]) (hN : (∀ (cells9 slots9 : Nat) (g : Nat → Nat → Int32) (H : Heap) (locs : List Loc) (ls : Array Slot), cells9 ≤ cells + 1 → slots9 ≤ slots + 6 → z_In dC dI (fun q : Nat => s.heap.size ≤ q) ad ca g g H → va_S (fun q : Nat => s.heap.size ≤ q) s.heap H locs → lv_has ls 7 [(4, .int i), (3, .ref (ad 99)), (2, .ref (ad 57)), (1, .ref (ad 0)), (0, .ref b)] → W p l e room_1 s m #[Value.ref b] below meth c H locs cells9 slots9 (lw_Z below #[Value.ref b] s) (F0 m 1326 ls []))) : W p l e room_1 s m #[Value.ref b] below meth c H locs cells slots (lw_Z below #[Value.ref b] s) (F0 m 1199 ls []) := by
  obtain ⟨hx, hb, hr, hml, hown, hts, hX, hbl, hlocks, hgv⟩ := id C0
  have hown : s.vm.findClass RL = some m.cls := hown
  have hA : ∀ q : Nat, s.heap.size ≤ q → (fun q : Nat => s.heap.size ≤ q) q := fun _ h => h
  have hbA : ¬ (fun q : Nat => s.heap.size ≤ q) b := Nat.not_le.mpr hbl
  refine lv_aload_n hx hb dL_law_1199 rfl (lv_at hl 3 rfl) ?_
  refine lv_aload_n hx hb dL_law_1200 rfl (lv_at hl 4 rfl) ?_
  refine lv_iload hx hb dL_law_1201 (lv_at hl 0 rfl) ?_
  refine lv_iconst (v := 1) hx hb dL_law_1203 (by decide) ?_
  refine lv_iadd hx hb dL_law_1204 ?_
  refine lv_topi (fun z_1 ez_1 => ?_)
  have kz_1 : (z_1).toInt = (i).toInt + (1 : Int) := by rw [ez_1]; exact z_add (a := (i).toInt) (b := (1 : Int)) rfl rfl (by omega) (by omega)
  refine va_sld hx hb hX hbl hbA hS (z_vpin (by omega) (by omega)) dL_law_1205 ?_
  refine lv_topi (fun t_2 et_2 => ?_)
  refine lv_aload_n hx hb dL_law_1206 rfl (lv_at hl 4 rfl) ?_
  refine lv_iload hx hb dL_law_1207 (lv_at hl 0 rfl) ?_
  refine lv_iconst (v := 2) hx hb dL_law_1209 (by decide) ?_
  refine lv_iadd hx hb dL_law_1210 ?_
  refine lv_topi (fun z_3 ez_3 => ?_)
  have kz_3 : (z_3).toInt = (i).toInt + (2 : Int) := by rw [ez_3]; exact z_add (a := (i).toInt) (b := (2 : Int)) rfl rfl (by omega) (by omega)
  refine va_sld hx hb hX hbl hbA hS (z_vpin (by omega) (by omega)) dL_law_1211 ?_
  refine lv_topi (fun t_4 et_4 => ?_)
  refine q_1212 C0 hK hST (by omega) (by omega) hI hS hl t_2 t_4 (fun r_5  H locs hw_6 hI hS => ?_)
  refine lv_pop hx hb dL_law_1215 rfl ?_
  refine lv_aload_n hx hb dL_law_1216 rfl (lv_at hl 2 rfl) ?_
  refine lv_aload_n hx hb dL_law_1217 rfl (lv_at hl 4 rfl) ?_
  refine lv_iload hx hb dL_law_1218 (lv_at hl 0 rfl) ?_
  refine lv_iconst (v := 1) hx hb dL_law_1220 (by decide) ?_
  refine lv_iadd hx hb dL_law_1221 ?_
  refine lv_topi (fun z_7 ez_7 => ?_)
  have kz_7 : (z_7).toInt = (i).toInt + (1 : Int) := by rw [ez_7]; exact z_add (a := (i).toInt) (b := (1 : Int)) rfl rfl (by omega) (by omega)
  refine va_sld hx hb hX hbl hbA hS (z_vpin (by omega) (by omega)) dL_law_1222 ?_
  refine z_topeq (y := t_2) (by rw [et_2, ez_7, ez_1]) ?_
  refine lv_aload_n hx hb dL_law_1223 rfl (lv_at hl 4 rfl) ?_
  refine lv_iload hx hb dL_law_1224 (lv_at hl 0 rfl) ?_
  refine lv_iconst (v := 2) hx hb dL_law_1226 (by decide) ?_
  refine lv_iadd hx hb dL_law_1227 ?_
  refine lv_topi (fun z_8 ez_8 => ?_)
  have kz_8 : (z_8).toInt = (i).toInt + (2 : Int) := by rw [ez_8]; exact z_add (a := (i).toInt) (b := (2 : Int)) rfl rfl (by omega) (by omega)
  refine va_sld hx hb hX hbl hbA hS (z_vpin (by omega) (by omega)) dL_law_1228 ?_
  refine z_topeq (y := t_4) (by rw [et_4, ez_8, ez_3]) ?_
  refine q_1229 C0 hK hST (by omega) (by omega) hI hS hl t_2 t_4 (fun r_9  H locs hw_10 hI hS => ?_)
  refine lv_pop hx hb dL_law_1232 rfl ?_
  refine lv_goto (tgt := 1326) hx hb dL_law_1233 (by decide) ?_
  exact hN _ _ _ _ _ _ (by omega) (by omega) hI hS (lv_sub hl [0, 1, 2, 3, 4] rfl)
set_option maxHeartbeats 4000000 in
set_option maxRecDepth 100000 in
theorem law_c24 {p : Program} {l : Launch} {e : Env} {s : State} {m : MethodId} {below : List Frame} {meth : Method} {c : Code} {dC : Nat → ClassId} {dI : Nat → Nat → Nat} {b L : Nat} {xs : Nat → Int32} {ad : Nat → Nat} {ca : Nat → ClassId} {sd sv : Nat → Nat} {sf : Value} (C0 : lw_At p s m meth c b L xs) (hK : va_K (dC, dI) vwCl (z_T ca) s) (hST : z_ST sd sv sf (fun q : Nat => s.heap.size ≤ q) s s.heap) (hst : l.stackTraces = false) {sa : Nat} (hT0 : z_TH sa (fun q : Nat => s.heap.size ≤ q) s s.heap) (hL : L ≤ 3584) {cells slots : Nat} (hc : cells ≤ 690) (hs : slots ≤ 37000) {i : Int32} (hi : 0 ≤ i.toInt ∧ i.toInt + 7 ≤ (L : Int)) {H : Heap} {locs : List Loc} {ls : Array Slot} {g : Nat → Nat → Int32} (hI : z_In dC dI (fun q : Nat => s.heap.size ≤ q) ad ca g g H) (hS : va_S (fun q : Nat => s.heap.size ≤ q) s.heap H locs) (hl : lv_has ls 7 [(4, .int i), (3, .ref (ad 99)), (2, .ref (ad 57)), (1, .ref (ad 0)), (0, .ref b)]) (hN : (∀ (cells9 slots9 : Nat) (g : Nat → Nat → Int32) (H : Heap) (locs : List Loc) (ls : Array Slot), cells9 ≤ cells + 1 → slots9 ≤ slots + 6 → z_In dC dI (fun q : Nat => s.heap.size ≤ q) ad ca g g H → va_S (fun q : Nat => s.heap.size ≤ q) s.heap H locs → lv_has ls 7 [(4, .int i), (3, .ref (ad 99)), (2, .ref (ad 57)), (1, .ref (ad 0)), (0, .ref b)] → W p l e room_1 s m #[Value.ref b] below meth c H locs cells9 slots9 (lw_Z below #[Value.ref b] s) (F0 m 1326 ls []))) : W p l e room_1 s m #[Value.ref b] below meth c H locs cells slots (lw_Z below #[Value.ref b] s) (F0 m 1236 ls []) := by
  obtain ⟨hx, hb, hr, hml, hown, hts, hX, hbl, hlocks, hgv⟩ := id C0
  have hown : s.vm.findClass RL = some m.cls := hown
  have hA : ∀ q : Nat, s.heap.size ≤ q → (fun q : Nat => s.heap.size ≤ q) q := fun _ h => h
  have hbA : ¬ (fun q : Nat => s.heap.size ≤ q) b := Nat.not_le.mpr hbl
  refine lv_aload_n hx hb dL_law_1236 rfl (lv_at hl 3 rfl) ?_
  refine lv_aload_n hx hb dL_law_1237 rfl (lv_at hl 4 rfl) ?_
  refine lv_iload hx hb dL_law_1238 (lv_at hl 0 rfl) ?_
  refine lv_iconst (v := 1) hx hb dL_law_1240 (by decide) ?_
  refine lv_iadd hx hb dL_law_1241 ?_
  refine lv_topi (fun z_1 ez_1 => ?_)
  have kz_1 : (z_1).toInt = (i).toInt + (1 : Int) := by rw [ez_1]; exact z_add (a := (i).toInt) (b := (1 : Int)) rfl rfl (by omega) (by omega)
  refine va_sld hx hb hX hbl hbA hS (z_vpin (by omega) (by omega)) dL_law_1242 ?_
  refine lv_topi (fun t_2 et_2 => ?_)
  refine lv_aload_n hx hb dL_law_1243 rfl (lv_at hl 4 rfl) ?_
  refine lv_iload hx hb dL_law_1244 (lv_at hl 0 rfl) ?_
  refine lv_iconst (v := 2) hx hb dL_law_1246 (by decide) ?_
  refine lv_iadd hx hb dL_law_1247 ?_
  refine lv_topi (fun z_3 ez_3 => ?_)
  have kz_3 : (z_3).toInt = (i).toInt + (2 : Int) := by rw [ez_3]; exact z_add (a := (i).toInt) (b := (2 : Int)) rfl rfl (by omega) (by omega)
  refine va_sld hx hb hX hbl hbA hS (z_vpin (by omega) (by omega)) dL_law_1248 ?_
  refine lv_topi (fun t_4 et_4 => ?_)
  refine q_1249 C0 hK hST (by omega) (by omega) hI hS hl t_2 t_4 (fun r_5  H locs hw_6 hI hS => ?_)
  refine lv_pop2_2 hx hb dL_law_1252 rfl ?_
  refine lv_aload_n hx hb dL_law_1253 rfl (lv_at hl 2 rfl) ?_
  refine lv_aload_n hx hb dL_law_1254 rfl (lv_at hl 4 rfl) ?_
  refine lv_iload hx hb dL_law_1255 (lv_at hl 0 rfl) ?_
  refine lv_iconst (v := 1) hx hb dL_law_1257 (by decide) ?_
  refine lv_iadd hx hb dL_law_1258 ?_
  refine lv_topi (fun z_7 ez_7 => ?_)
  have kz_7 : (z_7).toInt = (i).toInt + (1 : Int) := by rw [ez_7]; exact z_add (a := (i).toInt) (b := (1 : Int)) rfl rfl (by omega) (by omega)
  refine va_sld hx hb hX hbl hbA hS (z_vpin (by omega) (by omega)) dL_law_1259 ?_
  refine z_topeq (y := t_2) (by rw [et_2, ez_7, ez_1]) ?_
  refine lv_aload_n hx hb dL_law_1260 rfl (lv_at hl 4 rfl) ?_
  refine lv_iload hx hb dL_law_1261 (lv_at hl 0 rfl) ?_
  refine lv_iconst (v := 2) hx hb dL_law_1263 (by decide) ?_
  refine lv_iadd hx hb dL_law_1264 ?_
  refine lv_topi (fun z_8 ez_8 => ?_)
  have kz_8 : (z_8).toInt = (i).toInt + (2 : Int) := by rw [ez_8]; exact z_add (a := (i).toInt) (b := (2 : Int)) rfl rfl (by omega) (by omega)
  refine va_sld hx hb hX hbl hbA hS (z_vpin (by omega) (by omega)) dL_law_1265 ?_
  refine z_topeq (y := t_4) (by rw [et_4, ez_8, ez_3]) ?_
  refine q_1266 C0 hK hST (by omega) (by omega) hI hS hl t_2 t_4 (fun r_9  H locs hw_10 hI hS => ?_)
  refine lv_pop2_2 hx hb dL_law_1269 rfl ?_
  refine lv_goto (tgt := 1326) hx hb dL_law_1270 (by decide) ?_
  exact hN _ _ _ _ _ _ (by omega) (by omega) hI hS (lv_sub hl [0, 1, 2, 3, 4] rfl)
set_option maxHeartbeats 4000000 in
set_option maxRecDepth 100000 in
theorem law_c25 {p : Program} {l : Launch} {e : Env} {s : State} {m : MethodId} {below : List Frame} {meth : Method} {c : Code} {dC : Nat → ClassId} {dI : Nat → Nat → Nat} {b L : Nat} {xs : Nat → Int32} {ad : Nat → Nat} {ca : Nat → ClassId} {sd sv : Nat → Nat} {sf : Value} (C0 : lw_At p s m meth c b L xs) (hK : va_K (dC, dI) vwCl (z_T ca) s) (hST : z_ST sd sv sf (fun q : Nat => s.heap.size ≤ q) s s.heap) (hst : l.stackTraces = false) {sa : Nat} (hT0 : z_TH sa (fun q : Nat => s.heap.size ≤ q) s s.heap) (hL : L ≤ 3584) {cells slots : Nat} (hc : cells ≤ 690) (hs : slots ≤ 37000) {i : Int32} (hi : 0 ≤ i.toInt ∧ i.toInt + 7 ≤ (L : Int)) {H : Heap} {locs : List Loc} {ls : Array Slot} {g : Nat → Nat → Int32} (hI : z_In dC dI (fun q : Nat => s.heap.size ≤ q) ad ca g g H) (hS : va_S (fun q : Nat => s.heap.size ≤ q) s.heap H locs) (hl : lv_has ls 7 [(4, .int i), (3, .ref (ad 99)), (2, .ref (ad 57)), (1, .ref (ad 0)), (0, .ref b)]) (hN : (∀ (cells9 slots9 : Nat) (g : Nat → Nat → Int32) (H : Heap) (locs : List Loc) (ls : Array Slot), cells9 ≤ cells + 1 → slots9 ≤ slots + 6 → z_In dC dI (fun q : Nat => s.heap.size ≤ q) ad ca g g H → va_S (fun q : Nat => s.heap.size ≤ q) s.heap H locs → lv_has ls 7 [(4, .int i), (3, .ref (ad 99)), (2, .ref (ad 57)), (1, .ref (ad 0)), (0, .ref b)] → W p l e room_1 s m #[Value.ref b] below meth c H locs cells9 slots9 (lw_Z below #[Value.ref b] s) (F0 m 1326 ls []))) : W p l e room_1 s m #[Value.ref b] below meth c H locs cells slots (lw_Z below #[Value.ref b] s) (F0 m 1273 ls []) := by
  obtain ⟨hx, hb, hr, hml, hown, hts, hX, hbl, hlocks, hgv⟩ := id C0
  have hown : s.vm.findClass RL = some m.cls := hown
  have hA : ∀ q : Nat, s.heap.size ≤ q → (fun q : Nat => s.heap.size ≤ q) q := fun _ h => h
  have hbA : ¬ (fun q : Nat => s.heap.size ≤ q) b := Nat.not_le.mpr hbl
  refine lv_aload_n hx hb dL_law_1273 rfl (lv_at hl 3 rfl) ?_
  refine lv_aload_n hx hb dL_law_1274 rfl (lv_at hl 4 rfl) ?_
  refine lv_iload hx hb dL_law_1275 (lv_at hl 0 rfl) ?_
  refine lv_iconst (v := 1) hx hb dL_law_1277 (by decide) ?_
  refine lv_iadd hx hb dL_law_1278 ?_
  refine lv_topi (fun z_1 ez_1 => ?_)
  have kz_1 : (z_1).toInt = (i).toInt + (1 : Int) := by rw [ez_1]; exact z_add (a := (i).toInt) (b := (1 : Int)) rfl rfl (by omega) (by omega)
  refine va_sld hx hb hX hbl hbA hS (z_vpin (by omega) (by omega)) dL_law_1279 ?_
  refine lv_topi (fun t_2 et_2 => ?_)
  refine q_1280 C0 hK hST (by omega) (by omega) hI hS hl t_2 (fun r_3  H locs hw_4 hI hS => ?_)
  refine lv_pop hx hb dL_law_1283 rfl ?_
  refine lv_aload_n hx hb dL_law_1284 rfl (lv_at hl 2 rfl) ?_
  refine lv_aload_n hx hb dL_law_1285 rfl (lv_at hl 4 rfl) ?_
  refine lv_iload hx hb dL_law_1286 (lv_at hl 0 rfl) ?_
  refine lv_iconst (v := 1) hx hb dL_law_1288 (by decide) ?_
  refine lv_iadd hx hb dL_law_1289 ?_
  refine lv_topi (fun z_5 ez_5 => ?_)
  have kz_5 : (z_5).toInt = (i).toInt + (1 : Int) := by rw [ez_5]; exact z_add (a := (i).toInt) (b := (1 : Int)) rfl rfl (by omega) (by omega)
  refine va_sld hx hb hX hbl hbA hS (z_vpin (by omega) (by omega)) dL_law_1290 ?_
  refine z_topeq (y := t_2) (by rw [et_2, ez_5, ez_1]) ?_
  refine q_1291 C0 hK hST (by omega) (by omega) hI hS hl t_2 (fun r_6  H locs hw_7 hI hS => ?_)
  refine lv_pop hx hb dL_law_1294 rfl ?_
  refine lv_goto (tgt := 1326) hx hb dL_law_1295 (by decide) ?_
  exact hN _ _ _ _ _ _ (by omega) (by omega) hI hS (lv_sub hl [0, 1, 2, 3, 4] rfl)
