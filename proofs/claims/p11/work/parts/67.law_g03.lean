def lw_cks : List (List Cond) := [ls_0, ls_1, ls_2, ls_3, ls_4, ls_5, ls_6, ls_7, ls_8, ls_9, ls_10, ls_11, ls_12, ls_13, ls_14, ls_15, ls_16, ls_17, ls_18, ls_19, ls_20, u_ws RX0 TX0 6, u_ws RX1 TX1 6, u_ws RX2 TX2 11, u_ws RX3 TX3 10, u_ws RX4 TX4 10, u_ws RX5 TX5 10, u_ws RX6 TX6 7, u_ws RX7 TX7 6, u_ws RX8 TX8 9, u_ws RX9 TX9 4, u_ws RX10 TX10 11, u_ws RX11 TX11 10, u_ws RX12 TX12 70]
theorem gs_all : ∀ c ∈ lw_cks, GoodIn lw_tbl c := List.forall_mem_cons.mpr ⟨gs_0, List.forall_mem_cons.mpr ⟨gs_1, List.forall_mem_cons.mpr ⟨gs_2, List.forall_mem_cons.mpr ⟨gs_3, List.forall_mem_cons.mpr ⟨gs_4, List.forall_mem_cons.mpr ⟨gs_5, List.forall_mem_cons.mpr ⟨gs_6, List.forall_mem_cons.mpr ⟨gs_7, List.forall_mem_cons.mpr ⟨gs_8, List.forall_mem_cons.mpr ⟨gs_9, List.forall_mem_cons.mpr ⟨gs_10, List.forall_mem_cons.mpr ⟨gs_11, List.forall_mem_cons.mpr ⟨gs_12, List.forall_mem_cons.mpr ⟨gs_13, List.forall_mem_cons.mpr ⟨gs_14, List.forall_mem_cons.mpr ⟨gs_15, List.forall_mem_cons.mpr ⟨gs_16, List.forall_mem_cons.mpr ⟨gs_17, List.forall_mem_cons.mpr ⟨gs_18, List.forall_mem_cons.mpr ⟨gs_19, List.forall_mem_cons.mpr ⟨gs_20, List.forall_mem_cons.mpr ⟨ig_X0, List.forall_mem_cons.mpr ⟨ig_X1, List.forall_mem_cons.mpr ⟨ig_X2, List.forall_mem_cons.mpr ⟨ig_X3, List.forall_mem_cons.mpr ⟨ig_X4, List.forall_mem_cons.mpr ⟨ig_X5, List.forall_mem_cons.mpr ⟨ig_X6, List.forall_mem_cons.mpr ⟨ig_X7, List.forall_mem_cons.mpr ⟨ig_X8, List.forall_mem_cons.mpr ⟨ig_X9, List.forall_mem_cons.mpr ⟨ig_X10, List.forall_mem_cons.mpr ⟨ig_X11, List.forall_mem_cons.mpr ⟨ig_X12, fun _ h => absurd h List.not_mem_nil⟩⟩⟩⟩⟩⟩⟩⟩⟩⟩⟩⟩⟩⟩⟩⟩⟩⟩⟩⟩⟩⟩⟩⟩⟩⟩⟩⟩⟩⟩⟩⟩⟩⟩
theorem z_gr2 {big : List Cond} {cks : List (List Cond)} (hb : ∀ c ∈ cks, GoodIn big c) (ws : List Cond) (ps : List (Nat × Nat)) (hp : ps.map (fun p => ((cks[p.1]?).getD [])[p.2]?) = ws.map some) : GoodIn big ws := by
  intro w hw
  obtain ⟨k, hk⟩ := List.getElem?_of_mem hw
  have h1 : (ps.map (fun p => ((cks[p.1]?).getD [])[p.2]?))[k]? = some (some w) := by rw [hp, List.getElem?_map, hk]; rfl
  rw [List.getElem?_map] at h1
  cases hi : ps[k]? with
  | none => rw [hi] at h1; cases h1
  | some p =>
    rw [hi] at h1
    have h2 : ((cks[p.1]?).getD [])[p.2]? = some w := Option.some.inj h1
    cases hc : cks[p.1]? with
    | none => rw [hc] at h2; simp at h2
    | some c =>
      rw [hc] at h2
      exact hb c (List.mem_of_getElem? hc) w (List.mem_of_getElem? h2)
