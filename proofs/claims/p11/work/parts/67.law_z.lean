def z_mix (w1 : va_W) : List (Option Nat) → va_W → va_W
  | none :: os, c :: ws => c :: z_mix w1 os ws
  | some i :: os, c :: ws => w1.getD i c :: z_mix w1 os ws
  | _, _ => []
theorem z_mix_get {w1 : va_W} : ∀ (os : List (Option Nat)) (ws : va_W) (k : Nat) (q : Nat × va_E), (z_mix w1 os ws)[k]? = some q → (∃ (i : Nat) (c : Nat × va_E), os[k]? = some (some i) ∧ ws[k]? = some c ∧ q = w1.getD i c) ∨ (os[k]? = some none ∧ ws[k]? = some q)
  | [], [], k, q, h => by simp [z_mix] at h
  | [], _ :: _, k, q, h => by simp [z_mix] at h
  | none :: os, [], k, q, h => by simp [z_mix] at h
  | some i :: os, [], k, q, h => by simp [z_mix] at h
  | none :: os, c :: ws, 0, q, h => Or.inr ⟨rfl, h⟩
  | none :: os, c :: ws, k + 1, q, h => z_mix_get os ws k q h
  | some i :: os, c :: ws, 0, q, h => Or.inl ⟨i, c, rfl, rfl, (Option.some.inj h).symm⟩
  | some i :: os, c :: ws, k + 1, q, h => z_mix_get os ws k q h
def z_osk (isC : List Nat) (n : Nat) (os : List (Option Nat)) : Bool := (List.range os.length).all (fun k => match os[k]? with | some (some i) => (isC[i]? == some k) && Nat.blt i n | some none => !(isC.contains k) | none => true)
theorem z_osk_s {isC : List Nat} {n : Nat} {os : List (Option Nat)} (h : z_osk isC n os = true) {k i : Nat} (ho : os[k]? = some (some i)) : isC[i]? = some k ∧ i < n := by
  have hk : k < os.length := (List.getElem?_eq_some_iff.mp ho).1
  have h1 := List.all_eq_true.mp h k (List.mem_range.mpr hk)
  rw [ho] at h1
  have h2 := Bool.and_eq_true_iff.mp h1
  exact ⟨eq_of_beq h2.1, Nat.blt_eq.mp h2.2⟩
theorem z_osk_n {isC : List Nat} {n : Nat} {os : List (Option Nat)} (h : z_osk isC n os = true) {k : Nat} (ho : os[k]? = some none) : k ∉ isC := by
  have hk : k < os.length := (List.getElem?_eq_some_iff.mp ho).1
  have h1 := List.all_eq_true.mp h k (List.mem_range.mpr hk)
  rw [ho] at h1
  intro hm
  have h2 : isC.contains k = true := List.contains_iff_mem.mpr hm
  have h3 : (!(isC.contains k)) = true := h1
  rw [h2] at h3
  cases h3
theorem z_mix_sets {w1 ws : va_W} {isC : List Nat} {n : Nat} {os : List (Option Nat)} (hn : w1.length = n) (h : z_osk isC n os = true) {k : Nat} {q : Nat × va_E} (hq : (z_mix w1 os ws)[k]? = some q) : (∃ i : Nat, isC[i]? = some k ∧ w1[i]? = some q) ∨ (k ∉ isC ∧ ws[k]? = some q) := by
  rcases z_mix_get os ws k q hq with ⟨i, c, h1, h2, h3⟩ | ⟨h1, h2⟩
  · have h4 := z_osk_s h h1
    refine Or.inl ⟨i, h4.1, ?_⟩
    have h5 : i < w1.length := by omega
    rw [List.getElem?_eq_getElem h5, h3, List.getD_eq_getElem?_getD, List.getElem?_eq_getElem h5]
    rfl
  · exact Or.inr ⟨z_osk_n h h1, h2⟩
theorem z_put3 {A0 : Nat → Prop} {D : va_G} {cl : List vw_C} {ws wc w1 ws' : va_W} {H H1 : Heap} (hP : va_P D cl ws H) (hD : va_D A0 ws) (isC : List Nat) (hC : isC.map (fun i => ws[i]?) = wc.map some) (hk : ∀ q : Nat, q < H.size → ¬ va_A wc H.size q → H1[q]? = H[q]?) (hP1 : va_P D cl w1 H1) (ha : w1.map Prod.fst = wc.map Prod.fst) (os : List (Option Nat)) {n : Nat} (hn : w1.length = n) (hos : z_osk isC n os = true) (hs : ws' = z_mix w1 os ws) : va_P D cl ws' H1 ∧ va_D A0 ws' := by
  subst hs
  have at' : ∀ (k : Nat) (q : Nat × va_E), wc[k]? = some q → ∃ i, isC[k]? = some i ∧ ws[i]? = some q := by
    intro k q hq
    have h1 : (isC.map (fun i => ws[i]?))[k]? = some (some q) := by rw [hC, List.getElem?_map, hq]; rfl
    rw [List.getElem?_map] at h1
    cases hi : isC[k]? with
    | none => rw [hi] at h1; cases h1
    | some i => rw [hi] at h1; exact ⟨i, rfl, Option.some.inj h1⟩
  have hl2 : w1.length = wc.length := by have := congrArg List.length ha; simpa using this
  have old : ∀ (k : Nat) (q : Nat × va_E), (z_mix w1 os ws)[k]? = some q → ∃ q0 : Nat × va_E, ws[k]? = some q0 ∧ q0.1 = q.1 := by
    intro k q h
    rcases z_mix_sets hn hos h with ⟨i, h1, h2⟩ | ⟨h1, h2⟩
    · have hlt := (List.getElem?_eq_some_iff.mp h2).1
      obtain ⟨c, hc⟩ : ∃ c, wc[i]? = some c := ⟨wc[i]'(by omega), List.getElem?_eq_getElem (by omega)⟩
      obtain ⟨i2, h3, h4⟩ := at' i c hc
      cases h1.symm.trans h3
      have h5 : (w1.map Prod.fst)[i]? = (wc.map Prod.fst)[i]? := by rw [ha]
      rw [List.getElem?_map, List.getElem?_map, h2, hc] at h5
      exact ⟨c, h4, (Option.some.inj h5).symm⟩
    · exact ⟨q, h2, rfl⟩
  refine ⟨fun k q h => ?_, fun i j p q hi hj hpq => ?_, fun k q h => ?_⟩
  · rcases z_mix_sets hn hos h with ⟨i, h1, h2⟩ | ⟨h1, h2⟩
    · exact hP1 i q h2
    · have hlt := (hP k q h2).lt
      refine (hP k q h2).kept (hk _ hlt ?_)
      rintro (⟨k2, e, h3⟩ | h3)
      · obtain ⟨i2, h4, h5⟩ := at' k2 _ h3
        have := hD.1 k i2 q _ h2 h5 rfl
        subst this
        exact h1 (List.mem_of_getElem? h4)
      · omega
  · obtain ⟨p0, h1, h2⟩ := old i p hi
    obtain ⟨q0, h3, h4⟩ := old j q hj
    exact hD.1 i j p0 q0 h1 h3 (by rw [h2, h4]; exact hpq)
  · obtain ⟨q0, h1, h2⟩ := old k q h
    rw [← h2]
    exact hD.2 k q0 h1
