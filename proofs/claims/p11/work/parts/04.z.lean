theorem z_lt {a b : Int32} (h : a < b) : a.toInt < b.toInt := Int32.lt_iff_toInt_lt.mp h
theorem z_le {a b : Int32} (h : a ≤ b) : a.toInt ≤ b.toInt := Int32.le_iff_toInt_le.mp h
theorem z_eq {a b : Int32} (h : a = b) : a.toInt = b.toInt := by rw [h]
theorem z_eq' {a b : Int32} (h : a.toInt = b.toInt) : a = b := Int32.toInt_inj.mp h
theorem z_nlt {a b : Int32} (h : ¬ a < b) : a.toInt ≥ b.toInt := Int.not_lt.mp (fun q => h (Int32.lt_iff_toInt_lt.mpr q))
theorem z_nle {a b : Int32} (h : ¬ a ≤ b) : a.toInt > b.toInt := Int.not_le.mp (fun q => h (Int32.le_iff_toInt_le.mpr q))
theorem z_ne {a b : Int32} (h : ¬ a = b) : a.toInt ≠ b.toInt := fun q => h (z_eq' q)
theorem z_D0 (A : Nat → Prop) : va_D A [] := ⟨fun i j p q h => by simp at h, fun k q h => by simp at h⟩
theorem z_P0 {D : va_G} {cl : List vw_C} (H : Heap) : va_P D cl [] H := fun k q h => by simp at h
theorem z_pure {D : va_G} {cl : List vw_C} {ws : va_W} {H H1 : Heap} (hP : va_P D cl ws H) (hk : ∀ q : Nat, q < H.size → ¬ va_A [] H.size q → H1[q]? = H[q]?) : va_P D cl ws H1 := by
  refine hP.kept (fun k q h => ?_)
  have hlt := (hP k q h).lt
  refine hk _ hlt ?_
  rintro (⟨k, e, h⟩ | h)
  · simp at h
  · omega
def z_C (D : va_G) (cl : List vw_C) (ws : va_W) (tys : List (ClassId × FieldType)) (sz : Nat) : State → Prop := fun U => U.heap.size = sz ∧ va_P D cl ws U.heap ∧ va_K D cl tys U ∧ va_D (fun _ => True) ws
def z_NW (L : List (String × Nat × MethodName)) (U : State) : Prop := ∀ x ∈ L, va_Nw (.methodLinkNest x.1 x.2.1 x.2.2 "ShellHeap") U
def z_CN (D : va_G) (cl : List vw_C) (ws : va_W) (tys : List (ClassId × FieldType)) (sz : Nat) (L : List (String × Nat × MethodName)) : State → Prop := fun U => z_C D cl ws tys sz U ∧ z_NW L U
theorem z_NW.sub {L L' : List (String × Nat × MethodName)} {U : State} (h : z_NW L U) (hs : ∀ x ∈ L', x ∈ L) : z_NW L' U := fun x hx => h x (hs x hx)
theorem z_blind {av : List Value} {D : va_G} {cl : List vw_C} {ws : va_W} {tys : List (ClassId × FieldType)} {sz : Nat} : FrameBlind (va_Pc av (z_C D cl ws tys sz)) := fun a U g mk q => by
  obtain ⟨q0, q1, qP, qK, qD⟩ := q
  exact ⟨q0, q1, qP, va_K.moved (u := U) (U := U.calling g mk a) (Vm.Alike.refl U.vm) qK, qD⟩
theorem z_blindN {av : List Value} {D : va_G} {cl : List vw_C} {ws : va_W} {tys : List (ClassId × FieldType)} {sz : Nat} {L : List (String × Nat × MethodName)} : FrameBlind (va_Pc av (z_CN D cl ws tys sz L)) := fun a U g mk q => by
  obtain ⟨q0, ⟨q1, qP, qK, qD⟩, qN⟩ := q
  exact ⟨q0, ⟨q1, qP, va_K.moved (u := U) (U := U.calling g mk a) (Vm.Alike.refl U.vm) qK, qD⟩, fun x hx => va_Nw.same rfl (rfl : U.vm = (U.calling g mk a).vm) (qN x hx)⟩
theorem z_pre {av : List Value} {s : State} {H : Heap} {D : va_G} {cl : List vw_C} {ws : va_W} {tys : List (ClassId × FieldType)} {A : Nat → Prop} (hP : va_P D cl ws H) (hK : va_K D cl tys s) (hD : va_D A ws) : ∀ U : State, U.heap = H → s.WarmedH U.vm → va_Pc av (z_C D cl ws tys H.size) av.toArray U := fun U hU hW => ⟨rfl, by rw [hU], by rw [hU]; exact hP, va_K.moved hW.alike hK, hD.weaken (fun _ _ _ _ => trivial)⟩
theorem z_preN {av : List Value} {s : State} {H : Heap} {D : va_G} {cl : List vw_C} {ws : va_W} {tys : List (ClassId × FieldType)} {A : Nat → Prop} {L : List (String × Nat × MethodName)} (hP : va_P D cl ws H) (hK : va_K D cl tys s) (hD : va_D A ws) (hN : z_NW L s) : ∀ U : State, U.heap = H → s.WarmedH U.vm → va_Pc av (z_CN D cl ws tys H.size L) av.toArray U := fun U hU hW => ⟨rfl, ⟨by rw [hU], by rw [hU]; exact hP, va_K.moved hW.alike hK, hD.weaken (fun _ _ _ _ => trivial)⟩, fun x hx => va_Nw.warmM hW (hN x hx)⟩
theorem z_sw (x : Int32) (lo hi : Int) : (x.toInt < lo ∨ hi < x.toInt) ∨ (lo ≤ x.toInt ∧ x.toInt ≤ hi) := by omega
theorem z_nameQ {p : Program} {l : Launch} {e : Env} {R : Room} {s : State} {m : MethodId} {args : Array Value} {below : List Frame} {meth : Method} {c : Code} {H : Heap} {locs : List Loc} {cells slots : Nat} {Q : State → Prop} {g : JFrame} (k : ∀ QQ : State → Prop, QQ = Q → W p l e R s m args below meth c H locs cells slots QQ g) : W p l e R s m args below meth c H locs cells slots Q g := k Q rfl
theorem z_backQ {p : Program} {l : Launch} {e : Env} {R : Room} {s : State} {m : MethodId} {args : Array Value} {below : List Frame} {meth : Method} {c : Code} {H : Heap} {locs : List Loc} {cells slots : Nat} {QQ Q : State → Prop} {g : JFrame} (h : QQ = Q) (k : W p l e R s m args below meth c H locs cells slots Q g) : W p l e R s m args below meth c H locs cells slots QQ g := h ▸ k
