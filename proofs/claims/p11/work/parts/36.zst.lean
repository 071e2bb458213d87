def z_len : List Nat := [36, 5, 55, 21, 3, 4, 6]
def z_byt : List (List Int32) := [[108, 101, 102, 116, 32, 114, 105, 103, 104, 116, 32, 119, 104, 111, 108, 101, 32, 98, 114, 111, 107, 101, 110, 32, 98, 117, 114, 110, 116, 32, 103, 110, 97, 119, 101, 100], [99, 97, 117, 115, 101], [115, 105, 122, 101, 32, 97, 103, 101, 32, 103, 114, 111, 119, 116, 104, 32, 100, 97, 121, 115, 32, 115, 101, 97, 115, 111, 110, 32, 114, 97, 110, 107, 32, 108, 111, 115, 116, 32, 104, 111, 108, 100, 115, 32, 110, 117, 109, 98, 101, 114, 32, 102, 111, 111, 100], [99, 97, 117, 115, 101, 32, 116, 104, 101, 110, 32, 110, 111, 116, 32, 111, 114, 32, 97, 110, 100], [110, 111, 116], [116, 104, 101, 110], [111, 114, 32, 97, 110, 100]]
def z_nw : List Nat := [5, 0, 9, 4, 0, 0, 1]
def z_chr (sx k : Nat) : Int32 := (((z_byt.getD sx []).getD k 0 &&& 255).toUInt32 % 65536).toInt32
def z_cn (sx : Nat) : Nat → Nat
  | 0 => 0
  | k + 1 => z_cn sx k + (if k = z_len.getD sx 0 ∨ (z_chr sx k).toInt = 32 then 1 else 0)
def z_ST (sd sv : Nat → Nat) (sf : Value) (A : Nat → Prop) (U : State) (H : Heap) : Prop := vk_S 7 z_len z_byt sd sv A U H ∧ va_Z "java/lang/String" "COMPACT_STRINGS" "Z" (.int 1) A U H ∧ (va_Z "jdk/internal/util/Preconditions" "SIOOBE_FORMATTER" "Ljava/util/function/BiFunction;" sf A U H ∧ (sf = .null ∨ ∃ t9 : Nat, sf = .ref t9)) ∧ vk_R RX1 81 "left right whole broken burnt gnawed" (sd 0) U ∧ vk_R RX8 61 "cause" (sd 1) U ∧ vk_R RX8 95 "size age growth days season rank lost holds number food" (sd 2) U ∧ vk_R RX8 97 "cause then not or and" (sd 3) U ∧ vk_R RX8 123 "not" (sd 4) U ∧ vk_R RX8 128 "then" (sd 5) U ∧ vk_R RX8 166 "or and" (sd 6) U
theorem z_ST.warm {sd sv : Nat → Nat} {sf : Value} {A : Nat → Prop} {s U : State} {H : Heap} (hW : s.WarmedH U.vm) (h : z_ST sd sv sf A s H) : z_ST sd sv sf A U H := ⟨vk_S.moved hW.alike h.1, va_Z.moved hW.alike h.2.1, ⟨va_Z.moved hW.alike h.2.2.1.1, h.2.2.1.2⟩, vk_R.warm hW h.2.2.2.1, vk_R.warm hW h.2.2.2.2.1, vk_R.warm hW h.2.2.2.2.2.1, vk_R.warm hW h.2.2.2.2.2.2.1, vk_R.warm hW h.2.2.2.2.2.2.2.1, vk_R.warm hW h.2.2.2.2.2.2.2.2.1, vk_R.warm hW h.2.2.2.2.2.2.2.2.2⟩
theorem z_ST.call {sd sv : Nat → Nat} {sf : Value} {A : Nat → Prop} {U : State} {H : Heap} {g : JFrame} {mk : MethodId} {a : Array Value} (h : z_ST sd sv sf A U H) : z_ST sd sv sf A (U.calling g mk a) H := ⟨vk_S.moved (u := U) (U := U.calling g mk a) (Vm.Alike.refl U.vm) h.1, va_Z.moved (u := U) (U := U.calling g mk a) (Vm.Alike.refl U.vm) h.2.1, ⟨va_Z.moved (u := U) (U := U.calling g mk a) (Vm.Alike.refl U.vm) h.2.2.1.1, h.2.2.1.2⟩, vk_R.same rfl h.2.2.2.1, vk_R.same rfl h.2.2.2.2.1, vk_R.same rfl h.2.2.2.2.2.1, vk_R.same rfl h.2.2.2.2.2.2.1, vk_R.same rfl h.2.2.2.2.2.2.2.1, vk_R.same rfl h.2.2.2.2.2.2.2.2.1, vk_R.same rfl h.2.2.2.2.2.2.2.2.2⟩
theorem z_ST.kept {sd sv : Nat → Nat} {sf : Value} {A : Nat → Prop} {U : State} {H H1 : Heap} (h : z_ST sd sv sf A U H) (hq : ∀ a : Nat, a < H.size → ¬ A a → H1[a]? = H[a]?) : z_ST sd sv sf A U H1 := ⟨h.1.kept hq, h.2.1.kept hq, ⟨h.2.2.1.1.kept hq, h.2.2.1.2⟩, h.2.2.2⟩
theorem z_ST.narrow {sd sv : Nat → Nat} {sf : Value} {A B : Nat → Prop} {U : State} {H : Heap} (h : z_ST sd sv sf A U H) (hAB : ∀ q, B q → A q) : z_ST sd sv sf B U H := ⟨h.1.narrow hAB, h.2.1.narrow hAB, ⟨h.2.2.1.1.narrow hAB, h.2.2.1.2⟩, h.2.2.2⟩
def z_CS (D : va_G) (cl : List vw_C) (ws : va_W) (tys : List (ClassId × FieldType)) (sz : Nat) (sd sv : Nat → Nat) (sf : Value) (fw : va_W) : State → Prop := fun U => z_C D cl ws tys sz U ∧ z_ST sd sv sf (va_A fw sz) U U.heap
theorem z_blindS {av : List Value} {D : va_G} {cl : List vw_C} {ws : va_W} {tys : List (ClassId × FieldType)} {sz : Nat} {sd sv : Nat → Nat} {sf : Value} {fw : va_W} : FrameBlind (va_Pc av (z_CS D cl ws tys sz sd sv sf fw)) := fun a U g mk q => by
  obtain ⟨q0, ⟨q1, qP, qK, qD⟩, qT⟩ := q
  exact ⟨q0, ⟨q1, qP, va_K.moved (u := U) (U := U.calling g mk a) (Vm.Alike.refl U.vm) qK, qD⟩, qT.call⟩
theorem z_preS {av : List Value} {D : va_G} {cl : List vw_C} {ws : va_W} {tys : List (ClassId × FieldType)} {s : State} {H : Heap} {A : Nat → Prop} {sd sv : Nat → Nat} {sf : Value} {fw : va_W} (hP : va_P D cl ws H) (hK : va_K D cl tys s) (hD : va_D A ws) (hT : z_ST sd sv sf (va_A fw H.size) s H) : ∀ U : State, U.heap = H → s.WarmedH U.vm → va_Pc av (z_CS D cl ws tys H.size sd sv sf fw) av.toArray U := fun U hU hW => ⟨rfl, ⟨by rw [hU], by rw [hU]; exact hP, va_K.moved hW.alike hK, hD.weaken (fun _ _ _ _ => trivial)⟩, by rw [hU]; exact hT.warm hW⟩
theorem z_lenI {sx : Nat} (h : sx < 7) : (Int32.ofNat (z_len.getD sx 0)).toInt = ((z_len.getD sx 0 : Nat) : Int) := (show ∀ k : Nat, k < 7 → (Int32.ofNat (z_len.getD k 0)).toInt = ((z_len.getD k 0 : Nat) : Int) by decide) sx h
theorem z_len_le {sx : Nat} (h : sx < 7) : z_len.getD sx 0 ≤ 57 := (show ∀ k : Nat, k < 7 → z_len.getD k 0 ≤ 57 by decide) sx h
theorem z_nw_le {sx : Nat} (h : sx < 7) : z_nw.getD sx 0 ≤ 9 := (show ∀ k : Nat, k < 7 → z_nw.getD k 0 ≤ 9 by decide) sx h
theorem z_cn_le {sx k : Nat} (h : sx < 7) (hk : k ≤ z_len.getD sx 0) : z_cn sx k ≤ z_nw.getD sx 0 := (show ∀ q : Nat, q < 7 → ∀ k : Nat, k < z_len.getD q 0 + 1 → z_cn q k ≤ z_nw.getD q 0 by decide +kernel) sx h k (by omega)
theorem z_chr_nar {sx k : Nat} (h : sx < 7) (hk : k < z_len.getD sx 0) : narrow .char (.int (z_chr sx k)) = .int (z_chr sx k) := (show ∀ q : Nat, q < 7 → ∀ k : Nat, k < z_len.getD q 0 → narrow .char (.int (z_chr q k)) = .int (z_chr q k) by decide +kernel) sx h k hk
theorem z_shr0 (x : Int32) : (x >>> ((0 : Int32) &&& 31)).toInt = x.toInt := by
  have h : x >>> ((0 : Int32) &&& 31) = x := by
    rw [show ((0 : Int32) &&& 31) = 0 by decide]
    exact Int32.shiftRight_zero
  rw [h]
theorem z_nc1 {i i' : Int32} (e : i' = i + 1) (h0 : 0 ≤ i.toInt) (h1 : i.toInt ≤ 100000) : i'.toNatClampNeg = i.toNatClampNeg + 1 := by
  have h2 : i'.toInt = i.toInt + 1 := by rw [e]; exact z_add (b := 1) rfl rfl (by omega) (by omega)
  have h3 : i'.toNatClampNeg = i'.toInt.toNat := rfl
  have h4 : i.toNatClampNeg = i.toInt.toNat := rfl
  omega
theorem z_cn_s1 {sx : Nat} {i i' : Int32} {w : Int} (e : i' = i + 1) (h0 : 0 ≤ i.toInt) (h1 : i.toInt ≤ 100000) (h : w ≤ ((z_cn sx i.toNatClampNeg : Nat) : Int)) : w ≤ ((z_cn sx i'.toNatClampNeg : Nat) : Int) := by
  rw [z_nc1 e h0 h1]
  unfold z_cn
  omega
theorem z_cn_s2 {sx : Nat} {i i' : Int32} {w w' : Int} (e : i' = i + 1) (h0 : 0 ≤ i.toInt) (h1 : i.toInt ≤ 100000) (h : w ≤ ((z_cn sx i.toNatClampNeg : Nat) : Int)) (hw : w' = w + 1) (hc : i.toNatClampNeg = z_len.getD sx 0 ∨ (z_chr sx i.toNatClampNeg).toInt = 32) : w' ≤ ((z_cn sx i'.toNatClampNeg : Nat) : Int) := by
  rw [z_nc1 e h0 h1]
  unfold z_cn
  rw [if_pos hc]
  omega
theorem z_ncn {i : Int32} {n : Nat} (h : i.toInt = (n : Int)) : i.toNatClampNeg = n := by
  have h4 : i.toNatClampNeg = i.toInt.toNat := rfl
  omega
theorem z_ncl {i : Int32} {n : Nat} (h0 : 0 ≤ i.toInt) (h : i.toInt < (n : Int)) : i.toNatClampNeg < n := by
  have h4 : i.toNatClampNeg = i.toInt.toNat := rfl
  omega
theorem z_ncle {i : Int32} {n : Nat} (h : i.toInt ≤ (n : Int)) : i.toNatClampNeg ≤ n := by
  have h4 : i.toNatClampNeg = i.toInt.toNat := rfl
  omega
