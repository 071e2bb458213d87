theorem z_ud {f : Nat → Int32} {n j : Nat} {v : Int32} (h : j ≠ n) : upd f n v j = f j := by
  unfold upd
  rw [if_neg h]
theorem z_us {f : Nat → Int32} {n : Nat} {v : Int32} : upd f n v n = v := by
  unfold upd
  rw [if_pos rfl]
theorem z_nct {i : Int32} {k : Int} (h : i.toInt = k) : i.toNatClampNeg = k.toNat := by
  subst h
  rfl
def z_cP (f : Nat → Int32) : Nat → Int
  | 0 => 0
  | k + 1 => z_cP f k + (if (f k).toInt = 100 then 1 else 0)
def z_cB (f : Nat → Int32) : Nat → Int
  | 0 => 0
  | k + 1 => z_cB f k + (if (f k).toInt = 100 ∨ (f k).toInt = 11 then 0 else 1)
theorem z_cPB (f : Nat → Int32) (n : Nat) : 0 ≤ z_cP f n ∧ 0 ≤ z_cB f n ∧ z_cP f n + z_cB f n ≤ (n : Int) := by
  induction n with
  | zero => exact ⟨Int.le_refl _, Int.le_refl _, Int.le_refl _⟩
  | succ k ih =>
    unfold z_cP z_cB
    by_cases h : (f k).toInt = 100
    · rw [if_pos h, if_pos (Or.inl h)]; omega
    · rw [if_neg h]
      by_cases h2 : (f k).toInt = 11
      · rw [if_pos (Or.inr h2)]; omega
      · rw [if_neg (fun q => q.elim h h2)]; omega
theorem z_cPu (f : Nat → Int32) (n : Nat) (v : Int32) (k : Nat) (hk : k ≤ n) : z_cP (upd f n v) k = z_cP f k ∧ z_cB (upd f n v) k = z_cB f k := by
  induction k with
  | zero => exact ⟨rfl, rfl⟩
  | succ k ih =>
    have h1 := ih (by omega)
    unfold z_cP z_cB
    rw [h1.1, h1.2, z_ud (show k ≠ n by omega)]
    exact ⟨rfl, rfl⟩
theorem z_finU {fk fl fr : Nat → Int32} {lo hi : Int} {a n : Nat} {u v w : Int32} (h : z_fin fk fl fr lo hi a) (hn : a ≠ n) : z_fin (upd fk n u) (upd fl n v) (upd fr n w) lo hi a := by
  unfold z_fin at h ⊢
  rw [z_ud hn, z_ud hn, z_ud hn]
  exact h
theorem z_fin2 {fk fl fr : Nat → Int32} {lo hi : Int} {a n : Nat} {v w : Int32} (h : a ≠ n → z_fin fk fl fr lo hi a) (hv : lo ≤ v.toInt ∧ v.toInt ≤ hi) (hw : lo ≤ w.toInt ∧ w.toInt ≤ hi) : z_fin fk (upd fl n v) (upd fr n w) lo hi a := by
  by_cases hn : a = n
  · subst hn
    intro _ _
    rw [z_us, z_us]
    exact ⟨hv.1, hv.2, fun _ _ => hw⟩
  · have h1 := h hn
    unfold z_fin at h1 ⊢
    rw [z_ud hn, z_ud hn]
    exact h1
theorem z_fin1 {fk fl fr : Nat → Int32} {lo hi : Int} {a n : Nat} {v : Int32} (h : a ≠ n → z_fin fk fl fr lo hi a) (hv : lo ≤ v.toInt ∧ v.toInt ≤ hi) (hk : (fk n).toInt = 14 ∨ (fk n).toInt = 11) : z_fin fk (upd fl n v) fr lo hi a := by
  by_cases hn : a = n
  · subst hn
    intro _ _
    rw [z_us]
    exact ⟨hv.1, hv.2, fun q1 q2 => absurd hk (by omega)⟩
  · have h1 := h hn
    unfold z_fin at h1 ⊢
    rw [z_ud hn]
    exact h1
def z_E (fw fo fh fg fk fl fr : Nat → Int32) (ws hs op om kr wv x : Int) : Prop :=
  (0 ≤ ws ∧ 0 ≤ om ∧ om + (ws - op) + x ≤ kr ∧ kr ≤ 96 ∧ op ≤ 8 ∧ 0 ≤ x ∧ 0 ≤ wv ∧ wv ≤ 1)
  ∧ op = z_cP fw ws.toNat ∧ hs = z_cB fw ws.toNat + (1 - wv)
  ∧ (∀ j : Nat, (j : Int) < ws → (fw j).toInt ≠ 100 → 96 ≤ (fo j).toInt ∧ (fo j).toInt < 96 + kr ∧ ((fw j).toInt = 11 → (fk (fo j).toNatClampNeg).toInt = 11))
  ∧ (∀ j : Nat, (j : Int) < hs → 96 ≤ (fh j).toInt ∧ (fh j).toInt < 96 + kr)
  ∧ (∀ j : Nat, (j : Int) < om → 96 ≤ (fg (96 + j)).toInt ∧ (fg (96 + j)).toInt < 96 + kr ∧ z_fin fk fl fr 96 191 (fg (96 + j)).toNatClampNeg)
section ZE
variable {fw fo fh fg fk fl fr fw' fo' fh' fg' fk' fl' fr' : Nat → Int32} {ws hs op om kr wv x ws' hs' op' om' kr' : Int}
theorem z_E_b (h : z_E fw fo fh fg fk fl fr ws hs op om kr wv x) : 0 ≤ ws ∧ ws ≤ 104 ∧ 0 ≤ om ∧ om + x ≤ kr ∧ 0 ≤ kr ∧ kr ≤ 96 ∧ 0 ≤ op ∧ op ≤ 8 ∧ 1 - wv ≤ hs ∧ 0 ≤ hs ∧ hs ≤ 105 ∧ op ≤ ws ∧ 0 ≤ x := by
  obtain ⟨h1, h2, h3, -⟩ := h
  have q := z_cPB fw ws.toNat
  omega
theorem z_E_grown (h : z_E fw fo fh fg fk fl fr ws hs op om kr wv x) (hk : kr ≤ 95) {k : Int32} (e1 : kr' = kr + 1) (e2 : fk' = upd fk (96 + kr).toNat k) (e3 : fl' = upd fl (96 + kr).toNat (-1)) (e4 : fr' = upd fr (96 + kr).toNat (-1)) : z_E fw fo fh fg fk' fl' fr' ws hs op om kr' wv (x + 1) := by
  have hb := z_E_b h
  subst e1; subst e2; subst e3; subst e4
  obtain ⟨h1, h2, h3, h4, h5, h6⟩ := h
  refine ⟨by omega, h2, h3, fun j hj q => ?_, fun j hj => ?_, fun j hj => ?_⟩
  · have g := h4 j hj q
    have e : (fo j).toNatClampNeg = (fo j).toInt.toNat := rfl
    refine ⟨g.1, by omega, fun q2 => ?_⟩
    rw [z_ud (by omega)]
    exact g.2.2 q2
  · have g := h5 j hj
    exact ⟨g.1, by omega⟩
  · have g := h6 j hj
    have e : (fg (96 + j)).toNatClampNeg = (fg (96 + j)).toInt.toNat := rfl
    exact ⟨g.1, by omega, z_finU g.2.2 (by omega)⟩
theorem z_E_done (h : z_E fw fo fh fg fk fl fr ws hs op om kr 1 x) (hx : 1 ≤ x) {a : Int32} (ha : 96 ≤ a.toInt) (hb : a.toInt < 96 + kr) (hf : z_fin fk fl fr 96 191 a.toNatClampNeg) (e1 : fg' = upd fg (96 + om).toNat a) (e2 : fh' = upd fh hs.toNat a) (e3 : hs' = hs + 1) (e4 : om' = om + 1) : z_E fw fo fh' fg' fk fl fr ws hs' op om' kr 0 (x - 1) := by
  have hb := z_E_b h
  subst e1; subst e2; subst e3; subst e4
  obtain ⟨h1, h2, h3, h4, h5, h6⟩ := h
  refine ⟨by omega, h2, by omega, h4, fun j hj => ?_, fun j hj => ?_⟩
  · by_cases q : j = hs.toNat
    · rw [q, z_us]; omega
    · rw [z_ud q]; exact h5 j (by omega)
  · by_cases q : 96 + j = (96 + om).toNat
    · rw [q, z_us]; exact ⟨ha, by omega, hf⟩
    · rw [z_ud q]; exact h6 j (by omega)
theorem z_E_wait2 (h : z_E fw fo fh fg fk fl fr ws hs op om kr 0 x) (hx : 1 ≤ x) {k a : Int32} (hk : k.toInt ≠ 100) (hk2 : k.toInt ≠ 11) (ha : 96 ≤ a.toInt) (ha2 : a.toInt < 96 + kr) (e1 : fw' = upd fw ws.toNat k) (e2 : fo' = upd fo ws.toNat a) (e3 : ws' = ws + 1) : z_E fw' fo' fh fg fk fl fr ws' hs op om kr 1 (x - 1) := by
  have hb := z_E_b h
  subst e1; subst e2; subst e3
  obtain ⟨h1, h2, h3, h4, h5, h6⟩ := h
  have n1 : (ws + 1).toNat = ws.toNat + 1 := by omega
  have c := z_cPu fw ws.toNat k ws.toNat (Nat.le_refl _)
  refine ⟨by omega, ?_, ?_, fun j hj q => ?_, h5, h6⟩
  · rw [n1]; unfold z_cP; rw [c.1, z_us, if_neg hk]; omega
  · rw [n1]; unfold z_cB; rw [c.2, z_us, if_neg (fun q => q.elim hk hk2)]; omega
  · by_cases q2 : j = ws.toNat
    · rw [q2, z_us] at q ⊢
      rw [z_us]
      exact ⟨ha, ha2, fun q3 => absurd q3 hk2⟩
    · rw [z_ud q2] at q ⊢
      rw [z_ud q2]
      exact h4 j (by omega) q
theorem z_E_not (h : z_E fw fo fh fg fk fl fr ws hs op om kr 1 x) (hx : 1 ≤ x) {k a : Int32} (hk : k.toInt = 11) (ha : 96 ≤ a.toInt) (ha2 : a.toInt < 96 + kr) (hf : (fk a.toNatClampNeg).toInt = 11) (e1 : fw' = upd fw ws.toNat k) (e2 : fo' = upd fo ws.toNat a) (e3 : ws' = ws + 1) : z_E fw' fo' fh fg fk fl fr ws' hs op om kr 1 (x - 1) := by
  have hb := z_E_b h
  subst e1; subst e2; subst e3
  obtain ⟨h1, h2, h3, h4, h5, h6⟩ := h
  have n1 : (ws + 1).toNat = ws.toNat + 1 := by omega
  have c := z_cPu fw ws.toNat k ws.toNat (Nat.le_refl _)
  refine ⟨by omega, ?_, ?_, fun j hj q => ?_, h5, h6⟩
  · rw [n1]; unfold z_cP; rw [c.1, z_us, if_neg (by omega)]; omega
  · rw [n1]; unfold z_cB; rw [c.2, z_us, if_pos (Or.inr hk)]; omega
  · by_cases q2 : j = ws.toNat
    · rw [q2, z_us]
      exact ⟨ha, ha2, fun _ => hf⟩
    · rw [z_ud q2] at q ⊢
      rw [z_ud q2]
      exact h4 j (by omega) q
theorem z_E_open (h : z_E fw fo fh fg fk fl fr ws hs op om kr 1 x) (hop : op ≤ 7) {k a : Int32} (hk : k.toInt = 100) (e1 : fw' = upd fw ws.toNat k) (e2 : fo' = upd fo ws.toNat a) (e3 : ws' = ws + 1) (e4 : op' = op + 1) : z_E fw' fo' fh fg fk fl fr ws' hs op' om kr 1 x := by
  have hb := z_E_b h
  subst e1; subst e2; subst e3; subst e4
  obtain ⟨h1, h2, h3, h4, h5, h6⟩ := h
  have n1 : (ws + 1).toNat = ws.toNat + 1 := by omega
  have c := z_cPu fw ws.toNat k ws.toNat (Nat.le_refl _)
  refine ⟨by omega, ?_, ?_, fun j hj q => ?_, h5, h6⟩
  · rw [n1]; unfold z_cP; rw [c.1, z_us, if_pos hk]; omega
  · rw [n1]; unfold z_cB; rw [c.2, z_us, if_pos (Or.inl hk)]; omega
  · by_cases q2 : j = ws.toNat
    · rw [q2, z_us] at q; exact absurd hk q
    · rw [z_ud q2] at q ⊢
      rw [z_ud q2]
      exact h4 j (by omega) q
theorem z_E_b2 (h : z_E fw fo fh fg fk fl fr ws hs op om kr 0 x) (hw : 1 ≤ ws) {top a r1 r2 : Int32} (et : top = fw (ws - 1).toNat) (h100 : top.toInt ≠ 100) (h11 : top.toInt ≠ 11) (ea : a = fo (ws - 1).toNat) (e1 : r1 = fh (hs - 1).toNat) (e2 : r2 = fh (hs - 2).toNat) (el : fl' = upd fl a.toNatClampNeg r2) (er : fr' = upd fr a.toNatClampNeg r1) (eg : fg' = upd fg (96 + om).toNat a) (eh : fh' = upd fh (hs - 2).toNat a) (ews : ws' = ws - 1) (ehs : hs' = hs - 1) (eom : om' = om + 1) : z_E fw fo fh' fg' fk fl' fr' ws' hs' op om' kr 0 x := by
  have hb := z_E_b h
  obtain ⟨h1, h2, h3, h4, h5, h6⟩ := h
  have n1 : ws.toNat = (ws - 1).toNat + 1 := by omega
  rw [n1] at h2 h3
  unfold z_cP at h2
  unfold z_cB at h3
  rw [← et, if_neg h100] at h2
  rw [← et, if_neg (fun q => q.elim h100 h11)] at h3
  have c := z_cPB fw (ws - 1).toNat
  have ga := h4 (ws - 1).toNat (by omega) (by rw [← et]; exact h100)
  rw [← ea] at ga
  have g1 := h5 (hs - 1).toNat (by omega)
  have g2 := h5 (hs - 2).toNat (by omega)
  rw [← e1] at g1
  rw [← e2] at g2
  subst ews; subst ehs; subst eom; subst el; subst er; subst eg; subst eh
  refine ⟨by omega, by omega, by omega, fun j hj q => h4 j (by omega) q, fun j hj => ?_, fun j hj => ?_⟩
  · by_cases q : j = (hs - 2).toNat
    · rw [q, z_us]; omega
    · rw [z_ud q]; exact h5 j (by omega)
  · by_cases q : 96 + j = (96 + om).toNat
    · rw [q, z_us]; exact ⟨ga.1, ga.2.1, z_fin2 (fun q2 => absurd rfl q2) (by omega) (by omega)⟩
    · rw [z_ud q]
      have g := h6 j (by omega)
      exact ⟨g.1, g.2.1, z_fin2 (fun _ => g.2.2) (by omega) (by omega)⟩
theorem z_E_b1 (h : z_E fw fo fh fg fk fl fr ws hs op om kr 0 x) (hw : 1 ≤ ws) {top a r1 : Int32} (et : top = fw (ws - 1).toNat) (h11 : top.toInt = 11) (ea : a = fo (ws - 1).toNat) (e1 : r1 = fh (hs - 1).toNat) (el : fl' = upd fl a.toNatClampNeg r1) (eg : fg' = upd fg (96 + om).toNat a) (eh : fh' = upd fh (hs - 1).toNat a) (ews : ws' = ws - 1) (ehs : hs' = hs) (eom : om' = om + 1) : z_E fw fo fh' fg' fk fl' fr ws' hs' op om' kr 0 x := by
  have hb := z_E_b h
  obtain ⟨h1, h2, h3, h4, h5, h6⟩ := h
  have n1 : ws.toNat = (ws - 1).toNat + 1 := by omega
  rw [n1] at h2 h3
  unfold z_cP at h2
  unfold z_cB at h3
  rw [← et, if_neg (by omega)] at h2
  rw [← et, if_pos (Or.inr h11)] at h3
  have c := z_cPB fw (ws - 1).toNat
  have ga := h4 (ws - 1).toNat (by omega) (by rw [← et]; omega)
  rw [← ea, ← et] at ga
  have hk := ga.2.2 h11
  have g1 := h5 (hs - 1).toNat (by omega)
  rw [← e1] at g1
  subst ews; subst ehs; subst eom; subst el; subst eg; subst eh
  refine ⟨by omega, by omega, by omega, fun j hj q => h4 j (by omega) q, fun j hj => ?_, fun j hj => ?_⟩
  · by_cases q : j = (hs' - 1).toNat
    · rw [q, z_us]; omega
    · rw [z_ud q]; exact h5 j (by omega)
  · by_cases q : 96 + j = (96 + om).toNat
    · rw [q, z_us]; exact ⟨ga.1, ga.2.1, z_fin1 (fun q2 => absurd rfl q2) (by omega) (Or.inr hk)⟩
    · rw [z_ud q]
      have g := h6 j (by omega)
      exact ⟨g.1, g.2.1, z_fin1 (fun _ => g.2.2) (by omega) (Or.inr hk)⟩
theorem z_E_then (h : z_E fw fo fh fg fk fl fr ws hs op om kr 0 x) (hx : 1 ≤ x) {a r1 : Int32} (ha : 96 ≤ a.toInt) (ha2 : a.toInt < 96 + kr) (hk : (fk a.toNatClampNeg).toInt = 14) (e1 : r1 = fh (hs - 1).toNat) (el : fl' = upd fl a.toNatClampNeg r1) (eg : fg' = upd fg (96 + om).toNat a) (eh : fh' = upd fh (hs - 1).toNat a) (ehs : hs' = hs) (eom : om' = om + 1) : z_E fw fo fh' fg' fk fl' fr ws hs' op om' kr 0 (x - 1) := by
  have hb := z_E_b h
  obtain ⟨h1, h2, h3, h4, h5, h6⟩ := h
  have g1 := h5 (hs - 1).toNat (by omega)
  rw [← e1] at g1
  subst ehs; subst eom; subst el; subst eg; subst eh
  refine ⟨by omega, h2, h3, h4, fun j hj => ?_, fun j hj => ?_⟩
  · by_cases q : j = (hs' - 1).toNat
    · rw [q, z_us]; omega
    · rw [z_ud q]; exact h5 j (by omega)
  · by_cases q : 96 + j = (96 + om).toNat
    · rw [q, z_us]; exact ⟨ha, ha2, z_fin1 (fun q2 => absurd rfl q2) (by omega) (Or.inl hk)⟩
    · rw [z_ud q]
      have g := h6 j (by omega)
      exact ⟨g.1, g.2.1, z_fin1 (fun _ => g.2.2) (by omega) (Or.inl hk)⟩
theorem z_E_close (h : z_E fw fo fh fg fk fl fr ws hs op om kr 0 x) (hop : 1 ≤ op) (ht : ws = 0 ∨ (fw (ws - 1).toNat).toInt = 100) (e1 : ws' = ws - 1) (e2 : op' = op - 1) : 1 ≤ ws ∧ z_E fw fo fh fg fk fl fr ws' hs op' om kr 0 x := by
  have hb := z_E_b h
  obtain ⟨h1, h2, h3, h4, h5, h6⟩ := h
  have hw : 1 ≤ ws := by omega
  have n1 : ws.toNat = (ws - 1).toNat + 1 := by omega
  have h100 : (fw (ws - 1).toNat).toInt = 100 := ht.resolve_left (by omega)
  rw [n1] at h2 h3
  unfold z_cP at h2
  unfold z_cB at h3
  rw [if_pos h100] at h2
  rw [if_pos (Or.inl h100)] at h3
  subst e1; subst e2
  exact ⟨hw, by omega, by omega, by omega, fun j hj q => h4 j (by omega) q, h5, h6⟩
theorem z_E_reset (h : z_E fw fo fh fg fk fl fr ws hs op om kr wv x) (fw' fo' fh' : Nat → Int32) : z_E fw' fo' fh' fg fk fl fr 0 0 0 om kr 1 0 := by
  have hb := z_E_b h
  obtain ⟨h1, h2, h3, h4, h5, h6⟩ := h
  exact ⟨by omega, rfl, rfl, fun j hj => absurd hj (by omega), fun j hj => absurd hj (by omega), h6⟩
theorem z_E_x (h : z_E fw fo fh fg fk fl fr ws hs op om kr wv x) {y : Int} (e : x = y) : z_E fw fo fh fg fk fl fr ws hs op om kr wv y := e ▸ h
theorem z_E_held (h : z_E fw fo fh fg fk fl fr ws hs op om kr wv x) {r : Int32} {k : Int} (h0 : 0 ≤ k) (hk : k < hs) (e : r = fh k.toNat) : 96 ≤ r.toInt ∧ r.toInt < 96 + kr := by
  rw [e]
  exact h.2.2.2.2.1 k.toNat (by omega)
theorem z_E_of (h : z_E fw fo fh fg fk fl fr ws hs op om kr wv x) (hw : 1 ≤ ws) {top a : Int32} (et : top = fw (ws - 1).toNat) (h100 : top.toInt ≠ 100) (ea : a = fo (ws - 1).toNat) : 96 ≤ a.toInt ∧ a.toInt < 96 + kr := by
  have hb := z_E_b h
  have g := h.2.2.2.1 (ws - 1).toNat (by omega) (by rw [← et]; exact h100)
  rw [ea]
  exact ⟨g.1, g.2.1⟩
theorem z_E_hs2 (h : z_E fw fo fh fg fk fl fr ws hs op om kr 0 x) (hw : 1 ≤ ws) {top : Int32} (et : top = fw (ws - 1).toNat) (h100 : top.toInt ≠ 100) (h11 : top.toInt ≠ 11) : 2 ≤ hs := by
  have hb := z_E_b h
  obtain ⟨h1, h2, h3, -⟩ := h
  have n1 : ws.toNat = (ws - 1).toNat + 1 := by omega
  rw [n1] at h3
  unfold z_cB at h3
  rw [← et, if_neg (fun q => q.elim h100 h11)] at h3
  have c := z_cPB fw (ws - 1).toNat
  omega
theorem z_E_om (h : z_E fw fo fh fg fk fl fr ws hs op om kr wv x) (hw : 1 ≤ ws) {top : Int32} (et : top = fw (ws - 1).toNat) (h100 : top.toInt ≠ 100) : om + x + 1 ≤ kr := by
  have hb := z_E_b h
  obtain ⟨h1, h2, h3, -⟩ := h
  have n1 : ws.toNat = (ws - 1).toNat + 1 := by omega
  rw [n1] at h2
  unfold z_cP at h2
  rw [← et, if_neg h100] at h2
  have c := z_cPB fw (ws - 1).toNat
  omega
end ZE
def z_ag (f g : Nat → Int32) : Prop := ∀ j : Nat, j < 96 → g j = f j
theorem z_ag_rfl {f : Nat → Int32} : z_ag f f := fun _ _ => rfl
theorem z_ag_tr {f g h : Nat → Int32} (a : z_ag f g) (b : z_ag g h) : z_ag f h := fun j q => (b j q).trans (a j q)
theorem z_ag_upd {f g : Nat → Int32} {i v : Int32} (a : z_ag f g) (h : 96 ≤ i.toInt) : z_ag f (upd g i.toNatClampNeg v) := fun j q => by
  have e : i.toNatClampNeg = i.toInt.toNat := rfl
  rw [z_ud (by omega)]
  exact a j q
def z_ag6 (f g : Nat → Int32) : Prop := ∀ j : Nat, j < 6 → g j = f j
theorem z_ag6_rfl {f : Nat → Int32} : z_ag6 f f := fun _ _ => rfl
theorem z_ag6_tr {f g h : Nat → Int32} (a : z_ag6 f g) (b : z_ag6 g h) : z_ag6 f h := fun j q => (b j q).trans (a j q)
theorem z_ag6_upd {f g : Nat → Int32} {i v : Int32} (a : z_ag6 f g) (h : 6 ≤ i.toInt) : z_ag6 f (upd g i.toNatClampNeg v) := fun j q => by
  have e : i.toNatClampNeg = i.toInt.toNat := rfl
  rw [z_ud (by omega)]
  exact a j q
def z_kb (f g : Nat → Int32) (k : Int) : Prop := ∀ j : Nat, (j : Int) < 96 + k → g j = f j
theorem z_kb_upd {f g : Nat → Int32} {k : Int} {v : Int32} (hk : 0 ≤ k) (e : g = upd f (96 + k).toNat v) : z_kb f g k := fun j q => by
  rw [e, z_ud (by omega)]
theorem z_kb_at {f g : Nat → Int32} {k : Int} {i : Int32} (h : z_kb f g k) (h0 : 0 ≤ i.toInt) (hi : i.toInt < 96 + k) : g i.toNatClampNeg = f i.toNatClampNeg := by
  have e : i.toNatClampNeg = i.toInt.toNat := rfl
  exact h _ (by omega)
theorem z_upd_at {f g : Nat → Int32} {k : Int} {i v : Int32} (e : g = upd f k.toNat v) (hi : i.toInt = k) : g i.toNatClampNeg = v := by
  rw [z_nct hi, e, z_us]
theorem z_fin_at {fk fl fr : Nat → Int32} {i : Int32} {k : Int32} (e : fk i.toNatClampNeg = k) (h : k.toInt = 0 ∨ k.toInt = 15) : z_fin fk fl fr 96 191 i.toNatClampNeg := by
  intro h1 h2
  rw [e] at h1 h2
  exact absurd h (by omega)
def z_cs (cf cm : Nat → Int32) (om ca : Int) : Prop := ∀ c : Nat, (c : Int) < ca → 0 ≤ (cf (6 + c)).toInt ∧ 0 ≤ (cm (6 + c)).toInt ∧ (cf (6 + c)).toInt + (cm (6 + c)).toInt ≤ om
theorem z_cs_0 {cf cm : Nat → Int32} {om : Int} : z_cs cf cm om 0 := fun c h => absurd h (by omega)
theorem z_cs_s {cf cm cf' cm' : Nat → Int32} {om om' ca ca' : Int} {v w : Int32} (h : z_cs cf cm om ca) (h0 : 0 ≤ ca) (e1 : cf' = upd cf (6 + ca).toNat v) (e2 : cm' = upd cm (6 + ca).toNat w) (hv : 0 ≤ v.toInt) (hw : 0 ≤ w.toInt) (hvw : v.toInt + w.toInt ≤ om') (ho : om ≤ om') (e3 : ca' = ca + 1) : z_cs cf' cm' om' ca' := by
  subst e1; subst e2; subst e3
  intro c hc
  by_cases q : 6 + c = (6 + ca).toNat
  · rw [q, z_us, z_us]; exact ⟨hv, hw, hvw⟩
  · rw [z_ud q, z_ud q]
    have g := h c (by omega)
    omega
theorem z_vnb (x : Int32) : (0 : Int) ≤ (vp_nar .boolean x).toInt ∧ (vp_nar .boolean x).toInt ≤ (1 : Int) := z_and x 1 (by decide) (by decide)
def z_cp (n : Nat) (f0 f : Nat → Int32) (k : Int) : Prop := (∀ j : Nat, n ≤ j → f j = f0 j) ∧ ∀ j : Nat, (j : Int) < k → f j = f0 (n + j)
def z_cps (n : Nat) (f0 f : Nat → Int32) (k : Int) : Prop := (∀ j : Nat, n ≤ j → f j = f0 j) ∧ ∀ j : Nat, (j : Int) < k → f j = f0 (n + j) - 96
theorem z_cp0 {n : Nat} {f : Nat → Int32} : z_cp n f f 0 := ⟨fun _ _ => rfl, fun j h => absurd h (by omega)⟩
theorem z_cps0 {n : Nat} {f : Nat → Int32} : z_cps n f f 0 := ⟨fun _ _ => rfl, fun j h => absurd h (by omega)⟩
theorem z_cp_s {n : Nat} {f0 f f' : Nat → Int32} {k k' : Int} {i i2 z : Int32} (h : z_cp n f0 f k) (h0 : 0 ≤ k) (hk : k < (n : Int)) (e : z = f i2.toNatClampNeg) (hi : i.toInt = k) (hi2 : i2.toInt = (n : Int) + k) (e2 : f' = upd f i.toNatClampNeg z) (e3 : k' = k + 1) : z_cp n f0 f' k' := by
  subst e2; subst e3
  have c1 : i.toNatClampNeg = k.toNat := z_nct hi
  have c2 : i2.toNatClampNeg = n + k.toNat := by rw [z_nct hi2]; omega
  rw [c1]
  rw [c2, h.1 _ (by omega)] at e
  refine ⟨fun j hj => ?_, fun j hj => ?_⟩
  · rw [z_ud (by omega)]; exact h.1 j hj
  · by_cases q : j = k.toNat
    · rw [q, z_us]; exact e
    · rw [z_ud q]; exact h.2 j (by omega)
theorem z_cps_s {n : Nat} {f0 f f' : Nat → Int32} {k k' : Int} {i i2 z w : Int32} (h : z_cps n f0 f k) (h0 : 0 ≤ k) (hk : k < (n : Int)) (e : z = f i2.toNatClampNeg) (ew : w = z - 96) (hi : i.toInt = k) (hi2 : i2.toInt = (n : Int) + k) (e2 : f' = upd f i.toNatClampNeg w) (e3 : k' = k + 1) : z_cps n f0 f' k' := by
  subst e2; subst e3
  have c1 : i.toNatClampNeg = k.toNat := z_nct hi
  have c2 : i2.toNatClampNeg = n + k.toNat := by rw [z_nct hi2]; omega
  rw [c1]
  rw [c2, h.1 _ (by omega)] at e
  refine ⟨fun j hj => ?_, fun j hj => ?_⟩
  · rw [z_ud (by omega)]; exact h.1 j hj
  · by_cases q : j = k.toNat
    · rw [q, z_us, ew, e]
    · rw [z_ud q]; exact h.2 j (by omega)
theorem z_m96 {x : Int32} (h : 96 ≤ x.toInt) (h2 : x.toInt ≤ 191) : (x - 96).toInt = x.toInt - 96 := z_sub (b := 96) rfl rfl (by omega) (by omega)
theorem z_low_of {fw fo fh fg fk fl fr fk' fl' fr' fg' cf cm cf' cm' : Nat → Int32} {om kr ca : Int} (hE : z_E fw fo fh fg fk fl fr 0 0 0 om kr 1 0) (hC : z_cs cf cm om ca) (ck : z_cp 96 fk fk' kr) (cl : z_cps 96 fl fl' kr) (cr : z_cps 96 fr fr' kr) (cg : z_cps 96 fg fg' kr) (c1 : z_cp 6 cf cf' 6) (c2 : z_cp 6 cm cm' 6) (hca : ca ≤ 6) : z_low fk' fl' fr' fg' cf' cm' om ca := by
  have hb := z_E_b hE
  refine ⟨fun j hj => ?_, fun c hc => ?_⟩
  · have g := hE.2.2.2.2.2 j hj
    have e := cg.2 j (by omega)
    have t := z_m96 g.1 (by omega)
    have n1 : (fg (96 + j)).toNatClampNeg = (fg (96 + j)).toInt.toNat := rfl
    have n2 : (fg (96 + j) - 96).toNatClampNeg = (fg (96 + j) - 96).toInt.toNat := rfl
    rw [e]
    refine ⟨by omega, by omega, ?_⟩
    have hz := g.2.2
    have n3 : (fg (96 + j)).toNatClampNeg = 96 + (fg (96 + j) - 96).toNatClampNeg := by omega
    have n4 : (((fg (96 + j) - 96).toNatClampNeg : Nat) : Int) < kr := by omega
    generalize (fg (96 + j) - 96).toNatClampNeg = b at n3 n4
    rw [n3] at hz
    intro h1 h2
    rw [ck.2 b n4] at h1 h2 ⊢
    rw [cl.2 b n4, cr.2 b n4]
    have q := hz h1 h2
    refine ⟨by rw [z_m96 q.1 q.2.1]; omega, by rw [z_m96 q.1 q.2.1]; omega, fun h3 h4 => ?_⟩
    have q2 := q.2.2 h3 h4
    exact ⟨by rw [z_m96 q2.1 q2.2]; omega, by rw [z_m96 q2.1 q2.2]; omega⟩
  · rw [c1.2 c (by omega), c2.2 c (by omega)]
    exact hC c hc
theorem z_low_ag {fg fk fl fr fk' fl' fr' fg' cf cm cf' cm' : Nat → Int32} {kn ca : Int} (h : z_low fk fl fr fg cf cm kn ca) (hkn : kn ≤ 96) (hca : ca ≤ 6) (a1 : z_ag fk fk') (a2 : z_ag fl fl') (a3 : z_ag fr fr') (a4 : z_ag fg fg') (a5 : z_ag6 cf cf') (a6 : z_ag6 cm cm') : z_low fk' fl' fr' fg' cf' cm' kn ca := by
  refine ⟨fun j hj => ?_, fun c hc => ?_⟩
  · have g := h.1 j hj
    rw [a4 j (by omega)]
    refine ⟨g.1, g.2.1, ?_⟩
    have n1 : (fg j).toNatClampNeg = (fg j).toInt.toNat := rfl
    have hz := g.2.2
    unfold z_fin at hz ⊢
    rw [a1 _ (by omega), a2 _ (by omega), a3 _ (by omega)]
    exact hz
  · rw [a5 c (by omega), a6 c (by omega)]
    exact h.2 c hc
theorem z_E_0 {fw fo fh fg fk fl fr : Nat → Int32} : z_E fw fo fh fg fk fl fr 0 0 0 0 0 1 0 := ⟨by omega, rfl, rfl, fun j hj => absurd hj (by omega), fun j hj => absurd hj (by omega), fun j hj => absurd hj (by omega)⟩
theorem z_cp_k {n : Nat} {f0 f : Nat → Int32} {k k' : Int} (h : z_cp n f0 f k) (e : k = k') : z_cp n f0 f k' := e ▸ h
theorem z_cps_k {n : Nat} {f0 f : Nat → Int32} {k k' : Int} (h : z_cps n f0 f k) (e : k = k') : z_cps n f0 f k' := e ▸ h
def z_wt (r k : Int) : Prop := (k = 100 → r = 0) ∧ (k ≠ 100 → 1 ≤ r)
theorem z_wt_ne {r k : Int} (h : z_wt r k) (hr : 1 ≤ r) : k ≠ 100 := fun q => by have := h.1 q; omega
theorem z_wt_eq {r k : Int} (h : z_wt r k) (hr : r < 1) : k = 100 := by
  by_cases q : k = 100
  · exact q
  · have := h.2 q; omega
theorem z_wt_pos {r k : Int} (h : z_wt r k) (hr : k ≠ 100) : 1 ≤ r := h.2 hr
def z_sg (r kd wh : Int) : Prop := (r ≤ 13 ∧ r ≠ 11) ∧ (0 ≤ r ↔ ((kd = 1 ∧ (wh = 7 ∨ wh = 8)) ∨ (kd = 4 ∧ ((0 ≤ wh ∧ wh < 7) ∨ wh = 43 ∨ wh = 45 ∨ wh = 42 ∨ wh = 47))))
theorem z_sg_2 {r r2 kd wh : Int} (h : z_sg r kd wh) (h2 : z_sg r2 kd wh) (h0 : 0 ≤ r) : 0 ≤ r2 ∧ r2 ≤ 13 ∧ r2 ≠ 11 ∧ 1 ≤ kd := by
  have c := h.2.mp h0
  have d := h2.2.mpr c
  refine ⟨d, h2.1.1, h2.1.2, ?_⟩
  rcases c with c | c <;> omega
def z_bt (fw : Nat → Int32) (ws p : Int) : Prop := ws = 0 ∨ p ≠ 1 ∨ (fw (ws - 1).toNat).toInt = 100
theorem z_bt1 {fw : Nat → Int32} {ws : Int} (h : z_bt fw ws 1) : ws = 0 ∨ (fw (ws - 1).toNat).toInt = 100 := by
  rcases h with q | q | q
  · exact Or.inl q
  · exact absurd rfl q
  · exact Or.inr q
