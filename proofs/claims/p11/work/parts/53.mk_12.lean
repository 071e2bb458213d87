def u_c_X12_make : List Cond := .code yX12_init cX12_init 4 none :: ([.methodLink RX12 1 objectInit, .instanceMethod objectInit, .code objectInit ⟨#[0xb1]⟩ 1 none, .arrayClass .int, .fieldLink RX12 7 "ShellHeapModel" "tape" "[I", .fieldLink RX12 13 "ShellHeapModel" "sort" "[I", .fieldLink RX12 16 "ShellHeapModel" "noteA" "[I", .fieldLink RX12 19 "ShellHeapModel" "noteB" "[I", .fieldLink RX12 22 "ShellHeapModel" "noteC" "[I", .arrayClass .boolean, .fieldLink RX12 25 "ShellHeapModel" "counts" "[Z", .fieldLink RX12 29 "ShellHeapModel" "found" "[I", .fieldLink RX12 32 "ShellHeapModel" "bedOf" "[I", .fieldLink RX12 35 "ShellHeapModel" "later" "[Z", .fieldLink RX12 38 "ShellHeapModel" "rank" "[I", .fieldLink RX12 41 "ShellHeapModel" "first" "[I", .fieldLink RX12 44 "ShellHeapModel" "last" "[I", .fieldLink RX12 47 "ShellHeapModel" "wide" "I", .fieldLink RX12 51 "ShellHeapModel" "tall" "I", .fieldLink RX12 54 "ShellHeapModel" "columnX" "[I", .fieldLink RX12 57 "ShellHeapModel" "columnY" "[I", .fieldLink RX12 60 "ShellHeapModel" "thickOf" "[I", .fieldLink RX12 63 "ShellHeapModel" "meat" "[I", .fieldLink RX12 66 "ShellHeapModel" "valves" "[I", .fieldLink RX12 69 "ShellHeapModel" "keptOf" "[I", .fieldLink RX12 72 "ShellHeapModel" "words" "[I", .fieldLink RX12 75 "ShellHeapModel" "faultPlace" "I", .fieldLink RX12 78 "ShellHeapModel" "reads" "[I", .fieldLink RX12 81 "ShellHeapModel" "readings" "[I", .fieldLink RX12 84 "ShellHeapModel" "told" "[I", .fieldLink RX12 87 "ShellHeapModel" "put" "[I", .fieldLink RX12 90 "ShellHeapModel" "shellOf" "[I", .fieldLink RX12 93 "ShellHeapModel" "shell" "[I", .fieldLink RX12 96 "ShellHeapModel" "row" "[I", .fieldLink RX12 99 "ShellHeapModel" "name" "[I", .fieldLink RX12 102 "ShellHeapModel" "nameSize" "[I", .fieldLink RX12 105 "ShellHeapModel" "causeFirst" "[I", .fieldLink RX12 108 "ShellHeapModel" "causeMany" "[I", .fieldLink RX12 111 "ShellHeapModel" "knot" "[I", .fieldLink RX12 114 "ShellHeapModel" "left" "[I", .fieldLink RX12 117 "ShellHeapModel" "right" "[I", .fieldLink RX12 120 "ShellHeapModel" "amount" "[I", .fieldLink RX12 123 "ShellHeapModel" "ahead" "[Z", .fieldLink RX12 126 "ShellHeapModel" "goesBy" "[I", .fieldLink RX12 129 "ShellHeapModel" "wait" "[I", .fieldLink RX12 132 "ShellHeapModel" "waitOf" "[I", .fieldLink RX12 135 "ShellHeapModel" "held" "[I", .fieldLink RX12 138 "ShellHeapModel" "compared" "[Z", .arrayClass .long, .fieldLink RX12 141 "ShellHeapModel" "worked" "[J"] ++ wsX120)
set_option maxHeartbeats 4000000 in
set_option maxRecDepth 100000 in
theorem c_X12_make (l : Launch) (dC : Nat → ClassId) (dI : Nat → Nat → Nat) (sz : Nat) (h0 : Nat) : Met l yX12_init u_c_X12_make ({ frames := 1, cells := 41, slots := 15997, locals := 12 }) (va_Pc [.ref h0] (z_C (dC, dI) vwCl [(h0, .inr (12, [.null, .int 0, .int 0, .int 0, .int 0, .null, .null, .null, .null, .null, .null, .null, .null, .null, .null, .null, .int 0, .int 0, .int 0, .int 0, .null, .null, .null, .int 0, .null, .null, .null, .null, .int 0, .int 0, .int 0, .int 0, .int 0, .int 0, .int 0, .null, .null, .null, .null, .long 0, .int 0, .null, .null, .null, .int 0, .int 0, .int 0, .int 0, .null, .null, .null, .null, .null, .null, .null, .null, .null, .null, .int 0, .null, .null, .int 0, .null, .int 0, .null, .int 0, .int 0, .int 0, .int 0, .null]))] [] sz)) (va_Qv (fun (_ : Unit) => True) (fun (_ : Unit) (t : State) => ∃ (qa0 : Nat), ∃ (qc0 : ClassId), ∃ (qa5 : Nat), ∃ (qc5 : ClassId), ∃ (qa6 : Nat), ∃ (qc6 : ClassId), ∃ (qa7 : Nat), ∃ (qc7 : ClassId), ∃ (qa8 : Nat), ∃ (qc8 : ClassId), ∃ (qa9 : Nat), ∃ (qc9 : ClassId), ∃ (qa10 : Nat), ∃ (qc10 : ClassId), ∃ (qa11 : Nat), ∃ (qc11 : ClassId), ∃ (qa12 : Nat), ∃ (qc12 : ClassId), ∃ (qa13 : Nat), ∃ (qc13 : ClassId), ∃ (qa14 : Nat), ∃ (qc14 : ClassId), ∃ (qa15 : Nat), ∃ (qc15 : ClassId), ∃ (qa20 : Nat), ∃ (qc20 : ClassId), ∃ (qa21 : Nat), ∃ (qc21 : ClassId), ∃ (qa22 : Nat), ∃ (qc22 : ClassId), ∃ (qa24 : Nat), ∃ (qc24 : ClassId), ∃ (qa25 : Nat), ∃ (qc25 : ClassId), ∃ (qa26 : Nat), ∃ (qc26 : ClassId), ∃ (qa27 : Nat), ∃ (qc27 : ClassId), ∃ (qa35 : Nat), ∃ (qc35 : ClassId), ∃ (g : Nat → Int32), ∃ (qa36 : Nat), ∃ (qc36 : ClassId), ∃ (qa37 : Nat), ∃ (qc37 : ClassId), ∃ (qa38 : Nat), ∃ (qc38 : ClassId), ∃ (qa41 : Nat), ∃ (qc41 : ClassId), ∃ (qa42 : Nat), ∃ (qc42 : ClassId), ∃ (qa43 : Nat), ∃ (qc43 : ClassId), ∃ (qa48 : Nat), ∃ (qc48 : ClassId), ∃ (qa49 : Nat), ∃ (qc49 : ClassId), ∃ (qa50 : Nat), ∃ (qc50 : ClassId), ∃ (qa51 : Nat), ∃ (qc51 : ClassId), ∃ (qa52 : Nat), ∃ (qc52 : ClassId), ∃ (qa53 : Nat), ∃ (qc53 : ClassId), ∃ (qa54 : Nat), ∃ (qc54 : ClassId), ∃ (qa55 : Nat), ∃ (qc55 : ClassId), ∃ (qa56 : Nat), ∃ (qc56 : ClassId), ∃ (qa57 : Nat), ∃ (qc57 : ClassId), ∃ (qa59 : Nat), ∃ (qc59 : ClassId), ∃ (qa60 : Nat), ∃ (qc60 : ClassId), ∃ (qa62 : Nat), ∃ (qc62 : ClassId), ∃ (qa64 : Nat), ∃ (qc64 : ClassId), ∃ (qa69 : Nat), ∃ (qc69 : ClassId), va_P (dC, dI) vwCl [(h0, .inr (12, [.ref qa0, .int 0, .int 0, .int 0, .int 0, .ref qa5, .ref qa6, .ref qa7, .ref qa8, .ref qa9, .ref qa10, .ref qa11, .ref qa12, .ref qa13, .ref qa14, .ref qa15, .int 0, .int 6, .int 6, .int 0, .ref qa20, .ref qa21, .ref qa22, .int 0, .ref qa24, .ref qa25, .ref qa26, .ref qa27, .int 0, .int (-1), .int 0, .int 0, .int 0, .int 0, .int 0, .ref qa35, .ref qa36, .ref qa37, .ref qa38, .long 0, .int 0, .ref qa41, .ref qa42, .ref qa43, .int 0, .int 0, .int 0, .int 0, .ref qa48, .ref qa49, .ref qa50, .ref qa51, .ref qa52, .ref qa53, .ref qa54, .ref qa55, .ref qa56, .ref qa57, .int 0, .ref qa59, .ref qa60, .int 0, .ref qa62, .int 0, .ref qa64, .int 0, .int 0, .int 0, .int 0, .ref qa69])), (qa0, .inl (qc0, 700, .inl (fun _ => 0))), (qa5, .inl (qc5, 80, .inl (fun _ => 0))), (qa6, .inl (qc6, 80, .inl (fun _ => 0))), (qa7, .inl (qc7, 80, .inl (fun _ => 0))), (qa8, .inl (qc8, 80, .inl (fun _ => 0))), (qa9, .inl (qc9, 80, .inl (fun _ => 0))), (qa10, .inl (qc10, 11520, .inl (fun _ => 0))), (qa11, .inl (qc11, 12, .inl (fun _ => 0))), (qa12, .inl (qc12, 144, .inl (fun _ => 0))), (qa13, .inl (qc13, 12, .inl (fun _ => 0))), (qa14, .inl (qc14, 12, .inl (fun _ => 0))), (qa15, .inl (qc15, 12, .inl (fun _ => 0))), (qa20, .inl (qc20, 10, .inl (fun _ => 0))), (qa21, .inl (qc21, 10, .inl (fun _ => 0))), (qa22, .inl (qc22, 120, .inl (fun _ => 0))), (qa24, .inl (qc24, 6, .inl (fun _ => 0))), (qa25, .inl (qc25, 6, .inl (fun _ => 0))), (qa26, .inl (qc26, 24, .inl (fun _ => 16))), (qa27, .inl (qc27, 115, .inl z_words)), (qa35, .inl (qc35, 48, .inl g)), (qa36, .inl (qc36, 144, .inl (fun _ => 0))), (qa37, .inl (qc37, 4, .inl (fun _ => 0))), (qa38, .inl (qc38, 4, .inl (fun _ => 0))), (qa41, .inl (qc41, 200, .inl (fun _ => 0))), (qa42, .inl (qc42, 600, .inl (fun _ => 0))), (qa43, .inl (qc43, 200, .inl (fun _ => 0))), (qa48, .inl (qc48, 48, .inl (fun _ => 0))), (qa49, .inl (qc49, 6, .inl (fun _ => 0))), (qa50, .inl (qc50, 12, .inl (fun _ => 0))), (qa51, .inl (qc51, 12, .inl (fun _ => 0))), (qa52, .inl (qc52, 192, .inl (fun _ => 0))), (qa53, .inl (qc53, 192, .inl (fun _ => 0))), (qa54, .inl (qc54, 192, .inl (fun _ => 0))), (qa55, .inl (qc55, 192, .inl (fun _ => 0))), (qa56, .inl (qc56, 192, .inl (fun _ => 0))), (qa57, .inl (qc57, 192, .inl (fun _ => 0))), (qa59, .inl (qc59, 120, .inl (fun _ => 0))), (qa60, .inl (qc60, 120, .inl (fun _ => 0))), (qa62, .inl (qc62, 120, .inl (fun _ => 0))), (qa64, .inl (qc64, 8, .inl (fun _ => 0))), (qa69, .inl (qc69, 96, .inr (.inl (fun _ => 0))))] t.heap ∧ va_K (dC, dI) vwCl [(qc0, .int), (qc5, .int), (qc6, .int), (qc7, .int), (qc8, .int), (qc9, .boolean), (qc10, .int), (qc11, .int), (qc12, .boolean), (qc13, .int), (qc14, .int), (qc15, .int), (qc20, .int), (qc21, .int), (qc22, .int), (qc24, .int), (qc25, .int), (qc26, .int), (qc27, .int), (qc35, .int), (qc36, .int), (qc37, .int), (qc38, .int), (qc41, .int), (qc42, .int), (qc43, .int), (qc48, .int), (qc49, .int), (qc50, .int), (qc51, .int), (qc52, .int), (qc53, .int), (qc54, .int), (qc55, .int), (qc56, .boolean), (qc57, .int), (qc59, .int), (qc60, .int), (qc62, .int), (qc64, .boolean), (qc69, .long)] t ∧ va_D (va_A [(h0, .inr (12, [.null, .int 0, .int 0, .int 0, .int 0, .null, .null, .null, .null, .null, .null, .null, .null, .null, .null, .null, .int 0, .int 0, .int 0, .int 0, .null, .null, .null, .int 0, .null, .null, .null, .null, .int 0, .int 0, .int 0, .int 0, .int 0, .int 0, .int 0, .null, .null, .null, .null, .long 0, .int 0, .null, .null, .null, .int 0, .int 0, .int 0, .int 0, .null, .null, .null, .null, .null, .null, .null, .null, .null, .null, .int 0, .null, .null, .int 0, .null, .int 0, .null, .int 0, .int 0, .int 0, .int 0, .null]))] sz) [(h0, .inr (12, [.ref qa0, .int 0, .int 0, .int 0, .int 0, .ref qa5, .ref qa6, .ref qa7, .ref qa8, .ref qa9, .ref qa10, .ref qa11, .ref qa12, .ref qa13, .ref qa14, .ref qa15, .int 0, .int 6, .int 6, .int 0, .ref qa20, .ref qa21, .ref qa22, .int 0, .ref qa24, .ref qa25, .ref qa26, .ref qa27, .int 0, .int (-1), .int 0, .int 0, .int 0, .int 0, .int 0, .ref qa35, .ref qa36, .ref qa37, .ref qa38, .long 0, .int 0, .ref qa41, .ref qa42, .ref qa43, .int 0, .int 0, .int 0, .int 0, .ref qa48, .ref qa49, .ref qa50, .ref qa51, .ref qa52, .ref qa53, .ref qa54, .ref qa55, .ref qa56, .ref qa57, .int 0, .ref qa59, .ref qa60, .int 0, .ref qa62, .int 0, .ref qa64, .int 0, .int 0, .int 0, .int 0, .ref qa69])), (qa0, .inl (qc0, 700, .inl (fun _ => 0))), (qa5, .inl (qc5, 80, .inl (fun _ => 0))), (qa6, .inl (qc6, 80, .inl (fun _ => 0))), (qa7, .inl (qc7, 80, .inl (fun _ => 0))), (qa8, .inl (qc8, 80, .inl (fun _ => 0))), (qa9, .inl (qc9, 80, .inl (fun _ => 0))), (qa10, .inl (qc10, 11520, .inl (fun _ => 0))), (qa11, .inl (qc11, 12, .inl (fun _ => 0))), (qa12, .inl (qc12, 144, .inl (fun _ => 0))), (qa13, .inl (qc13, 12, .inl (fun _ => 0))), (qa14, .inl (qc14, 12, .inl (fun _ => 0))), (qa15, .inl (qc15, 12, .inl (fun _ => 0))), (qa20, .inl (qc20, 10, .inl (fun _ => 0))), (qa21, .inl (qc21, 10, .inl (fun _ => 0))), (qa22, .inl (qc22, 120, .inl (fun _ => 0))), (qa24, .inl (qc24, 6, .inl (fun _ => 0))), (qa25, .inl (qc25, 6, .inl (fun _ => 0))), (qa26, .inl (qc26, 24, .inl (fun _ => 16))), (qa27, .inl (qc27, 115, .inl z_words)), (qa35, .inl (qc35, 48, .inl g)), (qa36, .inl (qc36, 144, .inl (fun _ => 0))), (qa37, .inl (qc37, 4, .inl (fun _ => 0))), (qa38, .inl (qc38, 4, .inl (fun _ => 0))), (qa41, .inl (qc41, 200, .inl (fun _ => 0))), (qa42, .inl (qc42, 600, .inl (fun _ => 0))), (qa43, .inl (qc43, 200, .inl (fun _ => 0))), (qa48, .inl (qc48, 48, .inl (fun _ => 0))), (qa49, .inl (qc49, 6, .inl (fun _ => 0))), (qa50, .inl (qc50, 12, .inl (fun _ => 0))), (qa51, .inl (qc51, 12, .inl (fun _ => 0))), (qa52, .inl (qc52, 192, .inl (fun _ => 0))), (qa53, .inl (qc53, 192, .inl (fun _ => 0))), (qa54, .inl (qc54, 192, .inl (fun _ => 0))), (qa55, .inl (qc55, 192, .inl (fun _ => 0))), (qa56, .inl (qc56, 192, .inl (fun _ => 0))), (qa57, .inl (qc57, 192, .inl (fun _ => 0))), (qa59, .inl (qc59, 120, .inl (fun _ => 0))), (qa60, .inl (qc60, 120, .inl (fun _ => 0))), (qa62, .inl (qc62, 120, .inl (fun _ => 0))), (qa64, .inl (qc64, 8, .inl (fun _ => 0))), (qa69, .inl (qc69, 96, .inr (.inl (fun _ => 0))))]) (va_A [(h0, .inr (12, [.null, .int 0, .int 0, .int 0, .int 0, .null, .null, .null, .null, .null, .null, .null, .null, .null, .null, .null, .int 0, .int 0, .int 0, .int 0, .null, .null, .null, .int 0, .null, .null, .null, .null, .int 0, .int 0, .int 0, .int 0, .int 0, .int 0, .int 0, .null, .null, .null, .null, .long 0, .int 0, .null, .null, .null, .int 0, .int 0, .int 0, .int 0, .null, .null, .null, .null, .null, .null, .null, .null, .null, .null, .int 0, .null, .null, .int 0, .null, .int 0, .null, .int 0, .int 0, .int 0, .int 0, .null]))] sz)) 41 15997 (va_A [(h0, .inr (12, [.null, .int 0, .int 0, .int 0, .int 0, .null, .null, .null, .null, .null, .null, .null, .null, .null, .null, .null, .int 0, .int 0, .int 0, .int 0, .null, .null, .null, .int 0, .null, .null, .null, .null, .int 0, .int 0, .int 0, .int 0, .int 0, .int 0, .int 0, .null, .null, .null, .null, .long 0, .int 0, .null, .null, .null, .int 0, .int 0, .int 0, .int 0, .null, .null, .null, .null, .null, .null, .null, .null, .null, .null, .int 0, .null, .null, .int 0, .null, .int 0, .null, .int 0, .int 0, .int 0, .int 0, .null]))] sz) := by
  refine Met.ofW (cc := cX12_init) (maxL := 4) (ret := none) (by decide) rfl ?_
  intro p e s m args below meth c s₁ B hml hv
  obtain ⟨rfl, hsz, hP, hK, hD0⟩ := hv
  have hx := B.exec
  have hb := B.bytes
  have hr := B.returns
  have hts := atoms_spec (ws := u_c_X12_make) B.pre
  have hown : s.vm.findClass RX12 = some m.cls := findClass_of_methodNamed B.named
  have hlocks := B.notSynchronized
  have hin : meth.name = "<init>" := (name_of_methodNamed B.named B.method).1
  subst hsz
  have hD := hD0.self (sz := s.heap.size)
  generalize hAe : va_A [(h0, .inr (12, [.null, .int 0, .int 0, .int 0, .int 0, .null, .null, .null, .null, .null, .null, .null, .null, .null, .null, .null, .int 0, .int 0, .int 0, .int 0, .null, .null, .null, .int 0, .null, .null, .null, .null, .int 0, .int 0, .int 0, .int 0, .int 0, .int 0, .int 0, .null, .null, .null, .null, .long 0, .int 0, .null, .null, .null, .int 0, .int 0, .int 0, .int 0, .null, .null, .null, .null, .null, .null, .null, .null, .null, .null, .int 0, .null, .null, .int 0, .null, .int 0, .null, .int 0, .int 0, .int 0, .int 0, .null]))] s.heap.size = A at hD ⊢
  have hA : ∀ q : Nat, s.heap.size ≤ q → A q := fun q h => by rw [← hAe]; exact Or.inr h
  have hS : va_S A s.heap s.heap [] := va_S.rf
  have hP : va_P (dC, dI) vwCl [(h0, .inr (12, [.null, .int 0, .int 0, .int 0, .int 0, .null, .null, .null, .null, .null, .null, .null, .null, .null, .null, .null, .int 0, .int 0, .int 0, .int 0, .null, .null, .null, .int 0, .null, .null, .null, .null, .int 0, .int 0, .int 0, .int 0, .int 0, .int 0, .int 0, .null, .null, .null, .null, .long 0, .int 0, .null, .null, .null, .int 0, .int 0, .int 0, .int 0, .null, .null, .null, .null, .null, .null, .null, .null, .null, .null, .int 0, .null, .null, .int 0, .null, .int 0, .null, .int 0, .int 0, .int 0, .int 0, .null]))] s.heap := hP
  have w__methodLink_RX12_1_objectInit := hts (.methodLink RX12 1 objectInit) (by decide +kernel)
  have w__instanceMethod_objectInit := hts (.instanceMethod objectInit) (by decide +kernel)
  have w__code_objectInit_0xb1_1_none := hts (.code objectInit ⟨#[0xb1]⟩ 1 none) (by decide +kernel)
  have w__arrayClass_int := hts (.arrayClass .int) (by decide +kernel)
  have w__fieldLink_RX12_7_ShellHeapModel_tape_I_ := hts (.fieldLink RX12 7 "ShellHeapModel" "tape" "[I") (by decide +kernel)
  have hiX12 := show ∀ w ∈ u_ws RX12 TX12 70, w ∈ u_c_X12_make by decide +kernel
  have w__fieldLink_RX12_13_ShellHeapModel_sort_I_ := hts (.fieldLink RX12 13 "ShellHeapModel" "sort" "[I") (by decide +kernel)
  have w__fieldLink_RX12_16_ShellHeapModel_noteA_I_ := hts (.fieldLink RX12 16 "ShellHeapModel" "noteA" "[I") (by decide +kernel)
  have w__fieldLink_RX12_19_ShellHeapModel_noteB_I_ := hts (.fieldLink RX12 19 "ShellHeapModel" "noteB" "[I") (by decide +kernel)
  have w__fieldLink_RX12_22_ShellHeapModel_noteC_I_ := hts (.fieldLink RX12 22 "ShellHeapModel" "noteC" "[I") (by decide +kernel)
  have w__arrayClass_boolean := hts (.arrayClass .boolean) (by decide +kernel)
  have w__fieldLink_RX12_25_ShellHeapModel_counts_Z_ := hts (.fieldLink RX12 25 "ShellHeapModel" "counts" "[Z") (by decide +kernel)
  have w__fieldLink_RX12_29_ShellHeapModel_found_I_ := hts (.fieldLink RX12 29 "ShellHeapModel" "found" "[I") (by decide +kernel)
  have w__fieldLink_RX12_32_ShellHeapModel_bedOf_I_ := hts (.fieldLink RX12 32 "ShellHeapModel" "bedOf" "[I") (by decide +kernel)
  have w__fieldLink_RX12_35_ShellHeapModel_later_Z_ := hts (.fieldLink RX12 35 "ShellHeapModel" "later" "[Z") (by decide +kernel)
  have w__fieldLink_RX12_38_ShellHeapModel_rank_I_ := hts (.fieldLink RX12 38 "ShellHeapModel" "rank" "[I") (by decide +kernel)
  have w__fieldLink_RX12_41_ShellHeapModel_first_I_ := hts (.fieldLink RX12 41 "ShellHeapModel" "first" "[I") (by decide +kernel)
  have w__fieldLink_RX12_44_ShellHeapModel_last_I_ := hts (.fieldLink RX12 44 "ShellHeapModel" "last" "[I") (by decide +kernel)
  have w__fieldLink_RX12_47_ShellHeapModel_wide_I_ := hts (.fieldLink RX12 47 "ShellHeapModel" "wide" "I") (by decide +kernel)
  have w__fieldLink_RX12_51_ShellHeapModel_tall_I_ := hts (.fieldLink RX12 51 "ShellHeapModel" "tall" "I") (by decide +kernel)
  have w__fieldLink_RX12_54_ShellHeapModel_columnX_I_ := hts (.fieldLink RX12 54 "ShellHeapModel" "columnX" "[I") (by decide +kernel)
  have w__fieldLink_RX12_57_ShellHeapModel_columnY_I_ := hts (.fieldLink RX12 57 "ShellHeapModel" "columnY" "[I") (by decide +kernel)
  have w__fieldLink_RX12_60_ShellHeapModel_thickOf_I_ := hts (.fieldLink RX12 60 "ShellHeapModel" "thickOf" "[I") (by decide +kernel)
  have w__fieldLink_RX12_63_ShellHeapModel_meat_I_ := hts (.fieldLink RX12 63 "ShellHeapModel" "meat" "[I") (by decide +kernel)
  have w__fieldLink_RX12_66_ShellHeapModel_valves_I_ := hts (.fieldLink RX12 66 "ShellHeapModel" "valves" "[I") (by decide +kernel)
  have w__fieldLink_RX12_69_ShellHeapModel_keptOf_I_ := hts (.fieldLink RX12 69 "ShellHeapModel" "keptOf" "[I") (by decide +kernel)
  have w__fieldLink_RX12_72_ShellHeapModel_words_I_ := hts (.fieldLink RX12 72 "ShellHeapModel" "words" "[I") (by decide +kernel)
  have w__fieldLink_RX12_75_ShellHeapModel_faultPlace_I_ := hts (.fieldLink RX12 75 "ShellHeapModel" "faultPlace" "I") (by decide +kernel)
  have w__fieldLink_RX12_78_ShellHeapModel_reads_I_ := hts (.fieldLink RX12 78 "ShellHeapModel" "reads" "[I") (by decide +kernel)
  have w__fieldLink_RX12_81_ShellHeapModel_readings_I_ := hts (.fieldLink RX12 81 "ShellHeapModel" "readings" "[I") (by decide +kernel)
  have w__fieldLink_RX12_84_ShellHeapModel_told_I_ := hts (.fieldLink RX12 84 "ShellHeapModel" "told" "[I") (by decide +kernel)
  have w__fieldLink_RX12_87_ShellHeapModel_put_I_ := hts (.fieldLink RX12 87 "ShellHeapModel" "put" "[I") (by decide +kernel)
  have w__fieldLink_RX12_90_ShellHeapModel_shellOf_I_ := hts (.fieldLink RX12 90 "ShellHeapModel" "shellOf" "[I") (by decide +kernel)
  have w__fieldLink_RX12_93_ShellHeapModel_shell_I_ := hts (.fieldLink RX12 93 "ShellHeapModel" "shell" "[I") (by decide +kernel)
  have w__fieldLink_RX12_96_ShellHeapModel_row_I_ := hts (.fieldLink RX12 96 "ShellHeapModel" "row" "[I") (by decide +kernel)
  have w__fieldLink_RX12_99_ShellHeapModel_name_I_ := hts (.fieldLink RX12 99 "ShellHeapModel" "name" "[I") (by decide +kernel)
  have w__fieldLink_RX12_102_ShellHeapModel_nameSize_I_ := hts (.fieldLink RX12 102 "ShellHeapModel" "nameSize" "[I") (by decide +kernel)
  have w__fieldLink_RX12_105_ShellHeapModel_causeFirst_I_ := hts (.fieldLink RX12 105 "ShellHeapModel" "causeFirst" "[I") (by decide +kernel)
  have w__fieldLink_RX12_108_ShellHeapModel_causeMany_I_ := hts (.fieldLink RX12 108 "ShellHeapModel" "causeMany" "[I") (by decide +kernel)
  have w__fieldLink_RX12_111_ShellHeapModel_knot_I_ := hts (.fieldLink RX12 111 "ShellHeapModel" "knot" "[I") (by decide +kernel)
  have w__fieldLink_RX12_114_ShellHeapModel_left_I_ := hts (.fieldLink RX12 114 "ShellHeapModel" "left" "[I") (by decide +kernel)
  have w__fieldLink_RX12_117_ShellHeapModel_right_I_ := hts (.fieldLink RX12 117 "ShellHeapModel" "right" "[I") (by decide +kernel)
  have w__fieldLink_RX12_120_ShellHeapModel_amount_I_ := hts (.fieldLink RX12 120 "ShellHeapModel" "amount" "[I") (by decide +kernel)
  have w__fieldLink_RX12_123_ShellHeapModel_ahead_Z_ := hts (.fieldLink RX12 123 "ShellHeapModel" "ahead" "[Z") (by decide +kernel)
  have w__fieldLink_RX12_126_ShellHeapModel_goesBy_I_ := hts (.fieldLink RX12 126 "ShellHeapModel" "goesBy" "[I") (by decide +kernel)
  have w__fieldLink_RX12_129_ShellHeapModel_wait_I_ := hts (.fieldLink RX12 129 "ShellHeapModel" "wait" "[I") (by decide +kernel)
  have w__fieldLink_RX12_132_ShellHeapModel_waitOf_I_ := hts (.fieldLink RX12 132 "ShellHeapModel" "waitOf" "[I") (by decide +kernel)
  have w__fieldLink_RX12_135_ShellHeapModel_held_I_ := hts (.fieldLink RX12 135 "ShellHeapModel" "held" "[I") (by decide +kernel)
  have w__fieldLink_RX12_138_ShellHeapModel_compared_Z_ := hts (.fieldLink RX12 138 "ShellHeapModel" "compared" "[Z") (by decide +kernel)
  have w__arrayClass_long := hts (.arrayClass .long) (by decide +kernel)
  have w__fieldLink_RX12_141_ShellHeapModel_worked_J_ := hts (.fieldLink RX12 141 "ShellHeapModel" "worked" "[J") (by decide +kernel)
  have hl := lv_entry ([.ref h0]) (n := 4) (Nat.le_of_ble_eq_true rfl)
  rw [lg_entry_eq]
  generalize (lg_sl ([.ref h0]) ++ List.replicate (4 - (lg_sl ([.ref h0])).length) Slot.unset).toArray = ls at hl ⊢
  have hl : lv_has ls 4 [(0, .ref h0)] := hl
  refine z_nameQ (fun QQ hQQ => ?_)
  refine lv_aload_n hx hb dX12_init_0 rfl (lv_at hl 0 rfl) ?_
  refine W.objInit hx hb hown w__methodLink_RX12_1_objectInit w__instanceMethod_objectInit w__code_objectInit_0xb1_1_none rfl (by rw [hml]; exact hl.1) rfl dX12_init_1 (Nat.le_of_ble_eq_true rfl) (Nat.le_of_ble_eq_true rfl) ?_
  refine W.eq (g2 := F0 m 4 ls []) rfl ?_
  refine lv_aload_n hx hb dX12_init_4 rfl (lv_at hl 0 rfl) ?_
  refine lv_sipush (v := 700) hx hb dX12_init_5 (by decide) ?_
  refine va_newa (atype := .int) (ty := .int) (N' := 700) (a0 := (700, .inl (fun _ => 0))) hx hb w__arrayClass_int rfl hK hP hD hS hA (z_newI 700) (by decide) (by decide) (by decide) (Nat.le_of_ble_eq_true rfl) (Nat.le_of_ble_eq_true rfl) dX12_init_8 ?_
  clear hK hP hD hS
  intro q_1 cA_2 H_3 hK hP hD hS
  replace hK : va_K (dC, dI) vwCl [(cA_2, .int)] s := hK
  replace hP : va_P (dC, dI) vwCl [(h0, .inr (12, [.null, .int 0, .int 0, .int 0, .int 0, .null, .null, .null, .null, .null, .null, .null, .null, .null, .null, .null, .int 0, .int 0, .int 0, .int 0, .null, .null, .null, .int 0, .null, .null, .null, .null, .int 0, .int 0, .int 0, .int 0, .int 0, .int 0, .int 0, .null, .null, .null, .null, .long 0, .int 0, .null, .null, .null, .int 0, .int 0, .int 0, .int 0, .null, .null, .null, .null, .null, .null, .null, .null, .null, .null, .int 0, .null, .null, .int 0, .null, .int 0, .null, .int 0, .int 0, .int 0, .int 0, .null])), (q_1, .inl (cA_2, 700, .inl (fun _ => 0)))] H_3 := hP
  replace hD : va_D A [(h0, .inr (12, [.null, .int 0, .int 0, .int 0, .int 0, .null, .null, .null, .null, .null, .null, .null, .null, .null, .null, .null, .int 0, .int 0, .int 0, .int 0, .null, .null, .null, .int 0, .null, .null, .null, .null, .int 0, .int 0, .int 0, .int 0, .int 0, .int 0, .int 0, .null, .null, .null, .null, .long 0, .int 0, .null, .null, .null, .int 0, .int 0, .int 0, .int 0, .null, .null, .null, .null, .null, .null, .null, .null, .null, .null, .int 0, .null, .null, .int 0, .null, .int 0, .null, .int 0, .int 0, .int 0, .int 0, .null])), (q_1, .inl (cA_2, 700, .inl (fun _ => 0)))] := hD
  refine va_putF (D := (dC, dI)) (ci := 12) (v := .ref q_1) (ty := .array .int) (C := RX12) (T := TX12) (N := 70) hx hb hts hiX12 tyX12 tyX12_ok nmX12 hown hK hP hD hS 0 rfl rfl 0 (by decide) w__fieldLink_RX12_7_ShellHeapModel_tape_I_ (fun _ h9 => h9) rfl hin rfl (by decide +kernel) rfl rfl (Nat.le_of_ble_eq_true rfl) dX12_init_10 ?_
  clear hP hD hS
  intro H_4 locs hP hD hS
  have h9 := z_s_0_0 hP hD
  clear hP hD
  obtain ⟨hP, hD⟩ := h9
  refine lv_aload_n hx hb dX12_init_13 rfl (lv_at hl 0 rfl) ?_
  refine lv_bipush (v := 80) hx hb dX12_init_14 (by decide) ?_
  refine va_newa (atype := .int) (ty := .int) (N' := 80) (a0 := (80, .inl (fun _ => 0))) hx hb w__arrayClass_int rfl hK hP hD hS hA (z_newI 80) (by decide) (by decide) (by decide) (Nat.le_of_ble_eq_true rfl) (Nat.le_of_ble_eq_true rfl) dX12_init_16 ?_
  clear hK hP hD hS
  intro q_5 cA_6 H_7 hK hP hD hS
  replace hK : va_K (dC, dI) vwCl [(cA_2, .int), (cA_6, .int)] s := hK
  replace hP : va_P (dC, dI) vwCl [(h0, .inr (12, [.ref q_1, .int 0, .int 0, .int 0, .int 0, .null, .null, .null, .null, .null, .null, .null, .null, .null, .null, .null, .int 0, .int 0, .int 0, .int 0, .null, .null, .null, .int 0, .null, .null, .null, .null, .int 0, .int 0, .int 0, .int 0, .int 0, .int 0, .int 0, .null, .null, .null, .null, .long 0, .int 0, .null, .null, .null, .int 0, .int 0, .int 0, .int 0, .null, .null, .null, .null, .null, .null, .null, .null, .null, .null, .int 0, .null, .null, .int 0, .null, .int 0, .null, .int 0, .int 0, .int 0, .int 0, .null])), (q_1, .inl (cA_2, 700, .inl (fun _ => 0))), (q_5, .inl (cA_6, 80, .inl (fun _ => 0)))] H_7 := hP
  replace hD : va_D A [(h0, .inr (12, [.ref q_1, .int 0, .int 0, .int 0, .int 0, .null, .null, .null, .null, .null, .null, .null, .null, .null, .null, .null, .int 0, .int 0, .int 0, .int 0, .null, .null, .null, .int 0, .null, .null, .null, .null, .int 0, .int 0, .int 0, .int 0, .int 0, .int 0, .int 0, .null, .null, .null, .null, .long 0, .int 0, .null, .null, .null, .int 0, .int 0, .int 0, .int 0, .null, .null, .null, .null, .null, .null, .null, .null, .null, .null, .int 0, .null, .null, .int 0, .null, .int 0, .null, .int 0, .int 0, .int 0, .int 0, .null])), (q_1, .inl (cA_2, 700, .inl (fun _ => 0))), (q_5, .inl (cA_6, 80, .inl (fun _ => 0)))] := hD
  refine va_putF (D := (dC, dI)) (ci := 12) (v := .ref q_5) (ty := .array .int) (C := RX12) (T := TX12) (N := 70) hx hb hts hiX12 tyX12 tyX12_ok nmX12 hown hK hP hD hS 0 rfl rfl 5 (by decide) w__fieldLink_RX12_13_ShellHeapModel_sort_I_ (fun _ h9 => h9) rfl hin rfl (by decide +kernel) rfl rfl (Nat.le_of_ble_eq_true rfl) dX12_init_18 ?_
  clear hP hD hS
  intro H_8 locs hP hD hS
  have h9 := z_s_0_5 hP hD
  clear hP hD
  obtain ⟨hP, hD⟩ := h9
  refine lv_aload_n hx hb dX12_init_21 rfl (lv_at hl 0 rfl) ?_
  refine lv_bipush (v := 80) hx hb dX12_init_22 (by decide) ?_
  refine va_newa (atype := .int) (ty := .int) (N' := 80) (a0 := (80, .inl (fun _ => 0))) hx hb w__arrayClass_int rfl hK hP hD hS hA (z_newI 80) (by decide) (by decide) (by decide) (Nat.le_of_ble_eq_true rfl) (Nat.le_of_ble_eq_true rfl) dX12_init_24 ?_
  clear hK hP hD hS
  intro q_9 cA_10 H_11 hK hP hD hS
  replace hK : va_K (dC, dI) vwCl [(cA_2, .int), (cA_6, .int), (cA_10, .int)] s := hK
  replace hP : va_P (dC, dI) vwCl [(h0, .inr (12, [.ref q_1, .int 0, .int 0, .int 0, .int 0, .ref q_5, .null, .null, .null, .null, .null, .null, .null, .null, .null, .null, .int 0, .int 0, .int 0, .int 0, .null, .null, .null, .int 0, .null, .null, .null, .null, .int 0, .int 0, .int 0, .int 0, .int 0, .int 0, .int 0, .null, .null, .null, .null, .long 0, .int 0, .null, .null, .null, .int 0, .int 0, .int 0, .int 0, .null, .null, .null, .null, .null, .null, .null, .null, .null, .null, .int 0, .null, .null, .int 0, .null, .int 0, .null, .int 0, .int 0, .int 0, .int 0, .null])), (q_1, .inl (cA_2, 700, .inl (fun _ => 0))), (q_5, .inl (cA_6, 80, .inl (fun _ => 0))), (q_9, .inl (cA_10, 80, .inl (fun _ => 0)))] H_11 := hP
  replace hD : va_D A [(h0, .inr (12, [.ref q_1, .int 0, .int 0, .int 0, .int 0, .ref q_5, .null, .null, .null, .null, .null, .null, .null, .null, .null, .null, .int 0, .int 0, .int 0, .int 0, .null, .null, .null, .int 0, .null, .null, .null, .null, .int 0, .int 0, .int 0, .int 0, .int 0, .int 0, .int 0, .null, .null, .null, .null, .long 0, .int 0, .null, .null, .null, .int 0, .int 0, .int 0, .int 0, .null, .null, .null, .null, .null, .null, .null, .null, .null, .null, .int 0, .null, .null, .int 0, .null, .int 0, .null, .int 0, .int 0, .int 0, .int 0, .null])), (q_1, .inl (cA_2, 700, .inl (fun _ => 0))), (q_5, .inl (cA_6, 80, .inl (fun _ => 0))), (q_9, .inl (cA_10, 80, .inl (fun _ => 0)))] := hD
  refine va_putF (D := (dC, dI)) (ci := 12) (v := .ref q_9) (ty := .array .int) (C := RX12) (T := TX12) (N := 70) hx hb hts hiX12 tyX12 tyX12_ok nmX12 hown hK hP hD hS 0 rfl rfl 6 (by decide) w__fieldLink_RX12_16_ShellHeapModel_noteA_I_ (fun _ h9 => h9) rfl hin rfl (by decide +kernel) rfl rfl (Nat.le_of_ble_eq_true rfl) dX12_init_26 ?_
  clear hP hD hS
  intro H_12 locs hP hD hS
  have h9 := z_s_0_6 hP hD
  clear hP hD
  obtain ⟨hP, hD⟩ := h9
  refine lv_aload_n hx hb dX12_init_29 rfl (lv_at hl 0 rfl) ?_
  refine lv_bipush (v := 80) hx hb dX12_init_30 (by decide) ?_
  refine va_newa (atype := .int) (ty := .int) (N' := 80) (a0 := (80, .inl (fun _ => 0))) hx hb w__arrayClass_int rfl hK hP hD hS hA (z_newI 80) (by decide) (by decide) (by decide) (Nat.le_of_ble_eq_true rfl) (Nat.le_of_ble_eq_true rfl) dX12_init_32 ?_
  clear hK hP hD hS
  intro q_13 cA_14 H_15 hK hP hD hS
  replace hK : va_K (dC, dI) vwCl [(cA_2, .int), (cA_6, .int), (cA_10, .int), (cA_14, .int)] s := hK
  replace hP : va_P (dC, dI) vwCl [(h0, .inr (12, [.ref q_1, .int 0, .int 0, .int 0, .int 0, .ref q_5, .ref q_9, .null, .null, .null, .null, .null, .null, .null, .null, .null, .int 0, .int 0, .int 0, .int 0, .null, .null, .null, .int 0, .null, .null, .null, .null, .int 0, .int 0, .int 0, .int 0, .int 0, .int 0, .int 0, .null, .null, .null, .null, .long 0, .int 0, .null, .null, .null, .int 0, .int 0, .int 0, .int 0, .null, .null, .null, .null, .null, .null, .null, .null, .null, .null, .int 0, .null, .null, .int 0, .null, .int 0, .null, .int 0, .int 0, .int 0, .int 0, .null])), (q_1, .inl (cA_2, 700, .inl (fun _ => 0))), (q_5, .inl (cA_6, 80, .inl (fun _ => 0))), (q_9, .inl (cA_10, 80, .inl (fun _ => 0))), (q_13, .inl (cA_14, 80, .inl (fun _ => 0)))] H_15 := hP
  replace hD : va_D A [(h0, .inr (12, [.ref q_1, .int 0, .int 0, .int 0, .int 0, .ref q_5, .ref q_9, .null, .null, .null, .null, .null, .null, .null, .null, .null, .int 0, .int 0, .int 0, .int 0, .null, .null, .null, .int 0, .null, .null, .null, .null, .int 0, .int 0, .int 0, .int 0, .int 0, .int 0, .int 0, .null, .null, .null, .null, .long 0, .int 0, .null, .null, .null, .int 0, .int 0, .int 0, .int 0, .null, .null, .null, .null, .null, .null, .null, .null, .null, .null, .int 0, .null, .null, .int 0, .null, .int 0, .null, .int 0, .int 0, .int 0, .int 0, .null])), (q_1, .inl (cA_2, 700, .inl (fun _ => 0))), (q_5, .inl (cA_6, 80, .inl (fun _ => 0))), (q_9, .inl (cA_10, 80, .inl (fun _ => 0))), (q_13, .inl (cA_14, 80, .inl (fun _ => 0)))] := hD
  refine va_putF (D := (dC, dI)) (ci := 12) (v := .ref q_13) (ty := .array .int) (C := RX12) (T := TX12) (N := 70) hx hb hts hiX12 tyX12 tyX12_ok nmX12 hown hK hP hD hS 0 rfl rfl 7 (by decide) w__fieldLink_RX12_19_ShellHeapModel_noteB_I_ (fun _ h9 => h9) rfl hin rfl (by decide +kernel) rfl rfl (Nat.le_of_ble_eq_true rfl) dX12_init_34 ?_
  clear hP hD hS
  intro H_16 locs hP hD hS
  have h9 := z_s_0_7 hP hD
  clear hP hD
  obtain ⟨hP, hD⟩ := h9
  refine lv_aload_n hx hb dX12_init_37 rfl (lv_at hl 0 rfl) ?_
  refine lv_bipush (v := 80) hx hb dX12_init_38 (by decide) ?_
  refine va_newa (atype := .int) (ty := .int) (N' := 80) (a0 := (80, .inl (fun _ => 0))) hx hb w__arrayClass_int rfl hK hP hD hS hA (z_newI 80) (by decide) (by decide) (by decide) (Nat.le_of_ble_eq_true rfl) (Nat.le_of_ble_eq_true rfl) dX12_init_40 ?_
  clear hK hP hD hS
  intro q_17 cA_18 H_19 hK hP hD hS
  replace hK : va_K (dC, dI) vwCl [(cA_2, .int), (cA_6, .int), (cA_10, .int), (cA_14, .int), (cA_18, .int)] s := hK
  replace hP : va_P (dC, dI) vwCl [(h0, .inr (12, [.ref q_1, .int 0, .int 0, .int 0, .int 0, .ref q_5, .ref q_9, .ref q_13, .null, .null, .null, .null, .null, .null, .null, .null, .int 0, .int 0, .int 0, .int 0, .null, .null, .null, .int 0, .null, .null, .null, .null, .int 0, .int 0, .int 0, .int 0, .int 0, .int 0, .int 0, .null, .null, .null, .null, .long 0, .int 0, .null, .null, .null, .int 0, .int 0, .int 0, .int 0, .null, .null, .null, .null, .null, .null, .null, .null, .null, .null, .int 0, .null, .null, .int 0, .null, .int 0, .null, .int 0, .int 0, .int 0, .int 0, .null])), (q_1, .inl (cA_2, 700, .inl (fun _ => 0))), (q_5, .inl (cA_6, 80, .inl (fun _ => 0))), (q_9, .inl (cA_10, 80, .inl (fun _ => 0))), (q_13, .inl (cA_14, 80, .inl (fun _ => 0))), (q_17, .inl (cA_18, 80, .inl (fun _ => 0)))] H_19 := hP
  replace hD : va_D A [(h0, .inr (12, [.ref q_1, .int 0, .int 0, .int 0, .int 0, .ref q_5, .ref q_9, .ref q_13, .null, .null, .null, .null, .null, .null, .null, .null, .int 0, .int 0, .int 0, .int 0, .null, .null, .null, .int 0, .null, .null, .null, .null, .int 0, .int 0, .int 0, .int 0, .int 0, .int 0, .int 0, .null, .null, .null, .null, .long 0, .int 0, .null, .null, .null, .int 0, .int 0, .int 0, .int 0, .null, .null, .null, .null, .null, .null, .null, .null, .null, .null, .int 0, .null, .null, .int 0, .null, .int 0, .null, .int 0, .int 0, .int 0, .int 0, .null])), (q_1, .inl (cA_2, 700, .inl (fun _ => 0))), (q_5, .inl (cA_6, 80, .inl (fun _ => 0))), (q_9, .inl (cA_10, 80, .inl (fun _ => 0))), (q_13, .inl (cA_14, 80, .inl (fun _ => 0))), (q_17, .inl (cA_18, 80, .inl (fun _ => 0)))] := hD
  refine va_putF (D := (dC, dI)) (ci := 12) (v := .ref q_17) (ty := .array .int) (C := RX12) (T := TX12) (N := 70) hx hb hts hiX12 tyX12 tyX12_ok nmX12 hown hK hP hD hS 0 rfl rfl 8 (by decide) w__fieldLink_RX12_22_ShellHeapModel_noteC_I_ (fun _ h9 => h9) rfl hin rfl (by decide +kernel) rfl rfl (Nat.le_of_ble_eq_true rfl) dX12_init_42 ?_
  clear hP hD hS
  intro H_20 locs hP hD hS
  have h9 := z_s_0_8 hP hD
  clear hP hD
  obtain ⟨hP, hD⟩ := h9
  refine lv_aload_n hx hb dX12_init_45 rfl (lv_at hl 0 rfl) ?_
  refine lv_bipush (v := 80) hx hb dX12_init_46 (by decide) ?_
  refine va_newa (atype := .boolean) (ty := .boolean) (N' := 80) (a0 := (80, .inl (fun _ => 0))) hx hb w__arrayClass_boolean rfl hK hP hD hS hA (z_newZ 80) (by decide) (by decide) (by decide) (Nat.le_of_ble_eq_true rfl) (Nat.le_of_ble_eq_true rfl) dX12_init_48 ?_
  clear hK hP hD hS
  intro q_21 cA_22 H_23 hK hP hD hS
  replace hK : va_K (dC, dI) vwCl [(cA_2, .int), (cA_6, .int), (cA_10, .int), (cA_14, .int), (cA_18, .int), (cA_22, .boolean)] s := hK
  replace hP : va_P (dC, dI) vwCl [(h0, .inr (12, [.ref q_1, .int 0, .int 0, .int 0, .int 0, .ref q_5, .ref q_9, .ref q_13, .ref q_17, .null, .null, .null, .null, .null, .null, .null, .int 0, .int 0, .int 0, .int 0, .null, .null, .null, .int 0, .null, .null, .null, .null, .int 0, .int 0, .int 0, .int 0, .int 0, .int 0, .int 0, .null, .null, .null, .null, .long 0, .int 0, .null, .null, .null, .int 0, .int 0, .int 0, .int 0, .null, .null, .null, .null, .null, .null, .null, .null, .null, .null, .int 0, .null, .null, .int 0, .null, .int 0, .null, .int 0, .int 0, .int 0, .int 0, .null])), (q_1, .inl (cA_2, 700, .inl (fun _ => 0))), (q_5, .inl (cA_6, 80, .inl (fun _ => 0))), (q_9, .inl (cA_10, 80, .inl (fun _ => 0))), (q_13, .inl (cA_14, 80, .inl (fun _ => 0))), (q_17, .inl (cA_18, 80, .inl (fun _ => 0))), (q_21, .inl (cA_22, 80, .inl (fun _ => 0)))] H_23 := hP
  replace hD : va_D A [(h0, .inr (12, [.ref q_1, .int 0, .int 0, .int 0, .int 0, .ref q_5, .ref q_9, .ref q_13, .ref q_17, .null, .null, .null, .null, .null, .null, .null, .int 0, .int 0, .int 0, .int 0, .null, .null, .null, .int 0, .null, .null, .null, .null, .int 0, .int 0, .int 0, .int 0, .int 0, .int 0, .int 0, .null, .null, .null, .null, .long 0, .int 0, .null, .null, .null, .int 0, .int 0, .int 0, .int 0, .null, .null, .null, .null, .null, .null, .null, .null, .null, .null, .int 0, .null, .null, .int 0, .null, .int 0, .null, .int 0, .int 0, .int 0, .int 0, .null])), (q_1, .inl (cA_2, 700, .inl (fun _ => 0))), (q_5, .inl (cA_6, 80, .inl (fun _ => 0))), (q_9, .inl (cA_10, 80, .inl (fun _ => 0))), (q_13, .inl (cA_14, 80, .inl (fun _ => 0))), (q_17, .inl (cA_18, 80, .inl (fun _ => 0))), (q_21, .inl (cA_22, 80, .inl (fun _ => 0)))] := hD
  refine va_putF (D := (dC, dI)) (ci := 12) (v := .ref q_21) (ty := .array .boolean) (C := RX12) (T := TX12) (N := 70) hx hb hts hiX12 tyX12 tyX12_ok nmX12 hown hK hP hD hS 0 rfl rfl 9 (by decide) w__fieldLink_RX12_25_ShellHeapModel_counts_Z_ (fun _ h9 => h9) rfl hin rfl (by decide +kernel) rfl rfl (Nat.le_of_ble_eq_true rfl) dX12_init_50 ?_
  clear hP hD hS
  intro H_24 locs hP hD hS
  have h9 := z_s_0_9 hP hD
  clear hP hD
  obtain ⟨hP, hD⟩ := h9
  refine lv_aload_n hx hb dX12_init_53 rfl (lv_at hl 0 rfl) ?_
  refine lv_sipush (v := 11520) hx hb dX12_init_54 (by decide) ?_
  refine va_newa (atype := .int) (ty := .int) (N' := 11520) (a0 := (11520, .inl (fun _ => 0))) hx hb w__arrayClass_int rfl hK hP hD hS hA (z_newI 11520) (by decide) (by decide) (by decide) (Nat.le_of_ble_eq_true rfl) (Nat.le_of_ble_eq_true rfl) dX12_init_57 ?_
  clear hK hP hD hS
  intro q_25 cA_26 H_27 hK hP hD hS
  replace hK : va_K (dC, dI) vwCl [(cA_2, .int), (cA_6, .int), (cA_10, .int), (cA_14, .int), (cA_18, .int), (cA_22, .boolean), (cA_26, .int)] s := hK
  replace hP : va_P (dC, dI) vwCl [(h0, .inr (12, [.ref q_1, .int 0, .int 0, .int 0, .int 0, .ref q_5, .ref q_9, .ref q_13, .ref q_17, .ref q_21, .null, .null, .null, .null, .null, .null, .int 0, .int 0, .int 0, .int 0, .null, .null, .null, .int 0, .null, .null, .null, .null, .int 0, .int 0, .int 0, .int 0, .int 0, .int 0, .int 0, .null, .null, .null, .null, .long 0, .int 0, .null, .null, .null, .int 0, .int 0, .int 0, .int 0, .null, .null, .null, .null, .null, .null, .null, .null, .null, .null, .int 0, .null, .null, .int 0, .null, .int 0, .null, .int 0, .int 0, .int 0, .int 0, .null])), (q_1, .inl (cA_2, 700, .inl (fun _ => 0))), (q_5, .inl (cA_6, 80, .inl (fun _ => 0))), (q_9, .inl (cA_10, 80, .inl (fun _ => 0))), (q_13, .inl (cA_14, 80, .inl (fun _ => 0))), (q_17, .inl (cA_18, 80, .inl (fun _ => 0))), (q_21, .inl (cA_22, 80, .inl (fun _ => 0))), (q_25, .inl (cA_26, 11520, .inl (fun _ => 0)))] H_27 := hP
  replace hD : va_D A [(h0, .inr (12, [.ref q_1, .int 0, .int 0, .int 0, .int 0, .ref q_5, .ref q_9, .ref q_13, .ref q_17, .ref q_21, .null, .null, .null, .null, .null, .null, .int 0, .int 0, .int 0, .int 0, .null, .null, .null, .int 0, .null, .null, .null, .null, .int 0, .int 0, .int 0, .int 0, .int 0, .int 0, .int 0, .null, .null, .null, .null, .long 0, .int 0, .null, .null, .null, .int 0, .int 0, .int 0, .int 0, .null, .null, .null, .null, .null, .null, .null, .null, .null, .null, .int 0, .null, .null, .int 0, .null, .int 0, .null, .int 0, .int 0, .int 0, .int 0, .null])), (q_1, .inl (cA_2, 700, .inl (fun _ => 0))), (q_5, .inl (cA_6, 80, .inl (fun _ => 0))), (q_9, .inl (cA_10, 80, .inl (fun _ => 0))), (q_13, .inl (cA_14, 80, .inl (fun _ => 0))), (q_17, .inl (cA_18, 80, .inl (fun _ => 0))), (q_21, .inl (cA_22, 80, .inl (fun _ => 0))), (q_25, .inl (cA_26, 11520, .inl (fun _ => 0)))] := hD
  refine va_putF (D := (dC, dI)) (ci := 12) (v := .ref q_25) (ty := .array .int) (C := RX12) (T := TX12) (N := 70) hx hb hts hiX12 tyX12 tyX12_ok nmX12 hown hK hP hD hS 0 rfl rfl 10 (by decide) w__fieldLink_RX12_29_ShellHeapModel_found_I_ (fun _ h9 => h9) rfl hin rfl (by decide +kernel) rfl rfl (Nat.le_of_ble_eq_true rfl) dX12_init_59 ?_
  clear hP hD hS
  intro H_28 locs hP hD hS
  have h9 := z_s_0_10 hP hD
  clear hP hD
  obtain ⟨hP, hD⟩ := h9
  refine lv_aload_n hx hb dX12_init_62 rfl (lv_at hl 0 rfl) ?_
  refine lv_bipush (v := 12) hx hb dX12_init_63 (by decide) ?_
  refine va_newa (atype := .int) (ty := .int) (N' := 12) (a0 := (12, .inl (fun _ => 0))) hx hb w__arrayClass_int rfl hK hP hD hS hA (z_newI 12) (by decide) (by decide) (by decide) (Nat.le_of_ble_eq_true rfl) (Nat.le_of_ble_eq_true rfl) dX12_init_65 ?_
  clear hK hP hD hS
  intro q_29 cA_30 H_31 hK hP hD hS
  replace hK : va_K (dC, dI) vwCl [(cA_2, .int), (cA_6, .int), (cA_10, .int), (cA_14, .int), (cA_18, .int), (cA_22, .boolean), (cA_26, .int), (cA_30, .int)] s := hK
  replace hP : va_P (dC, dI) vwCl [(h0, .inr (12, [.ref q_1, .int 0, .int 0, .int 0, .int 0, .ref q_5, .ref q_9, .ref q_13, .ref q_17, .ref q_21, .ref q_25, .null, .null, .null, .null, .null, .int 0, .int 0, .int 0, .int 0, .null, .null, .null, .int 0, .null, .null, .null, .null, .int 0, .int 0, .int 0, .int 0, .int 0, .int 0, .int 0, .null, .null, .null, .null, .long 0, .int 0, .null, .null, .null, .int 0, .int 0, .int 0, .int 0, .null, .null, .null, .null, .null, .null, .null, .null, .null, .null, .int 0, .null, .null, .int 0, .null, .int 0, .null, .int 0, .int 0, .int 0, .int 0, .null])), (q_1, .inl (cA_2, 700, .inl (fun _ => 0))), (q_5, .inl (cA_6, 80, .inl (fun _ => 0))), (q_9, .inl (cA_10, 80, .inl (fun _ => 0))), (q_13, .inl (cA_14, 80, .inl (fun _ => 0))), (q_17, .inl (cA_18, 80, .inl (fun _ => 0))), (q_21, .inl (cA_22, 80, .inl (fun _ => 0))), (q_25, .inl (cA_26, 11520, .inl (fun _ => 0))), (q_29, .inl (cA_30, 12, .inl (fun _ => 0)))] H_31 := hP
  replace hD : va_D A [(h0, .inr (12, [.ref q_1, .int 0, .int 0, .int 0, .int 0, .ref q_5, .ref q_9, .ref q_13, .ref q_17, .ref q_21, .ref q_25, .null, .null, .null, .null, .null, .int 0, .int 0, .int 0, .int 0, .null, .null, .null, .int 0, .null, .null, .null, .null, .int 0, .int 0, .int 0, .int 0, .int 0, .int 0, .int 0, .null, .null, .null, .null, .long 0, .int 0, .null, .null, .null, .int 0, .int 0, .int 0, .int 0, .null, .null, .null, .null, .null, .null, .null, .null, .null, .null, .int 0, .null, .null, .int 0, .null, .int 0, .null, .int 0, .int 0, .int 0, .int 0, .null])), (q_1, .inl (cA_2, 700, .inl (fun _ => 0))), (q_5, .inl (cA_6, 80, .inl (fun _ => 0))), (q_9, .inl (cA_10, 80, .inl (fun _ => 0))), (q_13, .inl (cA_14, 80, .inl (fun _ => 0))), (q_17, .inl (cA_18, 80, .inl (fun _ => 0))), (q_21, .inl (cA_22, 80, .inl (fun _ => 0))), (q_25, .inl (cA_26, 11520, .inl (fun _ => 0))), (q_29, .inl (cA_30, 12, .inl (fun _ => 0)))] := hD
  refine va_putF (D := (dC, dI)) (ci := 12) (v := .ref q_29) (ty := .array .int) (C := RX12) (T := TX12) (N := 70) hx hb hts hiX12 tyX12 tyX12_ok nmX12 hown hK hP hD hS 0 rfl rfl 11 (by decide) w__fieldLink_RX12_32_ShellHeapModel_bedOf_I_ (fun _ h9 => h9) rfl hin rfl (by decide +kernel) rfl rfl (Nat.le_of_ble_eq_true rfl) dX12_init_67 ?_
  clear hP hD hS
  intro H_32 locs hP hD hS
  have h9 := z_s_0_11 hP hD
  clear hP hD
  obtain ⟨hP, hD⟩ := h9
  refine lv_aload_n hx hb dX12_init_70 rfl (lv_at hl 0 rfl) ?_
  refine lv_sipush (v := 144) hx hb dX12_init_71 (by decide) ?_
  refine va_newa (atype := .boolean) (ty := .boolean) (N' := 144) (a0 := (144, .inl (fun _ => 0))) hx hb w__arrayClass_boolean rfl hK hP hD hS hA (z_newZ 144) (by decide) (by decide) (by decide) (Nat.le_of_ble_eq_true rfl) (Nat.le_of_ble_eq_true rfl) dX12_init_74 ?_
  clear hK hP hD hS
  intro q_33 cA_34 H_35 hK hP hD hS
  replace hK : va_K (dC, dI) vwCl [(cA_2, .int), (cA_6, .int), (cA_10, .int), (cA_14, .int), (cA_18, .int), (cA_22, .boolean), (cA_26, .int), (cA_30, .int), (cA_34, .boolean)] s := hK
  replace hP : va_P (dC, dI) vwCl [(h0, .inr (12, [.ref q_1, .int 0, .int 0, .int 0, .int 0, .ref q_5, .ref q_9, .ref q_13, .ref q_17, .ref q_21, .ref q_25, .ref q_29, .null, .null, .null, .null, .int 0, .int 0, .int 0, .int 0, .null, .null, .null, .int 0, .null, .null, .null, .null, .int 0, .int 0, .int 0, .int 0, .int 0, .int 0, .int 0, .null, .null, .null, .null, .long 0, .int 0, .null, .null, .null, .int 0, .int 0, .int 0, .int 0, .null, .null, .null, .null, .null, .null, .null, .null, .null, .null, .int 0, .null, .null, .int 0, .null, .int 0, .null, .int 0, .int 0, .int 0, .int 0, .null])), (q_1, .inl (cA_2, 700, .inl (fun _ => 0))), (q_5, .inl (cA_6, 80, .inl (fun _ => 0))), (q_9, .inl (cA_10, 80, .inl (fun _ => 0))), (q_13, .inl (cA_14, 80, .inl (fun _ => 0))), (q_17, .inl (cA_18, 80, .inl (fun _ => 0))), (q_21, .inl (cA_22, 80, .inl (fun _ => 0))), (q_25, .inl (cA_26, 11520, .inl (fun _ => 0))), (q_29, .inl (cA_30, 12, .inl (fun _ => 0))), (q_33, .inl (cA_34, 144, .inl (fun _ => 0)))] H_35 := hP
  replace hD : va_D A [(h0, .inr (12, [.ref q_1, .int 0, .int 0, .int 0, .int 0, .ref q_5, .ref q_9, .ref q_13, .ref q_17, .ref q_21, .ref q_25, .ref q_29, .null, .null, .null, .null, .int 0, .int 0, .int 0, .int 0, .null, .null, .null, .int 0, .null, .null, .null, .null, .int 0, .int 0, .int 0, .int 0, .int 0, .int 0, .int 0, .null, .null, .null, .null, .long 0, .int 0, .null, .null, .null, .int 0, .int 0, .int 0, .int 0, .null, .null, .null, .null, .null, .null, .null, .null, .null, .null, .int 0, .null, .null, .int 0, .null, .int 0, .null, .int 0, .int 0, .int 0, .int 0, .null])), (q_1, .inl (cA_2, 700, .inl (fun _ => 0))), (q_5, .inl (cA_6, 80, .inl (fun _ => 0))), (q_9, .inl (cA_10, 80, .inl (fun _ => 0))), (q_13, .inl (cA_14, 80, .inl (fun _ => 0))), (q_17, .inl (cA_18, 80, .inl (fun _ => 0))), (q_21, .inl (cA_22, 80, .inl (fun _ => 0))), (q_25, .inl (cA_26, 11520, .inl (fun _ => 0))), (q_29, .inl (cA_30, 12, .inl (fun _ => 0))), (q_33, .inl (cA_34, 144, .inl (fun _ => 0)))] := hD
  refine va_putF (D := (dC, dI)) (ci := 12) (v := .ref q_33) (ty := .array .boolean) (C := RX12) (T := TX12) (N := 70) hx hb hts hiX12 tyX12 tyX12_ok nmX12 hown hK hP hD hS 0 rfl rfl 12 (by decide) w__fieldLink_RX12_35_ShellHeapModel_later_Z_ (fun _ h9 => h9) rfl hin rfl (by decide +kernel) rfl rfl (Nat.le_of_ble_eq_true rfl) dX12_init_76 ?_
  clear hP hD hS
  intro H_36 locs hP hD hS
  have h9 := z_s_0_12 hP hD
  clear hP hD
  obtain ⟨hP, hD⟩ := h9
  refine lv_aload_n hx hb dX12_init_79 rfl (lv_at hl 0 rfl) ?_
  refine lv_bipush (v := 12) hx hb dX12_init_80 (by decide) ?_
  refine va_newa (atype := .int) (ty := .int) (N' := 12) (a0 := (12, .inl (fun _ => 0))) hx hb w__arrayClass_int rfl hK hP hD hS hA (z_newI 12) (by decide) (by decide) (by decide) (Nat.le_of_ble_eq_true rfl) (Nat.le_of_ble_eq_true rfl) dX12_init_82 ?_
  clear hK hP hD hS
  intro q_37 cA_38 H_39 hK hP hD hS
  replace hK : va_K (dC, dI) vwCl [(cA_2, .int), (cA_6, .int), (cA_10, .int), (cA_14, .int), (cA_18, .int), (cA_22, .boolean), (cA_26, .int), (cA_30, .int), (cA_34, .boolean), (cA_38, .int)] s := hK
  replace hP : va_P (dC, dI) vwCl [(h0, .inr (12, [.ref q_1, .int 0, .int 0, .int 0, .int 0, .ref q_5, .ref q_9, .ref q_13, .ref q_17, .ref q_21, .ref q_25, .ref q_29, .ref q_33, .null, .null, .null, .int 0, .int 0, .int 0, .int 0, .null, .null, .null, .int 0, .null, .null, .null, .null, .int 0, .int 0, .int 0, .int 0, .int 0, .int 0, .int 0, .null, .null, .null, .null, .long 0, .int 0, .null, .null, .null, .int 0, .int 0, .int 0, .int 0, .null, .null, .null, .null, .null, .null, .null, .null, .null, .null, .int 0, .null, .null, .int 0, .null, .int 0, .null, .int 0, .int 0, .int 0, .int 0, .null])), (q_1, .inl (cA_2, 700, .inl (fun _ => 0))), (q_5, .inl (cA_6, 80, .inl (fun _ => 0))), (q_9, .inl (cA_10, 80, .inl (fun _ => 0))), (q_13, .inl (cA_14, 80, .inl (fun _ => 0))), (q_17, .inl (cA_18, 80, .inl (fun _ => 0))), (q_21, .inl (cA_22, 80, .inl (fun _ => 0))), (q_25, .inl (cA_26, 11520, .inl (fun _ => 0))), (q_29, .inl (cA_30, 12, .inl (fun _ => 0))), (q_33, .inl (cA_34, 144, .inl (fun _ => 0))), (q_37, .inl (cA_38, 12, .inl (fun _ => 0)))] H_39 := hP
  replace hD : va_D A [(h0, .inr (12, [.ref q_1, .int 0, .int 0, .int 0, .int 0, .ref q_5, .ref q_9, .ref q_13, .ref q_17, .ref q_21, .ref q_25, .ref q_29, .ref q_33, .null, .null, .null, .int 0, .int 0, .int 0, .int 0, .null, .null, .null, .int 0, .null, .null, .null, .null, .int 0, .int 0, .int 0, .int 0, .int 0, .int 0, .int 0, .null, .null, .null, .null, .long 0, .int 0, .null, .null, .null, .int 0, .int 0, .int 0, .int 0, .null, .null, .null, .null, .null, .null, .null, .null, .null, .null, .int 0, .null, .null, .int 0, .null, .int 0, .null, .int 0, .int 0, .int 0, .int 0, .null])), (q_1, .inl (cA_2, 700, .inl (fun _ => 0))), (q_5, .inl (cA_6, 80, .inl (fun _ => 0))), (q_9, .inl (cA_10, 80, .inl (fun _ => 0))), (q_13, .inl (cA_14, 80, .inl (fun _ => 0))), (q_17, .inl (cA_18, 80, .inl (fun _ => 0))), (q_21, .inl (cA_22, 80, .inl (fun _ => 0))), (q_25, .inl (cA_26, 11520, .inl (fun _ => 0))), (q_29, .inl (cA_30, 12, .inl (fun _ => 0))), (q_33, .inl (cA_34, 144, .inl (fun _ => 0))), (q_37, .inl (cA_38, 12, .inl (fun _ => 0)))] := hD
  refine va_putF (D := (dC, dI)) (ci := 12) (v := .ref q_37) (ty := .array .int) (C := RX12) (T := TX12) (N := 70) hx hb hts hiX12 tyX12 tyX12_ok nmX12 hown hK hP hD hS 0 rfl rfl 13 (by decide) w__fieldLink_RX12_38_ShellHeapModel_rank_I_ (fun _ h9 => h9) rfl hin rfl (by decide +kernel) rfl rfl (Nat.le_of_ble_eq_true rfl) dX12_init_84 ?_
  clear hP hD hS
  intro H_40 locs hP hD hS
  have h9 := z_s_0_13 hP hD
  clear hP hD
  obtain ⟨hP, hD⟩ := h9
  refine lv_aload_n hx hb dX12_init_87 rfl (lv_at hl 0 rfl) ?_
  refine lv_bipush (v := 12) hx hb dX12_init_88 (by decide) ?_
  refine va_newa (atype := .int) (ty := .int) (N' := 12) (a0 := (12, .inl (fun _ => 0))) hx hb w__arrayClass_int rfl hK hP hD hS hA (z_newI 12) (by decide) (by decide) (by decide) (Nat.le_of_ble_eq_true rfl) (Nat.le_of_ble_eq_true rfl) dX12_init_90 ?_
  clear hK hP hD hS
  intro q_41 cA_42 H_43 hK hP hD hS
  replace hK : va_K (dC, dI) vwCl [(cA_2, .int), (cA_6, .int), (cA_10, .int), (cA_14, .int), (cA_18, .int), (cA_22, .boolean), (cA_26, .int), (cA_30, .int), (cA_34, .boolean), (cA_38, .int), (cA_42, .int)] s := hK
  replace hP : va_P (dC, dI) vwCl [(h0, .inr (12, [.ref q_1, .int 0, .int 0, .int 0, .int 0, .ref q_5, .ref q_9, .ref q_13, .ref q_17, .ref q_21, .ref q_25, .ref q_29, .ref q_33, .ref q_37, .null, .null, .int 0, .int 0, .int 0, .int 0, .null, .null, .null, .int 0, .null, .null, .null, .null, .int 0, .int 0, .int 0, .int 0, .int 0, .int 0, .int 0, .null, .null, .null, .null, .long 0, .int 0, .null, .null, .null, .int 0, .int 0, .int 0, .int 0, .null, .null, .null, .null, .null, .null, .null, .null, .null, .null, .int 0, .null, .null, .int 0, .null, .int 0, .null, .int 0, .int 0, .int 0, .int 0, .null])), (q_1, .inl (cA_2, 700, .inl (fun _ => 0))), (q_5, .inl (cA_6, 80, .inl (fun _ => 0))), (q_9, .inl (cA_10, 80, .inl (fun _ => 0))), (q_13, .inl (cA_14, 80, .inl (fun _ => 0))), (q_17, .inl (cA_18, 80, .inl (fun _ => 0))), (q_21, .inl (cA_22, 80, .inl (fun _ => 0))), (q_25, .inl (cA_26, 11520, .inl (fun _ => 0))), (q_29, .inl (cA_30, 12, .inl (fun _ => 0))), (q_33, .inl (cA_34, 144, .inl (fun _ => 0))), (q_37, .inl (cA_38, 12, .inl (fun _ => 0))), (q_41, .inl (cA_42, 12, .inl (fun _ => 0)))] H_43 := hP
  replace hD : va_D A [(h0, .inr (12, [.ref q_1, .int 0, .int 0, .int 0, .int 0, .ref q_5, .ref q_9, .ref q_13, .ref q_17, .ref q_21, .ref q_25, .ref q_29, .ref q_33, .ref q_37, .null, .null, .int 0, .int 0, .int 0, .int 0, .null, .null, .null, .int 0, .null, .null, .null, .null, .int 0, .int 0, .int 0, .int 0, .int 0, .int 0, .int 0, .null, .null, .null, .null, .long 0, .int 0, .null, .null, .null, .int 0, .int 0, .int 0, .int 0, .null, .null, .null, .null, .null, .null, .null, .null, .null, .null, .int 0, .null, .null, .int 0, .null, .int 0, .null, .int 0, .int 0, .int 0, .int 0, .null])), (q_1, .inl (cA_2, 700, .inl (fun _ => 0))), (q_5, .inl (cA_6, 80, .inl (fun _ => 0))), (q_9, .inl (cA_10, 80, .inl (fun _ => 0))), (q_13, .inl (cA_14, 80, .inl (fun _ => 0))), (q_17, .inl (cA_18, 80, .inl (fun _ => 0))), (q_21, .inl (cA_22, 80, .inl (fun _ => 0))), (q_25, .inl (cA_26, 11520, .inl (fun _ => 0))), (q_29, .inl (cA_30, 12, .inl (fun _ => 0))), (q_33, .inl (cA_34, 144, .inl (fun _ => 0))), (q_37, .inl (cA_38, 12, .inl (fun _ => 0))), (q_41, .inl (cA_42, 12, .inl (fun _ => 0)))] := hD
  refine va_putF (D := (dC, dI)) (ci := 12) (v := .ref q_41) (ty := .array .int) (C := RX12) (T := TX12) (N := 70) hx hb hts hiX12 tyX12 tyX12_ok nmX12 hown hK hP hD hS 0 rfl rfl 14 (by decide) w__fieldLink_RX12_41_ShellHeapModel_first_I_ (fun _ h9 => h9) rfl hin rfl (by decide +kernel) rfl rfl (Nat.le_of_ble_eq_true rfl) dX12_init_92 ?_
  clear hP hD hS
  intro H_44 locs hP hD hS
  have h9 := z_s_0_14 hP hD
  clear hP hD
  obtain ⟨hP, hD⟩ := h9
  refine lv_aload_n hx hb dX12_init_95 rfl (lv_at hl 0 rfl) ?_
  refine lv_bipush (v := 12) hx hb dX12_init_96 (by decide) ?_
  refine va_newa (atype := .int) (ty := .int) (N' := 12) (a0 := (12, .inl (fun _ => 0))) hx hb w__arrayClass_int rfl hK hP hD hS hA (z_newI 12) (by decide) (by decide) (by decide) (Nat.le_of_ble_eq_true rfl) (Nat.le_of_ble_eq_true rfl) dX12_init_98 ?_
  clear hK hP hD hS
  intro q_45 cA_46 H_47 hK hP hD hS
  replace hK : va_K (dC, dI) vwCl [(cA_2, .int), (cA_6, .int), (cA_10, .int), (cA_14, .int), (cA_18, .int), (cA_22, .boolean), (cA_26, .int), (cA_30, .int), (cA_34, .boolean), (cA_38, .int), (cA_42, .int), (cA_46, .int)] s := hK
  replace hP : va_P (dC, dI) vwCl [(h0, .inr (12, [.ref q_1, .int 0, .int 0, .int 0, .int 0, .ref q_5, .ref q_9, .ref q_13, .ref q_17, .ref q_21, .ref q_25, .ref q_29, .ref q_33, .ref q_37, .ref q_41, .null, .int 0, .int 0, .int 0, .int 0, .null, .null, .null, .int 0, .null, .null, .null, .null, .int 0, .int 0, .int 0, .int 0, .int 0, .int 0, .int 0, .null, .null, .null, .null, .long 0, .int 0, .null, .null, .null, .int 0, .int 0, .int 0, .int 0, .null, .null, .null, .null, .null, .null, .null, .null, .null, .null, .int 0, .null, .null, .int 0, .null, .int 0, .null, .int 0, .int 0, .int 0, .int 0, .null])), (q_1, .inl (cA_2, 700, .inl (fun _ => 0))), (q_5, .inl (cA_6, 80, .inl (fun _ => 0))), (q_9, .inl (cA_10, 80, .inl (fun _ => 0))), (q_13, .inl (cA_14, 80, .inl (fun _ => 0))), (q_17, .inl (cA_18, 80, .inl (fun _ => 0))), (q_21, .inl (cA_22, 80, .inl (fun _ => 0))), (q_25, .inl (cA_26, 11520, .inl (fun _ => 0))), (q_29, .inl (cA_30, 12, .inl (fun _ => 0))), (q_33, .inl (cA_34, 144, .inl (fun _ => 0))), (q_37, .inl (cA_38, 12, .inl (fun _ => 0))), (q_41, .inl (cA_42, 12, .inl (fun _ => 0))), (q_45, .inl (cA_46, 12, .inl (fun _ => 0)))] H_47 := hP
  replace hD : va_D A [(h0, .inr (12, [.ref q_1, .int 0, .int 0, .int 0, .int 0, .ref q_5, .ref q_9, .ref q_13, .ref q_17, .ref q_21, .ref q_25, .ref q_29, .ref q_33, .ref q_37, .ref q_41, .null, .int 0, .int 0, .int 0, .int 0, .null, .null, .null, .int 0, .null, .null, .null, .null, .int 0, .int 0, .int 0, .int 0, .int 0, .int 0, .int 0, .null, .null, .null, .null, .long 0, .int 0, .null, .null, .null, .int 0, .int 0, .int 0, .int 0, .null, .null, .null, .null, .null, .null, .null, .null, .null, .null, .int 0, .null, .null, .int 0, .null, .int 0, .null, .int 0, .int 0, .int 0, .int 0, .null])), (q_1, .inl (cA_2, 700, .inl (fun _ => 0))), (q_5, .inl (cA_6, 80, .inl (fun _ => 0))), (q_9, .inl (cA_10, 80, .inl (fun _ => 0))), (q_13, .inl (cA_14, 80, .inl (fun _ => 0))), (q_17, .inl (cA_18, 80, .inl (fun _ => 0))), (q_21, .inl (cA_22, 80, .inl (fun _ => 0))), (q_25, .inl (cA_26, 11520, .inl (fun _ => 0))), (q_29, .inl (cA_30, 12, .inl (fun _ => 0))), (q_33, .inl (cA_34, 144, .inl (fun _ => 0))), (q_37, .inl (cA_38, 12, .inl (fun _ => 0))), (q_41, .inl (cA_42, 12, .inl (fun _ => 0))), (q_45, .inl (cA_46, 12, .inl (fun _ => 0)))] := hD
  refine va_putF (D := (dC, dI)) (ci := 12) (v := .ref q_45) (ty := .array .int) (C := RX12) (T := TX12) (N := 70) hx hb hts hiX12 tyX12 tyX12_ok nmX12 hown hK hP hD hS 0 rfl rfl 15 (by decide) w__fieldLink_RX12_44_ShellHeapModel_last_I_ (fun _ h9 => h9) rfl hin rfl (by decide +kernel) rfl rfl (Nat.le_of_ble_eq_true rfl) dX12_init_100 ?_
  clear hP hD hS
  intro H_48 locs hP hD hS
  have h9 := z_s_0_15 hP hD
  clear hP hD
  obtain ⟨hP, hD⟩ := h9
  refine lv_aload_n hx hb dX12_init_103 rfl (lv_at hl 0 rfl) ?_
  refine lv_bipush (v := 6) hx hb dX12_init_104 (by decide) ?_
  refine va_put (D := (dC, dI)) (ci := 12) (v := .int 6) (ty := .int) (C := RX12) (T := TX12) (N := 70) hx hb hts hiX12 tyX12 tyX12_ok nmX12 hown hK hP hD hS 0 rfl rfl 17 (by decide) w__fieldLink_RX12_47_ShellHeapModel_wide_I_ (fun _ h9 => h9) rfl (by decide +kernel) rfl rfl (Nat.le_of_ble_eq_true rfl) dX12_init_106 ?_
  clear hP hD hS
  intro H_49 locs hP hD hS
  have h9 := z_s_0_17 hP hD
  clear hP hD
  obtain ⟨hP, hD⟩ := h9
  refine lv_aload_n hx hb dX12_init_109 rfl (lv_at hl 0 rfl) ?_
  refine lv_bipush (v := 6) hx hb dX12_init_110 (by decide) ?_
  refine va_put (D := (dC, dI)) (ci := 12) (v := .int 6) (ty := .int) (C := RX12) (T := TX12) (N := 70) hx hb hts hiX12 tyX12 tyX12_ok nmX12 hown hK hP hD hS 0 rfl rfl 18 (by decide) w__fieldLink_RX12_51_ShellHeapModel_tall_I_ (fun _ h9 => h9) rfl (by decide +kernel) rfl rfl (Nat.le_of_ble_eq_true rfl) dX12_init_112 ?_
  clear hP hD hS
  intro H_50 locs hP hD hS
  have h9 := z_s_0_18 hP hD
  clear hP hD
  obtain ⟨hP, hD⟩ := h9
  refine lv_aload_n hx hb dX12_init_115 rfl (lv_at hl 0 rfl) ?_
  refine lv_bipush (v := 10) hx hb dX12_init_116 (by decide) ?_
  refine va_newa (atype := .int) (ty := .int) (N' := 10) (a0 := (10, .inl (fun _ => 0))) hx hb w__arrayClass_int rfl hK hP hD hS hA (z_newI 10) (by decide) (by decide) (by decide) (Nat.le_of_ble_eq_true rfl) (Nat.le_of_ble_eq_true rfl) dX12_init_118 ?_
  clear hK hP hD hS
  intro q_51 cA_52 H_53 hK hP hD hS
  replace hK : va_K (dC, dI) vwCl [(cA_2, .int), (cA_6, .int), (cA_10, .int), (cA_14, .int), (cA_18, .int), (cA_22, .boolean), (cA_26, .int), (cA_30, .int), (cA_34, .boolean), (cA_38, .int), (cA_42, .int), (cA_46, .int), (cA_52, .int)] s := hK
  replace hP : va_P (dC, dI) vwCl [(h0, .inr (12, [.ref q_1, .int 0, .int 0, .int 0, .int 0, .ref q_5, .ref q_9, .ref q_13, .ref q_17, .ref q_21, .ref q_25, .ref q_29, .ref q_33, .ref q_37, .ref q_41, .ref q_45, .int 0, .int 6, .int 6, .int 0, .null, .null, .null, .int 0, .null, .null, .null, .null, .int 0, .int 0, .int 0, .int 0, .int 0, .int 0, .int 0, .null, .null, .null, .null, .long 0, .int 0, .null, .null, .null, .int 0, .int 0, .int 0, .int 0, .null, .null, .null, .null, .null, .null, .null, .null, .null, .null, .int 0, .null, .null, .int 0, .null, .int 0, .null, .int 0, .int 0, .int 0, .int 0, .null])), (q_1, .inl (cA_2, 700, .inl (fun _ => 0))), (q_5, .inl (cA_6, 80, .inl (fun _ => 0))), (q_9, .inl (cA_10, 80, .inl (fun _ => 0))), (q_13, .inl (cA_14, 80, .inl (fun _ => 0))), (q_17, .inl (cA_18, 80, .inl (fun _ => 0))), (q_21, .inl (cA_22, 80, .inl (fun _ => 0))), (q_25, .inl (cA_26, 11520, .inl (fun _ => 0))), (q_29, .inl (cA_30, 12, .inl (fun _ => 0))), (q_33, .inl (cA_34, 144, .inl (fun _ => 0))), (q_37, .inl (cA_38, 12, .inl (fun _ => 0))), (q_41, .inl (cA_42, 12, .inl (fun _ => 0))), (q_45, .inl (cA_46, 12, .inl (fun _ => 0))), (q_51, .inl (cA_52, 10, .inl (fun _ => 0)))] H_53 := hP
  replace hD : va_D A [(h0, .inr (12, [.ref q_1, .int 0, .int 0, .int 0, .int 0, .ref q_5, .ref q_9, .ref q_13, .ref q_17, .ref q_21, .ref q_25, .ref q_29, .ref q_33, .ref q_37, .ref q_41, .ref q_45, .int 0, .int 6, .int 6, .int 0, .null, .null, .null, .int 0, .null, .null, .null, .null, .int 0, .int 0, .int 0, .int 0, .int 0, .int 0, .int 0, .null, .null, .null, .null, .long 0, .int 0, .null, .null, .null, .int 0, .int 0, .int 0, .int 0, .null, .null, .null, .null, .null, .null, .null, .null, .null, .null, .int 0, .null, .null, .int 0, .null, .int 0, .null, .int 0, .int 0, .int 0, .int 0, .null])), (q_1, .inl (cA_2, 700, .inl (fun _ => 0))), (q_5, .inl (cA_6, 80, .inl (fun _ => 0))), (q_9, .inl (cA_10, 80, .inl (fun _ => 0))), (q_13, .inl (cA_14, 80, .inl (fun _ => 0))), (q_17, .inl (cA_18, 80, .inl (fun _ => 0))), (q_21, .inl (cA_22, 80, .inl (fun _ => 0))), (q_25, .inl (cA_26, 11520, .inl (fun _ => 0))), (q_29, .inl (cA_30, 12, .inl (fun _ => 0))), (q_33, .inl (cA_34, 144, .inl (fun _ => 0))), (q_37, .inl (cA_38, 12, .inl (fun _ => 0))), (q_41, .inl (cA_42, 12, .inl (fun _ => 0))), (q_45, .inl (cA_46, 12, .inl (fun _ => 0))), (q_51, .inl (cA_52, 10, .inl (fun _ => 0)))] := hD
  refine va_putF (D := (dC, dI)) (ci := 12) (v := .ref q_51) (ty := .array .int) (C := RX12) (T := TX12) (N := 70) hx hb hts hiX12 tyX12 tyX12_ok nmX12 hown hK hP hD hS 0 rfl rfl 20 (by decide) w__fieldLink_RX12_54_ShellHeapModel_columnX_I_ (fun _ h9 => h9) rfl hin rfl (by decide +kernel) rfl rfl (Nat.le_of_ble_eq_true rfl) dX12_init_120 ?_
  clear hP hD hS
  intro H_54 locs hP hD hS
  have h9 := z_s_0_20 hP hD
  clear hP hD
  obtain ⟨hP, hD⟩ := h9
  refine lv_aload_n hx hb dX12_init_123 rfl (lv_at hl 0 rfl) ?_
  refine lv_bipush (v := 10) hx hb dX12_init_124 (by decide) ?_
  refine va_newa (atype := .int) (ty := .int) (N' := 10) (a0 := (10, .inl (fun _ => 0))) hx hb w__arrayClass_int rfl hK hP hD hS hA (z_newI 10) (by decide) (by decide) (by decide) (Nat.le_of_ble_eq_true rfl) (Nat.le_of_ble_eq_true rfl) dX12_init_126 ?_
  clear hK hP hD hS
  intro q_55 cA_56 H_57 hK hP hD hS
  replace hK : va_K (dC, dI) vwCl [(cA_2, .int), (cA_6, .int), (cA_10, .int), (cA_14, .int), (cA_18, .int), (cA_22, .boolean), (cA_26, .int), (cA_30, .int), (cA_34, .boolean), (cA_38, .int), (cA_42, .int), (cA_46, .int), (cA_52, .int), (cA_56, .int)] s := hK
  replace hP : va_P (dC, dI) vwCl [(h0, .inr (12, [.ref q_1, .int 0, .int 0, .int 0, .int 0, .ref q_5, .ref q_9, .ref q_13, .ref q_17, .ref q_21, .ref q_25, .ref q_29, .ref q_33, .ref q_37, .ref q_41, .ref q_45, .int 0, .int 6, .int 6, .int 0, .ref q_51, .null, .null, .int 0, .null, .null, .null, .null, .int 0, .int 0, .int 0, .int 0, .int 0, .int 0, .int 0, .null, .null, .null, .null, .long 0, .int 0, .null, .null, .null, .int 0, .int 0, .int 0, .int 0, .null, .null, .null, .null, .null, .null, .null, .null, .null, .null, .int 0, .null, .null, .int 0, .null, .int 0, .null, .int 0, .int 0, .int 0, .int 0, .null])), (q_1, .inl (cA_2, 700, .inl (fun _ => 0))), (q_5, .inl (cA_6, 80, .inl (fun _ => 0))), (q_9, .inl (cA_10, 80, .inl (fun _ => 0))), (q_13, .inl (cA_14, 80, .inl (fun _ => 0))), (q_17, .inl (cA_18, 80, .inl (fun _ => 0))), (q_21, .inl (cA_22, 80, .inl (fun _ => 0))), (q_25, .inl (cA_26, 11520, .inl (fun _ => 0))), (q_29, .inl (cA_30, 12, .inl (fun _ => 0))), (q_33, .inl (cA_34, 144, .inl (fun _ => 0))), (q_37, .inl (cA_38, 12, .inl (fun _ => 0))), (q_41, .inl (cA_42, 12, .inl (fun _ => 0))), (q_45, .inl (cA_46, 12, .inl (fun _ => 0))), (q_51, .inl (cA_52, 10, .inl (fun _ => 0))), (q_55, .inl (cA_56, 10, .inl (fun _ => 0)))] H_57 := hP
  replace hD : va_D A [(h0, .inr (12, [.ref q_1, .int 0, .int 0, .int 0, .int 0, .ref q_5, .ref q_9, .ref q_13, .ref q_17, .ref q_21, .ref q_25, .ref q_29, .ref q_33, .ref q_37, .ref q_41, .ref q_45, .int 0, .int 6, .int 6, .int 0, .ref q_51, .null, .null, .int 0, .null, .null, .null, .null, .int 0, .int 0, .int 0, .int 0, .int 0, .int 0, .int 0, .null, .null, .null, .null, .long 0, .int 0, .null, .null, .null, .int 0, .int 0, .int 0, .int 0, .null, .null, .null, .null, .null, .null, .null, .null, .null, .null, .int 0, .null, .null, .int 0, .null, .int 0, .null, .int 0, .int 0, .int 0, .int 0, .null])), (q_1, .inl (cA_2, 700, .inl (fun _ => 0))), (q_5, .inl (cA_6, 80, .inl (fun _ => 0))), (q_9, .inl (cA_10, 80, .inl (fun _ => 0))), (q_13, .inl (cA_14, 80, .inl (fun _ => 0))), (q_17, .inl (cA_18, 80, .inl (fun _ => 0))), (q_21, .inl (cA_22, 80, .inl (fun _ => 0))), (q_25, .inl (cA_26, 11520, .inl (fun _ => 0))), (q_29, .inl (cA_30, 12, .inl (fun _ => 0))), (q_33, .inl (cA_34, 144, .inl (fun _ => 0))), (q_37, .inl (cA_38, 12, .inl (fun _ => 0))), (q_41, .inl (cA_42, 12, .inl (fun _ => 0))), (q_45, .inl (cA_46, 12, .inl (fun _ => 0))), (q_51, .inl (cA_52, 10, .inl (fun _ => 0))), (q_55, .inl (cA_56, 10, .inl (fun _ => 0)))] := hD
  refine va_putF (D := (dC, dI)) (ci := 12) (v := .ref q_55) (ty := .array .int) (C := RX12) (T := TX12) (N := 70) hx hb hts hiX12 tyX12 tyX12_ok nmX12 hown hK hP hD hS 0 rfl rfl 21 (by decide) w__fieldLink_RX12_57_ShellHeapModel_columnY_I_ (fun _ h9 => h9) rfl hin rfl (by decide +kernel) rfl rfl (Nat.le_of_ble_eq_true rfl) dX12_init_128 ?_
  clear hP hD hS
  intro H_58 locs hP hD hS
  have h9 := z_s_0_21 hP hD
  clear hP hD
  obtain ⟨hP, hD⟩ := h9
  refine lv_aload_n hx hb dX12_init_131 rfl (lv_at hl 0 rfl) ?_
  refine lv_bipush (v := 120) hx hb dX12_init_132 (by decide) ?_
  refine va_newa (atype := .int) (ty := .int) (N' := 120) (a0 := (120, .inl (fun _ => 0))) hx hb w__arrayClass_int rfl hK hP hD hS hA (z_newI 120) (by decide) (by decide) (by decide) (Nat.le_of_ble_eq_true rfl) (Nat.le_of_ble_eq_true rfl) dX12_init_134 ?_
  clear hK hP hD hS
  intro q_59 cA_60 H_61 hK hP hD hS
  replace hK : va_K (dC, dI) vwCl [(cA_2, .int), (cA_6, .int), (cA_10, .int), (cA_14, .int), (cA_18, .int), (cA_22, .boolean), (cA_26, .int), (cA_30, .int), (cA_34, .boolean), (cA_38, .int), (cA_42, .int), (cA_46, .int), (cA_52, .int), (cA_56, .int), (cA_60, .int)] s := hK
  replace hP : va_P (dC, dI) vwCl [(h0, .inr (12, [.ref q_1, .int 0, .int 0, .int 0, .int 0, .ref q_5, .ref q_9, .ref q_13, .ref q_17, .ref q_21, .ref q_25, .ref q_29, .ref q_33, .ref q_37, .ref q_41, .ref q_45, .int 0, .int 6, .int 6, .int 0, .ref q_51, .ref q_55, .null, .int 0, .null, .null, .null, .null, .int 0, .int 0, .int 0, .int 0, .int 0, .int 0, .int 0, .null, .null, .null, .null, .long 0, .int 0, .null, .null, .null, .int 0, .int 0, .int 0, .int 0, .null, .null, .null, .null, .null, .null, .null, .null, .null, .null, .int 0, .null, .null, .int 0, .null, .int 0, .null, .int 0, .int 0, .int 0, .int 0, .null])), (q_1, .inl (cA_2, 700, .inl (fun _ => 0))), (q_5, .inl (cA_6, 80, .inl (fun _ => 0))), (q_9, .inl (cA_10, 80, .inl (fun _ => 0))), (q_13, .inl (cA_14, 80, .inl (fun _ => 0))), (q_17, .inl (cA_18, 80, .inl (fun _ => 0))), (q_21, .inl (cA_22, 80, .inl (fun _ => 0))), (q_25, .inl (cA_26, 11520, .inl (fun _ => 0))), (q_29, .inl (cA_30, 12, .inl (fun _ => 0))), (q_33, .inl (cA_34, 144, .inl (fun _ => 0))), (q_37, .inl (cA_38, 12, .inl (fun _ => 0))), (q_41, .inl (cA_42, 12, .inl (fun _ => 0))), (q_45, .inl (cA_46, 12, .inl (fun _ => 0))), (q_51, .inl (cA_52, 10, .inl (fun _ => 0))), (q_55, .inl (cA_56, 10, .inl (fun _ => 0))), (q_59, .inl (cA_60, 120, .inl (fun _ => 0)))] H_61 := hP
  replace hD : va_D A [(h0, .inr (12, [.ref q_1, .int 0, .int 0, .int 0, .int 0, .ref q_5, .ref q_9, .ref q_13, .ref q_17, .ref q_21, .ref q_25, .ref q_29, .ref q_33, .ref q_37, .ref q_41, .ref q_45, .int 0, .int 6, .int 6, .int 0, .ref q_51, .ref q_55, .null, .int 0, .null, .null, .null, .null, .int 0, .int 0, .int 0, .int 0, .int 0, .int 0, .int 0, .null, .null, .null, .null, .long 0, .int 0, .null, .null, .null, .int 0, .int 0, .int 0, .int 0, .null, .null, .null, .null, .null, .null, .null, .null, .null, .null, .int 0, .null, .null, .int 0, .null, .int 0, .null, .int 0, .int 0, .int 0, .int 0, .null])), (q_1, .inl (cA_2, 700, .inl (fun _ => 0))), (q_5, .inl (cA_6, 80, .inl (fun _ => 0))), (q_9, .inl (cA_10, 80, .inl (fun _ => 0))), (q_13, .inl (cA_14, 80, .inl (fun _ => 0))), (q_17, .inl (cA_18, 80, .inl (fun _ => 0))), (q_21, .inl (cA_22, 80, .inl (fun _ => 0))), (q_25, .inl (cA_26, 11520, .inl (fun _ => 0))), (q_29, .inl (cA_30, 12, .inl (fun _ => 0))), (q_33, .inl (cA_34, 144, .inl (fun _ => 0))), (q_37, .inl (cA_38, 12, .inl (fun _ => 0))), (q_41, .inl (cA_42, 12, .inl (fun _ => 0))), (q_45, .inl (cA_46, 12, .inl (fun _ => 0))), (q_51, .inl (cA_52, 10, .inl (fun _ => 0))), (q_55, .inl (cA_56, 10, .inl (fun _ => 0))), (q_59, .inl (cA_60, 120, .inl (fun _ => 0)))] := hD
  refine va_putF (D := (dC, dI)) (ci := 12) (v := .ref q_59) (ty := .array .int) (C := RX12) (T := TX12) (N := 70) hx hb hts hiX12 tyX12 tyX12_ok nmX12 hown hK hP hD hS 0 rfl rfl 22 (by decide) w__fieldLink_RX12_60_ShellHeapModel_thickOf_I_ (fun _ h9 => h9) rfl hin rfl (by decide +kernel) rfl rfl (Nat.le_of_ble_eq_true rfl) dX12_init_136 ?_
  clear hP hD hS
  intro H_62 locs hP hD hS
  have h9 := z_s_0_22 hP hD
  clear hP hD
  obtain ⟨hP, hD⟩ := h9
  refine lv_aload_n hx hb dX12_init_139 rfl (lv_at hl 0 rfl) ?_
  refine lv_bipush (v := 6) hx hb dX12_init_140 (by decide) ?_
  refine va_newa (atype := .int) (ty := .int) (N' := 6) (a0 := (6, .inl (fun _ => 0))) hx hb w__arrayClass_int rfl hK hP hD hS hA (z_newI 6) (by decide) (by decide) (by decide) (Nat.le_of_ble_eq_true rfl) (Nat.le_of_ble_eq_true rfl) dX12_init_142 ?_
  clear hK hP hD hS
  intro q_63 cA_64 H_65 hK hP hD hS
  replace hK : va_K (dC, dI) vwCl [(cA_2, .int), (cA_6, .int), (cA_10, .int), (cA_14, .int), (cA_18, .int), (cA_22, .boolean), (cA_26, .int), (cA_30, .int), (cA_34, .boolean), (cA_38, .int), (cA_42, .int), (cA_46, .int), (cA_52, .int), (cA_56, .int), (cA_60, .int), (cA_64, .int)] s := hK
  replace hP : va_P (dC, dI) vwCl [(h0, .inr (12, [.ref q_1, .int 0, .int 0, .int 0, .int 0, .ref q_5, .ref q_9, .ref q_13, .ref q_17, .ref q_21, .ref q_25, .ref q_29, .ref q_33, .ref q_37, .ref q_41, .ref q_45, .int 0, .int 6, .int 6, .int 0, .ref q_51, .ref q_55, .ref q_59, .int 0, .null, .null, .null, .null, .int 0, .int 0, .int 0, .int 0, .int 0, .int 0, .int 0, .null, .null, .null, .null, .long 0, .int 0, .null, .null, .null, .int 0, .int 0, .int 0, .int 0, .null, .null, .null, .null, .null, .null, .null, .null, .null, .null, .int 0, .null, .null, .int 0, .null, .int 0, .null, .int 0, .int 0, .int 0, .int 0, .null])), (q_1, .inl (cA_2, 700, .inl (fun _ => 0))), (q_5, .inl (cA_6, 80, .inl (fun _ => 0))), (q_9, .inl (cA_10, 80, .inl (fun _ => 0))), (q_13, .inl (cA_14, 80, .inl (fun _ => 0))), (q_17, .inl (cA_18, 80, .inl (fun _ => 0))), (q_21, .inl (cA_22, 80, .inl (fun _ => 0))), (q_25, .inl (cA_26, 11520, .inl (fun _ => 0))), (q_29, .inl (cA_30, 12, .inl (fun _ => 0))), (q_33, .inl (cA_34, 144, .inl (fun _ => 0))), (q_37, .inl (cA_38, 12, .inl (fun _ => 0))), (q_41, .inl (cA_42, 12, .inl (fun _ => 0))), (q_45, .inl (cA_46, 12, .inl (fun _ => 0))), (q_51, .inl (cA_52, 10, .inl (fun _ => 0))), (q_55, .inl (cA_56, 10, .inl (fun _ => 0))), (q_59, .inl (cA_60, 120, .inl (fun _ => 0))), (q_63, .inl (cA_64, 6, .inl (fun _ => 0)))] H_65 := hP
  replace hD : va_D A [(h0, .inr (12, [.ref q_1, .int 0, .int 0, .int 0, .int 0, .ref q_5, .ref q_9, .ref q_13, .ref q_17, .ref q_21, .ref q_25, .ref q_29, .ref q_33, .ref q_37, .ref q_41, .ref q_45, .int 0, .int 6, .int 6, .int 0, .ref q_51, .ref q_55, .ref q_59, .int 0, .null, .null, .null, .null, .int 0, .int 0, .int 0, .int 0, .int 0, .int 0, .int 0, .null, .null, .null, .null, .long 0, .int 0, .null, .null, .null, .int 0, .int 0, .int 0, .int 0, .null, .null, .null, .null, .null, .null, .null, .null, .null, .null, .int 0, .null, .null, .int 0, .null, .int 0, .null, .int 0, .int 0, .int 0, .int 0, .null])), (q_1, .inl (cA_2, 700, .inl (fun _ => 0))), (q_5, .inl (cA_6, 80, .inl (fun _ => 0))), (q_9, .inl (cA_10, 80, .inl (fun _ => 0))), (q_13, .inl (cA_14, 80, .inl (fun _ => 0))), (q_17, .inl (cA_18, 80, .inl (fun _ => 0))), (q_21, .inl (cA_22, 80, .inl (fun _ => 0))), (q_25, .inl (cA_26, 11520, .inl (fun _ => 0))), (q_29, .inl (cA_30, 12, .inl (fun _ => 0))), (q_33, .inl (cA_34, 144, .inl (fun _ => 0))), (q_37, .inl (cA_38, 12, .inl (fun _ => 0))), (q_41, .inl (cA_42, 12, .inl (fun _ => 0))), (q_45, .inl (cA_46, 12, .inl (fun _ => 0))), (q_51, .inl (cA_52, 10, .inl (fun _ => 0))), (q_55, .inl (cA_56, 10, .inl (fun _ => 0))), (q_59, .inl (cA_60, 120, .inl (fun _ => 0))), (q_63, .inl (cA_64, 6, .inl (fun _ => 0)))] := hD
  refine va_putF (D := (dC, dI)) (ci := 12) (v := .ref q_63) (ty := .array .int) (C := RX12) (T := TX12) (N := 70) hx hb hts hiX12 tyX12 tyX12_ok nmX12 hown hK hP hD hS 0 rfl rfl 24 (by decide) w__fieldLink_RX12_63_ShellHeapModel_meat_I_ (fun _ h9 => h9) rfl hin rfl (by decide +kernel) rfl rfl (Nat.le_of_ble_eq_true rfl) dX12_init_144 ?_
  clear hP hD hS
  intro H_66 locs hP hD hS
  have h9 := z_s_0_24 hP hD
  clear hP hD
  obtain ⟨hP, hD⟩ := h9
  refine lv_aload_n hx hb dX12_init_147 rfl (lv_at hl 0 rfl) ?_
  refine lv_bipush (v := 6) hx hb dX12_init_148 (by decide) ?_
  refine va_newa (atype := .int) (ty := .int) (N' := 6) (a0 := (6, .inl (fun _ => 0))) hx hb w__arrayClass_int rfl hK hP hD hS hA (z_newI 6) (by decide) (by decide) (by decide) (Nat.le_of_ble_eq_true rfl) (Nat.le_of_ble_eq_true rfl) dX12_init_150 ?_
  clear hK hP hD hS
  intro q_67 cA_68 H_69 hK hP hD hS
  replace hK : va_K (dC, dI) vwCl [(cA_2, .int), (cA_6, .int), (cA_10, .int), (cA_14, .int), (cA_18, .int), (cA_22, .boolean), (cA_26, .int), (cA_30, .int), (cA_34, .boolean), (cA_38, .int), (cA_42, .int), (cA_46, .int), (cA_52, .int), (cA_56, .int), (cA_60, .int), (cA_64, .int), (cA_68, .int)] s := hK
  replace hP : va_P (dC, dI) vwCl [(h0, .inr (12, [.ref q_1, .int 0, .int 0, .int 0, .int 0, .ref q_5, .ref q_9, .ref q_13, .ref q_17, .ref q_21, .ref q_25, .ref q_29, .ref q_33, .ref q_37, .ref q_41, .ref q_45, .int 0, .int 6, .int 6, .int 0, .ref q_51, .ref q_55, .ref q_59, .int 0, .ref q_63, .null, .null, .null, .int 0, .int 0, .int 0, .int 0, .int 0, .int 0, .int 0, .null, .null, .null, .null, .long 0, .int 0, .null, .null, .null, .int 0, .int 0, .int 0, .int 0, .null, .null, .null, .null, .null, .null, .null, .null, .null, .null, .int 0, .null, .null, .int 0, .null, .int 0, .null, .int 0, .int 0, .int 0, .int 0, .null])), (q_1, .inl (cA_2, 700, .inl (fun _ => 0))), (q_5, .inl (cA_6, 80, .inl (fun _ => 0))), (q_9, .inl (cA_10, 80, .inl (fun _ => 0))), (q_13, .inl (cA_14, 80, .inl (fun _ => 0))), (q_17, .inl (cA_18, 80, .inl (fun _ => 0))), (q_21, .inl (cA_22, 80, .inl (fun _ => 0))), (q_25, .inl (cA_26, 11520, .inl (fun _ => 0))), (q_29, .inl (cA_30, 12, .inl (fun _ => 0))), (q_33, .inl (cA_34, 144, .inl (fun _ => 0))), (q_37, .inl (cA_38, 12, .inl (fun _ => 0))), (q_41, .inl (cA_42, 12, .inl (fun _ => 0))), (q_45, .inl (cA_46, 12, .inl (fun _ => 0))), (q_51, .inl (cA_52, 10, .inl (fun _ => 0))), (q_55, .inl (cA_56, 10, .inl (fun _ => 0))), (q_59, .inl (cA_60, 120, .inl (fun _ => 0))), (q_63, .inl (cA_64, 6, .inl (fun _ => 0))), (q_67, .inl (cA_68, 6, .inl (fun _ => 0)))] H_69 := hP
  replace hD : va_D A [(h0, .inr (12, [.ref q_1, .int 0, .int 0, .int 0, .int 0, .ref q_5, .ref q_9, .ref q_13, .ref q_17, .ref q_21, .ref q_25, .ref q_29, .ref q_33, .ref q_37, .ref q_41, .ref q_45, .int 0, .int 6, .int 6, .int 0, .ref q_51, .ref q_55, .ref q_59, .int 0, .ref q_63, .null, .null, .null, .int 0, .int 0, .int 0, .int 0, .int 0, .int 0, .int 0, .null, .null, .null, .null, .long 0, .int 0, .null, .null, .null, .int 0, .int 0, .int 0, .int 0, .null, .null, .null, .null, .null, .null, .null, .null, .null, .null, .int 0, .null, .null, .int 0, .null, .int 0, .null, .int 0, .int 0, .int 0, .int 0, .null])), (q_1, .inl (cA_2, 700, .inl (fun _ => 0))), (q_5, .inl (cA_6, 80, .inl (fun _ => 0))), (q_9, .inl (cA_10, 80, .inl (fun _ => 0))), (q_13, .inl (cA_14, 80, .inl (fun _ => 0))), (q_17, .inl (cA_18, 80, .inl (fun _ => 0))), (q_21, .inl (cA_22, 80, .inl (fun _ => 0))), (q_25, .inl (cA_26, 11520, .inl (fun _ => 0))), (q_29, .inl (cA_30, 12, .inl (fun _ => 0))), (q_33, .inl (cA_34, 144, .inl (fun _ => 0))), (q_37, .inl (cA_38, 12, .inl (fun _ => 0))), (q_41, .inl (cA_42, 12, .inl (fun _ => 0))), (q_45, .inl (cA_46, 12, .inl (fun _ => 0))), (q_51, .inl (cA_52, 10, .inl (fun _ => 0))), (q_55, .inl (cA_56, 10, .inl (fun _ => 0))), (q_59, .inl (cA_60, 120, .inl (fun _ => 0))), (q_63, .inl (cA_64, 6, .inl (fun _ => 0))), (q_67, .inl (cA_68, 6, .inl (fun _ => 0)))] := hD
  refine va_putF (D := (dC, dI)) (ci := 12) (v := .ref q_67) (ty := .array .int) (C := RX12) (T := TX12) (N := 70) hx hb hts hiX12 tyX12 tyX12_ok nmX12 hown hK hP hD hS 0 rfl rfl 25 (by decide) w__fieldLink_RX12_66_ShellHeapModel_valves_I_ (fun _ h9 => h9) rfl hin rfl (by decide +kernel) rfl rfl (Nat.le_of_ble_eq_true rfl) dX12_init_152 ?_
  clear hP hD hS
  intro H_70 locs hP hD hS
  have h9 := z_s_0_25 hP hD
  clear hP hD
  obtain ⟨hP, hD⟩ := h9
  refine lv_aload_n hx hb dX12_init_155 rfl (lv_at hl 0 rfl) ?_
  refine lv_bipush (v := 24) hx hb dX12_init_156 (by decide) ?_
  refine va_newa (atype := .int) (ty := .int) (N' := 24) (a0 := (24, .inl (fun _ => 0))) hx hb w__arrayClass_int rfl hK hP hD hS hA (z_newI 24) (by decide) (by decide) (by decide) (Nat.le_of_ble_eq_true rfl) (Nat.le_of_ble_eq_true rfl) dX12_init_158 ?_
  clear hK hP hD hS
  intro q_71 cA_72 H_73 hK hP hD hS
  replace hK : va_K (dC, dI) vwCl [(cA_2, .int), (cA_6, .int), (cA_10, .int), (cA_14, .int), (cA_18, .int), (cA_22, .boolean), (cA_26, .int), (cA_30, .int), (cA_34, .boolean), (cA_38, .int), (cA_42, .int), (cA_46, .int), (cA_52, .int), (cA_56, .int), (cA_60, .int), (cA_64, .int), (cA_68, .int), (cA_72, .int)] s := hK
  replace hP : va_P (dC, dI) vwCl [(h0, .inr (12, [.ref q_1, .int 0, .int 0, .int 0, .int 0, .ref q_5, .ref q_9, .ref q_13, .ref q_17, .ref q_21, .ref q_25, .ref q_29, .ref q_33, .ref q_37, .ref q_41, .ref q_45, .int 0, .int 6, .int 6, .int 0, .ref q_51, .ref q_55, .ref q_59, .int 0, .ref q_63, .ref q_67, .null, .null, .int 0, .int 0, .int 0, .int 0, .int 0, .int 0, .int 0, .null, .null, .null, .null, .long 0, .int 0, .null, .null, .null, .int 0, .int 0, .int 0, .int 0, .null, .null, .null, .null, .null, .null, .null, .null, .null, .null, .int 0, .null, .null, .int 0, .null, .int 0, .null, .int 0, .int 0, .int 0, .int 0, .null])), (q_1, .inl (cA_2, 700, .inl (fun _ => 0))), (q_5, .inl (cA_6, 80, .inl (fun _ => 0))), (q_9, .inl (cA_10, 80, .inl (fun _ => 0))), (q_13, .inl (cA_14, 80, .inl (fun _ => 0))), (q_17, .inl (cA_18, 80, .inl (fun _ => 0))), (q_21, .inl (cA_22, 80, .inl (fun _ => 0))), (q_25, .inl (cA_26, 11520, .inl (fun _ => 0))), (q_29, .inl (cA_30, 12, .inl (fun _ => 0))), (q_33, .inl (cA_34, 144, .inl (fun _ => 0))), (q_37, .inl (cA_38, 12, .inl (fun _ => 0))), (q_41, .inl (cA_42, 12, .inl (fun _ => 0))), (q_45, .inl (cA_46, 12, .inl (fun _ => 0))), (q_51, .inl (cA_52, 10, .inl (fun _ => 0))), (q_55, .inl (cA_56, 10, .inl (fun _ => 0))), (q_59, .inl (cA_60, 120, .inl (fun _ => 0))), (q_63, .inl (cA_64, 6, .inl (fun _ => 0))), (q_67, .inl (cA_68, 6, .inl (fun _ => 0))), (q_71, .inl (cA_72, 24, .inl (fun _ => 0)))] H_73 := hP
  replace hD : va_D A [(h0, .inr (12, [.ref q_1, .int 0, .int 0, .int 0, .int 0, .ref q_5, .ref q_9, .ref q_13, .ref q_17, .ref q_21, .ref q_25, .ref q_29, .ref q_33, .ref q_37, .ref q_41, .ref q_45, .int 0, .int 6, .int 6, .int 0, .ref q_51, .ref q_55, .ref q_59, .int 0, .ref q_63, .ref q_67, .null, .null, .int 0, .int 0, .int 0, .int 0, .int 0, .int 0, .int 0, .null, .null, .null, .null, .long 0, .int 0, .null, .null, .null, .int 0, .int 0, .int 0, .int 0, .null, .null, .null, .null, .null, .null, .null, .null, .null, .null, .int 0, .null, .null, .int 0, .null, .int 0, .null, .int 0, .int 0, .int 0, .int 0, .null])), (q_1, .inl (cA_2, 700, .inl (fun _ => 0))), (q_5, .inl (cA_6, 80, .inl (fun _ => 0))), (q_9, .inl (cA_10, 80, .inl (fun _ => 0))), (q_13, .inl (cA_14, 80, .inl (fun _ => 0))), (q_17, .inl (cA_18, 80, .inl (fun _ => 0))), (q_21, .inl (cA_22, 80, .inl (fun _ => 0))), (q_25, .inl (cA_26, 11520, .inl (fun _ => 0))), (q_29, .inl (cA_30, 12, .inl (fun _ => 0))), (q_33, .inl (cA_34, 144, .inl (fun _ => 0))), (q_37, .inl (cA_38, 12, .inl (fun _ => 0))), (q_41, .inl (cA_42, 12, .inl (fun _ => 0))), (q_45, .inl (cA_46, 12, .inl (fun _ => 0))), (q_51, .inl (cA_52, 10, .inl (fun _ => 0))), (q_55, .inl (cA_56, 10, .inl (fun _ => 0))), (q_59, .inl (cA_60, 120, .inl (fun _ => 0))), (q_63, .inl (cA_64, 6, .inl (fun _ => 0))), (q_67, .inl (cA_68, 6, .inl (fun _ => 0))), (q_71, .inl (cA_72, 24, .inl (fun _ => 0)))] := hD
  refine va_putF (D := (dC, dI)) (ci := 12) (v := .ref q_71) (ty := .array .int) (C := RX12) (T := TX12) (N := 70) hx hb hts hiX12 tyX12 tyX12_ok nmX12 hown hK hP hD hS 0 rfl rfl 26 (by decide) w__fieldLink_RX12_69_ShellHeapModel_keptOf_I_ (fun _ h9 => h9) rfl hin rfl (by decide +kernel) rfl rfl (Nat.le_of_ble_eq_true rfl) dX12_init_160 ?_
  clear hP hD hS
  intro H_74 locs hP hD hS
  have h9 := z_s_0_26 hP hD
  clear hP hD
  obtain ⟨hP, hD⟩ := h9
  refine lv_aload_n hx hb dX12_init_163 rfl (lv_at hl 0 rfl) ?_
  refine lv_bipush (v := 115) hx hb dX12_init_164 (by decide) ?_
  refine va_newa (atype := .int) (ty := .int) (N' := 115) (a0 := (115, .inl (fun _ => 0))) hx hb w__arrayClass_int rfl hK hP hD hS hA (z_newI 115) (by decide) (by decide) (by decide) (Nat.le_of_ble_eq_true rfl) (Nat.le_of_ble_eq_true rfl) dX12_init_166 ?_
  clear hK hP hD hS
  intro q_75 cA_76 H_77 hK hP hD hS
  replace hK : va_K (dC, dI) vwCl [(cA_2, .int), (cA_6, .int), (cA_10, .int), (cA_14, .int), (cA_18, .int), (cA_22, .boolean), (cA_26, .int), (cA_30, .int), (cA_34, .boolean), (cA_38, .int), (cA_42, .int), (cA_46, .int), (cA_52, .int), (cA_56, .int), (cA_60, .int), (cA_64, .int), (cA_68, .int), (cA_72, .int), (cA_76, .int)] s := hK
  replace hP : va_P (dC, dI) vwCl [(h0, .inr (12, [.ref q_1, .int 0, .int 0, .int 0, .int 0, .ref q_5, .ref q_9, .ref q_13, .ref q_17, .ref q_21, .ref q_25, .ref q_29, .ref q_33, .ref q_37, .ref q_41, .ref q_45, .int 0, .int 6, .int 6, .int 0, .ref q_51, .ref q_55, .ref q_59, .int 0, .ref q_63, .ref q_67, .ref q_71, .null, .int 0, .int 0, .int 0, .int 0, .int 0, .int 0, .int 0, .null, .null, .null, .null, .long 0, .int 0, .null, .null, .null, .int 0, .int 0, .int 0, .int 0, .null, .null, .null, .null, .null, .null, .null, .null, .null, .null, .int 0, .null, .null, .int 0, .null, .int 0, .null, .int 0, .int 0, .int 0, .int 0, .null])), (q_1, .inl (cA_2, 700, .inl (fun _ => 0))), (q_5, .inl (cA_6, 80, .inl (fun _ => 0))), (q_9, .inl (cA_10, 80, .inl (fun _ => 0))), (q_13, .inl (cA_14, 80, .inl (fun _ => 0))), (q_17, .inl (cA_18, 80, .inl (fun _ => 0))), (q_21, .inl (cA_22, 80, .inl (fun _ => 0))), (q_25, .inl (cA_26, 11520, .inl (fun _ => 0))), (q_29, .inl (cA_30, 12, .inl (fun _ => 0))), (q_33, .inl (cA_34, 144, .inl (fun _ => 0))), (q_37, .inl (cA_38, 12, .inl (fun _ => 0))), (q_41, .inl (cA_42, 12, .inl (fun _ => 0))), (q_45, .inl (cA_46, 12, .inl (fun _ => 0))), (q_51, .inl (cA_52, 10, .inl (fun _ => 0))), (q_55, .inl (cA_56, 10, .inl (fun _ => 0))), (q_59, .inl (cA_60, 120, .inl (fun _ => 0))), (q_63, .inl (cA_64, 6, .inl (fun _ => 0))), (q_67, .inl (cA_68, 6, .inl (fun _ => 0))), (q_71, .inl (cA_72, 24, .inl (fun _ => 0))), (q_75, .inl (cA_76, 115, .inl (fun _ => 0)))] H_77 := hP
  replace hD : va_D A [(h0, .inr (12, [.ref q_1, .int 0, .int 0, .int 0, .int 0, .ref q_5, .ref q_9, .ref q_13, .ref q_17, .ref q_21, .ref q_25, .ref q_29, .ref q_33, .ref q_37, .ref q_41, .ref q_45, .int 0, .int 6, .int 6, .int 0, .ref q_51, .ref q_55, .ref q_59, .int 0, .ref q_63, .ref q_67, .ref q_71, .null, .int 0, .int 0, .int 0, .int 0, .int 0, .int 0, .int 0, .null, .null, .null, .null, .long 0, .int 0, .null, .null, .null, .int 0, .int 0, .int 0, .int 0, .null, .null, .null, .null, .null, .null, .null, .null, .null, .null, .int 0, .null, .null, .int 0, .null, .int 0, .null, .int 0, .int 0, .int 0, .int 0, .null])), (q_1, .inl (cA_2, 700, .inl (fun _ => 0))), (q_5, .inl (cA_6, 80, .inl (fun _ => 0))), (q_9, .inl (cA_10, 80, .inl (fun _ => 0))), (q_13, .inl (cA_14, 80, .inl (fun _ => 0))), (q_17, .inl (cA_18, 80, .inl (fun _ => 0))), (q_21, .inl (cA_22, 80, .inl (fun _ => 0))), (q_25, .inl (cA_26, 11520, .inl (fun _ => 0))), (q_29, .inl (cA_30, 12, .inl (fun _ => 0))), (q_33, .inl (cA_34, 144, .inl (fun _ => 0))), (q_37, .inl (cA_38, 12, .inl (fun _ => 0))), (q_41, .inl (cA_42, 12, .inl (fun _ => 0))), (q_45, .inl (cA_46, 12, .inl (fun _ => 0))), (q_51, .inl (cA_52, 10, .inl (fun _ => 0))), (q_55, .inl (cA_56, 10, .inl (fun _ => 0))), (q_59, .inl (cA_60, 120, .inl (fun _ => 0))), (q_63, .inl (cA_64, 6, .inl (fun _ => 0))), (q_67, .inl (cA_68, 6, .inl (fun _ => 0))), (q_71, .inl (cA_72, 24, .inl (fun _ => 0))), (q_75, .inl (cA_76, 115, .inl (fun _ => 0)))] := hD
  refine lv_dup hx hb dX12_init_168 rfl ?_
  refine lv_iconst (v := 0) hx hb dX12_init_169 (by decide) ?_
  refine lv_bipush (v := 108) hx hb dX12_init_170 (by decide) ?_
  obtain ⟨WR, eWR⟩ : ∃ WR : va_W, WR = [(h0, .inr (12, [.ref q_1, .int 0, .int 0, .int 0, .int 0, .ref q_5, .ref q_9, .ref q_13, .ref q_17, .ref q_21, .ref q_25, .ref q_29, .ref q_33, .ref q_37, .ref q_41, .ref q_45, .int 0, .int 6, .int 6, .int 0, .ref q_51, .ref q_55, .ref q_59, .int 0, .ref q_63, .ref q_67, .ref q_71, .null, .int 0, .int 0, .int 0, .int 0, .int 0, .int 0, .int 0, .null, .null, .null, .null, .long 0, .int 0, .null, .null, .null, .int 0, .int 0, .int 0, .int 0, .null, .null, .null, .null, .null, .null, .null, .null, .null, .null, .int 0, .null, .null, .int 0, .null, .int 0, .null, .int 0, .int 0, .int 0, .int 0, .null])), (q_1, .inl (cA_2, 700, .inl (fun _ => 0))), (q_5, .inl (cA_6, 80, .inl (fun _ => 0))), (q_9, .inl (cA_10, 80, .inl (fun _ => 0))), (q_13, .inl (cA_14, 80, .inl (fun _ => 0))), (q_17, .inl (cA_18, 80, .inl (fun _ => 0))), (q_21, .inl (cA_22, 80, .inl (fun _ => 0))), (q_25, .inl (cA_26, 11520, .inl (fun _ => 0))), (q_29, .inl (cA_30, 12, .inl (fun _ => 0))), (q_33, .inl (cA_34, 144, .inl (fun _ => 0))), (q_37, .inl (cA_38, 12, .inl (fun _ => 0))), (q_41, .inl (cA_42, 12, .inl (fun _ => 0))), (q_45, .inl (cA_46, 12, .inl (fun _ => 0))), (q_51, .inl (cA_52, 10, .inl (fun _ => 0))), (q_55, .inl (cA_56, 10, .inl (fun _ => 0))), (q_59, .inl (cA_60, 120, .inl (fun _ => 0))), (q_63, .inl (cA_64, 6, .inl (fun _ => 0))), (q_67, .inl (cA_68, 6, .inl (fun _ => 0))), (q_71, .inl (cA_72, 24, .inl (fun _ => 0)))] := ⟨_, rfl⟩
  replace hP : va_P (dC, dI) vwCl ((q_75, .inl (cA_76, 115, .inl (z_wk 0))) :: WR) H_77 := by rw [eWR, ← z_wk0]; exact hP.sub (ws' := [(q_75, .inl (cA_76, 115, .inl (fun _ => 0))), (h0, .inr (12, [.ref q_1, .int 0, .int 0, .int 0, .int 0, .ref q_5, .ref q_9, .ref q_13, .ref q_17, .ref q_21, .ref q_25, .ref q_29, .ref q_33, .ref q_37, .ref q_41, .ref q_45, .int 0, .int 6, .int 6, .int 0, .ref q_51, .ref q_55, .ref q_59, .int 0, .ref q_63, .ref q_67, .ref q_71, .null, .int 0, .int 0, .int 0, .int 0, .int 0, .int 0, .int 0, .null, .null, .null, .null, .long 0, .int 0, .null, .null, .null, .int 0, .int 0, .int 0, .int 0, .null, .null, .null, .null, .null, .null, .null, .null, .null, .null, .int 0, .null, .null, .int 0, .null, .int 0, .null, .int 0, .int 0, .int 0, .int 0, .null])), (q_1, .inl (cA_2, 700, .inl (fun _ => 0))), (q_5, .inl (cA_6, 80, .inl (fun _ => 0))), (q_9, .inl (cA_10, 80, .inl (fun _ => 0))), (q_13, .inl (cA_14, 80, .inl (fun _ => 0))), (q_17, .inl (cA_18, 80, .inl (fun _ => 0))), (q_21, .inl (cA_22, 80, .inl (fun _ => 0))), (q_25, .inl (cA_26, 11520, .inl (fun _ => 0))), (q_29, .inl (cA_30, 12, .inl (fun _ => 0))), (q_33, .inl (cA_34, 144, .inl (fun _ => 0))), (q_37, .inl (cA_38, 12, .inl (fun _ => 0))), (q_41, .inl (cA_42, 12, .inl (fun _ => 0))), (q_45, .inl (cA_46, 12, .inl (fun _ => 0))), (q_51, .inl (cA_52, 10, .inl (fun _ => 0))), (q_55, .inl (cA_56, 10, .inl (fun _ => 0))), (q_59, .inl (cA_60, 120, .inl (fun _ => 0))), (q_63, .inl (cA_64, 6, .inl (fun _ => 0))), (q_67, .inl (cA_68, 6, .inl (fun _ => 0))), (q_71, .inl (cA_72, 24, .inl (fun _ => 0)))]) [19, 0, 1, 2, 3, 4, 5, 6, 7, 8, 9, 10, 11, 12, 13, 14, 15, 16, 17, 18] rfl
  replace hD : va_D A ((q_75, .inl (cA_76, 115, .inl (z_wk 0))) :: WR) := by rw [eWR, ← z_wk0]; exact hD.sub (ws' := [(q_75, .inl (cA_76, 115, .inl (fun _ => 0))), (h0, .inr (12, [.ref q_1, .int 0, .int 0, .int 0, .int 0, .ref q_5, .ref q_9, .ref q_13, .ref q_17, .ref q_21, .ref q_25, .ref q_29, .ref q_33, .ref q_37, .ref q_41, .ref q_45, .int 0, .int 6, .int 6, .int 0, .ref q_51, .ref q_55, .ref q_59, .int 0, .ref q_63, .ref q_67, .ref q_71, .null, .int 0, .int 0, .int 0, .int 0, .int 0, .int 0, .int 0, .null, .null, .null, .null, .long 0, .int 0, .null, .null, .null, .int 0, .int 0, .int 0, .int 0, .null, .null, .null, .null, .null, .null, .null, .null, .null, .null, .int 0, .null, .null, .int 0, .null, .int 0, .null, .int 0, .int 0, .int 0, .int 0, .null])), (q_1, .inl (cA_2, 700, .inl (fun _ => 0))), (q_5, .inl (cA_6, 80, .inl (fun _ => 0))), (q_9, .inl (cA_10, 80, .inl (fun _ => 0))), (q_13, .inl (cA_14, 80, .inl (fun _ => 0))), (q_17, .inl (cA_18, 80, .inl (fun _ => 0))), (q_21, .inl (cA_22, 80, .inl (fun _ => 0))), (q_25, .inl (cA_26, 11520, .inl (fun _ => 0))), (q_29, .inl (cA_30, 12, .inl (fun _ => 0))), (q_33, .inl (cA_34, 144, .inl (fun _ => 0))), (q_37, .inl (cA_38, 12, .inl (fun _ => 0))), (q_41, .inl (cA_42, 12, .inl (fun _ => 0))), (q_45, .inl (cA_46, 12, .inl (fun _ => 0))), (q_51, .inl (cA_52, 10, .inl (fun _ => 0))), (q_55, .inl (cA_56, 10, .inl (fun _ => 0))), (q_59, .inl (cA_60, 120, .inl (fun _ => 0))), (q_63, .inl (cA_64, 6, .inl (fun _ => 0))), (q_67, .inl (cA_68, 6, .inl (fun _ => 0))), (q_71, .inl (cA_72, 24, .inl (fun _ => 0)))]) [19, 0, 1, 2, 3, 4, 5, 6, 7, 8, 9, 10, 11, 12, 13, 14, 15, 16, 17, 18] (by decide) rfl
  refine va_iast hx hb hK hP hD hS 0 18 rfl rfl (by unfold vp_in; decide) dX12_init_172 ?_
  clear hP hD hS
  intro H_78 locs hP hD hS
  rw [z_wks (i := 0) (c := 108) (k := 0) (by decide) (by decide)] at hP hD
  replace hP : va_P (dC, dI) vwCl ((q_75, .inl (cA_76, 115, .inl (z_wk 1))) :: WR) H_78 := hP
  replace hD : va_D A ((q_75, .inl (cA_76, 115, .inl (z_wk 1))) :: WR) := hD
  refine lv_dup hx hb dX12_init_173 rfl ?_
  refine lv_iconst (v := 1) hx hb dX12_init_174 (by decide) ?_
  refine lv_bipush (v := 101) hx hb dX12_init_175 (by decide) ?_
  refine va_iast hx hb hK hP hD hS 0 18 rfl rfl (by unfold vp_in; decide) dX12_init_177 ?_
  clear hP hD hS locs H_78
  intro H_79 locs hP hD hS
  rw [z_wks (i := 1) (c := 101) (k := 1) (by decide) (by decide)] at hP hD
  replace hP : va_P (dC, dI) vwCl ((q_75, .inl (cA_76, 115, .inl (z_wk 2))) :: WR) H_79 := hP
  replace hD : va_D A ((q_75, .inl (cA_76, 115, .inl (z_wk 2))) :: WR) := hD
  refine lv_dup hx hb dX12_init_178 rfl ?_
  refine lv_iconst (v := 2) hx hb dX12_init_179 (by decide) ?_
  refine lv_bipush (v := 102) hx hb dX12_init_180 (by decide) ?_
  refine va_iast hx hb hK hP hD hS 0 18 rfl rfl (by unfold vp_in; decide) dX12_init_182 ?_
  clear hP hD hS locs H_79
  intro H_80 locs hP hD hS
  rw [z_wks (i := 2) (c := 102) (k := 2) (by decide) (by decide)] at hP hD
  replace hP : va_P (dC, dI) vwCl ((q_75, .inl (cA_76, 115, .inl (z_wk 3))) :: WR) H_80 := hP
  replace hD : va_D A ((q_75, .inl (cA_76, 115, .inl (z_wk 3))) :: WR) := hD
  refine lv_dup hx hb dX12_init_183 rfl ?_
  refine lv_iconst (v := 3) hx hb dX12_init_184 (by decide) ?_
  refine lv_bipush (v := 116) hx hb dX12_init_185 (by decide) ?_
  refine va_iast hx hb hK hP hD hS 0 18 rfl rfl (by unfold vp_in; decide) dX12_init_187 ?_
  clear hP hD hS locs H_80
  intro H_81 locs hP hD hS
  rw [z_wks (i := 3) (c := 116) (k := 3) (by decide) (by decide)] at hP hD
  replace hP : va_P (dC, dI) vwCl ((q_75, .inl (cA_76, 115, .inl (z_wk 4))) :: WR) H_81 := hP
  replace hD : va_D A ((q_75, .inl (cA_76, 115, .inl (z_wk 4))) :: WR) := hD
  refine lv_dup hx hb dX12_init_188 rfl ?_
  refine lv_iconst (v := 4) hx hb dX12_init_189 (by decide) ?_
  refine lv_bipush (v := 32) hx hb dX12_init_190 (by decide) ?_
  refine va_iast hx hb hK hP hD hS 0 18 rfl rfl (by unfold vp_in; decide) dX12_init_192 ?_
  clear hP hD hS locs H_81
  intro H_82 locs hP hD hS
  rw [z_wks (i := 4) (c := 32) (k := 4) (by decide) (by decide)] at hP hD
  replace hP : va_P (dC, dI) vwCl ((q_75, .inl (cA_76, 115, .inl (z_wk 5))) :: WR) H_82 := hP
  replace hD : va_D A ((q_75, .inl (cA_76, 115, .inl (z_wk 5))) :: WR) := hD
  refine lv_dup hx hb dX12_init_193 rfl ?_
  refine lv_iconst (v := 5) hx hb dX12_init_194 (by decide) ?_
  refine lv_bipush (v := 114) hx hb dX12_init_195 (by decide) ?_
  refine va_iast hx hb hK hP hD hS 0 18 rfl rfl (by unfold vp_in; decide) dX12_init_197 ?_
  clear hP hD hS locs H_82
  intro H_83 locs hP hD hS
  rw [z_wks (i := 5) (c := 114) (k := 5) (by decide) (by decide)] at hP hD
  replace hP : va_P (dC, dI) vwCl ((q_75, .inl (cA_76, 115, .inl (z_wk 6))) :: WR) H_83 := hP
  replace hD : va_D A ((q_75, .inl (cA_76, 115, .inl (z_wk 6))) :: WR) := hD
  refine lv_dup hx hb dX12_init_198 rfl ?_
  refine lv_bipush (v := 6) hx hb dX12_init_199 (by decide) ?_
  refine lv_bipush (v := 105) hx hb dX12_init_201 (by decide) ?_
  refine va_iast hx hb hK hP hD hS 0 18 rfl rfl (by unfold vp_in; decide) dX12_init_203 ?_
  clear hP hD hS locs H_83
  intro H_84 locs hP hD hS
  rw [z_wks (i := 6) (c := 105) (k := 6) (by decide) (by decide)] at hP hD
  replace hP : va_P (dC, dI) vwCl ((q_75, .inl (cA_76, 115, .inl (z_wk 7))) :: WR) H_84 := hP
  replace hD : va_D A ((q_75, .inl (cA_76, 115, .inl (z_wk 7))) :: WR) := hD
  refine lv_dup hx hb dX12_init_204 rfl ?_
  refine lv_bipush (v := 7) hx hb dX12_init_205 (by decide) ?_
  refine lv_bipush (v := 103) hx hb dX12_init_207 (by decide) ?_
  refine va_iast hx hb hK hP hD hS 0 18 rfl rfl (by unfold vp_in; decide) dX12_init_209 ?_
  clear hP hD hS locs H_84
  intro H_85 locs hP hD hS
  rw [z_wks (i := 7) (c := 103) (k := 7) (by decide) (by decide)] at hP hD
  replace hP : va_P (dC, dI) vwCl ((q_75, .inl (cA_76, 115, .inl (z_wk 8))) :: WR) H_85 := hP
  replace hD : va_D A ((q_75, .inl (cA_76, 115, .inl (z_wk 8))) :: WR) := hD
  refine lv_dup hx hb dX12_init_210 rfl ?_
  refine lv_bipush (v := 8) hx hb dX12_init_211 (by decide) ?_
  refine lv_bipush (v := 104) hx hb dX12_init_213 (by decide) ?_
  refine va_iast hx hb hK hP hD hS 0 18 rfl rfl (by unfold vp_in; decide) dX12_init_215 ?_
  clear hP hD hS locs H_85
  intro H_86 locs hP hD hS
  rw [z_wks (i := 8) (c := 104) (k := 8) (by decide) (by decide)] at hP hD
  replace hP : va_P (dC, dI) vwCl ((q_75, .inl (cA_76, 115, .inl (z_wk 9))) :: WR) H_86 := hP
  replace hD : va_D A ((q_75, .inl (cA_76, 115, .inl (z_wk 9))) :: WR) := hD
  refine lv_dup hx hb dX12_init_216 rfl ?_
  refine lv_bipush (v := 9) hx hb dX12_init_217 (by decide) ?_
  refine lv_bipush (v := 116) hx hb dX12_init_219 (by decide) ?_
  refine va_iast hx hb hK hP hD hS 0 18 rfl rfl (by unfold vp_in; decide) dX12_init_221 ?_
  clear hP hD hS locs H_86
  intro H_87 locs hP hD hS
  rw [z_wks (i := 9) (c := 116) (k := 9) (by decide) (by decide)] at hP hD
  replace hP : va_P (dC, dI) vwCl ((q_75, .inl (cA_76, 115, .inl (z_wk 10))) :: WR) H_87 := hP
  replace hD : va_D A ((q_75, .inl (cA_76, 115, .inl (z_wk 10))) :: WR) := hD
  refine lv_dup hx hb dX12_init_222 rfl ?_
  refine lv_bipush (v := 10) hx hb dX12_init_223 (by decide) ?_
  refine lv_bipush (v := 32) hx hb dX12_init_225 (by decide) ?_
  refine va_iast hx hb hK hP hD hS 0 18 rfl rfl (by unfold vp_in; decide) dX12_init_227 ?_
  clear hP hD hS locs H_87
  intro H_88 locs hP hD hS
  rw [z_wks (i := 10) (c := 32) (k := 10) (by decide) (by decide)] at hP hD
  replace hP : va_P (dC, dI) vwCl ((q_75, .inl (cA_76, 115, .inl (z_wk 11))) :: WR) H_88 := hP
  replace hD : va_D A ((q_75, .inl (cA_76, 115, .inl (z_wk 11))) :: WR) := hD
  refine lv_dup hx hb dX12_init_228 rfl ?_
  refine lv_bipush (v := 11) hx hb dX12_init_229 (by decide) ?_
  refine lv_bipush (v := 119) hx hb dX12_init_231 (by decide) ?_
  refine va_iast hx hb hK hP hD hS 0 18 rfl rfl (by unfold vp_in; decide) dX12_init_233 ?_
  clear hP hD hS locs H_88
  intro H_89 locs hP hD hS
  rw [z_wks (i := 11) (c := 119) (k := 11) (by decide) (by decide)] at hP hD
  replace hP : va_P (dC, dI) vwCl ((q_75, .inl (cA_76, 115, .inl (z_wk 12))) :: WR) H_89 := hP
  replace hD : va_D A ((q_75, .inl (cA_76, 115, .inl (z_wk 12))) :: WR) := hD
  refine lv_dup hx hb dX12_init_234 rfl ?_
  refine lv_bipush (v := 12) hx hb dX12_init_235 (by decide) ?_
  refine lv_bipush (v := 104) hx hb dX12_init_237 (by decide) ?_
  refine va_iast hx hb hK hP hD hS 0 18 rfl rfl (by unfold vp_in; decide) dX12_init_239 ?_
  clear hP hD hS locs H_89
  intro H_90 locs hP hD hS
  rw [z_wks (i := 12) (c := 104) (k := 12) (by decide) (by decide)] at hP hD
  replace hP : va_P (dC, dI) vwCl ((q_75, .inl (cA_76, 115, .inl (z_wk 13))) :: WR) H_90 := hP
  replace hD : va_D A ((q_75, .inl (cA_76, 115, .inl (z_wk 13))) :: WR) := hD
  refine lv_dup hx hb dX12_init_240 rfl ?_
  refine lv_bipush (v := 13) hx hb dX12_init_241 (by decide) ?_
  refine lv_bipush (v := 111) hx hb dX12_init_243 (by decide) ?_
  refine va_iast hx hb hK hP hD hS 0 18 rfl rfl (by unfold vp_in; decide) dX12_init_245 ?_
  clear hP hD hS locs H_90
  intro H_91 locs hP hD hS
  rw [z_wks (i := 13) (c := 111) (k := 13) (by decide) (by decide)] at hP hD
  replace hP : va_P (dC, dI) vwCl ((q_75, .inl (cA_76, 115, .inl (z_wk 14))) :: WR) H_91 := hP
  replace hD : va_D A ((q_75, .inl (cA_76, 115, .inl (z_wk 14))) :: WR) := hD
  refine lv_dup hx hb dX12_init_246 rfl ?_
  refine lv_bipush (v := 14) hx hb dX12_init_247 (by decide) ?_
  refine lv_bipush (v := 108) hx hb dX12_init_249 (by decide) ?_
  refine va_iast hx hb hK hP hD hS 0 18 rfl rfl (by unfold vp_in; decide) dX12_init_251 ?_
  clear hP hD hS locs H_91
  intro H_92 locs hP hD hS
  rw [z_wks (i := 14) (c := 108) (k := 14) (by decide) (by decide)] at hP hD
  replace hP : va_P (dC, dI) vwCl ((q_75, .inl (cA_76, 115, .inl (z_wk 15))) :: WR) H_92 := hP
  replace hD : va_D A ((q_75, .inl (cA_76, 115, .inl (z_wk 15))) :: WR) := hD
  refine lv_dup hx hb dX12_init_252 rfl ?_
  refine lv_bipush (v := 15) hx hb dX12_init_253 (by decide) ?_
  refine lv_bipush (v := 101) hx hb dX12_init_255 (by decide) ?_
  refine va_iast hx hb hK hP hD hS 0 18 rfl rfl (by unfold vp_in; decide) dX12_init_257 ?_
  clear hP hD hS locs H_92
  intro H_93 locs hP hD hS
  rw [z_wks (i := 15) (c := 101) (k := 15) (by decide) (by decide)] at hP hD
  replace hP : va_P (dC, dI) vwCl ((q_75, .inl (cA_76, 115, .inl (z_wk 16))) :: WR) H_93 := hP
  replace hD : va_D A ((q_75, .inl (cA_76, 115, .inl (z_wk 16))) :: WR) := hD
  refine lv_dup hx hb dX12_init_258 rfl ?_
  refine lv_bipush (v := 16) hx hb dX12_init_259 (by decide) ?_
  refine lv_bipush (v := 32) hx hb dX12_init_261 (by decide) ?_
  refine va_iast hx hb hK hP hD hS 0 18 rfl rfl (by unfold vp_in; decide) dX12_init_263 ?_
  clear hP hD hS locs H_93
  intro H_94 locs hP hD hS
  rw [z_wks (i := 16) (c := 32) (k := 16) (by decide) (by decide)] at hP hD
  replace hP : va_P (dC, dI) vwCl ((q_75, .inl (cA_76, 115, .inl (z_wk 17))) :: WR) H_94 := hP
  replace hD : va_D A ((q_75, .inl (cA_76, 115, .inl (z_wk 17))) :: WR) := hD
  refine lv_dup hx hb dX12_init_264 rfl ?_
  refine lv_bipush (v := 17) hx hb dX12_init_265 (by decide) ?_
  refine lv_bipush (v := 98) hx hb dX12_init_267 (by decide) ?_
  refine va_iast hx hb hK hP hD hS 0 18 rfl rfl (by unfold vp_in; decide) dX12_init_269 ?_
  clear hP hD hS locs H_94
  intro H_95 locs hP hD hS
  rw [z_wks (i := 17) (c := 98) (k := 17) (by decide) (by decide)] at hP hD
  replace hP : va_P (dC, dI) vwCl ((q_75, .inl (cA_76, 115, .inl (z_wk 18))) :: WR) H_95 := hP
  replace hD : va_D A ((q_75, .inl (cA_76, 115, .inl (z_wk 18))) :: WR) := hD
  refine lv_dup hx hb dX12_init_270 rfl ?_
  refine lv_bipush (v := 18) hx hb dX12_init_271 (by decide) ?_
  refine lv_bipush (v := 114) hx hb dX12_init_273 (by decide) ?_
  refine va_iast hx hb hK hP hD hS 0 18 rfl rfl (by unfold vp_in; decide) dX12_init_275 ?_
  clear hP hD hS locs H_95
  intro H_96 locs hP hD hS
  rw [z_wks (i := 18) (c := 114) (k := 18) (by decide) (by decide)] at hP hD
  replace hP : va_P (dC, dI) vwCl ((q_75, .inl (cA_76, 115, .inl (z_wk 19))) :: WR) H_96 := hP
  replace hD : va_D A ((q_75, .inl (cA_76, 115, .inl (z_wk 19))) :: WR) := hD
  refine lv_dup hx hb dX12_init_276 rfl ?_
  refine lv_bipush (v := 19) hx hb dX12_init_277 (by decide) ?_
  refine lv_bipush (v := 111) hx hb dX12_init_279 (by decide) ?_
  refine va_iast hx hb hK hP hD hS 0 18 rfl rfl (by unfold vp_in; decide) dX12_init_281 ?_
  clear hP hD hS locs H_96
  intro H_97 locs hP hD hS
  rw [z_wks (i := 19) (c := 111) (k := 19) (by decide) (by decide)] at hP hD
  replace hP : va_P (dC, dI) vwCl ((q_75, .inl (cA_76, 115, .inl (z_wk 20))) :: WR) H_97 := hP
  replace hD : va_D A ((q_75, .inl (cA_76, 115, .inl (z_wk 20))) :: WR) := hD
  refine lv_dup hx hb dX12_init_282 rfl ?_
  refine lv_bipush (v := 20) hx hb dX12_init_283 (by decide) ?_
  refine lv_bipush (v := 107) hx hb dX12_init_285 (by decide) ?_
  refine va_iast hx hb hK hP hD hS 0 18 rfl rfl (by unfold vp_in; decide) dX12_init_287 ?_
  clear hP hD hS locs H_97
  intro H_98 locs hP hD hS
  rw [z_wks (i := 20) (c := 107) (k := 20) (by decide) (by decide)] at hP hD
  replace hP : va_P (dC, dI) vwCl ((q_75, .inl (cA_76, 115, .inl (z_wk 21))) :: WR) H_98 := hP
  replace hD : va_D A ((q_75, .inl (cA_76, 115, .inl (z_wk 21))) :: WR) := hD
  refine lv_dup hx hb dX12_init_288 rfl ?_
  refine lv_bipush (v := 21) hx hb dX12_init_289 (by decide) ?_
  refine lv_bipush (v := 101) hx hb dX12_init_291 (by decide) ?_
  refine va_iast hx hb hK hP hD hS 0 18 rfl rfl (by unfold vp_in; decide) dX12_init_293 ?_
  clear hP hD hS locs H_98
  intro H_99 locs hP hD hS
  rw [z_wks (i := 21) (c := 101) (k := 21) (by decide) (by decide)] at hP hD
  replace hP : va_P (dC, dI) vwCl ((q_75, .inl (cA_76, 115, .inl (z_wk 22))) :: WR) H_99 := hP
  replace hD : va_D A ((q_75, .inl (cA_76, 115, .inl (z_wk 22))) :: WR) := hD
  refine lv_dup hx hb dX12_init_294 rfl ?_
  refine lv_bipush (v := 22) hx hb dX12_init_295 (by decide) ?_
  refine lv_bipush (v := 110) hx hb dX12_init_297 (by decide) ?_
  refine va_iast hx hb hK hP hD hS 0 18 rfl rfl (by unfold vp_in; decide) dX12_init_299 ?_
  clear hP hD hS locs H_99
  intro H_100 locs hP hD hS
  rw [z_wks (i := 22) (c := 110) (k := 22) (by decide) (by decide)] at hP hD
  replace hP : va_P (dC, dI) vwCl ((q_75, .inl (cA_76, 115, .inl (z_wk 23))) :: WR) H_100 := hP
  replace hD : va_D A ((q_75, .inl (cA_76, 115, .inl (z_wk 23))) :: WR) := hD
  refine lv_dup hx hb dX12_init_300 rfl ?_
  refine lv_bipush (v := 23) hx hb dX12_init_301 (by decide) ?_
  refine lv_bipush (v := 32) hx hb dX12_init_303 (by decide) ?_
  refine va_iast hx hb hK hP hD hS 0 18 rfl rfl (by unfold vp_in; decide) dX12_init_305 ?_
  clear hP hD hS locs H_100
  intro H_101 locs hP hD hS
  rw [z_wks (i := 23) (c := 32) (k := 23) (by decide) (by decide)] at hP hD
  replace hP : va_P (dC, dI) vwCl ((q_75, .inl (cA_76, 115, .inl (z_wk 24))) :: WR) H_101 := hP
  replace hD : va_D A ((q_75, .inl (cA_76, 115, .inl (z_wk 24))) :: WR) := hD
  refine lv_dup hx hb dX12_init_306 rfl ?_
  refine lv_bipush (v := 24) hx hb dX12_init_307 (by decide) ?_
  refine lv_bipush (v := 98) hx hb dX12_init_309 (by decide) ?_
  refine va_iast hx hb hK hP hD hS 0 18 rfl rfl (by unfold vp_in; decide) dX12_init_311 ?_
  clear hP hD hS locs H_101
  intro H_102 locs hP hD hS
  rw [z_wks (i := 24) (c := 98) (k := 24) (by decide) (by decide)] at hP hD
  replace hP : va_P (dC, dI) vwCl ((q_75, .inl (cA_76, 115, .inl (z_wk 25))) :: WR) H_102 := hP
  replace hD : va_D A ((q_75, .inl (cA_76, 115, .inl (z_wk 25))) :: WR) := hD
  refine lv_dup hx hb dX12_init_312 rfl ?_
  refine lv_bipush (v := 25) hx hb dX12_init_313 (by decide) ?_
  refine lv_bipush (v := 117) hx hb dX12_init_315 (by decide) ?_
  refine va_iast hx hb hK hP hD hS 0 18 rfl rfl (by unfold vp_in; decide) dX12_init_317 ?_
  clear hP hD hS locs H_102
  intro H_103 locs hP hD hS
  rw [z_wks (i := 25) (c := 117) (k := 25) (by decide) (by decide)] at hP hD
  replace hP : va_P (dC, dI) vwCl ((q_75, .inl (cA_76, 115, .inl (z_wk 26))) :: WR) H_103 := hP
  replace hD : va_D A ((q_75, .inl (cA_76, 115, .inl (z_wk 26))) :: WR) := hD
  refine lv_dup hx hb dX12_init_318 rfl ?_
  refine lv_bipush (v := 26) hx hb dX12_init_319 (by decide) ?_
  refine lv_bipush (v := 114) hx hb dX12_init_321 (by decide) ?_
  refine va_iast hx hb hK hP hD hS 0 18 rfl rfl (by unfold vp_in; decide) dX12_init_323 ?_
  clear hP hD hS locs H_103
  intro H_104 locs hP hD hS
  rw [z_wks (i := 26) (c := 114) (k := 26) (by decide) (by decide)] at hP hD
  replace hP : va_P (dC, dI) vwCl ((q_75, .inl (cA_76, 115, .inl (z_wk 27))) :: WR) H_104 := hP
  replace hD : va_D A ((q_75, .inl (cA_76, 115, .inl (z_wk 27))) :: WR) := hD
  refine lv_dup hx hb dX12_init_324 rfl ?_
  refine lv_bipush (v := 27) hx hb dX12_init_325 (by decide) ?_
  refine lv_bipush (v := 110) hx hb dX12_init_327 (by decide) ?_
  refine va_iast hx hb hK hP hD hS 0 18 rfl rfl (by unfold vp_in; decide) dX12_init_329 ?_
  clear hP hD hS locs H_104
  intro H_105 locs hP hD hS
  rw [z_wks (i := 27) (c := 110) (k := 27) (by decide) (by decide)] at hP hD
  replace hP : va_P (dC, dI) vwCl ((q_75, .inl (cA_76, 115, .inl (z_wk 28))) :: WR) H_105 := hP
  replace hD : va_D A ((q_75, .inl (cA_76, 115, .inl (z_wk 28))) :: WR) := hD
  refine lv_dup hx hb dX12_init_330 rfl ?_
  refine lv_bipush (v := 28) hx hb dX12_init_331 (by decide) ?_
  refine lv_bipush (v := 116) hx hb dX12_init_333 (by decide) ?_
  refine va_iast hx hb hK hP hD hS 0 18 rfl rfl (by unfold vp_in; decide) dX12_init_335 ?_
  clear hP hD hS locs H_105
  intro H_106 locs hP hD hS
  rw [z_wks (i := 28) (c := 116) (k := 28) (by decide) (by decide)] at hP hD
  replace hP : va_P (dC, dI) vwCl ((q_75, .inl (cA_76, 115, .inl (z_wk 29))) :: WR) H_106 := hP
  replace hD : va_D A ((q_75, .inl (cA_76, 115, .inl (z_wk 29))) :: WR) := hD
  refine lv_dup hx hb dX12_init_336 rfl ?_
  refine lv_bipush (v := 29) hx hb dX12_init_337 (by decide) ?_
  refine lv_bipush (v := 32) hx hb dX12_init_339 (by decide) ?_
  refine va_iast hx hb hK hP hD hS 0 18 rfl rfl (by unfold vp_in; decide) dX12_init_341 ?_
  clear hP hD hS locs H_106
  intro H_107 locs hP hD hS
  rw [z_wks (i := 29) (c := 32) (k := 29) (by decide) (by decide)] at hP hD
  replace hP : va_P (dC, dI) vwCl ((q_75, .inl (cA_76, 115, .inl (z_wk 30))) :: WR) H_107 := hP
  replace hD : va_D A ((q_75, .inl (cA_76, 115, .inl (z_wk 30))) :: WR) := hD
  refine lv_dup hx hb dX12_init_342 rfl ?_
  refine lv_bipush (v := 30) hx hb dX12_init_343 (by decide) ?_
  refine lv_bipush (v := 103) hx hb dX12_init_345 (by decide) ?_
  refine va_iast hx hb hK hP hD hS 0 18 rfl rfl (by unfold vp_in; decide) dX12_init_347 ?_
  clear hP hD hS locs H_107
  intro H_108 locs hP hD hS
  rw [z_wks (i := 30) (c := 103) (k := 30) (by decide) (by decide)] at hP hD
  replace hP : va_P (dC, dI) vwCl ((q_75, .inl (cA_76, 115, .inl (z_wk 31))) :: WR) H_108 := hP
  replace hD : va_D A ((q_75, .inl (cA_76, 115, .inl (z_wk 31))) :: WR) := hD
  refine lv_dup hx hb dX12_init_348 rfl ?_
  refine lv_bipush (v := 31) hx hb dX12_init_349 (by decide) ?_
  refine lv_bipush (v := 110) hx hb dX12_init_351 (by decide) ?_
  refine va_iast hx hb hK hP hD hS 0 18 rfl rfl (by unfold vp_in; decide) dX12_init_353 ?_
  clear hP hD hS locs H_108
  intro H_109 locs hP hD hS
  rw [z_wks (i := 31) (c := 110) (k := 31) (by decide) (by decide)] at hP hD
  replace hP : va_P (dC, dI) vwCl ((q_75, .inl (cA_76, 115, .inl (z_wk 32))) :: WR) H_109 := hP
  replace hD : va_D A ((q_75, .inl (cA_76, 115, .inl (z_wk 32))) :: WR) := hD
  refine lv_dup hx hb dX12_init_354 rfl ?_
  refine lv_bipush (v := 32) hx hb dX12_init_355 (by decide) ?_
  refine lv_bipush (v := 97) hx hb dX12_init_357 (by decide) ?_
  refine va_iast hx hb hK hP hD hS 0 18 rfl rfl (by unfold vp_in; decide) dX12_init_359 ?_
  clear hP hD hS locs H_109
  intro H_110 locs hP hD hS
  rw [z_wks (i := 32) (c := 97) (k := 32) (by decide) (by decide)] at hP hD
  replace hP : va_P (dC, dI) vwCl ((q_75, .inl (cA_76, 115, .inl (z_wk 33))) :: WR) H_110 := hP
  replace hD : va_D A ((q_75, .inl (cA_76, 115, .inl (z_wk 33))) :: WR) := hD
  refine lv_dup hx hb dX12_init_360 rfl ?_
  refine lv_bipush (v := 33) hx hb dX12_init_361 (by decide) ?_
  refine lv_bipush (v := 119) hx hb dX12_init_363 (by decide) ?_
  refine va_iast hx hb hK hP hD hS 0 18 rfl rfl (by unfold vp_in; decide) dX12_init_365 ?_
  clear hP hD hS locs H_110
  intro H_111 locs hP hD hS
  rw [z_wks (i := 33) (c := 119) (k := 33) (by decide) (by decide)] at hP hD
  replace hP : va_P (dC, dI) vwCl ((q_75, .inl (cA_76, 115, .inl (z_wk 34))) :: WR) H_111 := hP
  replace hD : va_D A ((q_75, .inl (cA_76, 115, .inl (z_wk 34))) :: WR) := hD
  refine lv_dup hx hb dX12_init_366 rfl ?_
  refine lv_bipush (v := 34) hx hb dX12_init_367 (by decide) ?_
  refine lv_bipush (v := 101) hx hb dX12_init_369 (by decide) ?_
  refine va_iast hx hb hK hP hD hS 0 18 rfl rfl (by unfold vp_in; decide) dX12_init_371 ?_
  clear hP hD hS locs H_111
  intro H_112 locs hP hD hS
  rw [z_wks (i := 34) (c := 101) (k := 34) (by decide) (by decide)] at hP hD
  replace hP : va_P (dC, dI) vwCl ((q_75, .inl (cA_76, 115, .inl (z_wk 35))) :: WR) H_112 := hP
  replace hD : va_D A ((q_75, .inl (cA_76, 115, .inl (z_wk 35))) :: WR) := hD
  refine lv_dup hx hb dX12_init_372 rfl ?_
  refine lv_bipush (v := 35) hx hb dX12_init_373 (by decide) ?_
  refine lv_bipush (v := 100) hx hb dX12_init_375 (by decide) ?_
  refine va_iast hx hb hK hP hD hS 0 18 rfl rfl (by unfold vp_in; decide) dX12_init_377 ?_
  clear hP hD hS locs H_112
  intro H_113 locs hP hD hS
  rw [z_wks (i := 35) (c := 100) (k := 35) (by decide) (by decide)] at hP hD
  replace hP : va_P (dC, dI) vwCl ((q_75, .inl (cA_76, 115, .inl (z_wk 36))) :: WR) H_113 := hP
  replace hD : va_D A ((q_75, .inl (cA_76, 115, .inl (z_wk 36))) :: WR) := hD
  refine lv_dup hx hb dX12_init_378 rfl ?_
  refine lv_bipush (v := 36) hx hb dX12_init_379 (by decide) ?_
  refine lv_bipush (v := 32) hx hb dX12_init_381 (by decide) ?_
  refine va_iast hx hb hK hP hD hS 0 18 rfl rfl (by unfold vp_in; decide) dX12_init_383 ?_
  clear hP hD hS locs H_113
  intro H_114 locs hP hD hS
  rw [z_wks (i := 36) (c := 32) (k := 36) (by decide) (by decide)] at hP hD
  replace hP : va_P (dC, dI) vwCl ((q_75, .inl (cA_76, 115, .inl (z_wk 37))) :: WR) H_114 := hP
  replace hD : va_D A ((q_75, .inl (cA_76, 115, .inl (z_wk 37))) :: WR) := hD
  refine lv_dup hx hb dX12_init_384 rfl ?_
  refine lv_bipush (v := 37) hx hb dX12_init_385 (by decide) ?_
  refine lv_bipush (v := 99) hx hb dX12_init_387 (by decide) ?_
  refine va_iast hx hb hK hP hD hS 0 18 rfl rfl (by unfold vp_in; decide) dX12_init_389 ?_
  clear hP hD hS locs H_114
  intro H_115 locs hP hD hS
  rw [z_wks (i := 37) (c := 99) (k := 37) (by decide) (by decide)] at hP hD
  replace hP : va_P (dC, dI) vwCl ((q_75, .inl (cA_76, 115, .inl (z_wk 38))) :: WR) H_115 := hP
  replace hD : va_D A ((q_75, .inl (cA_76, 115, .inl (z_wk 38))) :: WR) := hD
  refine lv_dup hx hb dX12_init_390 rfl ?_
  refine lv_bipush (v := 38) hx hb dX12_init_391 (by decide) ?_
  refine lv_bipush (v := 97) hx hb dX12_init_393 (by decide) ?_
  refine va_iast hx hb hK hP hD hS 0 18 rfl rfl (by unfold vp_in; decide) dX12_init_395 ?_
  clear hP hD hS locs H_115
  intro H_116 locs hP hD hS
  rw [z_wks (i := 38) (c := 97) (k := 38) (by decide) (by decide)] at hP hD
  replace hP : va_P (dC, dI) vwCl ((q_75, .inl (cA_76, 115, .inl (z_wk 39))) :: WR) H_116 := hP
  replace hD : va_D A ((q_75, .inl (cA_76, 115, .inl (z_wk 39))) :: WR) := hD
  refine lv_dup hx hb dX12_init_396 rfl ?_
  refine lv_bipush (v := 39) hx hb dX12_init_397 (by decide) ?_
  refine lv_bipush (v := 117) hx hb dX12_init_399 (by decide) ?_
  refine va_iast hx hb hK hP hD hS 0 18 rfl rfl (by unfold vp_in; decide) dX12_init_401 ?_
  clear hP hD hS locs H_116
  intro H_117 locs hP hD hS
  rw [z_wks (i := 39) (c := 117) (k := 39) (by decide) (by decide)] at hP hD
  replace hP : va_P (dC, dI) vwCl ((q_75, .inl (cA_76, 115, .inl (z_wk 40))) :: WR) H_117 := hP
  replace hD : va_D A ((q_75, .inl (cA_76, 115, .inl (z_wk 40))) :: WR) := hD
  refine lv_dup hx hb dX12_init_402 rfl ?_
  refine lv_bipush (v := 40) hx hb dX12_init_403 (by decide) ?_
  refine lv_bipush (v := 115) hx hb dX12_init_405 (by decide) ?_
  refine va_iast hx hb hK hP hD hS 0 18 rfl rfl (by unfold vp_in; decide) dX12_init_407 ?_
  clear hP hD hS locs H_117
  intro H_118 locs hP hD hS
  rw [z_wks (i := 40) (c := 115) (k := 40) (by decide) (by decide)] at hP hD
  replace hP : va_P (dC, dI) vwCl ((q_75, .inl (cA_76, 115, .inl (z_wk 41))) :: WR) H_118 := hP
  replace hD : va_D A ((q_75, .inl (cA_76, 115, .inl (z_wk 41))) :: WR) := hD
  refine lv_dup hx hb dX12_init_408 rfl ?_
  refine lv_bipush (v := 41) hx hb dX12_init_409 (by decide) ?_
  refine lv_bipush (v := 101) hx hb dX12_init_411 (by decide) ?_
  refine va_iast hx hb hK hP hD hS 0 18 rfl rfl (by unfold vp_in; decide) dX12_init_413 ?_
  clear hP hD hS locs H_118
  intro H_119 locs hP hD hS
  rw [z_wks (i := 41) (c := 101) (k := 41) (by decide) (by decide)] at hP hD
  replace hP : va_P (dC, dI) vwCl ((q_75, .inl (cA_76, 115, .inl (z_wk 42))) :: WR) H_119 := hP
  replace hD : va_D A ((q_75, .inl (cA_76, 115, .inl (z_wk 42))) :: WR) := hD
  refine lv_dup hx hb dX12_init_414 rfl ?_
  refine lv_bipush (v := 42) hx hb dX12_init_415 (by decide) ?_
  refine lv_bipush (v := 32) hx hb dX12_init_417 (by decide) ?_
  refine va_iast hx hb hK hP hD hS 0 18 rfl rfl (by unfold vp_in; decide) dX12_init_419 ?_
  clear hP hD hS locs H_119
  intro H_120 locs hP hD hS
  rw [z_wks (i := 42) (c := 32) (k := 42) (by decide) (by decide)] at hP hD
  replace hP : va_P (dC, dI) vwCl ((q_75, .inl (cA_76, 115, .inl (z_wk 43))) :: WR) H_120 := hP
  replace hD : va_D A ((q_75, .inl (cA_76, 115, .inl (z_wk 43))) :: WR) := hD
  refine lv_dup hx hb dX12_init_420 rfl ?_
  refine lv_bipush (v := 43) hx hb dX12_init_421 (by decide) ?_
  refine lv_bipush (v := 111) hx hb dX12_init_423 (by decide) ?_
  refine va_iast hx hb hK hP hD hS 0 18 rfl rfl (by unfold vp_in; decide) dX12_init_425 ?_
  clear hP hD hS locs H_120
  intro H_121 locs hP hD hS
  rw [z_wks (i := 43) (c := 111) (k := 43) (by decide) (by decide)] at hP hD
  replace hP : va_P (dC, dI) vwCl ((q_75, .inl (cA_76, 115, .inl (z_wk 44))) :: WR) H_121 := hP
  replace hD : va_D A ((q_75, .inl (cA_76, 115, .inl (z_wk 44))) :: WR) := hD
  refine lv_dup hx hb dX12_init_426 rfl ?_
  refine lv_bipush (v := 44) hx hb dX12_init_427 (by decide) ?_
  refine lv_bipush (v := 114) hx hb dX12_init_429 (by decide) ?_
  refine va_iast hx hb hK hP hD hS 0 18 rfl rfl (by unfold vp_in; decide) dX12_init_431 ?_
  clear hP hD hS locs H_121
  intro H_122 locs hP hD hS
  rw [z_wks (i := 44) (c := 114) (k := 44) (by decide) (by decide)] at hP hD
  replace hP : va_P (dC, dI) vwCl ((q_75, .inl (cA_76, 115, .inl (z_wk 45))) :: WR) H_122 := hP
  replace hD : va_D A ((q_75, .inl (cA_76, 115, .inl (z_wk 45))) :: WR) := hD
  refine lv_dup hx hb dX12_init_432 rfl ?_
  refine lv_bipush (v := 45) hx hb dX12_init_433 (by decide) ?_
  refine lv_bipush (v := 32) hx hb dX12_init_435 (by decide) ?_
  refine va_iast hx hb hK hP hD hS 0 18 rfl rfl (by unfold vp_in; decide) dX12_init_437 ?_
  clear hP hD hS locs H_122
  intro H_123 locs hP hD hS
  rw [z_wks (i := 45) (c := 32) (k := 45) (by decide) (by decide)] at hP hD
  replace hP : va_P (dC, dI) vwCl ((q_75, .inl (cA_76, 115, .inl (z_wk 46))) :: WR) H_123 := hP
  replace hD : va_D A ((q_75, .inl (cA_76, 115, .inl (z_wk 46))) :: WR) := hD
  refine lv_dup hx hb dX12_init_438 rfl ?_
  refine lv_bipush (v := 46) hx hb dX12_init_439 (by decide) ?_
  refine lv_bipush (v := 97) hx hb dX12_init_441 (by decide) ?_
  refine va_iast hx hb hK hP hD hS 0 18 rfl rfl (by unfold vp_in; decide) dX12_init_443 ?_
  clear hP hD hS locs H_123
  intro H_124 locs hP hD hS
  rw [z_wks (i := 46) (c := 97) (k := 46) (by decide) (by decide)] at hP hD
  replace hP : va_P (dC, dI) vwCl ((q_75, .inl (cA_76, 115, .inl (z_wk 47))) :: WR) H_124 := hP
  replace hD : va_D A ((q_75, .inl (cA_76, 115, .inl (z_wk 47))) :: WR) := hD
  refine lv_dup hx hb dX12_init_444 rfl ?_
  refine lv_bipush (v := 47) hx hb dX12_init_445 (by decide) ?_
  refine lv_bipush (v := 110) hx hb dX12_init_447 (by decide) ?_
  refine va_iast hx hb hK hP hD hS 0 18 rfl rfl (by unfold vp_in; decide) dX12_init_449 ?_
  clear hP hD hS locs H_124
  intro H_125 locs hP hD hS
  rw [z_wks (i := 47) (c := 110) (k := 47) (by decide) (by decide)] at hP hD
  replace hP : va_P (dC, dI) vwCl ((q_75, .inl (cA_76, 115, .inl (z_wk 48))) :: WR) H_125 := hP
  replace hD : va_D A ((q_75, .inl (cA_76, 115, .inl (z_wk 48))) :: WR) := hD
  refine lv_dup hx hb dX12_init_450 rfl ?_
  refine lv_bipush (v := 48) hx hb dX12_init_451 (by decide) ?_
  refine lv_bipush (v := 100) hx hb dX12_init_453 (by decide) ?_
  refine va_iast hx hb hK hP hD hS 0 18 rfl rfl (by unfold vp_in; decide) dX12_init_455 ?_
  clear hP hD hS locs H_125
  intro H_126 locs hP hD hS
  rw [z_wks (i := 48) (c := 100) (k := 48) (by decide) (by decide)] at hP hD
  replace hP : va_P (dC, dI) vwCl ((q_75, .inl (cA_76, 115, .inl (z_wk 49))) :: WR) H_126 := hP
  replace hD : va_D A ((q_75, .inl (cA_76, 115, .inl (z_wk 49))) :: WR) := hD
  refine lv_dup hx hb dX12_init_456 rfl ?_
  refine lv_bipush (v := 49) hx hb dX12_init_457 (by decide) ?_
  refine lv_bipush (v := 32) hx hb dX12_init_459 (by decide) ?_
  refine va_iast hx hb hK hP hD hS 0 18 rfl rfl (by unfold vp_in; decide) dX12_init_461 ?_
  clear hP hD hS locs H_126
  intro H_127 locs hP hD hS
  rw [z_wks (i := 49) (c := 32) (k := 49) (by decide) (by decide)] at hP hD
  replace hP : va_P (dC, dI) vwCl ((q_75, .inl (cA_76, 115, .inl (z_wk 50))) :: WR) H_127 := hP
  replace hD : va_D A ((q_75, .inl (cA_76, 115, .inl (z_wk 50))) :: WR) := hD
  refine lv_dup hx hb dX12_init_462 rfl ?_
  refine lv_bipush (v := 50) hx hb dX12_init_463 (by decide) ?_
  refine lv_bipush (v := 110) hx hb dX12_init_465 (by decide) ?_
  refine va_iast hx hb hK hP hD hS 0 18 rfl rfl (by unfold vp_in; decide) dX12_init_467 ?_
  clear hP hD hS locs H_127
  intro H_128 locs hP hD hS
  rw [z_wks (i := 50) (c := 110) (k := 50) (by decide) (by decide)] at hP hD
  replace hP : va_P (dC, dI) vwCl ((q_75, .inl (cA_76, 115, .inl (z_wk 51))) :: WR) H_128 := hP
  replace hD : va_D A ((q_75, .inl (cA_76, 115, .inl (z_wk 51))) :: WR) := hD
  refine lv_dup hx hb dX12_init_468 rfl ?_
  refine lv_bipush (v := 51) hx hb dX12_init_469 (by decide) ?_
  refine lv_bipush (v := 111) hx hb dX12_init_471 (by decide) ?_
  refine va_iast hx hb hK hP hD hS 0 18 rfl rfl (by unfold vp_in; decide) dX12_init_473 ?_
  clear hP hD hS locs H_128
  intro H_129 locs hP hD hS
  rw [z_wks (i := 51) (c := 111) (k := 51) (by decide) (by decide)] at hP hD
  replace hP : va_P (dC, dI) vwCl ((q_75, .inl (cA_76, 115, .inl (z_wk 52))) :: WR) H_129 := hP
  replace hD : va_D A ((q_75, .inl (cA_76, 115, .inl (z_wk 52))) :: WR) := hD
  refine lv_dup hx hb dX12_init_474 rfl ?_
  refine lv_bipush (v := 52) hx hb dX12_init_475 (by decide) ?_
  refine lv_bipush (v := 116) hx hb dX12_init_477 (by decide) ?_
  refine va_iast hx hb hK hP hD hS 0 18 rfl rfl (by unfold vp_in; decide) dX12_init_479 ?_
  clear hP hD hS locs H_129
  intro H_130 locs hP hD hS
  rw [z_wks (i := 52) (c := 116) (k := 52) (by decide) (by decide)] at hP hD
  replace hP : va_P (dC, dI) vwCl ((q_75, .inl (cA_76, 115, .inl (z_wk 53))) :: WR) H_130 := hP
  replace hD : va_D A ((q_75, .inl (cA_76, 115, .inl (z_wk 53))) :: WR) := hD
  refine lv_dup hx hb dX12_init_480 rfl ?_
  refine lv_bipush (v := 53) hx hb dX12_init_481 (by decide) ?_
  refine lv_bipush (v := 32) hx hb dX12_init_483 (by decide) ?_
  refine va_iast hx hb hK hP hD hS 0 18 rfl rfl (by unfold vp_in; decide) dX12_init_485 ?_
  clear hP hD hS locs H_130
  intro H_131 locs hP hD hS
  rw [z_wks (i := 53) (c := 32) (k := 53) (by decide) (by decide)] at hP hD
  replace hP : va_P (dC, dI) vwCl ((q_75, .inl (cA_76, 115, .inl (z_wk 54))) :: WR) H_131 := hP
  replace hD : va_D A ((q_75, .inl (cA_76, 115, .inl (z_wk 54))) :: WR) := hD
  refine lv_dup hx hb dX12_init_486 rfl ?_
  refine lv_bipush (v := 54) hx hb dX12_init_487 (by decide) ?_
  refine lv_bipush (v := 116) hx hb dX12_init_489 (by decide) ?_
  refine va_iast hx hb hK hP hD hS 0 18 rfl rfl (by unfold vp_in; decide) dX12_init_491 ?_
  clear hP hD hS locs H_131
  intro H_132 locs hP hD hS
  rw [z_wks (i := 54) (c := 116) (k := 54) (by decide) (by decide)] at hP hD
  replace hP : va_P (dC, dI) vwCl ((q_75, .inl (cA_76, 115, .inl (z_wk 55))) :: WR) H_132 := hP
  replace hD : va_D A ((q_75, .inl (cA_76, 115, .inl (z_wk 55))) :: WR) := hD
  refine lv_dup hx hb dX12_init_492 rfl ?_
  refine lv_bipush (v := 55) hx hb dX12_init_493 (by decide) ?_
  refine lv_bipush (v := 104) hx hb dX12_init_495 (by decide) ?_
  refine va_iast hx hb hK hP hD hS 0 18 rfl rfl (by unfold vp_in; decide) dX12_init_497 ?_
  clear hP hD hS locs H_132
  intro H_133 locs hP hD hS
  rw [z_wks (i := 55) (c := 104) (k := 55) (by decide) (by decide)] at hP hD
  replace hP : va_P (dC, dI) vwCl ((q_75, .inl (cA_76, 115, .inl (z_wk 56))) :: WR) H_133 := hP
  replace hD : va_D A ((q_75, .inl (cA_76, 115, .inl (z_wk 56))) :: WR) := hD
  refine lv_dup hx hb dX12_init_498 rfl ?_
  refine lv_bipush (v := 56) hx hb dX12_init_499 (by decide) ?_
  refine lv_bipush (v := 101) hx hb dX12_init_501 (by decide) ?_
  refine va_iast hx hb hK hP hD hS 0 18 rfl rfl (by unfold vp_in; decide) dX12_init_503 ?_
  clear hP hD hS locs H_133
  intro H_134 locs hP hD hS
  rw [z_wks (i := 56) (c := 101) (k := 56) (by decide) (by decide)] at hP hD
  replace hP : va_P (dC, dI) vwCl ((q_75, .inl (cA_76, 115, .inl (z_wk 57))) :: WR) H_134 := hP
  replace hD : va_D A ((q_75, .inl (cA_76, 115, .inl (z_wk 57))) :: WR) := hD
  refine lv_dup hx hb dX12_init_504 rfl ?_
  refine lv_bipush (v := 57) hx hb dX12_init_505 (by decide) ?_
  refine lv_bipush (v := 110) hx hb dX12_init_507 (by decide) ?_
  refine va_iast hx hb hK hP hD hS 0 18 rfl rfl (by unfold vp_in; decide) dX12_init_509 ?_
  clear hP hD hS locs H_134
  intro H_135 locs hP hD hS
  rw [z_wks (i := 57) (c := 110) (k := 57) (by decide) (by decide)] at hP hD
  replace hP : va_P (dC, dI) vwCl ((q_75, .inl (cA_76, 115, .inl (z_wk 58))) :: WR) H_135 := hP
  replace hD : va_D A ((q_75, .inl (cA_76, 115, .inl (z_wk 58))) :: WR) := hD
  refine lv_dup hx hb dX12_init_510 rfl ?_
  refine lv_bipush (v := 58) hx hb dX12_init_511 (by decide) ?_
  refine lv_bipush (v := 32) hx hb dX12_init_513 (by decide) ?_
  refine va_iast hx hb hK hP hD hS 0 18 rfl rfl (by unfold vp_in; decide) dX12_init_515 ?_
  clear hP hD hS locs H_135
  intro H_136 locs hP hD hS
  rw [z_wks (i := 58) (c := 32) (k := 58) (by decide) (by decide)] at hP hD
  replace hP : va_P (dC, dI) vwCl ((q_75, .inl (cA_76, 115, .inl (z_wk 59))) :: WR) H_136 := hP
  replace hD : va_D A ((q_75, .inl (cA_76, 115, .inl (z_wk 59))) :: WR) := hD
  refine lv_dup hx hb dX12_init_516 rfl ?_
  refine lv_bipush (v := 59) hx hb dX12_init_517 (by decide) ?_
  refine lv_bipush (v := 115) hx hb dX12_init_519 (by decide) ?_
  refine va_iast hx hb hK hP hD hS 0 18 rfl rfl (by unfold vp_in; decide) dX12_init_521 ?_
  clear hP hD hS locs H_136
  intro H_137 locs hP hD hS
  rw [z_wks (i := 59) (c := 115) (k := 59) (by decide) (by decide)] at hP hD
  replace hP : va_P (dC, dI) vwCl ((q_75, .inl (cA_76, 115, .inl (z_wk 60))) :: WR) H_137 := hP
  replace hD : va_D A ((q_75, .inl (cA_76, 115, .inl (z_wk 60))) :: WR) := hD
  refine lv_dup hx hb dX12_init_522 rfl ?_
  refine lv_bipush (v := 60) hx hb dX12_init_523 (by decide) ?_
  refine lv_bipush (v := 105) hx hb dX12_init_525 (by decide) ?_
  refine va_iast hx hb hK hP hD hS 0 18 rfl rfl (by unfold vp_in; decide) dX12_init_527 ?_
  clear hP hD hS locs H_137
  intro H_138 locs hP hD hS
  rw [z_wks (i := 60) (c := 105) (k := 60) (by decide) (by decide)] at hP hD
  replace hP : va_P (dC, dI) vwCl ((q_75, .inl (cA_76, 115, .inl (z_wk 61))) :: WR) H_138 := hP
  replace hD : va_D A ((q_75, .inl (cA_76, 115, .inl (z_wk 61))) :: WR) := hD
  refine lv_dup hx hb dX12_init_528 rfl ?_
  refine lv_bipush (v := 61) hx hb dX12_init_529 (by decide) ?_
  refine lv_bipush (v := 122) hx hb dX12_init_531 (by decide) ?_
  refine va_iast hx hb hK hP hD hS 0 18 rfl rfl (by unfold vp_in; decide) dX12_init_533 ?_
  clear hP hD hS locs H_138
  intro H_139 locs hP hD hS
  rw [z_wks (i := 61) (c := 122) (k := 61) (by decide) (by decide)] at hP hD
  replace hP : va_P (dC, dI) vwCl ((q_75, .inl (cA_76, 115, .inl (z_wk 62))) :: WR) H_139 := hP
  replace hD : va_D A ((q_75, .inl (cA_76, 115, .inl (z_wk 62))) :: WR) := hD
  refine lv_dup hx hb dX12_init_534 rfl ?_
  refine lv_bipush (v := 62) hx hb dX12_init_535 (by decide) ?_
  refine lv_bipush (v := 101) hx hb dX12_init_537 (by decide) ?_
  refine va_iast hx hb hK hP hD hS 0 18 rfl rfl (by unfold vp_in; decide) dX12_init_539 ?_
  clear hP hD hS locs H_139
  intro H_140 locs hP hD hS
  rw [z_wks (i := 62) (c := 101) (k := 62) (by decide) (by decide)] at hP hD
  replace hP : va_P (dC, dI) vwCl ((q_75, .inl (cA_76, 115, .inl (z_wk 63))) :: WR) H_140 := hP
  replace hD : va_D A ((q_75, .inl (cA_76, 115, .inl (z_wk 63))) :: WR) := hD
  refine lv_dup hx hb dX12_init_540 rfl ?_
  refine lv_bipush (v := 63) hx hb dX12_init_541 (by decide) ?_
  refine lv_bipush (v := 32) hx hb dX12_init_543 (by decide) ?_
  refine va_iast hx hb hK hP hD hS 0 18 rfl rfl (by unfold vp_in; decide) dX12_init_545 ?_
  clear hP hD hS locs H_140
  intro H_141 locs hP hD hS
  rw [z_wks (i := 63) (c := 32) (k := 63) (by decide) (by decide)] at hP hD
  replace hP : va_P (dC, dI) vwCl ((q_75, .inl (cA_76, 115, .inl (z_wk 64))) :: WR) H_141 := hP
  replace hD : va_D A ((q_75, .inl (cA_76, 115, .inl (z_wk 64))) :: WR) := hD
  refine lv_dup hx hb dX12_init_546 rfl ?_
  refine lv_bipush (v := 64) hx hb dX12_init_547 (by decide) ?_
  refine lv_bipush (v := 97) hx hb dX12_init_549 (by decide) ?_
  refine va_iast hx hb hK hP hD hS 0 18 rfl rfl (by unfold vp_in; decide) dX12_init_551 ?_
  clear hP hD hS locs H_141
  intro H_142 locs hP hD hS
  rw [z_wks (i := 64) (c := 97) (k := 64) (by decide) (by decide)] at hP hD
  replace hP : va_P (dC, dI) vwCl ((q_75, .inl (cA_76, 115, .inl (z_wk 65))) :: WR) H_142 := hP
  replace hD : va_D A ((q_75, .inl (cA_76, 115, .inl (z_wk 65))) :: WR) := hD
  refine lv_dup hx hb dX12_init_552 rfl ?_
  refine lv_bipush (v := 65) hx hb dX12_init_553 (by decide) ?_
  refine lv_bipush (v := 103) hx hb dX12_init_555 (by decide) ?_
  refine va_iast hx hb hK hP hD hS 0 18 rfl rfl (by unfold vp_in; decide) dX12_init_557 ?_
  clear hP hD hS locs H_142
  intro H_143 locs hP hD hS
  rw [z_wks (i := 65) (c := 103) (k := 65) (by decide) (by decide)] at hP hD
  replace hP : va_P (dC, dI) vwCl ((q_75, .inl (cA_76, 115, .inl (z_wk 66))) :: WR) H_143 := hP
  replace hD : va_D A ((q_75, .inl (cA_76, 115, .inl (z_wk 66))) :: WR) := hD
  refine lv_dup hx hb dX12_init_558 rfl ?_
  refine lv_bipush (v := 66) hx hb dX12_init_559 (by decide) ?_
  refine lv_bipush (v := 101) hx hb dX12_init_561 (by decide) ?_
  refine va_iast hx hb hK hP hD hS 0 18 rfl rfl (by unfold vp_in; decide) dX12_init_563 ?_
  clear hP hD hS locs H_143
  intro H_144 locs hP hD hS
  rw [z_wks (i := 66) (c := 101) (k := 66) (by decide) (by decide)] at hP hD
  replace hP : va_P (dC, dI) vwCl ((q_75, .inl (cA_76, 115, .inl (z_wk 67))) :: WR) H_144 := hP
  replace hD : va_D A ((q_75, .inl (cA_76, 115, .inl (z_wk 67))) :: WR) := hD
  refine lv_dup hx hb dX12_init_564 rfl ?_
  refine lv_bipush (v := 67) hx hb dX12_init_565 (by decide) ?_
  refine lv_bipush (v := 32) hx hb dX12_init_567 (by decide) ?_
  refine va_iast hx hb hK hP hD hS 0 18 rfl rfl (by unfold vp_in; decide) dX12_init_569 ?_
  clear hP hD hS locs H_144
  intro H_145 locs hP hD hS
  rw [z_wks (i := 67) (c := 32) (k := 67) (by decide) (by decide)] at hP hD
  replace hP : va_P (dC, dI) vwCl ((q_75, .inl (cA_76, 115, .inl (z_wk 68))) :: WR) H_145 := hP
  replace hD : va_D A ((q_75, .inl (cA_76, 115, .inl (z_wk 68))) :: WR) := hD
  refine lv_dup hx hb dX12_init_570 rfl ?_
  refine lv_bipush (v := 68) hx hb dX12_init_571 (by decide) ?_
  refine lv_bipush (v := 103) hx hb dX12_init_573 (by decide) ?_
  refine va_iast hx hb hK hP hD hS 0 18 rfl rfl (by unfold vp_in; decide) dX12_init_575 ?_
  clear hP hD hS locs H_145
  intro H_146 locs hP hD hS
  rw [z_wks (i := 68) (c := 103) (k := 68) (by decide) (by decide)] at hP hD
  replace hP : va_P (dC, dI) vwCl ((q_75, .inl (cA_76, 115, .inl (z_wk 69))) :: WR) H_146 := hP
  replace hD : va_D A ((q_75, .inl (cA_76, 115, .inl (z_wk 69))) :: WR) := hD
  refine lv_dup hx hb dX12_init_576 rfl ?_
  refine lv_bipush (v := 69) hx hb dX12_init_577 (by decide) ?_
  refine lv_bipush (v := 114) hx hb dX12_init_579 (by decide) ?_
  refine va_iast hx hb hK hP hD hS 0 18 rfl rfl (by unfold vp_in; decide) dX12_init_581 ?_
  clear hP hD hS locs H_146
  intro H_147 locs hP hD hS
  rw [z_wks (i := 69) (c := 114) (k := 69) (by decide) (by decide)] at hP hD
  replace hP : va_P (dC, dI) vwCl ((q_75, .inl (cA_76, 115, .inl (z_wk 70))) :: WR) H_147 := hP
  replace hD : va_D A ((q_75, .inl (cA_76, 115, .inl (z_wk 70))) :: WR) := hD
  refine lv_dup hx hb dX12_init_582 rfl ?_
  refine lv_bipush (v := 70) hx hb dX12_init_583 (by decide) ?_
  refine lv_bipush (v := 111) hx hb dX12_init_585 (by decide) ?_
  refine va_iast hx hb hK hP hD hS 0 18 rfl rfl (by unfold vp_in; decide) dX12_init_587 ?_
  clear hP hD hS locs H_147
  intro H_148 locs hP hD hS
  rw [z_wks (i := 70) (c := 111) (k := 70) (by decide) (by decide)] at hP hD
  replace hP : va_P (dC, dI) vwCl ((q_75, .inl (cA_76, 115, .inl (z_wk 71))) :: WR) H_148 := hP
  replace hD : va_D A ((q_75, .inl (cA_76, 115, .inl (z_wk 71))) :: WR) := hD
  refine lv_dup hx hb dX12_init_588 rfl ?_
  refine lv_bipush (v := 71) hx hb dX12_init_589 (by decide) ?_
  refine lv_bipush (v := 119) hx hb dX12_init_591 (by decide) ?_
  refine va_iast hx hb hK hP hD hS 0 18 rfl rfl (by unfold vp_in; decide) dX12_init_593 ?_
  clear hP hD hS locs H_148
  intro H_149 locs hP hD hS
  rw [z_wks (i := 71) (c := 119) (k := 71) (by decide) (by decide)] at hP hD
  replace hP : va_P (dC, dI) vwCl ((q_75, .inl (cA_76, 115, .inl (z_wk 72))) :: WR) H_149 := hP
  replace hD : va_D A ((q_75, .inl (cA_76, 115, .inl (z_wk 72))) :: WR) := hD
  refine lv_dup hx hb dX12_init_594 rfl ?_
  refine lv_bipush (v := 72) hx hb dX12_init_595 (by decide) ?_
  refine lv_bipush (v := 116) hx hb dX12_init_597 (by decide) ?_
  refine va_iast hx hb hK hP hD hS 0 18 rfl rfl (by unfold vp_in; decide) dX12_init_599 ?_
  clear hP hD hS locs H_149
  intro H_150 locs hP hD hS
  rw [z_wks (i := 72) (c := 116) (k := 72) (by decide) (by decide)] at hP hD
  replace hP : va_P (dC, dI) vwCl ((q_75, .inl (cA_76, 115, .inl (z_wk 73))) :: WR) H_150 := hP
  replace hD : va_D A ((q_75, .inl (cA_76, 115, .inl (z_wk 73))) :: WR) := hD
  refine lv_dup hx hb dX12_init_600 rfl ?_
  refine lv_bipush (v := 73) hx hb dX12_init_601 (by decide) ?_
  refine lv_bipush (v := 104) hx hb dX12_init_603 (by decide) ?_
  refine va_iast hx hb hK hP hD hS 0 18 rfl rfl (by unfold vp_in; decide) dX12_init_605 ?_
  clear hP hD hS locs H_150
  intro H_151 locs hP hD hS
  rw [z_wks (i := 73) (c := 104) (k := 73) (by decide) (by decide)] at hP hD
  replace hP : va_P (dC, dI) vwCl ((q_75, .inl (cA_76, 115, .inl (z_wk 74))) :: WR) H_151 := hP
  replace hD : va_D A ((q_75, .inl (cA_76, 115, .inl (z_wk 74))) :: WR) := hD
  refine lv_dup hx hb dX12_init_606 rfl ?_
  refine lv_bipush (v := 74) hx hb dX12_init_607 (by decide) ?_
  refine lv_bipush (v := 32) hx hb dX12_init_609 (by decide) ?_
  refine va_iast hx hb hK hP hD hS 0 18 rfl rfl (by unfold vp_in; decide) dX12_init_611 ?_
  clear hP hD hS locs H_151
  intro H_152 locs hP hD hS
  rw [z_wks (i := 74) (c := 32) (k := 74) (by decide) (by decide)] at hP hD
  replace hP : va_P (dC, dI) vwCl ((q_75, .inl (cA_76, 115, .inl (z_wk 75))) :: WR) H_152 := hP
  replace hD : va_D A ((q_75, .inl (cA_76, 115, .inl (z_wk 75))) :: WR) := hD
  refine lv_dup hx hb dX12_init_612 rfl ?_
  refine lv_bipush (v := 75) hx hb dX12_init_613 (by decide) ?_
  refine lv_bipush (v := 100) hx hb dX12_init_615 (by decide) ?_
  refine va_iast hx hb hK hP hD hS 0 18 rfl rfl (by unfold vp_in; decide) dX12_init_617 ?_
  clear hP hD hS locs H_152
  intro H_153 locs hP hD hS
  rw [z_wks (i := 75) (c := 100) (k := 75) (by decide) (by decide)] at hP hD
  replace hP : va_P (dC, dI) vwCl ((q_75, .inl (cA_76, 115, .inl (z_wk 76))) :: WR) H_153 := hP
  replace hD : va_D A ((q_75, .inl (cA_76, 115, .inl (z_wk 76))) :: WR) := hD
  refine lv_dup hx hb dX12_init_618 rfl ?_
  refine lv_bipush (v := 76) hx hb dX12_init_619 (by decide) ?_
  refine lv_bipush (v := 97) hx hb dX12_init_621 (by decide) ?_
  refine va_iast hx hb hK hP hD hS 0 18 rfl rfl (by unfold vp_in; decide) dX12_init_623 ?_
  clear hP hD hS locs H_153
  intro H_154 locs hP hD hS
  rw [z_wks (i := 76) (c := 97) (k := 76) (by decide) (by decide)] at hP hD
  replace hP : va_P (dC, dI) vwCl ((q_75, .inl (cA_76, 115, .inl (z_wk 77))) :: WR) H_154 := hP
  replace hD : va_D A ((q_75, .inl (cA_76, 115, .inl (z_wk 77))) :: WR) := hD
  refine lv_dup hx hb dX12_init_624 rfl ?_
  refine lv_bipush (v := 77) hx hb dX12_init_625 (by decide) ?_
  refine lv_bipush (v := 121) hx hb dX12_init_627 (by decide) ?_
  refine va_iast hx hb hK hP hD hS 0 18 rfl rfl (by unfold vp_in; decide) dX12_init_629 ?_
  clear hP hD hS locs H_154
  intro H_155 locs hP hD hS
  rw [z_wks (i := 77) (c := 121) (k := 77) (by decide) (by decide)] at hP hD
  replace hP : va_P (dC, dI) vwCl ((q_75, .inl (cA_76, 115, .inl (z_wk 78))) :: WR) H_155 := hP
  replace hD : va_D A ((q_75, .inl (cA_76, 115, .inl (z_wk 78))) :: WR) := hD
  refine lv_dup hx hb dX12_init_630 rfl ?_
  refine lv_bipush (v := 78) hx hb dX12_init_631 (by decide) ?_
  refine lv_bipush (v := 115) hx hb dX12_init_633 (by decide) ?_
  refine va_iast hx hb hK hP hD hS 0 18 rfl rfl (by unfold vp_in; decide) dX12_init_635 ?_
  clear hP hD hS locs H_155
  intro H_156 locs hP hD hS
  rw [z_wks (i := 78) (c := 115) (k := 78) (by decide) (by decide)] at hP hD
  replace hP : va_P (dC, dI) vwCl ((q_75, .inl (cA_76, 115, .inl (z_wk 79))) :: WR) H_156 := hP
  replace hD : va_D A ((q_75, .inl (cA_76, 115, .inl (z_wk 79))) :: WR) := hD
  refine lv_dup hx hb dX12_init_636 rfl ?_
  refine lv_bipush (v := 79) hx hb dX12_init_637 (by decide) ?_
  refine lv_bipush (v := 32) hx hb dX12_init_639 (by decide) ?_
  refine va_iast hx hb hK hP hD hS 0 18 rfl rfl (by unfold vp_in; decide) dX12_init_641 ?_
  clear hP hD hS locs H_156
  intro H_157 locs hP hD hS
  rw [z_wks (i := 79) (c := 32) (k := 79) (by decide) (by decide)] at hP hD
  replace hP : va_P (dC, dI) vwCl ((q_75, .inl (cA_76, 115, .inl (z_wk 80))) :: WR) H_157 := hP
  replace hD : va_D A ((q_75, .inl (cA_76, 115, .inl (z_wk 80))) :: WR) := hD
  refine lv_dup hx hb dX12_init_642 rfl ?_
  refine lv_bipush (v := 80) hx hb dX12_init_643 (by decide) ?_
  refine lv_bipush (v := 115) hx hb dX12_init_645 (by decide) ?_
  refine va_iast hx hb hK hP hD hS 0 18 rfl rfl (by unfold vp_in; decide) dX12_init_647 ?_
  clear hP hD hS locs H_157
  intro H_158 locs hP hD hS
  rw [z_wks (i := 80) (c := 115) (k := 80) (by decide) (by decide)] at hP hD
  replace hP : va_P (dC, dI) vwCl ((q_75, .inl (cA_76, 115, .inl (z_wk 81))) :: WR) H_158 := hP
  replace hD : va_D A ((q_75, .inl (cA_76, 115, .inl (z_wk 81))) :: WR) := hD
  refine lv_dup hx hb dX12_init_648 rfl ?_
  refine lv_bipush (v := 81) hx hb dX12_init_649 (by decide) ?_
  refine lv_bipush (v := 101) hx hb dX12_init_651 (by decide) ?_
  refine va_iast hx hb hK hP hD hS 0 18 rfl rfl (by unfold vp_in; decide) dX12_init_653 ?_
  clear hP hD hS locs H_158
  intro H_159 locs hP hD hS
  rw [z_wks (i := 81) (c := 101) (k := 81) (by decide) (by decide)] at hP hD
  replace hP : va_P (dC, dI) vwCl ((q_75, .inl (cA_76, 115, .inl (z_wk 82))) :: WR) H_159 := hP
  replace hD : va_D A ((q_75, .inl (cA_76, 115, .inl (z_wk 82))) :: WR) := hD
  refine lv_dup hx hb dX12_init_654 rfl ?_
  refine lv_bipush (v := 82) hx hb dX12_init_655 (by decide) ?_
  refine lv_bipush (v := 97) hx hb dX12_init_657 (by decide) ?_
  refine va_iast hx hb hK hP hD hS 0 18 rfl rfl (by unfold vp_in; decide) dX12_init_659 ?_
  clear hP hD hS locs H_159
  intro H_160 locs hP hD hS
  rw [z_wks (i := 82) (c := 97) (k := 82) (by decide) (by decide)] at hP hD
  replace hP : va_P (dC, dI) vwCl ((q_75, .inl (cA_76, 115, .inl (z_wk 83))) :: WR) H_160 := hP
  replace hD : va_D A ((q_75, .inl (cA_76, 115, .inl (z_wk 83))) :: WR) := hD
  refine lv_dup hx hb dX12_init_660 rfl ?_
  refine lv_bipush (v := 83) hx hb dX12_init_661 (by decide) ?_
  refine lv_bipush (v := 115) hx hb dX12_init_663 (by decide) ?_
  refine va_iast hx hb hK hP hD hS 0 18 rfl rfl (by unfold vp_in; decide) dX12_init_665 ?_
  clear hP hD hS locs H_160
  intro H_161 locs hP hD hS
  rw [z_wks (i := 83) (c := 115) (k := 83) (by decide) (by decide)] at hP hD
  replace hP : va_P (dC, dI) vwCl ((q_75, .inl (cA_76, 115, .inl (z_wk 84))) :: WR) H_161 := hP
  replace hD : va_D A ((q_75, .inl (cA_76, 115, .inl (z_wk 84))) :: WR) := hD
  refine lv_dup hx hb dX12_init_666 rfl ?_
  refine lv_bipush (v := 84) hx hb dX12_init_667 (by decide) ?_
  refine lv_bipush (v := 111) hx hb dX12_init_669 (by decide) ?_
  refine va_iast hx hb hK hP hD hS 0 18 rfl rfl (by unfold vp_in; decide) dX12_init_671 ?_
  clear hP hD hS locs H_161
  intro H_162 locs hP hD hS
  rw [z_wks (i := 84) (c := 111) (k := 84) (by decide) (by decide)] at hP hD
  replace hP : va_P (dC, dI) vwCl ((q_75, .inl (cA_76, 115, .inl (z_wk 85))) :: WR) H_162 := hP
  replace hD : va_D A ((q_75, .inl (cA_76, 115, .inl (z_wk 85))) :: WR) := hD
  refine lv_dup hx hb dX12_init_672 rfl ?_
  refine lv_bipush (v := 85) hx hb dX12_init_673 (by decide) ?_
  refine lv_bipush (v := 110) hx hb dX12_init_675 (by decide) ?_
  refine va_iast hx hb hK hP hD hS 0 18 rfl rfl (by unfold vp_in; decide) dX12_init_677 ?_
  clear hP hD hS locs H_162
  intro H_163 locs hP hD hS
  rw [z_wks (i := 85) (c := 110) (k := 85) (by decide) (by decide)] at hP hD
  replace hP : va_P (dC, dI) vwCl ((q_75, .inl (cA_76, 115, .inl (z_wk 86))) :: WR) H_163 := hP
  replace hD : va_D A ((q_75, .inl (cA_76, 115, .inl (z_wk 86))) :: WR) := hD
  refine lv_dup hx hb dX12_init_678 rfl ?_
  refine lv_bipush (v := 86) hx hb dX12_init_679 (by decide) ?_
  refine lv_bipush (v := 32) hx hb dX12_init_681 (by decide) ?_
  refine va_iast hx hb hK hP hD hS 0 18 rfl rfl (by unfold vp_in; decide) dX12_init_683 ?_
  clear hP hD hS locs H_163
  intro H_164 locs hP hD hS
  rw [z_wks (i := 86) (c := 32) (k := 86) (by decide) (by decide)] at hP hD
  replace hP : va_P (dC, dI) vwCl ((q_75, .inl (cA_76, 115, .inl (z_wk 87))) :: WR) H_164 := hP
  replace hD : va_D A ((q_75, .inl (cA_76, 115, .inl (z_wk 87))) :: WR) := hD
  refine lv_dup hx hb dX12_init_684 rfl ?_
  refine lv_bipush (v := 87) hx hb dX12_init_685 (by decide) ?_
  refine lv_bipush (v := 114) hx hb dX12_init_687 (by decide) ?_
  refine va_iast hx hb hK hP hD hS 0 18 rfl rfl (by unfold vp_in; decide) dX12_init_689 ?_
  clear hP hD hS locs H_164
  intro H_165 locs hP hD hS
  rw [z_wks (i := 87) (c := 114) (k := 87) (by decide) (by decide)] at hP hD
  replace hP : va_P (dC, dI) vwCl ((q_75, .inl (cA_76, 115, .inl (z_wk 88))) :: WR) H_165 := hP
  replace hD : va_D A ((q_75, .inl (cA_76, 115, .inl (z_wk 88))) :: WR) := hD
  refine lv_dup hx hb dX12_init_690 rfl ?_
  refine lv_bipush (v := 88) hx hb dX12_init_691 (by decide) ?_
  refine lv_bipush (v := 97) hx hb dX12_init_693 (by decide) ?_
  refine va_iast hx hb hK hP hD hS 0 18 rfl rfl (by unfold vp_in; decide) dX12_init_695 ?_
  clear hP hD hS locs H_165
  intro H_166 locs hP hD hS
  rw [z_wks (i := 88) (c := 97) (k := 88) (by decide) (by decide)] at hP hD
  replace hP : va_P (dC, dI) vwCl ((q_75, .inl (cA_76, 115, .inl (z_wk 89))) :: WR) H_166 := hP
  replace hD : va_D A ((q_75, .inl (cA_76, 115, .inl (z_wk 89))) :: WR) := hD
  refine lv_dup hx hb dX12_init_696 rfl ?_
  refine lv_bipush (v := 89) hx hb dX12_init_697 (by decide) ?_
  refine lv_bipush (v := 110) hx hb dX12_init_699 (by decide) ?_
  refine va_iast hx hb hK hP hD hS 0 18 rfl rfl (by unfold vp_in; decide) dX12_init_701 ?_
  clear hP hD hS locs H_166
  intro H_167 locs hP hD hS
  rw [z_wks (i := 89) (c := 110) (k := 89) (by decide) (by decide)] at hP hD
  replace hP : va_P (dC, dI) vwCl ((q_75, .inl (cA_76, 115, .inl (z_wk 90))) :: WR) H_167 := hP
  replace hD : va_D A ((q_75, .inl (cA_76, 115, .inl (z_wk 90))) :: WR) := hD
  refine lv_dup hx hb dX12_init_702 rfl ?_
  refine lv_bipush (v := 90) hx hb dX12_init_703 (by decide) ?_
  refine lv_bipush (v := 107) hx hb dX12_init_705 (by decide) ?_
  refine va_iast hx hb hK hP hD hS 0 18 rfl rfl (by unfold vp_in; decide) dX12_init_707 ?_
  clear hP hD hS locs H_167
  intro H_168 locs hP hD hS
  rw [z_wks (i := 90) (c := 107) (k := 90) (by decide) (by decide)] at hP hD
  replace hP : va_P (dC, dI) vwCl ((q_75, .inl (cA_76, 115, .inl (z_wk 91))) :: WR) H_168 := hP
  replace hD : va_D A ((q_75, .inl (cA_76, 115, .inl (z_wk 91))) :: WR) := hD
  refine lv_dup hx hb dX12_init_708 rfl ?_
  refine lv_bipush (v := 91) hx hb dX12_init_709 (by decide) ?_
  refine lv_bipush (v := 32) hx hb dX12_init_711 (by decide) ?_
  refine va_iast hx hb hK hP hD hS 0 18 rfl rfl (by unfold vp_in; decide) dX12_init_713 ?_
  clear hP hD hS locs H_168
  intro H_169 locs hP hD hS
  rw [z_wks (i := 91) (c := 32) (k := 91) (by decide) (by decide)] at hP hD
  replace hP : va_P (dC, dI) vwCl ((q_75, .inl (cA_76, 115, .inl (z_wk 92))) :: WR) H_169 := hP
  replace hD : va_D A ((q_75, .inl (cA_76, 115, .inl (z_wk 92))) :: WR) := hD
  refine lv_dup hx hb dX12_init_714 rfl ?_
  refine lv_bipush (v := 92) hx hb dX12_init_715 (by decide) ?_
  refine lv_bipush (v := 108) hx hb dX12_init_717 (by decide) ?_
  refine va_iast hx hb hK hP hD hS 0 18 rfl rfl (by unfold vp_in; decide) dX12_init_719 ?_
  clear hP hD hS locs H_169
  intro H_170 locs hP hD hS
  rw [z_wks (i := 92) (c := 108) (k := 92) (by decide) (by decide)] at hP hD
  replace hP : va_P (dC, dI) vwCl ((q_75, .inl (cA_76, 115, .inl (z_wk 93))) :: WR) H_170 := hP
  replace hD : va_D A ((q_75, .inl (cA_76, 115, .inl (z_wk 93))) :: WR) := hD
  refine lv_dup hx hb dX12_init_720 rfl ?_
  refine lv_bipush (v := 93) hx hb dX12_init_721 (by decide) ?_
  refine lv_bipush (v := 111) hx hb dX12_init_723 (by decide) ?_
  refine va_iast hx hb hK hP hD hS 0 18 rfl rfl (by unfold vp_in; decide) dX12_init_725 ?_
  clear hP hD hS locs H_170
  intro H_171 locs hP hD hS
  rw [z_wks (i := 93) (c := 111) (k := 93) (by decide) (by decide)] at hP hD
  replace hP : va_P (dC, dI) vwCl ((q_75, .inl (cA_76, 115, .inl (z_wk 94))) :: WR) H_171 := hP
  replace hD : va_D A ((q_75, .inl (cA_76, 115, .inl (z_wk 94))) :: WR) := hD
  refine lv_dup hx hb dX12_init_726 rfl ?_
  refine lv_bipush (v := 94) hx hb dX12_init_727 (by decide) ?_
  refine lv_bipush (v := 115) hx hb dX12_init_729 (by decide) ?_
  refine va_iast hx hb hK hP hD hS 0 18 rfl rfl (by unfold vp_in; decide) dX12_init_731 ?_
  clear hP hD hS locs H_171
  intro H_172 locs hP hD hS
  rw [z_wks (i := 94) (c := 115) (k := 94) (by decide) (by decide)] at hP hD
  replace hP : va_P (dC, dI) vwCl ((q_75, .inl (cA_76, 115, .inl (z_wk 95))) :: WR) H_172 := hP
  replace hD : va_D A ((q_75, .inl (cA_76, 115, .inl (z_wk 95))) :: WR) := hD
  refine lv_dup hx hb dX12_init_732 rfl ?_
  refine lv_bipush (v := 95) hx hb dX12_init_733 (by decide) ?_
  refine lv_bipush (v := 116) hx hb dX12_init_735 (by decide) ?_
  refine va_iast hx hb hK hP hD hS 0 18 rfl rfl (by unfold vp_in; decide) dX12_init_737 ?_
  clear hP hD hS locs H_172
  intro H_173 locs hP hD hS
  rw [z_wks (i := 95) (c := 116) (k := 95) (by decide) (by decide)] at hP hD
  replace hP : va_P (dC, dI) vwCl ((q_75, .inl (cA_76, 115, .inl (z_wk 96))) :: WR) H_173 := hP
  replace hD : va_D A ((q_75, .inl (cA_76, 115, .inl (z_wk 96))) :: WR) := hD
  refine lv_dup hx hb dX12_init_738 rfl ?_
  refine lv_bipush (v := 96) hx hb dX12_init_739 (by decide) ?_
  refine lv_bipush (v := 32) hx hb dX12_init_741 (by decide) ?_
  refine va_iast hx hb hK hP hD hS 0 18 rfl rfl (by unfold vp_in; decide) dX12_init_743 ?_
  clear hP hD hS locs H_173
  intro H_174 locs hP hD hS
  rw [z_wks (i := 96) (c := 32) (k := 96) (by decide) (by decide)] at hP hD
  replace hP : va_P (dC, dI) vwCl ((q_75, .inl (cA_76, 115, .inl (z_wk 97))) :: WR) H_174 := hP
  replace hD : va_D A ((q_75, .inl (cA_76, 115, .inl (z_wk 97))) :: WR) := hD
  refine lv_dup hx hb dX12_init_744 rfl ?_
  refine lv_bipush (v := 97) hx hb dX12_init_745 (by decide) ?_
  refine lv_bipush (v := 104) hx hb dX12_init_747 (by decide) ?_
  refine va_iast hx hb hK hP hD hS 0 18 rfl rfl (by unfold vp_in; decide) dX12_init_749 ?_
  clear hP hD hS locs H_174
  intro H_175 locs hP hD hS
  rw [z_wks (i := 97) (c := 104) (k := 97) (by decide) (by decide)] at hP hD
  replace hP : va_P (dC, dI) vwCl ((q_75, .inl (cA_76, 115, .inl (z_wk 98))) :: WR) H_175 := hP
  replace hD : va_D A ((q_75, .inl (cA_76, 115, .inl (z_wk 98))) :: WR) := hD
  refine lv_dup hx hb dX12_init_750 rfl ?_
  refine lv_bipush (v := 98) hx hb dX12_init_751 (by decide) ?_
  refine lv_bipush (v := 111) hx hb dX12_init_753 (by decide) ?_
  refine va_iast hx hb hK hP hD hS 0 18 rfl rfl (by unfold vp_in; decide) dX12_init_755 ?_
  clear hP hD hS locs H_175
  intro H_176 locs hP hD hS
  rw [z_wks (i := 98) (c := 111) (k := 98) (by decide) (by decide)] at hP hD
  replace hP : va_P (dC, dI) vwCl ((q_75, .inl (cA_76, 115, .inl (z_wk 99))) :: WR) H_176 := hP
  replace hD : va_D A ((q_75, .inl (cA_76, 115, .inl (z_wk 99))) :: WR) := hD
  refine lv_dup hx hb dX12_init_756 rfl ?_
  refine lv_bipush (v := 99) hx hb dX12_init_757 (by decide) ?_
  refine lv_bipush (v := 108) hx hb dX12_init_759 (by decide) ?_
  refine va_iast hx hb hK hP hD hS 0 18 rfl rfl (by unfold vp_in; decide) dX12_init_761 ?_
  clear hP hD hS locs H_176
  intro H_177 locs hP hD hS
  rw [z_wks (i := 99) (c := 108) (k := 99) (by decide) (by decide)] at hP hD
  replace hP : va_P (dC, dI) vwCl ((q_75, .inl (cA_76, 115, .inl (z_wk 100))) :: WR) H_177 := hP
  replace hD : va_D A ((q_75, .inl (cA_76, 115, .inl (z_wk 100))) :: WR) := hD
  refine lv_dup hx hb dX12_init_762 rfl ?_
  refine lv_bipush (v := 100) hx hb dX12_init_763 (by decide) ?_
  refine lv_bipush (v := 100) hx hb dX12_init_765 (by decide) ?_
  refine va_iast hx hb hK hP hD hS 0 18 rfl rfl (by unfold vp_in; decide) dX12_init_767 ?_
  clear hP hD hS locs H_177
  intro H_178 locs hP hD hS
  rw [z_wks (i := 100) (c := 100) (k := 100) (by decide) (by decide)] at hP hD
  replace hP : va_P (dC, dI) vwCl ((q_75, .inl (cA_76, 115, .inl (z_wk 101))) :: WR) H_178 := hP
  replace hD : va_D A ((q_75, .inl (cA_76, 115, .inl (z_wk 101))) :: WR) := hD
  refine lv_dup hx hb dX12_init_768 rfl ?_
  refine lv_bipush (v := 101) hx hb dX12_init_769 (by decide) ?_
  refine lv_bipush (v := 115) hx hb dX12_init_771 (by decide) ?_
  refine va_iast hx hb hK hP hD hS 0 18 rfl rfl (by unfold vp_in; decide) dX12_init_773 ?_
  clear hP hD hS locs H_178
  intro H_179 locs hP hD hS
  rw [z_wks (i := 101) (c := 115) (k := 101) (by decide) (by decide)] at hP hD
  replace hP : va_P (dC, dI) vwCl ((q_75, .inl (cA_76, 115, .inl (z_wk 102))) :: WR) H_179 := hP
  replace hD : va_D A ((q_75, .inl (cA_76, 115, .inl (z_wk 102))) :: WR) := hD
  refine lv_dup hx hb dX12_init_774 rfl ?_
  refine lv_bipush (v := 102) hx hb dX12_init_775 (by decide) ?_
  refine lv_bipush (v := 32) hx hb dX12_init_777 (by decide) ?_
  refine va_iast hx hb hK hP hD hS 0 18 rfl rfl (by unfold vp_in; decide) dX12_init_779 ?_
  clear hP hD hS locs H_179
  intro H_180 locs hP hD hS
  rw [z_wks (i := 102) (c := 32) (k := 102) (by decide) (by decide)] at hP hD
  replace hP : va_P (dC, dI) vwCl ((q_75, .inl (cA_76, 115, .inl (z_wk 103))) :: WR) H_180 := hP
  replace hD : va_D A ((q_75, .inl (cA_76, 115, .inl (z_wk 103))) :: WR) := hD
  refine lv_dup hx hb dX12_init_780 rfl ?_
  refine lv_bipush (v := 103) hx hb dX12_init_781 (by decide) ?_
  refine lv_bipush (v := 110) hx hb dX12_init_783 (by decide) ?_
  refine va_iast hx hb hK hP hD hS 0 18 rfl rfl (by unfold vp_in; decide) dX12_init_785 ?_
  clear hP hD hS locs H_180
  intro H_181 locs hP hD hS
  rw [z_wks (i := 103) (c := 110) (k := 103) (by decide) (by decide)] at hP hD
  replace hP : va_P (dC, dI) vwCl ((q_75, .inl (cA_76, 115, .inl (z_wk 104))) :: WR) H_181 := hP
  replace hD : va_D A ((q_75, .inl (cA_76, 115, .inl (z_wk 104))) :: WR) := hD
  refine lv_dup hx hb dX12_init_786 rfl ?_
  refine lv_bipush (v := 104) hx hb dX12_init_787 (by decide) ?_
  refine lv_bipush (v := 117) hx hb dX12_init_789 (by decide) ?_
  refine va_iast hx hb hK hP hD hS 0 18 rfl rfl (by unfold vp_in; decide) dX12_init_791 ?_
  clear hP hD hS locs H_181
  intro H_182 locs hP hD hS
  rw [z_wks (i := 104) (c := 117) (k := 104) (by decide) (by decide)] at hP hD
  replace hP : va_P (dC, dI) vwCl ((q_75, .inl (cA_76, 115, .inl (z_wk 105))) :: WR) H_182 := hP
  replace hD : va_D A ((q_75, .inl (cA_76, 115, .inl (z_wk 105))) :: WR) := hD
  refine lv_dup hx hb dX12_init_792 rfl ?_
  refine lv_bipush (v := 105) hx hb dX12_init_793 (by decide) ?_
  refine lv_bipush (v := 109) hx hb dX12_init_795 (by decide) ?_
  refine va_iast hx hb hK hP hD hS 0 18 rfl rfl (by unfold vp_in; decide) dX12_init_797 ?_
  clear hP hD hS locs H_182
  intro H_183 locs hP hD hS
  rw [z_wks (i := 105) (c := 109) (k := 105) (by decide) (by decide)] at hP hD
  replace hP : va_P (dC, dI) vwCl ((q_75, .inl (cA_76, 115, .inl (z_wk 106))) :: WR) H_183 := hP
  replace hD : va_D A ((q_75, .inl (cA_76, 115, .inl (z_wk 106))) :: WR) := hD
  refine lv_dup hx hb dX12_init_798 rfl ?_
  refine lv_bipush (v := 106) hx hb dX12_init_799 (by decide) ?_
  refine lv_bipush (v := 98) hx hb dX12_init_801 (by decide) ?_
  refine va_iast hx hb hK hP hD hS 0 18 rfl rfl (by unfold vp_in; decide) dX12_init_803 ?_
  clear hP hD hS locs H_183
  intro H_184 locs hP hD hS
  rw [z_wks (i := 106) (c := 98) (k := 106) (by decide) (by decide)] at hP hD
  replace hP : va_P (dC, dI) vwCl ((q_75, .inl (cA_76, 115, .inl (z_wk 107))) :: WR) H_184 := hP
  replace hD : va_D A ((q_75, .inl (cA_76, 115, .inl (z_wk 107))) :: WR) := hD
  refine lv_dup hx hb dX12_init_804 rfl ?_
  refine lv_bipush (v := 107) hx hb dX12_init_805 (by decide) ?_
  refine lv_bipush (v := 101) hx hb dX12_init_807 (by decide) ?_
  refine va_iast hx hb hK hP hD hS 0 18 rfl rfl (by unfold vp_in; decide) dX12_init_809 ?_
  clear hP hD hS locs H_184
  intro H_185 locs hP hD hS
  rw [z_wks (i := 107) (c := 101) (k := 107) (by decide) (by decide)] at hP hD
  replace hP : va_P (dC, dI) vwCl ((q_75, .inl (cA_76, 115, .inl (z_wk 108))) :: WR) H_185 := hP
  replace hD : va_D A ((q_75, .inl (cA_76, 115, .inl (z_wk 108))) :: WR) := hD
  refine lv_dup hx hb dX12_init_810 rfl ?_
  refine lv_bipush (v := 108) hx hb dX12_init_811 (by decide) ?_
  refine lv_bipush (v := 114) hx hb dX12_init_813 (by decide) ?_
  refine va_iast hx hb hK hP hD hS 0 18 rfl rfl (by unfold vp_in; decide) dX12_init_815 ?_
  clear hP hD hS locs H_185
  intro H_186 locs hP hD hS
  rw [z_wks (i := 108) (c := 114) (k := 108) (by decide) (by decide)] at hP hD
  replace hP : va_P (dC, dI) vwCl ((q_75, .inl (cA_76, 115, .inl (z_wk 109))) :: WR) H_186 := hP
  replace hD : va_D A ((q_75, .inl (cA_76, 115, .inl (z_wk 109))) :: WR) := hD
  refine lv_dup hx hb dX12_init_816 rfl ?_
  refine lv_bipush (v := 109) hx hb dX12_init_817 (by decide) ?_
  refine lv_bipush (v := 32) hx hb dX12_init_819 (by decide) ?_
  refine va_iast hx hb hK hP hD hS 0 18 rfl rfl (by unfold vp_in; decide) dX12_init_821 ?_
  clear hP hD hS locs H_186
  intro H_187 locs hP hD hS
  rw [z_wks (i := 109) (c := 32) (k := 109) (by decide) (by decide)] at hP hD
  replace hP : va_P (dC, dI) vwCl ((q_75, .inl (cA_76, 115, .inl (z_wk 110))) :: WR) H_187 := hP
  replace hD : va_D A ((q_75, .inl (cA_76, 115, .inl (z_wk 110))) :: WR) := hD
  refine lv_dup hx hb dX12_init_822 rfl ?_
  refine lv_bipush (v := 110) hx hb dX12_init_823 (by decide) ?_
  refine lv_bipush (v := 102) hx hb dX12_init_825 (by decide) ?_
  refine va_iast hx hb hK hP hD hS 0 18 rfl rfl (by unfold vp_in; decide) dX12_init_827 ?_
  clear hP hD hS locs H_187
  intro H_188 locs hP hD hS
  rw [z_wks (i := 110) (c := 102) (k := 110) (by decide) (by decide)] at hP hD
  replace hP : va_P (dC, dI) vwCl ((q_75, .inl (cA_76, 115, .inl (z_wk 111))) :: WR) H_188 := hP
  replace hD : va_D A ((q_75, .inl (cA_76, 115, .inl (z_wk 111))) :: WR) := hD
  refine lv_dup hx hb dX12_init_828 rfl ?_
  refine lv_bipush (v := 111) hx hb dX12_init_829 (by decide) ?_
  refine lv_bipush (v := 111) hx hb dX12_init_831 (by decide) ?_
  refine va_iast hx hb hK hP hD hS 0 18 rfl rfl (by unfold vp_in; decide) dX12_init_833 ?_
  clear hP hD hS locs H_188
  intro H_189 locs hP hD hS
  rw [z_wks (i := 111) (c := 111) (k := 111) (by decide) (by decide)] at hP hD
  replace hP : va_P (dC, dI) vwCl ((q_75, .inl (cA_76, 115, .inl (z_wk 112))) :: WR) H_189 := hP
  replace hD : va_D A ((q_75, .inl (cA_76, 115, .inl (z_wk 112))) :: WR) := hD
  refine lv_dup hx hb dX12_init_834 rfl ?_
  refine lv_bipush (v := 112) hx hb dX12_init_835 (by decide) ?_
  refine lv_bipush (v := 111) hx hb dX12_init_837 (by decide) ?_
  refine va_iast hx hb hK hP hD hS 0 18 rfl rfl (by unfold vp_in; decide) dX12_init_839 ?_
  clear hP hD hS locs H_189
  intro H_190 locs hP hD hS
  rw [z_wks (i := 112) (c := 111) (k := 112) (by decide) (by decide)] at hP hD
  replace hP : va_P (dC, dI) vwCl ((q_75, .inl (cA_76, 115, .inl (z_wk 113))) :: WR) H_190 := hP
  replace hD : va_D A ((q_75, .inl (cA_76, 115, .inl (z_wk 113))) :: WR) := hD
  refine lv_dup hx hb dX12_init_840 rfl ?_
  refine lv_bipush (v := 113) hx hb dX12_init_841 (by decide) ?_
  refine lv_bipush (v := 100) hx hb dX12_init_843 (by decide) ?_
  refine va_iast hx hb hK hP hD hS 0 18 rfl rfl (by unfold vp_in; decide) dX12_init_845 ?_
  clear hP hD hS locs H_190
  intro H_191 locs hP hD hS
  rw [z_wks (i := 113) (c := 100) (k := 113) (by decide) (by decide)] at hP hD
  replace hP : va_P (dC, dI) vwCl ((q_75, .inl (cA_76, 115, .inl (z_wk 114))) :: WR) H_191 := hP
  replace hD : va_D A ((q_75, .inl (cA_76, 115, .inl (z_wk 114))) :: WR) := hD
  refine lv_dup hx hb dX12_init_846 rfl ?_
  refine lv_bipush (v := 114) hx hb dX12_init_847 (by decide) ?_
  refine lv_bipush (v := 32) hx hb dX12_init_849 (by decide) ?_
  refine va_iast hx hb hK hP hD hS 0 18 rfl rfl (by unfold vp_in; decide) dX12_init_851 ?_
  clear hP hD hS locs H_191
  intro H_192 locs hP hD hS
  rw [z_wks (i := 114) (c := 32) (k := 114) (by decide) (by decide)] at hP hD
  replace hP : va_P (dC, dI) vwCl ((q_75, .inl (cA_76, 115, .inl (z_wk 115))) :: WR) H_192 := hP
  replace hD : va_D A ((q_75, .inl (cA_76, 115, .inl (z_wk 115))) :: WR) := hD
  replace hP : va_P (dC, dI) vwCl [(h0, .inr (12, [.ref q_1, .int 0, .int 0, .int 0, .int 0, .ref q_5, .ref q_9, .ref q_13, .ref q_17, .ref q_21, .ref q_25, .ref q_29, .ref q_33, .ref q_37, .ref q_41, .ref q_45, .int 0, .int 6, .int 6, .int 0, .ref q_51, .ref q_55, .ref q_59, .int 0, .ref q_63, .ref q_67, .ref q_71, .null, .int 0, .int 0, .int 0, .int 0, .int 0, .int 0, .int 0, .null, .null, .null, .null, .long 0, .int 0, .null, .null, .null, .int 0, .int 0, .int 0, .int 0, .null, .null, .null, .null, .null, .null, .null, .null, .null, .null, .int 0, .null, .null, .int 0, .null, .int 0, .null, .int 0, .int 0, .int 0, .int 0, .null])), (q_1, .inl (cA_2, 700, .inl (fun _ => 0))), (q_5, .inl (cA_6, 80, .inl (fun _ => 0))), (q_9, .inl (cA_10, 80, .inl (fun _ => 0))), (q_13, .inl (cA_14, 80, .inl (fun _ => 0))), (q_17, .inl (cA_18, 80, .inl (fun _ => 0))), (q_21, .inl (cA_22, 80, .inl (fun _ => 0))), (q_25, .inl (cA_26, 11520, .inl (fun _ => 0))), (q_29, .inl (cA_30, 12, .inl (fun _ => 0))), (q_33, .inl (cA_34, 144, .inl (fun _ => 0))), (q_37, .inl (cA_38, 12, .inl (fun _ => 0))), (q_41, .inl (cA_42, 12, .inl (fun _ => 0))), (q_45, .inl (cA_46, 12, .inl (fun _ => 0))), (q_51, .inl (cA_52, 10, .inl (fun _ => 0))), (q_55, .inl (cA_56, 10, .inl (fun _ => 0))), (q_59, .inl (cA_60, 120, .inl (fun _ => 0))), (q_63, .inl (cA_64, 6, .inl (fun _ => 0))), (q_67, .inl (cA_68, 6, .inl (fun _ => 0))), (q_71, .inl (cA_72, 24, .inl (fun _ => 0))), (q_75, .inl (cA_76, 115, .inl (z_wk 115)))] H_192 := by rw [eWR] at hP; exact hP.sub (ws' := [(h0, .inr (12, [.ref q_1, .int 0, .int 0, .int 0, .int 0, .ref q_5, .ref q_9, .ref q_13, .ref q_17, .ref q_21, .ref q_25, .ref q_29, .ref q_33, .ref q_37, .ref q_41, .ref q_45, .int 0, .int 6, .int 6, .int 0, .ref q_51, .ref q_55, .ref q_59, .int 0, .ref q_63, .ref q_67, .ref q_71, .null, .int 0, .int 0, .int 0, .int 0, .int 0, .int 0, .int 0, .null, .null, .null, .null, .long 0, .int 0, .null, .null, .null, .int 0, .int 0, .int 0, .int 0, .null, .null, .null, .null, .null, .null, .null, .null, .null, .null, .int 0, .null, .null, .int 0, .null, .int 0, .null, .int 0, .int 0, .int 0, .int 0, .null])), (q_1, .inl (cA_2, 700, .inl (fun _ => 0))), (q_5, .inl (cA_6, 80, .inl (fun _ => 0))), (q_9, .inl (cA_10, 80, .inl (fun _ => 0))), (q_13, .inl (cA_14, 80, .inl (fun _ => 0))), (q_17, .inl (cA_18, 80, .inl (fun _ => 0))), (q_21, .inl (cA_22, 80, .inl (fun _ => 0))), (q_25, .inl (cA_26, 11520, .inl (fun _ => 0))), (q_29, .inl (cA_30, 12, .inl (fun _ => 0))), (q_33, .inl (cA_34, 144, .inl (fun _ => 0))), (q_37, .inl (cA_38, 12, .inl (fun _ => 0))), (q_41, .inl (cA_42, 12, .inl (fun _ => 0))), (q_45, .inl (cA_46, 12, .inl (fun _ => 0))), (q_51, .inl (cA_52, 10, .inl (fun _ => 0))), (q_55, .inl (cA_56, 10, .inl (fun _ => 0))), (q_59, .inl (cA_60, 120, .inl (fun _ => 0))), (q_63, .inl (cA_64, 6, .inl (fun _ => 0))), (q_67, .inl (cA_68, 6, .inl (fun _ => 0))), (q_71, .inl (cA_72, 24, .inl (fun _ => 0))), (q_75, .inl (cA_76, 115, .inl (z_wk 115)))]) [1, 2, 3, 4, 5, 6, 7, 8, 9, 10, 11, 12, 13, 14, 15, 16, 17, 18, 19, 0] rfl
  replace hD : va_D A [(h0, .inr (12, [.ref q_1, .int 0, .int 0, .int 0, .int 0, .ref q_5, .ref q_9, .ref q_13, .ref q_17, .ref q_21, .ref q_25, .ref q_29, .ref q_33, .ref q_37, .ref q_41, .ref q_45, .int 0, .int 6, .int 6, .int 0, .ref q_51, .ref q_55, .ref q_59, .int 0, .ref q_63, .ref q_67, .ref q_71, .null, .int 0, .int 0, .int 0, .int 0, .int 0, .int 0, .int 0, .null, .null, .null, .null, .long 0, .int 0, .null, .null, .null, .int 0, .int 0, .int 0, .int 0, .null, .null, .null, .null, .null, .null, .null, .null, .null, .null, .int 0, .null, .null, .int 0, .null, .int 0, .null, .int 0, .int 0, .int 0, .int 0, .null])), (q_1, .inl (cA_2, 700, .inl (fun _ => 0))), (q_5, .inl (cA_6, 80, .inl (fun _ => 0))), (q_9, .inl (cA_10, 80, .inl (fun _ => 0))), (q_13, .inl (cA_14, 80, .inl (fun _ => 0))), (q_17, .inl (cA_18, 80, .inl (fun _ => 0))), (q_21, .inl (cA_22, 80, .inl (fun _ => 0))), (q_25, .inl (cA_26, 11520, .inl (fun _ => 0))), (q_29, .inl (cA_30, 12, .inl (fun _ => 0))), (q_33, .inl (cA_34, 144, .inl (fun _ => 0))), (q_37, .inl (cA_38, 12, .inl (fun _ => 0))), (q_41, .inl (cA_42, 12, .inl (fun _ => 0))), (q_45, .inl (cA_46, 12, .inl (fun _ => 0))), (q_51, .inl (cA_52, 10, .inl (fun _ => 0))), (q_55, .inl (cA_56, 10, .inl (fun _ => 0))), (q_59, .inl (cA_60, 120, .inl (fun _ => 0))), (q_63, .inl (cA_64, 6, .inl (fun _ => 0))), (q_67, .inl (cA_68, 6, .inl (fun _ => 0))), (q_71, .inl (cA_72, 24, .inl (fun _ => 0))), (q_75, .inl (cA_76, 115, .inl (z_wk 115)))] := by rw [eWR] at hD; exact hD.sub (ws' := [(h0, .inr (12, [.ref q_1, .int 0, .int 0, .int 0, .int 0, .ref q_5, .ref q_9, .ref q_13, .ref q_17, .ref q_21, .ref q_25, .ref q_29, .ref q_33, .ref q_37, .ref q_41, .ref q_45, .int 0, .int 6, .int 6, .int 0, .ref q_51, .ref q_55, .ref q_59, .int 0, .ref q_63, .ref q_67, .ref q_71, .null, .int 0, .int 0, .int 0, .int 0, .int 0, .int 0, .int 0, .null, .null, .null, .null, .long 0, .int 0, .null, .null, .null, .int 0, .int 0, .int 0, .int 0, .null, .null, .null, .null, .null, .null, .null, .null, .null, .null, .int 0, .null, .null, .int 0, .null, .int 0, .null, .int 0, .int 0, .int 0, .int 0, .null])), (q_1, .inl (cA_2, 700, .inl (fun _ => 0))), (q_5, .inl (cA_6, 80, .inl (fun _ => 0))), (q_9, .inl (cA_10, 80, .inl (fun _ => 0))), (q_13, .inl (cA_14, 80, .inl (fun _ => 0))), (q_17, .inl (cA_18, 80, .inl (fun _ => 0))), (q_21, .inl (cA_22, 80, .inl (fun _ => 0))), (q_25, .inl (cA_26, 11520, .inl (fun _ => 0))), (q_29, .inl (cA_30, 12, .inl (fun _ => 0))), (q_33, .inl (cA_34, 144, .inl (fun _ => 0))), (q_37, .inl (cA_38, 12, .inl (fun _ => 0))), (q_41, .inl (cA_42, 12, .inl (fun _ => 0))), (q_45, .inl (cA_46, 12, .inl (fun _ => 0))), (q_51, .inl (cA_52, 10, .inl (fun _ => 0))), (q_55, .inl (cA_56, 10, .inl (fun _ => 0))), (q_59, .inl (cA_60, 120, .inl (fun _ => 0))), (q_63, .inl (cA_64, 6, .inl (fun _ => 0))), (q_67, .inl (cA_68, 6, .inl (fun _ => 0))), (q_71, .inl (cA_72, 24, .inl (fun _ => 0))), (q_75, .inl (cA_76, 115, .inl (z_wk 115)))]) [1, 2, 3, 4, 5, 6, 7, 8, 9, 10, 11, 12, 13, 14, 15, 16, 17, 18, 19, 0] (by decide) rfl
  refine va_putF (D := (dC, dI)) (ci := 12) (v := .ref q_75) (ty := .array .int) (C := RX12) (T := TX12) (N := 70) hx hb hts hiX12 tyX12 tyX12_ok nmX12 hown hK hP hD hS 0 rfl rfl 27 (by decide) w__fieldLink_RX12_72_ShellHeapModel_words_I_ (fun _ h9 => h9) rfl hin rfl (by decide +kernel) rfl rfl (Nat.le_of_ble_eq_true rfl) dX12_init_852 ?_
  clear hP hD hS
  intro H_193 locs hP hD hS
  have h9 := z_s_0_27 hP hD
  clear hP hD
  obtain ⟨hP, hD⟩ := h9
  refine lv_aload_n hx hb dX12_init_855 rfl (lv_at hl 0 rfl) ?_
  refine lv_iconst (v := (-1)) hx hb dX12_init_856 (by decide) ?_
  refine va_put (D := (dC, dI)) (ci := 12) (v := .int (-1)) (ty := .int) (C := RX12) (T := TX12) (N := 70) hx hb hts hiX12 tyX12 tyX12_ok nmX12 hown hK hP hD hS 0 rfl rfl 29 (by decide) w__fieldLink_RX12_75_ShellHeapModel_faultPlace_I_ (fun _ h9 => h9) rfl (by decide +kernel) rfl rfl (Nat.le_of_ble_eq_true rfl) dX12_init_857 ?_
  clear hP hD hS
  intro H_194 locs hP hD hS
  have h9 := z_s_0_29 hP hD
  clear hP hD
  obtain ⟨hP, hD⟩ := h9
  refine lv_aload_n hx hb dX12_init_860 rfl (lv_at hl 0 rfl) ?_
  refine lv_bipush (v := 48) hx hb dX12_init_861 (by decide) ?_
  refine va_newa (atype := .int) (ty := .int) (N' := 48) (a0 := (48, .inl (fun _ => 0))) hx hb w__arrayClass_int rfl hK hP hD hS hA (z_newI 48) (by decide) (by decide) (by decide) (Nat.le_of_ble_eq_true rfl) (Nat.le_of_ble_eq_true rfl) dX12_init_863 ?_
  clear hK hP hD hS
  intro q_195 cA_196 H_197 hK hP hD hS
  replace hK : va_K (dC, dI) vwCl [(cA_2, .int), (cA_6, .int), (cA_10, .int), (cA_14, .int), (cA_18, .int), (cA_22, .boolean), (cA_26, .int), (cA_30, .int), (cA_34, .boolean), (cA_38, .int), (cA_42, .int), (cA_46, .int), (cA_52, .int), (cA_56, .int), (cA_60, .int), (cA_64, .int), (cA_68, .int), (cA_72, .int), (cA_76, .int), (cA_196, .int)] s := hK
  replace hP : va_P (dC, dI) vwCl [(h0, .inr (12, [.ref q_1, .int 0, .int 0, .int 0, .int 0, .ref q_5, .ref q_9, .ref q_13, .ref q_17, .ref q_21, .ref q_25, .ref q_29, .ref q_33, .ref q_37, .ref q_41, .ref q_45, .int 0, .int 6, .int 6, .int 0, .ref q_51, .ref q_55, .ref q_59, .int 0, .ref q_63, .ref q_67, .ref q_71, .ref q_75, .int 0, .int (-1), .int 0, .int 0, .int 0, .int 0, .int 0, .null, .null, .null, .null, .long 0, .int 0, .null, .null, .null, .int 0, .int 0, .int 0, .int 0, .null, .null, .null, .null, .null, .null, .null, .null, .null, .null, .int 0, .null, .null, .int 0, .null, .int 0, .null, .int 0, .int 0, .int 0, .int 0, .null])), (q_1, .inl (cA_2, 700, .inl (fun _ => 0))), (q_5, .inl (cA_6, 80, .inl (fun _ => 0))), (q_9, .inl (cA_10, 80, .inl (fun _ => 0))), (q_13, .inl (cA_14, 80, .inl (fun _ => 0))), (q_17, .inl (cA_18, 80, .inl (fun _ => 0))), (q_21, .inl (cA_22, 80, .inl (fun _ => 0))), (q_25, .inl (cA_26, 11520, .inl (fun _ => 0))), (q_29, .inl (cA_30, 12, .inl (fun _ => 0))), (q_33, .inl (cA_34, 144, .inl (fun _ => 0))), (q_37, .inl (cA_38, 12, .inl (fun _ => 0))), (q_41, .inl (cA_42, 12, .inl (fun _ => 0))), (q_45, .inl (cA_46, 12, .inl (fun _ => 0))), (q_51, .inl (cA_52, 10, .inl (fun _ => 0))), (q_55, .inl (cA_56, 10, .inl (fun _ => 0))), (q_59, .inl (cA_60, 120, .inl (fun _ => 0))), (q_63, .inl (cA_64, 6, .inl (fun _ => 0))), (q_67, .inl (cA_68, 6, .inl (fun _ => 0))), (q_71, .inl (cA_72, 24, .inl (fun _ => 0))), (q_75, .inl (cA_76, 115, .inl (z_wk 115))), (q_195, .inl (cA_196, 48, .inl (fun _ => 0)))] H_197 := hP
  replace hD : va_D A [(h0, .inr (12, [.ref q_1, .int 0, .int 0, .int 0, .int 0, .ref q_5, .ref q_9, .ref q_13, .ref q_17, .ref q_21, .ref q_25, .ref q_29, .ref q_33, .ref q_37, .ref q_41, .ref q_45, .int 0, .int 6, .int 6, .int 0, .ref q_51, .ref q_55, .ref q_59, .int 0, .ref q_63, .ref q_67, .ref q_71, .ref q_75, .int 0, .int (-1), .int 0, .int 0, .int 0, .int 0, .int 0, .null, .null, .null, .null, .long 0, .int 0, .null, .null, .null, .int 0, .int 0, .int 0, .int 0, .null, .null, .null, .null, .null, .null, .null, .null, .null, .null, .int 0, .null, .null, .int 0, .null, .int 0, .null, .int 0, .int 0, .int 0, .int 0, .null])), (q_1, .inl (cA_2, 700, .inl (fun _ => 0))), (q_5, .inl (cA_6, 80, .inl (fun _ => 0))), (q_9, .inl (cA_10, 80, .inl (fun _ => 0))), (q_13, .inl (cA_14, 80, .inl (fun _ => 0))), (q_17, .inl (cA_18, 80, .inl (fun _ => 0))), (q_21, .inl (cA_22, 80, .inl (fun _ => 0))), (q_25, .inl (cA_26, 11520, .inl (fun _ => 0))), (q_29, .inl (cA_30, 12, .inl (fun _ => 0))), (q_33, .inl (cA_34, 144, .inl (fun _ => 0))), (q_37, .inl (cA_38, 12, .inl (fun _ => 0))), (q_41, .inl (cA_42, 12, .inl (fun _ => 0))), (q_45, .inl (cA_46, 12, .inl (fun _ => 0))), (q_51, .inl (cA_52, 10, .inl (fun _ => 0))), (q_55, .inl (cA_56, 10, .inl (fun _ => 0))), (q_59, .inl (cA_60, 120, .inl (fun _ => 0))), (q_63, .inl (cA_64, 6, .inl (fun _ => 0))), (q_67, .inl (cA_68, 6, .inl (fun _ => 0))), (q_71, .inl (cA_72, 24, .inl (fun _ => 0))), (q_75, .inl (cA_76, 115, .inl (z_wk 115))), (q_195, .inl (cA_196, 48, .inl (fun _ => 0)))] := hD
  refine va_putF (D := (dC, dI)) (ci := 12) (v := .ref q_195) (ty := .array .int) (C := RX12) (T := TX12) (N := 70) hx hb hts hiX12 tyX12 tyX12_ok nmX12 hown hK hP hD hS 0 rfl rfl 35 (by decide) w__fieldLink_RX12_78_ShellHeapModel_reads_I_ (fun _ h9 => h9) rfl hin rfl (by decide +kernel) rfl rfl (Nat.le_of_ble_eq_true rfl) dX12_init_865 ?_
  clear hP hD hS
  intro H_198 locs hP hD hS
  have h9 := z_s_0_35 hP hD
  clear hP hD
  obtain ⟨hP, hD⟩ := h9
  refine lv_aload_n hx hb dX12_init_868 rfl (lv_at hl 0 rfl) ?_
  refine lv_sipush (v := 144) hx hb dX12_init_869 (by decide) ?_
  refine va_newa (atype := .int) (ty := .int) (N' := 144) (a0 := (144, .inl (fun _ => 0))) hx hb w__arrayClass_int rfl hK hP hD hS hA (z_newI 144) (by decide) (by decide) (by decide) (Nat.le_of_ble_eq_true rfl) (Nat.le_of_ble_eq_true rfl) dX12_init_872 ?_
  clear hK hP hD hS
  intro q_199 cA_200 H_201 hK hP hD hS
  replace hK : va_K (dC, dI) vwCl [(cA_2, .int), (cA_6, .int), (cA_10, .int), (cA_14, .int), (cA_18, .int), (cA_22, .boolean), (cA_26, .int), (cA_30, .int), (cA_34, .boolean), (cA_38, .int), (cA_42, .int), (cA_46, .int), (cA_52, .int), (cA_56, .int), (cA_60, .int), (cA_64, .int), (cA_68, .int), (cA_72, .int), (cA_76, .int), (cA_196, .int), (cA_200, .int)] s := hK
  replace hP : va_P (dC, dI) vwCl [(h0, .inr (12, [.ref q_1, .int 0, .int 0, .int 0, .int 0, .ref q_5, .ref q_9, .ref q_13, .ref q_17, .ref q_21, .ref q_25, .ref q_29, .ref q_33, .ref q_37, .ref q_41, .ref q_45, .int 0, .int 6, .int 6, .int 0, .ref q_51, .ref q_55, .ref q_59, .int 0, .ref q_63, .ref q_67, .ref q_71, .ref q_75, .int 0, .int (-1), .int 0, .int 0, .int 0, .int 0, .int 0, .ref q_195, .null, .null, .null, .long 0, .int 0, .null, .null, .null, .int 0, .int 0, .int 0, .int 0, .null, .null, .null, .null, .null, .null, .null, .null, .null, .null, .int 0, .null, .null, .int 0, .null, .int 0, .null, .int 0, .int 0, .int 0, .int 0, .null])), (q_1, .inl (cA_2, 700, .inl (fun _ => 0))), (q_5, .inl (cA_6, 80, .inl (fun _ => 0))), (q_9, .inl (cA_10, 80, .inl (fun _ => 0))), (q_13, .inl (cA_14, 80, .inl (fun _ => 0))), (q_17, .inl (cA_18, 80, .inl (fun _ => 0))), (q_21, .inl (cA_22, 80, .inl (fun _ => 0))), (q_25, .inl (cA_26, 11520, .inl (fun _ => 0))), (q_29, .inl (cA_30, 12, .inl (fun _ => 0))), (q_33, .inl (cA_34, 144, .inl (fun _ => 0))), (q_37, .inl (cA_38, 12, .inl (fun _ => 0))), (q_41, .inl (cA_42, 12, .inl (fun _ => 0))), (q_45, .inl (cA_46, 12, .inl (fun _ => 0))), (q_51, .inl (cA_52, 10, .inl (fun _ => 0))), (q_55, .inl (cA_56, 10, .inl (fun _ => 0))), (q_59, .inl (cA_60, 120, .inl (fun _ => 0))), (q_63, .inl (cA_64, 6, .inl (fun _ => 0))), (q_67, .inl (cA_68, 6, .inl (fun _ => 0))), (q_71, .inl (cA_72, 24, .inl (fun _ => 0))), (q_75, .inl (cA_76, 115, .inl (z_wk 115))), (q_195, .inl (cA_196, 48, .inl (fun _ => 0))), (q_199, .inl (cA_200, 144, .inl (fun _ => 0)))] H_201 := hP
  replace hD : va_D A [(h0, .inr (12, [.ref q_1, .int 0, .int 0, .int 0, .int 0, .ref q_5, .ref q_9, .ref q_13, .ref q_17, .ref q_21, .ref q_25, .ref q_29, .ref q_33, .ref q_37, .ref q_41, .ref q_45, .int 0, .int 6, .int 6, .int 0, .ref q_51, .ref q_55, .ref q_59, .int 0, .ref q_63, .ref q_67, .ref q_71, .ref q_75, .int 0, .int (-1), .int 0, .int 0, .int 0, .int 0, .int 0, .ref q_195, .null, .null, .null, .long 0, .int 0, .null, .null, .null, .int 0, .int 0, .int 0, .int 0, .null, .null, .null, .null, .null, .null, .null, .null, .null, .null, .int 0, .null, .null, .int 0, .null, .int 0, .null, .int 0, .int 0, .int 0, .int 0, .null])), (q_1, .inl (cA_2, 700, .inl (fun _ => 0))), (q_5, .inl (cA_6, 80, .inl (fun _ => 0))), (q_9, .inl (cA_10, 80, .inl (fun _ => 0))), (q_13, .inl (cA_14, 80, .inl (fun _ => 0))), (q_17, .inl (cA_18, 80, .inl (fun _ => 0))), (q_21, .inl (cA_22, 80, .inl (fun _ => 0))), (q_25, .inl (cA_26, 11520, .inl (fun _ => 0))), (q_29, .inl (cA_30, 12, .inl (fun _ => 0))), (q_33, .inl (cA_34, 144, .inl (fun _ => 0))), (q_37, .inl (cA_38, 12, .inl (fun _ => 0))), (q_41, .inl (cA_42, 12, .inl (fun _ => 0))), (q_45, .inl (cA_46, 12, .inl (fun _ => 0))), (q_51, .inl (cA_52, 10, .inl (fun _ => 0))), (q_55, .inl (cA_56, 10, .inl (fun _ => 0))), (q_59, .inl (cA_60, 120, .inl (fun _ => 0))), (q_63, .inl (cA_64, 6, .inl (fun _ => 0))), (q_67, .inl (cA_68, 6, .inl (fun _ => 0))), (q_71, .inl (cA_72, 24, .inl (fun _ => 0))), (q_75, .inl (cA_76, 115, .inl (z_wk 115))), (q_195, .inl (cA_196, 48, .inl (fun _ => 0))), (q_199, .inl (cA_200, 144, .inl (fun _ => 0)))] := hD
  refine va_putF (D := (dC, dI)) (ci := 12) (v := .ref q_199) (ty := .array .int) (C := RX12) (T := TX12) (N := 70) hx hb hts hiX12 tyX12 tyX12_ok nmX12 hown hK hP hD hS 0 rfl rfl 36 (by decide) w__fieldLink_RX12_81_ShellHeapModel_readings_I_ (fun _ h9 => h9) rfl hin rfl (by decide +kernel) rfl rfl (Nat.le_of_ble_eq_true rfl) dX12_init_874 ?_
  clear hP hD hS
  intro H_202 locs hP hD hS
  have h9 := z_s_0_36 hP hD
  clear hP hD
  obtain ⟨hP, hD⟩ := h9
  refine lv_aload_n hx hb dX12_init_877 rfl (lv_at hl 0 rfl) ?_
  refine lv_iconst (v := 4) hx hb dX12_init_878 (by decide) ?_
  refine va_newa (atype := .int) (ty := .int) (N' := 4) (a0 := (4, .inl (fun _ => 0))) hx hb w__arrayClass_int rfl hK hP hD hS hA (z_newI 4) (by decide) (by decide) (by decide) (Nat.le_of_ble_eq_true rfl) (Nat.le_of_ble_eq_true rfl) dX12_init_879 ?_
  clear hK hP hD hS
  intro q_203 cA_204 H_205 hK hP hD hS
  replace hK : va_K (dC, dI) vwCl [(cA_2, .int), (cA_6, .int), (cA_10, .int), (cA_14, .int), (cA_18, .int), (cA_22, .boolean), (cA_26, .int), (cA_30, .int), (cA_34, .boolean), (cA_38, .int), (cA_42, .int), (cA_46, .int), (cA_52, .int), (cA_56, .int), (cA_60, .int), (cA_64, .int), (cA_68, .int), (cA_72, .int), (cA_76, .int), (cA_196, .int), (cA_200, .int), (cA_204, .int)] s := hK
  replace hP : va_P (dC, dI) vwCl [(h0, .inr (12, [.ref q_1, .int 0, .int 0, .int 0, .int 0, .ref q_5, .ref q_9, .ref q_13, .ref q_17, .ref q_21, .ref q_25, .ref q_29, .ref q_33, .ref q_37, .ref q_41, .ref q_45, .int 0, .int 6, .int 6, .int 0, .ref q_51, .ref q_55, .ref q_59, .int 0, .ref q_63, .ref q_67, .ref q_71, .ref q_75, .int 0, .int (-1), .int 0, .int 0, .int 0, .int 0, .int 0, .ref q_195, .ref q_199, .null, .null, .long 0, .int 0, .null, .null, .null, .int 0, .int 0, .int 0, .int 0, .null, .null, .null, .null, .null, .null, .null, .null, .null, .null, .int 0, .null, .null, .int 0, .null, .int 0, .null, .int 0, .int 0, .int 0, .int 0, .null])), (q_1, .inl (cA_2, 700, .inl (fun _ => 0))), (q_5, .inl (cA_6, 80, .inl (fun _ => 0))), (q_9, .inl (cA_10, 80, .inl (fun _ => 0))), (q_13, .inl (cA_14, 80, .inl (fun _ => 0))), (q_17, .inl (cA_18, 80, .inl (fun _ => 0))), (q_21, .inl (cA_22, 80, .inl (fun _ => 0))), (q_25, .inl (cA_26, 11520, .inl (fun _ => 0))), (q_29, .inl (cA_30, 12, .inl (fun _ => 0))), (q_33, .inl (cA_34, 144, .inl (fun _ => 0))), (q_37, .inl (cA_38, 12, .inl (fun _ => 0))), (q_41, .inl (cA_42, 12, .inl (fun _ => 0))), (q_45, .inl (cA_46, 12, .inl (fun _ => 0))), (q_51, .inl (cA_52, 10, .inl (fun _ => 0))), (q_55, .inl (cA_56, 10, .inl (fun _ => 0))), (q_59, .inl (cA_60, 120, .inl (fun _ => 0))), (q_63, .inl (cA_64, 6, .inl (fun _ => 0))), (q_67, .inl (cA_68, 6, .inl (fun _ => 0))), (q_71, .inl (cA_72, 24, .inl (fun _ => 0))), (q_75, .inl (cA_76, 115, .inl (z_wk 115))), (q_195, .inl (cA_196, 48, .inl (fun _ => 0))), (q_199, .inl (cA_200, 144, .inl (fun _ => 0))), (q_203, .inl (cA_204, 4, .inl (fun _ => 0)))] H_205 := hP
  replace hD : va_D A [(h0, .inr (12, [.ref q_1, .int 0, .int 0, .int 0, .int 0, .ref q_5, .ref q_9, .ref q_13, .ref q_17, .ref q_21, .ref q_25, .ref q_29, .ref q_33, .ref q_37, .ref q_41, .ref q_45, .int 0, .int 6, .int 6, .int 0, .ref q_51, .ref q_55, .ref q_59, .int 0, .ref q_63, .ref q_67, .ref q_71, .ref q_75, .int 0, .int (-1), .int 0, .int 0, .int 0, .int 0, .int 0, .ref q_195, .ref q_199, .null, .null, .long 0, .int 0, .null, .null, .null, .int 0, .int 0, .int 0, .int 0, .null, .null, .null, .null, .null, .null, .null, .null, .null, .null, .int 0, .null, .null, .int 0, .null, .int 0, .null, .int 0, .int 0, .int 0, .int 0, .null])), (q_1, .inl (cA_2, 700, .inl (fun _ => 0))), (q_5, .inl (cA_6, 80, .inl (fun _ => 0))), (q_9, .inl (cA_10, 80, .inl (fun _ => 0))), (q_13, .inl (cA_14, 80, .inl (fun _ => 0))), (q_17, .inl (cA_18, 80, .inl (fun _ => 0))), (q_21, .inl (cA_22, 80, .inl (fun _ => 0))), (q_25, .inl (cA_26, 11520, .inl (fun _ => 0))), (q_29, .inl (cA_30, 12, .inl (fun _ => 0))), (q_33, .inl (cA_34, 144, .inl (fun _ => 0))), (q_37, .inl (cA_38, 12, .inl (fun _ => 0))), (q_41, .inl (cA_42, 12, .inl (fun _ => 0))), (q_45, .inl (cA_46, 12, .inl (fun _ => 0))), (q_51, .inl (cA_52, 10, .inl (fun _ => 0))), (q_55, .inl (cA_56, 10, .inl (fun _ => 0))), (q_59, .inl (cA_60, 120, .inl (fun _ => 0))), (q_63, .inl (cA_64, 6, .inl (fun _ => 0))), (q_67, .inl (cA_68, 6, .inl (fun _ => 0))), (q_71, .inl (cA_72, 24, .inl (fun _ => 0))), (q_75, .inl (cA_76, 115, .inl (z_wk 115))), (q_195, .inl (cA_196, 48, .inl (fun _ => 0))), (q_199, .inl (cA_200, 144, .inl (fun _ => 0))), (q_203, .inl (cA_204, 4, .inl (fun _ => 0)))] := hD
  refine va_putF (D := (dC, dI)) (ci := 12) (v := .ref q_203) (ty := .array .int) (C := RX12) (T := TX12) (N := 70) hx hb hts hiX12 tyX12 tyX12_ok nmX12 hown hK hP hD hS 0 rfl rfl 37 (by decide) w__fieldLink_RX12_84_ShellHeapModel_told_I_ (fun _ h9 => h9) rfl hin rfl (by decide +kernel) rfl rfl (Nat.le_of_ble_eq_true rfl) dX12_init_881 ?_
  clear hP hD hS
  intro H_206 locs hP hD hS
  have h9 := z_s_0_37 hP hD
  clear hP hD
  obtain ⟨hP, hD⟩ := h9
  refine lv_aload_n hx hb dX12_init_884 rfl (lv_at hl 0 rfl) ?_
  refine lv_iconst (v := 4) hx hb dX12_init_885 (by decide) ?_
  refine va_newa (atype := .int) (ty := .int) (N' := 4) (a0 := (4, .inl (fun _ => 0))) hx hb w__arrayClass_int rfl hK hP hD hS hA (z_newI 4) (by decide) (by decide) (by decide) (Nat.le_of_ble_eq_true rfl) (Nat.le_of_ble_eq_true rfl) dX12_init_886 ?_
  clear hK hP hD hS
  intro q_207 cA_208 H_209 hK hP hD hS
  replace hK : va_K (dC, dI) vwCl [(cA_2, .int), (cA_6, .int), (cA_10, .int), (cA_14, .int), (cA_18, .int), (cA_22, .boolean), (cA_26, .int), (cA_30, .int), (cA_34, .boolean), (cA_38, .int), (cA_42, .int), (cA_46, .int), (cA_52, .int), (cA_56, .int), (cA_60, .int), (cA_64, .int), (cA_68, .int), (cA_72, .int), (cA_76, .int), (cA_196, .int), (cA_200, .int), (cA_204, .int), (cA_208, .int)] s := hK
  replace hP : va_P (dC, dI) vwCl [(h0, .inr (12, [.ref q_1, .int 0, .int 0, .int 0, .int 0, .ref q_5, .ref q_9, .ref q_13, .ref q_17, .ref q_21, .ref q_25, .ref q_29, .ref q_33, .ref q_37, .ref q_41, .ref q_45, .int 0, .int 6, .int 6, .int 0, .ref q_51, .ref q_55, .ref q_59, .int 0, .ref q_63, .ref q_67, .ref q_71, .ref q_75, .int 0, .int (-1), .int 0, .int 0, .int 0, .int 0, .int 0, .ref q_195, .ref q_199, .ref q_203, .null, .long 0, .int 0, .null, .null, .null, .int 0, .int 0, .int 0, .int 0, .null, .null, .null, .null, .null, .null, .null, .null, .null, .null, .int 0, .null, .null, .int 0, .null, .int 0, .null, .int 0, .int 0, .int 0, .int 0, .null])), (q_1, .inl (cA_2, 700, .inl (fun _ => 0))), (q_5, .inl (cA_6, 80, .inl (fun _ => 0))), (q_9, .inl (cA_10, 80, .inl (fun _ => 0))), (q_13, .inl (cA_14, 80, .inl (fun _ => 0))), (q_17, .inl (cA_18, 80, .inl (fun _ => 0))), (q_21, .inl (cA_22, 80, .inl (fun _ => 0))), (q_25, .inl (cA_26, 11520, .inl (fun _ => 0))), (q_29, .inl (cA_30, 12, .inl (fun _ => 0))), (q_33, .inl (cA_34, 144, .inl (fun _ => 0))), (q_37, .inl (cA_38, 12, .inl (fun _ => 0))), (q_41, .inl (cA_42, 12, .inl (fun _ => 0))), (q_45, .inl (cA_46, 12, .inl (fun _ => 0))), (q_51, .inl (cA_52, 10, .inl (fun _ => 0))), (q_55, .inl (cA_56, 10, .inl (fun _ => 0))), (q_59, .inl (cA_60, 120, .inl (fun _ => 0))), (q_63, .inl (cA_64, 6, .inl (fun _ => 0))), (q_67, .inl (cA_68, 6, .inl (fun _ => 0))), (q_71, .inl (cA_72, 24, .inl (fun _ => 0))), (q_75, .inl (cA_76, 115, .inl (z_wk 115))), (q_195, .inl (cA_196, 48, .inl (fun _ => 0))), (q_199, .inl (cA_200, 144, .inl (fun _ => 0))), (q_203, .inl (cA_204, 4, .inl (fun _ => 0))), (q_207, .inl (cA_208, 4, .inl (fun _ => 0)))] H_209 := hP
  replace hD : va_D A [(h0, .inr (12, [.ref q_1, .int 0, .int 0, .int 0, .int 0, .ref q_5, .ref q_9, .ref q_13, .ref q_17, .ref q_21, .ref q_25, .ref q_29, .ref q_33, .ref q_37, .ref q_41, .ref q_45, .int 0, .int 6, .int 6, .int 0, .ref q_51, .ref q_55, .ref q_59, .int 0, .ref q_63, .ref q_67, .ref q_71, .ref q_75, .int 0, .int (-1), .int 0, .int 0, .int 0, .int 0, .int 0, .ref q_195, .ref q_199, .ref q_203, .null, .long 0, .int 0, .null, .null, .null, .int 0, .int 0, .int 0, .int 0, .null, .null, .null, .null, .null, .null, .null, .null, .null, .null, .int 0, .null, .null, .int 0, .null, .int 0, .null, .int 0, .int 0, .int 0, .int 0, .null])), (q_1, .inl (cA_2, 700, .inl (fun _ => 0))), (q_5, .inl (cA_6, 80, .inl (fun _ => 0))), (q_9, .inl (cA_10, 80, .inl (fun _ => 0))), (q_13, .inl (cA_14, 80, .inl (fun _ => 0))), (q_17, .inl (cA_18, 80, .inl (fun _ => 0))), (q_21, .inl (cA_22, 80, .inl (fun _ => 0))), (q_25, .inl (cA_26, 11520, .inl (fun _ => 0))), (q_29, .inl (cA_30, 12, .inl (fun _ => 0))), (q_33, .inl (cA_34, 144, .inl (fun _ => 0))), (q_37, .inl (cA_38, 12, .inl (fun _ => 0))), (q_41, .inl (cA_42, 12, .inl (fun _ => 0))), (q_45, .inl (cA_46, 12, .inl (fun _ => 0))), (q_51, .inl (cA_52, 10, .inl (fun _ => 0))), (q_55, .inl (cA_56, 10, .inl (fun _ => 0))), (q_59, .inl (cA_60, 120, .inl (fun _ => 0))), (q_63, .inl (cA_64, 6, .inl (fun _ => 0))), (q_67, .inl (cA_68, 6, .inl (fun _ => 0))), (q_71, .inl (cA_72, 24, .inl (fun _ => 0))), (q_75, .inl (cA_76, 115, .inl (z_wk 115))), (q_195, .inl (cA_196, 48, .inl (fun _ => 0))), (q_199, .inl (cA_200, 144, .inl (fun _ => 0))), (q_203, .inl (cA_204, 4, .inl (fun _ => 0))), (q_207, .inl (cA_208, 4, .inl (fun _ => 0)))] := hD
  refine va_putF (D := (dC, dI)) (ci := 12) (v := .ref q_207) (ty := .array .int) (C := RX12) (T := TX12) (N := 70) hx hb hts hiX12 tyX12 tyX12_ok nmX12 hown hK hP hD hS 0 rfl rfl 38 (by decide) w__fieldLink_RX12_87_ShellHeapModel_put_I_ (fun _ h9 => h9) rfl hin rfl (by decide +kernel) rfl rfl (Nat.le_of_ble_eq_true rfl) dX12_init_888 ?_
  clear hP hD hS
  intro H_210 locs hP hD hS
  have h9 := z_s_0_38 hP hD
  clear hP hD
  obtain ⟨hP, hD⟩ := h9
  refine lv_aload_n hx hb dX12_init_891 rfl (lv_at hl 0 rfl) ?_
  refine lv_sipush (v := 200) hx hb dX12_init_892 (by decide) ?_
  refine va_newa (atype := .int) (ty := .int) (N' := 200) (a0 := (200, .inl (fun _ => 0))) hx hb w__arrayClass_int rfl hK hP hD hS hA (z_newI 200) (by decide) (by decide) (by decide) (Nat.le_of_ble_eq_true rfl) (Nat.le_of_ble_eq_true rfl) dX12_init_895 ?_
  clear hK hP hD hS
  intro q_211 cA_212 H_213 hK hP hD hS
  replace hK : va_K (dC, dI) vwCl [(cA_2, .int), (cA_6, .int), (cA_10, .int), (cA_14, .int), (cA_18, .int), (cA_22, .boolean), (cA_26, .int), (cA_30, .int), (cA_34, .boolean), (cA_38, .int), (cA_42, .int), (cA_46, .int), (cA_52, .int), (cA_56, .int), (cA_60, .int), (cA_64, .int), (cA_68, .int), (cA_72, .int), (cA_76, .int), (cA_196, .int), (cA_200, .int), (cA_204, .int), (cA_208, .int), (cA_212, .int)] s := hK
  replace hP : va_P (dC, dI) vwCl [(h0, .inr (12, [.ref q_1, .int 0, .int 0, .int 0, .int 0, .ref q_5, .ref q_9, .ref q_13, .ref q_17, .ref q_21, .ref q_25, .ref q_29, .ref q_33, .ref q_37, .ref q_41, .ref q_45, .int 0, .int 6, .int 6, .int 0, .ref q_51, .ref q_55, .ref q_59, .int 0, .ref q_63, .ref q_67, .ref q_71, .ref q_75, .int 0, .int (-1), .int 0, .int 0, .int 0, .int 0, .int 0, .ref q_195, .ref q_199, .ref q_203, .ref q_207, .long 0, .int 0, .null, .null, .null, .int 0, .int 0, .int 0, .int 0, .null, .null, .null, .null, .null, .null, .null, .null, .null, .null, .int 0, .null, .null, .int 0, .null, .int 0, .null, .int 0, .int 0, .int 0, .int 0, .null])), (q_1, .inl (cA_2, 700, .inl (fun _ => 0))), (q_5, .inl (cA_6, 80, .inl (fun _ => 0))), (q_9, .inl (cA_10, 80, .inl (fun _ => 0))), (q_13, .inl (cA_14, 80, .inl (fun _ => 0))), (q_17, .inl (cA_18, 80, .inl (fun _ => 0))), (q_21, .inl (cA_22, 80, .inl (fun _ => 0))), (q_25, .inl (cA_26, 11520, .inl (fun _ => 0))), (q_29, .inl (cA_30, 12, .inl (fun _ => 0))), (q_33, .inl (cA_34, 144, .inl (fun _ => 0))), (q_37, .inl (cA_38, 12, .inl (fun _ => 0))), (q_41, .inl (cA_42, 12, .inl (fun _ => 0))), (q_45, .inl (cA_46, 12, .inl (fun _ => 0))), (q_51, .inl (cA_52, 10, .inl (fun _ => 0))), (q_55, .inl (cA_56, 10, .inl (fun _ => 0))), (q_59, .inl (cA_60, 120, .inl (fun _ => 0))), (q_63, .inl (cA_64, 6, .inl (fun _ => 0))), (q_67, .inl (cA_68, 6, .inl (fun _ => 0))), (q_71, .inl (cA_72, 24, .inl (fun _ => 0))), (q_75, .inl (cA_76, 115, .inl (z_wk 115))), (q_195, .inl (cA_196, 48, .inl (fun _ => 0))), (q_199, .inl (cA_200, 144, .inl (fun _ => 0))), (q_203, .inl (cA_204, 4, .inl (fun _ => 0))), (q_207, .inl (cA_208, 4, .inl (fun _ => 0))), (q_211, .inl (cA_212, 200, .inl (fun _ => 0)))] H_213 := hP
  replace hD : va_D A [(h0, .inr (12, [.ref q_1, .int 0, .int 0, .int 0, .int 0, .ref q_5, .ref q_9, .ref q_13, .ref q_17, .ref q_21, .ref q_25, .ref q_29, .ref q_33, .ref q_37, .ref q_41, .ref q_45, .int 0, .int 6, .int 6, .int 0, .ref q_51, .ref q_55, .ref q_59, .int 0, .ref q_63, .ref q_67, .ref q_71, .ref q_75, .int 0, .int (-1), .int 0, .int 0, .int 0, .int 0, .int 0, .ref q_195, .ref q_199, .ref q_203, .ref q_207, .long 0, .int 0, .null, .null, .null, .int 0, .int 0, .int 0, .int 0, .null, .null, .null, .null, .null, .null, .null, .null, .null, .null, .int 0, .null, .null, .int 0, .null, .int 0, .null, .int 0, .int 0, .int 0, .int 0, .null])), (q_1, .inl (cA_2, 700, .inl (fun _ => 0))), (q_5, .inl (cA_6, 80, .inl (fun _ => 0))), (q_9, .inl (cA_10, 80, .inl (fun _ => 0))), (q_13, .inl (cA_14, 80, .inl (fun _ => 0))), (q_17, .inl (cA_18, 80, .inl (fun _ => 0))), (q_21, .inl (cA_22, 80, .inl (fun _ => 0))), (q_25, .inl (cA_26, 11520, .inl (fun _ => 0))), (q_29, .inl (cA_30, 12, .inl (fun _ => 0))), (q_33, .inl (cA_34, 144, .inl (fun _ => 0))), (q_37, .inl (cA_38, 12, .inl (fun _ => 0))), (q_41, .inl (cA_42, 12, .inl (fun _ => 0))), (q_45, .inl (cA_46, 12, .inl (fun _ => 0))), (q_51, .inl (cA_52, 10, .inl (fun _ => 0))), (q_55, .inl (cA_56, 10, .inl (fun _ => 0))), (q_59, .inl (cA_60, 120, .inl (fun _ => 0))), (q_63, .inl (cA_64, 6, .inl (fun _ => 0))), (q_67, .inl (cA_68, 6, .inl (fun _ => 0))), (q_71, .inl (cA_72, 24, .inl (fun _ => 0))), (q_75, .inl (cA_76, 115, .inl (z_wk 115))), (q_195, .inl (cA_196, 48, .inl (fun _ => 0))), (q_199, .inl (cA_200, 144, .inl (fun _ => 0))), (q_203, .inl (cA_204, 4, .inl (fun _ => 0))), (q_207, .inl (cA_208, 4, .inl (fun _ => 0))), (q_211, .inl (cA_212, 200, .inl (fun _ => 0)))] := hD
  refine va_putF (D := (dC, dI)) (ci := 12) (v := .ref q_211) (ty := .array .int) (C := RX12) (T := TX12) (N := 70) hx hb hts hiX12 tyX12 tyX12_ok nmX12 hown hK hP hD hS 0 rfl rfl 41 (by decide) w__fieldLink_RX12_90_ShellHeapModel_shellOf_I_ (fun _ h9 => h9) rfl hin rfl (by decide +kernel) rfl rfl (Nat.le_of_ble_eq_true rfl) dX12_init_897 ?_
  clear hP hD hS
  intro H_214 locs hP hD hS
  have h9 := z_s_0_41 hP hD
  clear hP hD
  obtain ⟨hP, hD⟩ := h9
  refine lv_aload_n hx hb dX12_init_900 rfl (lv_at hl 0 rfl) ?_
  refine lv_sipush (v := 600) hx hb dX12_init_901 (by decide) ?_
  refine va_newa (atype := .int) (ty := .int) (N' := 600) (a0 := (600, .inl (fun _ => 0))) hx hb w__arrayClass_int rfl hK hP hD hS hA (z_newI 600) (by decide) (by decide) (by decide) (Nat.le_of_ble_eq_true rfl) (Nat.le_of_ble_eq_true rfl) dX12_init_904 ?_
  clear hK hP hD hS
  intro q_215 cA_216 H_217 hK hP hD hS
  replace hK : va_K (dC, dI) vwCl [(cA_2, .int), (cA_6, .int), (cA_10, .int), (cA_14, .int), (cA_18, .int), (cA_22, .boolean), (cA_26, .int), (cA_30, .int), (cA_34, .boolean), (cA_38, .int), (cA_42, .int), (cA_46, .int), (cA_52, .int), (cA_56, .int), (cA_60, .int), (cA_64, .int), (cA_68, .int), (cA_72, .int), (cA_76, .int), (cA_196, .int), (cA_200, .int), (cA_204, .int), (cA_208, .int), (cA_212, .int), (cA_216, .int)] s := hK
  replace hP : va_P (dC, dI) vwCl [(h0, .inr (12, [.ref q_1, .int 0, .int 0, .int 0, .int 0, .ref q_5, .ref q_9, .ref q_13, .ref q_17, .ref q_21, .ref q_25, .ref q_29, .ref q_33, .ref q_37, .ref q_41, .ref q_45, .int 0, .int 6, .int 6, .int 0, .ref q_51, .ref q_55, .ref q_59, .int 0, .ref q_63, .ref q_67, .ref q_71, .ref q_75, .int 0, .int (-1), .int 0, .int 0, .int 0, .int 0, .int 0, .ref q_195, .ref q_199, .ref q_203, .ref q_207, .long 0, .int 0, .ref q_211, .null, .null, .int 0, .int 0, .int 0, .int 0, .null, .null, .null, .null, .null, .null, .null, .null, .null, .null, .int 0, .null, .null, .int 0, .null, .int 0, .null, .int 0, .int 0, .int 0, .int 0, .null])), (q_1, .inl (cA_2, 700, .inl (fun _ => 0))), (q_5, .inl (cA_6, 80, .inl (fun _ => 0))), (q_9, .inl (cA_10, 80, .inl (fun _ => 0))), (q_13, .inl (cA_14, 80, .inl (fun _ => 0))), (q_17, .inl (cA_18, 80, .inl (fun _ => 0))), (q_21, .inl (cA_22, 80, .inl (fun _ => 0))), (q_25, .inl (cA_26, 11520, .inl (fun _ => 0))), (q_29, .inl (cA_30, 12, .inl (fun _ => 0))), (q_33, .inl (cA_34, 144, .inl (fun _ => 0))), (q_37, .inl (cA_38, 12, .inl (fun _ => 0))), (q_41, .inl (cA_42, 12, .inl (fun _ => 0))), (q_45, .inl (cA_46, 12, .inl (fun _ => 0))), (q_51, .inl (cA_52, 10, .inl (fun _ => 0))), (q_55, .inl (cA_56, 10, .inl (fun _ => 0))), (q_59, .inl (cA_60, 120, .inl (fun _ => 0))), (q_63, .inl (cA_64, 6, .inl (fun _ => 0))), (q_67, .inl (cA_68, 6, .inl (fun _ => 0))), (q_71, .inl (cA_72, 24, .inl (fun _ => 0))), (q_75, .inl (cA_76, 115, .inl (z_wk 115))), (q_195, .inl (cA_196, 48, .inl (fun _ => 0))), (q_199, .inl (cA_200, 144, .inl (fun _ => 0))), (q_203, .inl (cA_204, 4, .inl (fun _ => 0))), (q_207, .inl (cA_208, 4, .inl (fun _ => 0))), (q_211, .inl (cA_212, 200, .inl (fun _ => 0))), (q_215, .inl (cA_216, 600, .inl (fun _ => 0)))] H_217 := hP
  replace hD : va_D A [(h0, .inr (12, [.ref q_1, .int 0, .int 0, .int 0, .int 0, .ref q_5, .ref q_9, .ref q_13, .ref q_17, .ref q_21, .ref q_25, .ref q_29, .ref q_33, .ref q_37, .ref q_41, .ref q_45, .int 0, .int 6, .int 6, .int 0, .ref q_51, .ref q_55, .ref q_59, .int 0, .ref q_63, .ref q_67, .ref q_71, .ref q_75, .int 0, .int (-1), .int 0, .int 0, .int 0, .int 0, .int 0, .ref q_195, .ref q_199, .ref q_203, .ref q_207, .long 0, .int 0, .ref q_211, .null, .null, .int 0, .int 0, .int 0, .int 0, .null, .null, .null, .null, .null, .null, .null, .null, .null, .null, .int 0, .null, .null, .int 0, .null, .int 0, .null, .int 0, .int 0, .int 0, .int 0, .null])), (q_1, .inl (cA_2, 700, .inl (fun _ => 0))), (q_5, .inl (cA_6, 80, .inl (fun _ => 0))), (q_9, .inl (cA_10, 80, .inl (fun _ => 0))), (q_13, .inl (cA_14, 80, .inl (fun _ => 0))), (q_17, .inl (cA_18, 80, .inl (fun _ => 0))), (q_21, .inl (cA_22, 80, .inl (fun _ => 0))), (q_25, .inl (cA_26, 11520, .inl (fun _ => 0))), (q_29, .inl (cA_30, 12, .inl (fun _ => 0))), (q_33, .inl (cA_34, 144, .inl (fun _ => 0))), (q_37, .inl (cA_38, 12, .inl (fun _ => 0))), (q_41, .inl (cA_42, 12, .inl (fun _ => 0))), (q_45, .inl (cA_46, 12, .inl (fun _ => 0))), (q_51, .inl (cA_52, 10, .inl (fun _ => 0))), (q_55, .inl (cA_56, 10, .inl (fun _ => 0))), (q_59, .inl (cA_60, 120, .inl (fun _ => 0))), (q_63, .inl (cA_64, 6, .inl (fun _ => 0))), (q_67, .inl (cA_68, 6, .inl (fun _ => 0))), (q_71, .inl (cA_72, 24, .inl (fun _ => 0))), (q_75, .inl (cA_76, 115, .inl (z_wk 115))), (q_195, .inl (cA_196, 48, .inl (fun _ => 0))), (q_199, .inl (cA_200, 144, .inl (fun _ => 0))), (q_203, .inl (cA_204, 4, .inl (fun _ => 0))), (q_207, .inl (cA_208, 4, .inl (fun _ => 0))), (q_211, .inl (cA_212, 200, .inl (fun _ => 0))), (q_215, .inl (cA_216, 600, .inl (fun _ => 0)))] := hD
  refine va_putF (D := (dC, dI)) (ci := 12) (v := .ref q_215) (ty := .array .int) (C := RX12) (T := TX12) (N := 70) hx hb hts hiX12 tyX12 tyX12_ok nmX12 hown hK hP hD hS 0 rfl rfl 42 (by decide) w__fieldLink_RX12_93_ShellHeapModel_shell_I_ (fun _ h9 => h9) rfl hin rfl (by decide +kernel) rfl rfl (Nat.le_of_ble_eq_true rfl) dX12_init_906 ?_
  clear hP hD hS
  intro H_218 locs hP hD hS
  have h9 := z_s_0_42 hP hD
  clear hP hD
  obtain ⟨hP, hD⟩ := h9
  refine lv_aload_n hx hb dX12_init_909 rfl (lv_at hl 0 rfl) ?_
  refine lv_sipush (v := 200) hx hb dX12_init_910 (by decide) ?_
  refine va_newa (atype := .int) (ty := .int) (N' := 200) (a0 := (200, .inl (fun _ => 0))) hx hb w__arrayClass_int rfl hK hP hD hS hA (z_newI 200) (by decide) (by decide) (by decide) (Nat.le_of_ble_eq_true rfl) (Nat.le_of_ble_eq_true rfl) dX12_init_913 ?_
  clear hK hP hD hS
  intro q_219 cA_220 H_221 hK hP hD hS
  replace hK : va_K (dC, dI) vwCl [(cA_2, .int), (cA_6, .int), (cA_10, .int), (cA_14, .int), (cA_18, .int), (cA_22, .boolean), (cA_26, .int), (cA_30, .int), (cA_34, .boolean), (cA_38, .int), (cA_42, .int), (cA_46, .int), (cA_52, .int), (cA_56, .int), (cA_60, .int), (cA_64, .int), (cA_68, .int), (cA_72, .int), (cA_76, .int), (cA_196, .int), (cA_200, .int), (cA_204, .int), (cA_208, .int), (cA_212, .int), (cA_216, .int), (cA_220, .int)] s := hK
  replace hP : va_P (dC, dI) vwCl [(h0, .inr (12, [.ref q_1, .int 0, .int 0, .int 0, .int 0, .ref q_5, .ref q_9, .ref q_13, .ref q_17, .ref q_21, .ref q_25, .ref q_29, .ref q_33, .ref q_37, .ref q_41, .ref q_45, .int 0, .int 6, .int 6, .int 0, .ref q_51, .ref q_55, .ref q_59, .int 0, .ref q_63, .ref q_67, .ref q_71, .ref q_75, .int 0, .int (-1), .int 0, .int 0, .int 0, .int 0, .int 0, .ref q_195, .ref q_199, .ref q_203, .ref q_207, .long 0, .int 0, .ref q_211, .ref q_215, .null, .int 0, .int 0, .int 0, .int 0, .null, .null, .null, .null, .null, .null, .null, .null, .null, .null, .int 0, .null, .null, .int 0, .null, .int 0, .null, .int 0, .int 0, .int 0, .int 0, .null])), (q_1, .inl (cA_2, 700, .inl (fun _ => 0))), (q_5, .inl (cA_6, 80, .inl (fun _ => 0))), (q_9, .inl (cA_10, 80, .inl (fun _ => 0))), (q_13, .inl (cA_14, 80, .inl (fun _ => 0))), (q_17, .inl (cA_18, 80, .inl (fun _ => 0))), (q_21, .inl (cA_22, 80, .inl (fun _ => 0))), (q_25, .inl (cA_26, 11520, .inl (fun _ => 0))), (q_29, .inl (cA_30, 12, .inl (fun _ => 0))), (q_33, .inl (cA_34, 144, .inl (fun _ => 0))), (q_37, .inl (cA_38, 12, .inl (fun _ => 0))), (q_41, .inl (cA_42, 12, .inl (fun _ => 0))), (q_45, .inl (cA_46, 12, .inl (fun _ => 0))), (q_51, .inl (cA_52, 10, .inl (fun _ => 0))), (q_55, .inl (cA_56, 10, .inl (fun _ => 0))), (q_59, .inl (cA_60, 120, .inl (fun _ => 0))), (q_63, .inl (cA_64, 6, .inl (fun _ => 0))), (q_67, .inl (cA_68, 6, .inl (fun _ => 0))), (q_71, .inl (cA_72, 24, .inl (fun _ => 0))), (q_75, .inl (cA_76, 115, .inl (z_wk 115))), (q_195, .inl (cA_196, 48, .inl (fun _ => 0))), (q_199, .inl (cA_200, 144, .inl (fun _ => 0))), (q_203, .inl (cA_204, 4, .inl (fun _ => 0))), (q_207, .inl (cA_208, 4, .inl (fun _ => 0))), (q_211, .inl (cA_212, 200, .inl (fun _ => 0))), (q_215, .inl (cA_216, 600, .inl (fun _ => 0))), (q_219, .inl (cA_220, 200, .inl (fun _ => 0)))] H_221 := hP
  replace hD : va_D A [(h0, .inr (12, [.ref q_1, .int 0, .int 0, .int 0, .int 0, .ref q_5, .ref q_9, .ref q_13, .ref q_17, .ref q_21, .ref q_25, .ref q_29, .ref q_33, .ref q_37, .ref q_41, .ref q_45, .int 0, .int 6, .int 6, .int 0, .ref q_51, .ref q_55, .ref q_59, .int 0, .ref q_63, .ref q_67, .ref q_71, .ref q_75, .int 0, .int (-1), .int 0, .int 0, .int 0, .int 0, .int 0, .ref q_195, .ref q_199, .ref q_203, .ref q_207, .long 0, .int 0, .ref q_211, .ref q_215, .null, .int 0, .int 0, .int 0, .int 0, .null, .null, .null, .null, .null, .null, .null, .null, .null, .null, .int 0, .null, .null, .int 0, .null, .int 0, .null, .int 0, .int 0, .int 0, .int 0, .null])), (q_1, .inl (cA_2, 700, .inl (fun _ => 0))), (q_5, .inl (cA_6, 80, .inl (fun _ => 0))), (q_9, .inl (cA_10, 80, .inl (fun _ => 0))), (q_13, .inl (cA_14, 80, .inl (fun _ => 0))), (q_17, .inl (cA_18, 80, .inl (fun _ => 0))), (q_21, .inl (cA_22, 80, .inl (fun _ => 0))), (q_25, .inl (cA_26, 11520, .inl (fun _ => 0))), (q_29, .inl (cA_30, 12, .inl (fun _ => 0))), (q_33, .inl (cA_34, 144, .inl (fun _ => 0))), (q_37, .inl (cA_38, 12, .inl (fun _ => 0))), (q_41, .inl (cA_42, 12, .inl (fun _ => 0))), (q_45, .inl (cA_46, 12, .inl (fun _ => 0))), (q_51, .inl (cA_52, 10, .inl (fun _ => 0))), (q_55, .inl (cA_56, 10, .inl (fun _ => 0))), (q_59, .inl (cA_60, 120, .inl (fun _ => 0))), (q_63, .inl (cA_64, 6, .inl (fun _ => 0))), (q_67, .inl (cA_68, 6, .inl (fun _ => 0))), (q_71, .inl (cA_72, 24, .inl (fun _ => 0))), (q_75, .inl (cA_76, 115, .inl (z_wk 115))), (q_195, .inl (cA_196, 48, .inl (fun _ => 0))), (q_199, .inl (cA_200, 144, .inl (fun _ => 0))), (q_203, .inl (cA_204, 4, .inl (fun _ => 0))), (q_207, .inl (cA_208, 4, .inl (fun _ => 0))), (q_211, .inl (cA_212, 200, .inl (fun _ => 0))), (q_215, .inl (cA_216, 600, .inl (fun _ => 0))), (q_219, .inl (cA_220, 200, .inl (fun _ => 0)))] := hD
  refine va_putF (D := (dC, dI)) (ci := 12) (v := .ref q_219) (ty := .array .int) (C := RX12) (T := TX12) (N := 70) hx hb hts hiX12 tyX12 tyX12_ok nmX12 hown hK hP hD hS 0 rfl rfl 43 (by decide) w__fieldLink_RX12_96_ShellHeapModel_row_I_ (fun _ h9 => h9) rfl hin rfl (by decide +kernel) rfl rfl (Nat.le_of_ble_eq_true rfl) dX12_init_915 ?_
  clear hP hD hS
  intro H_222 locs hP hD hS
  have h9 := z_s_0_43 hP hD
  clear hP hD
  obtain ⟨hP, hD⟩ := h9
  refine lv_aload_n hx hb dX12_init_918 rfl (lv_at hl 0 rfl) ?_
  refine lv_bipush (v := 48) hx hb dX12_init_919 (by decide) ?_
  refine va_newa (atype := .int) (ty := .int) (N' := 48) (a0 := (48, .inl (fun _ => 0))) hx hb w__arrayClass_int rfl hK hP hD hS hA (z_newI 48) (by decide) (by decide) (by decide) (Nat.le_of_ble_eq_true rfl) (Nat.le_of_ble_eq_true rfl) dX12_init_921 ?_
  clear hK hP hD hS
  intro q_223 cA_224 H_225 hK hP hD hS
  replace hK : va_K (dC, dI) vwCl [(cA_2, .int), (cA_6, .int), (cA_10, .int), (cA_14, .int), (cA_18, .int), (cA_22, .boolean), (cA_26, .int), (cA_30, .int), (cA_34, .boolean), (cA_38, .int), (cA_42, .int), (cA_46, .int), (cA_52, .int), (cA_56, .int), (cA_60, .int), (cA_64, .int), (cA_68, .int), (cA_72, .int), (cA_76, .int), (cA_196, .int), (cA_200, .int), (cA_204, .int), (cA_208, .int), (cA_212, .int), (cA_216, .int), (cA_220, .int), (cA_224, .int)] s := hK
  replace hP : va_P (dC, dI) vwCl [(h0, .inr (12, [.ref q_1, .int 0, .int 0, .int 0, .int 0, .ref q_5, .ref q_9, .ref q_13, .ref q_17, .ref q_21, .ref q_25, .ref q_29, .ref q_33, .ref q_37, .ref q_41, .ref q_45, .int 0, .int 6, .int 6, .int 0, .ref q_51, .ref q_55, .ref q_59, .int 0, .ref q_63, .ref q_67, .ref q_71, .ref q_75, .int 0, .int (-1), .int 0, .int 0, .int 0, .int 0, .int 0, .ref q_195, .ref q_199, .ref q_203, .ref q_207, .long 0, .int 0, .ref q_211, .ref q_215, .ref q_219, .int 0, .int 0, .int 0, .int 0, .null, .null, .null, .null, .null, .null, .null, .null, .null, .null, .int 0, .null, .null, .int 0, .null, .int 0, .null, .int 0, .int 0, .int 0, .int 0, .null])), (q_1, .inl (cA_2, 700, .inl (fun _ => 0))), (q_5, .inl (cA_6, 80, .inl (fun _ => 0))), (q_9, .inl (cA_10, 80, .inl (fun _ => 0))), (q_13, .inl (cA_14, 80, .inl (fun _ => 0))), (q_17, .inl (cA_18, 80, .inl (fun _ => 0))), (q_21, .inl (cA_22, 80, .inl (fun _ => 0))), (q_25, .inl (cA_26, 11520, .inl (fun _ => 0))), (q_29, .inl (cA_30, 12, .inl (fun _ => 0))), (q_33, .inl (cA_34, 144, .inl (fun _ => 0))), (q_37, .inl (cA_38, 12, .inl (fun _ => 0))), (q_41, .inl (cA_42, 12, .inl (fun _ => 0))), (q_45, .inl (cA_46, 12, .inl (fun _ => 0))), (q_51, .inl (cA_52, 10, .inl (fun _ => 0))), (q_55, .inl (cA_56, 10, .inl (fun _ => 0))), (q_59, .inl (cA_60, 120, .inl (fun _ => 0))), (q_63, .inl (cA_64, 6, .inl (fun _ => 0))), (q_67, .inl (cA_68, 6, .inl (fun _ => 0))), (q_71, .inl (cA_72, 24, .inl (fun _ => 0))), (q_75, .inl (cA_76, 115, .inl (z_wk 115))), (q_195, .inl (cA_196, 48, .inl (fun _ => 0))), (q_199, .inl (cA_200, 144, .inl (fun _ => 0))), (q_203, .inl (cA_204, 4, .inl (fun _ => 0))), (q_207, .inl (cA_208, 4, .inl (fun _ => 0))), (q_211, .inl (cA_212, 200, .inl (fun _ => 0))), (q_215, .inl (cA_216, 600, .inl (fun _ => 0))), (q_219, .inl (cA_220, 200, .inl (fun _ => 0))), (q_223, .inl (cA_224, 48, .inl (fun _ => 0)))] H_225 := hP
  replace hD : va_D A [(h0, .inr (12, [.ref q_1, .int 0, .int 0, .int 0, .int 0, .ref q_5, .ref q_9, .ref q_13, .ref q_17, .ref q_21, .ref q_25, .ref q_29, .ref q_33, .ref q_37, .ref q_41, .ref q_45, .int 0, .int 6, .int 6, .int 0, .ref q_51, .ref q_55, .ref q_59, .int 0, .ref q_63, .ref q_67, .ref q_71, .ref q_75, .int 0, .int (-1), .int 0, .int 0, .int 0, .int 0, .int 0, .ref q_195, .ref q_199, .ref q_203, .ref q_207, .long 0, .int 0, .ref q_211, .ref q_215, .ref q_219, .int 0, .int 0, .int 0, .int 0, .null, .null, .null, .null, .null, .null, .null, .null, .null, .null, .int 0, .null, .null, .int 0, .null, .int 0, .null, .int 0, .int 0, .int 0, .int 0, .null])), (q_1, .inl (cA_2, 700, .inl (fun _ => 0))), (q_5, .inl (cA_6, 80, .inl (fun _ => 0))), (q_9, .inl (cA_10, 80, .inl (fun _ => 0))), (q_13, .inl (cA_14, 80, .inl (fun _ => 0))), (q_17, .inl (cA_18, 80, .inl (fun _ => 0))), (q_21, .inl (cA_22, 80, .inl (fun _ => 0))), (q_25, .inl (cA_26, 11520, .inl (fun _ => 0))), (q_29, .inl (cA_30, 12, .inl (fun _ => 0))), (q_33, .inl (cA_34, 144, .inl (fun _ => 0))), (q_37, .inl (cA_38, 12, .inl (fun _ => 0))), (q_41, .inl (cA_42, 12, .inl (fun _ => 0))), (q_45, .inl (cA_46, 12, .inl (fun _ => 0))), (q_51, .inl (cA_52, 10, .inl (fun _ => 0))), (q_55, .inl (cA_56, 10, .inl (fun _ => 0))), (q_59, .inl (cA_60, 120, .inl (fun _ => 0))), (q_63, .inl (cA_64, 6, .inl (fun _ => 0))), (q_67, .inl (cA_68, 6, .inl (fun _ => 0))), (q_71, .inl (cA_72, 24, .inl (fun _ => 0))), (q_75, .inl (cA_76, 115, .inl (z_wk 115))), (q_195, .inl (cA_196, 48, .inl (fun _ => 0))), (q_199, .inl (cA_200, 144, .inl (fun _ => 0))), (q_203, .inl (cA_204, 4, .inl (fun _ => 0))), (q_207, .inl (cA_208, 4, .inl (fun _ => 0))), (q_211, .inl (cA_212, 200, .inl (fun _ => 0))), (q_215, .inl (cA_216, 600, .inl (fun _ => 0))), (q_219, .inl (cA_220, 200, .inl (fun _ => 0))), (q_223, .inl (cA_224, 48, .inl (fun _ => 0)))] := hD
  refine va_putF (D := (dC, dI)) (ci := 12) (v := .ref q_223) (ty := .array .int) (C := RX12) (T := TX12) (N := 70) hx hb hts hiX12 tyX12 tyX12_ok nmX12 hown hK hP hD hS 0 rfl rfl 48 (by decide) w__fieldLink_RX12_99_ShellHeapModel_name_I_ (fun _ h9 => h9) rfl hin rfl (by decide +kernel) rfl rfl (Nat.le_of_ble_eq_true rfl) dX12_init_923 ?_
  clear hP hD hS
  intro H_226 locs hP hD hS
  have h9 := z_s_0_48 hP hD
  clear hP hD
  obtain ⟨hP, hD⟩ := h9
  refine lv_aload_n hx hb dX12_init_926 rfl (lv_at hl 0 rfl) ?_
  refine lv_bipush (v := 6) hx hb dX12_init_927 (by decide) ?_
  refine va_newa (atype := .int) (ty := .int) (N' := 6) (a0 := (6, .inl (fun _ => 0))) hx hb w__arrayClass_int rfl hK hP hD hS hA (z_newI 6) (by decide) (by decide) (by decide) (Nat.le_of_ble_eq_true rfl) (Nat.le_of_ble_eq_true rfl) dX12_init_929 ?_
  clear hK hP hD hS
  intro q_227 cA_228 H_229 hK hP hD hS
  replace hK : va_K (dC, dI) vwCl [(cA_2, .int), (cA_6, .int), (cA_10, .int), (cA_14, .int), (cA_18, .int), (cA_22, .boolean), (cA_26, .int), (cA_30, .int), (cA_34, .boolean), (cA_38, .int), (cA_42, .int), (cA_46, .int), (cA_52, .int), (cA_56, .int), (cA_60, .int), (cA_64, .int), (cA_68, .int), (cA_72, .int), (cA_76, .int), (cA_196, .int), (cA_200, .int), (cA_204, .int), (cA_208, .int), (cA_212, .int), (cA_216, .int), (cA_220, .int), (cA_224, .int), (cA_228, .int)] s := hK
  replace hP : va_P (dC, dI) vwCl [(h0, .inr (12, [.ref q_1, .int 0, .int 0, .int 0, .int 0, .ref q_5, .ref q_9, .ref q_13, .ref q_17, .ref q_21, .ref q_25, .ref q_29, .ref q_33, .ref q_37, .ref q_41, .ref q_45, .int 0, .int 6, .int 6, .int 0, .ref q_51, .ref q_55, .ref q_59, .int 0, .ref q_63, .ref q_67, .ref q_71, .ref q_75, .int 0, .int (-1), .int 0, .int 0, .int 0, .int 0, .int 0, .ref q_195, .ref q_199, .ref q_203, .ref q_207, .long 0, .int 0, .ref q_211, .ref q_215, .ref q_219, .int 0, .int 0, .int 0, .int 0, .ref q_223, .null, .null, .null, .null, .null, .null, .null, .null, .null, .int 0, .null, .null, .int 0, .null, .int 0, .null, .int 0, .int 0, .int 0, .int 0, .null])), (q_1, .inl (cA_2, 700, .inl (fun _ => 0))), (q_5, .inl (cA_6, 80, .inl (fun _ => 0))), (q_9, .inl (cA_10, 80, .inl (fun _ => 0))), (q_13, .inl (cA_14, 80, .inl (fun _ => 0))), (q_17, .inl (cA_18, 80, .inl (fun _ => 0))), (q_21, .inl (cA_22, 80, .inl (fun _ => 0))), (q_25, .inl (cA_26, 11520, .inl (fun _ => 0))), (q_29, .inl (cA_30, 12, .inl (fun _ => 0))), (q_33, .inl (cA_34, 144, .inl (fun _ => 0))), (q_37, .inl (cA_38, 12, .inl (fun _ => 0))), (q_41, .inl (cA_42, 12, .inl (fun _ => 0))), (q_45, .inl (cA_46, 12, .inl (fun _ => 0))), (q_51, .inl (cA_52, 10, .inl (fun _ => 0))), (q_55, .inl (cA_56, 10, .inl (fun _ => 0))), (q_59, .inl (cA_60, 120, .inl (fun _ => 0))), (q_63, .inl (cA_64, 6, .inl (fun _ => 0))), (q_67, .inl (cA_68, 6, .inl (fun _ => 0))), (q_71, .inl (cA_72, 24, .inl (fun _ => 0))), (q_75, .inl (cA_76, 115, .inl (z_wk 115))), (q_195, .inl (cA_196, 48, .inl (fun _ => 0))), (q_199, .inl (cA_200, 144, .inl (fun _ => 0))), (q_203, .inl (cA_204, 4, .inl (fun _ => 0))), (q_207, .inl (cA_208, 4, .inl (fun _ => 0))), (q_211, .inl (cA_212, 200, .inl (fun _ => 0))), (q_215, .inl (cA_216, 600, .inl (fun _ => 0))), (q_219, .inl (cA_220, 200, .inl (fun _ => 0))), (q_223, .inl (cA_224, 48, .inl (fun _ => 0))), (q_227, .inl (cA_228, 6, .inl (fun _ => 0)))] H_229 := hP
  replace hD : va_D A [(h0, .inr (12, [.ref q_1, .int 0, .int 0, .int 0, .int 0, .ref q_5, .ref q_9, .ref q_13, .ref q_17, .ref q_21, .ref q_25, .ref q_29, .ref q_33, .ref q_37, .ref q_41, .ref q_45, .int 0, .int 6, .int 6, .int 0, .ref q_51, .ref q_55, .ref q_59, .int 0, .ref q_63, .ref q_67, .ref q_71, .ref q_75, .int 0, .int (-1), .int 0, .int 0, .int 0, .int 0, .int 0, .ref q_195, .ref q_199, .ref q_203, .ref q_207, .long 0, .int 0, .ref q_211, .ref q_215, .ref q_219, .int 0, .int 0, .int 0, .int 0, .ref q_223, .null, .null, .null, .null, .null, .null, .null, .null, .null, .int 0, .null, .null, .int 0, .null, .int 0, .null, .int 0, .int 0, .int 0, .int 0, .null])), (q_1, .inl (cA_2, 700, .inl (fun _ => 0))), (q_5, .inl (cA_6, 80, .inl (fun _ => 0))), (q_9, .inl (cA_10, 80, .inl (fun _ => 0))), (q_13, .inl (cA_14, 80, .inl (fun _ => 0))), (q_17, .inl (cA_18, 80, .inl (fun _ => 0))), (q_21, .inl (cA_22, 80, .inl (fun _ => 0))), (q_25, .inl (cA_26, 11520, .inl (fun _ => 0))), (q_29, .inl (cA_30, 12, .inl (fun _ => 0))), (q_33, .inl (cA_34, 144, .inl (fun _ => 0))), (q_37, .inl (cA_38, 12, .inl (fun _ => 0))), (q_41, .inl (cA_42, 12, .inl (fun _ => 0))), (q_45, .inl (cA_46, 12, .inl (fun _ => 0))), (q_51, .inl (cA_52, 10, .inl (fun _ => 0))), (q_55, .inl (cA_56, 10, .inl (fun _ => 0))), (q_59, .inl (cA_60, 120, .inl (fun _ => 0))), (q_63, .inl (cA_64, 6, .inl (fun _ => 0))), (q_67, .inl (cA_68, 6, .inl (fun _ => 0))), (q_71, .inl (cA_72, 24, .inl (fun _ => 0))), (q_75, .inl (cA_76, 115, .inl (z_wk 115))), (q_195, .inl (cA_196, 48, .inl (fun _ => 0))), (q_199, .inl (cA_200, 144, .inl (fun _ => 0))), (q_203, .inl (cA_204, 4, .inl (fun _ => 0))), (q_207, .inl (cA_208, 4, .inl (fun _ => 0))), (q_211, .inl (cA_212, 200, .inl (fun _ => 0))), (q_215, .inl (cA_216, 600, .inl (fun _ => 0))), (q_219, .inl (cA_220, 200, .inl (fun _ => 0))), (q_223, .inl (cA_224, 48, .inl (fun _ => 0))), (q_227, .inl (cA_228, 6, .inl (fun _ => 0)))] := hD
  refine va_putF (D := (dC, dI)) (ci := 12) (v := .ref q_227) (ty := .array .int) (C := RX12) (T := TX12) (N := 70) hx hb hts hiX12 tyX12 tyX12_ok nmX12 hown hK hP hD hS 0 rfl rfl 49 (by decide) w__fieldLink_RX12_102_ShellHeapModel_nameSize_I_ (fun _ h9 => h9) rfl hin rfl (by decide +kernel) rfl rfl (Nat.le_of_ble_eq_true rfl) dX12_init_931 ?_
  clear hP hD hS
  intro H_230 locs hP hD hS
  have h9 := z_s_0_49 hP hD
  clear hP hD
  obtain ⟨hP, hD⟩ := h9
  refine lv_aload_n hx hb dX12_init_934 rfl (lv_at hl 0 rfl) ?_
  refine lv_bipush (v := 12) hx hb dX12_init_935 (by decide) ?_
  refine va_newa (atype := .int) (ty := .int) (N' := 12) (a0 := (12, .inl (fun _ => 0))) hx hb w__arrayClass_int rfl hK hP hD hS hA (z_newI 12) (by decide) (by decide) (by decide) (Nat.le_of_ble_eq_true rfl) (Nat.le_of_ble_eq_true rfl) dX12_init_937 ?_
  clear hK hP hD hS
  intro q_231 cA_232 H_233 hK hP hD hS
  replace hK : va_K (dC, dI) vwCl [(cA_2, .int), (cA_6, .int), (cA_10, .int), (cA_14, .int), (cA_18, .int), (cA_22, .boolean), (cA_26, .int), (cA_30, .int), (cA_34, .boolean), (cA_38, .int), (cA_42, .int), (cA_46, .int), (cA_52, .int), (cA_56, .int), (cA_60, .int), (cA_64, .int), (cA_68, .int), (cA_72, .int), (cA_76, .int), (cA_196, .int), (cA_200, .int), (cA_204, .int), (cA_208, .int), (cA_212, .int), (cA_216, .int), (cA_220, .int), (cA_224, .int), (cA_228, .int), (cA_232, .int)] s := hK
  replace hP : va_P (dC, dI) vwCl [(h0, .inr (12, [.ref q_1, .int 0, .int 0, .int 0, .int 0, .ref q_5, .ref q_9, .ref q_13, .ref q_17, .ref q_21, .ref q_25, .ref q_29, .ref q_33, .ref q_37, .ref q_41, .ref q_45, .int 0, .int 6, .int 6, .int 0, .ref q_51, .ref q_55, .ref q_59, .int 0, .ref q_63, .ref q_67, .ref q_71, .ref q_75, .int 0, .int (-1), .int 0, .int 0, .int 0, .int 0, .int 0, .ref q_195, .ref q_199, .ref q_203, .ref q_207, .long 0, .int 0, .ref q_211, .ref q_215, .ref q_219, .int 0, .int 0, .int 0, .int 0, .ref q_223, .ref q_227, .null, .null, .null, .null, .null, .null, .null, .null, .int 0, .null, .null, .int 0, .null, .int 0, .null, .int 0, .int 0, .int 0, .int 0, .null])), (q_1, .inl (cA_2, 700, .inl (fun _ => 0))), (q_5, .inl (cA_6, 80, .inl (fun _ => 0))), (q_9, .inl (cA_10, 80, .inl (fun _ => 0))), (q_13, .inl (cA_14, 80, .inl (fun _ => 0))), (q_17, .inl (cA_18, 80, .inl (fun _ => 0))), (q_21, .inl (cA_22, 80, .inl (fun _ => 0))), (q_25, .inl (cA_26, 11520, .inl (fun _ => 0))), (q_29, .inl (cA_30, 12, .inl (fun _ => 0))), (q_33, .inl (cA_34, 144, .inl (fun _ => 0))), (q_37, .inl (cA_38, 12, .inl (fun _ => 0))), (q_41, .inl (cA_42, 12, .inl (fun _ => 0))), (q_45, .inl (cA_46, 12, .inl (fun _ => 0))), (q_51, .inl (cA_52, 10, .inl (fun _ => 0))), (q_55, .inl (cA_56, 10, .inl (fun _ => 0))), (q_59, .inl (cA_60, 120, .inl (fun _ => 0))), (q_63, .inl (cA_64, 6, .inl (fun _ => 0))), (q_67, .inl (cA_68, 6, .inl (fun _ => 0))), (q_71, .inl (cA_72, 24, .inl (fun _ => 0))), (q_75, .inl (cA_76, 115, .inl (z_wk 115))), (q_195, .inl (cA_196, 48, .inl (fun _ => 0))), (q_199, .inl (cA_200, 144, .inl (fun _ => 0))), (q_203, .inl (cA_204, 4, .inl (fun _ => 0))), (q_207, .inl (cA_208, 4, .inl (fun _ => 0))), (q_211, .inl (cA_212, 200, .inl (fun _ => 0))), (q_215, .inl (cA_216, 600, .inl (fun _ => 0))), (q_219, .inl (cA_220, 200, .inl (fun _ => 0))), (q_223, .inl (cA_224, 48, .inl (fun _ => 0))), (q_227, .inl (cA_228, 6, .inl (fun _ => 0))), (q_231, .inl (cA_232, 12, .inl (fun _ => 0)))] H_233 := hP
  replace hD : va_D A [(h0, .inr (12, [.ref q_1, .int 0, .int 0, .int 0, .int 0, .ref q_5, .ref q_9, .ref q_13, .ref q_17, .ref q_21, .ref q_25, .ref q_29, .ref q_33, .ref q_37, .ref q_41, .ref q_45, .int 0, .int 6, .int 6, .int 0, .ref q_51, .ref q_55, .ref q_59, .int 0, .ref q_63, .ref q_67, .ref q_71, .ref q_75, .int 0, .int (-1), .int 0, .int 0, .int 0, .int 0, .int 0, .ref q_195, .ref q_199, .ref q_203, .ref q_207, .long 0, .int 0, .ref q_211, .ref q_215, .ref q_219, .int 0, .int 0, .int 0, .int 0, .ref q_223, .ref q_227, .null, .null, .null, .null, .null, .null, .null, .null, .int 0, .null, .null, .int 0, .null, .int 0, .null, .int 0, .int 0, .int 0, .int 0, .null])), (q_1, .inl (cA_2, 700, .inl (fun _ => 0))), (q_5, .inl (cA_6, 80, .inl (fun _ => 0))), (q_9, .inl (cA_10, 80, .inl (fun _ => 0))), (q_13, .inl (cA_14, 80, .inl (fun _ => 0))), (q_17, .inl (cA_18, 80, .inl (fun _ => 0))), (q_21, .inl (cA_22, 80, .inl (fun _ => 0))), (q_25, .inl (cA_26, 11520, .inl (fun _ => 0))), (q_29, .inl (cA_30, 12, .inl (fun _ => 0))), (q_33, .inl (cA_34, 144, .inl (fun _ => 0))), (q_37, .inl (cA_38, 12, .inl (fun _ => 0))), (q_41, .inl (cA_42, 12, .inl (fun _ => 0))), (q_45, .inl (cA_46, 12, .inl (fun _ => 0))), (q_51, .inl (cA_52, 10, .inl (fun _ => 0))), (q_55, .inl (cA_56, 10, .inl (fun _ => 0))), (q_59, .inl (cA_60, 120, .inl (fun _ => 0))), (q_63, .inl (cA_64, 6, .inl (fun _ => 0))), (q_67, .inl (cA_68, 6, .inl (fun _ => 0))), (q_71, .inl (cA_72, 24, .inl (fun _ => 0))), (q_75, .inl (cA_76, 115, .inl (z_wk 115))), (q_195, .inl (cA_196, 48, .inl (fun _ => 0))), (q_199, .inl (cA_200, 144, .inl (fun _ => 0))), (q_203, .inl (cA_204, 4, .inl (fun _ => 0))), (q_207, .inl (cA_208, 4, .inl (fun _ => 0))), (q_211, .inl (cA_212, 200, .inl (fun _ => 0))), (q_215, .inl (cA_216, 600, .inl (fun _ => 0))), (q_219, .inl (cA_220, 200, .inl (fun _ => 0))), (q_223, .inl (cA_224, 48, .inl (fun _ => 0))), (q_227, .inl (cA_228, 6, .inl (fun _ => 0))), (q_231, .inl (cA_232, 12, .inl (fun _ => 0)))] := hD
  refine va_putF (D := (dC, dI)) (ci := 12) (v := .ref q_231) (ty := .array .int) (C := RX12) (T := TX12) (N := 70) hx hb hts hiX12 tyX12 tyX12_ok nmX12 hown hK hP hD hS 0 rfl rfl 50 (by decide) w__fieldLink_RX12_105_ShellHeapModel_causeFirst_I_ (fun _ h9 => h9) rfl hin rfl (by decide +kernel) rfl rfl (Nat.le_of_ble_eq_true rfl) dX12_init_939 ?_
  clear hP hD hS
  intro H_234 locs hP hD hS
  have h9 := z_s_0_50 hP hD
  clear hP hD
  obtain ⟨hP, hD⟩ := h9
  refine lv_aload_n hx hb dX12_init_942 rfl (lv_at hl 0 rfl) ?_
  refine lv_bipush (v := 12) hx hb dX12_init_943 (by decide) ?_
  refine va_newa (atype := .int) (ty := .int) (N' := 12) (a0 := (12, .inl (fun _ => 0))) hx hb w__arrayClass_int rfl hK hP hD hS hA (z_newI 12) (by decide) (by decide) (by decide) (Nat.le_of_ble_eq_true rfl) (Nat.le_of_ble_eq_true rfl) dX12_init_945 ?_
  clear hK hP hD hS
  intro q_235 cA_236 H_237 hK hP hD hS
  replace hK : va_K (dC, dI) vwCl [(cA_2, .int), (cA_6, .int), (cA_10, .int), (cA_14, .int), (cA_18, .int), (cA_22, .boolean), (cA_26, .int), (cA_30, .int), (cA_34, .boolean), (cA_38, .int), (cA_42, .int), (cA_46, .int), (cA_52, .int), (cA_56, .int), (cA_60, .int), (cA_64, .int), (cA_68, .int), (cA_72, .int), (cA_76, .int), (cA_196, .int), (cA_200, .int), (cA_204, .int), (cA_208, .int), (cA_212, .int), (cA_216, .int), (cA_220, .int), (cA_224, .int), (cA_228, .int), (cA_232, .int), (cA_236, .int)] s := hK
  replace hP : va_P (dC, dI) vwCl [(h0, .inr (12, [.ref q_1, .int 0, .int 0, .int 0, .int 0, .ref q_5, .ref q_9, .ref q_13, .ref q_17, .ref q_21, .ref q_25, .ref q_29, .ref q_33, .ref q_37, .ref q_41, .ref q_45, .int 0, .int 6, .int 6, .int 0, .ref q_51, .ref q_55, .ref q_59, .int 0, .ref q_63, .ref q_67, .ref q_71, .ref q_75, .int 0, .int (-1), .int 0, .int 0, .int 0, .int 0, .int 0, .ref q_195, .ref q_199, .ref q_203, .ref q_207, .long 0, .int 0, .ref q_211, .ref q_215, .ref q_219, .int 0, .int 0, .int 0, .int 0, .ref q_223, .ref q_227, .ref q_231, .null, .null, .null, .null, .null, .null, .null, .int 0, .null, .null, .int 0, .null, .int 0, .null, .int 0, .int 0, .int 0, .int 0, .null])), (q_1, .inl (cA_2, 700, .inl (fun _ => 0))), (q_5, .inl (cA_6, 80, .inl (fun _ => 0))), (q_9, .inl (cA_10, 80, .inl (fun _ => 0))), (q_13, .inl (cA_14, 80, .inl (fun _ => 0))), (q_17, .inl (cA_18, 80, .inl (fun _ => 0))), (q_21, .inl (cA_22, 80, .inl (fun _ => 0))), (q_25, .inl (cA_26, 11520, .inl (fun _ => 0))), (q_29, .inl (cA_30, 12, .inl (fun _ => 0))), (q_33, .inl (cA_34, 144, .inl (fun _ => 0))), (q_37, .inl (cA_38, 12, .inl (fun _ => 0))), (q_41, .inl (cA_42, 12, .inl (fun _ => 0))), (q_45, .inl (cA_46, 12, .inl (fun _ => 0))), (q_51, .inl (cA_52, 10, .inl (fun _ => 0))), (q_55, .inl (cA_56, 10, .inl (fun _ => 0))), (q_59, .inl (cA_60, 120, .inl (fun _ => 0))), (q_63, .inl (cA_64, 6, .inl (fun _ => 0))), (q_67, .inl (cA_68, 6, .inl (fun _ => 0))), (q_71, .inl (cA_72, 24, .inl (fun _ => 0))), (q_75, .inl (cA_76, 115, .inl (z_wk 115))), (q_195, .inl (cA_196, 48, .inl (fun _ => 0))), (q_199, .inl (cA_200, 144, .inl (fun _ => 0))), (q_203, .inl (cA_204, 4, .inl (fun _ => 0))), (q_207, .inl (cA_208, 4, .inl (fun _ => 0))), (q_211, .inl (cA_212, 200, .inl (fun _ => 0))), (q_215, .inl (cA_216, 600, .inl (fun _ => 0))), (q_219, .inl (cA_220, 200, .inl (fun _ => 0))), (q_223, .inl (cA_224, 48, .inl (fun _ => 0))), (q_227, .inl (cA_228, 6, .inl (fun _ => 0))), (q_231, .inl (cA_232, 12, .inl (fun _ => 0))), (q_235, .inl (cA_236, 12, .inl (fun _ => 0)))] H_237 := hP
  replace hD : va_D A [(h0, .inr (12, [.ref q_1, .int 0, .int 0, .int 0, .int 0, .ref q_5, .ref q_9, .ref q_13, .ref q_17, .ref q_21, .ref q_25, .ref q_29, .ref q_33, .ref q_37, .ref q_41, .ref q_45, .int 0, .int 6, .int 6, .int 0, .ref q_51, .ref q_55, .ref q_59, .int 0, .ref q_63, .ref q_67, .ref q_71, .ref q_75, .int 0, .int (-1), .int 0, .int 0, .int 0, .int 0, .int 0, .ref q_195, .ref q_199, .ref q_203, .ref q_207, .long 0, .int 0, .ref q_211, .ref q_215, .ref q_219, .int 0, .int 0, .int 0, .int 0, .ref q_223, .ref q_227, .ref q_231, .null, .null, .null, .null, .null, .null, .null, .int 0, .null, .null, .int 0, .null, .int 0, .null, .int 0, .int 0, .int 0, .int 0, .null])), (q_1, .inl (cA_2, 700, .inl (fun _ => 0))), (q_5, .inl (cA_6, 80, .inl (fun _ => 0))), (q_9, .inl (cA_10, 80, .inl (fun _ => 0))), (q_13, .inl (cA_14, 80, .inl (fun _ => 0))), (q_17, .inl (cA_18, 80, .inl (fun _ => 0))), (q_21, .inl (cA_22, 80, .inl (fun _ => 0))), (q_25, .inl (cA_26, 11520, .inl (fun _ => 0))), (q_29, .inl (cA_30, 12, .inl (fun _ => 0))), (q_33, .inl (cA_34, 144, .inl (fun _ => 0))), (q_37, .inl (cA_38, 12, .inl (fun _ => 0))), (q_41, .inl (cA_42, 12, .inl (fun _ => 0))), (q_45, .inl (cA_46, 12, .inl (fun _ => 0))), (q_51, .inl (cA_52, 10, .inl (fun _ => 0))), (q_55, .inl (cA_56, 10, .inl (fun _ => 0))), (q_59, .inl (cA_60, 120, .inl (fun _ => 0))), (q_63, .inl (cA_64, 6, .inl (fun _ => 0))), (q_67, .inl (cA_68, 6, .inl (fun _ => 0))), (q_71, .inl (cA_72, 24, .inl (fun _ => 0))), (q_75, .inl (cA_76, 115, .inl (z_wk 115))), (q_195, .inl (cA_196, 48, .inl (fun _ => 0))), (q_199, .inl (cA_200, 144, .inl (fun _ => 0))), (q_203, .inl (cA_204, 4, .inl (fun _ => 0))), (q_207, .inl (cA_208, 4, .inl (fun _ => 0))), (q_211, .inl (cA_212, 200, .inl (fun _ => 0))), (q_215, .inl (cA_216, 600, .inl (fun _ => 0))), (q_219, .inl (cA_220, 200, .inl (fun _ => 0))), (q_223, .inl (cA_224, 48, .inl (fun _ => 0))), (q_227, .inl (cA_228, 6, .inl (fun _ => 0))), (q_231, .inl (cA_232, 12, .inl (fun _ => 0))), (q_235, .inl (cA_236, 12, .inl (fun _ => 0)))] := hD
  refine va_putF (D := (dC, dI)) (ci := 12) (v := .ref q_235) (ty := .array .int) (C := RX12) (T := TX12) (N := 70) hx hb hts hiX12 tyX12 tyX12_ok nmX12 hown hK hP hD hS 0 rfl rfl 51 (by decide) w__fieldLink_RX12_108_ShellHeapModel_causeMany_I_ (fun _ h9 => h9) rfl hin rfl (by decide +kernel) rfl rfl (Nat.le_of_ble_eq_true rfl) dX12_init_947 ?_
  clear hP hD hS
  intro H_238 locs hP hD hS
  have h9 := z_s_0_51 hP hD
  clear hP hD
  obtain ⟨hP, hD⟩ := h9
  refine lv_aload_n hx hb dX12_init_950 rfl (lv_at hl 0 rfl) ?_
  refine lv_sipush (v := 192) hx hb dX12_init_951 (by decide) ?_
  refine va_newa (atype := .int) (ty := .int) (N' := 192) (a0 := (192, .inl (fun _ => 0))) hx hb w__arrayClass_int rfl hK hP hD hS hA (z_newI 192) (by decide) (by decide) (by decide) (Nat.le_of_ble_eq_true rfl) (Nat.le_of_ble_eq_true rfl) dX12_init_954 ?_
  clear hK hP hD hS
  intro q_239 cA_240 H_241 hK hP hD hS
  replace hK : va_K (dC, dI) vwCl [(cA_2, .int), (cA_6, .int), (cA_10, .int), (cA_14, .int), (cA_18, .int), (cA_22, .boolean), (cA_26, .int), (cA_30, .int), (cA_34, .boolean), (cA_38, .int), (cA_42, .int), (cA_46, .int), (cA_52, .int), (cA_56, .int), (cA_60, .int), (cA_64, .int), (cA_68, .int), (cA_72, .int), (cA_76, .int), (cA_196, .int), (cA_200, .int), (cA_204, .int), (cA_208, .int), (cA_212, .int), (cA_216, .int), (cA_220, .int), (cA_224, .int), (cA_228, .int), (cA_232, .int), (cA_236, .int), (cA_240, .int)] s := hK
  replace hP : va_P (dC, dI) vwCl [(h0, .inr (12, [.ref q_1, .int 0, .int 0, .int 0, .int 0, .ref q_5, .ref q_9, .ref q_13, .ref q_17, .ref q_21, .ref q_25, .ref q_29, .ref q_33, .ref q_37, .ref q_41, .ref q_45, .int 0, .int 6, .int 6, .int 0, .ref q_51, .ref q_55, .ref q_59, .int 0, .ref q_63, .ref q_67, .ref q_71, .ref q_75, .int 0, .int (-1), .int 0, .int 0, .int 0, .int 0, .int 0, .ref q_195, .ref q_199, .ref q_203, .ref q_207, .long 0, .int 0, .ref q_211, .ref q_215, .ref q_219, .int 0, .int 0, .int 0, .int 0, .ref q_223, .ref q_227, .ref q_231, .ref q_235, .null, .null, .null, .null, .null, .null, .int 0, .null, .null, .int 0, .null, .int 0, .null, .int 0, .int 0, .int 0, .int 0, .null])), (q_1, .inl (cA_2, 700, .inl (fun _ => 0))), (q_5, .inl (cA_6, 80, .inl (fun _ => 0))), (q_9, .inl (cA_10, 80, .inl (fun _ => 0))), (q_13, .inl (cA_14, 80, .inl (fun _ => 0))), (q_17, .inl (cA_18, 80, .inl (fun _ => 0))), (q_21, .inl (cA_22, 80, .inl (fun _ => 0))), (q_25, .inl (cA_26, 11520, .inl (fun _ => 0))), (q_29, .inl (cA_30, 12, .inl (fun _ => 0))), (q_33, .inl (cA_34, 144, .inl (fun _ => 0))), (q_37, .inl (cA_38, 12, .inl (fun _ => 0))), (q_41, .inl (cA_42, 12, .inl (fun _ => 0))), (q_45, .inl (cA_46, 12, .inl (fun _ => 0))), (q_51, .inl (cA_52, 10, .inl (fun _ => 0))), (q_55, .inl (cA_56, 10, .inl (fun _ => 0))), (q_59, .inl (cA_60, 120, .inl (fun _ => 0))), (q_63, .inl (cA_64, 6, .inl (fun _ => 0))), (q_67, .inl (cA_68, 6, .inl (fun _ => 0))), (q_71, .inl (cA_72, 24, .inl (fun _ => 0))), (q_75, .inl (cA_76, 115, .inl (z_wk 115))), (q_195, .inl (cA_196, 48, .inl (fun _ => 0))), (q_199, .inl (cA_200, 144, .inl (fun _ => 0))), (q_203, .inl (cA_204, 4, .inl (fun _ => 0))), (q_207, .inl (cA_208, 4, .inl (fun _ => 0))), (q_211, .inl (cA_212, 200, .inl (fun _ => 0))), (q_215, .inl (cA_216, 600, .inl (fun _ => 0))), (q_219, .inl (cA_220, 200, .inl (fun _ => 0))), (q_223, .inl (cA_224, 48, .inl (fun _ => 0))), (q_227, .inl (cA_228, 6, .inl (fun _ => 0))), (q_231, .inl (cA_232, 12, .inl (fun _ => 0))), (q_235, .inl (cA_236, 12, .inl (fun _ => 0))), (q_239, .inl (cA_240, 192, .inl (fun _ => 0)))] H_241 := hP
  replace hD : va_D A [(h0, .inr (12, [.ref q_1, .int 0, .int 0, .int 0, .int 0, .ref q_5, .ref q_9, .ref q_13, .ref q_17, .ref q_21, .ref q_25, .ref q_29, .ref q_33, .ref q_37, .ref q_41, .ref q_45, .int 0, .int 6, .int 6, .int 0, .ref q_51, .ref q_55, .ref q_59, .int 0, .ref q_63, .ref q_67, .ref q_71, .ref q_75, .int 0, .int (-1), .int 0, .int 0, .int 0, .int 0, .int 0, .ref q_195, .ref q_199, .ref q_203, .ref q_207, .long 0, .int 0, .ref q_211, .ref q_215, .ref q_219, .int 0, .int 0, .int 0, .int 0, .ref q_223, .ref q_227, .ref q_231, .ref q_235, .null, .null, .null, .null, .null, .null, .int 0, .null, .null, .int 0, .null, .int 0, .null, .int 0, .int 0, .int 0, .int 0, .null])), (q_1, .inl (cA_2, 700, .inl (fun _ => 0))), (q_5, .inl (cA_6, 80, .inl (fun _ => 0))), (q_9, .inl (cA_10, 80, .inl (fun _ => 0))), (q_13, .inl (cA_14, 80, .inl (fun _ => 0))), (q_17, .inl (cA_18, 80, .inl (fun _ => 0))), (q_21, .inl (cA_22, 80, .inl (fun _ => 0))), (q_25, .inl (cA_26, 11520, .inl (fun _ => 0))), (q_29, .inl (cA_30, 12, .inl (fun _ => 0))), (q_33, .inl (cA_34, 144, .inl (fun _ => 0))), (q_37, .inl (cA_38, 12, .inl (fun _ => 0))), (q_41, .inl (cA_42, 12, .inl (fun _ => 0))), (q_45, .inl (cA_46, 12, .inl (fun _ => 0))), (q_51, .inl (cA_52, 10, .inl (fun _ => 0))), (q_55, .inl (cA_56, 10, .inl (fun _ => 0))), (q_59, .inl (cA_60, 120, .inl (fun _ => 0))), (q_63, .inl (cA_64, 6, .inl (fun _ => 0))), (q_67, .inl (cA_68, 6, .inl (fun _ => 0))), (q_71, .inl (cA_72, 24, .inl (fun _ => 0))), (q_75, .inl (cA_76, 115, .inl (z_wk 115))), (q_195, .inl (cA_196, 48, .inl (fun _ => 0))), (q_199, .inl (cA_200, 144, .inl (fun _ => 0))), (q_203, .inl (cA_204, 4, .inl (fun _ => 0))), (q_207, .inl (cA_208, 4, .inl (fun _ => 0))), (q_211, .inl (cA_212, 200, .inl (fun _ => 0))), (q_215, .inl (cA_216, 600, .inl (fun _ => 0))), (q_219, .inl (cA_220, 200, .inl (fun _ => 0))), (q_223, .inl (cA_224, 48, .inl (fun _ => 0))), (q_227, .inl (cA_228, 6, .inl (fun _ => 0))), (q_231, .inl (cA_232, 12, .inl (fun _ => 0))), (q_235, .inl (cA_236, 12, .inl (fun _ => 0))), (q_239, .inl (cA_240, 192, .inl (fun _ => 0)))] := hD
  refine va_putF (D := (dC, dI)) (ci := 12) (v := .ref q_239) (ty := .array .int) (C := RX12) (T := TX12) (N := 70) hx hb hts hiX12 tyX12 tyX12_ok nmX12 hown hK hP hD hS 0 rfl rfl 52 (by decide) w__fieldLink_RX12_111_ShellHeapModel_knot_I_ (fun _ h9 => h9) rfl hin rfl (by decide +kernel) rfl rfl (Nat.le_of_ble_eq_true rfl) dX12_init_956 ?_
  clear hP hD hS
  intro H_242 locs hP hD hS
  have h9 := z_s_0_52 hP hD
  clear hP hD
  obtain ⟨hP, hD⟩ := h9
  refine lv_aload_n hx hb dX12_init_959 rfl (lv_at hl 0 rfl) ?_
  refine lv_sipush (v := 192) hx hb dX12_init_960 (by decide) ?_
  refine va_newa (atype := .int) (ty := .int) (N' := 192) (a0 := (192, .inl (fun _ => 0))) hx hb w__arrayClass_int rfl hK hP hD hS hA (z_newI 192) (by decide) (by decide) (by decide) (Nat.le_of_ble_eq_true rfl) (Nat.le_of_ble_eq_true rfl) dX12_init_963 ?_
  clear hK hP hD hS
  intro q_243 cA_244 H_245 hK hP hD hS
  replace hK : va_K (dC, dI) vwCl [(cA_2, .int), (cA_6, .int), (cA_10, .int), (cA_14, .int), (cA_18, .int), (cA_22, .boolean), (cA_26, .int), (cA_30, .int), (cA_34, .boolean), (cA_38, .int), (cA_42, .int), (cA_46, .int), (cA_52, .int), (cA_56, .int), (cA_60, .int), (cA_64, .int), (cA_68, .int), (cA_72, .int), (cA_76, .int), (cA_196, .int), (cA_200, .int), (cA_204, .int), (cA_208, .int), (cA_212, .int), (cA_216, .int), (cA_220, .int), (cA_224, .int), (cA_228, .int), (cA_232, .int), (cA_236, .int), (cA_240, .int), (cA_244, .int)] s := hK
  replace hP : va_P (dC, dI) vwCl [(h0, .inr (12, [.ref q_1, .int 0, .int 0, .int 0, .int 0, .ref q_5, .ref q_9, .ref q_13, .ref q_17, .ref q_21, .ref q_25, .ref q_29, .ref q_33, .ref q_37, .ref q_41, .ref q_45, .int 0, .int 6, .int 6, .int 0, .ref q_51, .ref q_55, .ref q_59, .int 0, .ref q_63, .ref q_67, .ref q_71, .ref q_75, .int 0, .int (-1), .int 0, .int 0, .int 0, .int 0, .int 0, .ref q_195, .ref q_199, .ref q_203, .ref q_207, .long 0, .int 0, .ref q_211, .ref q_215, .ref q_219, .int 0, .int 0, .int 0, .int 0, .ref q_223, .ref q_227, .ref q_231, .ref q_235, .ref q_239, .null, .null, .null, .null, .null, .int 0, .null, .null, .int 0, .null, .int 0, .null, .int 0, .int 0, .int 0, .int 0, .null])), (q_1, .inl (cA_2, 700, .inl (fun _ => 0))), (q_5, .inl (cA_6, 80, .inl (fun _ => 0))), (q_9, .inl (cA_10, 80, .inl (fun _ => 0))), (q_13, .inl (cA_14, 80, .inl (fun _ => 0))), (q_17, .inl (cA_18, 80, .inl (fun _ => 0))), (q_21, .inl (cA_22, 80, .inl (fun _ => 0))), (q_25, .inl (cA_26, 11520, .inl (fun _ => 0))), (q_29, .inl (cA_30, 12, .inl (fun _ => 0))), (q_33, .inl (cA_34, 144, .inl (fun _ => 0))), (q_37, .inl (cA_38, 12, .inl (fun _ => 0))), (q_41, .inl (cA_42, 12, .inl (fun _ => 0))), (q_45, .inl (cA_46, 12, .inl (fun _ => 0))), (q_51, .inl (cA_52, 10, .inl (fun _ => 0))), (q_55, .inl (cA_56, 10, .inl (fun _ => 0))), (q_59, .inl (cA_60, 120, .inl (fun _ => 0))), (q_63, .inl (cA_64, 6, .inl (fun _ => 0))), (q_67, .inl (cA_68, 6, .inl (fun _ => 0))), (q_71, .inl (cA_72, 24, .inl (fun _ => 0))), (q_75, .inl (cA_76, 115, .inl (z_wk 115))), (q_195, .inl (cA_196, 48, .inl (fun _ => 0))), (q_199, .inl (cA_200, 144, .inl (fun _ => 0))), (q_203, .inl (cA_204, 4, .inl (fun _ => 0))), (q_207, .inl (cA_208, 4, .inl (fun _ => 0))), (q_211, .inl (cA_212, 200, .inl (fun _ => 0))), (q_215, .inl (cA_216, 600, .inl (fun _ => 0))), (q_219, .inl (cA_220, 200, .inl (fun _ => 0))), (q_223, .inl (cA_224, 48, .inl (fun _ => 0))), (q_227, .inl (cA_228, 6, .inl (fun _ => 0))), (q_231, .inl (cA_232, 12, .inl (fun _ => 0))), (q_235, .inl (cA_236, 12, .inl (fun _ => 0))), (q_239, .inl (cA_240, 192, .inl (fun _ => 0))), (q_243, .inl (cA_244, 192, .inl (fun _ => 0)))] H_245 := hP
  replace hD : va_D A [(h0, .inr (12, [.ref q_1, .int 0, .int 0, .int 0, .int 0, .ref q_5, .ref q_9, .ref q_13, .ref q_17, .ref q_21, .ref q_25, .ref q_29, .ref q_33, .ref q_37, .ref q_41, .ref q_45, .int 0, .int 6, .int 6, .int 0, .ref q_51, .ref q_55, .ref q_59, .int 0, .ref q_63, .ref q_67, .ref q_71, .ref q_75, .int 0, .int (-1), .int 0, .int 0, .int 0, .int 0, .int 0, .ref q_195, .ref q_199, .ref q_203, .ref q_207, .long 0, .int 0, .ref q_211, .ref q_215, .ref q_219, .int 0, .int 0, .int 0, .int 0, .ref q_223, .ref q_227, .ref q_231, .ref q_235, .ref q_239, .null, .null, .null, .null, .null, .int 0, .null, .null, .int 0, .null, .int 0, .null, .int 0, .int 0, .int 0, .int 0, .null])), (q_1, .inl (cA_2, 700, .inl (fun _ => 0))), (q_5, .inl (cA_6, 80, .inl (fun _ => 0))), (q_9, .inl (cA_10, 80, .inl (fun _ => 0))), (q_13, .inl (cA_14, 80, .inl (fun _ => 0))), (q_17, .inl (cA_18, 80, .inl (fun _ => 0))), (q_21, .inl (cA_22, 80, .inl (fun _ => 0))), (q_25, .inl (cA_26, 11520, .inl (fun _ => 0))), (q_29, .inl (cA_30, 12, .inl (fun _ => 0))), (q_33, .inl (cA_34, 144, .inl (fun _ => 0))), (q_37, .inl (cA_38, 12, .inl (fun _ => 0))), (q_41, .inl (cA_42, 12, .inl (fun _ => 0))), (q_45, .inl (cA_46, 12, .inl (fun _ => 0))), (q_51, .inl (cA_52, 10, .inl (fun _ => 0))), (q_55, .inl (cA_56, 10, .inl (fun _ => 0))), (q_59, .inl (cA_60, 120, .inl (fun _ => 0))), (q_63, .inl (cA_64, 6, .inl (fun _ => 0))), (q_67, .inl (cA_68, 6, .inl (fun _ => 0))), (q_71, .inl (cA_72, 24, .inl (fun _ => 0))), (q_75, .inl (cA_76, 115, .inl (z_wk 115))), (q_195, .inl (cA_196, 48, .inl (fun _ => 0))), (q_199, .inl (cA_200, 144, .inl (fun _ => 0))), (q_203, .inl (cA_204, 4, .inl (fun _ => 0))), (q_207, .inl (cA_208, 4, .inl (fun _ => 0))), (q_211, .inl (cA_212, 200, .inl (fun _ => 0))), (q_215, .inl (cA_216, 600, .inl (fun _ => 0))), (q_219, .inl (cA_220, 200, .inl (fun _ => 0))), (q_223, .inl (cA_224, 48, .inl (fun _ => 0))), (q_227, .inl (cA_228, 6, .inl (fun _ => 0))), (q_231, .inl (cA_232, 12, .inl (fun _ => 0))), (q_235, .inl (cA_236, 12, .inl (fun _ => 0))), (q_239, .inl (cA_240, 192, .inl (fun _ => 0))), (q_243, .inl (cA_244, 192, .inl (fun _ => 0)))] := hD
  refine va_putF (D := (dC, dI)) (ci := 12) (v := .ref q_243) (ty := .array .int) (C := RX12) (T := TX12) (N := 70) hx hb hts hiX12 tyX12 tyX12_ok nmX12 hown hK hP hD hS 0 rfl rfl 53 (by decide) w__fieldLink_RX12_114_ShellHeapModel_left_I_ (fun _ h9 => h9) rfl hin rfl (by decide +kernel) rfl rfl (Nat.le_of_ble_eq_true rfl) dX12_init_965 ?_
  clear hP hD hS
  intro H_246 locs hP hD hS
  have h9 := z_s_0_53 hP hD
  clear hP hD
  obtain ⟨hP, hD⟩ := h9
  refine lv_aload_n hx hb dX12_init_968 rfl (lv_at hl 0 rfl) ?_
  refine lv_sipush (v := 192) hx hb dX12_init_969 (by decide) ?_
  refine va_newa (atype := .int) (ty := .int) (N' := 192) (a0 := (192, .inl (fun _ => 0))) hx hb w__arrayClass_int rfl hK hP hD hS hA (z_newI 192) (by decide) (by decide) (by decide) (Nat.le_of_ble_eq_true rfl) (Nat.le_of_ble_eq_true rfl) dX12_init_972 ?_
  clear hK hP hD hS
  intro q_247 cA_248 H_249 hK hP hD hS
  replace hK : va_K (dC, dI) vwCl [(cA_2, .int), (cA_6, .int), (cA_10, .int), (cA_14, .int), (cA_18, .int), (cA_22, .boolean), (cA_26, .int), (cA_30, .int), (cA_34, .boolean), (cA_38, .int), (cA_42, .int), (cA_46, .int), (cA_52, .int), (cA_56, .int), (cA_60, .int), (cA_64, .int), (cA_68, .int), (cA_72, .int), (cA_76, .int), (cA_196, .int), (cA_200, .int), (cA_204, .int), (cA_208, .int), (cA_212, .int), (cA_216, .int), (cA_220, .int), (cA_224, .int), (cA_228, .int), (cA_232, .int), (cA_236, .int), (cA_240, .int), (cA_244, .int), (cA_248, .int)] s := hK
  replace hP : va_P (dC, dI) vwCl [(h0, .inr (12, [.ref q_1, .int 0, .int 0, .int 0, .int 0, .ref q_5, .ref q_9, .ref q_13, .ref q_17, .ref q_21, .ref q_25, .ref q_29, .ref q_33, .ref q_37, .ref q_41, .ref q_45, .int 0, .int 6, .int 6, .int 0, .ref q_51, .ref q_55, .ref q_59, .int 0, .ref q_63, .ref q_67, .ref q_71, .ref q_75, .int 0, .int (-1), .int 0, .int 0, .int 0, .int 0, .int 0, .ref q_195, .ref q_199, .ref q_203, .ref q_207, .long 0, .int 0, .ref q_211, .ref q_215, .ref q_219, .int 0, .int 0, .int 0, .int 0, .ref q_223, .ref q_227, .ref q_231, .ref q_235, .ref q_239, .ref q_243, .null, .null, .null, .null, .int 0, .null, .null, .int 0, .null, .int 0, .null, .int 0, .int 0, .int 0, .int 0, .null])), (q_1, .inl (cA_2, 700, .inl (fun _ => 0))), (q_5, .inl (cA_6, 80, .inl (fun _ => 0))), (q_9, .inl (cA_10, 80, .inl (fun _ => 0))), (q_13, .inl (cA_14, 80, .inl (fun _ => 0))), (q_17, .inl (cA_18, 80, .inl (fun _ => 0))), (q_21, .inl (cA_22, 80, .inl (fun _ => 0))), (q_25, .inl (cA_26, 11520, .inl (fun _ => 0))), (q_29, .inl (cA_30, 12, .inl (fun _ => 0))), (q_33, .inl (cA_34, 144, .inl (fun _ => 0))), (q_37, .inl (cA_38, 12, .inl (fun _ => 0))), (q_41, .inl (cA_42, 12, .inl (fun _ => 0))), (q_45, .inl (cA_46, 12, .inl (fun _ => 0))), (q_51, .inl (cA_52, 10, .inl (fun _ => 0))), (q_55, .inl (cA_56, 10, .inl (fun _ => 0))), (q_59, .inl (cA_60, 120, .inl (fun _ => 0))), (q_63, .inl (cA_64, 6, .inl (fun _ => 0))), (q_67, .inl (cA_68, 6, .inl (fun _ => 0))), (q_71, .inl (cA_72, 24, .inl (fun _ => 0))), (q_75, .inl (cA_76, 115, .inl (z_wk 115))), (q_195, .inl (cA_196, 48, .inl (fun _ => 0))), (q_199, .inl (cA_200, 144, .inl (fun _ => 0))), (q_203, .inl (cA_204, 4, .inl (fun _ => 0))), (q_207, .inl (cA_208, 4, .inl (fun _ => 0))), (q_211, .inl (cA_212, 200, .inl (fun _ => 0))), (q_215, .inl (cA_216, 600, .inl (fun _ => 0))), (q_219, .inl (cA_220, 200, .inl (fun _ => 0))), (q_223, .inl (cA_224, 48, .inl (fun _ => 0))), (q_227, .inl (cA_228, 6, .inl (fun _ => 0))), (q_231, .inl (cA_232, 12, .inl (fun _ => 0))), (q_235, .inl (cA_236, 12, .inl (fun _ => 0))), (q_239, .inl (cA_240, 192, .inl (fun _ => 0))), (q_243, .inl (cA_244, 192, .inl (fun _ => 0))), (q_247, .inl (cA_248, 192, .inl (fun _ => 0)))] H_249 := hP
  replace hD : va_D A [(h0, .inr (12, [.ref q_1, .int 0, .int 0, .int 0, .int 0, .ref q_5, .ref q_9, .ref q_13, .ref q_17, .ref q_21, .ref q_25, .ref q_29, .ref q_33, .ref q_37, .ref q_41, .ref q_45, .int 0, .int 6, .int 6, .int 0, .ref q_51, .ref q_55, .ref q_59, .int 0, .ref q_63, .ref q_67, .ref q_71, .ref q_75, .int 0, .int (-1), .int 0, .int 0, .int 0, .int 0, .int 0, .ref q_195, .ref q_199, .ref q_203, .ref q_207, .long 0, .int 0, .ref q_211, .ref q_215, .ref q_219, .int 0, .int 0, .int 0, .int 0, .ref q_223, .ref q_227, .ref q_231, .ref q_235, .ref q_239, .ref q_243, .null, .null, .null, .null, .int 0, .null, .null, .int 0, .null, .int 0, .null, .int 0, .int 0, .int 0, .int 0, .null])), (q_1, .inl (cA_2, 700, .inl (fun _ => 0))), (q_5, .inl (cA_6, 80, .inl (fun _ => 0))), (q_9, .inl (cA_10, 80, .inl (fun _ => 0))), (q_13, .inl (cA_14, 80, .inl (fun _ => 0))), (q_17, .inl (cA_18, 80, .inl (fun _ => 0))), (q_21, .inl (cA_22, 80, .inl (fun _ => 0))), (q_25, .inl (cA_26, 11520, .inl (fun _ => 0))), (q_29, .inl (cA_30, 12, .inl (fun _ => 0))), (q_33, .inl (cA_34, 144, .inl (fun _ => 0))), (q_37, .inl (cA_38, 12, .inl (fun _ => 0))), (q_41, .inl (cA_42, 12, .inl (fun _ => 0))), (q_45, .inl (cA_46, 12, .inl (fun _ => 0))), (q_51, .inl (cA_52, 10, .inl (fun _ => 0))), (q_55, .inl (cA_56, 10, .inl (fun _ => 0))), (q_59, .inl (cA_60, 120, .inl (fun _ => 0))), (q_63, .inl (cA_64, 6, .inl (fun _ => 0))), (q_67, .inl (cA_68, 6, .inl (fun _ => 0))), (q_71, .inl (cA_72, 24, .inl (fun _ => 0))), (q_75, .inl (cA_76, 115, .inl (z_wk 115))), (q_195, .inl (cA_196, 48, .inl (fun _ => 0))), (q_199, .inl (cA_200, 144, .inl (fun _ => 0))), (q_203, .inl (cA_204, 4, .inl (fun _ => 0))), (q_207, .inl (cA_208, 4, .inl (fun _ => 0))), (q_211, .inl (cA_212, 200, .inl (fun _ => 0))), (q_215, .inl (cA_216, 600, .inl (fun _ => 0))), (q_219, .inl (cA_220, 200, .inl (fun _ => 0))), (q_223, .inl (cA_224, 48, .inl (fun _ => 0))), (q_227, .inl (cA_228, 6, .inl (fun _ => 0))), (q_231, .inl (cA_232, 12, .inl (fun _ => 0))), (q_235, .inl (cA_236, 12, .inl (fun _ => 0))), (q_239, .inl (cA_240, 192, .inl (fun _ => 0))), (q_243, .inl (cA_244, 192, .inl (fun _ => 0))), (q_247, .inl (cA_248, 192, .inl (fun _ => 0)))] := hD
  refine va_putF (D := (dC, dI)) (ci := 12) (v := .ref q_247) (ty := .array .int) (C := RX12) (T := TX12) (N := 70) hx hb hts hiX12 tyX12 tyX12_ok nmX12 hown hK hP hD hS 0 rfl rfl 54 (by decide) w__fieldLink_RX12_117_ShellHeapModel_right_I_ (fun _ h9 => h9) rfl hin rfl (by decide +kernel) rfl rfl (Nat.le_of_ble_eq_true rfl) dX12_init_974 ?_
  clear hP hD hS
  intro H_250 locs hP hD hS
  have h9 := z_s_0_54 hP hD
  clear hP hD
  obtain ⟨hP, hD⟩ := h9
  refine lv_aload_n hx hb dX12_init_977 rfl (lv_at hl 0 rfl) ?_
  refine lv_sipush (v := 192) hx hb dX12_init_978 (by decide) ?_
  refine va_newa (atype := .int) (ty := .int) (N' := 192) (a0 := (192, .inl (fun _ => 0))) hx hb w__arrayClass_int rfl hK hP hD hS hA (z_newI 192) (by decide) (by decide) (by decide) (Nat.le_of_ble_eq_true rfl) (Nat.le_of_ble_eq_true rfl) dX12_init_981 ?_
  clear hK hP hD hS
  intro q_251 cA_252 H_253 hK hP hD hS
  replace hK : va_K (dC, dI) vwCl [(cA_2, .int), (cA_6, .int), (cA_10, .int), (cA_14, .int), (cA_18, .int), (cA_22, .boolean), (cA_26, .int), (cA_30, .int), (cA_34, .boolean), (cA_38, .int), (cA_42, .int), (cA_46, .int), (cA_52, .int), (cA_56, .int), (cA_60, .int), (cA_64, .int), (cA_68, .int), (cA_72, .int), (cA_76, .int), (cA_196, .int), (cA_200, .int), (cA_204, .int), (cA_208, .int), (cA_212, .int), (cA_216, .int), (cA_220, .int), (cA_224, .int), (cA_228, .int), (cA_232, .int), (cA_236, .int), (cA_240, .int), (cA_244, .int), (cA_248, .int), (cA_252, .int)] s := hK
  replace hP : va_P (dC, dI) vwCl [(h0, .inr (12, [.ref q_1, .int 0, .int 0, .int 0, .int 0, .ref q_5, .ref q_9, .ref q_13, .ref q_17, .ref q_21, .ref q_25, .ref q_29, .ref q_33, .ref q_37, .ref q_41, .ref q_45, .int 0, .int 6, .int 6, .int 0, .ref q_51, .ref q_55, .ref q_59, .int 0, .ref q_63, .ref q_67, .ref q_71, .ref q_75, .int 0, .int (-1), .int 0, .int 0, .int 0, .int 0, .int 0, .ref q_195, .ref q_199, .ref q_203, .ref q_207, .long 0, .int 0, .ref q_211, .ref q_215, .ref q_219, .int 0, .int 0, .int 0, .int 0, .ref q_223, .ref q_227, .ref q_231, .ref q_235, .ref q_239, .ref q_243, .ref q_247, .null, .null, .null, .int 0, .null, .null, .int 0, .null, .int 0, .null, .int 0, .int 0, .int 0, .int 0, .null])), (q_1, .inl (cA_2, 700, .inl (fun _ => 0))), (q_5, .inl (cA_6, 80, .inl (fun _ => 0))), (q_9, .inl (cA_10, 80, .inl (fun _ => 0))), (q_13, .inl (cA_14, 80, .inl (fun _ => 0))), (q_17, .inl (cA_18, 80, .inl (fun _ => 0))), (q_21, .inl (cA_22, 80, .inl (fun _ => 0))), (q_25, .inl (cA_26, 11520, .inl (fun _ => 0))), (q_29, .inl (cA_30, 12, .inl (fun _ => 0))), (q_33, .inl (cA_34, 144, .inl (fun _ => 0))), (q_37, .inl (cA_38, 12, .inl (fun _ => 0))), (q_41, .inl (cA_42, 12, .inl (fun _ => 0))), (q_45, .inl (cA_46, 12, .inl (fun _ => 0))), (q_51, .inl (cA_52, 10, .inl (fun _ => 0))), (q_55, .inl (cA_56, 10, .inl (fun _ => 0))), (q_59, .inl (cA_60, 120, .inl (fun _ => 0))), (q_63, .inl (cA_64, 6, .inl (fun _ => 0))), (q_67, .inl (cA_68, 6, .inl (fun _ => 0))), (q_71, .inl (cA_72, 24, .inl (fun _ => 0))), (q_75, .inl (cA_76, 115, .inl (z_wk 115))), (q_195, .inl (cA_196, 48, .inl (fun _ => 0))), (q_199, .inl (cA_200, 144, .inl (fun _ => 0))), (q_203, .inl (cA_204, 4, .inl (fun _ => 0))), (q_207, .inl (cA_208, 4, .inl (fun _ => 0))), (q_211, .inl (cA_212, 200, .inl (fun _ => 0))), (q_215, .inl (cA_216, 600, .inl (fun _ => 0))), (q_219, .inl (cA_220, 200, .inl (fun _ => 0))), (q_223, .inl (cA_224, 48, .inl (fun _ => 0))), (q_227, .inl (cA_228, 6, .inl (fun _ => 0))), (q_231, .inl (cA_232, 12, .inl (fun _ => 0))), (q_235, .inl (cA_236, 12, .inl (fun _ => 0))), (q_239, .inl (cA_240, 192, .inl (fun _ => 0))), (q_243, .inl (cA_244, 192, .inl (fun _ => 0))), (q_247, .inl (cA_248, 192, .inl (fun _ => 0))), (q_251, .inl (cA_252, 192, .inl (fun _ => 0)))] H_253 := hP
  replace hD : va_D A [(h0, .inr (12, [.ref q_1, .int 0, .int 0, .int 0, .int 0, .ref q_5, .ref q_9, .ref q_13, .ref q_17, .ref q_21, .ref q_25, .ref q_29, .ref q_33, .ref q_37, .ref q_41, .ref q_45, .int 0, .int 6, .int 6, .int 0, .ref q_51, .ref q_55, .ref q_59, .int 0, .ref q_63, .ref q_67, .ref q_71, .ref q_75, .int 0, .int (-1), .int 0, .int 0, .int 0, .int 0, .int 0, .ref q_195, .ref q_199, .ref q_203, .ref q_207, .long 0, .int 0, .ref q_211, .ref q_215, .ref q_219, .int 0, .int 0, .int 0, .int 0, .ref q_223, .ref q_227, .ref q_231, .ref q_235, .ref q_239, .ref q_243, .ref q_247, .null, .null, .null, .int 0, .null, .null, .int 0, .null, .int 0, .null, .int 0, .int 0, .int 0, .int 0, .null])), (q_1, .inl (cA_2, 700, .inl (fun _ => 0))), (q_5, .inl (cA_6, 80, .inl (fun _ => 0))), (q_9, .inl (cA_10, 80, .inl (fun _ => 0))), (q_13, .inl (cA_14, 80, .inl (fun _ => 0))), (q_17, .inl (cA_18, 80, .inl (fun _ => 0))), (q_21, .inl (cA_22, 80, .inl (fun _ => 0))), (q_25, .inl (cA_26, 11520, .inl (fun _ => 0))), (q_29, .inl (cA_30, 12, .inl (fun _ => 0))), (q_33, .inl (cA_34, 144, .inl (fun _ => 0))), (q_37, .inl (cA_38, 12, .inl (fun _ => 0))), (q_41, .inl (cA_42, 12, .inl (fun _ => 0))), (q_45, .inl (cA_46, 12, .inl (fun _ => 0))), (q_51, .inl (cA_52, 10, .inl (fun _ => 0))), (q_55, .inl (cA_56, 10, .inl (fun _ => 0))), (q_59, .inl (cA_60, 120, .inl (fun _ => 0))), (q_63, .inl (cA_64, 6, .inl (fun _ => 0))), (q_67, .inl (cA_68, 6, .inl (fun _ => 0))), (q_71, .inl (cA_72, 24, .inl (fun _ => 0))), (q_75, .inl (cA_76, 115, .inl (z_wk 115))), (q_195, .inl (cA_196, 48, .inl (fun _ => 0))), (q_199, .inl (cA_200, 144, .inl (fun _ => 0))), (q_203, .inl (cA_204, 4, .inl (fun _ => 0))), (q_207, .inl (cA_208, 4, .inl (fun _ => 0))), (q_211, .inl (cA_212, 200, .inl (fun _ => 0))), (q_215, .inl (cA_216, 600, .inl (fun _ => 0))), (q_219, .inl (cA_220, 200, .inl (fun _ => 0))), (q_223, .inl (cA_224, 48, .inl (fun _ => 0))), (q_227, .inl (cA_228, 6, .inl (fun _ => 0))), (q_231, .inl (cA_232, 12, .inl (fun _ => 0))), (q_235, .inl (cA_236, 12, .inl (fun _ => 0))), (q_239, .inl (cA_240, 192, .inl (fun _ => 0))), (q_243, .inl (cA_244, 192, .inl (fun _ => 0))), (q_247, .inl (cA_248, 192, .inl (fun _ => 0))), (q_251, .inl (cA_252, 192, .inl (fun _ => 0)))] := hD
  refine va_putF (D := (dC, dI)) (ci := 12) (v := .ref q_251) (ty := .array .int) (C := RX12) (T := TX12) (N := 70) hx hb hts hiX12 tyX12 tyX12_ok nmX12 hown hK hP hD hS 0 rfl rfl 55 (by decide) w__fieldLink_RX12_120_ShellHeapModel_amount_I_ (fun _ h9 => h9) rfl hin rfl (by decide +kernel) rfl rfl (Nat.le_of_ble_eq_true rfl) dX12_init_983 ?_
  clear hP hD hS
  intro H_254 locs hP hD hS
  have h9 := z_s_0_55 hP hD
  clear hP hD
  obtain ⟨hP, hD⟩ := h9
  refine lv_aload_n hx hb dX12_init_986 rfl (lv_at hl 0 rfl) ?_
  refine lv_sipush (v := 192) hx hb dX12_init_987 (by decide) ?_
  refine va_newa (atype := .boolean) (ty := .boolean) (N' := 192) (a0 := (192, .inl (fun _ => 0))) hx hb w__arrayClass_boolean rfl hK hP hD hS hA (z_newZ 192) (by decide) (by decide) (by decide) (Nat.le_of_ble_eq_true rfl) (Nat.le_of_ble_eq_true rfl) dX12_init_990 ?_
  clear hK hP hD hS
  intro q_255 cA_256 H_257 hK hP hD hS
  replace hK : va_K (dC, dI) vwCl [(cA_2, .int), (cA_6, .int), (cA_10, .int), (cA_14, .int), (cA_18, .int), (cA_22, .boolean), (cA_26, .int), (cA_30, .int), (cA_34, .boolean), (cA_38, .int), (cA_42, .int), (cA_46, .int), (cA_52, .int), (cA_56, .int), (cA_60, .int), (cA_64, .int), (cA_68, .int), (cA_72, .int), (cA_76, .int), (cA_196, .int), (cA_200, .int), (cA_204, .int), (cA_208, .int), (cA_212, .int), (cA_216, .int), (cA_220, .int), (cA_224, .int), (cA_228, .int), (cA_232, .int), (cA_236, .int), (cA_240, .int), (cA_244, .int), (cA_248, .int), (cA_252, .int), (cA_256, .boolean)] s := hK
  replace hP : va_P (dC, dI) vwCl [(h0, .inr (12, [.ref q_1, .int 0, .int 0, .int 0, .int 0, .ref q_5, .ref q_9, .ref q_13, .ref q_17, .ref q_21, .ref q_25, .ref q_29, .ref q_33, .ref q_37, .ref q_41, .ref q_45, .int 0, .int 6, .int 6, .int 0, .ref q_51, .ref q_55, .ref q_59, .int 0, .ref q_63, .ref q_67, .ref q_71, .ref q_75, .int 0, .int (-1), .int 0, .int 0, .int 0, .int 0, .int 0, .ref q_195, .ref q_199, .ref q_203, .ref q_207, .long 0, .int 0, .ref q_211, .ref q_215, .ref q_219, .int 0, .int 0, .int 0, .int 0, .ref q_223, .ref q_227, .ref q_231, .ref q_235, .ref q_239, .ref q_243, .ref q_247, .ref q_251, .null, .null, .int 0, .null, .null, .int 0, .null, .int 0, .null, .int 0, .int 0, .int 0, .int 0, .null])), (q_1, .inl (cA_2, 700, .inl (fun _ => 0))), (q_5, .inl (cA_6, 80, .inl (fun _ => 0))), (q_9, .inl (cA_10, 80, .inl (fun _ => 0))), (q_13, .inl (cA_14, 80, .inl (fun _ => 0))), (q_17, .inl (cA_18, 80, .inl (fun _ => 0))), (q_21, .inl (cA_22, 80, .inl (fun _ => 0))), (q_25, .inl (cA_26, 11520, .inl (fun _ => 0))), (q_29, .inl (cA_30, 12, .inl (fun _ => 0))), (q_33, .inl (cA_34, 144, .inl (fun _ => 0))), (q_37, .inl (cA_38, 12, .inl (fun _ => 0))), (q_41, .inl (cA_42, 12, .inl (fun _ => 0))), (q_45, .inl (cA_46, 12, .inl (fun _ => 0))), (q_51, .inl (cA_52, 10, .inl (fun _ => 0))), (q_55, .inl (cA_56, 10, .inl (fun _ => 0))), (q_59, .inl (cA_60, 120, .inl (fun _ => 0))), (q_63, .inl (cA_64, 6, .inl (fun _ => 0))), (q_67, .inl (cA_68, 6, .inl (fun _ => 0))), (q_71, .inl (cA_72, 24, .inl (fun _ => 0))), (q_75, .inl (cA_76, 115, .inl (z_wk 115))), (q_195, .inl (cA_196, 48, .inl (fun _ => 0))), (q_199, .inl (cA_200, 144, .inl (fun _ => 0))), (q_203, .inl (cA_204, 4, .inl (fun _ => 0))), (q_207, .inl (cA_208, 4, .inl (fun _ => 0))), (q_211, .inl (cA_212, 200, .inl (fun _ => 0))), (q_215, .inl (cA_216, 600, .inl (fun _ => 0))), (q_219, .inl (cA_220, 200, .inl (fun _ => 0))), (q_223, .inl (cA_224, 48, .inl (fun _ => 0))), (q_227, .inl (cA_228, 6, .inl (fun _ => 0))), (q_231, .inl (cA_232, 12, .inl (fun _ => 0))), (q_235, .inl (cA_236, 12, .inl (fun _ => 0))), (q_239, .inl (cA_240, 192, .inl (fun _ => 0))), (q_243, .inl (cA_244, 192, .inl (fun _ => 0))), (q_247, .inl (cA_248, 192, .inl (fun _ => 0))), (q_251, .inl (cA_252, 192, .inl (fun _ => 0))), (q_255, .inl (cA_256, 192, .inl (fun _ => 0)))] H_257 := hP
  replace hD : va_D A [(h0, .inr (12, [.ref q_1, .int 0, .int 0, .int 0, .int 0, .ref q_5, .ref q_9, .ref q_13, .ref q_17, .ref q_21, .ref q_25, .ref q_29, .ref q_33, .ref q_37, .ref q_41, .ref q_45, .int 0, .int 6, .int 6, .int 0, .ref q_51, .ref q_55, .ref q_59, .int 0, .ref q_63, .ref q_67, .ref q_71, .ref q_75, .int 0, .int (-1), .int 0, .int 0, .int 0, .int 0, .int 0, .ref q_195, .ref q_199, .ref q_203, .ref q_207, .long 0, .int 0, .ref q_211, .ref q_215, .ref q_219, .int 0, .int 0, .int 0, .int 0, .ref q_223, .ref q_227, .ref q_231, .ref q_235, .ref q_239, .ref q_243, .ref q_247, .ref q_251, .null, .null, .int 0, .null, .null, .int 0, .null, .int 0, .null, .int 0, .int 0, .int 0, .int 0, .null])), (q_1, .inl (cA_2, 700, .inl (fun _ => 0))), (q_5, .inl (cA_6, 80, .inl (fun _ => 0))), (q_9, .inl (cA_10, 80, .inl (fun _ => 0))), (q_13, .inl (cA_14, 80, .inl (fun _ => 0))), (q_17, .inl (cA_18, 80, .inl (fun _ => 0))), (q_21, .inl (cA_22, 80, .inl (fun _ => 0))), (q_25, .inl (cA_26, 11520, .inl (fun _ => 0))), (q_29, .inl (cA_30, 12, .inl (fun _ => 0))), (q_33, .inl (cA_34, 144, .inl (fun _ => 0))), (q_37, .inl (cA_38, 12, .inl (fun _ => 0))), (q_41, .inl (cA_42, 12, .inl (fun _ => 0))), (q_45, .inl (cA_46, 12, .inl (fun _ => 0))), (q_51, .inl (cA_52, 10, .inl (fun _ => 0))), (q_55, .inl (cA_56, 10, .inl (fun _ => 0))), (q_59, .inl (cA_60, 120, .inl (fun _ => 0))), (q_63, .inl (cA_64, 6, .inl (fun _ => 0))), (q_67, .inl (cA_68, 6, .inl (fun _ => 0))), (q_71, .inl (cA_72, 24, .inl (fun _ => 0))), (q_75, .inl (cA_76, 115, .inl (z_wk 115))), (q_195, .inl (cA_196, 48, .inl (fun _ => 0))), (q_199, .inl (cA_200, 144, .inl (fun _ => 0))), (q_203, .inl (cA_204, 4, .inl (fun _ => 0))), (q_207, .inl (cA_208, 4, .inl (fun _ => 0))), (q_211, .inl (cA_212, 200, .inl (fun _ => 0))), (q_215, .inl (cA_216, 600, .inl (fun _ => 0))), (q_219, .inl (cA_220, 200, .inl (fun _ => 0))), (q_223, .inl (cA_224, 48, .inl (fun _ => 0))), (q_227, .inl (cA_228, 6, .inl (fun _ => 0))), (q_231, .inl (cA_232, 12, .inl (fun _ => 0))), (q_235, .inl (cA_236, 12, .inl (fun _ => 0))), (q_239, .inl (cA_240, 192, .inl (fun _ => 0))), (q_243, .inl (cA_244, 192, .inl (fun _ => 0))), (q_247, .inl (cA_248, 192, .inl (fun _ => 0))), (q_251, .inl (cA_252, 192, .inl (fun _ => 0))), (q_255, .inl (cA_256, 192, .inl (fun _ => 0)))] := hD
  refine va_putF (D := (dC, dI)) (ci := 12) (v := .ref q_255) (ty := .array .boolean) (C := RX12) (T := TX12) (N := 70) hx hb hts hiX12 tyX12 tyX12_ok nmX12 hown hK hP hD hS 0 rfl rfl 56 (by decide) w__fieldLink_RX12_123_ShellHeapModel_ahead_Z_ (fun _ h9 => h9) rfl hin rfl (by decide +kernel) rfl rfl (Nat.le_of_ble_eq_true rfl) dX12_init_992 ?_
  clear hP hD hS
  intro H_258 locs hP hD hS
  have h9 := z_s_0_56 hP hD
  clear hP hD
  obtain ⟨hP, hD⟩ := h9
  refine lv_aload_n hx hb dX12_init_995 rfl (lv_at hl 0 rfl) ?_
  refine lv_sipush (v := 192) hx hb dX12_init_996 (by decide) ?_
  refine va_newa (atype := .int) (ty := .int) (N' := 192) (a0 := (192, .inl (fun _ => 0))) hx hb w__arrayClass_int rfl hK hP hD hS hA (z_newI 192) (by decide) (by decide) (by decide) (Nat.le_of_ble_eq_true rfl) (Nat.le_of_ble_eq_true rfl) dX12_init_999 ?_
  clear hK hP hD hS
  intro q_259 cA_260 H_261 hK hP hD hS
  replace hK : va_K (dC, dI) vwCl [(cA_2, .int), (cA_6, .int), (cA_10, .int), (cA_14, .int), (cA_18, .int), (cA_22, .boolean), (cA_26, .int), (cA_30, .int), (cA_34, .boolean), (cA_38, .int), (cA_42, .int), (cA_46, .int), (cA_52, .int), (cA_56, .int), (cA_60, .int), (cA_64, .int), (cA_68, .int), (cA_72, .int), (cA_76, .int), (cA_196, .int), (cA_200, .int), (cA_204, .int), (cA_208, .int), (cA_212, .int), (cA_216, .int), (cA_220, .int), (cA_224, .int), (cA_228, .int), (cA_232, .int), (cA_236, .int), (cA_240, .int), (cA_244, .int), (cA_248, .int), (cA_252, .int), (cA_256, .boolean), (cA_260, .int)] s := hK
  replace hP : va_P (dC, dI) vwCl [(h0, .inr (12, [.ref q_1, .int 0, .int 0, .int 0, .int 0, .ref q_5, .ref q_9, .ref q_13, .ref q_17, .ref q_21, .ref q_25, .ref q_29, .ref q_33, .ref q_37, .ref q_41, .ref q_45, .int 0, .int 6, .int 6, .int 0, .ref q_51, .ref q_55, .ref q_59, .int 0, .ref q_63, .ref q_67, .ref q_71, .ref q_75, .int 0, .int (-1), .int 0, .int 0, .int 0, .int 0, .int 0, .ref q_195, .ref q_199, .ref q_203, .ref q_207, .long 0, .int 0, .ref q_211, .ref q_215, .ref q_219, .int 0, .int 0, .int 0, .int 0, .ref q_223, .ref q_227, .ref q_231, .ref q_235, .ref q_239, .ref q_243, .ref q_247, .ref q_251, .ref q_255, .null, .int 0, .null, .null, .int 0, .null, .int 0, .null, .int 0, .int 0, .int 0, .int 0, .null])), (q_1, .inl (cA_2, 700, .inl (fun _ => 0))), (q_5, .inl (cA_6, 80, .inl (fun _ => 0))), (q_9, .inl (cA_10, 80, .inl (fun _ => 0))), (q_13, .inl (cA_14, 80, .inl (fun _ => 0))), (q_17, .inl (cA_18, 80, .inl (fun _ => 0))), (q_21, .inl (cA_22, 80, .inl (fun _ => 0))), (q_25, .inl (cA_26, 11520, .inl (fun _ => 0))), (q_29, .inl (cA_30, 12, .inl (fun _ => 0))), (q_33, .inl (cA_34, 144, .inl (fun _ => 0))), (q_37, .inl (cA_38, 12, .inl (fun _ => 0))), (q_41, .inl (cA_42, 12, .inl (fun _ => 0))), (q_45, .inl (cA_46, 12, .inl (fun _ => 0))), (q_51, .inl (cA_52, 10, .inl (fun _ => 0))), (q_55, .inl (cA_56, 10, .inl (fun _ => 0))), (q_59, .inl (cA_60, 120, .inl (fun _ => 0))), (q_63, .inl (cA_64, 6, .inl (fun _ => 0))), (q_67, .inl (cA_68, 6, .inl (fun _ => 0))), (q_71, .inl (cA_72, 24, .inl (fun _ => 0))), (q_75, .inl (cA_76, 115, .inl (z_wk 115))), (q_195, .inl (cA_196, 48, .inl (fun _ => 0))), (q_199, .inl (cA_200, 144, .inl (fun _ => 0))), (q_203, .inl (cA_204, 4, .inl (fun _ => 0))), (q_207, .inl (cA_208, 4, .inl (fun _ => 0))), (q_211, .inl (cA_212, 200, .inl (fun _ => 0))), (q_215, .inl (cA_216, 600, .inl (fun _ => 0))), (q_219, .inl (cA_220, 200, .inl (fun _ => 0))), (q_223, .inl (cA_224, 48, .inl (fun _ => 0))), (q_227, .inl (cA_228, 6, .inl (fun _ => 0))), (q_231, .inl (cA_232, 12, .inl (fun _ => 0))), (q_235, .inl (cA_236, 12, .inl (fun _ => 0))), (q_239, .inl (cA_240, 192, .inl (fun _ => 0))), (q_243, .inl (cA_244, 192, .inl (fun _ => 0))), (q_247, .inl (cA_248, 192, .inl (fun _ => 0))), (q_251, .inl (cA_252, 192, .inl (fun _ => 0))), (q_255, .inl (cA_256, 192, .inl (fun _ => 0))), (q_259, .inl (cA_260, 192, .inl (fun _ => 0)))] H_261 := hP
  replace hD : va_D A [(h0, .inr (12, [.ref q_1, .int 0, .int 0, .int 0, .int 0, .ref q_5, .ref q_9, .ref q_13, .ref q_17, .ref q_21, .ref q_25, .ref q_29, .ref q_33, .ref q_37, .ref q_41, .ref q_45, .int 0, .int 6, .int 6, .int 0, .ref q_51, .ref q_55, .ref q_59, .int 0, .ref q_63, .ref q_67, .ref q_71, .ref q_75, .int 0, .int (-1), .int 0, .int 0, .int 0, .int 0, .int 0, .ref q_195, .ref q_199, .ref q_203, .ref q_207, .long 0, .int 0, .ref q_211, .ref q_215, .ref q_219, .int 0, .int 0, .int 0, .int 0, .ref q_223, .ref q_227, .ref q_231, .ref q_235, .ref q_239, .ref q_243, .ref q_247, .ref q_251, .ref q_255, .null, .int 0, .null, .null, .int 0, .null, .int 0, .null, .int 0, .int 0, .int 0, .int 0, .null])), (q_1, .inl (cA_2, 700, .inl (fun _ => 0))), (q_5, .inl (cA_6, 80, .inl (fun _ => 0))), (q_9, .inl (cA_10, 80, .inl (fun _ => 0))), (q_13, .inl (cA_14, 80, .inl (fun _ => 0))), (q_17, .inl (cA_18, 80, .inl (fun _ => 0))), (q_21, .inl (cA_22, 80, .inl (fun _ => 0))), (q_25, .inl (cA_26, 11520, .inl (fun _ => 0))), (q_29, .inl (cA_30, 12, .inl (fun _ => 0))), (q_33, .inl (cA_34, 144, .inl (fun _ => 0))), (q_37, .inl (cA_38, 12, .inl (fun _ => 0))), (q_41, .inl (cA_42, 12, .inl (fun _ => 0))), (q_45, .inl (cA_46, 12, .inl (fun _ => 0))), (q_51, .inl (cA_52, 10, .inl (fun _ => 0))), (q_55, .inl (cA_56, 10, .inl (fun _ => 0))), (q_59, .inl (cA_60, 120, .inl (fun _ => 0))), (q_63, .inl (cA_64, 6, .inl (fun _ => 0))), (q_67, .inl (cA_68, 6, .inl (fun _ => 0))), (q_71, .inl (cA_72, 24, .inl (fun _ => 0))), (q_75, .inl (cA_76, 115, .inl (z_wk 115))), (q_195, .inl (cA_196, 48, .inl (fun _ => 0))), (q_199, .inl (cA_200, 144, .inl (fun _ => 0))), (q_203, .inl (cA_204, 4, .inl (fun _ => 0))), (q_207, .inl (cA_208, 4, .inl (fun _ => 0))), (q_211, .inl (cA_212, 200, .inl (fun _ => 0))), (q_215, .inl (cA_216, 600, .inl (fun _ => 0))), (q_219, .inl (cA_220, 200, .inl (fun _ => 0))), (q_223, .inl (cA_224, 48, .inl (fun _ => 0))), (q_227, .inl (cA_228, 6, .inl (fun _ => 0))), (q_231, .inl (cA_232, 12, .inl (fun _ => 0))), (q_235, .inl (cA_236, 12, .inl (fun _ => 0))), (q_239, .inl (cA_240, 192, .inl (fun _ => 0))), (q_243, .inl (cA_244, 192, .inl (fun _ => 0))), (q_247, .inl (cA_248, 192, .inl (fun _ => 0))), (q_251, .inl (cA_252, 192, .inl (fun _ => 0))), (q_255, .inl (cA_256, 192, .inl (fun _ => 0))), (q_259, .inl (cA_260, 192, .inl (fun _ => 0)))] := hD
  refine va_putF (D := (dC, dI)) (ci := 12) (v := .ref q_259) (ty := .array .int) (C := RX12) (T := TX12) (N := 70) hx hb hts hiX12 tyX12 tyX12_ok nmX12 hown hK hP hD hS 0 rfl rfl 57 (by decide) w__fieldLink_RX12_126_ShellHeapModel_goesBy_I_ (fun _ h9 => h9) rfl hin rfl (by decide +kernel) rfl rfl (Nat.le_of_ble_eq_true rfl) dX12_init_1001 ?_
  clear hP hD hS
  intro H_262 locs hP hD hS
  have h9 := z_s_0_57 hP hD
  clear hP hD
  obtain ⟨hP, hD⟩ := h9
  refine lv_aload_n hx hb dX12_init_1004 rfl (lv_at hl 0 rfl) ?_
  refine lv_bipush (v := 120) hx hb dX12_init_1005 (by decide) ?_
  refine va_newa (atype := .int) (ty := .int) (N' := 120) (a0 := (120, .inl (fun _ => 0))) hx hb w__arrayClass_int rfl hK hP hD hS hA (z_newI 120) (by decide) (by decide) (by decide) (Nat.le_of_ble_eq_true rfl) (Nat.le_of_ble_eq_true rfl) dX12_init_1007 ?_
  clear hK hP hD hS
  intro q_263 cA_264 H_265 hK hP hD hS
  replace hK : va_K (dC, dI) vwCl [(cA_2, .int), (cA_6, .int), (cA_10, .int), (cA_14, .int), (cA_18, .int), (cA_22, .boolean), (cA_26, .int), (cA_30, .int), (cA_34, .boolean), (cA_38, .int), (cA_42, .int), (cA_46, .int), (cA_52, .int), (cA_56, .int), (cA_60, .int), (cA_64, .int), (cA_68, .int), (cA_72, .int), (cA_76, .int), (cA_196, .int), (cA_200, .int), (cA_204, .int), (cA_208, .int), (cA_212, .int), (cA_216, .int), (cA_220, .int), (cA_224, .int), (cA_228, .int), (cA_232, .int), (cA_236, .int), (cA_240, .int), (cA_244, .int), (cA_248, .int), (cA_252, .int), (cA_256, .boolean), (cA_260, .int), (cA_264, .int)] s := hK
  replace hP : va_P (dC, dI) vwCl [(h0, .inr (12, [.ref q_1, .int 0, .int 0, .int 0, .int 0, .ref q_5, .ref q_9, .ref q_13, .ref q_17, .ref q_21, .ref q_25, .ref q_29, .ref q_33, .ref q_37, .ref q_41, .ref q_45, .int 0, .int 6, .int 6, .int 0, .ref q_51, .ref q_55, .ref q_59, .int 0, .ref q_63, .ref q_67, .ref q_71, .ref q_75, .int 0, .int (-1), .int 0, .int 0, .int 0, .int 0, .int 0, .ref q_195, .ref q_199, .ref q_203, .ref q_207, .long 0, .int 0, .ref q_211, .ref q_215, .ref q_219, .int 0, .int 0, .int 0, .int 0, .ref q_223, .ref q_227, .ref q_231, .ref q_235, .ref q_239, .ref q_243, .ref q_247, .ref q_251, .ref q_255, .ref q_259, .int 0, .null, .null, .int 0, .null, .int 0, .null, .int 0, .int 0, .int 0, .int 0, .null])), (q_1, .inl (cA_2, 700, .inl (fun _ => 0))), (q_5, .inl (cA_6, 80, .inl (fun _ => 0))), (q_9, .inl (cA_10, 80, .inl (fun _ => 0))), (q_13, .inl (cA_14, 80, .inl (fun _ => 0))), (q_17, .inl (cA_18, 80, .inl (fun _ => 0))), (q_21, .inl (cA_22, 80, .inl (fun _ => 0))), (q_25, .inl (cA_26, 11520, .inl (fun _ => 0))), (q_29, .inl (cA_30, 12, .inl (fun _ => 0))), (q_33, .inl (cA_34, 144, .inl (fun _ => 0))), (q_37, .inl (cA_38, 12, .inl (fun _ => 0))), (q_41, .inl (cA_42, 12, .inl (fun _ => 0))), (q_45, .inl (cA_46, 12, .inl (fun _ => 0))), (q_51, .inl (cA_52, 10, .inl (fun _ => 0))), (q_55, .inl (cA_56, 10, .inl (fun _ => 0))), (q_59, .inl (cA_60, 120, .inl (fun _ => 0))), (q_63, .inl (cA_64, 6, .inl (fun _ => 0))), (q_67, .inl (cA_68, 6, .inl (fun _ => 0))), (q_71, .inl (cA_72, 24, .inl (fun _ => 0))), (q_75, .inl (cA_76, 115, .inl (z_wk 115))), (q_195, .inl (cA_196, 48, .inl (fun _ => 0))), (q_199, .inl (cA_200, 144, .inl (fun _ => 0))), (q_203, .inl (cA_204, 4, .inl (fun _ => 0))), (q_207, .inl (cA_208, 4, .inl (fun _ => 0))), (q_211, .inl (cA_212, 200, .inl (fun _ => 0))), (q_215, .inl (cA_216, 600, .inl (fun _ => 0))), (q_219, .inl (cA_220, 200, .inl (fun _ => 0))), (q_223, .inl (cA_224, 48, .inl (fun _ => 0))), (q_227, .inl (cA_228, 6, .inl (fun _ => 0))), (q_231, .inl (cA_232, 12, .inl (fun _ => 0))), (q_235, .inl (cA_236, 12, .inl (fun _ => 0))), (q_239, .inl (cA_240, 192, .inl (fun _ => 0))), (q_243, .inl (cA_244, 192, .inl (fun _ => 0))), (q_247, .inl (cA_248, 192, .inl (fun _ => 0))), (q_251, .inl (cA_252, 192, .inl (fun _ => 0))), (q_255, .inl (cA_256, 192, .inl (fun _ => 0))), (q_259, .inl (cA_260, 192, .inl (fun _ => 0))), (q_263, .inl (cA_264, 120, .inl (fun _ => 0)))] H_265 := hP
  replace hD : va_D A [(h0, .inr (12, [.ref q_1, .int 0, .int 0, .int 0, .int 0, .ref q_5, .ref q_9, .ref q_13, .ref q_17, .ref q_21, .ref q_25, .ref q_29, .ref q_33, .ref q_37, .ref q_41, .ref q_45, .int 0, .int 6, .int 6, .int 0, .ref q_51, .ref q_55, .ref q_59, .int 0, .ref q_63, .ref q_67, .ref q_71, .ref q_75, .int 0, .int (-1), .int 0, .int 0, .int 0, .int 0, .int 0, .ref q_195, .ref q_199, .ref q_203, .ref q_207, .long 0, .int 0, .ref q_211, .ref q_215, .ref q_219, .int 0, .int 0, .int 0, .int 0, .ref q_223, .ref q_227, .ref q_231, .ref q_235, .ref q_239, .ref q_243, .ref q_247, .ref q_251, .ref q_255, .ref q_259, .int 0, .null, .null, .int 0, .null, .int 0, .null, .int 0, .int 0, .int 0, .int 0, .null])), (q_1, .inl (cA_2, 700, .inl (fun _ => 0))), (q_5, .inl (cA_6, 80, .inl (fun _ => 0))), (q_9, .inl (cA_10, 80, .inl (fun _ => 0))), (q_13, .inl (cA_14, 80, .inl (fun _ => 0))), (q_17, .inl (cA_18, 80, .inl (fun _ => 0))), (q_21, .inl (cA_22, 80, .inl (fun _ => 0))), (q_25, .inl (cA_26, 11520, .inl (fun _ => 0))), (q_29, .inl (cA_30, 12, .inl (fun _ => 0))), (q_33, .inl (cA_34, 144, .inl (fun _ => 0))), (q_37, .inl (cA_38, 12, .inl (fun _ => 0))), (q_41, .inl (cA_42, 12, .inl (fun _ => 0))), (q_45, .inl (cA_46, 12, .inl (fun _ => 0))), (q_51, .inl (cA_52, 10, .inl (fun _ => 0))), (q_55, .inl (cA_56, 10, .inl (fun _ => 0))), (q_59, .inl (cA_60, 120, .inl (fun _ => 0))), (q_63, .inl (cA_64, 6, .inl (fun _ => 0))), (q_67, .inl (cA_68, 6, .inl (fun _ => 0))), (q_71, .inl (cA_72, 24, .inl (fun _ => 0))), (q_75, .inl (cA_76, 115, .inl (z_wk 115))), (q_195, .inl (cA_196, 48, .inl (fun _ => 0))), (q_199, .inl (cA_200, 144, .inl (fun _ => 0))), (q_203, .inl (cA_204, 4, .inl (fun _ => 0))), (q_207, .inl (cA_208, 4, .inl (fun _ => 0))), (q_211, .inl (cA_212, 200, .inl (fun _ => 0))), (q_215, .inl (cA_216, 600, .inl (fun _ => 0))), (q_219, .inl (cA_220, 200, .inl (fun _ => 0))), (q_223, .inl (cA_224, 48, .inl (fun _ => 0))), (q_227, .inl (cA_228, 6, .inl (fun _ => 0))), (q_231, .inl (cA_232, 12, .inl (fun _ => 0))), (q_235, .inl (cA_236, 12, .inl (fun _ => 0))), (q_239, .inl (cA_240, 192, .inl (fun _ => 0))), (q_243, .inl (cA_244, 192, .inl (fun _ => 0))), (q_247, .inl (cA_248, 192, .inl (fun _ => 0))), (q_251, .inl (cA_252, 192, .inl (fun _ => 0))), (q_255, .inl (cA_256, 192, .inl (fun _ => 0))), (q_259, .inl (cA_260, 192, .inl (fun _ => 0))), (q_263, .inl (cA_264, 120, .inl (fun _ => 0)))] := hD
  refine va_putF (D := (dC, dI)) (ci := 12) (v := .ref q_263) (ty := .array .int) (C := RX12) (T := TX12) (N := 70) hx hb hts hiX12 tyX12 tyX12_ok nmX12 hown hK hP hD hS 0 rfl rfl 59 (by decide) w__fieldLink_RX12_129_ShellHeapModel_wait_I_ (fun _ h9 => h9) rfl hin rfl (by decide +kernel) rfl rfl (Nat.le_of_ble_eq_true rfl) dX12_init_1009 ?_
  clear hP hD hS
  intro H_266 locs hP hD hS
  have h9 := z_s_0_59 hP hD
  clear hP hD
  obtain ⟨hP, hD⟩ := h9
  refine lv_aload_n hx hb dX12_init_1012 rfl (lv_at hl 0 rfl) ?_
  refine lv_bipush (v := 120) hx hb dX12_init_1013 (by decide) ?_
  refine va_newa (atype := .int) (ty := .int) (N' := 120) (a0 := (120, .inl (fun _ => 0))) hx hb w__arrayClass_int rfl hK hP hD hS hA (z_newI 120) (by decide) (by decide) (by decide) (Nat.le_of_ble_eq_true rfl) (Nat.le_of_ble_eq_true rfl) dX12_init_1015 ?_
  clear hK hP hD hS
  intro q_267 cA_268 H_269 hK hP hD hS
  replace hK : va_K (dC, dI) vwCl [(cA_2, .int), (cA_6, .int), (cA_10, .int), (cA_14, .int), (cA_18, .int), (cA_22, .boolean), (cA_26, .int), (cA_30, .int), (cA_34, .boolean), (cA_38, .int), (cA_42, .int), (cA_46, .int), (cA_52, .int), (cA_56, .int), (cA_60, .int), (cA_64, .int), (cA_68, .int), (cA_72, .int), (cA_76, .int), (cA_196, .int), (cA_200, .int), (cA_204, .int), (cA_208, .int), (cA_212, .int), (cA_216, .int), (cA_220, .int), (cA_224, .int), (cA_228, .int), (cA_232, .int), (cA_236, .int), (cA_240, .int), (cA_244, .int), (cA_248, .int), (cA_252, .int), (cA_256, .boolean), (cA_260, .int), (cA_264, .int), (cA_268, .int)] s := hK
  replace hP : va_P (dC, dI) vwCl [(h0, .inr (12, [.ref q_1, .int 0, .int 0, .int 0, .int 0, .ref q_5, .ref q_9, .ref q_13, .ref q_17, .ref q_21, .ref q_25, .ref q_29, .ref q_33, .ref q_37, .ref q_41, .ref q_45, .int 0, .int 6, .int 6, .int 0, .ref q_51, .ref q_55, .ref q_59, .int 0, .ref q_63, .ref q_67, .ref q_71, .ref q_75, .int 0, .int (-1), .int 0, .int 0, .int 0, .int 0, .int 0, .ref q_195, .ref q_199, .ref q_203, .ref q_207, .long 0, .int 0, .ref q_211, .ref q_215, .ref q_219, .int 0, .int 0, .int 0, .int 0, .ref q_223, .ref q_227, .ref q_231, .ref q_235, .ref q_239, .ref q_243, .ref q_247, .ref q_251, .ref q_255, .ref q_259, .int 0, .ref q_263, .null, .int 0, .null, .int 0, .null, .int 0, .int 0, .int 0, .int 0, .null])), (q_1, .inl (cA_2, 700, .inl (fun _ => 0))), (q_5, .inl (cA_6, 80, .inl (fun _ => 0))), (q_9, .inl (cA_10, 80, .inl (fun _ => 0))), (q_13, .inl (cA_14, 80, .inl (fun _ => 0))), (q_17, .inl (cA_18, 80, .inl (fun _ => 0))), (q_21, .inl (cA_22, 80, .inl (fun _ => 0))), (q_25, .inl (cA_26, 11520, .inl (fun _ => 0))), (q_29, .inl (cA_30, 12, .inl (fun _ => 0))), (q_33, .inl (cA_34, 144, .inl (fun _ => 0))), (q_37, .inl (cA_38, 12, .inl (fun _ => 0))), (q_41, .inl (cA_42, 12, .inl (fun _ => 0))), (q_45, .inl (cA_46, 12, .inl (fun _ => 0))), (q_51, .inl (cA_52, 10, .inl (fun _ => 0))), (q_55, .inl (cA_56, 10, .inl (fun _ => 0))), (q_59, .inl (cA_60, 120, .inl (fun _ => 0))), (q_63, .inl (cA_64, 6, .inl (fun _ => 0))), (q_67, .inl (cA_68, 6, .inl (fun _ => 0))), (q_71, .inl (cA_72, 24, .inl (fun _ => 0))), (q_75, .inl (cA_76, 115, .inl (z_wk 115))), (q_195, .inl (cA_196, 48, .inl (fun _ => 0))), (q_199, .inl (cA_200, 144, .inl (fun _ => 0))), (q_203, .inl (cA_204, 4, .inl (fun _ => 0))), (q_207, .inl (cA_208, 4, .inl (fun _ => 0))), (q_211, .inl (cA_212, 200, .inl (fun _ => 0))), (q_215, .inl (cA_216, 600, .inl (fun _ => 0))), (q_219, .inl (cA_220, 200, .inl (fun _ => 0))), (q_223, .inl (cA_224, 48, .inl (fun _ => 0))), (q_227, .inl (cA_228, 6, .inl (fun _ => 0))), (q_231, .inl (cA_232, 12, .inl (fun _ => 0))), (q_235, .inl (cA_236, 12, .inl (fun _ => 0))), (q_239, .inl (cA_240, 192, .inl (fun _ => 0))), (q_243, .inl (cA_244, 192, .inl (fun _ => 0))), (q_247, .inl (cA_248, 192, .inl (fun _ => 0))), (q_251, .inl (cA_252, 192, .inl (fun _ => 0))), (q_255, .inl (cA_256, 192, .inl (fun _ => 0))), (q_259, .inl (cA_260, 192, .inl (fun _ => 0))), (q_263, .inl (cA_264, 120, .inl (fun _ => 0))), (q_267, .inl (cA_268, 120, .inl (fun _ => 0)))] H_269 := hP
  replace hD : va_D A [(h0, .inr (12, [.ref q_1, .int 0, .int 0, .int 0, .int 0, .ref q_5, .ref q_9, .ref q_13, .ref q_17, .ref q_21, .ref q_25, .ref q_29, .ref q_33, .ref q_37, .ref q_41, .ref q_45, .int 0, .int 6, .int 6, .int 0, .ref q_51, .ref q_55, .ref q_59, .int 0, .ref q_63, .ref q_67, .ref q_71, .ref q_75, .int 0, .int (-1), .int 0, .int 0, .int 0, .int 0, .int 0, .ref q_195, .ref q_199, .ref q_203, .ref q_207, .long 0, .int 0, .ref q_211, .ref q_215, .ref q_219, .int 0, .int 0, .int 0, .int 0, .ref q_223, .ref q_227, .ref q_231, .ref q_235, .ref q_239, .ref q_243, .ref q_247, .ref q_251, .ref q_255, .ref q_259, .int 0, .ref q_263, .null, .int 0, .null, .int 0, .null, .int 0, .int 0, .int 0, .int 0, .null])), (q_1, .inl (cA_2, 700, .inl (fun _ => 0))), (q_5, .inl (cA_6, 80, .inl (fun _ => 0))), (q_9, .inl (cA_10, 80, .inl (fun _ => 0))), (q_13, .inl (cA_14, 80, .inl (fun _ => 0))), (q_17, .inl (cA_18, 80, .inl (fun _ => 0))), (q_21, .inl (cA_22, 80, .inl (fun _ => 0))), (q_25, .inl (cA_26, 11520, .inl (fun _ => 0))), (q_29, .inl (cA_30, 12, .inl (fun _ => 0))), (q_33, .inl (cA_34, 144, .inl (fun _ => 0))), (q_37, .inl (cA_38, 12, .inl (fun _ => 0))), (q_41, .inl (cA_42, 12, .inl (fun _ => 0))), (q_45, .inl (cA_46, 12, .inl (fun _ => 0))), (q_51, .inl (cA_52, 10, .inl (fun _ => 0))), (q_55, .inl (cA_56, 10, .inl (fun _ => 0))), (q_59, .inl (cA_60, 120, .inl (fun _ => 0))), (q_63, .inl (cA_64, 6, .inl (fun _ => 0))), (q_67, .inl (cA_68, 6, .inl (fun _ => 0))), (q_71, .inl (cA_72, 24, .inl (fun _ => 0))), (q_75, .inl (cA_76, 115, .inl (z_wk 115))), (q_195, .inl (cA_196, 48, .inl (fun _ => 0))), (q_199, .inl (cA_200, 144, .inl (fun _ => 0))), (q_203, .inl (cA_204, 4, .inl (fun _ => 0))), (q_207, .inl (cA_208, 4, .inl (fun _ => 0))), (q_211, .inl (cA_212, 200, .inl (fun _ => 0))), (q_215, .inl (cA_216, 600, .inl (fun _ => 0))), (q_219, .inl (cA_220, 200, .inl (fun _ => 0))), (q_223, .inl (cA_224, 48, .inl (fun _ => 0))), (q_227, .inl (cA_228, 6, .inl (fun _ => 0))), (q_231, .inl (cA_232, 12, .inl (fun _ => 0))), (q_235, .inl (cA_236, 12, .inl (fun _ => 0))), (q_239, .inl (cA_240, 192, .inl (fun _ => 0))), (q_243, .inl (cA_244, 192, .inl (fun _ => 0))), (q_247, .inl (cA_248, 192, .inl (fun _ => 0))), (q_251, .inl (cA_252, 192, .inl (fun _ => 0))), (q_255, .inl (cA_256, 192, .inl (fun _ => 0))), (q_259, .inl (cA_260, 192, .inl (fun _ => 0))), (q_263, .inl (cA_264, 120, .inl (fun _ => 0))), (q_267, .inl (cA_268, 120, .inl (fun _ => 0)))] := hD
  refine va_putF (D := (dC, dI)) (ci := 12) (v := .ref q_267) (ty := .array .int) (C := RX12) (T := TX12) (N := 70) hx hb hts hiX12 tyX12 tyX12_ok nmX12 hown hK hP hD hS 0 rfl rfl 60 (by decide) w__fieldLink_RX12_132_ShellHeapModel_waitOf_I_ (fun _ h9 => h9) rfl hin rfl (by decide +kernel) rfl rfl (Nat.le_of_ble_eq_true rfl) dX12_init_1017 ?_
  clear hP hD hS
  intro H_270 locs hP hD hS
  have h9 := z_s_0_60 hP hD
  clear hP hD
  obtain ⟨hP, hD⟩ := h9
  refine lv_aload_n hx hb dX12_init_1020 rfl (lv_at hl 0 rfl) ?_
  refine lv_bipush (v := 120) hx hb dX12_init_1021 (by decide) ?_
  refine va_newa (atype := .int) (ty := .int) (N' := 120) (a0 := (120, .inl (fun _ => 0))) hx hb w__arrayClass_int rfl hK hP hD hS hA (z_newI 120) (by decide) (by decide) (by decide) (Nat.le_of_ble_eq_true rfl) (Nat.le_of_ble_eq_true rfl) dX12_init_1023 ?_
  clear hK hP hD hS
  intro q_271 cA_272 H_273 hK hP hD hS
  replace hK : va_K (dC, dI) vwCl [(cA_2, .int), (cA_6, .int), (cA_10, .int), (cA_14, .int), (cA_18, .int), (cA_22, .boolean), (cA_26, .int), (cA_30, .int), (cA_34, .boolean), (cA_38, .int), (cA_42, .int), (cA_46, .int), (cA_52, .int), (cA_56, .int), (cA_60, .int), (cA_64, .int), (cA_68, .int), (cA_72, .int), (cA_76, .int), (cA_196, .int), (cA_200, .int), (cA_204, .int), (cA_208, .int), (cA_212, .int), (cA_216, .int), (cA_220, .int), (cA_224, .int), (cA_228, .int), (cA_232, .int), (cA_236, .int), (cA_240, .int), (cA_244, .int), (cA_248, .int), (cA_252, .int), (cA_256, .boolean), (cA_260, .int), (cA_264, .int), (cA_268, .int), (cA_272, .int)] s := hK
  replace hP : va_P (dC, dI) vwCl [(h0, .inr (12, [.ref q_1, .int 0, .int 0, .int 0, .int 0, .ref q_5, .ref q_9, .ref q_13, .ref q_17, .ref q_21, .ref q_25, .ref q_29, .ref q_33, .ref q_37, .ref q_41, .ref q_45, .int 0, .int 6, .int 6, .int 0, .ref q_51, .ref q_55, .ref q_59, .int 0, .ref q_63, .ref q_67, .ref q_71, .ref q_75, .int 0, .int (-1), .int 0, .int 0, .int 0, .int 0, .int 0, .ref q_195, .ref q_199, .ref q_203, .ref q_207, .long 0, .int 0, .ref q_211, .ref q_215, .ref q_219, .int 0, .int 0, .int 0, .int 0, .ref q_223, .ref q_227, .ref q_231, .ref q_235, .ref q_239, .ref q_243, .ref q_247, .ref q_251, .ref q_255, .ref q_259, .int 0, .ref q_263, .ref q_267, .int 0, .null, .int 0, .null, .int 0, .int 0, .int 0, .int 0, .null])), (q_1, .inl (cA_2, 700, .inl (fun _ => 0))), (q_5, .inl (cA_6, 80, .inl (fun _ => 0))), (q_9, .inl (cA_10, 80, .inl (fun _ => 0))), (q_13, .inl (cA_14, 80, .inl (fun _ => 0))), (q_17, .inl (cA_18, 80, .inl (fun _ => 0))), (q_21, .inl (cA_22, 80, .inl (fun _ => 0))), (q_25, .inl (cA_26, 11520, .inl (fun _ => 0))), (q_29, .inl (cA_30, 12, .inl (fun _ => 0))), (q_33, .inl (cA_34, 144, .inl (fun _ => 0))), (q_37, .inl (cA_38, 12, .inl (fun _ => 0))), (q_41, .inl (cA_42, 12, .inl (fun _ => 0))), (q_45, .inl (cA_46, 12, .inl (fun _ => 0))), (q_51, .inl (cA_52, 10, .inl (fun _ => 0))), (q_55, .inl (cA_56, 10, .inl (fun _ => 0))), (q_59, .inl (cA_60, 120, .inl (fun _ => 0))), (q_63, .inl (cA_64, 6, .inl (fun _ => 0))), (q_67, .inl (cA_68, 6, .inl (fun _ => 0))), (q_71, .inl (cA_72, 24, .inl (fun _ => 0))), (q_75, .inl (cA_76, 115, .inl (z_wk 115))), (q_195, .inl (cA_196, 48, .inl (fun _ => 0))), (q_199, .inl (cA_200, 144, .inl (fun _ => 0))), (q_203, .inl (cA_204, 4, .inl (fun _ => 0))), (q_207, .inl (cA_208, 4, .inl (fun _ => 0))), (q_211, .inl (cA_212, 200, .inl (fun _ => 0))), (q_215, .inl (cA_216, 600, .inl (fun _ => 0))), (q_219, .inl (cA_220, 200, .inl (fun _ => 0))), (q_223, .inl (cA_224, 48, .inl (fun _ => 0))), (q_227, .inl (cA_228, 6, .inl (fun _ => 0))), (q_231, .inl (cA_232, 12, .inl (fun _ => 0))), (q_235, .inl (cA_236, 12, .inl (fun _ => 0))), (q_239, .inl (cA_240, 192, .inl (fun _ => 0))), (q_243, .inl (cA_244, 192, .inl (fun _ => 0))), (q_247, .inl (cA_248, 192, .inl (fun _ => 0))), (q_251, .inl (cA_252, 192, .inl (fun _ => 0))), (q_255, .inl (cA_256, 192, .inl (fun _ => 0))), (q_259, .inl (cA_260, 192, .inl (fun _ => 0))), (q_263, .inl (cA_264, 120, .inl (fun _ => 0))), (q_267, .inl (cA_268, 120, .inl (fun _ => 0))), (q_271, .inl (cA_272, 120, .inl (fun _ => 0)))] H_273 := hP
  replace hD : va_D A [(h0, .inr (12, [.ref q_1, .int 0, .int 0, .int 0, .int 0, .ref q_5, .ref q_9, .ref q_13, .ref q_17, .ref q_21, .ref q_25, .ref q_29, .ref q_33, .ref q_37, .ref q_41, .ref q_45, .int 0, .int 6, .int 6, .int 0, .ref q_51, .ref q_55, .ref q_59, .int 0, .ref q_63, .ref q_67, .ref q_71, .ref q_75, .int 0, .int (-1), .int 0, .int 0, .int 0, .int 0, .int 0, .ref q_195, .ref q_199, .ref q_203, .ref q_207, .long 0, .int 0, .ref q_211, .ref q_215, .ref q_219, .int 0, .int 0, .int 0, .int 0, .ref q_223, .ref q_227, .ref q_231, .ref q_235, .ref q_239, .ref q_243, .ref q_247, .ref q_251, .ref q_255, .ref q_259, .int 0, .ref q_263, .ref q_267, .int 0, .null, .int 0, .null, .int 0, .int 0, .int 0, .int 0, .null])), (q_1, .inl (cA_2, 700, .inl (fun _ => 0))), (q_5, .inl (cA_6, 80, .inl (fun _ => 0))), (q_9, .inl (cA_10, 80, .inl (fun _ => 0))), (q_13, .inl (cA_14, 80, .inl (fun _ => 0))), (q_17, .inl (cA_18, 80, .inl (fun _ => 0))), (q_21, .inl (cA_22, 80, .inl (fun _ => 0))), (q_25, .inl (cA_26, 11520, .inl (fun _ => 0))), (q_29, .inl (cA_30, 12, .inl (fun _ => 0))), (q_33, .inl (cA_34, 144, .inl (fun _ => 0))), (q_37, .inl (cA_38, 12, .inl (fun _ => 0))), (q_41, .inl (cA_42, 12, .inl (fun _ => 0))), (q_45, .inl (cA_46, 12, .inl (fun _ => 0))), (q_51, .inl (cA_52, 10, .inl (fun _ => 0))), (q_55, .inl (cA_56, 10, .inl (fun _ => 0))), (q_59, .inl (cA_60, 120, .inl (fun _ => 0))), (q_63, .inl (cA_64, 6, .inl (fun _ => 0))), (q_67, .inl (cA_68, 6, .inl (fun _ => 0))), (q_71, .inl (cA_72, 24, .inl (fun _ => 0))), (q_75, .inl (cA_76, 115, .inl (z_wk 115))), (q_195, .inl (cA_196, 48, .inl (fun _ => 0))), (q_199, .inl (cA_200, 144, .inl (fun _ => 0))), (q_203, .inl (cA_204, 4, .inl (fun _ => 0))), (q_207, .inl (cA_208, 4, .inl (fun _ => 0))), (q_211, .inl (cA_212, 200, .inl (fun _ => 0))), (q_215, .inl (cA_216, 600, .inl (fun _ => 0))), (q_219, .inl (cA_220, 200, .inl (fun _ => 0))), (q_223, .inl (cA_224, 48, .inl (fun _ => 0))), (q_227, .inl (cA_228, 6, .inl (fun _ => 0))), (q_231, .inl (cA_232, 12, .inl (fun _ => 0))), (q_235, .inl (cA_236, 12, .inl (fun _ => 0))), (q_239, .inl (cA_240, 192, .inl (fun _ => 0))), (q_243, .inl (cA_244, 192, .inl (fun _ => 0))), (q_247, .inl (cA_248, 192, .inl (fun _ => 0))), (q_251, .inl (cA_252, 192, .inl (fun _ => 0))), (q_255, .inl (cA_256, 192, .inl (fun _ => 0))), (q_259, .inl (cA_260, 192, .inl (fun _ => 0))), (q_263, .inl (cA_264, 120, .inl (fun _ => 0))), (q_267, .inl (cA_268, 120, .inl (fun _ => 0))), (q_271, .inl (cA_272, 120, .inl (fun _ => 0)))] := hD
  refine va_putF (D := (dC, dI)) (ci := 12) (v := .ref q_271) (ty := .array .int) (C := RX12) (T := TX12) (N := 70) hx hb hts hiX12 tyX12 tyX12_ok nmX12 hown hK hP hD hS 0 rfl rfl 62 (by decide) w__fieldLink_RX12_135_ShellHeapModel_held_I_ (fun _ h9 => h9) rfl hin rfl (by decide +kernel) rfl rfl (Nat.le_of_ble_eq_true rfl) dX12_init_1025 ?_
  clear hP hD hS
  intro H_274 locs hP hD hS
  have h9 := z_s_0_62 hP hD
  clear hP hD
  obtain ⟨hP, hD⟩ := h9
  refine lv_aload_n hx hb dX12_init_1028 rfl (lv_at hl 0 rfl) ?_
  refine lv_bipush (v := 8) hx hb dX12_init_1029 (by decide) ?_
  refine va_newa (atype := .boolean) (ty := .boolean) (N' := 8) (a0 := (8, .inl (fun _ => 0))) hx hb w__arrayClass_boolean rfl hK hP hD hS hA (z_newZ 8) (by decide) (by decide) (by decide) (Nat.le_of_ble_eq_true rfl) (Nat.le_of_ble_eq_true rfl) dX12_init_1031 ?_
  clear hK hP hD hS
  intro q_275 cA_276 H_277 hK hP hD hS
  replace hK : va_K (dC, dI) vwCl [(cA_2, .int), (cA_6, .int), (cA_10, .int), (cA_14, .int), (cA_18, .int), (cA_22, .boolean), (cA_26, .int), (cA_30, .int), (cA_34, .boolean), (cA_38, .int), (cA_42, .int), (cA_46, .int), (cA_52, .int), (cA_56, .int), (cA_60, .int), (cA_64, .int), (cA_68, .int), (cA_72, .int), (cA_76, .int), (cA_196, .int), (cA_200, .int), (cA_204, .int), (cA_208, .int), (cA_212, .int), (cA_216, .int), (cA_220, .int), (cA_224, .int), (cA_228, .int), (cA_232, .int), (cA_236, .int), (cA_240, .int), (cA_244, .int), (cA_248, .int), (cA_252, .int), (cA_256, .boolean), (cA_260, .int), (cA_264, .int), (cA_268, .int), (cA_272, .int), (cA_276, .boolean)] s := hK
  replace hP : va_P (dC, dI) vwCl [(h0, .inr (12, [.ref q_1, .int 0, .int 0, .int 0, .int 0, .ref q_5, .ref q_9, .ref q_13, .ref q_17, .ref q_21, .ref q_25, .ref q_29, .ref q_33, .ref q_37, .ref q_41, .ref q_45, .int 0, .int 6, .int 6, .int 0, .ref q_51, .ref q_55, .ref q_59, .int 0, .ref q_63, .ref q_67, .ref q_71, .ref q_75, .int 0, .int (-1), .int 0, .int 0, .int 0, .int 0, .int 0, .ref q_195, .ref q_199, .ref q_203, .ref q_207, .long 0, .int 0, .ref q_211, .ref q_215, .ref q_219, .int 0, .int 0, .int 0, .int 0, .ref q_223, .ref q_227, .ref q_231, .ref q_235, .ref q_239, .ref q_243, .ref q_247, .ref q_251, .ref q_255, .ref q_259, .int 0, .ref q_263, .ref q_267, .int 0, .ref q_271, .int 0, .null, .int 0, .int 0, .int 0, .int 0, .null])), (q_1, .inl (cA_2, 700, .inl (fun _ => 0))), (q_5, .inl (cA_6, 80, .inl (fun _ => 0))), (q_9, .inl (cA_10, 80, .inl (fun _ => 0))), (q_13, .inl (cA_14, 80, .inl (fun _ => 0))), (q_17, .inl (cA_18, 80, .inl (fun _ => 0))), (q_21, .inl (cA_22, 80, .inl (fun _ => 0))), (q_25, .inl (cA_26, 11520, .inl (fun _ => 0))), (q_29, .inl (cA_30, 12, .inl (fun _ => 0))), (q_33, .inl (cA_34, 144, .inl (fun _ => 0))), (q_37, .inl (cA_38, 12, .inl (fun _ => 0))), (q_41, .inl (cA_42, 12, .inl (fun _ => 0))), (q_45, .inl (cA_46, 12, .inl (fun _ => 0))), (q_51, .inl (cA_52, 10, .inl (fun _ => 0))), (q_55, .inl (cA_56, 10, .inl (fun _ => 0))), (q_59, .inl (cA_60, 120, .inl (fun _ => 0))), (q_63, .inl (cA_64, 6, .inl (fun _ => 0))), (q_67, .inl (cA_68, 6, .inl (fun _ => 0))), (q_71, .inl (cA_72, 24, .inl (fun _ => 0))), (q_75, .inl (cA_76, 115, .inl (z_wk 115))), (q_195, .inl (cA_196, 48, .inl (fun _ => 0))), (q_199, .inl (cA_200, 144, .inl (fun _ => 0))), (q_203, .inl (cA_204, 4, .inl (fun _ => 0))), (q_207, .inl (cA_208, 4, .inl (fun _ => 0))), (q_211, .inl (cA_212, 200, .inl (fun _ => 0))), (q_215, .inl (cA_216, 600, .inl (fun _ => 0))), (q_219, .inl (cA_220, 200, .inl (fun _ => 0))), (q_223, .inl (cA_224, 48, .inl (fun _ => 0))), (q_227, .inl (cA_228, 6, .inl (fun _ => 0))), (q_231, .inl (cA_232, 12, .inl (fun _ => 0))), (q_235, .inl (cA_236, 12, .inl (fun _ => 0))), (q_239, .inl (cA_240, 192, .inl (fun _ => 0))), (q_243, .inl (cA_244, 192, .inl (fun _ => 0))), (q_247, .inl (cA_248, 192, .inl (fun _ => 0))), (q_251, .inl (cA_252, 192, .inl (fun _ => 0))), (q_255, .inl (cA_256, 192, .inl (fun _ => 0))), (q_259, .inl (cA_260, 192, .inl (fun _ => 0))), (q_263, .inl (cA_264, 120, .inl (fun _ => 0))), (q_267, .inl (cA_268, 120, .inl (fun _ => 0))), (q_271, .inl (cA_272, 120, .inl (fun _ => 0))), (q_275, .inl (cA_276, 8, .inl (fun _ => 0)))] H_277 := hP
  replace hD : va_D A [(h0, .inr (12, [.ref q_1, .int 0, .int 0, .int 0, .int 0, .ref q_5, .ref q_9, .ref q_13, .ref q_17, .ref q_21, .ref q_25, .ref q_29, .ref q_33, .ref q_37, .ref q_41, .ref q_45, .int 0, .int 6, .int 6, .int 0, .ref q_51, .ref q_55, .ref q_59, .int 0, .ref q_63, .ref q_67, .ref q_71, .ref q_75, .int 0, .int (-1), .int 0, .int 0, .int 0, .int 0, .int 0, .ref q_195, .ref q_199, .ref q_203, .ref q_207, .long 0, .int 0, .ref q_211, .ref q_215, .ref q_219, .int 0, .int 0, .int 0, .int 0, .ref q_223, .ref q_227, .ref q_231, .ref q_235, .ref q_239, .ref q_243, .ref q_247, .ref q_251, .ref q_255, .ref q_259, .int 0, .ref q_263, .ref q_267, .int 0, .ref q_271, .int 0, .null, .int 0, .int 0, .int 0, .int 0, .null])), (q_1, .inl (cA_2, 700, .inl (fun _ => 0))), (q_5, .inl (cA_6, 80, .inl (fun _ => 0))), (q_9, .inl (cA_10, 80, .inl (fun _ => 0))), (q_13, .inl (cA_14, 80, .inl (fun _ => 0))), (q_17, .inl (cA_18, 80, .inl (fun _ => 0))), (q_21, .inl (cA_22, 80, .inl (fun _ => 0))), (q_25, .inl (cA_26, 11520, .inl (fun _ => 0))), (q_29, .inl (cA_30, 12, .inl (fun _ => 0))), (q_33, .inl (cA_34, 144, .inl (fun _ => 0))), (q_37, .inl (cA_38, 12, .inl (fun _ => 0))), (q_41, .inl (cA_42, 12, .inl (fun _ => 0))), (q_45, .inl (cA_46, 12, .inl (fun _ => 0))), (q_51, .inl (cA_52, 10, .inl (fun _ => 0))), (q_55, .inl (cA_56, 10, .inl (fun _ => 0))), (q_59, .inl (cA_60, 120, .inl (fun _ => 0))), (q_63, .inl (cA_64, 6, .inl (fun _ => 0))), (q_67, .inl (cA_68, 6, .inl (fun _ => 0))), (q_71, .inl (cA_72, 24, .inl (fun _ => 0))), (q_75, .inl (cA_76, 115, .inl (z_wk 115))), (q_195, .inl (cA_196, 48, .inl (fun _ => 0))), (q_199, .inl (cA_200, 144, .inl (fun _ => 0))), (q_203, .inl (cA_204, 4, .inl (fun _ => 0))), (q_207, .inl (cA_208, 4, .inl (fun _ => 0))), (q_211, .inl (cA_212, 200, .inl (fun _ => 0))), (q_215, .inl (cA_216, 600, .inl (fun _ => 0))), (q_219, .inl (cA_220, 200, .inl (fun _ => 0))), (q_223, .inl (cA_224, 48, .inl (fun _ => 0))), (q_227, .inl (cA_228, 6, .inl (fun _ => 0))), (q_231, .inl (cA_232, 12, .inl (fun _ => 0))), (q_235, .inl (cA_236, 12, .inl (fun _ => 0))), (q_239, .inl (cA_240, 192, .inl (fun _ => 0))), (q_243, .inl (cA_244, 192, .inl (fun _ => 0))), (q_247, .inl (cA_248, 192, .inl (fun _ => 0))), (q_251, .inl (cA_252, 192, .inl (fun _ => 0))), (q_255, .inl (cA_256, 192, .inl (fun _ => 0))), (q_259, .inl (cA_260, 192, .inl (fun _ => 0))), (q_263, .inl (cA_264, 120, .inl (fun _ => 0))), (q_267, .inl (cA_268, 120, .inl (fun _ => 0))), (q_271, .inl (cA_272, 120, .inl (fun _ => 0))), (q_275, .inl (cA_276, 8, .inl (fun _ => 0)))] := hD
  refine va_putF (D := (dC, dI)) (ci := 12) (v := .ref q_275) (ty := .array .boolean) (C := RX12) (T := TX12) (N := 70) hx hb hts hiX12 tyX12 tyX12_ok nmX12 hown hK hP hD hS 0 rfl rfl 64 (by decide) w__fieldLink_RX12_138_ShellHeapModel_compared_Z_ (fun _ h9 => h9) rfl hin rfl (by decide +kernel) rfl rfl (Nat.le_of_ble_eq_true rfl) dX12_init_1033 ?_
  clear hP hD hS
  intro H_278 locs hP hD hS
  have h9 := z_s_0_64 hP hD
  clear hP hD
  obtain ⟨hP, hD⟩ := h9
  refine lv_aload_n hx hb dX12_init_1036 rfl (lv_at hl 0 rfl) ?_
  refine lv_bipush (v := 96) hx hb dX12_init_1037 (by decide) ?_
  refine va_newa (atype := .long) (ty := .long) (N' := 96) (a0 := (96, .inr (.inl (fun _ => 0)))) hx hb w__arrayClass_long rfl hK hP hD hS hA (z_newJ 96) (by decide) (by decide) (by decide) (Nat.le_of_ble_eq_true rfl) (Nat.le_of_ble_eq_true rfl) dX12_init_1039 ?_
  clear hK hP hD hS
  intro q_279 cA_280 H_281 hK hP hD hS
  replace hK : va_K (dC, dI) vwCl [(cA_2, .int), (cA_6, .int), (cA_10, .int), (cA_14, .int), (cA_18, .int), (cA_22, .boolean), (cA_26, .int), (cA_30, .int), (cA_34, .boolean), (cA_38, .int), (cA_42, .int), (cA_46, .int), (cA_52, .int), (cA_56, .int), (cA_60, .int), (cA_64, .int), (cA_68, .int), (cA_72, .int), (cA_76, .int), (cA_196, .int), (cA_200, .int), (cA_204, .int), (cA_208, .int), (cA_212, .int), (cA_216, .int), (cA_220, .int), (cA_224, .int), (cA_228, .int), (cA_232, .int), (cA_236, .int), (cA_240, .int), (cA_244, .int), (cA_248, .int), (cA_252, .int), (cA_256, .boolean), (cA_260, .int), (cA_264, .int), (cA_268, .int), (cA_272, .int), (cA_276, .boolean), (cA_280, .long)] s := hK
  replace hP : va_P (dC, dI) vwCl [(h0, .inr (12, [.ref q_1, .int 0, .int 0, .int 0, .int 0, .ref q_5, .ref q_9, .ref q_13, .ref q_17, .ref q_21, .ref q_25, .ref q_29, .ref q_33, .ref q_37, .ref q_41, .ref q_45, .int 0, .int 6, .int 6, .int 0, .ref q_51, .ref q_55, .ref q_59, .int 0, .ref q_63, .ref q_67, .ref q_71, .ref q_75, .int 0, .int (-1), .int 0, .int 0, .int 0, .int 0, .int 0, .ref q_195, .ref q_199, .ref q_203, .ref q_207, .long 0, .int 0, .ref q_211, .ref q_215, .ref q_219, .int 0, .int 0, .int 0, .int 0, .ref q_223, .ref q_227, .ref q_231, .ref q_235, .ref q_239, .ref q_243, .ref q_247, .ref q_251, .ref q_255, .ref q_259, .int 0, .ref q_263, .ref q_267, .int 0, .ref q_271, .int 0, .ref q_275, .int 0, .int 0, .int 0, .int 0, .null])), (q_1, .inl (cA_2, 700, .inl (fun _ => 0))), (q_5, .inl (cA_6, 80, .inl (fun _ => 0))), (q_9, .inl (cA_10, 80, .inl (fun _ => 0))), (q_13, .inl (cA_14, 80, .inl (fun _ => 0))), (q_17, .inl (cA_18, 80, .inl (fun _ => 0))), (q_21, .inl (cA_22, 80, .inl (fun _ => 0))), (q_25, .inl (cA_26, 11520, .inl (fun _ => 0))), (q_29, .inl (cA_30, 12, .inl (fun _ => 0))), (q_33, .inl (cA_34, 144, .inl (fun _ => 0))), (q_37, .inl (cA_38, 12, .inl (fun _ => 0))), (q_41, .inl (cA_42, 12, .inl (fun _ => 0))), (q_45, .inl (cA_46, 12, .inl (fun _ => 0))), (q_51, .inl (cA_52, 10, .inl (fun _ => 0))), (q_55, .inl (cA_56, 10, .inl (fun _ => 0))), (q_59, .inl (cA_60, 120, .inl (fun _ => 0))), (q_63, .inl (cA_64, 6, .inl (fun _ => 0))), (q_67, .inl (cA_68, 6, .inl (fun _ => 0))), (q_71, .inl (cA_72, 24, .inl (fun _ => 0))), (q_75, .inl (cA_76, 115, .inl (z_wk 115))), (q_195, .inl (cA_196, 48, .inl (fun _ => 0))), (q_199, .inl (cA_200, 144, .inl (fun _ => 0))), (q_203, .inl (cA_204, 4, .inl (fun _ => 0))), (q_207, .inl (cA_208, 4, .inl (fun _ => 0))), (q_211, .inl (cA_212, 200, .inl (fun _ => 0))), (q_215, .inl (cA_216, 600, .inl (fun _ => 0))), (q_219, .inl (cA_220, 200, .inl (fun _ => 0))), (q_223, .inl (cA_224, 48, .inl (fun _ => 0))), (q_227, .inl (cA_228, 6, .inl (fun _ => 0))), (q_231, .inl (cA_232, 12, .inl (fun _ => 0))), (q_235, .inl (cA_236, 12, .inl (fun _ => 0))), (q_239, .inl (cA_240, 192, .inl (fun _ => 0))), (q_243, .inl (cA_244, 192, .inl (fun _ => 0))), (q_247, .inl (cA_248, 192, .inl (fun _ => 0))), (q_251, .inl (cA_252, 192, .inl (fun _ => 0))), (q_255, .inl (cA_256, 192, .inl (fun _ => 0))), (q_259, .inl (cA_260, 192, .inl (fun _ => 0))), (q_263, .inl (cA_264, 120, .inl (fun _ => 0))), (q_267, .inl (cA_268, 120, .inl (fun _ => 0))), (q_271, .inl (cA_272, 120, .inl (fun _ => 0))), (q_275, .inl (cA_276, 8, .inl (fun _ => 0))), (q_279, .inl (cA_280, 96, .inr (.inl (fun _ => 0))))] H_281 := hP
  replace hD : va_D A [(h0, .inr (12, [.ref q_1, .int 0, .int 0, .int 0, .int 0, .ref q_5, .ref q_9, .ref q_13, .ref q_17, .ref q_21, .ref q_25, .ref q_29, .ref q_33, .ref q_37, .ref q_41, .ref q_45, .int 0, .int 6, .int 6, .int 0, .ref q_51, .ref q_55, .ref q_59, .int 0, .ref q_63, .ref q_67, .ref q_71, .ref q_75, .int 0, .int (-1), .int 0, .int 0, .int 0, .int 0, .int 0, .ref q_195, .ref q_199, .ref q_203, .ref q_207, .long 0, .int 0, .ref q_211, .ref q_215, .ref q_219, .int 0, .int 0, .int 0, .int 0, .ref q_223, .ref q_227, .ref q_231, .ref q_235, .ref q_239, .ref q_243, .ref q_247, .ref q_251, .ref q_255, .ref q_259, .int 0, .ref q_263, .ref q_267, .int 0, .ref q_271, .int 0, .ref q_275, .int 0, .int 0, .int 0, .int 0, .null])), (q_1, .inl (cA_2, 700, .inl (fun _ => 0))), (q_5, .inl (cA_6, 80, .inl (fun _ => 0))), (q_9, .inl (cA_10, 80, .inl (fun _ => 0))), (q_13, .inl (cA_14, 80, .inl (fun _ => 0))), (q_17, .inl (cA_18, 80, .inl (fun _ => 0))), (q_21, .inl (cA_22, 80, .inl (fun _ => 0))), (q_25, .inl (cA_26, 11520, .inl (fun _ => 0))), (q_29, .inl (cA_30, 12, .inl (fun _ => 0))), (q_33, .inl (cA_34, 144, .inl (fun _ => 0))), (q_37, .inl (cA_38, 12, .inl (fun _ => 0))), (q_41, .inl (cA_42, 12, .inl (fun _ => 0))), (q_45, .inl (cA_46, 12, .inl (fun _ => 0))), (q_51, .inl (cA_52, 10, .inl (fun _ => 0))), (q_55, .inl (cA_56, 10, .inl (fun _ => 0))), (q_59, .inl (cA_60, 120, .inl (fun _ => 0))), (q_63, .inl (cA_64, 6, .inl (fun _ => 0))), (q_67, .inl (cA_68, 6, .inl (fun _ => 0))), (q_71, .inl (cA_72, 24, .inl (fun _ => 0))), (q_75, .inl (cA_76, 115, .inl (z_wk 115))), (q_195, .inl (cA_196, 48, .inl (fun _ => 0))), (q_199, .inl (cA_200, 144, .inl (fun _ => 0))), (q_203, .inl (cA_204, 4, .inl (fun _ => 0))), (q_207, .inl (cA_208, 4, .inl (fun _ => 0))), (q_211, .inl (cA_212, 200, .inl (fun _ => 0))), (q_215, .inl (cA_216, 600, .inl (fun _ => 0))), (q_219, .inl (cA_220, 200, .inl (fun _ => 0))), (q_223, .inl (cA_224, 48, .inl (fun _ => 0))), (q_227, .inl (cA_228, 6, .inl (fun _ => 0))), (q_231, .inl (cA_232, 12, .inl (fun _ => 0))), (q_235, .inl (cA_236, 12, .inl (fun _ => 0))), (q_239, .inl (cA_240, 192, .inl (fun _ => 0))), (q_243, .inl (cA_244, 192, .inl (fun _ => 0))), (q_247, .inl (cA_248, 192, .inl (fun _ => 0))), (q_251, .inl (cA_252, 192, .inl (fun _ => 0))), (q_255, .inl (cA_256, 192, .inl (fun _ => 0))), (q_259, .inl (cA_260, 192, .inl (fun _ => 0))), (q_263, .inl (cA_264, 120, .inl (fun _ => 0))), (q_267, .inl (cA_268, 120, .inl (fun _ => 0))), (q_271, .inl (cA_272, 120, .inl (fun _ => 0))), (q_275, .inl (cA_276, 8, .inl (fun _ => 0))), (q_279, .inl (cA_280, 96, .inr (.inl (fun _ => 0))))] := hD
  refine va_putF (D := (dC, dI)) (ci := 12) (v := .ref q_279) (ty := .array .long) (C := RX12) (T := TX12) (N := 70) hx hb hts hiX12 tyX12 tyX12_ok nmX12 hown hK hP hD hS 0 rfl rfl 69 (by decide) w__fieldLink_RX12_141_ShellHeapModel_worked_J_ (fun _ h9 => h9) rfl hin rfl (by decide +kernel) rfl rfl (Nat.le_of_ble_eq_true rfl) dX12_init_1041 ?_
  clear hP hD hS
  intro H_282 locs hP hD hS
  have h9 := z_s_0_69 hP hD
  clear hP hD
  obtain ⟨hP, hD⟩ := h9
  refine lv_iconst (v := 0) hx hb dX12_init_1044 (by decide) ?_
  refine lv_istore_n (lv' := [(1, .int 0), (0, .ref h0)]) hx hb dX12_init_1045 rfl hl (by decide) rfl (fun ls hl => ?_)
  have loop_283 : ∀ (n_285 j_284 : Nat) (f_287 : Nat → Int32) (H : Heap) (locs : List Loc) (ls : Array Slot), j_284 + n_285 = 24 → (∀ i : Nat, i < j_284 → f_287 i = 16) → va_P (dC, dI) vwCl [(h0, .inr (12, [.ref q_1, .int 0, .int 0, .int 0, .int 0, .ref q_5, .ref q_9, .ref q_13, .ref q_17, .ref q_21, .ref q_25, .ref q_29, .ref q_33, .ref q_37, .ref q_41, .ref q_45, .int 0, .int 6, .int 6, .int 0, .ref q_51, .ref q_55, .ref q_59, .int 0, .ref q_63, .ref q_67, .ref q_71, .ref q_75, .int 0, .int (-1), .int 0, .int 0, .int 0, .int 0, .int 0, .ref q_195, .ref q_199, .ref q_203, .ref q_207, .long 0, .int 0, .ref q_211, .ref q_215, .ref q_219, .int 0, .int 0, .int 0, .int 0, .ref q_223, .ref q_227, .ref q_231, .ref q_235, .ref q_239, .ref q_243, .ref q_247, .ref q_251, .ref q_255, .ref q_259, .int 0, .ref q_263, .ref q_267, .int 0, .ref q_271, .int 0, .ref q_275, .int 0, .int 0, .int 0, .int 0, .ref q_279])), (q_1, .inl (cA_2, 700, .inl (fun _ => 0))), (q_5, .inl (cA_6, 80, .inl (fun _ => 0))), (q_9, .inl (cA_10, 80, .inl (fun _ => 0))), (q_13, .inl (cA_14, 80, .inl (fun _ => 0))), (q_17, .inl (cA_18, 80, .inl (fun _ => 0))), (q_21, .inl (cA_22, 80, .inl (fun _ => 0))), (q_25, .inl (cA_26, 11520, .inl (fun _ => 0))), (q_29, .inl (cA_30, 12, .inl (fun _ => 0))), (q_33, .inl (cA_34, 144, .inl (fun _ => 0))), (q_37, .inl (cA_38, 12, .inl (fun _ => 0))), (q_41, .inl (cA_42, 12, .inl (fun _ => 0))), (q_45, .inl (cA_46, 12, .inl (fun _ => 0))), (q_51, .inl (cA_52, 10, .inl (fun _ => 0))), (q_55, .inl (cA_56, 10, .inl (fun _ => 0))), (q_59, .inl (cA_60, 120, .inl (fun _ => 0))), (q_63, .inl (cA_64, 6, .inl (fun _ => 0))), (q_67, .inl (cA_68, 6, .inl (fun _ => 0))), (q_71, .inl (cA_72, 24, .inl f_287)), (q_75, .inl (cA_76, 115, .inl (z_wk 115))), (q_195, .inl (cA_196, 48, .inl (fun _ => 0))), (q_199, .inl (cA_200, 144, .inl (fun _ => 0))), (q_203, .inl (cA_204, 4, .inl (fun _ => 0))), (q_207, .inl (cA_208, 4, .inl (fun _ => 0))), (q_211, .inl (cA_212, 200, .inl (fun _ => 0))), (q_215, .inl (cA_216, 600, .inl (fun _ => 0))), (q_219, .inl (cA_220, 200, .inl (fun _ => 0))), (q_223, .inl (cA_224, 48, .inl (fun _ => 0))), (q_227, .inl (cA_228, 6, .inl (fun _ => 0))), (q_231, .inl (cA_232, 12, .inl (fun _ => 0))), (q_235, .inl (cA_236, 12, .inl (fun _ => 0))), (q_239, .inl (cA_240, 192, .inl (fun _ => 0))), (q_243, .inl (cA_244, 192, .inl (fun _ => 0))), (q_247, .inl (cA_248, 192, .inl (fun _ => 0))), (q_251, .inl (cA_252, 192, .inl (fun _ => 0))), (q_255, .inl (cA_256, 192, .inl (fun _ => 0))), (q_259, .inl (cA_260, 192, .inl (fun _ => 0))), (q_263, .inl (cA_264, 120, .inl (fun _ => 0))), (q_267, .inl (cA_268, 120, .inl (fun _ => 0))), (q_271, .inl (cA_272, 120, .inl (fun _ => 0))), (q_275, .inl (cA_276, 8, .inl (fun _ => 0))), (q_279, .inl (cA_280, 96, .inr (.inl (fun _ => 0))))] H → va_D A [(h0, .inr (12, [.ref q_1, .int 0, .int 0, .int 0, .int 0, .ref q_5, .ref q_9, .ref q_13, .ref q_17, .ref q_21, .ref q_25, .ref q_29, .ref q_33, .ref q_37, .ref q_41, .ref q_45, .int 0, .int 6, .int 6, .int 0, .ref q_51, .ref q_55, .ref q_59, .int 0, .ref q_63, .ref q_67, .ref q_71, .ref q_75, .int 0, .int (-1), .int 0, .int 0, .int 0, .int 0, .int 0, .ref q_195, .ref q_199, .ref q_203, .ref q_207, .long 0, .int 0, .ref q_211, .ref q_215, .ref q_219, .int 0, .int 0, .int 0, .int 0, .ref q_223, .ref q_227, .ref q_231, .ref q_235, .ref q_239, .ref q_243, .ref q_247, .ref q_251, .ref q_255, .ref q_259, .int 0, .ref q_263, .ref q_267, .int 0, .ref q_271, .int 0, .ref q_275, .int 0, .int 0, .int 0, .int 0, .ref q_279])), (q_1, .inl (cA_2, 700, .inl (fun _ => 0))), (q_5, .inl (cA_6, 80, .inl (fun _ => 0))), (q_9, .inl (cA_10, 80, .inl (fun _ => 0))), (q_13, .inl (cA_14, 80, .inl (fun _ => 0))), (q_17, .inl (cA_18, 80, .inl (fun _ => 0))), (q_21, .inl (cA_22, 80, .inl (fun _ => 0))), (q_25, .inl (cA_26, 11520, .inl (fun _ => 0))), (q_29, .inl (cA_30, 12, .inl (fun _ => 0))), (q_33, .inl (cA_34, 144, .inl (fun _ => 0))), (q_37, .inl (cA_38, 12, .inl (fun _ => 0))), (q_41, .inl (cA_42, 12, .inl (fun _ => 0))), (q_45, .inl (cA_46, 12, .inl (fun _ => 0))), (q_51, .inl (cA_52, 10, .inl (fun _ => 0))), (q_55, .inl (cA_56, 10, .inl (fun _ => 0))), (q_59, .inl (cA_60, 120, .inl (fun _ => 0))), (q_63, .inl (cA_64, 6, .inl (fun _ => 0))), (q_67, .inl (cA_68, 6, .inl (fun _ => 0))), (q_71, .inl (cA_72, 24, .inl f_287)), (q_75, .inl (cA_76, 115, .inl (z_wk 115))), (q_195, .inl (cA_196, 48, .inl (fun _ => 0))), (q_199, .inl (cA_200, 144, .inl (fun _ => 0))), (q_203, .inl (cA_204, 4, .inl (fun _ => 0))), (q_207, .inl (cA_208, 4, .inl (fun _ => 0))), (q_211, .inl (cA_212, 200, .inl (fun _ => 0))), (q_215, .inl (cA_216, 600, .inl (fun _ => 0))), (q_219, .inl (cA_220, 200, .inl (fun _ => 0))), (q_223, .inl (cA_224, 48, .inl (fun _ => 0))), (q_227, .inl (cA_228, 6, .inl (fun _ => 0))), (q_231, .inl (cA_232, 12, .inl (fun _ => 0))), (q_235, .inl (cA_236, 12, .inl (fun _ => 0))), (q_239, .inl (cA_240, 192, .inl (fun _ => 0))), (q_243, .inl (cA_244, 192, .inl (fun _ => 0))), (q_247, .inl (cA_248, 192, .inl (fun _ => 0))), (q_251, .inl (cA_252, 192, .inl (fun _ => 0))), (q_255, .inl (cA_256, 192, .inl (fun _ => 0))), (q_259, .inl (cA_260, 192, .inl (fun _ => 0))), (q_263, .inl (cA_264, 120, .inl (fun _ => 0))), (q_267, .inl (cA_268, 120, .inl (fun _ => 0))), (q_271, .inl (cA_272, 120, .inl (fun _ => 0))), (q_275, .inl (cA_276, 8, .inl (fun _ => 0))), (q_279, .inl (cA_280, 96, .inr (.inl (fun _ => 0))))] → va_S A s.heap H locs → lv_has ls 4 [(1, .int (nI j_284)), (0, .ref h0)] → W p l e ({ frames := 1, cells := 41, slots := 15997, locals := 12 } : Room) s m ([.ref h0] : List Value).toArray below meth c H locs 41 15997 QQ (F0 m 1046 ls []) := by
    intro n_285
    induction n_285 with
    | zero =>
      intro j_284 f_287 H locs ls hjn hinv hP hD hS hl
      obtain rfl : j_284 = 24 := by omega
      have hl : lv_has ls 4 [(1, .int 24), (0, .ref h0)] := hl
      refine lv_iload_n hx hb dX12_init_1046 rfl (lv_at hl 0 rfl) ?_
      refine lv_bipush (v := 24) hx hb dX12_init_1047 (by decide) ?_
      refine lv_icmp_ge (tgt := 1066) hx hb dX12_init_1049 (by decide) (fun _ => ?_) (fun c_288 => absurd (by decide) c_288)
      refine lv_iconst (v := 0) hx hb dX12_init_1066 (by decide) ?_
      refine lv_istore_n (lv' := [(1, .int 0), (0, .ref h0)]) hx hb dX12_init_1067 rfl hl (by decide) rfl (fun ls hl => ?_)
      have loop_289 : ∀ (n_291 j_290 : Nat) (f_293 : Nat → Int32) (H : Heap) (locs : List Loc) (ls : Array Slot), j_290 + n_291 = 3 → va_P (dC, dI) vwCl [(h0, .inr (12, [.ref q_1, .int 0, .int 0, .int 0, .int 0, .ref q_5, .ref q_9, .ref q_13, .ref q_17, .ref q_21, .ref q_25, .ref q_29, .ref q_33, .ref q_37, .ref q_41, .ref q_45, .int 0, .int 6, .int 6, .int 0, .ref q_51, .ref q_55, .ref q_59, .int 0, .ref q_63, .ref q_67, .ref q_71, .ref q_75, .int 0, .int (-1), .int 0, .int 0, .int 0, .int 0, .int 0, .ref q_195, .ref q_199, .ref q_203, .ref q_207, .long 0, .int 0, .ref q_211, .ref q_215, .ref q_219, .int 0, .int 0, .int 0, .int 0, .ref q_223, .ref q_227, .ref q_231, .ref q_235, .ref q_239, .ref q_243, .ref q_247, .ref q_251, .ref q_255, .ref q_259, .int 0, .ref q_263, .ref q_267, .int 0, .ref q_271, .int 0, .ref q_275, .int 0, .int 0, .int 0, .int 0, .ref q_279])), (q_1, .inl (cA_2, 700, .inl (fun _ => 0))), (q_5, .inl (cA_6, 80, .inl (fun _ => 0))), (q_9, .inl (cA_10, 80, .inl (fun _ => 0))), (q_13, .inl (cA_14, 80, .inl (fun _ => 0))), (q_17, .inl (cA_18, 80, .inl (fun _ => 0))), (q_21, .inl (cA_22, 80, .inl (fun _ => 0))), (q_25, .inl (cA_26, 11520, .inl (fun _ => 0))), (q_29, .inl (cA_30, 12, .inl (fun _ => 0))), (q_33, .inl (cA_34, 144, .inl (fun _ => 0))), (q_37, .inl (cA_38, 12, .inl (fun _ => 0))), (q_41, .inl (cA_42, 12, .inl (fun _ => 0))), (q_45, .inl (cA_46, 12, .inl (fun _ => 0))), (q_51, .inl (cA_52, 10, .inl (fun _ => 0))), (q_55, .inl (cA_56, 10, .inl (fun _ => 0))), (q_59, .inl (cA_60, 120, .inl (fun _ => 0))), (q_63, .inl (cA_64, 6, .inl (fun _ => 0))), (q_67, .inl (cA_68, 6, .inl (fun _ => 0))), (q_71, .inl (cA_72, 24, .inl f_287)), (q_75, .inl (cA_76, 115, .inl (z_wk 115))), (q_195, .inl (cA_196, 48, .inl f_293)), (q_199, .inl (cA_200, 144, .inl (fun _ => 0))), (q_203, .inl (cA_204, 4, .inl (fun _ => 0))), (q_207, .inl (cA_208, 4, .inl (fun _ => 0))), (q_211, .inl (cA_212, 200, .inl (fun _ => 0))), (q_215, .inl (cA_216, 600, .inl (fun _ => 0))), (q_219, .inl (cA_220, 200, .inl (fun _ => 0))), (q_223, .inl (cA_224, 48, .inl (fun _ => 0))), (q_227, .inl (cA_228, 6, .inl (fun _ => 0))), (q_231, .inl (cA_232, 12, .inl (fun _ => 0))), (q_235, .inl (cA_236, 12, .inl (fun _ => 0))), (q_239, .inl (cA_240, 192, .inl (fun _ => 0))), (q_243, .inl (cA_244, 192, .inl (fun _ => 0))), (q_247, .inl (cA_248, 192, .inl (fun _ => 0))), (q_251, .inl (cA_252, 192, .inl (fun _ => 0))), (q_255, .inl (cA_256, 192, .inl (fun _ => 0))), (q_259, .inl (cA_260, 192, .inl (fun _ => 0))), (q_263, .inl (cA_264, 120, .inl (fun _ => 0))), (q_267, .inl (cA_268, 120, .inl (fun _ => 0))), (q_271, .inl (cA_272, 120, .inl (fun _ => 0))), (q_275, .inl (cA_276, 8, .inl (fun _ => 0))), (q_279, .inl (cA_280, 96, .inr (.inl (fun _ => 0))))] H → va_D A [(h0, .inr (12, [.ref q_1, .int 0, .int 0, .int 0, .int 0, .ref q_5, .ref q_9, .ref q_13, .ref q_17, .ref q_21, .ref q_25, .ref q_29, .ref q_33, .ref q_37, .ref q_41, .ref q_45, .int 0, .int 6, .int 6, .int 0, .ref q_51, .ref q_55, .ref q_59, .int 0, .ref q_63, .ref q_67, .ref q_71, .ref q_75, .int 0, .int (-1), .int 0, .int 0, .int 0, .int 0, .int 0, .ref q_195, .ref q_199, .ref q_203, .ref q_207, .long 0, .int 0, .ref q_211, .ref q_215, .ref q_219, .int 0, .int 0, .int 0, .int 0, .ref q_223, .ref q_227, .ref q_231, .ref q_235, .ref q_239, .ref q_243, .ref q_247, .ref q_251, .ref q_255, .ref q_259, .int 0, .ref q_263, .ref q_267, .int 0, .ref q_271, .int 0, .ref q_275, .int 0, .int 0, .int 0, .int 0, .ref q_279])), (q_1, .inl (cA_2, 700, .inl (fun _ => 0))), (q_5, .inl (cA_6, 80, .inl (fun _ => 0))), (q_9, .inl (cA_10, 80, .inl (fun _ => 0))), (q_13, .inl (cA_14, 80, .inl (fun _ => 0))), (q_17, .inl (cA_18, 80, .inl (fun _ => 0))), (q_21, .inl (cA_22, 80, .inl (fun _ => 0))), (q_25, .inl (cA_26, 11520, .inl (fun _ => 0))), (q_29, .inl (cA_30, 12, .inl (fun _ => 0))), (q_33, .inl (cA_34, 144, .inl (fun _ => 0))), (q_37, .inl (cA_38, 12, .inl (fun _ => 0))), (q_41, .inl (cA_42, 12, .inl (fun _ => 0))), (q_45, .inl (cA_46, 12, .inl (fun _ => 0))), (q_51, .inl (cA_52, 10, .inl (fun _ => 0))), (q_55, .inl (cA_56, 10, .inl (fun _ => 0))), (q_59, .inl (cA_60, 120, .inl (fun _ => 0))), (q_63, .inl (cA_64, 6, .inl (fun _ => 0))), (q_67, .inl (cA_68, 6, .inl (fun _ => 0))), (q_71, .inl (cA_72, 24, .inl f_287)), (q_75, .inl (cA_76, 115, .inl (z_wk 115))), (q_195, .inl (cA_196, 48, .inl f_293)), (q_199, .inl (cA_200, 144, .inl (fun _ => 0))), (q_203, .inl (cA_204, 4, .inl (fun _ => 0))), (q_207, .inl (cA_208, 4, .inl (fun _ => 0))), (q_211, .inl (cA_212, 200, .inl (fun _ => 0))), (q_215, .inl (cA_216, 600, .inl (fun _ => 0))), (q_219, .inl (cA_220, 200, .inl (fun _ => 0))), (q_223, .inl (cA_224, 48, .inl (fun _ => 0))), (q_227, .inl (cA_228, 6, .inl (fun _ => 0))), (q_231, .inl (cA_232, 12, .inl (fun _ => 0))), (q_235, .inl (cA_236, 12, .inl (fun _ => 0))), (q_239, .inl (cA_240, 192, .inl (fun _ => 0))), (q_243, .inl (cA_244, 192, .inl (fun _ => 0))), (q_247, .inl (cA_248, 192, .inl (fun _ => 0))), (q_251, .inl (cA_252, 192, .inl (fun _ => 0))), (q_255, .inl (cA_256, 192, .inl (fun _ => 0))), (q_259, .inl (cA_260, 192, .inl (fun _ => 0))), (q_263, .inl (cA_264, 120, .inl (fun _ => 0))), (q_267, .inl (cA_268, 120, .inl (fun _ => 0))), (q_271, .inl (cA_272, 120, .inl (fun _ => 0))), (q_275, .inl (cA_276, 8, .inl (fun _ => 0))), (q_279, .inl (cA_280, 96, .inr (.inl (fun _ => 0))))] → va_S A s.heap H locs → lv_has ls 4 [(1, .int (nI j_290)), (0, .ref h0)] → W p l e ({ frames := 1, cells := 41, slots := 15997, locals := 12 } : Room) s m ([.ref h0] : List Value).toArray below meth c H locs 41 15997 QQ (F0 m 1068 ls []) := by
        intro n_291
        induction n_291 with
        | zero =>
          intro j_290 f_293 H locs ls hjn  hP hD hS hl
          obtain rfl : j_290 = 3 := by omega
          have hl : lv_has ls 4 [(1, .int 3), (0, .ref h0)] := hl
          refine lv_iload_n hx hb dX12_init_1068 rfl (lv_at hl 0 rfl) ?_
          refine lv_iconst (v := 3) hx hb dX12_init_1069 (by decide) ?_
          refine lv_icmp_ge (tgt := 1131) hx hb dX12_init_1070 (by decide) (fun _ => ?_) (fun c_294 => absurd (by decide) c_294)
          have hw_115 : ∀ j : Nat, j < 115 → (z_wk 115) j = z_words j := fun j h => if_pos h
          have hP := z_recell z_words hP 19 rfl hw_115
          have hD := z_redell (.inl (cA_76, 115, .inl z_words)) hD 19 rfl
          have h9 := z_s_19 hP hD
          clear hP hD
          obtain ⟨hP, hD⟩ := h9
          have hw_24 : ∀ j : Nat, j < 24 → f_287 j = (fun _ => 16) j := hinv
          have hP := z_recell (fun _ => 16) hP 18 rfl hw_24
          have hD := z_redell (.inl (cA_72, 24, .inl (fun _ => 16))) hD 18 rfl
          have h9 := z_s_18 hP hD
          clear hP hD
          obtain ⟨hP, hD⟩ := h9
          refine z_backQ hQQ ?_
          have hP9 := hP.sub (ws' := [(h0, .inr (12, [.ref q_1, .int 0, .int 0, .int 0, .int 0, .ref q_5, .ref q_9, .ref q_13, .ref q_17, .ref q_21, .ref q_25, .ref q_29, .ref q_33, .ref q_37, .ref q_41, .ref q_45, .int 0, .int 6, .int 6, .int 0, .ref q_51, .ref q_55, .ref q_59, .int 0, .ref q_63, .ref q_67, .ref q_71, .ref q_75, .int 0, .int (-1), .int 0, .int 0, .int 0, .int 0, .int 0, .ref q_195, .ref q_199, .ref q_203, .ref q_207, .long 0, .int 0, .ref q_211, .ref q_215, .ref q_219, .int 0, .int 0, .int 0, .int 0, .ref q_223, .ref q_227, .ref q_231, .ref q_235, .ref q_239, .ref q_243, .ref q_247, .ref q_251, .ref q_255, .ref q_259, .int 0, .ref q_263, .ref q_267, .int 0, .ref q_271, .int 0, .ref q_275, .int 0, .int 0, .int 0, .int 0, .ref q_279])), (q_1, .inl (cA_2, 700, .inl (fun _ => 0))), (q_5, .inl (cA_6, 80, .inl (fun _ => 0))), (q_9, .inl (cA_10, 80, .inl (fun _ => 0))), (q_13, .inl (cA_14, 80, .inl (fun _ => 0))), (q_17, .inl (cA_18, 80, .inl (fun _ => 0))), (q_21, .inl (cA_22, 80, .inl (fun _ => 0))), (q_25, .inl (cA_26, 11520, .inl (fun _ => 0))), (q_29, .inl (cA_30, 12, .inl (fun _ => 0))), (q_33, .inl (cA_34, 144, .inl (fun _ => 0))), (q_37, .inl (cA_38, 12, .inl (fun _ => 0))), (q_41, .inl (cA_42, 12, .inl (fun _ => 0))), (q_45, .inl (cA_46, 12, .inl (fun _ => 0))), (q_51, .inl (cA_52, 10, .inl (fun _ => 0))), (q_55, .inl (cA_56, 10, .inl (fun _ => 0))), (q_59, .inl (cA_60, 120, .inl (fun _ => 0))), (q_63, .inl (cA_64, 6, .inl (fun _ => 0))), (q_67, .inl (cA_68, 6, .inl (fun _ => 0))), (q_71, .inl (cA_72, 24, .inl (fun _ => 16))), (q_75, .inl (cA_76, 115, .inl z_words)), (q_195, .inl (cA_196, 48, .inl f_293)), (q_199, .inl (cA_200, 144, .inl (fun _ => 0))), (q_203, .inl (cA_204, 4, .inl (fun _ => 0))), (q_207, .inl (cA_208, 4, .inl (fun _ => 0))), (q_211, .inl (cA_212, 200, .inl (fun _ => 0))), (q_215, .inl (cA_216, 600, .inl (fun _ => 0))), (q_219, .inl (cA_220, 200, .inl (fun _ => 0))), (q_223, .inl (cA_224, 48, .inl (fun _ => 0))), (q_227, .inl (cA_228, 6, .inl (fun _ => 0))), (q_231, .inl (cA_232, 12, .inl (fun _ => 0))), (q_235, .inl (cA_236, 12, .inl (fun _ => 0))), (q_239, .inl (cA_240, 192, .inl (fun _ => 0))), (q_243, .inl (cA_244, 192, .inl (fun _ => 0))), (q_247, .inl (cA_248, 192, .inl (fun _ => 0))), (q_251, .inl (cA_252, 192, .inl (fun _ => 0))), (q_255, .inl (cA_256, 192, .inl (fun _ => 0))), (q_259, .inl (cA_260, 192, .inl (fun _ => 0))), (q_263, .inl (cA_264, 120, .inl (fun _ => 0))), (q_267, .inl (cA_268, 120, .inl (fun _ => 0))), (q_271, .inl (cA_272, 120, .inl (fun _ => 0))), (q_275, .inl (cA_276, 8, .inl (fun _ => 0))), (q_279, .inl (cA_280, 96, .inr (.inl (fun _ => 0))))]) [0, 1, 2, 3, 4, 5, 6, 7, 8, 9, 10, 11, 12, 13, 14, 15, 16, 17, 18, 19, 20, 21, 22, 23, 24, 25, 26, 27, 28, 29, 30, 31, 32, 33, 34, 35, 36, 37, 38, 39, 40, 41] rfl
          have hD9 := hD.sub (ws' := [(h0, .inr (12, [.ref q_1, .int 0, .int 0, .int 0, .int 0, .ref q_5, .ref q_9, .ref q_13, .ref q_17, .ref q_21, .ref q_25, .ref q_29, .ref q_33, .ref q_37, .ref q_41, .ref q_45, .int 0, .int 6, .int 6, .int 0, .ref q_51, .ref q_55, .ref q_59, .int 0, .ref q_63, .ref q_67, .ref q_71, .ref q_75, .int 0, .int (-1), .int 0, .int 0, .int 0, .int 0, .int 0, .ref q_195, .ref q_199, .ref q_203, .ref q_207, .long 0, .int 0, .ref q_211, .ref q_215, .ref q_219, .int 0, .int 0, .int 0, .int 0, .ref q_223, .ref q_227, .ref q_231, .ref q_235, .ref q_239, .ref q_243, .ref q_247, .ref q_251, .ref q_255, .ref q_259, .int 0, .ref q_263, .ref q_267, .int 0, .ref q_271, .int 0, .ref q_275, .int 0, .int 0, .int 0, .int 0, .ref q_279])), (q_1, .inl (cA_2, 700, .inl (fun _ => 0))), (q_5, .inl (cA_6, 80, .inl (fun _ => 0))), (q_9, .inl (cA_10, 80, .inl (fun _ => 0))), (q_13, .inl (cA_14, 80, .inl (fun _ => 0))), (q_17, .inl (cA_18, 80, .inl (fun _ => 0))), (q_21, .inl (cA_22, 80, .inl (fun _ => 0))), (q_25, .inl (cA_26, 11520, .inl (fun _ => 0))), (q_29, .inl (cA_30, 12, .inl (fun _ => 0))), (q_33, .inl (cA_34, 144, .inl (fun _ => 0))), (q_37, .inl (cA_38, 12, .inl (fun _ => 0))), (q_41, .inl (cA_42, 12, .inl (fun _ => 0))), (q_45, .inl (cA_46, 12, .inl (fun _ => 0))), (q_51, .inl (cA_52, 10, .inl (fun _ => 0))), (q_55, .inl (cA_56, 10, .inl (fun _ => 0))), (q_59, .inl (cA_60, 120, .inl (fun _ => 0))), (q_63, .inl (cA_64, 6, .inl (fun _ => 0))), (q_67, .inl (cA_68, 6, .inl (fun _ => 0))), (q_71, .inl (cA_72, 24, .inl (fun _ => 16))), (q_75, .inl (cA_76, 115, .inl z_words)), (q_195, .inl (cA_196, 48, .inl f_293)), (q_199, .inl (cA_200, 144, .inl (fun _ => 0))), (q_203, .inl (cA_204, 4, .inl (fun _ => 0))), (q_207, .inl (cA_208, 4, .inl (fun _ => 0))), (q_211, .inl (cA_212, 200, .inl (fun _ => 0))), (q_215, .inl (cA_216, 600, .inl (fun _ => 0))), (q_219, .inl (cA_220, 200, .inl (fun _ => 0))), (q_223, .inl (cA_224, 48, .inl (fun _ => 0))), (q_227, .inl (cA_228, 6, .inl (fun _ => 0))), (q_231, .inl (cA_232, 12, .inl (fun _ => 0))), (q_235, .inl (cA_236, 12, .inl (fun _ => 0))), (q_239, .inl (cA_240, 192, .inl (fun _ => 0))), (q_243, .inl (cA_244, 192, .inl (fun _ => 0))), (q_247, .inl (cA_248, 192, .inl (fun _ => 0))), (q_251, .inl (cA_252, 192, .inl (fun _ => 0))), (q_255, .inl (cA_256, 192, .inl (fun _ => 0))), (q_259, .inl (cA_260, 192, .inl (fun _ => 0))), (q_263, .inl (cA_264, 120, .inl (fun _ => 0))), (q_267, .inl (cA_268, 120, .inl (fun _ => 0))), (q_271, .inl (cA_272, 120, .inl (fun _ => 0))), (q_275, .inl (cA_276, 8, .inl (fun _ => 0))), (q_279, .inl (cA_280, 96, .inr (.inl (fun _ => 0))))]) [0, 1, 2, 3, 4, 5, 6, 7, 8, 9, 10, 11, 12, 13, 14, 15, 16, 17, 18, 19, 20, 21, 22, 23, 24, 25, 26, 27, 28, 29, 30, 31, 32, 33, 34, 35, 36, 37, 38, 39, 40, 41] (by decide) rfl
          have hK9 := hK.sub (tys' := [(cA_2, .int), (cA_6, .int), (cA_10, .int), (cA_14, .int), (cA_18, .int), (cA_22, .boolean), (cA_26, .int), (cA_30, .int), (cA_34, .boolean), (cA_38, .int), (cA_42, .int), (cA_46, .int), (cA_52, .int), (cA_56, .int), (cA_60, .int), (cA_64, .int), (cA_68, .int), (cA_72, .int), (cA_76, .int), (cA_196, .int), (cA_200, .int), (cA_204, .int), (cA_208, .int), (cA_212, .int), (cA_216, .int), (cA_220, .int), (cA_224, .int), (cA_228, .int), (cA_232, .int), (cA_236, .int), (cA_240, .int), (cA_244, .int), (cA_248, .int), (cA_252, .int), (cA_256, .boolean), (cA_260, .int), (cA_264, .int), (cA_268, .int), (cA_272, .int), (cA_276, .boolean), (cA_280, .long)]) [0, 1, 2, 3, 4, 5, 6, 7, 8, 9, 10, 11, 12, 13, 14, 15, 16, 17, 18, 19, 20, 21, 22, 23, 24, 25, 26, 27, 28, 29, 30, 31, 32, 33, 34, 35, 36, 37, 38, 39, 40] rfl
          refine W.widen (k := 41) (n := 15997) (Nat.le_of_ble_eq_true rfl) (Nat.le_of_ble_eq_true rfl) ?_
          exact W.vret hx hb hr (fun t ht hW => ⟨⟨(), rfl, trivial, ⟨q_1, cA_2, q_5, cA_6, q_9, cA_10, q_13, cA_14, q_17, cA_18, q_21, cA_22, q_25, cA_26, q_29, cA_30, q_33, cA_34, q_37, cA_38, q_41, cA_42, q_45, cA_46, q_51, cA_52, q_55, cA_56, q_59, cA_60, q_63, cA_64, q_67, cA_68, q_71, cA_72, q_75, cA_76, q_195, cA_196, f_293, q_199, cA_200, q_203, cA_204, q_207, cA_208, q_211, cA_212, q_215, cA_216, q_219, cA_220, q_223, cA_224, q_227, cA_228, q_231, cA_232, q_235, cA_236, q_239, cA_240, q_243, cA_244, q_247, cA_248, q_251, cA_252, q_255, cA_256, q_259, cA_260, q_263, cA_264, q_267, cA_268, q_271, cA_272, q_275, cA_276, q_279, cA_280, by rw [ht]; exact hP9, va_K.moved hW.alike hK9, hD9⟩⟩, hS.F ht⟩) hS.2.2 dX12_init_1131
        | succ n_291 ih_292 =>
          intro j_290 f_293 H locs ls hjn  hP hD hS hl
          have hj_295 : j_290 < 3 := by omega
          refine lv_iload_n hx hb dX12_init_1068 rfl (lv_at hl 0 rfl) ?_
          refine lv_iconst (v := 3) hx hb dX12_init_1069 (by decide) ?_
          refine lv_icmp_ge (tgt := 1131) hx hb dX12_init_1070 (by decide) (fun c_296 => ?_) (fun c_296 => ?_)
          · exfalso
            have k_297 := z_le c_296
            rw [nI_toInt (show j_290 < 2 ^ 31 by omega)] at k_297
            have k_297 : (3 : Int) ≤ ((j_290 : Nat) : Int) := k_297
            omega
          refine lv_iconst (v := 0) hx hb dX12_init_1073 (by decide) ?_
          refine lv_istore_n (lv' := [(2, .int 0), (1, .int (nI j_290)), (0, .ref h0)]) hx hb dX12_init_1074 rfl hl (by decide) rfl (fun ls hl => ?_)
          have loop_298 : ∀ (n_300 j_299 : Nat) (f_302 : Nat → Int32) (H : Heap) (locs : List Loc) (ls : Array Slot), j_299 + n_300 = 4 → va_P (dC, dI) vwCl [(h0, .inr (12, [.ref q_1, .int 0, .int 0, .int 0, .int 0, .ref q_5, .ref q_9, .ref q_13, .ref q_17, .ref q_21, .ref q_25, .ref q_29, .ref q_33, .ref q_37, .ref q_41, .ref q_45, .int 0, .int 6, .int 6, .int 0, .ref q_51, .ref q_55, .ref q_59, .int 0, .ref q_63, .ref q_67, .ref q_71, .ref q_75, .int 0, .int (-1), .int 0, .int 0, .int 0, .int 0, .int 0, .ref q_195, .ref q_199, .ref q_203, .ref q_207, .long 0, .int 0, .ref q_211, .ref q_215, .ref q_219, .int 0, .int 0, .int 0, .int 0, .ref q_223, .ref q_227, .ref q_231, .ref q_235, .ref q_239, .ref q_243, .ref q_247, .ref q_251, .ref q_255, .ref q_259, .int 0, .ref q_263, .ref q_267, .int 0, .ref q_271, .int 0, .ref q_275, .int 0, .int 0, .int 0, .int 0, .ref q_279])), (q_1, .inl (cA_2, 700, .inl (fun _ => 0))), (q_5, .inl (cA_6, 80, .inl (fun _ => 0))), (q_9, .inl (cA_10, 80, .inl (fun _ => 0))), (q_13, .inl (cA_14, 80, .inl (fun _ => 0))), (q_17, .inl (cA_18, 80, .inl (fun _ => 0))), (q_21, .inl (cA_22, 80, .inl (fun _ => 0))), (q_25, .inl (cA_26, 11520, .inl (fun _ => 0))), (q_29, .inl (cA_30, 12, .inl (fun _ => 0))), (q_33, .inl (cA_34, 144, .inl (fun _ => 0))), (q_37, .inl (cA_38, 12, .inl (fun _ => 0))), (q_41, .inl (cA_42, 12, .inl (fun _ => 0))), (q_45, .inl (cA_46, 12, .inl (fun _ => 0))), (q_51, .inl (cA_52, 10, .inl (fun _ => 0))), (q_55, .inl (cA_56, 10, .inl (fun _ => 0))), (q_59, .inl (cA_60, 120, .inl (fun _ => 0))), (q_63, .inl (cA_64, 6, .inl (fun _ => 0))), (q_67, .inl (cA_68, 6, .inl (fun _ => 0))), (q_71, .inl (cA_72, 24, .inl f_287)), (q_75, .inl (cA_76, 115, .inl (z_wk 115))), (q_195, .inl (cA_196, 48, .inl f_302)), (q_199, .inl (cA_200, 144, .inl (fun _ => 0))), (q_203, .inl (cA_204, 4, .inl (fun _ => 0))), (q_207, .inl (cA_208, 4, .inl (fun _ => 0))), (q_211, .inl (cA_212, 200, .inl (fun _ => 0))), (q_215, .inl (cA_216, 600, .inl (fun _ => 0))), (q_219, .inl (cA_220, 200, .inl (fun _ => 0))), (q_223, .inl (cA_224, 48, .inl (fun _ => 0))), (q_227, .inl (cA_228, 6, .inl (fun _ => 0))), (q_231, .inl (cA_232, 12, .inl (fun _ => 0))), (q_235, .inl (cA_236, 12, .inl (fun _ => 0))), (q_239, .inl (cA_240, 192, .inl (fun _ => 0))), (q_243, .inl (cA_244, 192, .inl (fun _ => 0))), (q_247, .inl (cA_248, 192, .inl (fun _ => 0))), (q_251, .inl (cA_252, 192, .inl (fun _ => 0))), (q_255, .inl (cA_256, 192, .inl (fun _ => 0))), (q_259, .inl (cA_260, 192, .inl (fun _ => 0))), (q_263, .inl (cA_264, 120, .inl (fun _ => 0))), (q_267, .inl (cA_268, 120, .inl (fun _ => 0))), (q_271, .inl (cA_272, 120, .inl (fun _ => 0))), (q_275, .inl (cA_276, 8, .inl (fun _ => 0))), (q_279, .inl (cA_280, 96, .inr (.inl (fun _ => 0))))] H → va_D A [(h0, .inr (12, [.ref q_1, .int 0, .int 0, .int 0, .int 0, .ref q_5, .ref q_9, .ref q_13, .ref q_17, .ref q_21, .ref q_25, .ref q_29, .ref q_33, .ref q_37, .ref q_41, .ref q_45, .int 0, .int 6, .int 6, .int 0, .ref q_51, .ref q_55, .ref q_59, .int 0, .ref q_63, .ref q_67, .ref q_71, .ref q_75, .int 0, .int (-1), .int 0, .int 0, .int 0, .int 0, .int 0, .ref q_195, .ref q_199, .ref q_203, .ref q_207, .long 0, .int 0, .ref q_211, .ref q_215, .ref q_219, .int 0, .int 0, .int 0, .int 0, .ref q_223, .ref q_227, .ref q_231, .ref q_235, .ref q_239, .ref q_243, .ref q_247, .ref q_251, .ref q_255, .ref q_259, .int 0, .ref q_263, .ref q_267, .int 0, .ref q_271, .int 0, .ref q_275, .int 0, .int 0, .int 0, .int 0, .ref q_279])), (q_1, .inl (cA_2, 700, .inl (fun _ => 0))), (q_5, .inl (cA_6, 80, .inl (fun _ => 0))), (q_9, .inl (cA_10, 80, .inl (fun _ => 0))), (q_13, .inl (cA_14, 80, .inl (fun _ => 0))), (q_17, .inl (cA_18, 80, .inl (fun _ => 0))), (q_21, .inl (cA_22, 80, .inl (fun _ => 0))), (q_25, .inl (cA_26, 11520, .inl (fun _ => 0))), (q_29, .inl (cA_30, 12, .inl (fun _ => 0))), (q_33, .inl (cA_34, 144, .inl (fun _ => 0))), (q_37, .inl (cA_38, 12, .inl (fun _ => 0))), (q_41, .inl (cA_42, 12, .inl (fun _ => 0))), (q_45, .inl (cA_46, 12, .inl (fun _ => 0))), (q_51, .inl (cA_52, 10, .inl (fun _ => 0))), (q_55, .inl (cA_56, 10, .inl (fun _ => 0))), (q_59, .inl (cA_60, 120, .inl (fun _ => 0))), (q_63, .inl (cA_64, 6, .inl (fun _ => 0))), (q_67, .inl (cA_68, 6, .inl (fun _ => 0))), (q_71, .inl (cA_72, 24, .inl f_287)), (q_75, .inl (cA_76, 115, .inl (z_wk 115))), (q_195, .inl (cA_196, 48, .inl f_302)), (q_199, .inl (cA_200, 144, .inl (fun _ => 0))), (q_203, .inl (cA_204, 4, .inl (fun _ => 0))), (q_207, .inl (cA_208, 4, .inl (fun _ => 0))), (q_211, .inl (cA_212, 200, .inl (fun _ => 0))), (q_215, .inl (cA_216, 600, .inl (fun _ => 0))), (q_219, .inl (cA_220, 200, .inl (fun _ => 0))), (q_223, .inl (cA_224, 48, .inl (fun _ => 0))), (q_227, .inl (cA_228, 6, .inl (fun _ => 0))), (q_231, .inl (cA_232, 12, .inl (fun _ => 0))), (q_235, .inl (cA_236, 12, .inl (fun _ => 0))), (q_239, .inl (cA_240, 192, .inl (fun _ => 0))), (q_243, .inl (cA_244, 192, .inl (fun _ => 0))), (q_247, .inl (cA_248, 192, .inl (fun _ => 0))), (q_251, .inl (cA_252, 192, .inl (fun _ => 0))), (q_255, .inl (cA_256, 192, .inl (fun _ => 0))), (q_259, .inl (cA_260, 192, .inl (fun _ => 0))), (q_263, .inl (cA_264, 120, .inl (fun _ => 0))), (q_267, .inl (cA_268, 120, .inl (fun _ => 0))), (q_271, .inl (cA_272, 120, .inl (fun _ => 0))), (q_275, .inl (cA_276, 8, .inl (fun _ => 0))), (q_279, .inl (cA_280, 96, .inr (.inl (fun _ => 0))))] → va_S A s.heap H locs → lv_has ls 4 [(2, .int (nI j_299)), (1, .int (nI j_290)), (0, .ref h0)] → W p l e ({ frames := 1, cells := 41, slots := 15997, locals := 12 } : Room) s m ([.ref h0] : List Value).toArray below meth c H locs 41 15997 QQ (F0 m 1075 ls []) := by
            intro n_300
            induction n_300 with
            | zero =>
              intro j_299 f_302 H locs ls hjn  hP hD hS hl
              obtain rfl : j_299 = 4 := by omega
              have hl : lv_has ls 4 [(2, .int 4), (1, .int (nI j_290)), (0, .ref h0)] := hl
              refine lv_iload_n hx hb dX12_init_1075 rfl (lv_at hl 0 rfl) ?_
              refine lv_iconst (v := 4) hx hb dX12_init_1076 (by decide) ?_
              refine lv_icmp_ge (tgt := 1125) hx hb dX12_init_1077 (by decide) (fun _ => ?_) (fun c_303 => absurd (by decide) c_303)
              refine lv_iinc (v := (nI (j_290 + 1))) (lv' := [(1, .int (nI (j_290 + 1))), (2, .int 4), (0, .ref h0)]) hx hb dX12_init_1125 hl (k := 1) rfl (nI_1 j_290) (by decide) rfl (fun ls hl => ?_)
              refine lv_goto (tgt := 1068) hx hb dX12_init_1128 (by decide) ?_
              exact ih_292 (j_290 + 1) _ _ _ _ (by omega)  hP hD hS (lv_sub hl [0, 2] rfl)
            | succ n_300 ih_301 =>
              intro j_299 f_302 H locs ls hjn  hP hD hS hl
              have hj_304 : j_299 < 4 := by omega
              refine lv_iload_n hx hb dX12_init_1075 rfl (lv_at hl 0 rfl) ?_
              refine lv_iconst (v := 4) hx hb dX12_init_1076 (by decide) ?_
              refine lv_icmp_ge (tgt := 1125) hx hb dX12_init_1077 (by decide) (fun c_305 => ?_) (fun c_305 => ?_)
              · exfalso
                have k_306 := z_le c_305
                rw [nI_toInt (show j_299 < 2 ^ 31 by omega)] at k_306
                have k_306 : (4 : Int) ≤ ((j_299 : Nat) : Int) := k_306
                omega
              refine lv_iconst (v := 0) hx hb dX12_init_1080 (by decide) ?_
              refine lv_istore_n (lv' := [(3, .int 0), (2, .int (nI j_299)), (1, .int (nI j_290)), (0, .ref h0)]) hx hb dX12_init_1081 rfl hl (by decide) rfl (fun ls hl => ?_)
              have loop_307 : ∀ (n_309 j_308 : Nat) (f_311 : Nat → Int32) (H : Heap) (locs : List Loc) (ls : Array Slot), j_308 + n_309 = 4 → va_P (dC, dI) vwCl [(h0, .inr (12, [.ref q_1, .int 0, .int 0, .int 0, .int 0, .ref q_5, .ref q_9, .ref q_13, .ref q_17, .ref q_21, .ref q_25, .ref q_29, .ref q_33, .ref q_37, .ref q_41, .ref q_45, .int 0, .int 6, .int 6, .int 0, .ref q_51, .ref q_55, .ref q_59, .int 0, .ref q_63, .ref q_67, .ref q_71, .ref q_75, .int 0, .int (-1), .int 0, .int 0, .int 0, .int 0, .int 0, .ref q_195, .ref q_199, .ref q_203, .ref q_207, .long 0, .int 0, .ref q_211, .ref q_215, .ref q_219, .int 0, .int 0, .int 0, .int 0, .ref q_223, .ref q_227, .ref q_231, .ref q_235, .ref q_239, .ref q_243, .ref q_247, .ref q_251, .ref q_255, .ref q_259, .int 0, .ref q_263, .ref q_267, .int 0, .ref q_271, .int 0, .ref q_275, .int 0, .int 0, .int 0, .int 0, .ref q_279])), (q_1, .inl (cA_2, 700, .inl (fun _ => 0))), (q_5, .inl (cA_6, 80, .inl (fun _ => 0))), (q_9, .inl (cA_10, 80, .inl (fun _ => 0))), (q_13, .inl (cA_14, 80, .inl (fun _ => 0))), (q_17, .inl (cA_18, 80, .inl (fun _ => 0))), (q_21, .inl (cA_22, 80, .inl (fun _ => 0))), (q_25, .inl (cA_26, 11520, .inl (fun _ => 0))), (q_29, .inl (cA_30, 12, .inl (fun _ => 0))), (q_33, .inl (cA_34, 144, .inl (fun _ => 0))), (q_37, .inl (cA_38, 12, .inl (fun _ => 0))), (q_41, .inl (cA_42, 12, .inl (fun _ => 0))), (q_45, .inl (cA_46, 12, .inl (fun _ => 0))), (q_51, .inl (cA_52, 10, .inl (fun _ => 0))), (q_55, .inl (cA_56, 10, .inl (fun _ => 0))), (q_59, .inl (cA_60, 120, .inl (fun _ => 0))), (q_63, .inl (cA_64, 6, .inl (fun _ => 0))), (q_67, .inl (cA_68, 6, .inl (fun _ => 0))), (q_71, .inl (cA_72, 24, .inl f_287)), (q_75, .inl (cA_76, 115, .inl (z_wk 115))), (q_195, .inl (cA_196, 48, .inl f_311)), (q_199, .inl (cA_200, 144, .inl (fun _ => 0))), (q_203, .inl (cA_204, 4, .inl (fun _ => 0))), (q_207, .inl (cA_208, 4, .inl (fun _ => 0))), (q_211, .inl (cA_212, 200, .inl (fun _ => 0))), (q_215, .inl (cA_216, 600, .inl (fun _ => 0))), (q_219, .inl (cA_220, 200, .inl (fun _ => 0))), (q_223, .inl (cA_224, 48, .inl (fun _ => 0))), (q_227, .inl (cA_228, 6, .inl (fun _ => 0))), (q_231, .inl (cA_232, 12, .inl (fun _ => 0))), (q_235, .inl (cA_236, 12, .inl (fun _ => 0))), (q_239, .inl (cA_240, 192, .inl (fun _ => 0))), (q_243, .inl (cA_244, 192, .inl (fun _ => 0))), (q_247, .inl (cA_248, 192, .inl (fun _ => 0))), (q_251, .inl (cA_252, 192, .inl (fun _ => 0))), (q_255, .inl (cA_256, 192, .inl (fun _ => 0))), (q_259, .inl (cA_260, 192, .inl (fun _ => 0))), (q_263, .inl (cA_264, 120, .inl (fun _ => 0))), (q_267, .inl (cA_268, 120, .inl (fun _ => 0))), (q_271, .inl (cA_272, 120, .inl (fun _ => 0))), (q_275, .inl (cA_276, 8, .inl (fun _ => 0))), (q_279, .inl (cA_280, 96, .inr (.inl (fun _ => 0))))] H → va_D A [(h0, .inr (12, [.ref q_1, .int 0, .int 0, .int 0, .int 0, .ref q_5, .ref q_9, .ref q_13, .ref q_17, .ref q_21, .ref q_25, .ref q_29, .ref q_33, .ref q_37, .ref q_41, .ref q_45, .int 0, .int 6, .int 6, .int 0, .ref q_51, .ref q_55, .ref q_59, .int 0, .ref q_63, .ref q_67, .ref q_71, .ref q_75, .int 0, .int (-1), .int 0, .int 0, .int 0, .int 0, .int 0, .ref q_195, .ref q_199, .ref q_203, .ref q_207, .long 0, .int 0, .ref q_211, .ref q_215, .ref q_219, .int 0, .int 0, .int 0, .int 0, .ref q_223, .ref q_227, .ref q_231, .ref q_235, .ref q_239, .ref q_243, .ref q_247, .ref q_251, .ref q_255, .ref q_259, .int 0, .ref q_263, .ref q_267, .int 0, .ref q_271, .int 0, .ref q_275, .int 0, .int 0, .int 0, .int 0, .ref q_279])), (q_1, .inl (cA_2, 700, .inl (fun _ => 0))), (q_5, .inl (cA_6, 80, .inl (fun _ => 0))), (q_9, .inl (cA_10, 80, .inl (fun _ => 0))), (q_13, .inl (cA_14, 80, .inl (fun _ => 0))), (q_17, .inl (cA_18, 80, .inl (fun _ => 0))), (q_21, .inl (cA_22, 80, .inl (fun _ => 0))), (q_25, .inl (cA_26, 11520, .inl (fun _ => 0))), (q_29, .inl (cA_30, 12, .inl (fun _ => 0))), (q_33, .inl (cA_34, 144, .inl (fun _ => 0))), (q_37, .inl (cA_38, 12, .inl (fun _ => 0))), (q_41, .inl (cA_42, 12, .inl (fun _ => 0))), (q_45, .inl (cA_46, 12, .inl (fun _ => 0))), (q_51, .inl (cA_52, 10, .inl (fun _ => 0))), (q_55, .inl (cA_56, 10, .inl (fun _ => 0))), (q_59, .inl (cA_60, 120, .inl (fun _ => 0))), (q_63, .inl (cA_64, 6, .inl (fun _ => 0))), (q_67, .inl (cA_68, 6, .inl (fun _ => 0))), (q_71, .inl (cA_72, 24, .inl f_287)), (q_75, .inl (cA_76, 115, .inl (z_wk 115))), (q_195, .inl (cA_196, 48, .inl f_311)), (q_199, .inl (cA_200, 144, .inl (fun _ => 0))), (q_203, .inl (cA_204, 4, .inl (fun _ => 0))), (q_207, .inl (cA_208, 4, .inl (fun _ => 0))), (q_211, .inl (cA_212, 200, .inl (fun _ => 0))), (q_215, .inl (cA_216, 600, .inl (fun _ => 0))), (q_219, .inl (cA_220, 200, .inl (fun _ => 0))), (q_223, .inl (cA_224, 48, .inl (fun _ => 0))), (q_227, .inl (cA_228, 6, .inl (fun _ => 0))), (q_231, .inl (cA_232, 12, .inl (fun _ => 0))), (q_235, .inl (cA_236, 12, .inl (fun _ => 0))), (q_239, .inl (cA_240, 192, .inl (fun _ => 0))), (q_243, .inl (cA_244, 192, .inl (fun _ => 0))), (q_247, .inl (cA_248, 192, .inl (fun _ => 0))), (q_251, .inl (cA_252, 192, .inl (fun _ => 0))), (q_255, .inl (cA_256, 192, .inl (fun _ => 0))), (q_259, .inl (cA_260, 192, .inl (fun _ => 0))), (q_263, .inl (cA_264, 120, .inl (fun _ => 0))), (q_267, .inl (cA_268, 120, .inl (fun _ => 0))), (q_271, .inl (cA_272, 120, .inl (fun _ => 0))), (q_275, .inl (cA_276, 8, .inl (fun _ => 0))), (q_279, .inl (cA_280, 96, .inr (.inl (fun _ => 0))))] → va_S A s.heap H locs → lv_has ls 4 [(3, .int (nI j_308)), (2, .int (nI j_299)), (1, .int (nI j_290)), (0, .ref h0)] → W p l e ({ frames := 1, cells := 41, slots := 15997, locals := 12 } : Room) s m ([.ref h0] : List Value).toArray below meth c H locs 41 15997 QQ (F0 m 1082 ls []) := by
                intro n_309
                induction n_309 with
                | zero =>
                  intro j_308 f_311 H locs ls hjn  hP hD hS hl
                  obtain rfl : j_308 = 4 := by omega
                  have hl : lv_has ls 4 [(3, .int 4), (2, .int (nI j_299)), (1, .int (nI j_290)), (0, .ref h0)] := hl
                  refine lv_iload_n hx hb dX12_init_1082 rfl (lv_at hl 0 rfl) ?_
                  refine lv_iconst (v := 4) hx hb dX12_init_1083 (by decide) ?_
                  refine lv_icmp_ge (tgt := 1119) hx hb dX12_init_1084 (by decide) (fun _ => ?_) (fun c_312 => absurd (by decide) c_312)
                  refine lv_iinc (v := (nI (j_299 + 1))) (lv' := [(2, .int (nI (j_299 + 1))), (3, .int 4), (1, .int (nI j_290)), (0, .ref h0)]) hx hb dX12_init_1119 hl (k := 1) rfl (nI_1 j_299) (by decide) rfl (fun ls hl => ?_)
                  refine lv_goto (tgt := 1075) hx hb dX12_init_1122 (by decide) ?_
                  exact ih_301 (j_299 + 1) _ _ _ _ (by omega)  hP hD hS (lv_sub hl [0, 2, 3] rfl)
                | succ n_309 ih_310 =>
                  intro j_308 f_311 H locs ls hjn  hP hD hS hl
                  have hj_313 : j_308 < 4 := by omega
                  refine lv_iload_n hx hb dX12_init_1082 rfl (lv_at hl 0 rfl) ?_
                  refine lv_iconst (v := 4) hx hb dX12_init_1083 (by decide) ?_
                  refine lv_icmp_ge (tgt := 1119) hx hb dX12_init_1084 (by decide) (fun c_314 => ?_) (fun c_314 => ?_)
                  · exfalso
                    have k_315 := z_le c_314
                    rw [nI_toInt (show j_308 < 2 ^ 31 by omega)] at k_315
                    have k_315 : (4 : Int) ≤ ((j_308 : Nat) : Int) := k_315
                    omega
                  refine lv_aload_n hx hb dX12_init_1087 rfl (lv_at hl 3 rfl) ?_
                  refine va_get (D := (dC, dI)) (ci := 12) (v := .ref q_195) (C := RX12) (T := TX12) (N := 70) hx hb hts hiX12 hown hK hP 0 rfl rfl 35 (by decide) w__fieldLink_RX12_78_ShellHeapModel_reads_I_ (fun _ h9 => h9) rfl dX12_init_1088 ?_
                  refine lv_bipush (v := 16) hx hb dX12_init_1091 (by decide) ?_
                  refine lv_iload_n hx hb dX12_init_1093 rfl (lv_at hl 2 rfl) ?_
                  refine lv_imul hx hb dX12_init_1094 ?_
                  refine lv_topi (fun x_316 e_317 => ?_)
                  obtain rfl : x_316 = (nI (16 * j_290)) := e_317.trans (pk_mul 16 j_290)
                  refine lv_iconst (v := 4) hx hb dX12_init_1095 (by decide) ?_
                  refine lv_iload_n hx hb dX12_init_1096 rfl (lv_at hl 1 rfl) ?_
                  refine lv_imul hx hb dX12_init_1097 ?_
                  refine lv_topi (fun x_318 e_319 => ?_)
                  obtain rfl : x_318 = (nI (4 * j_299)) := e_319.trans (pk_mul 4 j_299)
                  refine lv_iadd hx hb dX12_init_1098 ?_
                  refine lv_topi (fun x_320 e_321 => ?_)
                  obtain rfl : x_320 = (nI ((16 * j_290) + (4 * j_299))) := e_321.trans (nI_add (16 * j_290) (4 * j_299))
                  refine lv_iload_n hx hb dX12_init_1099 rfl (lv_at hl 0 rfl) ?_
                  refine lv_iadd hx hb dX12_init_1100 ?_
                  refine lv_topi (fun x_322 e_323 => ?_)
                  obtain rfl : x_322 = (nI (((16 * j_290) + (4 * j_299)) + j_308)) := e_323.trans (nI_add ((16 * j_290) + (4 * j_299)) j_308)
                  refine lv_iload_n hx hb dX12_init_1101 rfl (lv_at hl 1 rfl) ?_
                  refine lv_iload_n hx hb dX12_init_1102 rfl (lv_at hl 0 rfl) ?_
                  refine lv_icmp_ne (tgt := 1111) hx hb dX12_init_1103 (by decide) (fun c_324 => ?_) (fun c_324 => ?_)
                  · have k_325 := z_ne c_324
                    rw [nI_toInt (show j_299 < 2 ^ 31 by omega), nI_toInt (show j_308 < 2 ^ 31 by omega)] at k_325
                    refine lv_iconst (v := 0) hx hb dX12_init_1111 (by decide) ?_
                    refine va_iast hx hb hK hP hD hS 20 19 rfl rfl (vp_in_nI (show ((16 * j_290) + (4 * j_299)) + j_308 < 48 by omega) (by decide)) dX12_init_1112 (fun H_326 locs hP hD hS => ?_)
                    have h9 := z_s_20 hP hD
                    clear hP hD
                    obtain ⟨hP, hD⟩ := h9
                    generalize (upd f_311 ((nI (((16 * j_290) + (4 * j_299)) + j_308)) : Int32).toNatClampNeg 0) = f_327 at hP hD
                    refine lv_iinc (v := (nI (j_308 + 1))) (lv' := [(3, .int (nI (j_308 + 1))), (2, .int (nI j_299)), (1, .int (nI j_290)), (0, .ref h0)]) hx hb dX12_init_1113 hl (k := 0) rfl (nI_1 j_308) (by decide) rfl (fun ls hl => ?_)
                    refine lv_goto (tgt := 1082) hx hb dX12_init_1116 (by decide) ?_
                    exact ih_310 (j_308 + 1) _ _ _ _ (by omega)  hP hD hS (lv_sub hl [0, 1, 2, 3] rfl)
                  · have k_328 := z_eq c_324
                    rw [nI_toInt (show j_299 < 2 ^ 31 by omega), nI_toInt (show j_308 < 2 ^ 31 by omega)] at k_328
                    refine lv_bipush (v := 16) hx hb dX12_init_1106 (by decide) ?_
                    refine lv_goto (tgt := 1112) hx hb dX12_init_1108 (by decide) ?_
                    refine va_iast hx hb hK hP hD hS 20 19 rfl rfl (vp_in_nI (show ((16 * j_290) + (4 * j_299)) + j_308 < 48 by omega) (by decide)) dX12_init_1112 (fun H_329 locs hP hD hS => ?_)
                    have h9 := z_s_20 hP hD
                    clear hP hD
                    obtain ⟨hP, hD⟩ := h9
                    generalize (upd f_311 ((nI (((16 * j_290) + (4 * j_299)) + j_308)) : Int32).toNatClampNeg 16) = f_330 at hP hD
                    refine lv_iinc (v := (nI (j_308 + 1))) (lv' := [(3, .int (nI (j_308 + 1))), (2, .int (nI j_299)), (1, .int (nI j_290)), (0, .ref h0)]) hx hb dX12_init_1113 hl (k := 0) rfl (nI_1 j_308) (by decide) rfl (fun ls hl => ?_)
                    refine lv_goto (tgt := 1082) hx hb dX12_init_1116 (by decide) ?_
                    exact ih_310 (j_308 + 1) _ _ _ _ (by omega)  hP hD hS (lv_sub hl [0, 1, 2, 3] rfl)
              exact loop_307 4 0 _ _ _ _ (by omega)  hP hD hS hl
          exact loop_298 4 0 _ _ _ _ (by omega)  hP hD hS hl
      exact loop_289 3 0 _ _ _ _ (by omega)  hP hD hS hl
    | succ n_285 ih_286 =>
      intro j_284 f_287 H locs ls hjn hinv hP hD hS hl
      have hj_331 : j_284 < 24 := by omega
      refine lv_iload_n hx hb dX12_init_1046 rfl (lv_at hl 0 rfl) ?_
      refine lv_bipush (v := 24) hx hb dX12_init_1047 (by decide) ?_
      refine lv_icmp_ge (tgt := 1066) hx hb dX12_init_1049 (by decide) (fun c_332 => ?_) (fun c_332 => ?_)
      · exfalso
        have k_333 := z_le c_332
        rw [nI_toInt (show j_284 < 2 ^ 31 by omega)] at k_333
        have k_333 : (24 : Int) ≤ ((j_284 : Nat) : Int) := k_333
        omega
      refine lv_aload_n hx hb dX12_init_1052 rfl (lv_at hl 1 rfl) ?_
      refine va_get (D := (dC, dI)) (ci := 12) (v := .ref q_71) (C := RX12) (T := TX12) (N := 70) hx hb hts hiX12 hown hK hP 0 rfl rfl 26 (by decide) w__fieldLink_RX12_69_ShellHeapModel_keptOf_I_ (fun _ h9 => h9) rfl dX12_init_1053 ?_
      refine lv_iload_n hx hb dX12_init_1056 rfl (lv_at hl 0 rfl) ?_
      refine lv_bipush (v := 16) hx hb dX12_init_1057 (by decide) ?_
      refine va_iast hx hb hK hP hD hS 18 17 rfl rfl (vp_in_nI (show j_284 < 24 by omega) (by decide)) dX12_init_1059 (fun H_334 locs hP hD hS => ?_)
      have h9 := z_s_18 hP hD
      clear hP hD
      obtain ⟨hP, hD⟩ := h9
      generalize ef_335 : (upd f_287 ((nI j_284) : Int32).toNatClampNeg 16) = f_335 at hP hD
      refine lv_iinc (v := (nI (j_284 + 1))) (lv' := [(1, .int (nI (j_284 + 1))), (0, .ref h0)]) hx hb dX12_init_1060 hl (k := 0) rfl (nI_1 j_284) (by decide) rfl (fun ls hl => ?_)
      refine lv_goto (tgt := 1046) hx hb dX12_init_1063 (by decide) ?_
      exact ih_286 (j_284 + 1) _ _ _ _ (by omega) (z_inv hinv ef_335.symm (by omega)) hP hD hS (lv_sub hl [0, 1] rfl)
  exact loop_283 24 0 _ _ _ _ (by omega) (fun i h => absurd h (Nat.not_lt_zero i)) hP hD hS hl
