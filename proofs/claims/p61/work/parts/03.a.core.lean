/-! THE PROVER'S OWN LAYER: a judgement that hides the machine's context. A world is a partial map from addresses to entries (Hp) and the heap's size. -/
section GCORE
abbrev Hp : Type := Nat → Option va_E
/-- launch, tables, first own address, array classes, fixed addresses (9: the script's, 10: its length), String constants' addresses, their byte arrays, the script -/
abbrev Gm : Type := Launch × va_G × Nat × (Nat → ClassId) × (Nat → Nat) × (Nat → Nat) × (Nat → Nat) × (Nat → Int32)
abbrev gD (Γ : Gm) : va_G := Γ.2.1
abbrev gB (Γ : Gm) : Nat := Γ.2.2.1
abbrev gA (Γ : Gm) : Nat → ClassId := Γ.2.2.2.1
abbrev gF (Γ : Gm) : Nat → Nat := Γ.2.2.2.2.1
abbrev gK (Γ : Gm) : Nat → Nat := Γ.2.2.2.2.2.1
abbrev gV (Γ : Gm) : Nat → Nat := Γ.2.2.2.2.2.2.1
abbrev gX (Γ : Gm) : Nat → Int32 := Γ.2.2.2.2.2.2.2
def AB (Γ : Gm) : Nat → Prop := fun q => gB Γ ≤ q
/-- private methods of StringBuilder's super class, as a StringBuilder has them -/
def gSel : List Cond := [Cond.selects "java/lang/StringBuilder" ⟨"java/lang/AbstractStringBuilder", "ensureCapacityInternal", "(I)V"⟩ ⟨"java/lang/AbstractStringBuilder", "ensureCapacityInternal", "(I)V"⟩, Cond.selects "java/lang/StringBuilder" ⟨"java/lang/AbstractStringBuilder", "newCapacity", "(I)I"⟩ ⟨"java/lang/AbstractStringBuilder", "newCapacity", "(I)I"⟩, Cond.selects "java/lang/StringBuilder" ⟨"java/lang/AbstractStringBuilder", "inflate", "()V"⟩ ⟨"java/lang/AbstractStringBuilder", "inflate", "()V"⟩, Cond.selects "java/lang/StringBuilder" ⟨"java/lang/AbstractStringBuilder", "appendNull", "()Ljava/lang/AbstractStringBuilder;"⟩ ⟨"java/lang/AbstractStringBuilder", "appendNull", "()Ljava/lang/AbstractStringBuilder;"⟩, Cond.selects "java/lang/StringBuilder" ⟨"java/lang/AbstractStringBuilder", "putStringAt", "(ILjava/lang/String;)V"⟩ ⟨"java/lang/AbstractStringBuilder", "putStringAt", "(ILjava/lang/String;)V"⟩, Cond.selects "java/lang/StringBuilder" ⟨"java/lang/AbstractStringBuilder", "inflateIfNeededFor", "(Ljava/lang/String;)V"⟩ ⟨"java/lang/AbstractStringBuilder", "inflateIfNeededFor", "(Ljava/lang/String;)V"⟩]
/-- the words that every method may use -/
def wl : List Cond := (gSel ++ lw_tbl).filter goodWord
theorem wl_sel {w : Cond} (i : Nat) (h : gSel[i]? = some w) (hg : goodWord w = true) : w ∈ wl := List.mem_filter.mpr ⟨List.mem_append_left _ (List.mem_of_getElem? h), hg⟩
theorem wl_in {w : Cond} (i : Nat) (h : tables_1[i]? = some w) (hg : goodWord w = true) : w ∈ wl := List.mem_filter.mpr ⟨List.mem_append_right _ (List.mem_append_right _ (List.mem_of_getElem? h)), hg⟩
theorem wl_1 {w : Cond} (i : Nat) (h : tables_1_1[i]? = some w) (hg : goodWord w = true) : w ∈ wl := List.mem_filter.mpr ⟨List.mem_append_right _ (List.mem_append_right _ (List.mem_append_left _ (List.mem_of_getElem? h))), hg⟩
theorem wl_2 {w : Cond} (i : Nat) (h : tables_1_2[i]? = some w) (hg : goodWord w = true) : w ∈ wl := List.mem_filter.mpr ⟨List.mem_append_right _ (List.mem_append_right _ (List.mem_append_right _ (List.mem_append_left _ (List.mem_of_getElem? h)))), hg⟩
theorem wl_3 {w : Cond} (i : Nat) (h : tables_1_3[i]? = some w) (hg : goodWord w = true) : w ∈ wl := List.mem_filter.mpr ⟨List.mem_append_right _ (List.mem_append_right _ (List.mem_append_right _ (List.mem_append_right _ (List.mem_append_left _ (List.mem_of_getElem? h))))), hg⟩
theorem wl_4 {w : Cond} (i : Nat) (h : tables_1_4[i]? = some w) (hg : goodWord w = true) : w ∈ wl := List.mem_filter.mpr ⟨List.mem_append_right _ (List.mem_append_right _ (List.mem_append_right _ (List.mem_append_right _ (List.mem_append_right _ (List.mem_append_left _ (List.mem_of_getElem? h)))))), hg⟩
theorem wl_5 {w : Cond} (i : Nat) (h : tables_1_5[i]? = some w) (hg : goodWord w = true) : w ∈ wl := List.mem_filter.mpr ⟨List.mem_append_right _ (List.mem_append_right _ (List.mem_append_right _ (List.mem_append_right _ (List.mem_append_right _ (List.mem_append_right _ (List.mem_append_left _ (List.mem_of_getElem? h))))))), hg⟩
theorem wl_6 {w : Cond} (i : Nat) (h : tables_1_6[i]? = some w) (hg : goodWord w = true) : w ∈ wl := List.mem_filter.mpr ⟨List.mem_append_right _ (List.mem_append_right _ (List.mem_append_right _ (List.mem_append_right _ (List.mem_append_right _ (List.mem_append_right _ (List.mem_append_right _ (List.mem_of_getElem? h))))))), hg⟩
theorem wl_inp {w : Cond} (i : Nat) (h : (k2_sels lw_privs)[i]? = some w) (hg : goodWord w = true) : w ∈ wl := List.mem_filter.mpr ⟨List.mem_append_right _ (List.mem_append_left _ (List.mem_of_getElem? h)), hg⟩
theorem wl_good : GoodIn wl wl := fun w h => ⟨h, good_of_word (List.mem_filter.mp h).2⟩
theorem wl_cons {w : Cond} (h : w ∈ wl) : GoodIn wl (w :: wl) := fun z hz => by
  rcases List.mem_cons.mp hz with rfl | hz
  · exact wl_good _ h
  · exact wl_good _ hz
def gtys (Γ : Gm) : List (ClassId × FieldType) := [(gA Γ 0, .int), (gA Γ 1, .byte), (gA Γ 2, .boolean), (gA Γ 3, .int), (gA Γ 4, .int), (gA Γ 5, .object "AccentHouse$Lodger"), (gA Γ 6, .object "AccentHouse$House")]
/-- statics -/
def gzs (Γ : Gm) : List (String × String × String × Value) := [("AccentHouse$Token", "END", "LAccentHouse$Token;", .ref (gF Γ 0)), ("AccentHouse$Token", "WORD", "LAccentHouse$Token;", .ref (gF Γ 1)), ("AccentHouse$Token", "NUMBER", "LAccentHouse$Token;", .ref (gF Γ 2)), ("AccentHouse$Token", "SEMICOLON", "LAccentHouse$Token;", .ref (gF Γ 3)), ("AccentHouse$Token", "WRONG", "LAccentHouse$Token;", .ref (gF Γ 4)), ("java/lang/String", "COMPACT_STRINGS", "Z", .int 1), ("java/lang/Integer", "DigitOnes", "[B", .ref (gF Γ 5)), ("java/lang/Integer", "DigitTens", "[B", .ref (gF Γ 6)), ("jdk/internal/util/Preconditions", "SIOOBE_FORMATTER", "Ljava/util/function/BiFunction;", if gF Γ 7 = 0 then .null else .ref (gF Γ 8))]
def gOnes (j : Nat) : Value := .int (nI (48 + j % 10))
def gTens (j : Nat) : Value := .int (nI (48 + j / 10))
/-- String constants: class, entry, text, bytes -/
def gstrs : List (String × Nat × String × List Int32) := [
  ("AccentHouse$Lodger", 7, "", []),
  ("AccentHouse", 58, "house 5 6; landlady 4 4 4 4 4; lodger ann 0 20 4 4 4 4 6; lodger bob 0 3 0 4 4 4 4; lodger cid 1 0 9 9 0 0 4; lodger dot 1 40 9 8 0 1 4; days 1", [104, 111, 117, 115, 101, 32, 53, 32, 54, 59, 32, 108, 97, 110, 100, 108, 97, 100, 121, 32, 52, 32, 52, 32, 52, 32, 52, 32, 52, 59, 32, 108, 111, 100, 103, 101, 114, 32, 97, 110, 110, 32, 48, 32, 50, 48, 32, 52, 32, 52, 32, 52, 32, 52, 32, 54, 59, 32, 108, 111, 100, 103, 101, 114, 32, 98, 111, 98, 32, 48, 32, 51, 32, 48, 32, 52, 32, 52, 32, 52, 32, 52, 59, 32, 108, 111, 100, 103, 101, 114, 32, 99, 105, 100, 32, 49, 32, 48, 32, 57, 32, 57, 32, 48, 32, 48, 32, 52, 59, 32, 108, 111, 100, 103, 101, 114, 32, 100, 111, 116, 32, 49, 32, 52, 48, 32, 57, 32, 56, 32, 48, 32, 49, 32, 52, 59, 32, 100, 97, 121, 115, 32, 49]),
  ("AccentHouse$Parser", 91, "house", [104, 111, 117, 115, 101]),
  ("AccentHouse$Parser", 100, "landlady", [108, 97, 110, 100, 108, 97, 100, 121]),
  ("AccentHouse$Parser", 57, "lodger", [108, 111, 100, 103, 101, 114]),
  ("java/lang/StringIndexOutOfBoundsException", 13, "String index out of range: ", [83, 116, 114, 105, 110, 103, 32, 105, 110, 100, 101, 120, 32, 111, 117, 116, 32, 111, 102, 32, 114, 97, 110, 103, 101, 58, 32]),
  ("java/util/Arrays", 337, " > ", [32, 62, 32]),
  ("java/util/Arrays", 48, "fromIndex(", [102, 114, 111, 109, 73, 110, 100, 101, 120, 40]),
  ("java/util/Arrays", 57, ") > toIndex(", [41, 32, 62, 32, 116, 111, 73, 110, 100, 101, 120, 40]),
  ("java/util/Arrays", 59, ")", [41]),
  ("java/lang/ArrayIndexOutOfBoundsException", 13, "Array index out of range: ", [65, 114, 114, 97, 121, 32, 105, 110, 100, 101, 120, 32, 111, 117, 116, 32, 111, 102, 32, 114, 97, 110, 103, 101, 58, 32]),
  ("AccentHouse$Parser", 66, "pay", [112, 97, 121]),
  ("AccentHouse$Parser", 71, "move", [109, 111, 118, 101]),
  ("AccentHouse$Parser", 76, "days", [100, 97, 121, 115]),
  ("AccentHouse", 84, "the input buffer is full", [116, 104, 101, 32, 105, 110, 112, 117, 116, 32, 98, 117, 102, 102, 101, 114, 32, 105, 115, 32, 102, 117, 108, 108]),
  ("AccentHouse", 94, "the buffer has no such length", [116, 104, 101, 32, 98, 117, 102, 102, 101, 114, 32, 104, 97, 115, 32, 110, 111, 32, 115, 117, 99, 104, 32, 108, 101, 110, 103, 116, 104]),
  ("AccentHouse", 108, "the text has an error", [116, 104, 101, 32, 116, 101, 120, 116, 32, 104, 97, 115, 32, 97, 110, 32, 101, 114, 114, 111, 114]),
  ("AccentHouse", 314, "there is no such floor", [116, 104, 101, 114, 101, 32, 105, 115, 32, 110, 111, 32, 115, 117, 99, 104, 32, 102, 108, 111, 111, 114]),
  ("AccentHouse", 316, "there is no such vowel", [116, 104, 101, 114, 101, 32, 105, 115, 32, 110, 111, 32, 115, 117, 99, 104, 32, 118, 111, 119, 101, 108]),
  ("AccentHouse", 312, "there is no such lodger", [116, 104, 101, 114, 101, 32, 105, 115, 32, 110, 111, 32, 115, 117, 99, 104, 32, 108, 111, 100, 103, 101, 114]),
  ("AccentHouse", 180, "the name has no such letter", [116, 104, 101, 32, 110, 97, 109, 101, 32, 104, 97, 115, 32, 110, 111, 32, 115, 117, 99, 104, 32, 108, 101, 116, 116, 101, 114]),
  ("AccentHouse", 193, "the floor has no such place", [116, 104, 101, 32, 102, 108, 111, 111, 114, 32, 104, 97, 115, 32, 110, 111, 32, 115, 117, 99, 104, 32, 112, 108, 97, 99, 101]),
  ("AccentHouse", 195, "no lodger lives on the floor", [110, 111, 32, 108, 111, 100, 103, 101, 114, 32, 108, 105, 118, 101, 115, 32, 111, 110, 32, 116, 104, 101, 32, 102, 108, 111, 111, 114]),
  ("AccentHouse", 320, "an argument is out of range", [97, 110, 32, 97, 114, 103, 117, 109, 101, 110, 116, 32, 105, 115, 32, 111, 117, 116, 32, 111, 102, 32, 114, 97, 110, 103, 101]),
  ("AccentHouse", 258, "the day counter would exceed 9999", [116, 104, 101, 32, 100, 97, 121, 32, 99, 111, 117, 110, 116, 101, 114, 32, 119, 111, 117, 108, 100, 32, 101, 120, 99, 101, 101, 100, 32, 57, 57, 57, 57]),
  ("AccentHouse", 264, "the house has 12 lodgers", [116, 104, 101, 32, 104, 111, 117, 115, 101, 32, 104, 97, 115, 32, 49, 50, 32, 108, 111, 100, 103, 101, 114, 115]),
  ("AccentHouse", 326, "the floor is full", [116, 104, 101, 32, 102, 108, 111, 111, 114, 32, 105, 115, 32, 102, 117, 108, 108]),
  ("AccentHouse$House", 67, "abcdefghijklmnopqrstuvwxyz", [97, 98, 99, 100, 101, 102, 103, 104, 105, 106, 107, 108, 109, 110, 111, 112, 113, 114, 115, 116, 117, 118, 119, 120, 121, 122]),
  ("java/lang/StringLatin1", 151, "", []),
  ("java/lang/StringUTF16", 295, "", []),
  ("AccentHouse$House", 87, "", []),
  ("AccentHouse", 318, "there is no such slot", [116, 104, 101, 114, 101, 32, 105, 115, 32, 110, 111, 32, 115, 117, 99, 104, 32, 115, 108, 111, 116]),
  ("AccentHouse", 288, "nothing is saved in the slot", [110, 111, 116, 104, 105, 110, 103, 32, 105, 115, 32, 115, 97, 118, 101, 100, 32, 105, 110, 32, 116, 104, 101, 32, 115, 108, 111, 116]),
  ("AccentHouse", 290, "there is no change to undo", [116, 104, 101, 114, 101, 32, 105, 115, 32, 110, 111, 32, 99, 104, 97, 110, 103, 101, 32, 116, 111, 32, 117, 110, 100, 111]),
  ("AccentHouseLaw", 79, "house ", [104, 111, 117, 115, 101, 32]),
  ("AccentHouseLaw", 94, ";landlady", [59, 108, 97, 110, 100, 108, 97, 100, 121]),
  ("AccentHouseLaw", 99, ";lodger ", [59, 108, 111, 100, 103, 101, 114, 32]),
  ("AccentHouseLaw", 101, ";days ", [59, 100, 97, 121, 115, 32])]
def gSc (Γ : Gm) (i : Nat) (q : String × Nat × String × List Int32) (U : State) (H : Heap) : Prop :=
  va_O "java/lang/String" (gK Γ i) (AB Γ) U H ∧ va_OF "java/lang/String" "coder" "B" (.int 0) (gK Γ i) (AB Γ) U H ∧ va_OF "java/lang/String" "value" "[B" (.ref (gV Γ i)) (gK Γ i) (AB Γ) U H ∧ va_T .byte (gV Γ i) q.2.2.2.length (fun j => .int (q.2.2.2.getD j 0)) (AB Γ) U H
theorem gSc.moved {Γ : Gm} {i : Nat} {q : String × Nat × String × List Int32} {u U : State} {H : Heap} (hvm : u.vm.Alike U.vm) (h : gSc Γ i q u H) : gSc Γ i q U H := ⟨va_O.moved hvm h.1, va_OF.moved hvm h.2.1, va_OF.moved hvm h.2.2.1, va_T.moved hvm h.2.2.2⟩
theorem gSc.kept {Γ : Gm} {i : Nat} {q : String × Nat × String × List Int32} {U : State} {H H1 : Heap} (h : gSc Γ i q U H) (hq : ∀ a : Nat, a < H.size → ¬ AB Γ a → H1[a]? = H[a]?) : gSc Γ i q U H1 := ⟨h.1.kept hq, h.2.1.kept hq, h.2.2.1.kept hq, h.2.2.2.kept hq⟩
def gNl : List (String × Nat × MethodName × String) := [("AccentHouse$House", 11, ⟨"AccentHouse$Accent", "<init>", "()V"⟩, "AccentHouse"), ("AccentHouse$House", 27, ⟨"AccentHouse$Lodger", "<init>", "()V"⟩, "AccentHouse"), ("AccentHouse$Lodger", 17, ⟨"AccentHouse$Accent", "<init>", "()V"⟩, "AccentHouse")]
/-- words of throws and catches that the tables decide -/
def gTw : List Cond := [.castable "java/lang/IndexOutOfBoundsException" "java/lang/IndexOutOfBoundsException", .castable "java/lang/IllegalArgumentException" "java/lang/IllegalArgumentException", .castable "java/lang/IllegalStateException" "java/lang/IllegalStateException", .declares ⟨"java/lang/RuntimeException", "<init>", "(Ljava/lang/String;)V"⟩, .declares ⟨"java/lang/Exception", "<init>", "(Ljava/lang/String;)V"⟩, .declares ⟨"java/lang/Throwable", "<init>", "(Ljava/lang/String;)V"⟩]
theorem gTw_ok : ∀ w ∈ gTw, w.onTables = true ∧ w.faceAtom = true := by
  intro w h
  simp only [gTw, List.mem_cons, List.not_mem_nil, or_false] at h
  rcases h with rfl | rfl | rfl | rfl | rfl | rfl <;> exact ⟨rfl, rfl⟩
theorem gTw_warm {w : Cond} {s U : State} (hw : w ∈ gTw) (hW : s.WarmedH U.vm) (h : va_Nw w s) : va_Nw w U := va_tabs (gTw_ok w hw).1 (rfl : (s.setVm U.vm).vm = U.vm) (Cond.faceAtom_setVm hW.alike w (gTw_ok w hw).2 h)
/-- what is thrown, and what it isn't -/
def gNc : List (String × String) := [("java/lang/IllegalArgumentException", "java/lang/IndexOutOfBoundsException"), ("java/lang/IllegalStateException", "java/lang/IndexOutOfBoundsException"), ("java/lang/IllegalStateException", "java/lang/IllegalArgumentException")]
/-- the law's handlers: from, to, place, class -/
def lawHH : List (String × List (Nat × Nat × Nat × Nat)) := [("load", [(6, 11, 12, 34), (6, 11, 16, 36)]), ("undone", [(0, 4, 5, 41)]), ("advanced", [(0, 5, 6, 36), (0, 5, 10, 41)]), ("movedIn", [(0, 7, 8, 36), (0, 7, 13, 41)]), ("movedOut", [(0, 5, 6, 34)]), ("movedTo", [(0, 6, 7, 34), (0, 6, 11, 36), (0, 6, 15, 41)]), ("paid", [(0, 6, 7, 34), (0, 6, 11, 36)]), ("spoke", [(0, 6, 7, 34), (0, 6, 11, 36)]), ("tolerates", [(0, 5, 6, 36)]), ("rents", [(0, 5, 6, 36)]), ("lodgerAt", [(0, 6, 7, 34)]), ("average", [(0, 6, 7, 34), (0, 6, 11, 41)])]
def gHH (y : MethodName) : List (Nat × Nat × Nat × Nat) := if y.cls = "AccentHouseLaw" then ((lawHH.find? (fun q => q.1 == y.name)).map (fun q => q.2)).getD [] else []
/-- the script, an old thing -/
def gScr (Γ : Gm) (U : State) (H : Heap) : Prop := va_X (gF Γ 9) (gF Γ 10) (gX Γ) U H ∧ gF Γ 9 < H.size ∧ ¬ AB Γ (gF Γ 9) ∧ gF Γ 10 ≤ 260
theorem gScr.moved {Γ : Gm} {u U : State} {H : Heap} (hvm : u.vm.Alike U.vm) (h : gScr Γ u H) : gScr Γ U H := ⟨va_X.moved hvm h.1, h.2⟩
theorem gScr.kept {Γ : Gm} {U : State} {H H1 : Heap} (h : gScr Γ U H) (hz : H.size ≤ H1.size) (hq : ∀ a : Nat, a < H.size → ¬ AB Γ a → H1[a]? = H[a]?) : gScr Γ U H1 := ⟨h.1.kept (hq _ h.2.1 h.2.2.1), Nat.lt_of_lt_of_le h.2.1 hz, h.2.2⟩
/-- what of the environment holds everywhere: tables, statics, constants -/
def Ev (Γ : Gm) (U : State) (H : Heap) : Prop :=
  Γ.1.stackTraces = false ∧ va_K (gD Γ) vwCl (gtys Γ) U ∧ (∀ z ∈ gzs Γ, va_Z z.1 z.2.1 z.2.2.1 z.2.2.2 (AB Γ) U H) ∧
  (vx_Zq Bundle.tN "UNASSIGNED_STACK" Bundle.steD (AB Γ) U H ∧ vx_Zq Bundle.tN "SUPPRESSED_SENTINEL" Bundle.listD (AB Γ) U H) ∧
  (∀ (i : Nat) (q : String × Nat × String × List Int32), gstrs[i]? = some q → vk_R q.1 q.2.1 q.2.2.1 (gK Γ i) U ∧ gSc Γ i q U H) ∧
  ((∀ q ∈ gNl, va_Nw (.methodLinkNest q.1 q.2.1 q.2.2.1 q.2.2.2) U) ∧ (∀ w ∈ gTw, va_Nw w U) ∧ ∀ q ∈ gNc, va_Nc q.1 q.2 U) ∧
  (va_T .byte (gF Γ 5) 100 gOnes (AB Γ) U H ∧ va_T .byte (gF Γ 6) 100 gTens (AB Γ) U H) ∧
  (va_AO "AccentHouse$Lodger" U ∧ va_AO "AccentHouse$House" U) ∧ gB Γ ≤ H.size ∧ (∀ i j : Nat, i < 5 → j < 5 → gF Γ i = gF Γ j → i = j) ∧ gScr Γ U H
theorem Ev.warm {Γ : Gm} {s U : State} {H : Heap} (hW : s.WarmedH U.vm) (h : Ev Γ s H) : Ev Γ U H := by
  obtain ⟨h0, h1, h2, h3, h4, h5, h6, h7, h8, h9, h10⟩ := h
  exact ⟨h0, va_K.moved hW.alike h1, fun z hz => va_Z.moved hW.alike (h2 z hz), ⟨vx_Zq.moved hW.alike h3.1, vx_Zq.moved hW.alike h3.2⟩, fun i q hq => ⟨vk_R.warm hW (h4 i q hq).1, (h4 i q hq).2.moved hW.alike⟩, ⟨fun q hq => va_Nw.warmM hW (h5.1 q hq), fun w hw => gTw_warm hw hW (h5.2.1 w hw), fun q hq => va_Nc.moved hW.alike (h5.2.2 q hq)⟩, ⟨va_T.moved hW.alike h6.1, va_T.moved hW.alike h6.2⟩, ⟨va_AO.moved hW.alike h7.1, va_AO.moved hW.alike h7.2⟩, h8, h9, h10.moved hW.alike⟩
theorem Ev.same {Γ : Gm} {u U : State} {H : Heap} (hv : U.vm = u.vm) (h : Ev Γ u H) : Ev Γ U H := by
  have ha : u.vm.Alike U.vm := by rw [hv]; exact Vm.Alike.refl _
  obtain ⟨h0, h1, h2, h3, h4, h5, h6, h7, h8, h9, h10⟩ := h
  exact ⟨h0, va_K.moved ha h1, fun z hz => va_Z.moved ha (h2 z hz), ⟨vx_Zq.moved ha h3.1, vx_Zq.moved ha h3.2⟩, fun i q hq => ⟨vk_R.same hv (h4 i q hq).1, (h4 i q hq).2.moved ha⟩, ⟨fun q hq => va_Nw.same rfl hv.symm (h5.1 q hq), fun w hw => va_Nw.same (gTw_ok w hw).1 hv.symm (h5.2.1 w hw), fun q hq => va_Nc.moved ha (h5.2.2 q hq)⟩, ⟨va_T.moved ha h6.1, va_T.moved ha h6.2⟩, ⟨va_AO.moved ha h7.1, va_AO.moved ha h7.2⟩, h8, h9, h10.moved ha⟩
theorem Ev.kept {Γ : Gm} {U : State} {H H1 : Heap} (h : Ev Γ U H) (hz : H.size ≤ H1.size) (hq : ∀ a : Nat, a < H.size → ¬ AB Γ a → H1[a]? = H[a]?) : Ev Γ U H1 := by
  obtain ⟨h0, h1, h2, h3, h4, h5, h6, h7, h8, h9, h10⟩ := h
  exact ⟨h0, h1, fun z hz => (h2 z hz).kept hq, ⟨h3.1.kept hq, h3.2.kept hq⟩, fun i q hi => ⟨(h4 i q hi).1, (h4 i q hi).2.kept hq⟩, h5, ⟨h6.1.kept hq, h6.2.kept hq⟩, h7, Nat.le_trans h8 hz, h9, h10.kept hz hq⟩
/-- the heap holds the world -/
def HS (Γ : Gm) (E : Hp) (H : Heap) : Prop := ∀ (a : Nat) (e : va_E), E a = some e → va_at (gD Γ) vwCl (a, e) H ∧ gB Γ ≤ a
def hset (E : Hp) (a : Nat) (e : va_E) : Hp := fun q => if q = a then some e else E q
theorem hset_s {E : Hp} {a : Nat} {e : va_E} : hset E a e a = some e := if_pos rfl
theorem hset_n {E : Hp} {a q : Nat} {e : va_E} (h : q ≠ a) : hset E a e q = E q := if_neg h
theorem HS.set {Γ : Gm} {E : Hp} {H H1 : Heap} {a : Nat} {e0 e : va_E} (h : HS Γ E H) (h0 : E a = some e0) (he : va_at (gD Γ) vwCl (a, e) H1) (oq : ∀ q : Nat, q ≠ a → H1[q]? = H[q]?) : HS Γ (hset E a e) H1 := by
  intro b x hb
  by_cases hab : b = a
  · subst hab
    rw [hset_s] at hb
    cases hb
    exact ⟨he, (h b e0 h0).2⟩
  · rw [hset_n hab] at hb
    exact ⟨(h b x hb).1.kept (oq b hab), (h b x hb).2⟩
theorem HS.new {Γ : Gm} {E : Hp} {H H1 : Heap} {e : va_E} (h : HS Γ E H) (hB : gB Γ ≤ H.size) (he : va_at (gD Γ) vwCl (H.size, e) H1) (oq : ∀ q : Nat, q < H.size → H1[q]? = H[q]?) : HS Γ (hset E H.size e) H1 := by
  intro b x hb
  by_cases hab : b = H.size
  · subst hab
    rw [hset_s] at hb
    cases hb
    exact ⟨he, hB⟩
  · rw [hset_n hab] at hb
    exact ⟨(h b x hb).1.kept (oq b (h b x hb).1.lt), (h b x hb).2⟩
theorem HS.lt {Γ : Gm} {E : Hp} {H : Heap} {a : Nat} {e : va_E} (h : HS Γ E H) (he : E a = some e) : a < H.size := (h a e he).1.lt
/-- a method: class, name, code, locals, result -/
abbrev Mr : Type := String × MethodName × ByteArray × Nat × Option FieldType
abbrev Po : Type := Option Value → Hp → Nat → Prop
abbrev Px : Type := String → Hp → Nat → Prop
def Fr (Γ : Gm) (d : Nat) (M : Mr) (p : Program) (R : Room) (s : State) (m : MethodId) (args : Array Value) (meth : Method) (c : Code) : Prop :=
  p.tables.exec = Jvm.exec ∧ c.code = M.2.2.1 ∧ c.maxLocals = M.2.2.2.1 ∧ s.vm.findClass M.1 = some m.cls ∧ (∀ w ∈ wl, w.before args s = true) ∧ Ev Γ s s.heap ∧ d ≤ R.frames ∧ 64 * d ≤ R.locals ∧ (M.2.1.name = "<init>" → meth.name = "<init>") ∧ c.exceptionTable.toList = tableOf (gHH M.2.1)
def RetOp (M : Mr) (pc : Nat) : Option Value → Prop
  | none => decode M.2.2.1 pc = .ok (.return_, 1) ∧ M.2.2.2.2 = none
  | some (.int x) => decode M.2.2.1 pc = .ok (.ireturn, 1) ∧ ∃ ty, M.2.2.2.2 = some ty ∧ narrow ty (.int x) = .int x
  | some (.ref _) => decode M.2.2.1 pc = .ok (.areturn, 1) ∧ ∃ ty, M.2.2.2.2 = some ty ∧ ((∃ n, ty = .object n) ∨ ∃ t, ty = .array t)
  | some .null => decode M.2.2.1 pc = .ok (.areturn, 1) ∧ ∃ ty, M.2.2.2.2 = some ty ∧ ((∃ n, ty = .object n) ∨ ∃ t, ty = .array t)
  | some (.float _) => decode M.2.2.1 pc = .ok (.freturn, 1) ∧ M.2.2.2.2 = some .float
  | some (.long _) => decode M.2.2.1 pc = .ok (.lreturn, 1) ∧ M.2.2.2.2 = some .long
  | some (.double _) => decode M.2.2.1 pc = .ok (.dreturn, 1) ∧ M.2.2.2.2 = some .double
  | _ => False
def ThrOp (d : Nat) (M : Mr) (pc : Nat) (x : String) : Prop :=
  ∃ (ik is ic i : Nat) (text : String) (names : List String) (bs : List Int32), Bundle.fit x = true ∧ (∀ n ∈ names, Bundle.fit n = true) ∧ Cond.classLink M.1 ik x ∈ wl ∧ Cond.initialized x ∈ wl ∧ (∀ w ∈ vx_atS M.1 ic x names, w ∈ wl ∨ w ∈ gTw) ∧ (∀ w ∈ Cond.classLink M.1 ik x :: Cond.initialized x :: vx_atS M.1 ic x names, vx_ot w = true) ∧ gstrs[i]? = some (M.1, is, text, bs) ∧
    decode M.2.2.1 pc = .ok (.new ik, 3) ∧ decode M.2.2.1 (pc + 3) = .ok (.dup, 1) ∧ ((decode M.2.2.1 (pc + 4) = .ok (.ldc is, 2) ∧ decode M.2.2.1 (pc + 6) = .ok (.invokespecial ic, 3) ∧ decode M.2.2.1 (pc + 9) = .ok (.athrow, 1)) ∨ (decode M.2.2.1 (pc + 4) = .ok (.ldc_w is, 3) ∧ decode M.2.2.1 (pc + 7) = .ok (.invokespecial ic, 3) ∧ decode M.2.2.1 (pc + 10) = .ok (.athrow, 1))) ∧ names.length ≤ 3 ∧ 7 ≤ d
/-- how a frame may end -/
def En (Γ : Gm) (d : Nat) (M : Mr) (P : Po) (X : Px) (p : Program) (e : Env) (R : Room) (s : State) (m : MethodId) (args : Array Value) (below : List Frame) (meth : Method) (c : Code) (Q : State → Prop) : Prop :=
  (∀ (v : Option Value) (E : Hp) (n : Nat) (H : Heap) (locs : List Loc) (cells slots pc : Nat) (ls : Array Slot), P v E n → HS Γ E H → H.size = n → va_S (AB Γ) s.heap H locs → cells ≤ R.cells → slots ≤ R.slots → RetOp M pc v → W p Γ.1 e R s m args below meth c H locs cells slots Q (F0 m pc ls v.toList)) ∧
  (∀ (x : String) (E : Hp) (n : Nat) (H : Heap) (locs : List Loc) (cells slots pc : Nat) (ls : Array Slot) (st : List Value), X x E n → HS Γ E H → H.size = n → va_S (AB Γ) s.heap H locs → cells + 1 ≤ R.cells → slots + 6 ≤ R.slots → ThrOp d M pc x → ls.size = M.2.2.2.1 → (st.map fun v => v.category).sum ≤ 8 → W p Γ.1 e R s m args below meth c H locs cells slots Q (F0 m pc ls st)) ∧
  (∀ (x : String) (E : Hp) (n : Nat) (H : Heap) (locs : List Loc) (cells slots pc : Nat) (ls : Array Slot) (st : List Value) (q : Addr) (ce : Cell), X x E n → HS Γ E H → n ≤ H.size → va_S (AB Γ) s.heap H locs → cells ≤ R.cells → slots ≤ R.slots → H[q]? = some ce → ce.vm = .none → s.vm.findClass x = some ce.cls → ls.size = M.2.2.2.1 → vx_W p Γ.1 e R s m args below meth c H locs cells slots Q (F0 m pc ls st) q)
/-- from this place on, with this world and this much room left, the frame comes to an end with P, or X -/
def G (Γ : Gm) (d : Nat) (M : Mr) (P : Po) (X : Px) (pc : Nat) (lv : List (Nat × Value)) (st : List Value) (E : Hp) (n kc ks : Nat) : Prop :=
  ∀ (p : Program) (e : Env) (R : Room) (s : State) (m : MethodId) (args : Array Value) (below : List Frame) (meth : Method) (c : Code) (Q : State → Prop), Fr Γ d M p R s m args meth c → En Γ d M P X p e R s m args below meth c Q →
    ∀ (H : Heap) (locs : List Loc) (cells slots : Nat) (ls : Array Slot), HS Γ E H → H.size = n → va_S (AB Γ) s.heap H locs → lv_has ls M.2.2.2.1 lv → cells + kc ≤ R.cells → slots + ks ≤ R.slots → W p Γ.1 e R s m args below meth c H locs cells slots Q (F0 m pc ls st)
def Qg (Γ : Gm) (P : Po) : Array Value → State → Outcome → State → Prop := fun _ st o t => (∃ (v : Option Value) (E : Hp) (n : Nat), o = .returned v ∧ P v E n ∧ HS Γ E t.heap ∧ t.heap.size = n) ∧ va_F (AB Γ) st t
def Xg (Γ : Gm) (X : Px) : String → State → State → Prop := fun x st t => (∃ (E : Hp) (n : Nat), X x E n ∧ HS Γ E t.heap ∧ n ≤ t.heap.size) ∧ va_F (AB Γ) st t
def Pg (Γ : Gm) (av : List Value) (E : Hp) (n : Nat) : Array Value → State → Prop := va_Pc av (fun U => HS Γ E U.heap ∧ U.heap.size = n ∧ Ev Γ U U.heap)
def rmG (d mc ms : Nat) : Room := { frames := d, cells := mc, slots := ms, locals := 64 * d }
/-- a method's contract at one start -/
def Ct (Γ : Gm) (d : Nat) (M : Mr) (mc ms : Nat) (av : List Value) (E : Hp) (n : Nat) (P : Po) (X : Px) : Prop :=
  vx_Met Γ.1 M.2.1 (Cond.code M.2.1 M.2.2.1 M.2.2.2.1 M.2.2.2.2 :: wl) (rmG d mc ms) (Pg Γ av E n) (Qg Γ P) (Xg Γ X) mc ms (AB Γ)
theorem Pg.blind {Γ : Gm} {av : List Value} {E : Hp} {n : Nat} : FrameBlind (Pg Γ av E n) := fun a U g mk h => ⟨h.1, h.2.1, h.2.2.1, Ev.same (u := U) (U := U.calling g mk a) rfl h.2.2.2⟩
theorem va_S.toF {Γ : Gm} {s t : State} {H : Heap} {locs : List Loc} (h : va_S (AB Γ) s.heap H locs) (ht : t.heap = H) : va_F (AB Γ) s t := h.F ht
end GCORE
