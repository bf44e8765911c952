/-! the tables' words that last (TT), those that last with the nest links (NT) -/
def TT : List Cond := lw_tbl.filter goodWord
def NT : List Cond := lw_tbl.filter (fun w => w.onTables && w.keepsH)
theorem mem_tt {i : Nat} {w : Cond} (h : lw_tbl[i]? = some w) (hg : goodWord w = true) : w ∈ TT := List.mem_filter.mpr ⟨List.mem_of_getElem? h, hg⟩
theorem mem_nt {i : Nat} {w : Cond} (h : lw_tbl[i]? = some w) (hg : (w.onTables && w.keepsH) = true) : w ∈ NT := List.mem_filter.mpr ⟨List.mem_of_getElem? h, hg⟩
theorem tt_tbl {w : Cond} (h : w ∈ TT) : w ∈ lw_tbl := (List.mem_filter.mp h).1
theorem tt_good {w : Cond} (h : w ∈ TT) : (w.onTables && w.keeps) = true ∨ ∃ ty, w = .arrayClass ty := good_of_word (List.mem_filter.mp h).2
theorem good_tt {ws : List Cond} (h : ∀ w ∈ ws, w ∈ TT) : GoodIn TT ws := fun w hw => ⟨h w hw, tt_good (h w hw)⟩
theorem g_C {c : Cond} (h : c ∈ TT) : GoodIn TT (c :: TT) := good_tt (fun w hw => (List.mem_cons.mp hw).elim (fun e => e ▸ h) id)
theorem g_V {own C : String} {idx : Nat} {y : MethodName} {c : Cond} (h1 : Cond.methodLink own idx y ∈ TT) (h2 : Cond.instanceMethod y ∈ TT) (h3 : Cond.selects C y y ∈ TT) (h4 : Cond.initialized C ∈ TT) (h5 : c ∈ TT) : GoodIn TT (wsV own idx C y (c :: TT)) := good_tt (fun w hw => by
  rcases List.mem_append.mp hw with hw | hw
  · rcases List.mem_cons.mp hw with rfl | hw
    · exact h1
    · rcases List.mem_cons.mp hw with rfl | hw
      · exact h2
      · rcases List.mem_cons.mp hw with rfl | hw
        · exact h3
        · rcases List.mem_cons.mp hw with rfl | hw
          · exact h4
          · cases hw
  · exact (List.mem_cons.mp hw).elim (fun e => e ▸ h5) id)
theorem g_S {own : String} {idx : Nat} {y : MethodName} {c : Cond} (h1 : Cond.methodLink own idx y ∈ TT) (h2 : Cond.static y ∈ TT) (h4 : Cond.initialized y.cls ∈ TT) (h5 : c ∈ TT) : GoodIn TT (va_wsS own idx y (c :: TT)) := good_tt (fun w hw => by
  rcases List.mem_append.mp hw with hw | hw
  · rcases List.mem_cons.mp hw with rfl | hw
    · exact h1
    · rcases List.mem_cons.mp hw with rfl | hw
      · exact h2
      · rcases List.mem_cons.mp hw with rfl | hw
        · exact h4
        · cases hw
  · exact (List.mem_cons.mp hw).elim (fun e => e ▸ h5) id)
def F_S : u_T := fun k => match k with
  | 0 => ("SieveDesk", "script", "[B", true)
  | 1 => ("SieveDesk", "tokens", "LSieveDesk$Tokens;", true)
  | 2 => ("SieveDesk", "grammar", "LSieveDesk$Grammar;", true)
  | 3 => ("SieveDesk", "length", "I", false)
  | _ => ("SieveDesk", "faultPlace", "I", false)
def ty_S : Nat → FieldType := fun k => match k with
  | 0 => .array .byte
  | 1 => .object "SieveDesk$Tokens"
  | 2 => .object "SieveDesk$Grammar"
  | 3 => .int
  | _ => .int
theorem n_S : ∀ a, a < 5 → ∀ b, b < 5 → a ≠ b → (F_S a).2.1 ≠ (F_S b).2.1 := by decide +kernel
theorem ty_S_ok : ∀ k, k < 5 → parseFieldDescriptor (F_S k).2.2.1 = some (ty_S k) := by decide +kernel
def F_T : u_T := fun k => match k with
  | 0 => ("SieveDesk$Tokens", "script", "[B", true)
  | 1 => ("SieveDesk$Tokens", "kinds", "[I", true)
  | 2 => ("SieveDesk$Tokens", "starts", "[I", true)
  | 3 => ("SieveDesk$Tokens", "words", "[LSieveDesk$Word;", true)
  | 4 => ("SieveDesk$Tokens", "says", "[I", true)
  | 5 => ("SieveDesk$Tokens", "quoted", "LSieveDesk$Quoted;", true)
  | 6 => ("SieveDesk$Tokens", "many", "I", false)
  | 7 => ("SieveDesk$Tokens", "length", "I", false)
  | _ => ("SieveDesk$Tokens", "at", "I", false)
def ty_T : Nat → FieldType := fun k => match k with
  | 0 => .array .byte
  | 1 => .array .int
  | 2 => .array .int
  | 3 => .array (.object "SieveDesk$Word")
  | 4 => .array .int
  | 5 => .object "SieveDesk$Quoted"
  | 6 => .int
  | 7 => .int
  | _ => .int
theorem n_T : ∀ a, a < 9 → ∀ b, b < 9 → a ≠ b → (F_T a).2.1 ≠ (F_T b).2.1 := by decide +kernel
theorem ty_T_ok : ∀ k, k < 9 → parseFieldDescriptor (F_T k).2.2.1 = some (ty_T k) := by decide +kernel
def F_Q : u_T := fun k => match k with
  | 0 => ("SieveDesk$Quoted", "bytes", "[B", true)
  | _ => ("SieveDesk$Quoted", "length", "I", false)
def ty_Q : Nat → FieldType := fun k => match k with
  | 0 => .array .byte
  | _ => .int
theorem n_Q : ∀ a, a < 2 → ∀ b, b < 2 → a ≠ b → (F_Q a).2.1 ≠ (F_Q b).2.1 := by decide +kernel
theorem ty_Q_ok : ∀ k, k < 2 → parseFieldDescriptor (F_Q k).2.2.1 = some (ty_Q k) := by decide +kernel
def F_G : u_T := fun k => match k with
  | 0 => ("SieveDesk$Grammar", "tokens", "LSieveDesk$Tokens;", true)
  | 1 => ("SieveDesk$Grammar", "due", "[C", true)
  | 2 => ("SieveDesk$Grammar", "manyDue", "I", false)
  | 3 => ("SieveDesk$Grammar", "at", "I", false)
  | 4 => ("SieveDesk$Grammar", "kind", "I", false)
  | 5 => ("SieveDesk$Grammar", "word", "LSieveDesk$Word;", false)
  | 6 => ("SieveDesk$Grammar", "tag", "LSieveDesk$Word;", false)
  | 7 => ("SieveDesk$Grammar", "says", "I", false)
  | 8 => ("SieveDesk$Grammar", "things", "I", false)
  | 9 => ("SieveDesk$Grammar", "strings", "I", false)
  | 10 => ("SieveDesk$Grammar", "required", "I", false)
  | 11 => ("SieveDesk$Grammar", "blocks", "I", false)
  | 12 => ("SieveDesk$Grammar", "tests", "I", false)
  | _ => ("SieveDesk$Grammar", "openGroups", "I", false)
def ty_G : Nat → FieldType := fun k => match k with
  | 0 => .object "SieveDesk$Tokens"
  | 1 => .array .char
  | 2 => .int
  | 3 => .int
  | 4 => .int
  | 5 => .object "SieveDesk$Word"
  | 6 => .object "SieveDesk$Word"
  | 7 => .int
  | 8 => .int
  | 9 => .int
  | 10 => .int
  | 11 => .int
  | 12 => .int
  | _ => .int
theorem n_G : ∀ a, a < 14 → ∀ b, b < 14 → a ≠ b → (F_G a).2.1 ≠ (F_G b).2.1 := by decide +kernel
theorem ty_G_ok : ∀ k, k < 14 → parseFieldDescriptor (F_G k).2.2.1 = some (ty_G k) := by decide +kernel
def F_M : u_T := fun k => match k with
  | 0 => ("SieveDeskModel", "words", "[J", true)
  | 1 => ("SieveDeskModel", "wordSizes", "[I", true)
  | 2 => ("SieveDeskModel", "src", "[I", true)
  | 3 => ("SieveDeskModel", "srcSize", "I", false)
  | 4 => ("SieveDeskModel", "srcAt", "I", false)
  | 5 => ("SieveDeskModel", "sort", "I", false)
  | 6 => ("SieveDeskModel", "place", "I", false)
  | 7 => ("SieveDeskModel", "size", "I", false)
  | 8 => ("SieveDeskModel", "letters", "[J", true)
  | 9 => ("SieveDeskModel", "text", "[I", true)
  | 10 => ("SieveDeskModel", "faultAt", "I", false)
  | 11 => ("SieveDeskModel", "line", "I", false)
  | 12 => ("SieveDeskModel", "counted", "I", false)
  | 13 => ("SieveDeskModel", "strings", "I", false)
  | 14 => ("SieveDeskModel", "required", "I", false)
  | 15 => ("SieveDeskModel", "blocks", "I", false)
  | 16 => ("SieveDeskModel", "tests", "I", false)
  | 17 => ("SieveDeskModel", "open", "I", false)
  | _ => ("SieveDeskModel", "row", "[I", true)
def ty_M : Nat → FieldType := fun k => match k with
  | 0 => .array .long
  | 1 => .array .int
  | 2 => .array .int
  | 3 => .int
  | 4 => .int
  | 5 => .int
  | 6 => .int
  | 7 => .int
  | 8 => .array .long
  | 9 => .array .int
  | 10 => .int
  | 11 => .int
  | 12 => .int
  | 13 => .int
  | 14 => .int
  | 15 => .int
  | 16 => .int
  | 17 => .int
  | _ => .array .int
theorem n_M : ∀ a, a < 19 → ∀ b, b < 19 → a ≠ b → (F_M a).2.1 ≠ (F_M b).2.1 := by decide +kernel
theorem ty_M_ok : ∀ k, k < 19 → parseFieldDescriptor (F_M k).2.2.1 = some (ty_M k) := by decide +kernel
abbrev cls : List vw_C := [("SieveDesk", F_S, 5), ("SieveDesk$Tokens", F_T, 9), ("SieveDesk$Quoted", F_Q, 2), ("SieveDesk$Grammar", F_G, 14), ("SieveDeskModel", F_M, 19)]
theorem i_S : ∀ w ∈ u_ws "SieveDesk" F_S 5, w ∈ TT := by decide +kernel
theorem i_T : ∀ w ∈ u_ws "SieveDesk$Tokens" F_T 9, w ∈ TT := by decide +kernel
theorem i_Q : ∀ w ∈ u_ws "SieveDesk$Quoted" F_Q 2, w ∈ TT := by decide +kernel
theorem i_G : ∀ w ∈ u_ws "SieveDesk$Grammar" F_G 14, w ∈ TT := by decide +kernel
theorem i_M : ∀ w ∈ u_ws "SieveDeskModel" F_M 19, w ∈ TT := by decide +kernel
/-! the class's world, the reference's world -/
def WE (h : Nat → Nat) (g : Nat → ClassId) (len fp many tlen tat qlen md gat kind : Int32) (wd tg : Value) (gs th st rq bl te og : Int32) (sc kd sr : Nat → Int32) (wo : Nat → Option Nat) (sa qb du : Nat → Int32) : va_W :=
  [(h 0, .inr (0, [.ref (h 1), .ref (h 2), .ref (h 9), .int len, .int fp])),
   (h 1, .inl (g 0, 400, .inl sc)),
   (h 2, .inr (1, [.ref (h 1), .ref (h 3), .ref (h 4), .ref (h 5), .ref (h 6), .ref (h 7), .int many, .int tlen, .int tat])),
   (h 3, .inl (g 1, 401, .inl kd)),
   (h 4, .inl (g 2, 401, .inl sr)),
   (h 5, .inl (g 3, 401, .inr (.inr (.inr (.inr wo))))),
   (h 6, .inl (g 4, 401, .inl sa)),
   (h 7, .inr (2, [.ref (h 8), .int qlen])),
   (h 8, .inl (g 5, 200, .inl qb)),
   (h 9, .inr (3, [.ref (h 2), .ref (h 10), .int md, .int gat, .int kind, wd, tg, .int gs, .int th, .int st, .int rq, .int bl, .int te, .int og])),
   (h 10, .inl (g 6, 200, .inl du))]
def TE (g : Nat → ClassId) : List (ClassId × FieldType) := [(g 0, .byte), (g 1, .int), (g 2, .int), (g 3, .object "SieveDesk$Word"), (g 4, .int), (g 5, .byte), (g 6, .char)]
def ME (h : Nat → Nat) (g : Nat → ClassId) (ss sa so pl sz fa li co st rq bl te op : Int32) (wo : Nat → Int64) (wz sr : Nat → Int32) (le : Nat → Int64) (tx ro : Nat → Int32) : va_W :=
  [(h 0, .inr (4, [.ref (h 1), .ref (h 2), .ref (h 3), .int ss, .int sa, .int so, .int pl, .int sz, .ref (h 4), .ref (h 5), .int fa, .int li, .int co, .int st, .int rq, .int bl, .int te, .int op, .ref (h 6)])),
   (h 1, .inl (g 0, 220, .inr (.inl wo))),
   (h 2, .inl (g 1, 55, .inl wz)),
   (h 3, .inl (g 2, 400, .inl sr)),
   (h 4, .inl (g 3, 4, .inr (.inl le))),
   (h 5, .inl (g 4, 1010, .inl tx)),
   (h 6, .inl (g 5, 80, .inl ro))]
def TM (g : Nat → ClassId) : List (ClassId × FieldType) := [(g 0, .long), (g 1, .int), (g 2, .int), (g 3, .long), (g 4, .int), (g 5, .int)]
/-! what the start gives of constants: k i the words (i < 43), k (50 + i) the names (i < 17), k 80, k 81 the two EACH, k (100 + i) Strings (i < 116), k (300 + i) their bytes, k (500 + i) their lengths -/
def stL : List (String × String × String × Nat) := [("SieveDesk$Word", "NONE", "LSieveDesk$Word;", 0), ("SieveDesk$Word", "REQUIRE", "LSieveDesk$Word;", 1), ("SieveDesk$Word", "ELSIF", "LSieveDesk$Word;", 2), ("SieveDesk$Word", "ELSE", "LSieveDesk$Word;", 3), ("SieveDesk$Word", "IF", "LSieveDesk$Word;", 4), ("SieveDesk$Word", "OVER", "LSieveDesk$Word;", 41), ("SieveDesk$Word", "UNDER", "LSieveDesk$Word;", 42), ("SieveDesk$Word", "EACH", "[LSieveDesk$Word;", 80), ("SieveDesk$Name", "EACH", "[LSieveDesk$Name;", 81)]
def liL : List (String × Nat × String × Nat) := [("SieveDesk$Grammar", 59, "qc.", 207), ("SieveDesk$Grammar", 167, "c", 208), ("SieveDesk$Grammar", 172, "v", 209), ("SieveDesk$Grammar", 174, "tm", 210), ("SieveDesk$Grammar", 176, "g", 211), ("SieveDesk$Tokens", 105, "text", 212), ("SieveDesk$Tokens", 92, ";,()[]{}", 213), ("SieveDesk$Quoted", 43, "!#$%&'*+-/=?^_`{|}~", 214), ("SieveDesk$Quoted", 49, "-", 215)]
def WD (k : Nat → Nat) (i : Nat) (A : Nat → Prop) (U : State) (H : Heap) : Prop := va_O "SieveDesk$Word" (k i) A U H ∧ (∃ r : Int32, va_OF "SieveDesk$Word" "role" "I" (.int r) (k i) A U H) ∧ (∃ r : Int32, va_OF "SieveDesk$Word" "needs" "I" (.int r) (k i) A U H) ∧ (∃ r : Int32, va_OF "SieveDesk$Word" "groups" "I" (.int r) (k i) A U H) ∧ va_OF "SieveDesk$Word" "spelling" "Ljava/lang/String;" (.ref (k (100 + 2 * i))) (k i) A U H ∧ va_OF "SieveDesk$Word" "production" "Ljava/lang/String;" (.ref (k (100 + (2 * i + 1)))) (k i) A U H
def NM (k : Nat → Nat) (i : Nat) (A : Nat → Prop) (U : State) (H : Heap) : Prop := va_OF "SieveDesk$Name" "spelling" "Ljava/lang/String;" (.ref (k (100 + (90 + i)))) (k (50 + i)) A U H ∧ ∃ r : Int32, va_OF "SieveDesk$Name" "says" "I" (.int r) (k (50 + i)) A U H
def ST (a v n : Nat) (A : Nat → Prop) (U : State) (H : Heap) : Prop := va_O "java/lang/String" a A U H ∧ va_OF "java/lang/String" "coder" "B" (.int 0) a A U H ∧ va_OF "java/lang/String" "value" "[B" (.ref v) a A U H ∧ (∃ f : Nat → Int32, va_T .byte v n (fun j => .int (f j)) A U H) ∧ n ≤ 100
def KE (k : Nat → Nat) (A : Nat → Prop) (U : State) (H : Heap) : Prop :=
  (∀ w ∈ NT, va_Nw w U) ∧ va_AO "SieveDesk$Word" U ∧ (∀ q ∈ stL, va_Z q.1 q.2.1 q.2.2.1 (.ref (k q.2.2.2)) A U H) ∧ (∀ i, i < 43 → WD k i A U H) ∧ (∀ i, i < 17 → NM k i A U H) ∧ (∀ i, i < 116 → ST (k (100 + i)) (k (300 + i)) (k (500 + i)) A U H) ∧
  va_T (.object "SieveDesk$Word") (k 80) 43 (fun i => .ref (k i)) A U H ∧ va_T (.object "SieveDesk$Name") (k 81) 17 (fun i => .ref (k (50 + i))) A U H ∧ (∀ q ∈ liL, vk_R q.1 q.2.1 q.2.2.1 (k q.2.2.2) U) ∧
  va_Z "java/lang/String" "COMPACT_STRINGS" "Z" (.int 1) A U H ∧ va_Zq "jdk/internal/util/Preconditions" "SIOOBE_FORMATTER" "Ljava/util/function/BiFunction;" A U H
theorem WD.narrow {k : Nat → Nat} {i : Nat} {A B : Nat → Prop} {U : State} {H : Heap} (h : WD k i A U H) (hAB : ∀ q, B q → A q) : WD k i B U H := by
  obtain ⟨a1, ⟨r2, a2⟩, ⟨r3, a3⟩, ⟨r4, a4⟩, a5, a6⟩ := h
  exact ⟨a1.narrow hAB, ⟨r2, a2.narrow hAB⟩, ⟨r3, a3.narrow hAB⟩, ⟨r4, a4.narrow hAB⟩, a5.narrow hAB, a6.narrow hAB⟩
theorem WD.kept {k : Nat → Nat} {i : Nat} {A : Nat → Prop} {U : State} {H H1 : Heap} (h : WD k i A U H) (hq : ∀ a : Nat, a < H.size → ¬ A a → H1[a]? = H[a]?) : WD k i A U H1 := by
  obtain ⟨a1, ⟨r2, a2⟩, ⟨r3, a3⟩, ⟨r4, a4⟩, a5, a6⟩ := h
  exact ⟨a1.kept hq, ⟨r2, a2.kept hq⟩, ⟨r3, a3.kept hq⟩, ⟨r4, a4.kept hq⟩, a5.kept hq, a6.kept hq⟩
theorem WD.moved {k : Nat → Nat} {i : Nat} {A : Nat → Prop} {u U : State} {H : Heap} (hv : u.vm.Alike U.vm) (h : WD k i A u H) : WD k i A U H := by
  obtain ⟨a1, ⟨r2, a2⟩, ⟨r3, a3⟩, ⟨r4, a4⟩, a5, a6⟩ := h
  exact ⟨a1.moved hv, ⟨r2, a2.moved hv⟩, ⟨r3, a3.moved hv⟩, ⟨r4, a4.moved hv⟩, a5.moved hv, a6.moved hv⟩
theorem NM.narrow {k : Nat → Nat} {i : Nat} {A B : Nat → Prop} {U : State} {H : Heap} (h : NM k i A U H) (hAB : ∀ q, B q → A q) : NM k i B U H := ⟨h.1.narrow hAB, h.2.choose, h.2.choose_spec.narrow hAB⟩
theorem NM.kept {k : Nat → Nat} {i : Nat} {A : Nat → Prop} {U : State} {H H1 : Heap} (h : NM k i A U H) (hq : ∀ a : Nat, a < H.size → ¬ A a → H1[a]? = H[a]?) : NM k i A U H1 := ⟨h.1.kept hq, h.2.choose, h.2.choose_spec.kept hq⟩
theorem NM.moved {k : Nat → Nat} {i : Nat} {A : Nat → Prop} {u U : State} {H : Heap} (hv : u.vm.Alike U.vm) (h : NM k i A u H) : NM k i A U H := ⟨h.1.moved hv, h.2.choose, h.2.choose_spec.moved hv⟩
theorem ST.narrow {a v n : Nat} {A B : Nat → Prop} {U : State} {H : Heap} (h : ST a v n A U H) (hAB : ∀ q, B q → A q) : ST a v n B U H := by
  obtain ⟨a1, a2, a3, ⟨f, a4⟩, a5⟩ := h
  exact ⟨a1.narrow hAB, a2.narrow hAB, a3.narrow hAB, ⟨f, a4.narrow hAB⟩, a5⟩
theorem ST.kept {a v n : Nat} {A : Nat → Prop} {U : State} {H H1 : Heap} (h : ST a v n A U H) (hq : ∀ a : Nat, a < H.size → ¬ A a → H1[a]? = H[a]?) : ST a v n A U H1 := by
  obtain ⟨a1, a2, a3, ⟨f, a4⟩, a5⟩ := h
  exact ⟨a1.kept hq, a2.kept hq, a3.kept hq, ⟨f, a4.kept hq⟩, a5⟩
theorem ST.moved {a v n : Nat} {A : Nat → Prop} {u U : State} {H : Heap} (hv : u.vm.Alike U.vm) (h : ST a v n A u H) : ST a v n A U H := by
  obtain ⟨a1, a2, a3, ⟨f, a4⟩, a5⟩ := h
  exact ⟨a1.moved hv, a2.moved hv, a3.moved hv, ⟨f, a4.moved hv⟩, a5⟩
theorem KE.narrow {k : Nat → Nat} {A B : Nat → Prop} {U : State} {H : Heap} (h : KE k A U H) (hAB : ∀ q, B q → A q) : KE k B U H := by
  obtain ⟨a1, a2, a3, a4, a5, a6, a7, a8, a9, a10, a11⟩ := h
  exact ⟨a1, a2, fun q hq => (a3 q hq).narrow hAB, fun i hi => (a4 i hi).narrow hAB, fun i hi => (a5 i hi).narrow hAB, fun i hi => (a6 i hi).narrow hAB, a7.narrow hAB, a8.narrow hAB, a9, a10.narrow hAB, a11.narrow hAB⟩
theorem KE.kept {k : Nat → Nat} {A : Nat → Prop} {U : State} {H H1 : Heap} (h : KE k A U H) (hq : ∀ a : Nat, a < H.size → ¬ A a → H1[a]? = H[a]?) : KE k A U H1 := by
  obtain ⟨a1, a2, a3, a4, a5, a6, a7, a8, a9, a10, a11⟩ := h
  exact ⟨a1, a2, fun q h9 => (a3 q h9).kept hq, fun i hi => (a4 i hi).kept hq, fun i hi => (a5 i hi).kept hq, fun i hi => (a6 i hi).kept hq, a7.kept hq, a8.kept hq, a9, a10.kept hq, a11.kept hq⟩
theorem nw_warm {w : Cond} {s U : State} (hw : w ∈ NT) (hW : s.WarmedH U.vm) (h : va_Nw w s) : va_Nw w U := by
  have h1 := (List.mem_filter.mp hw).2
  simp only [Bool.and_eq_true] at h1
  exact va_tabs h1.1 (rfl : (s.setVm U.vm).vm = U.vm) (Cond.onTables_warmH (args' := #[]) (T := s) hW h1.1 h1.2 h)
theorem nw_same {w : Cond} {u U : State} (hw : w ∈ NT) (hv : u.vm = U.vm) (h : va_Nw w u) : va_Nw w U := by
  have h1 := (List.mem_filter.mp hw).2
  simp only [Bool.and_eq_true] at h1
  exact va_Nw.same h1.1 hv h
theorem nw_use {w : Cond} {A : Array Value} {U : State} (hw : w ∈ NT) (h : va_Nw w U) : w.before A U = true := by
  have h1 := (List.mem_filter.mp hw).2
  simp only [Bool.and_eq_true] at h1
  exact va_Nw.use h1.1 h
theorem KE.warm {k : Nat → Nat} {A : Nat → Prop} {s U : State} {H : Heap} (hW : s.WarmedH U.vm) (h : KE k A s H) : KE k A U H := by
  obtain ⟨a1, a2, a3, a4, a5, a6, a7, a8, a9, a10, a11⟩ := h
  exact ⟨fun w hw => nw_warm hw hW (a1 w hw), a2.moved hW.alike, fun q hq => (a3 q hq).moved hW.alike, fun i hi => (a4 i hi).moved hW.alike, fun i hi => (a5 i hi).moved hW.alike, fun i hi => (a6 i hi).moved hW.alike, a7.moved hW.alike, a8.moved hW.alike, fun q hq => (a9 q hq).warm hW, a10.moved hW.alike, a11.moved hW.alike⟩
theorem KE.same {k : Nat → Nat} {A : Nat → Prop} {s U : State} {H : Heap} (hv : s.vm = U.vm) (h : KE k A s H) : KE k A U H := by
  obtain ⟨a1, a2, a3, a4, a5, a6, a7, a8, a9, a10, a11⟩ := h
  have hal : s.vm.Alike U.vm := hv ▸ Vm.Alike.refl s.vm
  exact ⟨fun w hw => nw_same hw hv (a1 w hw), a2.moved hal, fun q hq => (a3 q hq).moved hal, fun i hi => (a4 i hi).moved hal, fun i hi => (a5 i hi).moved hal, fun i hi => (a6 i hi).moved hal, a7.moved hal, a8.moved hal, fun q hq => (a9 q hq).same hv.symm, a10.moved hal, a11.moved hal⟩
theorem ke_W_NONE {k : Nat → Nat} {A : Nat → Prop} {U : State} {H : Heap} (h : KE k A U H) : va_Z "SieveDesk$Word" "NONE" "LSieveDesk$Word;" (.ref (k 0)) A U H := h.2.2.1 ("SieveDesk$Word", "NONE", "LSieveDesk$Word;", 0) (by decide)
theorem ke_W_REQUIRE {k : Nat → Nat} {A : Nat → Prop} {U : State} {H : Heap} (h : KE k A U H) : va_Z "SieveDesk$Word" "REQUIRE" "LSieveDesk$Word;" (.ref (k 1)) A U H := h.2.2.1 ("SieveDesk$Word", "REQUIRE", "LSieveDesk$Word;", 1) (by decide)
theorem ke_W_ELSIF {k : Nat → Nat} {A : Nat → Prop} {U : State} {H : Heap} (h : KE k A U H) : va_Z "SieveDesk$Word" "ELSIF" "LSieveDesk$Word;" (.ref (k 2)) A U H := h.2.2.1 ("SieveDesk$Word", "ELSIF", "LSieveDesk$Word;", 2) (by decide)
theorem ke_W_ELSE {k : Nat → Nat} {A : Nat → Prop} {U : State} {H : Heap} (h : KE k A U H) : va_Z "SieveDesk$Word" "ELSE" "LSieveDesk$Word;" (.ref (k 3)) A U H := h.2.2.1 ("SieveDesk$Word", "ELSE", "LSieveDesk$Word;", 3) (by decide)
theorem ke_W_IF {k : Nat → Nat} {A : Nat → Prop} {U : State} {H : Heap} (h : KE k A U H) : va_Z "SieveDesk$Word" "IF" "LSieveDesk$Word;" (.ref (k 4)) A U H := h.2.2.1 ("SieveDesk$Word", "IF", "LSieveDesk$Word;", 4) (by decide)
theorem ke_W_OVER {k : Nat → Nat} {A : Nat → Prop} {U : State} {H : Heap} (h : KE k A U H) : va_Z "SieveDesk$Word" "OVER" "LSieveDesk$Word;" (.ref (k 41)) A U H := h.2.2.1 ("SieveDesk$Word", "OVER", "LSieveDesk$Word;", 41) (by decide)
theorem ke_W_UNDER {k : Nat → Nat} {A : Nat → Prop} {U : State} {H : Heap} (h : KE k A U H) : va_Z "SieveDesk$Word" "UNDER" "LSieveDesk$Word;" (.ref (k 42)) A U H := h.2.2.1 ("SieveDesk$Word", "UNDER", "LSieveDesk$Word;", 42) (by decide)
theorem ke_W_EACH {k : Nat → Nat} {A : Nat → Prop} {U : State} {H : Heap} (h : KE k A U H) : va_Z "SieveDesk$Word" "EACH" "[LSieveDesk$Word;" (.ref (k 80)) A U H := h.2.2.1 ("SieveDesk$Word", "EACH", "[LSieveDesk$Word;", 80) (by decide)
theorem ke_N_EACH {k : Nat → Nat} {A : Nat → Prop} {U : State} {H : Heap} (h : KE k A U H) : va_Z "SieveDesk$Name" "EACH" "[LSieveDesk$Name;" (.ref (k 81)) A U H := h.2.2.1 ("SieveDesk$Name", "EACH", "[LSieveDesk$Name;", 81) (by decide)
theorem ke_l207 {k : Nat → Nat} {A : Nat → Prop} {U : State} {H : Heap} (h : KE k A U H) : vk_R "SieveDesk$Grammar" 59 "qc." (k 207) U := h.2.2.2.2.2.2.2.2.1 ("SieveDesk$Grammar", 59, "qc.", 207) (by decide)
theorem ke_l208 {k : Nat → Nat} {A : Nat → Prop} {U : State} {H : Heap} (h : KE k A U H) : vk_R "SieveDesk$Grammar" 167 "c" (k 208) U := h.2.2.2.2.2.2.2.2.1 ("SieveDesk$Grammar", 167, "c", 208) (by decide)
theorem ke_l209 {k : Nat → Nat} {A : Nat → Prop} {U : State} {H : Heap} (h : KE k A U H) : vk_R "SieveDesk$Grammar" 172 "v" (k 209) U := h.2.2.2.2.2.2.2.2.1 ("SieveDesk$Grammar", 172, "v", 209) (by decide)
theorem ke_l210 {k : Nat → Nat} {A : Nat → Prop} {U : State} {H : Heap} (h : KE k A U H) : vk_R "SieveDesk$Grammar" 174 "tm" (k 210) U := h.2.2.2.2.2.2.2.2.1 ("SieveDesk$Grammar", 174, "tm", 210) (by decide)
theorem ke_l211 {k : Nat → Nat} {A : Nat → Prop} {U : State} {H : Heap} (h : KE k A U H) : vk_R "SieveDesk$Grammar" 176 "g" (k 211) U := h.2.2.2.2.2.2.2.2.1 ("SieveDesk$Grammar", 176, "g", 211) (by decide)
theorem ke_l212 {k : Nat → Nat} {A : Nat → Prop} {U : State} {H : Heap} (h : KE k A U H) : vk_R "SieveDesk$Tokens" 105 "text" (k 212) U := h.2.2.2.2.2.2.2.2.1 ("SieveDesk$Tokens", 105, "text", 212) (by decide)
theorem ke_l213 {k : Nat → Nat} {A : Nat → Prop} {U : State} {H : Heap} (h : KE k A U H) : vk_R "SieveDesk$Tokens" 92 ";,()[]{}" (k 213) U := h.2.2.2.2.2.2.2.2.1 ("SieveDesk$Tokens", 92, ";,()[]{}", 213) (by decide)
theorem ke_l214 {k : Nat → Nat} {A : Nat → Prop} {U : State} {H : Heap} (h : KE k A U H) : vk_R "SieveDesk$Quoted" 43 "!#$%&'*+-/=?^_`{|}~" (k 214) U := h.2.2.2.2.2.2.2.2.1 ("SieveDesk$Quoted", 43, "!#$%&'*+-/=?^_`{|}~", 214) (by decide)
theorem ke_l215 {k : Nat → Nat} {A : Nat → Prop} {U : State} {H : Heap} (h : KE k A U H) : vk_R "SieveDesk$Quoted" 49 "-" (k 215) U := h.2.2.2.2.2.2.2.2.1 ("SieveDesk$Quoted", 49, "-", 215) (by decide)
theorem ke_w {k : Nat → Nat} {A : Nat → Prop} {U : State} {H : Heap} (h : KE k A U H) {i : Nat} (hi : i < 43) : WD k i A U H := h.2.2.2.1 i hi
theorem ke_n {k : Nat → Nat} {A : Nat → Prop} {U : State} {H : Heap} (h : KE k A U H) {i : Nat} (hi : i < 17) : NM k i A U H := h.2.2.2.2.1 i hi
theorem ke_s {k : Nat → Nat} {A : Nat → Prop} {U : State} {H : Heap} (h : KE k A U H) {i : Nat} (hi : i < 116) : ST (k (100 + i)) (k (300 + i)) (k (500 + i)) A U H := h.2.2.2.2.2.1 i hi
theorem ke_tw {k : Nat → Nat} {A : Nat → Prop} {U : State} {H : Heap} (h : KE k A U H) : va_T (.object "SieveDesk$Word") (k 80) 43 (fun i => .ref (k i)) A U H := h.2.2.2.2.2.2.1
theorem ke_tn {k : Nat → Nat} {A : Nat → Prop} {U : State} {H : Heap} (h : KE k A U H) : va_T (.object "SieveDesk$Name") (k 81) 17 (fun i => .ref (k (50 + i))) A U H := h.2.2.2.2.2.2.2.1
theorem ke_cs {k : Nat → Nat} {A : Nat → Prop} {U : State} {H : Heap} (h : KE k A U H) : va_Z "java/lang/String" "COMPACT_STRINGS" "Z" (.int 1) A U H := h.2.2.2.2.2.2.2.2.2.1
theorem ke_sf {k : Nat → Nat} {A : Nat → Prop} {U : State} {H : Heap} (h : KE k A U H) : va_Zq "jdk/internal/util/Preconditions" "SIOOBE_FORMATTER" "Ljava/util/function/BiFunction;" A U H := h.2.2.2.2.2.2.2.2.2.2
/-! a contract's start: the world ws, the constants; its end -/
def PX (dC : Nat → ClassId) (dI : Nat → Nat → Nat) (k : Nat → Nat) (tys : List (ClassId × FieldType)) (ws : va_W) (sz : Nat) (U : State) : Prop := U.heap.size = sz ∧ KE k (va_A ws sz) U U.heap ∧ va_P (dC, dI) cls ws U.heap ∧ va_K (dC, dI) cls tys U ∧ va_D (fun _ => True) ws
def BX (dC : Nat → ClassId) (dI : Nat → Nat → Nat) (tys : List (ClassId × FieldType)) (A : Nat → Prop) (ws : va_W) (t : State) : Prop := va_P (dC, dI) cls ws t.heap ∧ va_K (dC, dI) cls tys t ∧ va_D A ws
def PJ (k : Nat → Nat) (U : State) : Prop := KE k (fun _ => False) U U.heap
theorem fb_X {dC : Nat → ClassId} {dI : Nat → Nat → Nat} {k : Nat → Nat} {tys : List (ClassId × FieldType)} {ws : va_W} {sz : Nat} {av : List Value} : FrameBlind (va_Pc av (PX dC dI k tys ws sz)) := fun a U g mk q => by
  obtain ⟨q0, q1, q2, q3, q4, q5⟩ := q
  exact ⟨q0, q1, q2.same (s := U) (U := U.calling g mk a) rfl, q3, va_K.moved (u := U) (U := U.calling g mk a) (Vm.Alike.refl U.vm) q4, q5⟩
theorem pre_X {dC : Nat → ClassId} {dI : Nat → Nat → Nat} {k : Nat → Nat} {tys : List (ClassId × FieldType)} {ws : va_W} {av : List Value} {A : Nat → Prop} {s : State} {H : Heap} {locs : List Loc} (hE : KE k A s s.heap) (hS : va_S A s.heap H locs) (hF : ∀ q, va_A ws H.size q → A q) (hP : va_P (dC, dI) cls ws H) (hK : va_K (dC, dI) cls tys s) (hD : va_D A ws) : ∀ U : State, U.heap = H → s.WarmedH U.vm → va_Pc av (PX dC dI k tys ws H.size) av.toArray U := fun U hU hW => by
  subst hU
  exact ⟨rfl, rfl, ((hE.kept hS.2.1).narrow hF).warm hW, hP, va_K.moved hW.alike hK, hD.weaken (fun _ _ _ _ => trivial)⟩
theorem fb_J {k : Nat → Nat} {av : List Value} : FrameBlind (va_Pc av (PJ k)) := fun a U g mk q => by
  obtain ⟨q0, q1⟩ := q
  exact ⟨q0, q1.same (s := U) (U := U.calling g mk a) rfl⟩
theorem pre_J {k : Nat → Nat} {av : List Value} {A : Nat → Prop} {s : State} {H : Heap} {locs : List Loc} (hE : KE k A s s.heap) (hS : va_S A s.heap H locs) : ∀ U : State, U.heap = H → s.WarmedH U.vm → va_Pc av (PJ k) av.toArray U := fun U hU hW => by
  subst hU
  exact ⟨rfl, ((hE.kept hS.2.1).narrow (fun _ h => h.elim)).warm hW⟩
section WEV
variable {p : Program} {l : Launch} {e : Env} {R : Room} {s : State} {m : MethodId} {args : Array Value} {below : List Frame} {meth : Method} {c : Code} {H : Heap} {locs : List Loc} {cells slots : Nat} {Q : State → Prop} {cc : ByteArray} {pc : Nat} {ls : Array Slot} {rest : List Value}
theorem lv_ev {x y : Int32} (h : x = y) (kk : W p l e R s m args below meth c H locs cells slots Q (F0 m pc ls (.int y :: rest))) : W p l e R s m args below meth c H locs cells slots Q (F0 m pc ls (.int x :: rest)) := h ▸ kk
theorem vk_getfN (hexec : p.tables.exec = Jvm.exec) (hb : c.code = cc) {o n d own ref host : String} {index q : Nat} {v : Value} {A : Nat → Prop} (hE : va_OF o n d v q A s s.heap) (hS : va_S A s.heap H locs) (hown : s.vm.findClass own = some m.cls) (hlink : (Cond.fieldLinkNest own index ref n d host).before args s = true) (hsame : ∀ x, s.fieldFound? o n d = some x → s.fieldFound? ref n d = some x) (hdg : decode cc pc = .ok (.getfield index, 3)) (kk : W p l e R s m args below meth c H locs cells slots Q (F0 m (pc + 3) ls (v :: rest))) : W p l e R s m args below meth c H locs cells slots Q (F0 m pc ls (.ref q :: rest)) := by
  obtain ⟨cf, k, i, f, cell, h1, h2, h3, h4, h5, h6⟩ := hE
  exact va_Wgetf hexec hb hown hlink (hsame _ h1) h2 (by rw [hS.2.1 q (Array.getElem?_eq_some_iff.mp h3).1 h6]; exact h3) h4 h5 rfl rfl hdg kk
theorem va_lastG {D : va_G} {cl : List vw_C} {tys : List (ClassId × FieldType)} {ws : va_W} {A : Nat → Prop} {H0 : Heap} {a : Nat} (hexec : p.tables.exec = Jvm.exec) (hb : c.code = cc) (hK : va_K D cl tys s) (hP : va_P D cl ws H) (hD : va_D A ws) (hS : va_S A H0 H locs) (q0 t0 : Nat) {cA : ClassId} {n : Nat} {f : Nat → Int64} (ha : ws[q0]? = some (a, .inl (cA, n, .inr (.inl f)))) (ht : tys[t0]? = some (cA, .long)) {i : Int32} {x : Int64} (hin : vp_in i n) (hdg : decode cc pc = .ok (.lastore, 1)) (kk : ∀ (f1 : Nat → Int64) (H1 : Heap) (locs1 : List Loc), va_P D cl (ws.set q0 (a, .inl (cA, n, .inr (.inl f1)))) H1 → va_D A (ws.set q0 (a, .inl (cA, n, .inr (.inl f1)))) → va_S A H0 H1 locs1 → W p l e R s m args below meth c H1 locs1 cells slots Q (F0 m (pc + 1) ls rest)) : W p l e R s m args below meth c H locs cells slots Q (F0 m pc ls (.long x :: .int i :: .ref a :: rest)) := va_last hexec hb hK hP hD hS q0 t0 ha ht hin hdg (fun H1 locs1 h1 h2 h3 => kk _ H1 locs1 h1 h2 h3)
theorem va_iastG {D : va_G} {cl : List vw_C} {tys : List (ClassId × FieldType)} {ws : va_W} {A : Nat → Prop} {H0 : Heap} {a : Nat} (hexec : p.tables.exec = Jvm.exec) (hb : c.code = cc) (hK : va_K D cl tys s) (hP : va_P D cl ws H) (hD : va_D A ws) (hS : va_S A H0 H locs) (q0 t0 : Nat) {cA : ClassId} {n : Nat} {f : Nat → Int32} (ha : ws[q0]? = some (a, .inl (cA, n, .inl f))) (ht : tys[t0]? = some (cA, .int)) {i : Int32} {x : Int32} (hin : vp_in i n) (hdg : decode cc pc = .ok (.iastore, 1)) (kk : ∀ (f1 : Nat → Int32) (H1 : Heap) (locs1 : List Loc), va_P D cl (ws.set q0 (a, .inl (cA, n, .inl f1))) H1 → va_D A (ws.set q0 (a, .inl (cA, n, .inl f1))) → va_S A H0 H1 locs1 → W p l e R s m args below meth c H1 locs1 cells slots Q (F0 m (pc + 1) ls rest)) : W p l e R s m args below meth c H locs cells slots Q (F0 m pc ls (.int x :: .int i :: .ref a :: rest)) := va_iast hexec hb hK hP hD hS q0 t0 ha ht hin hdg (fun H1 locs1 h1 h2 h3 => kk _ H1 locs1 h1 h2 h3)
end WEV
theorem oo_recv {E : String} {t : Nat} {A : Nat → Prop} {s : State} {H : Heap} {locs : List Loc} (h : va_O E t A s s.heap) (hS : va_S A s.heap H locs) : ∃ cell : Cell, H[t]? = some cell ∧ cell.vm.isStatics = false ∧ s.vm.findClass E = some cell.cls := by
  obtain ⟨cell, h1, h2, h3, h4⟩ := h
  exact ⟨cell, by rw [hS.2.1 t (Array.getElem?_eq_some_iff.mp h1).1 h4]; exact h1, h2, h3⟩
