def gb_nl : List String := ["MorningBill$Acts", "MorningBill$Choice", "MorningBill$Groups", "MorningBill$Morning", "MorningBill$Rivals", "MorningBill$Sights", "MorningBill$Slots", "MorningBill$Street", "MorningBill$Text", "MorningBill$Walk", "MorningBill", "MorningBillModel", "MorningBillLaw", "java/lang/Integer", "java/lang/Math"]
def gb_n (c : Nat) : String := gb_nl.getD c ""
def gb_Fl : List (List (String × String × String × Bool)) := [[("MorningBill$Acts", "before", "[LMorningBill$Morning;", true), ("MorningBill$Acts", "next", "I", false), ("MorningBill$Acts", "size", "I", false)],
  [("MorningBill$Choice", "walk", "LMorningBill$Walk;", true), ("MorningBill$Choice", "plan", "I", false), ("MorningBill$Choice", "comes", "I", false)],
  [("MorningBill$Groups", "street", "LMorningBill$Street;", true), ("MorningBill$Groups", "walk", "LMorningBill$Walk;", true), ("MorningBill$Groups", "worth", "[I", true), ("MorningBill$Groups", "comes", "[I", true)],
  [("MorningBill$Morning", "smells", "[I", true), ("MorningBill$Morning", "chimneys", "I", false), ("MorningBill$Morning", "pennies", "I", false), ("MorningBill$Morning", "hour", "I", false)],
  [("MorningBill$Rivals", "street", "LMorningBill$Street;", true), ("MorningBill$Rivals", "walk", "LMorningBill$Walk;", true), ("MorningBill$Rivals", "ofFirst", "[[I", true), ("MorningBill$Rivals", "ofSecond", "[[I", true), ("MorningBill$Rivals", "firstHas", "[[I", true), ("MorningBill$Rivals", "secondHas", "[[I", true), ("MorningBill$Rivals", "pairsAtRest", "I", false), ("MorningBill$Rivals", "firstAtRest", "I", false)],
  [("MorningBill$Sights", "noses", "[I", true), ("MorningBill$Sights", "hours", "[I", true), ("MorningBill$Sights", "had", "[Z", true), ("MorningBill$Sights", "size", "I", false), ("MorningBill$Sights", "plans", "I", false), ("MorningBill$Sights", "hoursOfAll", "I", false), ("MorningBill$Sights", "hoursOfNone", "I", false)],
  [("MorningBill$Slots", "kept", "[LMorningBill$Morning;", true), ("MorningBill$Slots", "isKept", "[Z", true)],
  [("MorningBill$Street", "baker", "I", false), ("MorningBill$Street", "strength", "I", false), ("MorningBill$Street", "cost", "I", false), ("MorningBill$Street", "winds", "I", false), ("MorningBill$Street", "noses", "I", false), ("MorningBill$Street", "wind", "[I", true), ("MorningBill$Street", "cell", "[I", true), ("MorningBill$Street", "wants", "[I", true), ("MorningBill$Street", "price", "[I", true), ("MorningBill$Street", "contract", "[I", true)],
  [("MorningBill$Text", "letters", "[I", true), ("MorningBill$Text", "length", "I", false)],
  [("MorningBill$Walk", "street", "LMorningBill$Street;", true), ("MorningBill$Walk", "smells", "[[I", true), ("MorningBill$Walk", "paid", "[[I", true), ("MorningBill$Walk", "pennies", "[I", true), ("MorningBill$Walk", "had", "[I", true), ("MorningBill$Walk", "has", "[I", true), ("MorningBill$Walk", "chimneys", "I", false), ("MorningBill$Walk", "baker", "I", false), ("MorningBill$Walk", "plan", "I", false), ("MorningBill$Walk", "turns", "I", false), ("MorningBill$Walk", "followed", "I", false), ("MorningBill$Walk", "firstHour", "I", false), ("MorningBill$Walk", "left", "I", false)],
  [("MorningBill", "text", "LMorningBill$Text;", true), ("MorningBill", "street", "LMorningBill$Street;", true), ("MorningBill", "now", "LMorningBill$Morning;", true), ("MorningBill", "supposed", "LMorningBill$Morning;", true), ("MorningBill", "acts", "LMorningBill$Acts;", true), ("MorningBill", "slots", "LMorningBill$Slots;", true), ("MorningBill", "sights", "LMorningBill$Sights;", true), ("MorningBill", "walk", "LMorningBill$Walk;", true), ("MorningBill", "choice", "LMorningBill$Choice;", true), ("MorningBill", "groups", "LMorningBill$Groups;", true), ("MorningBill", "rivals", "LMorningBill$Rivals;", true), ("MorningBill", "theSeed", "J", false)],
  [("MorningBillModel", "baker", "I", false), ("MorningBillModel", "strength", "I", false), ("MorningBillModel", "cost", "I", false), ("MorningBillModel", "winds", "I", false), ("MorningBillModel", "noses", "I", false), ("MorningBillModel", "wind", "[I", true), ("MorningBillModel", "blows", "[I", true), ("MorningBillModel", "nose", "[I", true), ("MorningBillModel", "read", "[I", true), ("MorningBillModel", "readWind", "[I", true), ("MorningBillModel", "readNose", "[I", true), ("MorningBillModel", "readWinds", "I", false), ("MorningBillModel", "readNoses", "I", false), ("MorningBillModel", "now", "[I", true), ("MorningBillModel", "text", "[I", true), ("MorningBillModel", "length", "I", false), ("MorningBillModel", "at", "I", false), ("MorningBillModel", "faultAt", "I", false), ("MorningBillModel", "then", "[I", true), ("MorningBillModel", "acts", "I", false), ("MorningBillModel", "next", "I", false), ("MorningBillModel", "row", "[I", true), ("MorningBillModel", "hadBy", "I", false), ("MorningBillModel", "bestPlan", "I", false), ("MorningBillModel", "bests", "[I", true), ("MorningBillModel", "seen", "I", false), ("MorningBillModel", "seenOf", "[I", true), ("MorningBillModel", "seenAt", "[I", true), ("MorningBillModel", "seenHas", "[Z", true), ("MorningBillModel", "parts", "J", false), ("MorningBillModel", "firstHas", "I", false), ("MorningBillModel", "secondHas", "I", false), ("MorningBillModel", "firsts", "[I", true), ("MorningBillModel", "seconds", "[I", true), ("MorningBillModel", "seed", "J", false), ("MorningBillModel", "isKept", "[Z", true), ("MorningBillModel", "kept", "[I", true)]]
def gb_F (c : Nat) : u_T := fun k => (gb_Fl.getD c []).getD k ("", "", "", false)
def gb_Kl : List Nat := [3, 3, 4, 4, 8, 7, 2, 10, 2, 13, 12, 37]
def gb_K (c : Nat) : Nat := gb_Kl.getD c 0
def gb_Tl : List (List FieldType) := [[(.array (.object "MorningBill$Morning")), .int, .int],
  [(.object "MorningBill$Walk"), .int, .int],
  [(.object "MorningBill$Street"), (.object "MorningBill$Walk"), (.array .int), (.array .int)],
  [(.array .int), .int, .int, .int],
  [(.object "MorningBill$Street"), (.object "MorningBill$Walk"), (.array (.array .int)), (.array (.array .int)), (.array (.array .int)), (.array (.array .int)), .int, .int],
  [(.array .int), (.array .int), (.array .boolean), .int, .int, .int, .int],
  [(.array (.object "MorningBill$Morning")), (.array .boolean)],
  [.int, .int, .int, .int, .int, (.array .int), (.array .int), (.array .int), (.array .int), (.array .int)],
  [(.array .int), .int],
  [(.object "MorningBill$Street"), (.array (.array .int)), (.array (.array .int)), (.array .int), (.array .int), (.array .int), .int, .int, .int, .int, .int, .int, .int],
  [(.object "MorningBill$Text"), (.object "MorningBill$Street"), (.object "MorningBill$Morning"), (.object "MorningBill$Morning"), (.object "MorningBill$Acts"), (.object "MorningBill$Slots"), (.object "MorningBill$Sights"), (.object "MorningBill$Walk"), (.object "MorningBill$Choice"), (.object "MorningBill$Groups"), (.object "MorningBill$Rivals"), .long],
  [.int, .int, .int, .int, .int, (.array .int), (.array .int), (.array .int), (.array .int), (.array .int), (.array .int), .int, .int, (.array .int), (.array .int), .int, .int, .int, (.array .int), .int, .int, (.array .int), .int, .int, (.array .int), .int, (.array .int), (.array .int), (.array .boolean), .long, .int, .int, (.array .int), (.array .int), .long, (.array .boolean), (.array .int)]]
def gb_ty (c : Nat) : Nat → FieldType := fun k => (gb_Tl.getD c []).getD k .int
/-- the kind of a slot: 0 an int, 1 a long, 2 a reference -/
def gb_Sl : List (List Nat) := [[2, 0, 0], [2, 0, 0], [2, 2, 2, 2], [2, 0, 0, 0], [2, 2, 2, 2, 2, 2, 0, 0], [2, 2, 2, 0, 0, 0, 0], [2, 2], [0, 0, 0, 0, 0, 2, 2, 2, 2, 2], [2, 0], [2, 2, 2, 2, 2, 2, 0, 0, 0, 0, 0, 0, 0], [2, 2, 2, 2, 2, 2, 2, 2, 2, 2, 2, 1], [0, 0, 0, 0, 0, 2, 2, 2, 2, 2, 2, 0, 0, 2, 2, 0, 0, 0, 2, 0, 0, 2, 0, 0, 2, 0, 2, 2, 2, 1, 0, 0, 2, 2, 1, 2, 2]]
def gb_s (c k : Nat) : Nat := (gb_Sl.getD c []).getD k 9
def gb_cl : List vw_C := (List.range 12).map (fun c => (gb_n c, gb_F c, gb_K c))
def gb_t : List Cond := lw_tbl.filter goodWord
theorem gb_tin {w : Cond} (h : w ∈ lw_tbl) (g : goodWord w = true) : w ∈ gb_t := List.mem_filter.mpr ⟨h, g⟩
theorem gb_at {w : Cond} (i : Nat) (h : (lw_tbl[i]? == some w) = true) : w ∈ lw_tbl := List.mem_of_getElem? (i := i) (by simpa using h)
theorem gb_cl_get {c : Nat} (h : c < 12) : gb_cl[c]? = some (gb_n c, gb_F c, gb_K c) := by
  unfold gb_cl
  rw [List.getElem?_map, List.getElem?_range h]
  rfl
theorem gb_nm : ∀ c, c < 12 → ∀ a, a < gb_K c → ∀ b, b < gb_K c → a ≠ b → (gb_F c a).2.1 ≠ (gb_F c b).2.1 := by decide +kernel
theorem gb_tok : ∀ c, c < 12 → ∀ k, k < gb_K c → parseFieldDescriptor (gb_F c k).2.2.1 = some (gb_ty c k) := by decide +kernel
set_option maxRecDepth 100000 in
theorem gb_lay0 : ∀ c, c < 12 → ∀ w ∈ u_ws (gb_n c) (gb_F c) (gb_K c), w ∈ lw_tbl ∧ goodWord w = true := by decide +kernel
theorem gb_lay {c : Nat} (h : c < 12) : ∀ w ∈ u_ws (gb_n c) (gb_F c) (gb_K c), w ∈ gb_t := fun w hw => gb_tin (gb_lay0 c h w hw).1 (gb_lay0 c h w hw).2
/-- the methods: name, bytes, locals, answer, class, kind (0 static, 1 of an object, 2 a constructor), parameters; room: frames, words, cells, slots -/
abbrev gb_R : Type := MethodName × ByteArray × Nat × Option FieldType × Nat × Nat × Nat × Nat × Nat × Nat × Nat
def gb_M0 : List gb_R := [
  (⟨"MorningBill$Acts", "<init>", "()V"⟩, prog_2_method_1_code, 2, none, 0, 2, 0, 2, 40, 29, 210),
  (⟨"MorningBill$Acts", "forget", "()V"⟩, prog_2_method_2_code, 1, none, 0, 1, 0, 0, 0, 0, 0),
  (⟨"MorningBill$Acts", "remember", "(LMorningBill$Morning;)V"⟩, prog_2_method_3_code, 2, none, 0, 1, 1, 2, 47, 0, 0),
  (⟨"MorningBill$Acts", "takeBack", "(LMorningBill$Morning;)Z"⟩, prog_2_method_4_code, 2, (some .boolean), 0, 1, 1, 2, 47, 0, 0),
  (⟨"MorningBill$Choice", "<init>", "(LMorningBill$Walk;)V"⟩, prog_3_method_1_code, 2, none, 1, 2, 1, 1, 20, 0, 0),
  (⟨"MorningBill$Choice", "findBest", "()V"⟩, prog_3_method_2_code, 4, none, 1, 1, 0, 4, 100, 0, 0),
  (⟨"MorningBill$Choice", "findOnly", "(I)Z"⟩, prog_3_method_3_code, 5, (some .boolean), 1, 1, 1, 4, 100, 0, 0),
  (⟨"MorningBill$Choice", "isSmaller", "(II)Z"⟩, prog_3_method_4_code, 3, (some .boolean), 1, 0, 2, 1, 20, 0, 0),
  (⟨"MorningBill$Groups", "<init>", "(LMorningBill$Street;LMorningBill$Walk;)V"⟩, prog_4_method_1_code, 3, none, 2, 2, 2, 1, 20, 2, 128),
  (⟨"MorningBill$Groups", "weigh", "()V"⟩, prog_4_method_2_code, 4, none, 2, 1, 0, 4, 100, 0, 0),
  (⟨"MorningBill$Groups", "addUp", "(I)V"⟩, prog_4_method_3_code, 5, none, 2, 1, 1, 1, 21, 0, 0),
  (⟨"MorningBill$Groups", "shareAbove", "(I)J"⟩, prog_4_method_4_code, 8, (some .long), 2, 1, 1, 1, 21, 0, 0),
  (⟨"MorningBill$Morning", "<init>", "()V"⟩, prog_5_method_1_code, 1, none, 3, 2, 0, 1, 20, 1, 10),
  (⟨"MorningBill$Morning", "begin", "()V"⟩, prog_5_method_2_code, 1, none, 3, 1, 0, 1, 21, 0, 0),
  (⟨"MorningBill$Morning", "clearSmells", "()V"⟩, prog_5_method_3_code, 2, none, 3, 1, 0, 0, 0, 0, 0),
  (⟨"MorningBill$Morning", "copyFrom", "(LMorningBill$Morning;)V"⟩, prog_5_method_4_code, 2, none, 3, 1, 1, 1, 26, 0, 0),
  (⟨"MorningBill$Rivals", "<init>", "(LMorningBill$Street;LMorningBill$Walk;)V"⟩, prog_6_method_1_code, 3, none, 4, 2, 2, 1, 20, 40, 1062),
  (⟨"MorningBill$Rivals", "meet", "(LMorningBill$Morning;LMorningBill$Morning;I)V"⟩, prog_6_method_2_code, 6, none, 4, 1, 3, 5, 126, 0, 0),
  (⟨"MorningBill$Rivals", "follow", "(LMorningBill$Morning;I[[I)V"⟩, prog_6_method_3_code, 7, none, 4, 1, 3, 4, 100, 0, 0),
  (⟨"MorningBill$Rivals", "divide", "(II)V"⟩, prog_6_method_4_code, 11, none, 4, 1, 2, 1, 26, 0, 0)]
def gb_M1 : List gb_R := [
  (⟨"MorningBill$Rivals", "findRest", "()V"⟩, prog_6_method_5_code, 3, none, 4, 1, 0, 1, 23, 0, 0),
  (⟨"MorningBill$Rivals", "isAtRest", "(II)Z"⟩, prog_6_method_6_code, 4, (some .boolean), 4, 1, 2, 0, 0, 0, 0),
  (⟨"MorningBill$Rivals", "hourOf", "(I)I"⟩, prog_6_method_7_code, 2, (some .int), 4, 1, 1, 0, 0, 0, 0),
  (⟨"MorningBill$Sights", "<init>", "()V"⟩, prog_7_method_1_code, 1, none, 5, 2, 0, 1, 20, 3, 18),
  (⟨"MorningBill$Sights", "add", "(IIZ)Z"⟩, prog_7_method_2_code, 4, (some .boolean), 5, 1, 3, 0, 0, 0, 0),
  (⟨"MorningBill$Sights", "explain", "(LMorningBill$Street;LMorningBill$Walk;)V"⟩, prog_7_method_3_code, 5, none, 5, 1, 2, 4, 100, 0, 0),
  (⟨"MorningBill$Sights", "agree", "(LMorningBill$Street;LMorningBill$Walk;)Z"⟩, prog_7_method_4_code, 5, (some .boolean), 5, 1, 2, 1, 21, 0, 0),
  (⟨"MorningBill$Slots", "<init>", "()V"⟩, prog_8_method_1_code, 2, none, 6, 2, 0, 2, 40, 6, 32),
  (⟨"MorningBill$Slots", "forget", "()V"⟩, prog_8_method_2_code, 2, none, 6, 1, 0, 0, 0, 0, 0),
  (⟨"MorningBill$Slots", "put", "(ILMorningBill$Morning;)V"⟩, prog_8_method_3_code, 3, none, 6, 1, 2, 2, 47, 0, 0),
  (⟨"MorningBill$Slots", "give", "(ILMorningBill$Morning;)Z"⟩, prog_8_method_4_code, 3, (some .boolean), 6, 1, 2, 2, 47, 0, 0),
  (⟨"MorningBill$Street", "<init>", "()V"⟩, prog_9_method_1_code, 1, none, 7, 2, 0, 1, 20, 5, 32),
  (⟨"MorningBill$Street", "readFrom", "(LMorningBill$Text;)V"⟩, prog_9_method_2_code, 4, none, 7, 1, 1, 2, 42, 0, 0),
  (⟨"MorningBill$Street", "windOf", "(I)I"⟩, prog_9_method_3_code, 1, (some .int), 7, 0, 1, 0, 0, 0, 0),
  (⟨"MorningBill$Street", "hasNose", "(I)Z"⟩, prog_9_method_4_code, 2, (some .boolean), 7, 1, 1, 0, 0, 0, 0),
  (⟨"MorningBill$Street", "whoHas", "([I)I"⟩, prog_9_method_5_code, 4, (some .int), 7, 1, 1, 0, 0, 0, 0),
  (⟨"MorningBill$Street", "due", "(IZZ)I"⟩, prog_9_method_6_code, 4, (some .int), 7, 1, 3, 0, 0, 0, 0),
  (⟨"MorningBill$Text", "<init>", "()V"⟩, prog_10_method_1_code, 1, none, 8, 2, 0, 1, 20, 1, 48),
  (⟨"MorningBill$Text", "add", "(I)Z"⟩, prog_10_method_2_code, 2, (some .boolean), 8, 1, 1, 0, 0, 0, 0),
  (⟨"MorningBill$Text", "letterAt", "(I)I"⟩, prog_10_method_3_code, 2, (some .int), 8, 1, 1, 0, 0, 0, 0)]
def gb_M2 : List gb_R := [
  (⟨"MorningBill$Text", "figure", "(I)I"⟩, prog_10_method_4_code, 2, (some .int), 8, 1, 1, 1, 21, 0, 0),
  (⟨"MorningBill$Text", "windsTold", "()I"⟩, prog_10_method_5_code, 2, (some .int), 8, 1, 0, 1, 21, 0, 0),
  (⟨"MorningBill$Text", "faultPlace", "()I"⟩, prog_10_method_6_code, 3, (some .int), 8, 1, 0, 5, 110, 0, 0),
  (⟨"MorningBill$Text", "isWhole", "(I)Z"⟩, prog_10_method_7_code, 2, (some .boolean), 8, 1, 1, 0, 0, 0, 0),
  (⟨"MorningBill$Text", "fits", "(II)Z"⟩, prog_10_method_8_code, 4, (some .boolean), 8, 1, 2, 4, 87, 0, 0),
  (⟨"MorningBill$Text", "fitsHead", "(I)Z"⟩, prog_10_method_9_code, 2, (some .boolean), 8, 1, 1, 3, 65, 0, 0),
  (⟨"MorningBill$Text", "fitsNose", "(II)Z"⟩, prog_10_method_10_code, 3, (some .boolean), 8, 1, 2, 3, 65, 0, 0),
  (⟨"MorningBill$Text", "isFigure", "(III)Z"⟩, prog_10_method_11_code, 4, (some .boolean), 8, 1, 3, 2, 42, 0, 0),
  (⟨"MorningBill$Text", "isWind", "(I)Z"⟩, prog_10_method_12_code, 1, (some .boolean), 8, 0, 1, 0, 0, 0, 0),
  (⟨"MorningBill$Walk", "<init>", "(LMorningBill$Street;)V"⟩, prog_11_method_1_code, 2, none, 9, 2, 1, 1, 20, 23, 189),
  (⟨"MorningBill$Walk", "start", "(LMorningBill$Morning;I)V"⟩, prog_11_method_2_code, 3, none, 9, 1, 2, 1, 26, 0, 0),
  (⟨"MorningBill$Walk", "sets", "()I"⟩, prog_11_method_3_code, 1, (some .int), 9, 1, 0, 0, 0, 0, 0),
  (⟨"MorningBill$Walk", "set", "(I)I"⟩, prog_11_method_4_code, 4, (some .int), 9, 1, 1, 1, 21, 0, 0),
  (⟨"MorningBill$Walk", "take", "(II)V"⟩, prog_11_method_5_code, 6, none, 9, 1, 2, 3, 75, 0, 0),
  (⟨"MorningBill$Walk", "pass", "(I)V"⟩, prog_11_method_6_code, 6, none, 9, 1, 1, 2, 50, 0, 0),
  (⟨"MorningBill$Walk", "drift", "([I[II)V"⟩, prog_11_method_7_code, 6, none, 9, 0, 3, 0, 0, 0, 0),
  (⟨"MorningBill$Walk", "emptyChimneys", "([I)V"⟩, prog_11_method_8_code, 3, none, 9, 1, 1, 1, 21, 0, 0),
  (⟨"MorningBill$Walk", "settle", "(IZZ)V"⟩, prog_11_method_9_code, 8, none, 9, 1, 3, 1, 23, 0, 0),
  (⟨"MorningBill$Walk", "comes", "()I"⟩, prog_11_method_10_code, 1, (some .int), 9, 1, 0, 0, 0, 0, 0),
  (⟨"MorningBill$Walk", "comesInHour", "(I)I"⟩, prog_11_method_11_code, 2, (some .int), 9, 1, 1, 0, 0, 0, 0)]
def gb_M3 : List gb_R := [
  (⟨"MorningBill$Walk", "paidBy", "(I)I"⟩, prog_11_method_12_code, 2, (some .int), 9, 1, 1, 0, 0, 0, 0),
  (⟨"MorningBill$Walk", "whoHad", "()I"⟩, prog_11_method_13_code, 1, (some .int), 9, 1, 0, 0, 0, 0, 0),
  (⟨"MorningBill$Walk", "leadOneHourOn", "(LMorningBill$Morning;)V"⟩, prog_11_method_14_code, 2, none, 9, 1, 1, 1, 26, 0, 0),
  (⟨"MorningBill", "<init>", "()V"⟩, prog_1_method_1_code, 1, none, 10, 2, 0, 3, 61, 122, 1799),
  (⟨"MorningBill", "write", "(I)I"⟩, prog_1_method_2_code, 2, (some .int), 10, 1, 1, 1, 21, 0, 0),
  (⟨"MorningBill", "wipe", "()I"⟩, prog_1_method_3_code, 2, (some .int), 10, 1, 0, 0, 0, 0, 0),
  (⟨"MorningBill", "fault", "()I"⟩, prog_1_method_4_code, 1, (some .int), 10, 1, 0, 6, 132, 0, 0),
  (⟨"MorningBill", "street", "()I"⟩, prog_1_method_5_code, 1, (some .int), 10, 1, 0, 6, 132, 0, 0),
  (⟨"MorningBill", "smell", "(I)I"⟩, prog_1_method_6_code, 2, (some .int), 10, 1, 1, 1, 20, 0, 0),
  (⟨"MorningBill", "wind", "(I)I"⟩, prog_1_method_7_code, 2, (some .int), 10, 1, 1, 0, 0, 0, 0),
  (⟨"MorningBill", "nose", "(II)I"⟩, prog_1_method_8_code, 3, (some .int), 10, 1, 2, 1, 23, 0, 0),
  (⟨"MorningBill", "pennies", "()I"⟩, prog_1_method_9_code, 1, (some .int), 10, 1, 0, 0, 0, 0, 0),
  (⟨"MorningBill", "hour", "(Z)I"⟩, prog_1_method_10_code, 2, (some .int), 10, 1, 1, 4, 100, 0, 0),
  (⟨"MorningBill", "chimney", "(I)I"⟩, prog_1_method_11_code, 2, (some .int), 10, 1, 1, 3, 68, 0, 0),
  (⟨"MorningBill", "undo", "()I"⟩, prog_1_method_12_code, 1, (some .int), 10, 1, 0, 3, 68, 0, 0),
  (⟨"MorningBill", "by", "(I)I"⟩, prog_1_method_13_code, 2, (some .int), 10, 1, 1, 5, 121, 0, 0),
  (⟨"MorningBill", "best", "(Z)I"⟩, prog_1_method_14_code, 2, (some .int), 10, 1, 1, 5, 123, 0, 0),
  (⟨"MorningBill", "bestChimney", "()I"⟩, prog_1_method_15_code, 4, (some .int), 10, 1, 0, 6, 144, 0, 0),
  (⟨"MorningBill", "share", "(IZ)I"⟩, prog_1_method_16_code, 3, (some .int), 10, 1, 2, 5, 123, 0, 0),
  (⟨"MorningBill", "judge", "(II)I"⟩, prog_1_method_17_code, 4, (some .int), 10, 1, 2, 5, 121, 0, 0)]
def gb_M4 : List gb_R := [
  (⟨"MorningBill", "had", "(I)I"⟩, prog_1_method_18_code, 2, (some .int), 10, 1, 1, 5, 121, 0, 0),
  (⟨"MorningBill", "only", "(I)I"⟩, prog_1_method_19_code, 2, (some .int), 10, 1, 1, 5, 124, 0, 0),
  (⟨"MorningBill", "see", "(IIZ)I"⟩, prog_1_method_20_code, 4, (some .int), 10, 1, 3, 1, 23, 0, 0),
  (⟨"MorningBill", "unsee", "()I"⟩, prog_1_method_21_code, 2, (some .int), 10, 1, 0, 0, 0, 0, 0),
  (⟨"MorningBill", "when", "(I)I"⟩, prog_1_method_22_code, 2, (some .int), 10, 1, 1, 5, 124, 0, 0),
  (⟨"MorningBill", "mean", "(IIZ)J"⟩, prog_1_method_23_code, 4, (some .long), 10, 1, 3, 5, 130, 0, 0),
  (⟨"MorningBill", "fair", "(IIIZ)J"⟩, prog_1_method_24_code, 5, (some .long), 10, 1, 4, 5, 130, 0, 0),
  (⟨"MorningBill", "bakers", "(II)I"⟩, prog_1_method_25_code, 3, (some .int), 10, 1, 2, 6, 151, 0, 0),
  (⟨"MorningBill", "seed", "(J)J"⟩, prog_1_method_26_code, 5, (some .long), 10, 1, 1, 0, 0, 0, 0),
  (⟨"MorningBill", "mornings", "(I)I"⟩, prog_1_method_27_code, 4, (some .int), 10, 1, 1, 5, 121, 0, 0),
  (⟨"MorningBill", "keep", "(I)I"⟩, prog_1_method_28_code, 2, (some .int), 10, 1, 1, 3, 69, 0, 0),
  (⟨"MorningBill", "again", "(I)I"⟩, prog_1_method_29_code, 2, (some .int), 10, 1, 1, 3, 69, 0, 0),
  (⟨"MorningBill", "count", "(I)I"⟩, prog_1_method_30_code, 2, (some .int), 10, 1, 1, 1, 23, 0, 0),
  (⟨"MorningBill", "isCell", "(I)Z"⟩, prog_1_method_31_code, 1, (some .boolean), 10, 0, 1, 0, 0, 0, 0),
  (⟨"MorningBill", "isPlan", "(I)Z"⟩, prog_1_method_32_code, 1, (some .boolean), 10, 0, 1, 0, 0, 0, 0),
  (⟨"MorningBill", "areTenths", "(I)Z"⟩, prog_1_method_33_code, 1, (some .boolean), 10, 0, 1, 0, 0, 0, 0),
  (⟨"MorningBill", "isIn", "(II)Z"⟩, prog_1_method_34_code, 2, (some .boolean), 10, 0, 2, 0, 0, 0, 0),
  (⟨"MorningBill", "hoursLeft", "()I"⟩, prog_1_method_35_code, 1, (some .int), 10, 1, 0, 0, 0, 0, 0),
  (⟨"MorningBill", "follow", "(I)V"⟩, prog_1_method_36_code, 2, none, 10, 1, 1, 4, 100, 0, 0),
  (⟨"MorningBill", "figureAt", "(III)I"⟩, prog_1_method_37_code, 4, (some .int), 10, 0, 3, 0, 0, 0, 0)]
def gb_M5 : List gb_R := [
  (⟨"MorningBill", "planOfFigures", "(II)I"⟩, prog_1_method_38_code, 5, (some .int), 10, 1, 2, 1, 23, 0, 0),
  (⟨"MorningBill", "planOfSeed", "()I"⟩, prog_1_method_39_code, 3, (some .int), 10, 1, 0, 0, 0, 0, 0),
  (⟨"MorningBill", "meanAbove", "(III)J"⟩, prog_1_method_40_code, 11, (some .long), 10, 1, 3, 4, 100, 0, 0),
  (⟨"MorningBill", "power", "(II)J"⟩, prog_1_method_41_code, 5, (some .long), 10, 0, 2, 0, 0, 0, 0),
  (⟨"MorningBill", "told", "(JJZ)J"⟩, prog_1_method_42_code, 7, (some .long), 10, 0, 3, 2, 52, 0, 0),
  (⟨"MorningBill", "commonDivisor", "(JJ)J"⟩, prog_1_method_43_code, 7, (some .long), 10, 0, 2, 1, 26, 0, 0),
  (⟨"MorningBillModel", "<init>", "()V"⟩, prog_13_method_1_code, 1, none, 11, 2, 0, 1, 20, 18, 678),
  (⟨"MorningBillModel", "in", "(JJJ)Z"⟩, prog_13_method_3_code, 6, (some .boolean), 11, 0, 3, 0, 0, 0, 0),
  (⟨"MorningBillModel", "has", "(II)Z"⟩, prog_13_method_4_code, 2, (some .boolean), 11, 0, 2, 0, 0, 0, 0),
  (⟨"MorningBillModel", "ones", "(I)I"⟩, prog_13_method_5_code, 3, (some .int), 11, 0, 1, 0, 0, 0, 0),
  (⟨"MorningBillModel", "write", "(I)I"⟩, prog_13_method_6_code, 2, (some .int), 11, 1, 1, 1, 25, 0, 0),
  (⟨"MorningBillModel", "wipe", "()I"⟩, prog_13_method_7_code, 2, (some .int), 11, 1, 0, 0, 0, 0, 0),
  (⟨"MorningBillModel", "figure", "(II)I"⟩, prog_13_method_8_code, 4, (some .int), 11, 1, 2, 1, 25, 0, 0),
  (⟨"MorningBillModel", "isWind", "(I)Z"⟩, prog_13_method_9_code, 1, (some .boolean), 11, 0, 1, 0, 0, 0, 0),
  (⟨"MorningBillModel", "readText", "()I"⟩, prog_13_method_10_code, 1, (some .int), 11, 1, 0, 3, 69, 0, 0),
  (⟨"MorningBillModel", "readNose", "()V"⟩, prog_13_method_11_code, 2, none, 11, 1, 0, 2, 48, 0, 0),
  (⟨"MorningBillModel", "fault", "()I"⟩, prog_13_method_12_code, 1, (some .int), 11, 1, 0, 4, 89, 0, 0),
  (⟨"MorningBillModel", "street", "()I"⟩, prog_13_method_13_code, 2, (some .int), 11, 1, 0, 4, 89, 0, 0),
  (⟨"MorningBillModel", "isNose", "(I)Z"⟩, prog_13_method_14_code, 2, (some .boolean), 11, 1, 1, 1, 25, 0, 0),
  (⟨"MorningBillModel", "smell", "(I)I"⟩, prog_13_method_15_code, 2, (some .int), 11, 1, 1, 1, 25, 0, 0)]
def gb_M6 : List gb_R := [
  (⟨"MorningBillModel", "wind", "(I)I"⟩, prog_13_method_16_code, 2, (some .int), 11, 1, 1, 1, 25, 0, 0),
  (⟨"MorningBillModel", "hasIt", "(II)Z"⟩, prog_13_method_17_code, 3, (some .boolean), 11, 1, 2, 0, 0, 0, 0),
  (⟨"MorningBillModel", "whoHas", "(I)I"⟩, prog_13_method_18_code, 4, (some .int), 11, 1, 1, 1, 22, 0, 0),
  (⟨"MorningBillModel", "nose", "(II)I"⟩, prog_13_method_19_code, 3, (some .int), 11, 1, 2, 2, 46, 0, 0),
  (⟨"MorningBillModel", "pennies", "()I"⟩, prog_13_method_20_code, 1, (some .int), 11, 1, 0, 0, 0, 0, 0),
  (⟨"MorningBillModel", "drift", "(III)V"⟩, prog_13_method_21_code, 7, none, 11, 1, 3, 1, 25, 0, 0),
  (⟨"MorningBillModel", "pays", "(IZI)I"⟩, prog_13_method_22_code, 5, (some .int), 11, 1, 3, 0, 0, 0, 0),
  (⟨"MorningBillModel", "pass", "(IZI)I"⟩, prog_13_method_23_code, 8, (some .int), 11, 1, 3, 2, 51, 0, 0),
  (⟨"MorningBillModel", "layWinds", "()V"⟩, prog_13_method_24_code, 2, none, 11, 1, 0, 0, 0, 0, 0),
  (⟨"MorningBillModel", "lay", "(II)V"⟩, prog_13_method_25_code, 4, none, 11, 1, 2, 0, 0, 0, 0),
  (⟨"MorningBillModel", "keepAct", "()V"⟩, prog_13_method_26_code, 2, none, 11, 1, 0, 0, 0, 0, 0),
  (⟨"MorningBillModel", "hour", "(Z)I"⟩, prog_13_method_27_code, 2, (some .int), 11, 1, 1, 3, 78, 0, 0),
  (⟨"MorningBillModel", "chimney", "(I)I"⟩, prog_13_method_28_code, 2, (some .int), 11, 1, 1, 1, 25, 0, 0),
  (⟨"MorningBillModel", "undo", "()I"⟩, prog_13_method_29_code, 2, (some .int), 11, 1, 0, 0, 0, 0, 0),
  (⟨"MorningBillModel", "run", "(II)I"⟩, prog_13_method_30_code, 4, (some .int), 11, 1, 2, 3, 78, 0, 0),
  (⟨"MorningBillModel", "left", "()I"⟩, prog_13_method_31_code, 1, (some .int), 11, 1, 0, 0, 0, 0, 0),
  (⟨"MorningBillModel", "by", "(I)I"⟩, prog_13_method_32_code, 2, (some .int), 11, 1, 1, 4, 101, 0, 0),
  (⟨"MorningBillModel", "bestBy", "(I)I"⟩, prog_13_method_33_code, 6, (some .int), 11, 1, 1, 4, 101, 0, 0),
  (⟨"MorningBillModel", "best", "(Z)I"⟩, prog_13_method_34_code, 3, (some .int), 11, 1, 1, 5, 126, 0, 0),
  (⟨"MorningBillModel", "bestChimney", "()I"⟩, prog_13_method_35_code, 5, (some .int), 11, 1, 0, 5, 126, 0, 0)]
def gb_M7 : List gb_R := [
  (⟨"MorningBillModel", "factorial", "(I)I"⟩, prog_13_method_36_code, 3, (some .int), 11, 0, 1, 0, 0, 0, 0),
  (⟨"MorningBillModel", "common", "(JJ)J"⟩, prog_13_method_37_code, 10, (some .long), 11, 0, 2, 0, 0, 0, 0),
  (⟨"MorningBillModel", "share", "(IZ)I"⟩, prog_13_method_38_code, 7, (some .int), 11, 1, 2, 5, 126, 0, 0),
  (⟨"MorningBillModel", "tenTo", "(I)I"⟩, prog_13_method_39_code, 3, (some .int), 11, 0, 1, 0, 0, 0, 0),
  (⟨"MorningBillModel", "judge", "(II)I"⟩, prog_13_method_40_code, 5, (some .int), 11, 1, 2, 3, 78, 0, 0),
  (⟨"MorningBillModel", "had", "(I)I"⟩, prog_13_method_41_code, 2, (some .int), 11, 1, 1, 4, 101, 0, 0),
  (⟨"MorningBillModel", "only", "(I)I"⟩, prog_13_method_42_code, 4, (some .int), 11, 1, 1, 4, 101, 0, 0),
  (⟨"MorningBillModel", "see", "(IIZ)I"⟩, prog_13_method_43_code, 4, (some .int), 11, 1, 3, 2, 46, 0, 0),
  (⟨"MorningBillModel", "unsee", "()I"⟩, prog_13_method_44_code, 2, (some .int), 11, 1, 0, 0, 0, 0, 0),
  (⟨"MorningBillModel", "isSeen", "(I)Z"⟩, prog_13_method_45_code, 6, (some .boolean), 11, 1, 1, 3, 78, 0, 0),
  (⟨"MorningBillModel", "when", "(I)I"⟩, prog_13_method_46_code, 6, (some .int), 11, 1, 1, 4, 103, 0, 0),
  (⟨"MorningBillModel", "meanOf", "(IIIZ)J"⟩, prog_13_method_47_code, 13, (some .long), 11, 1, 4, 4, 101, 0, 0),
  (⟨"MorningBillModel", "mean", "(IIZ)J"⟩, prog_13_method_48_code, 8, (some .long), 11, 1, 3, 5, 133, 0, 0),
  (⟨"MorningBillModel", "fair", "(IIIZ)J"⟩, prog_13_method_49_code, 9, (some .long), 11, 1, 4, 5, 133, 0, 0),
  (⟨"MorningBillModel", "runTwo", "(III)V"⟩, prog_13_method_50_code, 10, none, 11, 1, 3, 2, 51, 0, 0),
  (⟨"MorningBillModel", "isChoice", "(I)Z"⟩, prog_13_method_51_code, 2, (some .boolean), 11, 1, 1, 1, 25, 0, 0),
  (⟨"MorningBillModel", "isRest", "(II)Z"⟩, prog_13_method_52_code, 5, (some .boolean), 11, 1, 2, 2, 46, 0, 0),
  (⟨"MorningBillModel", "bakers", "(II)I"⟩, prog_13_method_53_code, 6, (some .int), 11, 1, 2, 3, 80, 0, 0),
  (⟨"MorningBillModel", "seed", "(J)J"⟩, prog_13_method_54_code, 5, (some .long), 11, 1, 1, 0, 0, 0, 0),
  (⟨"MorningBillModel", "mornings", "(I)I"⟩, prog_13_method_55_code, 4, (some .int), 11, 1, 1, 3, 78, 0, 0)]
def gb_M8 : List gb_R := [
  (⟨"MorningBillModel", "keep", "(I)I"⟩, prog_13_method_56_code, 3, (some .int), 11, 1, 1, 1, 25, 0, 0),
  (⟨"MorningBillModel", "again", "(I)I"⟩, prog_13_method_57_code, 3, (some .int), 11, 1, 1, 1, 25, 0, 0),
  (⟨"MorningBillModel", "count", "(I)I"⟩, prog_13_method_58_code, 2, (some .int), 11, 1, 1, 2, 45, 0, 0),
  (⟨"java/lang/Integer", "bitCount", "(I)I"⟩, prog_14_method_49_code, 1, (some .int), 13, 0, 1, 0, 0, 0, 0),
  (⟨"MorningBillLaw", "law", "([I)Z"⟩, code, 4, (some .boolean), 12, 0, 1, 7, 173, 142, 2526)]
def gb_M : List gb_R := gb_M0 ++ (gb_M1 ++ (gb_M2 ++ (gb_M3 ++ (gb_M4 ++ (gb_M5 ++ (gb_M6 ++ (gb_M7 ++ (gb_M8))))))))
def gb_m (i : Nat) : gb_R := gb_M.getD i (⟨"", "", ""⟩, .mk #[], 0, none, 99, 9, 0, 0, 0, 0, 0)
def gm_y (i : Nat) : MethodName := (gb_m i).1
def gm_b (i : Nat) : ByteArray := (gb_m i).2.1
def gm_L (i : Nat) : Nat := (gb_m i).2.2.1
def gm_r (i : Nat) : Option FieldType := (gb_m i).2.2.2.1
def gm_o (i : Nat) : Nat := (gb_m i).2.2.2.2.1
def gm_k (i : Nat) : Nat := (gb_m i).2.2.2.2.2.1
def gm_p (i : Nat) : Nat := (gb_m i).2.2.2.2.2.2.1
def gm_f (i : Nat) : Nat := (gb_m i).2.2.2.2.2.2.2.1
def gm_x (i : Nat) : Nat := (gb_m i).2.2.2.2.2.2.2.2.1
def gm_c (i : Nat) : Nat := (gb_m i).2.2.2.2.2.2.2.2.2.1
def gm_s (i : Nat) : Nat := (gb_m i).2.2.2.2.2.2.2.2.2.2
