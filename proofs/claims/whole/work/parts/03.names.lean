/-! names: by my own program (mknames.py) out of javap's listing and the table of words -/
abbrev RX0 : String := "ProofBench"
def TX0 : u_T := fun k => match k with
  | 0 => ("ProofBench", "clauses", "[I", true)
  | 1 => ("ProofBench", "orders", "[J", true)
  | 2 => ("ProofBench", "there", "[Z", true)
  | 3 => ("ProofBench", "hints", "[I", true)
  | 4 => ("ProofBench", "clauseCount", "I", false)
  | 5 => ("ProofBench", "thereCount", "I", false)
  | 6 => ("ProofBench", "followedCount", "I", false)
  | 7 => ("ProofBench", "hintCount", "I", false)
  | 8 => ("ProofBench", "draft", "I", false)
  | _ => ("ProofBench", "draftOrder", "J", false)
def tyX0 : Nat → FieldType := fun k => match k with
  | 0 => .array .int
  | 1 => .array .long
  | 2 => .array .boolean
  | 3 => .array .int
  | 4 => .int
  | 5 => .int
  | 6 => .int
  | 7 => .int
  | 8 => .int
  | _ => .long
theorem nmX0 : ∀ a, a < 10 → ∀ b, b < 10 → a ≠ b → (TX0 a).2.1 ≠ (TX0 b).2.1 := by decide +kernel
theorem tyX0_ok : ∀ k, k < 10 → parseFieldDescriptor (TX0 k).2.2.1 = some (tyX0 k) := by decide +kernel
abbrev RX1 : String := "ProofBenchModel"
def TX1 : u_T := fun k => match k with
  | 0 => ("ProofBenchModel", "code", "I", false)
  | 1 => ("ProofBenchModel", "count", "I", false)
  | 2 => ("ProofBenchModel", "there", "I", false)
  | 3 => ("ProofBenchModel", "followed", "I", false)
  | 4 => ("ProofBenchModel", "strange", "I", false)
  | 5 => ("ProofBenchModel", "literals", "[I", true)
  | 6 => ("ProofBenchModel", "lengths", "[I", true)
  | 7 => ("ProofBenchModel", "size", "I", false)
  | 8 => ("ProofBenchModel", "draft", "[I", true)
  | 9 => ("ProofBenchModel", "hintCount", "I", false)
  | 10 => ("ProofBenchModel", "hints", "[I", true)
  | 11 => ("ProofBenchModel", "value", "[I", true)
  | 12 => ("ProofBenchModel", "models", "[J", true)
  | _ => ("ProofBenchModel", "low", "[J", true)
def tyX1 : Nat → FieldType := fun k => match k with
  | 0 => .int
  | 1 => .int
  | 2 => .int
  | 3 => .int
  | 4 => .int
  | 5 => .array .int
  | 6 => .array .int
  | 7 => .int
  | 8 => .array .int
  | 9 => .int
  | 10 => .array .int
  | 11 => .array .int
  | 12 => .array .long
  | _ => .array .long
theorem nmX1 : ∀ a, a < 14 → ∀ b, b < 14 → a ≠ b → (TX1 a).2.1 ≠ (TX1 b).2.1 := by decide +kernel
theorem tyX1_ok : ∀ k, k < 14 → parseFieldDescriptor (TX1 k).2.2.1 = some (tyX1 k) := by decide +kernel
abbrev RL : String := "ProofBenchLaw"
abbrev RJ6 : String := "java/lang/Integer"
abbrev cls2 : List vw_C := [(RX0, TX0, 10), (RX1, TX1, 14)]
/-- the words that the tables alone decide -/
def WB : List Cond := lw_tbl.filter goodWord
theorem WB_of {w : Cond} (h : w ∈ lw_tbl) (g : goodWord w = true) : w ∈ WB := List.mem_filter.mpr ⟨h, g⟩
theorem WB_t (i : Nat) {w : Cond} (h : tables_1[i]? = some w) (g : goodWord w = true) : w ∈ WB := WB_of (List.mem_append_right _ (List.mem_of_getElem? h)) g
theorem WB_s (i : Nat) {w : Cond} (h : (k2_sels lw_privs)[i]? = some w) (g : goodWord w = true) : w ∈ WB := WB_of (List.mem_append_left _ (List.mem_of_getElem? h)) g
theorem WB_lw : ∀ w ∈ WB, w ∈ lw_tbl := fun w h => (List.mem_filter.mp h).1
theorem WB_good : ∀ w ∈ WB, goodWord w = true := fun w h => (List.mem_filter.mp h).2
theorem gw_c {c2 : Cond} (h : c2 ∈ WB) : GoodIn WB (c2 :: WB) := fun w hw => (List.mem_cons.mp hw).elim (fun e => by rw [e]; exact ⟨h, good_of_word (WB_good _ h)⟩) (fun hw => ⟨hw, good_of_word (WB_good _ hw)⟩)
theorem gw_V {own C : String} {idx : Nat} {y : MethodName} {c2 : Cond} (h1 : Cond.methodLink own idx y ∈ WB) (h2 : Cond.instanceMethod y ∈ WB) (h3 : Cond.selects C y y ∈ WB) (h4 : Cond.initialized C ∈ WB) (h5 : c2 ∈ WB) : GoodIn WB (wsV own idx C y (c2 :: WB)) := by
  intro w hw
  rcases List.mem_append.mp hw with hw | hw
  · have hm : w ∈ WB := by
      rcases List.mem_cons.mp hw with e | hw
      · rw [e]; exact h1
      rcases List.mem_cons.mp hw with e | hw
      · rw [e]; exact h2
      rcases List.mem_cons.mp hw with e | hw
      · rw [e]; exact h3
      rcases List.mem_cons.mp hw with e | hw
      · rw [e]; exact h4
      · cases hw
    exact ⟨hm, good_of_word (WB_good _ hm)⟩
  · exact gw_c h5 w hw
theorem gw_S {own : String} {idx : Nat} {y : MethodName} {c2 : Cond} (h1 : Cond.methodLink own idx y ∈ WB) (h2 : Cond.static y ∈ WB) (h3 : Cond.initialized y.cls ∈ WB) (h5 : c2 ∈ WB) : GoodIn WB (va_wsS own idx y (c2 :: WB)) := by
  intro w hw
  rcases List.mem_append.mp hw with hw | hw
  · have hm : w ∈ WB := by
      rcases List.mem_cons.mp hw with e | hw
      · rw [e]; exact h1
      rcases List.mem_cons.mp hw with e | hw
      · rw [e]; exact h2
      rcases List.mem_cons.mp hw with e | hw
      · rw [e]; exact h3
      · cases hw
    exact ⟨hm, good_of_word (WB_good _ hm)⟩
  · exact gw_c h5 w hw
/-- the room of level n -/
abbrev rmN (n mc ms : Nat) : Room := { frames := n, cells := mc, slots := ms, locals := 40 * n }
abbrev cX0_init : ByteArray := prog_1_method_1_code
abbrev yX0_init : MethodName := ⟨"ProofBench", "<init>", "()V"⟩
abbrev wsX0_init : List Cond := .code yX0_init cX0_init 1 none :: WB
abbrev cX0_literal : ByteArray := prog_1_method_2_code
abbrev yX0_literal : MethodName := ⟨"ProofBench", "literal", "(I)I"⟩
abbrev wsX0_literal : List Cond := .code yX0_literal cX0_literal 4 (some .int) :: WB
abbrev cX0_hint : ByteArray := prog_1_method_3_code
abbrev yX0_hint : MethodName := ⟨"ProofBench", "hint", "(I)I"⟩
abbrev wsX0_hint : List Cond := .code yX0_hint cX0_hint 2 (some .int) :: WB
abbrev cX0_clear : ByteArray := prog_1_method_4_code
abbrev yX0_clear : MethodName := ⟨"ProofBench", "clear", "()I"⟩
abbrev wsX0_clear : List Cond := .code yX0_clear cX0_clear 2 (some .int) :: WB
abbrev cX0_give : ByteArray := prog_1_method_5_code
abbrev yX0_give : MethodName := ⟨"ProofBench", "give", "()I"⟩
abbrev wsX0_give : List Cond := .code yX0_give cX0_give 1 (some .int) :: WB
abbrev cX0_step : ByteArray := prog_1_method_6_code
abbrev yX0_step : MethodName := ⟨"ProofBench", "step", "()I"⟩
abbrev wsX0_step : List Cond := .code yX0_step cX0_step 1 (some .int) :: WB
abbrev cX0_along : ByteArray := prog_1_method_7_code
abbrev yX0_along : MethodName := ⟨"ProofBench", "along", "()I"⟩
abbrev wsX0_along : List Cond := .code yX0_along cX0_along 2 (some .int) :: WB
abbrev cX0_drop : ByteArray := prog_1_method_8_code
abbrev yX0_drop : MethodName := ⟨"ProofBench", "drop", "(I)I"⟩
abbrev wsX0_drop : List Cond := .code yX0_drop cX0_drop 2 (some .int) :: WB
abbrev cX0_at : ByteArray := prog_1_method_9_code
abbrev yX0_at : MethodName := ⟨"ProofBench", "at", "(II)I"⟩
abbrev wsX0_at : List Cond := .code yX0_at cX0_at 5 (some .int) :: WB
abbrev cX0_told : ByteArray := prog_1_method_10_code
abbrev yX0_told : MethodName := ⟨"ProofBench", "told", "()I"⟩
abbrev wsX0_told : List Cond := .code yX0_told cX0_told 5 (some .int) :: WB
abbrev cX0_isOver : ByteArray := prog_1_method_11_code
abbrev yX0_isOver : MethodName := ⟨"ProofBench", "isOver", "()Z"⟩
abbrev wsX0_isOver : List Cond := .code yX0_isOver cX0_isOver 2 (some .boolean) :: WB
abbrev cX0_wrong : ByteArray := prog_1_method_12_code
abbrev yX0_wrong : MethodName := ⟨"ProofBench", "wrong", "()I"⟩
abbrev wsX0_wrong : List Cond := .code yX0_wrong cX0_wrong 1 (some .int) :: WB
abbrev cX0_count : ByteArray := prog_1_method_13_code
abbrev yX0_count : MethodName := ⟨"ProofBench", "count", "(I)I"⟩
abbrev wsX0_count : List Cond := .code yX0_count cX0_count 2 (some .int) :: WB
abbrev cX0_bitOf : ByteArray := prog_1_method_14_code
abbrev yX0_bitOf : MethodName := ⟨"ProofBench", "bitOf", "(I)I"⟩
abbrev wsX0_bitOf : List Cond := .code yX0_bitOf cX0_bitOf 1 (some .int) :: WB
abbrev cX0_negated : ByteArray := prog_1_method_15_code
abbrev yX0_negated : MethodName := ⟨"ProofBench", "negated", "(I)I"⟩
abbrev wsX0_negated : List Cond := .code yX0_negated cX0_negated 1 (some .int) :: WB
abbrev cX0_sizeOf : ByteArray := prog_1_method_16_code
abbrev yX0_sizeOf : MethodName := ⟨"ProofBench", "sizeOf", "(I)I"⟩
abbrev wsX0_sizeOf : List Cond := .code yX0_sizeOf cX0_sizeOf 1 (some .int) :: WB
abbrev cX0_isWrong : ByteArray := prog_1_method_17_code
abbrev yX0_isWrong : MethodName := ⟨"ProofBench", "isWrong", "(II)Z"⟩
abbrev wsX0_isWrong : List Cond := .code yX0_isWrong cX0_isWrong 2 (some .boolean) :: WB
abbrev cX0_toldBy : ByteArray := prog_1_method_18_code
abbrev yX0_toldBy : MethodName := ⟨"ProofBench", "toldBy", "(II)I"⟩
abbrev wsX0_toldBy : List Cond := .code yX0_toldBy cX0_toldBy 4 (some .int) :: WB
abbrev cX0_firstBadHint : ByteArray := prog_1_method_19_code
abbrev yX0_firstBadHint : MethodName := ⟨"ProofBench", "firstBadHint", "()I"⟩
abbrev wsX0_firstBadHint : List Cond := .code yX0_firstBadHint cX0_firstBadHint 5 (some .int) :: WB
abbrev cX0_isThere : ByteArray := prog_1_method_20_code
abbrev yX0_isThere : MethodName := ⟨"ProofBench", "isThere", "(I)Z"⟩
abbrev wsX0_isThere : List Cond := .code yX0_isThere cX0_isThere 2 (some .boolean) :: WB
abbrev cX0_refuseIfNotThere : ByteArray := prog_1_method_21_code
abbrev yX0_refuseIfNotThere : MethodName := ⟨"ProofBench", "refuseIfNotThere", "(I)V"⟩
abbrev wsX0_refuseIfNotThere : List Cond := .code yX0_refuseIfNotThere cX0_refuseIfNotThere 2 none :: WB
abbrev cX0_refuseIfFull : ByteArray := prog_1_method_22_code
abbrev yX0_refuseIfFull : MethodName := ⟨"ProofBench", "refuseIfFull", "()V"⟩
abbrev wsX0_refuseIfFull : List Cond := .code yX0_refuseIfFull cX0_refuseIfFull 1 none :: WB
abbrev cX0_keepDraft : ByteArray := prog_1_method_23_code
abbrev yX0_keepDraft : MethodName := ⟨"ProofBench", "keepDraft", "()I"⟩
abbrev wsX0_keepDraft : List Cond := .code yX0_keepDraft cX0_keepDraft 2 (some .int) :: WB
abbrev cX0_emptyDraft : ByteArray := prog_1_method_24_code
abbrev yX0_emptyDraft : MethodName := ⟨"ProofBench", "emptyDraft", "()V"⟩
abbrev wsX0_emptyDraft : List Cond := .code yX0_emptyDraft cX0_emptyDraft 1 none :: WB
abbrev cX1_init : ByteArray := prog_3_method_1_code
abbrev yX1_init : MethodName := ⟨"ProofBenchModel", "<init>", "()V"⟩
abbrev wsX1_init : List Cond := .code yX1_init cX1_init 3 none :: WB
abbrev cX1_thrown : ByteArray := prog_3_method_2_code
abbrev yX1_thrown : MethodName := ⟨"ProofBenchModel", "thrown", "()I"⟩
abbrev wsX1_thrown : List Cond := .code yX1_thrown cX1_thrown 1 (some .int) :: WB
abbrev cX1_literal : ByteArray := prog_3_method_3_code
abbrev yX1_literal : MethodName := ⟨"ProofBenchModel", "literal", "(I)I"⟩
abbrev wsX1_literal : List Cond := .code yX1_literal cX1_literal 4 (some .int) :: WB
abbrev cX1_hint : ByteArray := prog_3_method_4_code
abbrev yX1_hint : MethodName := ⟨"ProofBenchModel", "hint", "(I)I"⟩
abbrev wsX1_hint : List Cond := .code yX1_hint cX1_hint 2 (some .int) :: WB
abbrev cX1_clear : ByteArray := prog_3_method_5_code
abbrev yX1_clear : MethodName := ⟨"ProofBenchModel", "clear", "()I"⟩
abbrev wsX1_clear : List Cond := .code yX1_clear cX1_clear 2 (some .int) :: WB
abbrev cX1_isThere : ByteArray := prog_3_method_6_code
abbrev yX1_isThere : MethodName := ⟨"ProofBenchModel", "isThere", "(I)Z"⟩
abbrev wsX1_isThere : List Cond := .code yX1_isThere cX1_isThere 2 (some .boolean) :: WB
abbrev cX1_add : ByteArray := prog_3_method_7_code
abbrev yX1_add : MethodName := ⟨"ProofBenchModel", "add", "()I"⟩
abbrev wsX1_add : List Cond := .code yX1_add cX1_add 2 (some .int) :: WB
abbrev cX1_truths : ByteArray := prog_3_method_8_code
abbrev yX1_truths : MethodName := ⟨"ProofBenchModel", "truths", "(II)J"⟩
abbrev wsX1_truths : List Cond := .code yX1_truths cX1_truths 3 (some .long) :: WB
abbrev cX1_trueIn : ByteArray := prog_3_method_9_code
abbrev yX1_trueIn : MethodName := ⟨"ProofBenchModel", "trueIn", "(I)J"⟩
abbrev wsX1_trueIn : List Cond := .code yX1_trueIn cX1_trueIn 6 (some .long) :: WB
abbrev cX1_give : ByteArray := prog_3_method_10_code
abbrev yX1_give : MethodName := ⟨"ProofBenchModel", "give", "()I"⟩
abbrev wsX1_give : List Cond := .code yX1_give cX1_give 2 (some .int) :: WB
abbrev cX1_accept : ByteArray := prog_3_method_11_code
abbrev yX1_accept : MethodName := ⟨"ProofBenchModel", "accept", "()I"⟩
abbrev wsX1_accept : List Cond := .code yX1_accept cX1_accept 3 (some .int) :: WB
abbrev cX1_of : ByteArray := prog_3_method_12_code
abbrev yX1_of : MethodName := ⟨"ProofBenchModel", "of", "(I)I"⟩
abbrev wsX1_of : List Cond := .code yX1_of cX1_of 3 (some .int) :: WB
abbrev cX1_tell : ByteArray := prog_3_method_13_code
abbrev yX1_tell : MethodName := ⟨"ProofBenchModel", "tell", "(I)V"⟩
abbrev wsX1_tell : List Cond := .code yX1_tell cX1_tell 2 none :: WB
abbrev cX1_setOut : ByteArray := prog_3_method_14_code
abbrev yX1_setOut : MethodName := ⟨"ProofBenchModel", "setOut", "()V"⟩
abbrev wsX1_setOut : List Cond := .code yX1_setOut cX1_setOut 2 none :: WB
abbrev cX1_says : ByteArray := prog_3_method_15_code
abbrev yX1_says : MethodName := ⟨"ProofBenchModel", "says", "(I)I"⟩
abbrev wsX1_says : List Cond := .code yX1_says cX1_says 5 (some .int) :: WB
abbrev cX1_follow : ByteArray := prog_3_method_16_code
abbrev yX1_follow : MethodName := ⟨"ProofBenchModel", "follow", "()I"⟩
abbrev wsX1_follow : List Cond := .code yX1_follow cX1_follow 5 (some .int) :: WB
abbrev cX1_step : ByteArray := prog_3_method_17_code
abbrev yX1_step : MethodName := ⟨"ProofBenchModel", "step", "()I"⟩
abbrev wsX1_step : List Cond := .code yX1_step cX1_step 1 (some .int) :: WB
abbrev cX1_along : ByteArray := prog_3_method_18_code
abbrev yX1_along : MethodName := ⟨"ProofBenchModel", "along", "()I"⟩
abbrev wsX1_along : List Cond := .code yX1_along cX1_along 3 (some .int) :: WB
abbrev cX1_drop : ByteArray := prog_3_method_19_code
abbrev yX1_drop : MethodName := ⟨"ProofBenchModel", "drop", "(I)I"⟩
abbrev wsX1_drop : List Cond := .code yX1_drop cX1_drop 3 (some .int) :: WB
abbrev cX1_at : ByteArray := prog_3_method_20_code
abbrev yX1_at : MethodName := ⟨"ProofBenchModel", "at", "(II)I"⟩
abbrev wsX1_at : List Cond := .code yX1_at cX1_at 3 (some .int) :: WB
abbrev cX1_told : ByteArray := prog_3_method_21_code
abbrev yX1_told : MethodName := ⟨"ProofBenchModel", "told", "()I"⟩
abbrev wsX1_told : List Cond := .code yX1_told cX1_told 1 (some .int) :: WB
abbrev cX1_isOver : ByteArray := prog_3_method_22_code
abbrev yX1_isOver : MethodName := ⟨"ProofBenchModel", "isOver", "()Z"⟩
abbrev wsX1_isOver : List Cond := .code yX1_isOver cX1_isOver 3 (some .boolean) :: WB
abbrev cX1_wrong : ByteArray := prog_3_method_23_code
abbrev yX1_wrong : MethodName := ⟨"ProofBenchModel", "wrong", "()I"⟩
abbrev wsX1_wrong : List Cond := .code yX1_wrong cX1_wrong 1 (some .int) :: WB
abbrev cX1_count : ByteArray := prog_3_method_24_code
abbrev yX1_count : MethodName := ⟨"ProofBenchModel", "count", "(I)I"⟩
abbrev wsX1_count : List Cond := .code yX1_count cX1_count 2 (some .int) :: WB
abbrev cL_literal : ByteArray := method_3_code
abbrev yL_literal : MethodName := ⟨"ProofBenchLaw", "literal", "(LProofBench;I[J)I"⟩
abbrev wsL_literal : List Cond := .codeWith yL_literal cL_literal 4 (some .int) [((0), 9, 12, 13)] :: WB
abbrev cL_hint : ByteArray := method_4_code
abbrev yL_hint : MethodName := ⟨"ProofBenchLaw", "hint", "(LProofBench;I[J)I"⟩
abbrev wsL_hint : List Cond := .codeWith yL_hint cL_hint 4 (some .int) [((0), 9, 12, 13), ((0), 9, 15, 18)] :: WB
abbrev cL_give : ByteArray := method_5_code
abbrev yL_give : MethodName := ⟨"ProofBenchLaw", "give", "(LProofBench;[J)I"⟩
abbrev wsL_give : List Cond := .codeWith yL_give cL_give 3 (some .int) [((0), 8, 11, 18)] :: WB
abbrev cL_step : ByteArray := method_6_code
abbrev yL_step : MethodName := ⟨"ProofBenchLaw", "step", "(LProofBench;[J)I"⟩
abbrev wsL_step : List Cond := .codeWith yL_step cL_step 3 (some .int) [((0), 8, 11, 18)] :: WB
abbrev cL_along : ByteArray := method_7_code
abbrev yL_along : MethodName := ⟨"ProofBenchLaw", "along", "(LProofBench;[J)I"⟩
abbrev wsL_along : List Cond := .codeWith yL_along cL_along 3 (some .int) [((0), 8, 11, 18)] :: WB
abbrev cL_drop : ByteArray := method_8_code
abbrev yL_drop : MethodName := ⟨"ProofBenchLaw", "drop", "(LProofBench;I[J)I"⟩
abbrev wsL_drop : List Cond := .codeWith yL_drop cL_drop 4 (some .int) [((0), 9, 12, 13)] :: WB
abbrev cL_at : ByteArray := method_9_code
abbrev yL_at : MethodName := ⟨"ProofBenchLaw", "at", "(LProofBench;II[J)I"⟩
abbrev wsL_at : List Cond := .codeWith yL_at cL_at 5 (some .int) [((0), 10, 13, 13)] :: WB
abbrev cL_count : ByteArray := method_10_code
abbrev yL_count : MethodName := ⟨"ProofBenchLaw", "count", "(LProofBench;I[J)I"⟩
abbrev wsL_count : List Cond := .codeWith yL_count cL_count 4 (some .int) [((0), 9, 12, 13)] :: WB
abbrev cL_law : ByteArray := code
abbrev yL_law : MethodName := ⟨"ProofBenchLaw", "law", "([I)Z"⟩
abbrev cJ6_bitCount : ByteArray := prog_7_method_49_code
abbrev yJ6_bitCount : MethodName := ⟨"java/lang/Integer", "bitCount", "(I)I"⟩
abbrev wsJ6_bitCount : List Cond := .code yJ6_bitCount cJ6_bitCount 1 (some .int) :: WB
