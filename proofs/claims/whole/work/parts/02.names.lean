def TO : u_T := fun k => match k with
  | 0 => ("LetterSums", "typed", "[I", true)
  | 1 => ("LetterSums", "typedCount", "I", false)
  | 2 => ("LetterSums", "grammar", "LLetterSums$Grammar;", true)
  | 3 => ("LetterSums", "sum", "LLetterSums$Sum;", true)
  | 4 => ("LetterSums", "search", "LLetterSums$Search;", true)
  | 5 => ("LetterSums", "barredAnswers", "LLetterSums$Answers;", true)
  | 6 => ("LetterSums", "freeAnswers", "LLetterSums$Answers;", true)
  | 7 => ("LetterSums", "barred", "Z", false)
  | _ => ("LetterSums", "kept", "I", false)
def tyO : Nat → FieldType := fun k => match k with
  | 0 => .array .int
  | 1 => .int
  | 2 => .object "LetterSums$Grammar"
  | 3 => .object "LetterSums$Sum"
  | 4 => .object "LetterSums$Search"
  | 5 => .object "LetterSums$Answers"
  | 6 => .object "LetterSums$Answers"
  | 7 => .boolean
  | _ => .int
theorem nmO : ∀ a, a < 9 → ∀ b, b < 9 → a ≠ b → (TO a).2.1 ≠ (TO b).2.1 := by decide +kernel
theorem tyokO : ∀ k, k < 9 → parseFieldDescriptor (TO k).2.2.1 = some (tyO k) := by decide +kernel
def TA : u_T := fun k => match k with
  | 0 => ("LetterSums$Answers", "packed", "[I", true)
  | 1 => ("LetterSums$Answers", "count", "I", false)
  | _ => ("LetterSums$Answers", "known", "Z", false)
def tyA : Nat → FieldType := fun k => match k with
  | 0 => .array .int
  | 1 => .int
  | _ => .boolean
theorem nmA : ∀ a, a < 3 → ∀ b, b < 3 → a ≠ b → (TA a).2.1 ≠ (TA b).2.1 := by decide +kernel
theorem tyokA : ∀ k, k < 3 → parseFieldDescriptor (TA k).2.2.1 = some (tyA k) := by decide +kernel
def TG : u_T := fun k => match k with
  | 0 => ("LetterSums$Grammar", "base", "I", true)
  | 1 => ("LetterSums$Grammar", "words", "I", false)
  | 2 => ("LetterSums$Grammar", "signs", "I", false)
  | 3 => ("LetterSums$Grammar", "seen", "I", false)
  | _ => ("LetterSums$Grammar", "behind", "Z", false)
def tyG : Nat → FieldType := fun k => match k with
  | 0 => .int
  | 1 => .int
  | 2 => .int
  | 3 => .int
  | _ => .boolean
theorem nmG : ∀ a, a < 5 → ∀ b, b < 5 → a ≠ b → (TG a).2.1 ≠ (TG b).2.1 := by decide +kernel
theorem tyokG : ∀ k, k < 5 → parseFieldDescriptor (TG k).2.2.1 = some (tyG k) := by decide +kernel
def TF : u_T := fun k => match k with
  | 0 => ("LetterSums$Search", "base", "I", true)
  | 1 => ("LetterSums$Search", "weights", "LLetterSums$Weights;", true)
  | 2 => ("LetterSums$Search", "waySum", "[I", true)
  | 3 => ("LetterSums$Search", "wayDigits", "[I", true)
  | 4 => ("LetterSums$Search", "wayUsed", "[I", true)
  | 5 => ("LetterSums$Search", "nextWay", "[I", true)
  | 6 => ("LetterSums$Search", "firstWay", "[I", true)
  | 7 => ("LetterSums$Search", "ways", "I", false)
  | 8 => ("LetterSums$Search", "letterCount", "I", false)
  | 9 => ("LetterSums$Search", "middle", "I", false)
  | _ => ("LetterSums$Search", "barred", "Z", false)
def tyF : Nat → FieldType := fun k => match k with
  | 0 => .int
  | 1 => .object "LetterSums$Weights"
  | 2 => .array .int
  | 3 => .array .int
  | 4 => .array .int
  | 5 => .array .int
  | 6 => .array .int
  | 7 => .int
  | 8 => .int
  | 9 => .int
  | _ => .boolean
theorem nmF : ∀ a, a < 11 → ∀ b, b < 11 → a ≠ b → (TF a).2.1 ≠ (TF b).2.1 := by decide +kernel
theorem tyokF : ∀ k, k < 11 → parseFieldDescriptor (TF k).2.2.1 = some (tyF k) := by decide +kernel
def TS : u_T := fun k => match k with
  | 0 => ("LetterSums$Sum", "base", "I", true)
  | 1 => ("LetterSums$Sum", "bytes", "[I", true)
  | 2 => ("LetterSums$Sum", "length", "I", false)
  | 3 => ("LetterSums$Sum", "equalsPlace", "I", false)
  | 4 => ("LetterSums$Sum", "starts", "[I", true)
  | 5 => ("LetterSums$Sum", "ends", "[I", true)
  | 6 => ("LetterSums$Sum", "words", "I", false)
  | 7 => ("LetterSums$Sum", "byAlphabet", "[I", true)
  | 8 => ("LetterSums$Sum", "slots", "[I", true)
  | _ => ("LetterSums$Sum", "letterCount", "I", false)
def tyS : Nat → FieldType := fun k => match k with
  | 0 => .int
  | 1 => .array .int
  | 2 => .int
  | 3 => .int
  | 4 => .array .int
  | 5 => .array .int
  | 6 => .int
  | 7 => .array .int
  | 8 => .array .int
  | _ => .int
theorem nmS : ∀ a, a < 10 → ∀ b, b < 10 → a ≠ b → (TS a).2.1 ≠ (TS b).2.1 := by decide +kernel
theorem tyokS : ∀ k, k < 10 → parseFieldDescriptor (TS k).2.2.1 = some (tyS k) := by decide +kernel
def TW : u_T := fun k => match k with
  | 0 => ("LetterSums$Weights", "base", "I", true)
  | 1 => ("LetterSums$Weights", "ofSlot", "[I", true)
  | 2 => ("LetterSums$Weights", "ofDigits", "I", false)
  | 3 => ("LetterSums$Weights", "frontSlots", "I", false)
  | _ => ("LetterSums$Weights", "zeroInFront", "Z", false)
def tyW : Nat → FieldType := fun k => match k with
  | 0 => .int
  | 1 => .array .int
  | 2 => .int
  | 3 => .int
  | _ => .boolean
theorem nmW : ∀ a, a < 5 → ∀ b, b < 5 → a ≠ b → (TW a).2.1 ≠ (TW b).2.1 := by decide +kernel
theorem tyokW : ∀ k, k < 5 → parseFieldDescriptor (TW k).2.2.1 = some (tyW k) := by decide +kernel
def TM : u_T := fun k => match k with
  | 0 => ("LetterSumsModel", "base", "I", true)
  | 1 => ("LetterSumsModel", "fed", "[I", true)
  | 2 => ("LetterSumsModel", "fedLong", "I", false)
  | 3 => ("LetterSumsModel", "thrown", "I", false)
  | 4 => ("LetterSumsModel", "text", "[I", true)
  | 5 => ("LetterSumsModel", "textLong", "I", false)
  | 6 => ("LetterSumsModel", "words", "I", false)
  | 7 => ("LetterSumsModel", "letters", "I", false)
  | 8 => ("LetterSumsModel", "kept", "I", false)
  | 9 => ("LetterSumsModel", "wordAt", "[I", true)
  | 10 => ("LetterSumsModel", "wordLong", "[I", true)
  | 11 => ("LetterSumsModel", "minus", "[Z", true)
  | 12 => ("LetterSumsModel", "wordSide", "[I", true)
  | 13 => ("LetterSumsModel", "letter", "[I", true)
  | 14 => ("LetterSumsModel", "barred", "Z", false)
  | 15 => ("LetterSumsModel", "newAt", "[I", true)
  | 16 => ("LetterSumsModel", "newLong", "[I", true)
  | 17 => ("LetterSumsModel", "newMinus", "[Z", true)
  | 18 => ("LetterSumsModel", "newSide", "[I", true)
  | 19 => ("LetterSumsModel", "seen", "[Z", true)
  | 20 => ("LetterSumsModel", "counts", "[J", true)
  | 21 => ("LetterSumsModel", "notZero", "[Z", true)
  | 22 => ("LetterSumsModel", "rest", "J", false)
  | 23 => ("LetterSumsModel", "impossible", "Z", false)
  | 24 => ("LetterSumsModel", "digit", "[I", true)
  | 25 => ("LetterSumsModel", "taken", "[Z", true)
  | 26 => ("LetterSumsModel", "answer", "[I", true)
  | _ => ("LetterSumsModel", "newWords", "I", false)
def tyM : Nat → FieldType := fun k => match k with
  | 0 => .int
  | 1 => .array .int
  | 2 => .int
  | 3 => .int
  | 4 => .array .int
  | 5 => .int
  | 6 => .int
  | 7 => .int
  | 8 => .int
  | 9 => .array .int
  | 10 => .array .int
  | 11 => .array .boolean
  | 12 => .array .int
  | 13 => .array .int
  | 14 => .boolean
  | 15 => .array .int
  | 16 => .array .int
  | 17 => .array .boolean
  | 18 => .array .int
  | 19 => .array .boolean
  | 20 => .array .long
  | 21 => .array .boolean
  | 22 => .long
  | 23 => .boolean
  | 24 => .array .int
  | 25 => .array .boolean
  | 26 => .array .int
  | _ => .int
theorem nmM : ∀ a, a < 28 → ∀ b, b < 28 → a ≠ b → (TM a).2.1 ≠ (TM b).2.1 := by decide +kernel
theorem tyokM : ∀ k, k < 28 → parseFieldDescriptor (TM k).2.2.1 = some (tyM k) := by decide +kernel
abbrev vwCl : List vw_C := [("LetterSums", TO, 9), ("LetterSums$Answers", TA, 3), ("LetterSums$Grammar", TG, 5), ("LetterSums$Search", TF, 11), ("LetterSums$Sum", TS, 10), ("LetterSums$Weights", TW, 5), ("LetterSumsModel", TM, 28)]
/-- all words of the tables that go along into a call -/
def zBig : List Cond := lw_tbl.filter goodWord
theorem zb_tab {i : Nat} {w : Cond} (h : tables_1[i]? = some w) (g : goodWord w = true) : w ∈ zBig := List.mem_filter.mpr ⟨List.mem_append_right _ (List.mem_of_getElem? h), g⟩
theorem zb_sel {i : Nat} {w : Cond} (h : (k2_sels lw_privs)[i]? = some w) (g : goodWord w = true) : w ∈ zBig := List.mem_filter.mpr ⟨List.mem_append_left _ (List.mem_of_getElem? h), g⟩
theorem zb_in {ws : List Cond} (h : ∀ w ∈ ws, w ∈ lw_tbl) (g : ws.all goodWord = true) : ∀ w ∈ ws, w ∈ zBig := fun w hw => List.mem_filter.mpr ⟨h w hw, List.all_eq_true.mp g w hw⟩
theorem zb_good : GoodIn zBig zBig := fun w h => ⟨h, good_of_word (List.mem_filter.mp h).2⟩
theorem zb_cons {c : Cond} (h : c ∈ zBig) : GoodIn zBig (c :: zBig) := fun w hw => (List.mem_cons.mp hw).elim (fun e => e ▸ zb_good c h) (zb_good w)
theorem hi_O : ∀ w ∈ u_ws "LetterSums" TO 9, w ∈ zBig := zb_in (by decide +kernel) (by decide +kernel)
theorem hi_A : ∀ w ∈ u_ws "LetterSums$Answers" TA 3, w ∈ zBig := zb_in (by decide +kernel) (by decide +kernel)
theorem hi_G : ∀ w ∈ u_ws "LetterSums$Grammar" TG 5, w ∈ zBig := zb_in (by decide +kernel) (by decide +kernel)
theorem hi_F : ∀ w ∈ u_ws "LetterSums$Search" TF 11, w ∈ zBig := zb_in (by decide +kernel) (by decide +kernel)
theorem hi_S : ∀ w ∈ u_ws "LetterSums$Sum" TS 10, w ∈ zBig := zb_in (by decide +kernel) (by decide +kernel)
theorem hi_W : ∀ w ∈ u_ws "LetterSums$Weights" TW 5, w ∈ zBig := zb_in (by decide +kernel) (by decide +kernel)
theorem hi_M : ∀ w ∈ u_ws "LetterSumsModel" TM 28, w ∈ zBig := zb_in (by decide +kernel) (by decide +kernel)
abbrev yO_init : MethodName := ⟨"LetterSums", "<init>", "(I)V"⟩
abbrev wsO_init : List Cond := .code yO_init prog_1_method_1_code 3 none :: zBig
abbrev yO_allAnswers : MethodName := ⟨"LetterSums", "allAnswers", "()LLetterSums$Answers;"⟩
abbrev wsO_allAnswers : List Cond := .code yO_allAnswers prog_1_method_18_code 2 (some (.object "LetterSums$Answers")) :: zBig
abbrev yO_answer : MethodName := ⟨"LetterSums", "answer", "(I)I"⟩
abbrev wsO_answer : List Cond := .code yO_answer prog_1_method_16_code 2 (some .int) :: zBig
abbrev yO_bar : MethodName := ⟨"LetterSums", "bar", "(Z)V"⟩
abbrev wsO_bar : List Cond := .code yO_bar prog_1_method_4_code 2 none :: zBig
abbrev yO_carry : MethodName := ⟨"LetterSums", "carry", "(II)I"⟩
abbrev wsO_carry : List Cond := .code yO_carry prog_1_method_10_code 3 (some .int) :: zBig
abbrev yO_currentAnswers : MethodName := ⟨"LetterSums", "currentAnswers", "()LLetterSums$Answers;"⟩
abbrev wsO_currentAnswers : List Cond := .code yO_currentAnswers prog_1_method_17_code 1 (some (.object "LetterSums$Answers")) :: zBig
abbrev yO_digit : MethodName := ⟨"LetterSums", "digit", "(II)I"⟩
abbrev wsO_digit : List Cond := .code yO_digit prog_1_method_8_code 4 (some .int) :: zBig
abbrev yO_digitOf : MethodName := ⟨"LetterSums", "digitOf", "(II)I"⟩
abbrev wsO_digitOf : List Cond := .code yO_digitOf prog_1_method_21_code 2 (some .int) :: zBig
abbrev yO_fixed : MethodName := ⟨"LetterSums", "fixed", "()I"⟩
abbrev wsO_fixed : List Cond := .code yO_fixed prog_1_method_13_code 3 (some .int) :: zBig
abbrev yO_isAlwaysSame : MethodName := ⟨"LetterSums", "isAlwaysSame", "(I)Z"⟩
abbrev wsO_isAlwaysSame : List Cond := .code yO_isAlwaysSame prog_1_method_14_code 4 (some .boolean) :: zBig
abbrev yO_isDigit : MethodName := ⟨"LetterSums", "isDigit", "(I)Z"⟩
abbrev wsO_isDigit : List Cond := .code yO_isDigit prog_1_method_20_code 1 (some .boolean) :: zBig
abbrev yO_isKept : MethodName := ⟨"LetterSums", "isKept", "(I)Z"⟩
abbrev wsO_isKept : List Cond := .code yO_isKept prog_1_method_15_code 2 (some .boolean) :: zBig
abbrev yO_isLetter : MethodName := ⟨"LetterSums", "isLetter", "(I)Z"⟩
abbrev wsO_isLetter : List Cond := .code yO_isLetter prog_1_method_19_code 1 (some .boolean) :: zBig
abbrev yO_letter : MethodName := ⟨"LetterSums", "letter", "(I)I"⟩
abbrev wsO_letter : List Cond := .code yO_letter prog_1_method_6_code 2 (some .int) :: zBig
abbrev yO_letters : MethodName := ⟨"LetterSums", "letters", "()I"⟩
abbrev wsO_letters : List Cond := .code yO_letters prog_1_method_5_code 1 (some .int) :: zBig
abbrev yO_one : MethodName := ⟨"LetterSums", "one", "()Z"⟩
abbrev wsO_one : List Cond := .code yO_one prog_1_method_12_code 1 (some .boolean) :: zBig
abbrev yO_read : MethodName := ⟨"LetterSums", "read", "()I"⟩
abbrev wsO_read : List Cond := .code yO_read prog_1_method_3_code 3 (some .int) :: zBig
abbrev yO_run : MethodName := ⟨"LetterSums", "run", "(I)I"⟩
abbrev wsO_run : List Cond := .code yO_run prog_1_method_7_code 2 (some .int) :: zBig
abbrev yO_side : MethodName := ⟨"LetterSums", "side", "(II)J"⟩
abbrev wsO_side : List Cond := .code yO_side prog_1_method_9_code 3 (some .long) :: zBig
abbrev yO_text : MethodName := ⟨"LetterSums", "text", "(II)I"⟩
abbrev wsO_text : List Cond := .code yO_text prog_1_method_11_code 4 (some .int) :: zBig
abbrev yO_unit : MethodName := ⟨"LetterSums", "unit", "(I)Z"⟩
abbrev wsO_unit : List Cond := .code yO_unit prog_1_method_2_code 2 (some .boolean) :: zBig
abbrev yO_withDigit : MethodName := ⟨"LetterSums", "withDigit", "(III)I"⟩
abbrev wsO_withDigit : List Cond := .code yO_withDigit prog_1_method_22_code 3 (some .int) :: zBig
abbrev yA_init : MethodName := ⟨"LetterSums$Answers", "<init>", "()V"⟩
abbrev wsA_init : List Cond := .code yA_init prog_2_method_1_code 1 none :: zBig
abbrev yA_add : MethodName := ⟨"LetterSums$Answers", "add", "(I)V"⟩
abbrev wsA_add : List Cond := .code yA_add prog_2_method_3_code 2 none :: zBig
abbrev yA_forget : MethodName := ⟨"LetterSums$Answers", "forget", "()V"⟩
abbrev wsA_forget : List Cond := .code yA_forget prog_2_method_2_code 1 none :: zBig
abbrev yA_get : MethodName := ⟨"LetterSums$Answers", "get", "(I)I"⟩
abbrev wsA_get : List Cond := .code yA_get prog_2_method_5_code 2 (some .int) :: zBig
abbrev yA_isFull : MethodName := ⟨"LetterSums$Answers", "isFull", "()Z"⟩
abbrev wsA_isFull : List Cond := .code yA_isFull prog_2_method_4_code 1 (some .boolean) :: zBig
abbrev yG_init : MethodName := ⟨"LetterSums$Grammar", "<init>", "(I)V"⟩
abbrev wsG_init : List Cond := .code yG_init prog_3_method_1_code 2 none :: zBig
abbrev yG_admits : MethodName := ⟨"LetterSums$Grammar", "admits", "(I)Z"⟩
abbrev wsG_admits : List Cond := .code yG_admits prog_3_method_3_code 2 (some .boolean) :: zBig
abbrev yG_admitsEquals : MethodName := ⟨"LetterSums$Grammar", "admitsEquals", "()Z"⟩
abbrev wsG_admitsEquals : List Cond := .code yG_admitsEquals prog_3_method_6_code 1 (some .boolean) :: zBig
abbrev yG_admitsLetter : MethodName := ⟨"LetterSums$Grammar", "admitsLetter", "(I)Z"⟩
abbrev wsG_admitsLetter : List Cond := .code yG_admitsLetter prog_3_method_4_code 2 (some .boolean) :: zBig
abbrev yG_admitsSign : MethodName := ⟨"LetterSums$Grammar", "admitsSign", "()Z"⟩
abbrev wsG_admitsSign : List Cond := .code yG_admitsSign prog_3_method_5_code 1 (some .boolean) :: zBig
abbrev yG_endsWord : MethodName := ⟨"LetterSums$Grammar", "endsWord", "()Z"⟩
abbrev wsG_endsWord : List Cond := .code yG_endsWord prog_3_method_7_code 2 (some .boolean) :: zBig
abbrev yG_firstWrong : MethodName := ⟨"LetterSums$Grammar", "firstWrong", "([II)I"⟩
abbrev wsG_firstWrong : List Cond := .code yG_firstWrong prog_3_method_2_code 4 (some .int) :: zBig
abbrev yF_init : MethodName := ⟨"LetterSums$Search", "<init>", "(I)V"⟩
abbrev wsF_init : List Cond := .code yF_init prog_4_method_1_code 2 none :: zBig
abbrev yF_addWay : MethodName := ⟨"LetterSums$Search", "addWay", "(III)V"⟩
abbrev wsF_addWay : List Cond := .code yF_addWay prog_4_method_4_code 4 none :: zBig
abbrev yF_chainWays : MethodName := ⟨"LetterSums$Search", "chainWays", "()V"⟩
abbrev wsF_chainWays : List Cond := .code yF_chainWays prog_4_method_5_code 3 none :: zBig
abbrev yF_fill : MethodName := ⟨"LetterSums$Search", "fill", "(LLetterSums$Answers;LLetterSums$Sum;Z)V"⟩
abbrev wsF_fill : List Cond := .code yF_fill prog_4_method_2_code 4 none :: zBig
abbrev yF_join : MethodName := ⟨"LetterSums$Search", "join", "(IIILLetterSums$Answers;)V"⟩
abbrev wsF_join : List Cond := .code yF_join prog_4_method_7_code 7 none :: zBig
abbrev yF_listLater : MethodName := ⟨"LetterSums$Search", "listLater", "(IIII)V"⟩
abbrev wsF_listLater : List Cond := .code yF_listLater prog_4_method_3_code 6 none :: zBig
abbrev yF_mayBe : MethodName := ⟨"LetterSums$Search", "mayBe", "(III)Z"⟩
abbrev wsF_mayBe : List Cond := .code yF_mayBe prog_4_method_8_code 5 (some .boolean) :: zBig
abbrev yF_tryEarlier : MethodName := ⟨"LetterSums$Search", "tryEarlier", "(IIIILLetterSums$Answers;)V"⟩
abbrev wsF_tryEarlier : List Cond := .code yF_tryEarlier prog_4_method_6_code 7 none :: zBig
abbrev yS_init : MethodName := ⟨"LetterSums$Sum", "<init>", "(I)V"⟩
abbrev wsS_init : List Cond := .code yS_init prog_5_method_1_code 2 none :: zBig
abbrev yS_byteAt : MethodName := ⟨"LetterSums$Sum", "byteAt", "(I)I"⟩
abbrev wsS_byteAt : List Cond := .code yS_byteAt prog_5_method_5_code 2 (some .int) :: zBig
abbrev yS_carryFrom : MethodName := ⟨"LetterSums$Sum", "carryFrom", "(II)I"⟩
abbrev wsS_carryFrom : List Cond := .code yS_carryFrom prog_5_method_13_code 8 (some .int) :: zBig
abbrev yS_digitAt : MethodName := ⟨"LetterSums$Sum", "digitAt", "(II)I"⟩
abbrev wsS_digitAt : List Cond := .code yS_digitAt prog_5_method_8_code 5 (some .int) :: zBig
abbrev yS_endValue : MethodName := ⟨"LetterSums$Sum", "endValue", "(III)J"⟩
abbrev wsS_endValue : List Cond := .code yS_endValue prog_5_method_14_code 7 (some .long) :: zBig
abbrev yS_hasCarries : MethodName := ⟨"LetterSums$Sum", "hasCarries", "()Z"⟩
abbrev wsS_hasCarries : List Cond := .code yS_hasCarries prog_5_method_11_code 3 (some .boolean) :: zBig
abbrev yS_isBehind : MethodName := ⟨"LetterSums$Sum", "isBehind", "(I)Z"⟩
abbrev wsS_isBehind : List Cond := .code yS_isBehind prog_5_method_9_code 2 (some .boolean) :: zBig
abbrev yS_isTakenAway : MethodName := ⟨"LetterSums$Sum", "isTakenAway", "(I)Z"⟩
abbrev wsS_isTakenAway : List Cond := .code yS_isTakenAway prog_5_method_10_code 2 (some .boolean) :: zBig
abbrev yS_letterAt : MethodName := ⟨"LetterSums$Sum", "letterAt", "(I)I"⟩
abbrev wsS_letterAt : List Cond := .code yS_letterAt prog_5_method_6_code 2 (some .int) :: zBig
abbrev yS_listLetters : MethodName := ⟨"LetterSums$Sum", "listLetters", "()V"⟩
abbrev wsS_listLetters : List Cond := .code yS_listLetters prog_5_method_4_code 3 none :: zBig
abbrev yS_listWords : MethodName := ⟨"LetterSums$Sum", "listWords", "()V"⟩
abbrev wsS_listWords : List Cond := .code yS_listWords prog_5_method_3_code 4 none :: zBig
abbrev yS_sideValue : MethodName := ⟨"LetterSums$Sum", "sideValue", "(ZI)J"⟩
abbrev wsS_sideValue : List Cond := .code yS_sideValue prog_5_method_12_code 8 (some .long) :: zBig
abbrev yS_slotOf : MethodName := ⟨"LetterSums$Sum", "slotOf", "(I)I"⟩
abbrev wsS_slotOf : List Cond := .code yS_slotOf prog_5_method_7_code 2 (some .int) :: zBig
abbrev yS_take : MethodName := ⟨"LetterSums$Sum", "take", "([II)V"⟩
abbrev wsS_take : List Cond := .code yS_take prog_5_method_2_code 4 none :: zBig
abbrev yW_init : MethodName := ⟨"LetterSums$Weights", "<init>", "(I)V"⟩
abbrev wsW_init : List Cond := .code yW_init prog_6_method_1_code 2 none :: zBig
abbrev yW_isFront : MethodName := ⟨"LetterSums$Weights", "isFront", "(I)Z"⟩
abbrev wsW_isFront : List Cond := .code yW_isFront prog_6_method_5_code 2 (some .boolean) :: zBig
abbrev yW_noteFront : MethodName := ⟨"LetterSums$Weights", "noteFront", "(LLetterSums$Sum;I)V"⟩
abbrev wsW_noteFront : List Cond := .code yW_noteFront prog_6_method_4_code 4 none :: zBig
abbrev yW_weigh : MethodName := ⟨"LetterSums$Weights", "weigh", "(LLetterSums$Sum;)V"⟩
abbrev wsW_weigh : List Cond := .code yW_weigh prog_6_method_2_code 3 none :: zBig
abbrev yW_weighWord : MethodName := ⟨"LetterSums$Weights", "weighWord", "(LLetterSums$Sum;I)V"⟩
abbrev wsW_weighWord : List Cond := .code yW_weighWord prog_6_method_3_code 7 none :: zBig
abbrev yL_cell : MethodName := ⟨"LetterSumsLaw", "cell", "([II)I"⟩
abbrev wsL_cell : List Cond := .code yL_cell method_2_code 2 (some .int) :: zBig
abbrev yM_init : MethodName := ⟨"LetterSumsModel", "<init>", "(I)V"⟩
abbrev wsM_init : List Cond := .code yM_init prog_8_method_1_code 2 none :: zBig
abbrev yM_bar : MethodName := ⟨"LetterSumsModel", "bar", "(Z)V"⟩
abbrev wsM_bar : List Cond := .code yM_bar prog_8_method_8_code 2 none :: zBig
abbrev yM_carry : MethodName := ⟨"LetterSumsModel", "carry", "(II)I"⟩
abbrev wsM_carry : List Cond := .code yM_carry prog_8_method_22_code 6 (some .int) :: zBig
abbrev yM_digit : MethodName := ⟨"LetterSumsModel", "digit", "(II)I"⟩
abbrev wsM_digit : List Cond := .code yM_digit prog_8_method_17_code 4 (some .int) :: zBig
abbrev yM_digitAt : MethodName := ⟨"LetterSumsModel", "digitAt", "(II)I"⟩
abbrev wsM_digitAt : List Cond := .code yM_digitAt prog_8_method_18_code 4 (some .int) :: zBig
abbrev yM_fixed : MethodName := ⟨"LetterSumsModel", "fixed", "()I"⟩
abbrev wsM_fixed : List Cond := .code yM_fixed prog_8_method_24_code 5 (some .int) :: zBig
abbrev yM_goThrough : MethodName := ⟨"LetterSumsModel", "goThrough", "(IZ)I"⟩
abbrev wsM_goThrough : List Cond := .code yM_goThrough prog_8_method_13_code 9 (some .int) :: zBig
abbrev yM_hasCarries : MethodName := ⟨"LetterSumsModel", "hasCarries", "()Z"⟩
abbrev wsM_hasCarries : List Cond := .code yM_hasCarries prog_8_method_21_code 3 (some .boolean) :: zBig
abbrev yM_indexOf : MethodName := ⟨"LetterSumsModel", "indexOf", "(I)I"⟩
abbrev wsM_indexOf : List Cond := .code yM_indexOf prog_8_method_11_code 3 (some .int) :: zBig
abbrev yM_isAnswer : MethodName := ⟨"LetterSumsModel", "isAnswer", "(I)Z"⟩
abbrev wsM_isAnswer : List Cond := .code yM_isAnswer prog_8_method_16_code 2 (some .boolean) :: zBig
abbrev yM_isLetter : MethodName := ⟨"LetterSumsModel", "isLetter", "(I)Z"⟩
abbrev wsM_isLetter : List Cond := .code yM_isLetter prog_8_method_4_code 1 (some .boolean) :: zBig
abbrev yM_isSign : MethodName := ⟨"LetterSumsModel", "isSign", "(I)Z"⟩
abbrev wsM_isSign : List Cond := .code yM_isSign prog_8_method_5_code 2 (some .boolean) :: zBig
abbrev yM_letter : MethodName := ⟨"LetterSumsModel", "letter", "(I)I"⟩
abbrev wsM_letter : List Cond := .code yM_letter prog_8_method_10_code 2 (some .int) :: zBig
abbrev yM_letters : MethodName := ⟨"LetterSumsModel", "letters", "()I"⟩
abbrev wsM_letters : List Cond := .code yM_letters prog_8_method_9_code 1 (some .int) :: zBig
abbrev yM_look : MethodName := ⟨"LetterSumsModel", "look", "(I)I"⟩
abbrev wsM_look : List Cond := .code yM_look prog_8_method_6_code 8 (some .int) :: zBig
abbrev yM_one : MethodName := ⟨"LetterSumsModel", "one", "()Z"⟩
abbrev wsM_one : List Cond := .code yM_one prog_8_method_15_code 1 (some .boolean) :: zBig
abbrev yM_read : MethodName := ⟨"LetterSumsModel", "read", "()I"⟩
abbrev wsM_read : List Cond := .code yM_read prog_8_method_7_code 4 (some .int) :: zBig
abbrev yM_run : MethodName := ⟨"LetterSumsModel", "run", "(I)I"⟩
abbrev wsM_run : List Cond := .code yM_run prog_8_method_14_code 2 (some .int) :: zBig
abbrev yM_side : MethodName := ⟨"LetterSumsModel", "side", "(II)J"⟩
abbrev wsM_side : List Cond := .code yM_side prog_8_method_20_code 6 (some .long) :: zBig
abbrev yM_text : MethodName := ⟨"LetterSumsModel", "text", "(II)I"⟩
abbrev wsM_text : List Cond := .code yM_text prog_8_method_23_code 3 (some .int) :: zBig
abbrev yM_unit : MethodName := ⟨"LetterSumsModel", "unit", "(I)Z"⟩
abbrev wsM_unit : List Cond := .code yM_unit prog_8_method_3_code 2 (some .boolean) :: zBig
abbrev yM_weigh : MethodName := ⟨"LetterSumsModel", "weigh", "()V"⟩
abbrev wsM_weigh : List Cond := .code yM_weigh prog_8_method_12_code 6 none :: zBig
abbrev yM_wordOf : MethodName := ⟨"LetterSumsModel", "wordOf", "(III)J"⟩
abbrev wsM_wordOf : List Cond := .code yM_wordOf prog_8_method_19_code 8 (some .long) :: zBig
abbrev yJI_bitCount : MethodName := ⟨"java/lang/Integer", "bitCount", "(I)I"⟩
abbrev wsJI_bitCount : List Cond := .code yJI_bitCount prog_9_method_49_code 1 (some .int) :: zBig
abbrev yJM_floorMod : MethodName := ⟨"java/lang/Math", "floorMod", "(II)I"⟩
abbrev wsJM_floorMod : List Cond := .code yJM_floorMod prog_10_method_50_code 3 (some .int) :: zBig
abbrev yJM_max : MethodName := ⟨"java/lang/Math", "max", "(II)I"⟩
abbrev wsJM_max : List Cond := .code yJM_max prog_10_method_65_code 2 (some .int) :: zBig
abbrev yJM_min : MethodName := ⟨"java/lang/Math", "min", "(II)I"⟩
abbrev wsJM_min : List Cond := .code yJM_min prog_10_method_69_code 2 (some .int) :: zBig
abbrev yJA_fill : MethodName := ⟨"java/util/Arrays", "fill", "([II)V"⟩
abbrev wsJA_fill : List Cond := .code yJA_fill prog_11_method_103_code 4 none :: zBig
/-- the words of nest mates: they go along in the state -/
def zIsNest : Cond → Bool
  | .fieldLinkNest .. => true
  | .methodLinkNest .. => true
  | _ => false
def zNest : List Cond := tables_1.filter zIsNest
theorem qn_21 : Cond.methodLinkNest "LetterSums" 19 ⟨"LetterSums$Answers", "<init>", "()V"⟩ "LetterSums" ∈ zNest := List.mem_filter.mpr ⟨List.mem_of_getElem? (i := 21) (by decide +kernel), rfl⟩
theorem qn_27 : Cond.fieldLinkNest "LetterSums" 91 "LetterSums$Answers" "count" "I" "LetterSums" ∈ zNest := List.mem_filter.mpr ⟨List.mem_of_getElem? (i := 27) (by decide +kernel), rfl⟩
theorem qn_29 : Cond.fieldLinkNest "LetterSums" 138 "LetterSums$Answers" "known" "Z" "LetterSums" ∈ zNest := List.mem_filter.mpr ⟨List.mem_of_getElem? (i := 29) (by decide +kernel), rfl⟩
theorem qn_80 : Cond.fieldLinkNest "LetterSums$Weights" 47 "LetterSums$Sum" "starts" "[I" "LetterSums" ∈ zNest := List.mem_filter.mpr ⟨List.mem_of_getElem? (i := 80) (by decide +kernel), rfl⟩
theorem qn_82 : Cond.fieldLinkNest "LetterSums$Weights" 44 "LetterSums$Sum" "ends" "[I" "LetterSums" ∈ zNest := List.mem_filter.mpr ⟨List.mem_of_getElem? (i := 82) (by decide +kernel), rfl⟩
theorem qn_84 : Cond.fieldLinkNest "LetterSums$Search" 62 "LetterSums$Sum" "words" "I" "LetterSums" ∈ zNest := List.mem_filter.mpr ⟨List.mem_of_getElem? (i := 84) (by decide +kernel), rfl⟩
theorem qn_85 : Cond.fieldLinkNest "LetterSums$Weights" 35 "LetterSums$Sum" "words" "I" "LetterSums" ∈ zNest := List.mem_filter.mpr ⟨List.mem_of_getElem? (i := 85) (by decide +kernel), rfl⟩
theorem qn_86 : Cond.fieldLinkNest "LetterSums" 77 "LetterSums$Sum" "words" "I" "LetterSums" ∈ zNest := List.mem_filter.mpr ⟨List.mem_of_getElem? (i := 86) (by decide +kernel), rfl⟩
theorem qn_90 : Cond.fieldLinkNest "LetterSums$Search" 70 "LetterSums$Sum" "letterCount" "I" "LetterSums" ∈ zNest := List.mem_filter.mpr ⟨List.mem_of_getElem? (i := 90) (by decide +kernel), rfl⟩
theorem qn_91 : Cond.fieldLinkNest "LetterSums" 80 "LetterSums$Sum" "letterCount" "I" "LetterSums" ∈ zNest := List.mem_filter.mpr ⟨List.mem_of_getElem? (i := 91) (by decide +kernel), rfl⟩
theorem qn_127 : Cond.fieldLinkNest "LetterSums$Search" 103 "LetterSums$Weights" "ofSlot" "[I" "LetterSums" ∈ zNest := List.mem_filter.mpr ⟨List.mem_of_getElem? (i := 127) (by decide +kernel), rfl⟩
theorem qn_129 : Cond.fieldLinkNest "LetterSums$Search" 84 "LetterSums$Weights" "ofDigits" "I" "LetterSums" ∈ zNest := List.mem_filter.mpr ⟨List.mem_of_getElem? (i := 129) (by decide +kernel), rfl⟩
theorem qn_132 : Cond.fieldLinkNest "LetterSums$Search" 67 "LetterSums$Weights" "zeroInFront" "Z" "LetterSums" ∈ zNest := List.mem_filter.mpr ⟨List.mem_of_getElem? (i := 132) (by decide +kernel), rfl⟩
theorem qn_222 : Cond.methodLinkNest "LetterSums$Grammar" 32 ⟨"LetterSums", "isLetter", "(I)Z"⟩ "LetterSums" ∈ zNest := List.mem_filter.mpr ⟨List.mem_of_getElem? (i := 222) (by decide +kernel), rfl⟩
theorem qn_239 : Cond.methodLinkNest "LetterSums$Grammar" 42 ⟨"LetterSums", "isDigit", "(I)Z"⟩ "LetterSums" ∈ zNest := List.mem_filter.mpr ⟨List.mem_of_getElem? (i := 239) (by decide +kernel), rfl⟩
theorem qn_258 : Cond.methodLinkNest "LetterSums$Sum" 55 ⟨"LetterSums", "isLetter", "(I)Z"⟩ "LetterSums" ∈ zNest := List.mem_filter.mpr ⟨List.mem_of_getElem? (i := 258) (by decide +kernel), rfl⟩
theorem qn_259 : Cond.methodLinkNest "LetterSums$Sum" 59 ⟨"LetterSums", "isDigit", "(I)Z"⟩ "LetterSums" ∈ zNest := List.mem_filter.mpr ⟨List.mem_of_getElem? (i := 259) (by decide +kernel), rfl⟩
theorem qn_348 : Cond.methodLinkNest "LetterSums$Search" 99 ⟨"LetterSums", "withDigit", "(III)I"⟩ "LetterSums" ∈ zNest := List.mem_filter.mpr ⟨List.mem_of_getElem? (i := 348) (by decide +kernel), rfl⟩
theorem qn_416 : Cond.methodLinkNest "LetterSums$Sum" 69 ⟨"LetterSums", "digitOf", "(II)I"⟩ "LetterSums" ∈ zNest := List.mem_filter.mpr ⟨List.mem_of_getElem? (i := 416) (by decide +kernel), rfl⟩
