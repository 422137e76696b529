def RX0 : String := "Tutorlight$Equation"
def TX0 : u_T := fun k => match k with
  | 0 => ("Tutorlight$Equation", "a", "I", false)
  | 1 => ("Tutorlight$Equation", "b", "I", false)
  | 2 => ("Tutorlight$Equation", "c", "I", false)
  | _ => ("Tutorlight$Equation", "d", "I", false)
def tyX0 : Nat → FieldType := fun k => match k with
  | 0 => .int
  | 1 => .int
  | 2 => .int
  | _ => .int
theorem nmX0 : ∀ a, a < 4 → ∀ b, b < 4 → a ≠ b → (TX0 a).2.1 ≠ (TX0 b).2.1 := by decide +kernel
theorem tyX0_ok : ∀ k, k < 4 → parseFieldDescriptor (TX0 k).2.2.1 = some (tyX0 k) := by decide +kernel
abbrev cX0_init : ByteArray := prog_2_method_1_code
def yX0_init : MethodName := ⟨RX0, "<init>", "(IIII)V"⟩
abbrev cX0_become : ByteArray := prog_2_method_2_code
def yX0_become : MethodName := ⟨RX0, "become", "(LTutorlight$Equation;)V"⟩
abbrev cX0_isSameAs : ByteArray := prog_2_method_3_code
def yX0_isSameAs : MethodName := ⟨RX0, "isSameAs", "(LTutorlight$Equation;)Z"⟩
abbrev cX0_numberNamed : ByteArray := prog_2_method_4_code
def yX0_numberNamed : MethodName := ⟨RX0, "numberNamed", "(C)I"⟩
abbrev cX0_isSolved : ByteArray := prog_2_method_5_code
def yX0_isSolved : MethodName := ⟨RX0, "isSolved", "()Z"⟩
abbrev cX0_hasOnlySolution : ByteArray := prog_2_method_6_code
def yX0_hasOnlySolution : MethodName := ⟨RX0, "hasOnlySolution", "(I)Z"⟩
abbrev cX0_hasSameSolutionsAs : ByteArray := prog_2_method_7_code
def yX0_hasSameSolutionsAs : MethodName := ⟨RX0, "hasSameSolutionsAs", "(LTutorlight$Equation;)Z"⟩
abbrev cX0_applyRule : ByteArray := prog_2_method_8_code
def yX0_applyRule : MethodName := ⟨RX0, "applyRule", "(IZ)V"⟩
abbrev cX0_takeBRight : ByteArray := prog_2_method_9_code
def yX0_takeBRight : MethodName := ⟨RX0, "takeBRight", "(Z)V"⟩
abbrev cX0_takeCLeft : ByteArray := prog_2_method_10_code
def yX0_takeCLeft : MethodName := ⟨RX0, "takeCLeft", "(Z)V"⟩
abbrev cX0_changeSides : ByteArray := prog_2_method_11_code
def yX0_changeSides : MethodName := ⟨RX0, "changeSides", "()V"⟩
abbrev cX0_changeSigns : ByteArray := prog_2_method_12_code
def yX0_changeSigns : MethodName := ⟨RX0, "changeSigns", "(Z)V"⟩
abbrev cX0_divide : ByteArray := prog_2_method_13_code
def yX0_divide : MethodName := ⟨RX0, "divide", "(Z)V"⟩
abbrev cX0_ruleToTry : ByteArray := prog_2_method_14_code
def yX0_ruleToTry : MethodName := ⟨RX0, "ruleToTry", "()I"⟩
abbrev cX0_isChangedBy : ByteArray := prog_2_method_15_code
def yX0_isChangedBy : MethodName := ⟨RX0, "isChangedBy", "(I)Z"⟩
def RX1 : String := "Tutorlight$Exercise"
def TX1 : u_T := fun k => match k with
  | 0 => ("Tutorlight$Exercise", "skill", "I", true)
  | 1 => ("Tutorlight$Exercise", "solution", "I", true)
  | 2 => ("Tutorlight$Exercise", "equation", "LTutorlight$Equation;", false)
  | 3 => ("Tutorlight$Exercise", "wrongSteps", "I", false)
  | _ => ("Tutorlight$Exercise", "hints", "I", false)
def tyX1 : Nat → FieldType := fun k => match k with
  | 0 => .int
  | 1 => .int
  | 2 => .object "Tutorlight$Equation"
  | 3 => .int
  | _ => .int
theorem nmX1 : ∀ a, a < 5 → ∀ b, b < 5 → a ≠ b → (TX1 a).2.1 ≠ (TX1 b).2.1 := by decide +kernel
theorem tyX1_ok : ∀ k, k < 5 → parseFieldDescriptor (TX1 k).2.2.1 = some (tyX1 k) := by decide +kernel
abbrev cX1_init : ByteArray := prog_3_method_1_code
def yX1_init : MethodName := ⟨RX1, "<init>", "(II)V"⟩
abbrev cX1_isFaultless : ByteArray := prog_3_method_2_code
def yX1_isFaultless : MethodName := ⟨RX1, "isFaultless", "()Z"⟩
def RX2 : String := "Tutorlight$Explainer"
def TX2 : u_T := fun k => match k with
  | 0 => ("Tutorlight$Explainer", "byRight", "[LTutorlight$Equation;", true)
  | 1 => ("Tutorlight$Explainer", "byBroken", "[LTutorlight$Equation;", true)
  | 2 => ("Tutorlight$Explainer", "sought", "LTutorlight$Equation;", false)
  | _ => ("Tutorlight$Explainer", "best", "I", false)
def tyX2 : Nat → FieldType := fun k => match k with
  | 0 => .array (.object "Tutorlight$Equation")
  | 1 => .array (.object "Tutorlight$Equation")
  | 2 => .object "Tutorlight$Equation"
  | _ => .int
theorem nmX2 : ∀ a, a < 4 → ∀ b, b < 4 → a ≠ b → (TX2 a).2.1 ≠ (TX2 b).2.1 := by decide +kernel
theorem tyX2_ok : ∀ k, k < 4 → parseFieldDescriptor (TX2 k).2.2.1 = some (tyX2 k) := by decide +kernel
abbrev cX2_init : ByteArray := prog_4_method_1_code
def yX2_init : MethodName := ⟨RX2, "<init>", "()V"⟩
abbrev cX2_explanationOf : ByteArray := prog_4_method_2_code
def yX2_explanationOf : MethodName := ⟨RX2, "explanationOf", "(LTutorlight$WrongStep;)I"⟩
abbrev cX2_seek : ByteArray := prog_4_method_3_code
def yX2_seek : MethodName := ⟨RX2, "seek", "(LTutorlight$Explainer;LTutorlight$Equation;II)V"⟩
abbrev cX2_isBetter : ByteArray := prog_4_method_4_code
def yX2_isBetter : MethodName := ⟨RX2, "isBetter", "(I)Z"⟩
def RX3 : String := "Tutorlight$Learner"
def TX3 : u_T := fun k => match k with
  | 0 => ("Tutorlight$Learner", "masteries", "[LTutorlight$Mastery;", true)
  | 1 => ("Tutorlight$Learner", "exercise", "LTutorlight$Exercise;", false)
  | 2 => ("Tutorlight$Learner", "wrongStep", "LTutorlight$WrongStep;", false)
  | 3 => ("Tutorlight$Learner", "lastNumbers", "[I", true)
  | _ => ("Tutorlight$Learner", "oldestNumber", "I", false)
def tyX3 : Nat → FieldType := fun k => match k with
  | 0 => .array (.object "Tutorlight$Mastery")
  | 1 => .object "Tutorlight$Exercise"
  | 2 => .object "Tutorlight$WrongStep"
  | 3 => .array .int
  | _ => .int
theorem nmX3 : ∀ a, a < 5 → ∀ b, b < 5 → a ≠ b → (TX3 a).2.1 ≠ (TX3 b).2.1 := by decide +kernel
theorem tyX3_ok : ∀ k, k < 5 → parseFieldDescriptor (TX3 k).2.2.1 = some (tyX3 k) := by decide +kernel
abbrev cX3_init : ByteArray := prog_5_method_1_code
def yX3_init : MethodName := ⟨RX3, "<init>", "()V"⟩
abbrev cX3_remembers : ByteArray := prog_5_method_2_code
def yX3_remembers : MethodName := ⟨RX3, "remembers", "(I)Z"⟩
abbrev cX3_remember : ByteArray := prog_5_method_3_code
def yX3_remember : MethodName := ⟨RX3, "remember", "(I)V"⟩
def RX4 : String := "Tutorlight$Mastery"
def TX4 : u_T := fun k => match k with
  | 0 => ("Tutorlight$Mastery", "odds", "I", false)
  | 1 => ("Tutorlight$Mastery", "answerCount", "I", false)
  | 2 => ("Tutorlight$Mastery", "dueDay", "I", false)
  | 3 => ("Tutorlight$Mastery", "isOpenedByTeacher", "Z", false)
  | 4 => ("Tutorlight$Mastery", "toldOdds", "I", false)
  | 5 => ("Tutorlight$Mastery", "rightInRow", "I", false)
  | _ => ("Tutorlight$Mastery", "rightAnswers", "[J", true)
def tyX4 : Nat → FieldType := fun k => match k with
  | 0 => .int
  | 1 => .int
  | 2 => .int
  | 3 => .boolean
  | 4 => .int
  | 5 => .int
  | _ => .array .long
theorem nmX4 : ∀ a, a < 7 → ∀ b, b < 7 → a ≠ b → (TX4 a).2.1 ≠ (TX4 b).2.1 := by decide +kernel
theorem tyX4_ok : ∀ k, k < 7 → parseFieldDescriptor (TX4 k).2.2.1 = some (tyX4 k) := by decide +kernel
abbrev cX4_init : ByteArray := prog_6_method_1_code
def yX4_init : MethodName := ⟨RX4, "<init>", "()V"⟩
abbrev cX4_tellOdds : ByteArray := prog_6_method_2_code
def yX4_tellOdds : MethodName := ⟨RX4, "tellOdds", "(I)V"⟩
abbrev cX4_noteAnswer : ByteArray := prog_6_method_3_code
def yX4_noteAnswer : MethodName := ⟨RX4, "noteAnswer", "(LTutorlight$Skill;Z)V"⟩
abbrev cX4_oddsFromAnswers : ByteArray := prog_6_method_4_code
def yX4_oddsFromAnswers : MethodName := ⟨RX4, "oddsFromAnswers", "(LTutorlight$Skill;)I"⟩
abbrev cX4_daysToWait : ByteArray := prog_6_method_5_code
def yX4_daysToWait : MethodName := ⟨RX4, "daysToWait", "()I"⟩
abbrev cX4_wasAnswered : ByteArray := prog_6_method_6_code
def yX4_wasAnswered : MethodName := ⟨RX4, "wasAnswered", "()Z"⟩
abbrev cX4_isDueBy : ByteArray := prog_6_method_7_code
def yX4_isDueBy : MethodName := ⟨RX4, "isDueBy", "(I)Z"⟩
def RX5 : String := "Tutorlight$Skill"
def TX5 : u_T := fun k => match k with
  | 0 => ("Tutorlight$Skill", "guess", "I", true)
  | 1 => ("Tutorlight$Skill", "slip", "I", true)
  | 2 => ("Tutorlight$Skill", "gain", "I", true)
  | _ => ("Tutorlight$Skill", "neededSkills", "I", false)
def tyX5 : Nat → FieldType := fun k => match k with
  | 0 => .int
  | 1 => .int
  | 2 => .int
  | _ => .int
theorem nmX5 : ∀ a, a < 4 → ∀ b, b < 4 → a ≠ b → (TX5 a).2.1 ≠ (TX5 b).2.1 := by decide +kernel
theorem tyX5_ok : ∀ k, k < 4 → parseFieldDescriptor (TX5 k).2.2.1 = some (tyX5 k) := by decide +kernel
abbrev cX5_init : ByteArray := prog_7_method_1_code
def yX5_init : MethodName := ⟨RX5, "<init>", "(III)V"⟩
abbrev cX5_needs : ByteArray := prog_7_method_2_code
def yX5_needs : MethodName := ⟨RX5, "needs", "(I)Z"⟩
abbrev cX5_oddsAfter : ByteArray := prog_7_method_3_code
def yX5_oddsAfter : MethodName := ⟨RX5, "oddsAfter", "(IZ)I"⟩
def RX6 : String := "Tutorlight$WrongStep"
def TX6 : u_T := fun k => match k with
  | 0 => ("Tutorlight$WrongStep", "had", "LTutorlight$Equation;", true)
  | _ => ("Tutorlight$WrongStep", "told", "LTutorlight$Equation;", true)
def tyX6 : Nat → FieldType := fun k => match k with
  | 0 => .object "Tutorlight$Equation"
  | _ => .object "Tutorlight$Equation"
theorem nmX6 : ∀ a, a < 2 → ∀ b, b < 2 → a ≠ b → (TX6 a).2.1 ≠ (TX6 b).2.1 := by decide +kernel
theorem tyX6_ok : ∀ k, k < 2 → parseFieldDescriptor (TX6 k).2.2.1 = some (tyX6 k) := by decide +kernel
abbrev cX6_init : ByteArray := prog_8_method_1_code
def yX6_init : MethodName := ⟨RX6, "<init>", "(LTutorlight$Equation;LTutorlight$Equation;)V"⟩
def RX7 : String := "Tutorlight"
def TX7 : u_T := fun k => match k with
  | 0 => ("Tutorlight", "skills", "[LTutorlight$Skill;", true)
  | 1 => ("Tutorlight", "learners", "[LTutorlight$Learner;", true)
  | 2 => ("Tutorlight", "explainer", "LTutorlight$Explainer;", true)
  | 3 => ("Tutorlight", "skillCount", "I", false)
  | 4 => ("Tutorlight", "learnerCount", "I", false)
  | _ => ("Tutorlight", "day", "I", false)
def tyX7 : Nat → FieldType := fun k => match k with
  | 0 => .array (.object "Tutorlight$Skill")
  | 1 => .array (.object "Tutorlight$Learner")
  | 2 => .object "Tutorlight$Explainer"
  | 3 => .int
  | 4 => .int
  | _ => .int
theorem nmX7 : ∀ a, a < 6 → ∀ b, b < 6 → a ≠ b → (TX7 a).2.1 ≠ (TX7 b).2.1 := by decide +kernel
theorem tyX7_ok : ∀ k, k < 6 → parseFieldDescriptor (TX7 k).2.2.1 = some (tyX7 k) := by decide +kernel
abbrev cX7_init : ByteArray := prog_1_method_1_code
def yX7_init : MethodName := ⟨RX7, "<init>", "()V"⟩
abbrev cX7_addSkill : ByteArray := prog_1_method_2_code
def yX7_addSkill : MethodName := ⟨RX7, "addSkill", "(III)I"⟩
abbrev cX7_addNeed : ByteArray := prog_1_method_3_code
def yX7_addNeed : MethodName := ⟨RX7, "addNeed", "(II)Z"⟩
abbrev cX7_addLearner : ByteArray := prog_1_method_4_code
def yX7_addLearner : MethodName := ⟨RX7, "addLearner", "()I"⟩
abbrev cX7_open : ByteArray := prog_1_method_5_code
def yX7_open : MethodName := ⟨RX7, "open", "(II)Z"⟩
abbrev cX7_isOpen : ByteArray := prog_1_method_6_code
def yX7_isOpen : MethodName := ⟨RX7, "isOpen", "(II)Z"⟩
abbrev cX7_setOdds : ByteArray := prog_1_method_7_code
def yX7_setOdds : MethodName := ⟨RX7, "setOdds", "(III)I"⟩
abbrev cX7_answer : ByteArray := prog_1_method_8_code
def yX7_answer : MethodName := ⟨RX7, "answer", "(IIZ)I"⟩
abbrev cX7_odds : ByteArray := prog_1_method_9_code
def yX7_odds : MethodName := ⟨RX7, "odds", "(II)I"⟩
abbrev cX7_oddsAnew : ByteArray := prog_1_method_10_code
def yX7_oddsAnew : MethodName := ⟨RX7, "oddsAnew", "(II)I"⟩
abbrev cX7_answers : ByteArray := prog_1_method_11_code
def yX7_answers : MethodName := ⟨RX7, "answers", "(II)I"⟩
abbrev cX7_nextDay : ByteArray := prog_1_method_12_code
def yX7_nextDay : MethodName := ⟨RX7, "nextDay", "()I"⟩
abbrev cX7_due : ByteArray := prog_1_method_13_code
def yX7_due : MethodName := ⟨RX7, "due", "(II)I"⟩
abbrev cX7_reviews : ByteArray := prog_1_method_14_code
def yX7_reviews : MethodName := ⟨RX7, "reviews", "(I)I"⟩
abbrev cX7_reviewAt : ByteArray := prog_1_method_15_code
def yX7_reviewAt : MethodName := ⟨RX7, "reviewAt", "(II)I"⟩
abbrev cX7_choose : ByteArray := prog_1_method_16_code
def yX7_choose : MethodName := ⟨RX7, "choose", "(I)I"⟩
abbrev cX7_make : ByteArray := prog_1_method_17_code
def yX7_make : MethodName := ⟨RX7, "make", "(III)I"⟩
abbrev cX7_part : ByteArray := prog_1_method_18_code
def yX7_part : MethodName := ⟨RX7, "part", "(IC)I"⟩
abbrev cX7_step : ByteArray := prog_1_method_19_code
def yX7_step : MethodName := ⟨RX7, "step", "(IIIII)C"⟩
abbrev cX7_explain : ByteArray := prog_1_method_20_code
def yX7_explain : MethodName := ⟨RX7, "explain", "(I)I"⟩
abbrev cX7_hint : ByteArray := prog_1_method_21_code
def yX7_hint : MethodName := ⟨RX7, "hint", "(I)I"⟩
abbrev cX7_faults : ByteArray := prog_1_method_22_code
def yX7_faults : MethodName := ⟨RX7, "faults", "(I)I"⟩
abbrev cX7_checksum : ByteArray := prog_1_method_23_code
def yX7_checksum : MethodName := ⟨RX7, "checksum", "()J"⟩
abbrev cX7_knownShare : ByteArray := prog_1_method_24_code
def yX7_knownShare : MethodName := ⟨RX7, "knownShare", "()F"⟩
abbrev cX7_meanOdds : ByteArray := prog_1_method_25_code
def yX7_meanOdds : MethodName := ⟨RX7, "meanOdds", "(I)D"⟩
abbrev cX7_isSound : ByteArray := prog_1_method_26_code
def yX7_isSound : MethodName := ⟨RX7, "isSound", "()Z"⟩
abbrev cX7_checkThousandths : ByteArray := prog_1_method_27_code
def yX7_checkThousandths : MethodName := ⟨RX7, "checkThousandths", "(I)V"⟩
abbrev cX7_checkTold : ByteArray := prog_1_method_28_code
def yX7_checkTold : MethodName := ⟨RX7, "checkTold", "(I)V"⟩
abbrev cX7_checkOpen : ByteArray := prog_1_method_29_code
def yX7_checkOpen : MethodName := ⟨RX7, "checkOpen", "(LTutorlight$Learner;I)V"⟩
abbrev cX7_skillAt : ByteArray := prog_1_method_30_code
def yX7_skillAt : MethodName := ⟨RX7, "skillAt", "(I)LTutorlight$Skill;"⟩
abbrev cX7_learnerAt : ByteArray := prog_1_method_31_code
def yX7_learnerAt : MethodName := ⟨RX7, "learnerAt", "(I)LTutorlight$Learner;"⟩
abbrev cX7_masteryAt : ByteArray := prog_1_method_32_code
def yX7_masteryAt : MethodName := ⟨RX7, "masteryAt", "(II)LTutorlight$Mastery;"⟩
abbrev cX7_exerciseOf : ByteArray := prog_1_method_33_code
def yX7_exerciseOf : MethodName := ⟨RX7, "exerciseOf", "(LTutorlight$Learner;)LTutorlight$Exercise;"⟩
abbrev cX7_comesToNeed : ByteArray := prog_1_method_34_code
def yX7_comesToNeed : MethodName := ⟨RX7, "comesToNeed", "(II)Z"⟩
abbrev cX7_neededByAny : ByteArray := prog_1_method_35_code
def yX7_neededByAny : MethodName := ⟨RX7, "neededByAny", "(I)I"⟩
abbrev cX7_isOpenFor : ByteArray := prog_1_method_36_code
def yX7_isOpenFor : MethodName := ⟨RX7, "isOpenFor", "(LTutorlight$Learner;I)Z"⟩
abbrev cX7_noteAnswer : ByteArray := prog_1_method_37_code
def yX7_noteAnswer : MethodName := ⟨RX7, "noteAnswer", "(LTutorlight$Learner;IZ)V"⟩
abbrev cX7_firstFreeDay : ByteArray := prog_1_method_38_code
def yX7_firstFreeDay : MethodName := ⟨RX7, "firstFreeDay", "(LTutorlight$Learner;II)I"⟩
abbrev cX7_othersDueOn : ByteArray := prog_1_method_39_code
def yX7_othersDueOn : MethodName := ⟨RX7, "othersDueOn", "(LTutorlight$Learner;II)I"⟩
abbrev cX7_reviewsAheadOf : ByteArray := prog_1_method_40_code
def yX7_reviewsAheadOf : MethodName := ⟨RX7, "reviewsAheadOf", "(LTutorlight$Learner;I)I"⟩
abbrev cX7_firstOpenReview : ByteArray := prog_1_method_41_code
def yX7_firstOpenReview : MethodName := ⟨RX7, "firstOpenReview", "(LTutorlight$Learner;)I"⟩
abbrev cX7_bestNewSkill : ByteArray := prog_1_method_42_code
def yX7_bestNewSkill : MethodName := ⟨RX7, "bestNewSkill", "(LTutorlight$Learner;)I"⟩
abbrev cX7_areOddsSound : ByteArray := prog_1_method_43_code
def yX7_areOddsSound : MethodName := ⟨RX7, "areOddsSound", "(LTutorlight$Learner;)Z"⟩
abbrev cX7_areDaysSound : ByteArray := prog_1_method_44_code
def yX7_areDaysSound : MethodName := ⟨RX7, "areDaysSound", "(LTutorlight$Learner;)Z"⟩
abbrev cX7_isExerciseSound : ByteArray := prog_1_method_45_code
def yX7_isExerciseSound : MethodName := ⟨RX7, "isExerciseSound", "(LTutorlight$Learner;)Z"⟩
def RX8 : String := "TutorlightModel$Known"
def TX8 : u_T := fun k => match k with
  | 0 => ("TutorlightModel$Known", "odds", "I", false)
  | 1 => ("TutorlightModel$Known", "base", "I", false)
  | 2 => ("TutorlightModel$Known", "answers", "Ljava/util/ArrayList;", true)
  | 3 => ("TutorlightModel$Known", "isOpened", "Z", false)
  | 4 => ("TutorlightModel$Known", "row", "I", false)
  | _ => ("TutorlightModel$Known", "due", "I", false)
def tyX8 : Nat → FieldType := fun k => match k with
  | 0 => .int
  | 1 => .int
  | 2 => .object "java/util/ArrayList"
  | 3 => .boolean
  | 4 => .int
  | _ => .int
theorem nmX8 : ∀ a, a < 6 → ∀ b, b < 6 → a ≠ b → (TX8 a).2.1 ≠ (TX8 b).2.1 := by decide +kernel
theorem tyX8_ok : ∀ k, k < 6 → parseFieldDescriptor (TX8 k).2.2.1 = some (tyX8 k) := by decide +kernel
abbrev cX8_init : ByteArray := prog_11_method_1_code
def yX8_init : MethodName := ⟨RX8, "<init>", "()V"⟩
def RX9 : String := "TutorlightModel$Learner"
def TX9 : u_T := fun k => match k with
  | 0 => ("TutorlightModel$Learner", "known", "[LTutorlightModel$Known;", true)
  | 1 => ("TutorlightModel$Learner", "made", "Ljava/util/ArrayList;", true)
  | 2 => ("TutorlightModel$Learner", "equation", "[I", false)
  | 3 => ("TutorlightModel$Learner", "skill", "I", false)
  | 4 => ("TutorlightModel$Learner", "wrong", "I", false)
  | 5 => ("TutorlightModel$Learner", "hints", "I", false)
  | 6 => ("TutorlightModel$Learner", "before", "[I", false)
  | _ => ("TutorlightModel$Learner", "after", "[I", false)
def tyX9 : Nat → FieldType := fun k => match k with
  | 0 => .array (.object "TutorlightModel$Known")
  | 1 => .object "java/util/ArrayList"
  | 2 => .array .int
  | 3 => .int
  | 4 => .int
  | 5 => .int
  | 6 => .array .int
  | _ => .array .int
theorem nmX9 : ∀ a, a < 8 → ∀ b, b < 8 → a ≠ b → (TX9 a).2.1 ≠ (TX9 b).2.1 := by decide +kernel
theorem tyX9_ok : ∀ k, k < 8 → parseFieldDescriptor (TX9 k).2.2.1 = some (tyX9 k) := by decide +kernel
abbrev cX9_init : ByteArray := prog_12_method_1_code
def yX9_init : MethodName := ⟨RX9, "<init>", "()V"⟩
def RX10 : String := "TutorlightModel$Skill"
def TX10 : u_T := fun k => match k with
  | 0 => ("TutorlightModel$Skill", "guess", "I", false)
  | 1 => ("TutorlightModel$Skill", "slip", "I", false)
  | 2 => ("TutorlightModel$Skill", "gain", "I", false)
  | _ => ("TutorlightModel$Skill", "needs", "[Z", true)
def tyX10 : Nat → FieldType := fun k => match k with
  | 0 => .int
  | 1 => .int
  | 2 => .int
  | _ => .array .boolean
theorem nmX10 : ∀ a, a < 4 → ∀ b, b < 4 → a ≠ b → (TX10 a).2.1 ≠ (TX10 b).2.1 := by decide +kernel
theorem tyX10_ok : ∀ k, k < 4 → parseFieldDescriptor (TX10 k).2.2.1 = some (tyX10 k) := by decide +kernel
abbrev cX10_init : ByteArray := prog_13_method_1_code
def yX10_init : MethodName := ⟨RX10, "<init>", "()V"⟩
def RX11 : String := "TutorlightModel"
def TX11 : u_T := fun k => match k with
  | 0 => ("TutorlightModel", "thrown", "I", false)
  | 1 => ("TutorlightModel", "day", "I", false)
  | 2 => ("TutorlightModel", "skills", "Ljava/util/ArrayList;", true)
  | _ => ("TutorlightModel", "learners", "Ljava/util/ArrayList;", true)
def tyX11 : Nat → FieldType := fun k => match k with
  | 0 => .int
  | 1 => .int
  | 2 => .object "java/util/ArrayList"
  | _ => .object "java/util/ArrayList"
theorem nmX11 : ∀ a, a < 4 → ∀ b, b < 4 → a ≠ b → (TX11 a).2.1 ≠ (TX11 b).2.1 := by decide +kernel
theorem tyX11_ok : ∀ k, k < 4 → parseFieldDescriptor (TX11 k).2.2.1 = some (tyX11 k) := by decide +kernel
abbrev cX11_init : ByteArray := prog_10_method_1_code
def yX11_init : MethodName := ⟨RX11, "<init>", "()V"⟩
abbrev cX11_thrown : ByteArray := prog_10_method_2_code
def yX11_thrown : MethodName := ⟨RX11, "thrown", "()I"⟩
abbrev cX11_in : ByteArray := prog_10_method_3_code
def yX11_in : MethodName := ⟨RX11, "in", "(III)Z"⟩
abbrev cX11_fails : ByteArray := prog_10_method_4_code
def yX11_fails : MethodName := ⟨RX11, "fails", "(ZI)Z"⟩
abbrev cX11_noSkill : ByteArray := prog_10_method_5_code
def yX11_noSkill : MethodName := ⟨RX11, "noSkill", "(I)Z"⟩
abbrev cX11_noLearner : ByteArray := prog_10_method_6_code
def yX11_noLearner : MethodName := ⟨RX11, "noLearner", "(I)Z"⟩
abbrev cX11_no : ByteArray := prog_10_method_7_code
def yX11_no : MethodName := ⟨RX11, "no", "(II)Z"⟩
abbrev cX11_of : ByteArray := prog_10_method_8_code
def yX11_of : MethodName := ⟨RX11, "of", "(II)LTutorlightModel$Known;"⟩
abbrev cX11_addSkill : ByteArray := prog_10_method_9_code
def yX11_addSkill : MethodName := ⟨RX11, "addSkill", "(III)I"⟩
abbrev cX11_hangsOn : ByteArray := prog_10_method_10_code
def yX11_hangsOn : MethodName := ⟨RX11, "hangsOn", "(II)Z"⟩
abbrev cX11_addNeed : ByteArray := prog_10_method_11_code
def yX11_addNeed : MethodName := ⟨RX11, "addNeed", "(II)Z"⟩
abbrev cX11_addLearner : ByteArray := prog_10_method_12_code
def yX11_addLearner : MethodName := ⟨RX11, "addLearner", "()I"⟩
abbrev cX11_openFor : ByteArray := prog_10_method_13_code
def yX11_openFor : MethodName := ⟨RX11, "openFor", "(II)Z"⟩
abbrev cX11_open : ByteArray := prog_10_method_14_code
def yX11_open : MethodName := ⟨RX11, "open", "(II)Z"⟩
abbrev cX11_isOpen : ByteArray := prog_10_method_15_code
def yX11_isOpen : MethodName := ⟨RX11, "isOpen", "(II)Z"⟩
abbrev cX11_moved : ByteArray := prog_10_method_16_code
def yX11_moved : MethodName := ⟨RX11, "moved", "(LTutorlightModel$Skill;IZ)I"⟩
abbrev cX11_setOdds : ByteArray := prog_10_method_17_code
def yX11_setOdds : MethodName := ⟨RX11, "setOdds", "(III)I"⟩
abbrev cX11_othersDue : ByteArray := prog_10_method_18_code
def yX11_othersDue : MethodName := ⟨RX11, "othersDue", "(III)I"⟩
abbrev cX11_note : ByteArray := prog_10_method_19_code
def yX11_note : MethodName := ⟨RX11, "note", "(IIZ)V"⟩
abbrev cX11_answer : ByteArray := prog_10_method_20_code
def yX11_answer : MethodName := ⟨RX11, "answer", "(IIZ)I"⟩
abbrev cX11_odds : ByteArray := prog_10_method_21_code
def yX11_odds : MethodName := ⟨RX11, "odds", "(II)I"⟩
abbrev cX11_oddsAnew : ByteArray := prog_10_method_22_code
def yX11_oddsAnew : MethodName := ⟨RX11, "oddsAnew", "(II)I"⟩
abbrev cX11_answers : ByteArray := prog_10_method_23_code
def yX11_answers : MethodName := ⟨RX11, "answers", "(II)I"⟩
abbrev cX11_nextDay : ByteArray := prog_10_method_24_code
def yX11_nextDay : MethodName := ⟨RX11, "nextDay", "()I"⟩
abbrev cX11_due : ByteArray := prog_10_method_25_code
def yX11_due : MethodName := ⟨RX11, "due", "(II)I"⟩
abbrev cX11_dueNow : ByteArray := prog_10_method_26_code
def yX11_dueNow : MethodName := ⟨RX11, "dueNow", "(I)Ljava/util/ArrayList;"⟩
abbrev cX11_reviews : ByteArray := prog_10_method_27_code
def yX11_reviews : MethodName := ⟨RX11, "reviews", "(I)I"⟩
abbrev cX11_reviewAt : ByteArray := prog_10_method_28_code
def yX11_reviewAt : MethodName := ⟨RX11, "reviewAt", "(II)I"⟩
abbrev cX11_choose : ByteArray := prog_10_method_29_code
def yX11_choose : MethodName := ⟨RX11, "choose", "(I)I"⟩
abbrev cX11_equation : ByteArray := prog_10_method_30_code
def yX11_equation : MethodName := ⟨RX11, "equation", "(I)[I"⟩
abbrev cX11_areSame : ByteArray := prog_10_method_31_code
def yX11_areSame : MethodName := ⟨RX11, "areSame", "([I[I)Z"⟩
abbrev cX11_wasLately : ByteArray := prog_10_method_32_code
def yX11_wasLately : MethodName := ⟨RX11, "wasLately", "(LTutorlightModel$Learner;[I)Z"⟩
abbrev cX11_make : ByteArray := prog_10_method_33_code
def yX11_make : MethodName := ⟨RX11, "make", "(III)I"⟩
abbrev cX11_noExercise : ByteArray := prog_10_method_34_code
def yX11_noExercise : MethodName := ⟨RX11, "noExercise", "(II)Z"⟩
abbrev cX11_part : ByteArray := prog_10_method_35_code
def yX11_part : MethodName := ⟨RX11, "part", "(IC)I"⟩
abbrev cX11_follows : ByteArray := prog_10_method_36_code
def yX11_follows : MethodName := ⟨RX11, "follows", "([I[I)Z"⟩
abbrev cX11_step : ByteArray := prog_10_method_37_code
def yX11_step : MethodName := ⟨RX11, "step", "(IIIII)C"⟩
abbrev cX11_row : ByteArray := prog_10_method_38_code
def yX11_row : MethodName := ⟨RX11, "row", "(IIII)[I"⟩
abbrev cX11_done : ByteArray := prog_10_method_39_code
def yX11_done : MethodName := ⟨RX11, "done", "(I[I)[I"⟩
abbrev cX11_explained : ByteArray := prog_10_method_40_code
def yX11_explained : MethodName := ⟨RX11, "explained", "([I[III)I"⟩
abbrev cX11_explain : ByteArray := prog_10_method_41_code
def yX11_explain : MethodName := ⟨RX11, "explain", "(I)I"⟩
abbrev cX11_hint : ByteArray := prog_10_method_42_code
def yX11_hint : MethodName := ⟨RX11, "hint", "(I)I"⟩
abbrev cX11_faults : ByteArray := prog_10_method_43_code
def yX11_faults : MethodName := ⟨RX11, "faults", "(I)I"⟩
abbrev cX11_checksum : ByteArray := prog_10_method_44_code
def yX11_checksum : MethodName := ⟨RX11, "checksum", "()J"⟩
abbrev cX11_knownShare : ByteArray := prog_10_method_45_code
def yX11_knownShare : MethodName := ⟨RX11, "knownShare", "()F"⟩
abbrev cX11_meanOdds : ByteArray := prog_10_method_46_code
def yX11_meanOdds : MethodName := ⟨RX11, "meanOdds", "(I)D"⟩
abbrev cX11_isSound : ByteArray := prog_10_method_47_code
def yX11_isSound : MethodName := ⟨RX11, "isSound", "()Z"⟩
def RJx145de : String := "java/io/Serializable"
def TJx145de : u_T := fun k => match k with
  | _ => ("", "", "", false)
def tyJx145de : Nat → FieldType := fun k => match k with
  | _ => .int
theorem nmJx145de : ∀ a, a < 0 → ∀ b, b < 0 → a ≠ b → (TJx145de a).2.1 ≠ (TJx145de b).2.1 := by decide +kernel
theorem tyJx145de_ok : ∀ k, k < 0 → parseFieldDescriptor (TJx145de k).2.2.1 = some (tyJx145de k) := by decide +kernel
def RJx00060 : String := "java/lang/ArrayIndexOutOfBoundsException"
def TJx00060 : u_T := fun k => match k with
  | 0 => ("java/lang/Throwable", "backtrace", "Ljava/lang/Object;", false)
  | 1 => ("java/lang/Throwable", "detailMessage", "Ljava/lang/String;", false)
  | 2 => ("java/lang/Throwable", "cause", "Ljava/lang/Throwable;", false)
  | 3 => ("java/lang/Throwable", "stackTrace", "[Ljava/lang/StackTraceElement;", false)
  | 4 => ("java/lang/Throwable", "depth", "I", false)
  | _ => ("java/lang/Throwable", "suppressedExceptions", "Ljava/util/List;", false)
def tyJx00060 : Nat → FieldType := fun k => match k with
  | 0 => .object "java/lang/Object"
  | 1 => .object "java/lang/String"
  | 2 => .object "java/lang/Throwable"
  | 3 => .array (.object "java/lang/StackTraceElement")
  | 4 => .int
  | _ => .object "java/util/List"
theorem nmJx00060 : ∀ a, a < 6 → ∀ b, b < 6 → a ≠ b → (TJx00060 a).2.1 ≠ (TJx00060 b).2.1 := by decide +kernel
theorem tyJx00060_ok : ∀ k, k < 6 → parseFieldDescriptor (TJx00060 k).2.2.1 = some (tyJx00060 k) := by decide +kernel
abbrev cJx00060_init_a7421 : ByteArray := prog_16_method_2_code
def yJx00060_init_a7421 : MethodName := ⟨RJx00060, "<init>", "(Ljava/lang/String;)V"⟩
def RJ14 : String := "java/lang/Boolean"
def TJ14 : u_T := fun k => match k with
  | _ => ("", "", "", false)
def tyJ14 : Nat → FieldType := fun k => match k with
  | _ => .int
theorem nmJ14 : ∀ a, a < 0 → ∀ b, b < 0 → a ≠ b → (TJ14 a).2.1 ≠ (TJ14 b).2.1 := by decide +kernel
theorem tyJ14_ok : ∀ k, k < 0 → parseFieldDescriptor (TJ14 k).2.2.1 = some (tyJ14 k) := by decide +kernel
abbrev cJ14_booleanValue_aae02 : ByteArray := prog_17_method_4_code
def yJ14_booleanValue_aae02 : MethodName := ⟨RJ14, "booleanValue", "()Z"⟩
abbrev cJ14_valueOf_4531c : ByteArray := prog_17_method_5_code
def yJ14_valueOf_4531c : MethodName := ⟨RJ14, "valueOf", "(Z)Ljava/lang/Boolean;"⟩
def RJx8e188 : String := "java/lang/Cloneable"
def TJx8e188 : u_T := fun k => match k with
  | _ => ("", "", "", false)
def tyJx8e188 : Nat → FieldType := fun k => match k with
  | _ => .int
theorem nmJx8e188 : ∀ a, a < 0 → ∀ b, b < 0 → a ≠ b → (TJx8e188 a).2.1 ≠ (TJx8e188 b).2.1 := by decide +kernel
theorem tyJx8e188_ok : ∀ k, k < 0 → parseFieldDescriptor (TJx8e188 k).2.2.1 = some (tyJx8e188 k) := by decide +kernel
def RJxb160c : String := "java/lang/Comparable"
def TJxb160c : u_T := fun k => match k with
  | _ => ("", "", "", false)
def tyJxb160c : Nat → FieldType := fun k => match k with
  | _ => .int
theorem nmJxb160c : ∀ a, a < 0 → ∀ b, b < 0 → a ≠ b → (TJxb160c a).2.1 ≠ (TJxb160c b).2.1 := by decide +kernel
theorem tyJxb160c_ok : ∀ k, k < 0 → parseFieldDescriptor (TJxb160c k).2.2.1 = some (tyJxb160c k) := by decide +kernel
def RJxabbfe : String := "java/lang/Integer$IntegerCache"
def TJxabbfe : u_T := fun k => match k with
  | _ => ("", "", "", false)
def tyJxabbfe : Nat → FieldType := fun k => match k with
  | _ => .int
theorem nmJxabbfe : ∀ a, a < 0 → ∀ b, b < 0 → a ≠ b → (TJxabbfe a).2.1 ≠ (TJxabbfe b).2.1 := by decide +kernel
theorem tyJxabbfe_ok : ∀ k, k < 0 → parseFieldDescriptor (TJxabbfe k).2.2.1 = some (tyJxabbfe k) := by decide +kernel
def RJ6 : String := "java/lang/Integer"
def TJ6 : u_T := fun k => match k with
  | _ => ("java/lang/Integer", "value", "I", true)
def tyJ6 : Nat → FieldType := fun k => match k with
  | _ => .int
theorem nmJ6 : ∀ a, a < 1 → ∀ b, b < 1 → a ≠ b → (TJ6 a).2.1 ≠ (TJ6 b).2.1 := by decide +kernel
theorem tyJ6_ok : ∀ k, k < 1 → parseFieldDescriptor (TJ6 k).2.2.1 = some (tyJ6 k) := by decide +kernel
abbrev cJ6_valueOf_2dffe : ByteArray := prog_24_method_22_code
def yJ6_valueOf_2dffe : MethodName := ⟨RJ6, "valueOf", "(I)Ljava/lang/Integer;"⟩
abbrev cJ6_init_d00df : ByteArray := prog_24_method_23_code
def yJ6_init_d00df : MethodName := ⟨RJ6, "<init>", "(I)V"⟩
abbrev cJ6_intValue_8abf5 : ByteArray := prog_24_method_27_code
def yJ6_intValue_8abf5 : MethodName := ⟨RJ6, "intValue", "()I"⟩
abbrev cJ6_bitCount_0f7a4 : ByteArray := prog_24_method_49_code
def yJ6_bitCount_0f7a4 : MethodName := ⟨RJ6, "bitCount", "(I)I"⟩
def RJxab1ab : String := "java/lang/Iterable"
def TJxab1ab : u_T := fun k => match k with
  | _ => ("", "", "", false)
def tyJxab1ab : Nat → FieldType := fun k => match k with
  | _ => .int
theorem nmJxab1ab : ∀ a, a < 0 → ∀ b, b < 0 → a ≠ b → (TJxab1ab a).2.1 ≠ (TJxab1ab b).2.1 := by decide +kernel
theorem tyJxab1ab_ok : ∀ k, k < 0 → parseFieldDescriptor (TJxab1ab k).2.2.1 = some (tyJxab1ab k) := by decide +kernel
def RJ9 : String := "java/lang/Math"
def TJ9 : u_T := fun k => match k with
  | _ => ("", "", "", false)
def tyJ9 : Nat → FieldType := fun k => match k with
  | _ => .int
theorem nmJ9 : ∀ a, a < 0 → ∀ b, b < 0 → a ≠ b → (TJ9 a).2.1 ≠ (TJ9 b).2.1 := by decide +kernel
theorem tyJ9_ok : ∀ k, k < 0 → parseFieldDescriptor (TJ9 k).2.2.1 = some (tyJ9 k) := by decide +kernel
abbrev cJ9_max_7cf53 : ByteArray := prog_27_method_65_code
def yJ9_max_7cf53 : MethodName := ⟨RJ9, "max", "(II)I"⟩
abbrev cJ9_min_7cf53 : ByteArray := prog_27_method_69_code
def yJ9_min_7cf53 : MethodName := ⟨RJ9, "min", "(II)I"⟩
def RJxd2413 : String := "java/lang/Number"
def TJxd2413 : u_T := fun k => match k with
  | _ => ("", "", "", false)
def tyJxd2413 : Nat → FieldType := fun k => match k with
  | _ => .int
theorem nmJxd2413 : ∀ a, a < 0 → ∀ b, b < 0 → a ≠ b → (TJxd2413 a).2.1 ≠ (TJxd2413 b).2.1 := by decide +kernel
theorem tyJxd2413_ok : ∀ k, k < 0 → parseFieldDescriptor (TJxd2413 k).2.2.1 = some (tyJxd2413 k) := by decide +kernel
abbrev cJxd2413_init_da8c8 : ByteArray := prog_28_method_1_code
def yJxd2413_init_da8c8 : MethodName := ⟨RJxd2413, "<init>", "()V"⟩
def RJ0 : String := "java/lang/String"
def TJ0 : u_T := fun k => match k with
  | 0 => ("java/lang/String", "value", "[B", true)
  | _ => ("java/lang/String", "coder", "B", true)
def tyJ0 : Nat → FieldType := fun k => match k with
  | 0 => .array .byte
  | _ => .byte
theorem nmJ0 : ∀ a, a < 2 → ∀ b, b < 2 → a ≠ b → (TJ0 a).2.1 ≠ (TJ0 b).2.1 := by decide +kernel
theorem tyJ0_ok : ∀ k, k < 2 → parseFieldDescriptor (TJ0 k).2.2.1 = some (tyJ0 k) := by decide +kernel
def RJ10 : String := "java/lang/System"
def TJ10 : u_T := fun k => match k with
  | _ => ("", "", "", false)
def tyJ10 : Nat → FieldType := fun k => match k with
  | _ => .int
theorem nmJ10 : ∀ a, a < 0 → ∀ b, b < 0 → a ≠ b → (TJ10 a).2.1 ≠ (TJ10 b).2.1 := by decide +kernel
theorem tyJ10_ok : ∀ k, k < 0 → parseFieldDescriptor (TJ10 k).2.2.1 = some (tyJ10 k) := by decide +kernel
def RJxfd54e : String := "java/lang/constant/Constable"
def TJxfd54e : u_T := fun k => match k with
  | _ => ("", "", "", false)
def tyJxfd54e : Nat → FieldType := fun k => match k with
  | _ => .int
theorem nmJxfd54e : ∀ a, a < 0 → ∀ b, b < 0 → a ≠ b → (TJxfd54e a).2.1 ≠ (TJxfd54e b).2.1 := by decide +kernel
theorem tyJxfd54e_ok : ∀ k, k < 0 → parseFieldDescriptor (TJxfd54e k).2.2.1 = some (tyJxfd54e k) := by decide +kernel
def RJx3cf43 : String := "java/lang/constant/ConstantDesc"
def TJx3cf43 : u_T := fun k => match k with
  | _ => ("", "", "", false)
def tyJx3cf43 : Nat → FieldType := fun k => match k with
  | _ => .int
theorem nmJx3cf43 : ∀ a, a < 0 → ∀ b, b < 0 → a ≠ b → (TJx3cf43 a).2.1 ≠ (TJx3cf43 b).2.1 := by decide +kernel
theorem tyJx3cf43_ok : ∀ k, k < 0 → parseFieldDescriptor (TJx3cf43 k).2.2.1 = some (tyJx3cf43 k) := by decide +kernel
def RJxa1e45 : String := "java/util/AbstractCollection"
def TJxa1e45 : u_T := fun k => match k with
  | _ => ("", "", "", false)
def tyJxa1e45 : Nat → FieldType := fun k => match k with
  | _ => .int
theorem nmJxa1e45 : ∀ a, a < 0 → ∀ b, b < 0 → a ≠ b → (TJxa1e45 a).2.1 ≠ (TJxa1e45 b).2.1 := by decide +kernel
theorem tyJxa1e45_ok : ∀ k, k < 0 → parseFieldDescriptor (TJxa1e45 k).2.2.1 = some (tyJxa1e45 k) := by decide +kernel
abbrev cJxa1e45_init_da8c8 : ByteArray := prog_35_method_1_code
def yJxa1e45_init_da8c8 : MethodName := ⟨RJxa1e45, "<init>", "()V"⟩
def RJxc12de : String := "java/util/AbstractList"
def TJxc12de : u_T := fun k => match k with
  | _ => ("", "", "", false)
def tyJxc12de : Nat → FieldType := fun k => match k with
  | _ => .int
theorem nmJxc12de : ∀ a, a < 0 → ∀ b, b < 0 → a ≠ b → (TJxc12de a).2.1 ≠ (TJxc12de b).2.1 := by decide +kernel
theorem tyJxc12de_ok : ∀ k, k < 0 → parseFieldDescriptor (TJxc12de k).2.2.1 = some (tyJxc12de k) := by decide +kernel
abbrev cJxc12de_init_da8c8 : ByteArray := prog_36_method_1_code
def yJxc12de_init_da8c8 : MethodName := ⟨RJxc12de, "<init>", "()V"⟩
def RJx35411 : String := "java/util/ArrayList$Itr"
def TJx35411 : u_T := fun k => match k with
  | 0 => ("java/util/ArrayList$Itr", "cursor", "I", false)
  | 1 => ("java/util/ArrayList$Itr", "lastRet", "I", false)
  | 2 => ("java/util/ArrayList$Itr", "expectedModCount", "I", false)
  | _ => ("java/util/ArrayList$Itr", "this$0", "Ljava/util/ArrayList;", true)
def tyJx35411 : Nat → FieldType := fun k => match k with
  | 0 => .int
  | 1 => .int
  | 2 => .int
  | _ => .object "java/util/ArrayList"
theorem nmJx35411 : ∀ a, a < 4 → ∀ b, b < 4 → a ≠ b → (TJx35411 a).2.1 ≠ (TJx35411 b).2.1 := by decide +kernel
theorem tyJx35411_ok : ∀ k, k < 4 → parseFieldDescriptor (TJx35411 k).2.2.1 = some (tyJx35411 k) := by decide +kernel
abbrev cJx35411_init_45d68 : ByteArray := prog_38_method_1_code
def yJx35411_init_45d68 : MethodName := ⟨RJx35411, "<init>", "(Ljava/util/ArrayList;)V"⟩
abbrev cJx35411_hasNext_aae02 : ByteArray := prog_38_method_2_code
def yJx35411_hasNext_aae02 : MethodName := ⟨RJx35411, "hasNext", "()Z"⟩
abbrev cJx35411_next_0502b : ByteArray := prog_38_method_3_code
def yJx35411_next_0502b : MethodName := ⟨RJx35411, "next", "()Ljava/lang/Object;"⟩
abbrev cJx35411_checkForComodification_da8c8 : ByteArray := prog_38_method_6_code
def yJx35411_checkForComodification_da8c8 : MethodName := ⟨RJx35411, "checkForComodification", "()V"⟩
def RJx4a65c : String := "java/util/ArrayList"
def TJx4a65c : u_T := fun k => match k with
  | 0 => ("java/util/AbstractList", "modCount", "I", false)
  | 1 => ("java/util/ArrayList", "elementData", "[Ljava/lang/Object;", false)
  | _ => ("java/util/ArrayList", "size", "I", false)
def tyJx4a65c : Nat → FieldType := fun k => match k with
  | 0 => .int
  | 1 => .array (.object "java/lang/Object")
  | _ => .int
theorem nmJx4a65c : ∀ a, a < 3 → ∀ b, b < 3 → a ≠ b → (TJx4a65c a).2.1 ≠ (TJx4a65c b).2.1 := by decide +kernel
theorem tyJx4a65c_ok : ∀ k, k < 3 → parseFieldDescriptor (TJx4a65c k).2.2.1 = some (tyJx4a65c k) := by decide +kernel
abbrev cJx4a65c_init_da8c8 : ByteArray := prog_37_method_2_code
def yJx4a65c_init_da8c8 : MethodName := ⟨RJx4a65c, "<init>", "()V"⟩
abbrev cJx4a65c_grow_92f84 : ByteArray := prog_37_method_6_code
def yJx4a65c_grow_92f84 : MethodName := ⟨RJx4a65c, "grow", "(I)[Ljava/lang/Object;"⟩
abbrev cJx4a65c_grow_d5877 : ByteArray := prog_37_method_7_code
def yJx4a65c_grow_d5877 : MethodName := ⟨RJx4a65c, "grow", "()[Ljava/lang/Object;"⟩
abbrev cJx4a65c_size_8abf5 : ByteArray := prog_37_method_8_code
def yJx4a65c_size_8abf5 : MethodName := ⟨RJx4a65c, "size", "()I"⟩
abbrev cJx4a65c_isEmpty_aae02 : ByteArray := prog_37_method_9_code
def yJx4a65c_isEmpty_aae02 : MethodName := ⟨RJx4a65c, "isEmpty", "()Z"⟩
abbrev cJx4a65c_elementData_915e3 : ByteArray := prog_37_method_18_code
def yJx4a65c_elementData_915e3 : MethodName := ⟨RJx4a65c, "elementData", "(I)Ljava/lang/Object;"⟩
abbrev cJx4a65c_get_915e3 : ByteArray := prog_37_method_20_code
def yJx4a65c_get_915e3 : MethodName := ⟨RJx4a65c, "get", "(I)Ljava/lang/Object;"⟩
abbrev cJx4a65c_add_72be8 : ByteArray := prog_37_method_24_code
def yJx4a65c_add_72be8 : MethodName := ⟨RJx4a65c, "add", "(Ljava/lang/Object;[Ljava/lang/Object;I)V"⟩
abbrev cJx4a65c_add_9ea2d : ByteArray := prog_37_method_25_code
def yJx4a65c_add_9ea2d : MethodName := ⟨RJx4a65c, "add", "(Ljava/lang/Object;)Z"⟩
abbrev cJx4a65c_clear_da8c8 : ByteArray := prog_37_method_40_code
def yJx4a65c_clear_da8c8 : MethodName := ⟨RJx4a65c, "clear", "()V"⟩
abbrev cJx4a65c_iterator_32c93 : ByteArray := prog_37_method_55_code
def yJx4a65c_iterator_32c93 : MethodName := ⟨RJx4a65c, "iterator", "()Ljava/util/Iterator;"⟩
def RJ7 : String := "java/util/Arrays"
def TJ7 : u_T := fun k => match k with
  | _ => ("", "", "", false)
def tyJ7 : Nat → FieldType := fun k => match k with
  | _ => .int
theorem nmJ7 : ∀ a, a < 0 → ∀ b, b < 0 → a ≠ b → (TJ7 a).2.1 ≠ (TJ7 b).2.1 := by decide +kernel
theorem tyJ7_ok : ∀ k, k < 0 → parseFieldDescriptor (TJ7 k).2.2.1 = some (tyJ7 k) := by decide +kernel
abbrev cJ7_copyOf_1904c : ByteArray := prog_39_method_119_code
def yJ7_copyOf_1904c : MethodName := ⟨RJ7, "copyOf", "([Ljava/lang/Object;I)[Ljava/lang/Object;"⟩
abbrev cJ7_copyOf_6403c : ByteArray := prog_39_method_120_code
def yJ7_copyOf_6403c : MethodName := ⟨RJ7, "copyOf", "([Ljava/lang/Object;ILjava/lang/Class;)[Ljava/lang/Object;"⟩
def RJx5ef63 : String := "java/util/Collection"
def TJx5ef63 : u_T := fun k => match k with
  | _ => ("", "", "", false)
def tyJx5ef63 : Nat → FieldType := fun k => match k with
  | _ => .int
theorem nmJx5ef63 : ∀ a, a < 0 → ∀ b, b < 0 → a ≠ b → (TJx5ef63 a).2.1 ≠ (TJx5ef63 b).2.1 := by decide +kernel
theorem tyJx5ef63_ok : ∀ k, k < 0 → parseFieldDescriptor (TJx5ef63 k).2.2.1 = some (tyJx5ef63 k) := by decide +kernel
def RJx4d0d8 : String := "java/util/Iterator"
def TJx4d0d8 : u_T := fun k => match k with
  | _ => ("", "", "", false)
def tyJx4d0d8 : Nat → FieldType := fun k => match k with
  | _ => .int
theorem nmJx4d0d8 : ∀ a, a < 0 → ∀ b, b < 0 → a ≠ b → (TJx4d0d8 a).2.1 ≠ (TJx4d0d8 b).2.1 := by decide +kernel
theorem tyJx4d0d8_ok : ∀ k, k < 0 → parseFieldDescriptor (TJx4d0d8 k).2.2.1 = some (tyJx4d0d8 k) := by decide +kernel
def RJxbd725 : String := "java/util/List"
def TJxbd725 : u_T := fun k => match k with
  | _ => ("", "", "", false)
def tyJxbd725 : Nat → FieldType := fun k => match k with
  | _ => .int
theorem nmJxbd725 : ∀ a, a < 0 → ∀ b, b < 0 → a ≠ b → (TJxbd725 a).2.1 ≠ (TJxbd725 b).2.1 := by decide +kernel
theorem tyJxbd725_ok : ∀ k, k < 0 → parseFieldDescriptor (TJxbd725 k).2.2.1 = some (tyJxbd725 k) := by decide +kernel
def RJ15 : String := "java/util/Objects"
def TJ15 : u_T := fun k => match k with
  | _ => ("", "", "", false)
def tyJ15 : Nat → FieldType := fun k => match k with
  | _ => .int
theorem nmJ15 : ∀ a, a < 0 → ∀ b, b < 0 → a ≠ b → (TJ15 a).2.1 ≠ (TJ15 b).2.1 := by decide +kernel
theorem tyJ15_ok : ∀ k, k < 0 → parseFieldDescriptor (TJ15 k).2.2.1 = some (tyJ15 k) := by decide +kernel
abbrev cJ15_checkIndex_7cf53 : ByteArray := prog_44_method_17_code
def yJ15_checkIndex_7cf53 : MethodName := ⟨RJ15, "checkIndex", "(II)I"⟩
def RJxf0a74 : String := "java/util/RandomAccess"
def TJxf0a74 : u_T := fun k => match k with
  | _ => ("", "", "", false)
def tyJxf0a74 : Nat → FieldType := fun k => match k with
  | _ => .int
theorem nmJxf0a74 : ∀ a, a < 0 → ∀ b, b < 0 → a ≠ b → (TJxf0a74 a).2.1 ≠ (TJxf0a74 b).2.1 := by decide +kernel
theorem tyJxf0a74_ok : ∀ k, k < 0 → parseFieldDescriptor (TJxf0a74 k).2.2.1 = some (tyJxf0a74 k) := by decide +kernel
def RJxa66e6 : String := "java/util/SequencedCollection"
def TJxa66e6 : u_T := fun k => match k with
  | _ => ("", "", "", false)
def tyJxa66e6 : Nat → FieldType := fun k => match k with
  | _ => .int
theorem nmJxa66e6 : ∀ a, a < 0 → ∀ b, b < 0 → a ≠ b → (TJxa66e6 a).2.1 ≠ (TJxa66e6 b).2.1 := by decide +kernel
theorem tyJxa66e6_ok : ∀ k, k < 0 → parseFieldDescriptor (TJxa66e6 k).2.2.1 = some (tyJxa66e6 k) := by decide +kernel
def RJ8 : String := "jdk/internal/util/ArraysSupport"
def TJ8 : u_T := fun k => match k with
  | _ => ("", "", "", false)
def tyJ8 : Nat → FieldType := fun k => match k with
  | _ => .int
theorem nmJ8 : ∀ a, a < 0 → ∀ b, b < 0 → a ≠ b → (TJ8 a).2.1 ≠ (TJ8 b).2.1 := by decide +kernel
theorem tyJ8_ok : ∀ k, k < 0 → parseFieldDescriptor (TJ8 k).2.2.1 = some (tyJ8 k) := by decide +kernel
abbrev cJ8_newLength_cabcc : ByteArray := prog_47_method_27_code
def yJ8_newLength_cabcc : MethodName := ⟨RJ8, "newLength", "(III)I"⟩
abbrev cJ8_hugeLength_7cf53 : ByteArray := prog_47_method_28_code
def yJ8_hugeLength_7cf53 : MethodName := ⟨RJ8, "hugeLength", "(II)I"⟩
def RJ3 : String := "jdk/internal/util/Preconditions"
def TJ3 : u_T := fun k => match k with
  | _ => ("", "", "", false)
def tyJ3 : Nat → FieldType := fun k => match k with
  | _ => .int
theorem nmJ3 : ∀ a, a < 0 → ∀ b, b < 0 → a ≠ b → (TJ3 a).2.1 ≠ (TJ3 b).2.1 := by decide +kernel
theorem tyJ3_ok : ∀ k, k < 0 → parseFieldDescriptor (TJ3 k).2.2.1 = some (tyJ3 k) := by decide +kernel
abbrev cJ3_checkIndex_8e157 : ByteArray := prog_48_method_11_code
def yJ3_checkIndex_8e157 : MethodName := ⟨RJ3, "checkIndex", "(IILjava/util/function/BiFunction;)I"⟩
def RL : String := "TutorlightLaw"
abbrev cL_addSkill : ByteArray := method_3_code
def yL_addSkill : MethodName := ⟨RL, "addSkill", "(LTutorlight;III[J)I"⟩
abbrev cL_addNeed : ByteArray := method_4_code
def yL_addNeed : MethodName := ⟨RL, "addNeed", "(LTutorlight;II[J)I"⟩
abbrev cL_addLearner : ByteArray := method_5_code
def yL_addLearner : MethodName := ⟨RL, "addLearner", "(LTutorlight;[J)I"⟩
abbrev cL_open : ByteArray := method_6_code
def yL_open : MethodName := ⟨RL, "open", "(LTutorlight;II[J)I"⟩
abbrev cL_isOpen : ByteArray := method_7_code
def yL_isOpen : MethodName := ⟨RL, "isOpen", "(LTutorlight;II[J)I"⟩
abbrev cL_setOdds : ByteArray := method_8_code
def yL_setOdds : MethodName := ⟨RL, "setOdds", "(LTutorlight;III[J)I"⟩
abbrev cL_answer : ByteArray := method_9_code
def yL_answer : MethodName := ⟨RL, "answer", "(LTutorlight;IIZ[J)I"⟩
abbrev cL_odds : ByteArray := method_10_code
def yL_odds : MethodName := ⟨RL, "odds", "(LTutorlight;II[J)I"⟩
abbrev cL_oddsAnew : ByteArray := method_11_code
def yL_oddsAnew : MethodName := ⟨RL, "oddsAnew", "(LTutorlight;II[J)I"⟩
abbrev cL_answers : ByteArray := method_12_code
def yL_answers : MethodName := ⟨RL, "answers", "(LTutorlight;II[J)I"⟩
abbrev cL_nextDay : ByteArray := method_13_code
def yL_nextDay : MethodName := ⟨RL, "nextDay", "(LTutorlight;[J)I"⟩
abbrev cL_due : ByteArray := method_14_code
def yL_due : MethodName := ⟨RL, "due", "(LTutorlight;II[J)I"⟩
abbrev cL_reviews : ByteArray := method_15_code
def yL_reviews : MethodName := ⟨RL, "reviews", "(LTutorlight;I[J)I"⟩
abbrev cL_reviewAt : ByteArray := method_16_code
def yL_reviewAt : MethodName := ⟨RL, "reviewAt", "(LTutorlight;II[J)I"⟩
abbrev cL_choose : ByteArray := method_17_code
def yL_choose : MethodName := ⟨RL, "choose", "(LTutorlight;I[J)I"⟩
abbrev cL_make : ByteArray := method_18_code
def yL_make : MethodName := ⟨RL, "make", "(LTutorlight;III[J)I"⟩
abbrev cL_part : ByteArray := method_19_code
def yL_part : MethodName := ⟨RL, "part", "(LTutorlight;IC[J)I"⟩
abbrev cL_step : ByteArray := method_20_code
def yL_step : MethodName := ⟨RL, "step", "(LTutorlight;IIIII[J)I"⟩
abbrev cL_explain : ByteArray := method_21_code
def yL_explain : MethodName := ⟨RL, "explain", "(LTutorlight;I[J)I"⟩
abbrev cL_hint : ByteArray := method_22_code
def yL_hint : MethodName := ⟨RL, "hint", "(LTutorlight;I[J)I"⟩
abbrev cL_faults : ByteArray := method_23_code
def yL_faults : MethodName := ⟨RL, "faults", "(LTutorlight;I[J)I"⟩
abbrev cL_knownShare : ByteArray := method_24_code
def yL_knownShare : MethodName := ⟨RL, "knownShare", "(LTutorlight;[D)I"⟩
abbrev cL_meanOdds : ByteArray := method_25_code
def yL_meanOdds : MethodName := ⟨RL, "meanOdds", "(LTutorlight;I[D)I"⟩
abbrev cL_law : ByteArray := code
def yL_law : MethodName := ⟨RL, "law", "([I)Z"⟩
abbrev vwCl : List vw_C := [(RJ0, TJ0, 2), (RJ6, TJ6, 1), (RJx00060, TJx00060, 6), (RJx35411, TJx35411, 4), (RJx4a65c, TJx4a65c, 3), (RX0, TX0, 4), (RX1, TX1, 5), (RX2, TX2, 4), (RX3, TX3, 5), (RX4, TX4, 7), (RX5, TX5, 4), (RX6, TX6, 2), (RX7, TX7, 6), (RX8, TX8, 6), (RX9, TX9, 8), (RX10, TX10, 4), (RX11, TX11, 4)]
