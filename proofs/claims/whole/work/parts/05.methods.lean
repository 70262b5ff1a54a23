/-! the methods, by their numbers; the texts, by theirs (made by wip/tools/gen.py) -/
def am_MT : List (MethodName × ByteArray × Nat × Option FieldType) := [
  (⟨"SandCars$Cars", "<init>", "()V"⟩, prog_2_method_1_code, 1, none),
  (⟨"SandCars$Cars", "first", "(LSandCars$Mine;)V"⟩, prog_2_method_2_code, 3, none),
  (⟨"SandCars$Cars", "key", "()J"⟩, prog_2_method_12_code, 4, (some FieldType.long)),
  (⟨"SandCars$Cars", "take", "(J)V"⟩, prog_2_method_13_code, 6, none),
  (⟨"SandCars$Cars", "pass", "(LSandCars$Mine;)I"⟩, prog_2_method_3_code, 3, (some FieldType.int)),
  (⟨"SandCars$Cars", "roll", "(LSandCars$Mine;)I"⟩, prog_2_method_4_code, 3, (some FieldType.int)),
  (⟨"SandCars$Cars", "goOn", "(LSandCars$Mine;)V"⟩, prog_2_method_5_code, 3, none),
  (⟨"SandCars$Cars", "harm", "(LSandCars$Mine;)I"⟩, prog_2_method_6_code, 5, (some FieldType.int)),
  (⟨"SandCars$Cars", "arrive", "(LSandCars$Mine;)V"⟩, prog_2_method_7_code, 3, none),
  (⟨"SandCars$Cars", "runSand", "(LSandCars$Mine;)V"⟩, prog_2_method_8_code, 3, none),
  (⟨"SandCars$Cars", "startDue", "(LSandCars$Mine;)V"⟩, prog_2_method_9_code, 3, none),
  (⟨"SandCars$Cars", "allows", "(LSandCars$Mine;I)Z"⟩, prog_2_method_10_code, 3, (some FieldType.boolean)),
  (⟨"SandCars$Cars", "othersAreFrom", "(LSandCars$Mine;II)Z"⟩, prog_2_method_11_code, 5, (some FieldType.boolean)),
  (⟨"SandCars$Cars", "oneLeft", "(I)J"⟩, prog_2_method_14_code, 1, (some FieldType.long)),
  (⟨"SandCars$Cars", "copy", "(LSandCars$Cars;)V"⟩, prog_2_method_17_code, 2, none),
  (⟨"SandCars$Cars", "places", "()I"⟩, prog_2_method_15_code, 3, (some FieldType.int)),
  (⟨"SandCars$Cars", "takePlaces", "(I)V"⟩, prog_2_method_16_code, 3, none),
  (⟨"SandCars$Day", "<init>", "()V"⟩, prog_3_method_1_code, 1, none),
  (⟨"SandCars$Day", "begin", "(LSandCars$Mine;)V"⟩, prog_3_method_2_code, 2, none),
  (⟨"SandCars$Day", "tellAll", "([I)V"⟩, prog_3_method_9_code, 3, none),
  (⟨"SandCars$Day", "lastTime", "()I"⟩, prog_3_method_8_code, 1, (some FieldType.int)),
  (⟨"SandCars$Day", "copy", "(LSandCars$Day;)V"⟩, prog_3_method_10_code, 2, none),
  (⟨"SandCars$Day", "goBy", "(LSandCars$Mine;)V"⟩, prog_3_method_3_code, 3, none),
  (⟨"SandCars$Day", "remember", "()V"⟩, prog_3_method_4_code, 1, none),
  (⟨"SandCars$Day", "goBack", "()V"⟩, prog_3_method_5_code, 1, none),
  (⟨"SandCars$Day", "tell", "(II)Z"⟩, prog_3_method_6_code, 3, (some FieldType.boolean)),
  (⟨"SandCars$Day", "isBehindLast", "(II)Z"⟩, prog_3_method_7_code, 4, (some FieldType.boolean)),
  (⟨"SandCars$Fitter", "<init>", "()V"⟩, prog_4_method_1_code, 1, none),
  (⟨"SandCars$Fitter", "search", "(LSandCars$Mine;LSandCars$Day;)I"⟩, prog_4_method_2_code, 4, (some FieldType.int)),
  (⟨"SandCars$Fitter", "rowsFrom", "(LSandCars$Mine;JII)I"⟩, prog_4_method_3_code, 7, (some FieldType.int)),
  (⟨"SandCars$Fitter", "rowsByTurns", "(LSandCars$Mine;JIII)I"⟩, prog_4_method_4_code, 13, (some FieldType.int)),
  (⟨"SandCars$Found", "<init>", "()V"⟩, prog_5_method_1_code, 1, none),
  (⟨"SandCars$Found", "clear", "()V"⟩, prog_5_method_2_code, 1, none),
  (⟨"SandCars$Found", "add", "(J)Z"⟩, prog_5_method_3_code, 4, (some FieldType.boolean)),
  (⟨"SandCars$Found", "slotOf", "(J)I"⟩, prog_5_method_5_code, 6, (some FieldType.int)),
  (⟨"SandCars$Found", "indexOf", "(J)I"⟩, prog_5_method_4_code, 3, (some FieldType.int)),
  (⟨"SandCars$Mine", "<init>", "()V"⟩, prog_6_method_1_code, 1, none),
  (⟨"SandCars$Mine", "clear", "()V"⟩, prog_6_method_2_code, 1, none),
  (⟨"SandCars$Mine", "pace", "(II)I"⟩, prog_6_method_4_code, 4, (some FieldType.int)),
  (⟨"SandCars$Mine", "inSiding", "(I)Z"⟩, prog_6_method_5_code, 2, (some FieldType.boolean)),
  (⟨"SandCars$Mine", "meet", "(IIII)Z"⟩, prog_6_method_6_code, 11, (some FieldType.boolean)),
  (⟨"SandCars$Mine", "strong", "(I)Z"⟩, prog_6_method_3_code, 2, (some FieldType.boolean)),
  (⟨"SandCars$Mine", "loads", "(I)I"⟩, prog_6_method_7_code, 4, (some FieldType.int)),
  (⟨"SandCars$Planner", "<init>", "()V"⟩, prog_7_method_1_code, 1, none),
  (⟨"SandCars$Planner", "search", "(LSandCars$Mine;LSandCars$Found;I)I"⟩, prog_7_method_2_code, 5, (some FieldType.int)),
  (⟨"SandCars$Planner", "spread", "(LSandCars$Mine;LSandCars$Found;I)Z"⟩, prog_7_method_3_code, 6, (some FieldType.boolean)),
  (⟨"SandCars$Planner", "addStarts", "(LSandCars$Mine;LSandCars$Found;I)Z"⟩, prog_7_method_6_code, 8, (some FieldType.boolean)),
  (⟨"SandCars$Planner", "waiting", "(LSandCars$Mine;)I"⟩, prog_7_method_7_code, 4, (some FieldType.int)),
  (⟨"SandCars$Planner", "keyNow", "(I)J"⟩, prog_7_method_8_code, 2, (some FieldType.long)),
  (⟨"SandCars$Planner", "started", "(I)I"⟩, prog_7_method_9_code, 3, (some FieldType.int)),
  (⟨"SandCars$Planner", "secondOf", "(J)I"⟩, prog_7_method_4_code, 2, (some FieldType.int)),
  (⟨"SandCars$Planner", "roll", "(LSandCars$Mine;J)Z"⟩, prog_7_method_5_code, 4, (some FieldType.boolean)),
  (⟨"SandCars$Planner", "value", "(LSandCars$Mine;LSandCars$Found;I)V"⟩, prog_7_method_10_code, 8, none),
  (⟨"SandCars$Planner", "bestFrom", "(LSandCars$Mine;LSandCars$Found;I)I"⟩, prog_7_method_11_code, 9, (some FieldType.int)),
  (⟨"SandCars$Planner", "valueOf", "(LSandCars$Found;J)I"⟩, prog_7_method_12_code, 4, (some FieldType.int)),
  (⟨"SandCars$Planner", "keep", "(LSandCars$Mine;LSandCars$Found;II)V"⟩, prog_7_method_13_code, 8, none),
  (⟨"SandCars$Planner", "firstWorth", "(LSandCars$Mine;LSandCars$Found;II)I"⟩, prog_7_method_14_code, 9, (some FieldType.int)),
  (⟨"SandCars$Safety", "<init>", "()V"⟩, prog_8_method_1_code, 1, none),
  (⟨"SandCars$Safety", "search", "(LSandCars$Mine;LSandCars$Found;)V"⟩, prog_8_method_2_code, 6, none),
  (⟨"SandCars$Safety", "addAll", "(LSandCars$Mine;LSandCars$Found;)Z"⟩, prog_8_method_3_code, 11, (some FieldType.boolean)),
  (⟨"SandCars$Safety", "mostSlip", "(LSandCars$Mine;I)I"⟩, prog_8_method_4_code, 3, (some FieldType.int)),
  (⟨"SandCars$Tape", "<init>", "()V"⟩, prog_9_method_1_code, 1, none),
  (⟨"SandCars$Tape", "put", "(I)V"⟩, prog_9_method_2_code, 3, none),
  (⟨"SandCars$Tape", "read", "(ILSandCars$Mine;)I"⟩, prog_9_method_3_code, 5, (some FieldType.int)),
  (⟨"SandCars$Tape", "next", "()V"⟩, prog_9_method_4_code, 1, none),
  (⟨"SandCars$Tape", "tokenOf", "(I)I"⟩, prog_9_method_5_code, 1, (some FieldType.int)),
  (⟨"SandCars$Tape", "line", "(LSandCars$Mine;I)Z"⟩, prog_9_method_9_code, 3, (some FieldType.boolean)),
  (⟨"SandCars$Tape", "isWord", "(Ljava/lang/String;)Z"⟩, prog_9_method_7_code, 3, (some FieldType.boolean)),
  (⟨"SandCars$Tape", "refuse", "(I)Z"⟩, prog_9_method_6_code, 2, (some FieldType.boolean)),
  (⟨"SandCars$Tape", "slopeLine", "(LSandCars$Mine;)Z"⟩, prog_9_method_11_code, 2, (some FieldType.boolean)),
  (⟨"SandCars$Tape", "isNumber", "(II)Z"⟩, prog_9_method_8_code, 4, (some FieldType.boolean)),
  (⟨"SandCars$Tape", "sign", "()Z"⟩, prog_9_method_10_code, 1, (some FieldType.boolean)),
  (⟨"SandCars$Tape", "needsLine", "(LSandCars$Mine;)Z"⟩, prog_9_method_12_code, 2, (some FieldType.boolean)),
  (⟨"SandCars$Tape", "fastLine", "(LSandCars$Mine;)Z"⟩, prog_9_method_13_code, 2, (some FieldType.boolean)),
  (⟨"SandCars$Tape", "ropeLine", "(LSandCars$Mine;)Z"⟩, prog_9_method_14_code, 3, (some FieldType.boolean)),
  (⟨"SandCars$Tape", "kindWord", "()I"⟩, prog_9_method_16_code, 1, (some FieldType.int)),
  (⟨"SandCars$Tape", "glassPart", "(LSandCars$Mine;I)Z"⟩, prog_9_method_15_code, 4, (some FieldType.boolean)),
  (⟨"SandCars$Tape", "ruleWord", "()I"⟩, prog_9_method_17_code, 1, (some FieldType.int)),
  (⟨"SandCars$Trial", "<init>", "()V"⟩, prog_10_method_1_code, 1, none),
  (⟨"SandCars$Trial", "firstMeeting", "(LSandCars$Mine;LSandCars$Cars;I)I"⟩, prog_10_method_3_code, 9, (some FieldType.int)),
  (⟨"SandCars$Trial", "meetsOne", "(LSandCars$Mine;II)Z"⟩, prog_10_method_4_code, 5, (some FieldType.boolean)),
  (⟨"SandCars$Trial", "oreIn", "(LSandCars$Mine;I)I"⟩, prog_10_method_2_code, 5, (some FieldType.int)),
  (⟨"SandCars", "<init>", "()V"⟩, prog_1_method_1_code, 1, none),
  (⟨"SandCars", "feed", "(IIIII)I"⟩, prog_1_method_2_code, 6, (some FieldType.int)),
  (⟨"SandCars", "fault", "()I"⟩, prog_1_method_4_code, 1, (some FieldType.int)),
  (⟨"SandCars", "fitting", "()I"⟩, prog_1_method_16_code, 1, (some FieldType.int)),
  (⟨"SandCars", "image", "()V"⟩, prog_1_method_19_code, 1, none),
  (⟨"SandCars", "restore", "()Z"⟩, prog_1_method_20_code, 1, (some FieldType.boolean)),
  (⟨"SandCars", "mine", "(I)I"⟩, prog_1_method_3_code, 4, (some FieldType.int)),
  (⟨"SandCars", "count", "(I)I"⟩, prog_1_method_5_code, 2, (some FieldType.int)),
  (⟨"SandCars", "rope", "(II)I"⟩, prog_1_method_6_code, 4, (some FieldType.int)),
  (⟨"SandCars", "needRope", "(I)V"⟩, prog_1_method_7_code, 2, none),
  (⟨"SandCars", "slip", "(II)Z"⟩, prog_1_method_8_code, 3, (some FieldType.boolean)),
  (⟨"SandCars", "on", "(I)I"⟩, prog_1_method_9_code, 3, (some FieldType.int)),
  (⟨"SandCars", "undo", "(I)I"⟩, prog_1_method_10_code, 4, (some FieldType.int)),
  (⟨"SandCars", "safe", "(I)I"⟩, prog_1_method_11_code, 2, (some FieldType.int)),
  (⟨"SandCars", "table", "()LSandCars$Found;"⟩, prog_1_method_12_code, 1, (some (FieldType.object "SandCars$Found"))),
  (⟨"SandCars", "most", "(I)I"⟩, prog_1_method_13_code, 2, (some FieldType.int)),
  (⟨"SandCars", "plan", "(I)I"⟩, prog_1_method_14_code, 2, (some FieldType.int)),
  (⟨"SandCars", "time", "(II)I"⟩, prog_1_method_15_code, 3, (some FieldType.int)),
  (⟨"SandCars", "breaks", "(I)I"⟩, prog_1_method_17_code, 2, (some FieldType.int)),
  (⟨"SandCars", "worth", "(III)I"⟩, prog_1_method_18_code, 7, (some FieldType.int)),
  (⟨"SandCarsModel", "<init>", "()V"⟩, prog_12_method_1_code, 1, none),
  (⟨"SandCarsModel", "beginRow", "([I)V"⟩, prog_12_method_21_code, 3, none),
  (⟨"SandCarsModel", "thrown", "()I"⟩, prog_12_method_2_code, 1, (some FieldType.int)),
  (⟨"SandCarsModel", "feed", "(IIIII)I"⟩, prog_12_method_6_code, 8, (some FieldType.int)),
  (⟨"SandCarsModel", "mine", "(I)I"⟩, prog_12_method_19_code, 4, (some FieldType.int)),
  (⟨"SandCarsModel", "fail", "(I)I"⟩, prog_12_method_3_code, 2, (some FieldType.int)),
  (⟨"SandCarsModel", "stepOn", "()V"⟩, prog_12_method_10_code, 2, none),
  (⟨"SandCarsModel", "byteAt", "(I)I"⟩, prog_12_method_7_code, 2, (some FieldType.int)),
  (⟨"SandCarsModel", "isLetter", "(I)Z"⟩, prog_12_method_8_code, 1, (some FieldType.boolean)),
  (⟨"SandCarsModel", "isDigit", "(I)Z"⟩, prog_12_method_9_code, 1, (some FieldType.boolean)),
  (⟨"SandCarsModel", "readLine", "(I)I"⟩, prog_12_method_18_code, 4, (some FieldType.int)),
  (⟨"SandCarsModel", "is", "(Ljava/lang/String;)Z"⟩, prog_12_method_12_code, 4, (some FieldType.boolean)),
  (⟨"SandCarsModel", "wrong", "(I)V"⟩, prog_12_method_11_code, 2, none),
  (⟨"SandCarsModel", "readRope", "()V"⟩, prog_12_method_17_code, 4, none),
  (⟨"SandCarsModel", "which", "([Ljava/lang/String;)I"⟩, prog_12_method_14_code, 3, (some FieldType.int)),
  (⟨"SandCarsModel", "readNumber", "(III)I"⟩, prog_12_method_16_code, 5, (some FieldType.int)),
  (⟨"SandCarsModel", "wordIs", "(Ljava/lang/String;)V"⟩, prog_12_method_15_code, 2, none),
  (⟨"SandCarsModel", "passes", "(Ljava/lang/String;)Z"⟩, prog_12_method_13_code, 3, (some FieldType.boolean)),
  (⟨"SandCarsModel", "fault", "()I"⟩, prog_12_method_20_code, 1, (some FieldType.int)),
  (⟨"SandCarsModel", "count", "(I)I"⟩, prog_12_method_37_code, 2, (some FieldType.int)),
  (⟨"SandCarsModel", "isIn", "(III)Z"⟩, prog_12_method_4_code, 3, (some FieldType.boolean)),
  (⟨"SandCarsModel", "rope", "(II)I"⟩, prog_12_method_38_code, 3, (some FieldType.int)),
  (⟨"SandCarsModel", "isRope", "(I)Z"⟩, prog_12_method_5_code, 2, (some FieldType.boolean)),
  (⟨"SandCarsModel", "pull", "(I)I"⟩, prog_12_method_22_code, 2, (some FieldType.int)),
  (⟨"SandCarsModel", "paceAt", "(II)I"⟩, prog_12_method_23_code, 4, (some FieldType.int)),
  (⟨"SandCarsModel", "slip", "(II)Z"⟩, prog_12_method_39_code, 4, (some FieldType.boolean)),
  (⟨"SandCarsModel", "on", "(I)I"⟩, prog_12_method_40_code, 3, (some FieldType.int)),
  (⟨"SandCarsModel", "second", "()V"⟩, prog_12_method_36_code, 3, none),
  (⟨"SandCarsModel", "goOn", "([I)I"⟩, prog_12_method_27_code, 7, (some FieldType.int)),
  (⟨"SandCarsModel", "carAt", "(II)I"⟩, prog_12_method_26_code, 3, (some FieldType.int)),
  (⟨"SandCarsModel", "isInSiding", "(I)Z"⟩, prog_12_method_24_code, 2, (some FieldType.boolean)),
  (⟨"SandCarsModel", "meet", "(IIII)Z"⟩, prog_12_method_25_code, 7, (some FieldType.boolean)),
  (⟨"SandCarsModel", "arrive", "([I)I"⟩, prog_12_method_28_code, 4, (some FieldType.int)),
  (⟨"SandCarsModel", "oreOf", "(I)I"⟩, prog_12_method_29_code, 4, (some FieldType.int)),
  (⟨"SandCarsModel", "run", "([I)V"⟩, prog_12_method_30_code, 3, none),
  (⟨"SandCarsModel", "isTurned", "([II)Z"⟩, prog_12_method_33_code, 3, (some FieldType.boolean)),
  (⟨"SandCarsModel", "mayStart", "([II)Z"⟩, prog_12_method_31_code, 3, (some FieldType.boolean)),
  (⟨"SandCarsModel", "isAllowed", "([II)Z"⟩, prog_12_method_32_code, 4, (some FieldType.boolean)),
  (⟨"SandCarsModel", "start", "([III)V"⟩, prog_12_method_34_code, 4, none),
  (⟨"SandCarsModel", "undo", "(I)I"⟩, prog_12_method_41_code, 6, (some FieldType.int)),
  (⟨"SandCarsModel", "safe", "(I)I"⟩, prog_12_method_50_code, 2, (some FieldType.int)),
  (⟨"SandCarsModel", "tellSafe", "()V"⟩, prog_12_method_49_code, 3, none),
  (⟨"SandCarsModel", "clearStates", "()V"⟩, prog_12_method_42_code, 2, none),
  (⟨"SandCarsModel", "stateOf", "([II)I"⟩, prog_12_method_44_code, 7, (some FieldType.int)),
  (⟨"SandCarsModel", "foldOf", "([II)I"⟩, prog_12_method_43_code, 4, (some FieldType.int)),
  (⟨"SandCarsModel", "safeTurns", "(I)V"⟩, prog_12_method_48_code, 7, none),
  (⟨"SandCarsModel", "startAll", "([I)I"⟩, prog_12_method_45_code, 4, (some FieldType.int)),
  (⟨"SandCarsModel", "slipsOf", "(I)I"⟩, prog_12_method_46_code, 4, (some FieldType.int)),
  (⟨"SandCarsModel", "slipBy", "([III)V"⟩, prog_12_method_47_code, 6, none),
  (⟨"SandCarsModel", "most", "(I)I"⟩, prog_12_method_55_code, 4, (some FieldType.int)),
  (⟨"SandCarsModel", "tellCouples", "(I)V"⟩, prog_12_method_52_code, 4, none),
  (⟨"SandCarsModel", "startBy", "([III)I"⟩, prog_12_method_51_code, 6, (some FieldType.int)),
  (⟨"SandCarsModel", "copy", "([I[I)V"⟩, prog_12_method_35_code, 3, none),
  (⟨"SandCarsModel", "bestOf", "([II)I"⟩, prog_12_method_53_code, 5, (some FieldType.int)),
  (⟨"SandCarsModel", "firstOf", "([II)I"⟩, prog_12_method_54_code, 5, (some FieldType.int)),
  (⟨"SandCarsModel", "plan", "(I)I"⟩, prog_12_method_56_code, 2, (some FieldType.int)),
  (⟨"SandCarsModel", "time", "(II)I"⟩, prog_12_method_57_code, 4, (some FieldType.int)),
  (⟨"SandCarsModel", "fitting", "()I"⟩, prog_12_method_63_code, 1, (some FieldType.int)),
  (⟨"SandCarsModel", "keepFit", "(I[I)V"⟩, prog_12_method_60_code, 4, none),
  (⟨"SandCarsModel", "fitOn", "(II)V"⟩, prog_12_method_62_code, 8, none),
  (⟨"SandCarsModel", "loadFit", "(I[I)V"⟩, prog_12_method_59_code, 4, none),
  (⟨"SandCarsModel", "arriveAt", "(I)I"⟩, prog_12_method_58_code, 4, (some FieldType.int)),
  (⟨"SandCarsModel", "triesOf", "(I)I"⟩, prog_12_method_61_code, 5, (some FieldType.int)),
  (⟨"SandCarsModel", "breaks", "(I)I"⟩, prog_12_method_65_code, 4, (some FieldType.int)),
  (⟨"SandCarsModel", "meets", "([II)Z"⟩, prog_12_method_64_code, 6, (some FieldType.boolean)),
  (⟨"SandCarsModel", "worth", "(III)I"⟩, prog_12_method_67_code, 7, (some FieldType.int)),
  (⟨"SandCarsModel", "oreIn", "(I)I"⟩, prog_12_method_66_code, 5, (some FieldType.int)),
  (⟨"SandCarsModel", "image", "()V"⟩, prog_12_method_69_code, 1, none),
  (⟨"SandCarsModel", "be", "([I[I)V"⟩, prog_12_method_68_code, 3, none),
  (⟨"SandCarsModel", "restore", "()Z"⟩, prog_12_method_70_code, 1, (some FieldType.boolean)),
  (⟨"java/util/Arrays", "fill", "([II)V"⟩, prog_27_method_103_code, 4, none),
  (⟨"java/lang/Math", "min", "(II)I"⟩, prog_18_method_69_code, 2, (some FieldType.int)),
  (⟨"java/lang/String", "length", "()I"⟩, prog_20_method_54_code, 1, (some FieldType.int)),
  (⟨"java/lang/String", "coder", "()B"⟩, prog_20_method_152_code, 1, (some FieldType.byte)),
  (⟨"java/lang/String", "charAt", "(I)C"⟩, prog_20_method_56_code, 2, (some FieldType.char)),
  (⟨"java/lang/String", "isLatin1", "()Z"⟩, prog_20_method_154_code, 1, (some FieldType.boolean)),
  (⟨"java/lang/StringLatin1", "charAt", "([BI)C"⟩, prog_21_method_2_code, 2, (some FieldType.char)),
  (⟨"java/lang/Math", "max", "(II)I"⟩, prog_18_method_65_code, 2, (some FieldType.int)),
  (⟨"java/lang/String", "checkIndex", "(II)V"⟩, prog_20_method_155_code, 2, none),
  (⟨"jdk/internal/util/Preconditions", "checkIndex", "(IILjava/util/function/BiFunction;)I"⟩, prog_29_method_11_code, 3, (some FieldType.int)),
  (⟨"SandCarsLaw", "mine", "(LSandCars;I[J)I"⟩, method_3_code, 4, (some FieldType.int)),
  (⟨"SandCarsLaw", "count", "(LSandCars;I[J)I"⟩, method_4_code, 4, (some FieldType.int)),
  (⟨"SandCarsLaw", "rope", "(LSandCars;II[J)I"⟩, method_5_code, 5, (some FieldType.int)),
  (⟨"SandCarsLaw", "slip", "(LSandCars;II[J)I"⟩, method_6_code, 5, (some FieldType.int)),
  (⟨"SandCarsLaw", "on", "(LSandCars;I[J)I"⟩, method_7_code, 4, (some FieldType.int)),
  (⟨"SandCarsLaw", "undo", "(LSandCars;I[J)I"⟩, method_8_code, 4, (some FieldType.int)),
  (⟨"SandCarsLaw", "safe", "(LSandCars;I[J)I"⟩, method_9_code, 4, (some FieldType.int)),
  (⟨"SandCarsLaw", "most", "(LSandCars;I[J)I"⟩, method_10_code, 4, (some FieldType.int)),
  (⟨"SandCarsLaw", "plan", "(LSandCars;I[J)I"⟩, method_11_code, 4, (some FieldType.int)),
  (⟨"SandCarsLaw", "time", "(LSandCars;II[J)I"⟩, method_12_code, 5, (some FieldType.int)),
  (⟨"SandCarsLaw", "breaks", "(LSandCars;I[J)I"⟩, method_13_code, 4, (some FieldType.int)),
  (⟨"SandCarsLaw", "worth", "(LSandCars;III[J)I"⟩, method_14_code, 6, (some FieldType.int)),
  (⟨"SandCarsLaw", "law", "([I)Z"⟩, code, 7, (some FieldType.boolean))]
def am_MP : List Nat := [277, 453, 526, 534, 541, 545, 549, 560, 572, 576, 580, 588, 592, 599, 611, 1004, 1020, 271, 449, 517, 521, 607, 877, 881, 901, 1066, 1070, 381, 513, 530, 596, 919, 946, 953, 957, 1038, 195, 200, 553, 564, 568, 584, 888, 430, 981, 986, 991, 995, 1000, 1007, 1011, 1015, 1025, 1031, 1034, 1043, 1047, 402, 942, 964, 968, 152, 501, 697, 703, 706, 710, 715, 767, 771, 775, 780, 785, 790, 795, 799, 807, 813, 369, 1081, 1088, 1102, 144, 497, 505, 509, 603, 619, 627, 828, 851, 855, 865, 872, 895, 909, 914, 976, 1054, 1062, 1077, 1097, 1110, 1125, 1334, 1338, 1342, 1346, 1350, 1354, 1357, 1360, 1365, 1370, 1378, 1383, 1387, 1391, 1396, 1401, 1406, 1410, 1413, 1417, 1421, 1425, 1429, 1433, 1437, 1441, 1445, 1449, 1453, 1457, 1461, 1465, 1469, 1474, 1478, 1482, 1486, 1490, 1494, 1498, 1502, 1506, 1509, 1514, 1518, 1522, 1526, 1530, 1534, 1538, 1541, 1545, 1549, 1553, 1557, 1561, 1565, 1569, 1573, 1577, 1581, 1585, 1589, 1593, 1597, 1601, 1604, 1608, 456, 556, 719, 723, 729, 733, 736, 820, 739, 744, 622, 823, 847, 861, 868, 891, 905, 972, 1050, 1058, 1073, 1093, 0]
def am_y (mi : Nat) : MethodName := (am_MT.getD mi (⟨"", "", ""⟩, ⟨#[]⟩, 0, none)).1
def am_b (mi : Nat) : ByteArray := (am_MT.getD mi (⟨"", "", ""⟩, ⟨#[]⟩, 0, none)).2.1
def am_l (mi : Nat) : Nat := (am_MT.getD mi (⟨"", "", ""⟩, ⟨#[]⟩, 0, none)).2.2.1
def am_r (mi : Nat) : Option FieldType := (am_MT.getD mi (⟨"", "", ""⟩, ⟨#[]⟩, 0, none)).2.2.2
def am_nM : Nat := 182
def am_TB : List Cond := lw_tbl.filter goodWord
/-- words that nest mates need -/
def am_isN (w : Cond) : Bool := match w with
  | .fieldLinkNest .. => true
  | .methodLinkNest .. => true
  | .castable .. => true
  | .declares .. => true
  | _ => false
def am_NB : List Cond := lw_tbl.filter am_isN
theorem am_NBin {w : Cond} (i : Nat) (h : (decide (lw_tbl[i]? = some w) && am_isN w) = true) : w ∈ am_NB := by
  simp only [Bool.and_eq_true, decide_eq_true_eq] at h
  exact List.mem_filter.mpr ⟨List.mem_of_getElem? h.1, h.2⟩
theorem am_TBin {w : Cond} (i : Nat) (h : (decide (lw_tbl[i]? = some w) && goodWord w) = true) : w ∈ am_TB := by
  simp only [Bool.and_eq_true, decide_eq_true_eq] at h
  exact List.mem_filter.mpr ⟨List.mem_of_getElem? h.1, h.2⟩
def am_isC (w : Cond) : Bool := match w with
  | .code .. => true
  | _ => false
def am_ckM (mi : Nat) : Bool := decide ((am_y mi).cls ≠ "java/lang/invoke/MethodHandle") && decide ((am_y mi).cls ≠ "java/lang/invoke/VarHandle") && decide (am_l mi ≤ 20)
set_option maxRecDepth 20000 in
theorem am_ckM_all : ∀ mi, mi < am_nM → am_ckM mi = true := by decide +kernel
set_option maxRecDepth 20000 in
theorem am_ckP_all : ∀ mi, mi < 172 → plainName (am_y mi).cls = true := by decide +kernel
set_option maxRecDepth 20000 in
theorem am_e0 : lw_tbl[277]? = some (.code (am_y 0) (am_b 0) (am_l 0) (am_r 0)) := rfl
set_option maxRecDepth 20000 in
theorem am_e1 : lw_tbl[453]? = some (.code (am_y 1) (am_b 1) (am_l 1) (am_r 1)) := rfl
set_option maxRecDepth 20000 in
theorem am_e2 : lw_tbl[526]? = some (.code (am_y 2) (am_b 2) (am_l 2) (am_r 2)) := rfl
set_option maxRecDepth 20000 in
theorem am_e3 : lw_tbl[534]? = some (.code (am_y 3) (am_b 3) (am_l 3) (am_r 3)) := rfl
set_option maxRecDepth 20000 in
theorem am_e4 : lw_tbl[541]? = some (.code (am_y 4) (am_b 4) (am_l 4) (am_r 4)) := rfl
set_option maxRecDepth 20000 in
theorem am_e5 : lw_tbl[545]? = some (.code (am_y 5) (am_b 5) (am_l 5) (am_r 5)) := rfl
set_option maxRecDepth 20000 in
theorem am_e6 : lw_tbl[549]? = some (.code (am_y 6) (am_b 6) (am_l 6) (am_r 6)) := rfl
set_option maxRecDepth 20000 in
theorem am_e7 : lw_tbl[560]? = some (.code (am_y 7) (am_b 7) (am_l 7) (am_r 7)) := rfl
set_option maxRecDepth 20000 in
theorem am_e8 : lw_tbl[572]? = some (.code (am_y 8) (am_b 8) (am_l 8) (am_r 8)) := rfl
set_option maxRecDepth 20000 in
theorem am_e9 : lw_tbl[576]? = some (.code (am_y 9) (am_b 9) (am_l 9) (am_r 9)) := rfl
set_option maxRecDepth 20000 in
theorem am_e10 : lw_tbl[580]? = some (.code (am_y 10) (am_b 10) (am_l 10) (am_r 10)) := rfl
set_option maxRecDepth 20000 in
theorem am_e11 : lw_tbl[588]? = some (.code (am_y 11) (am_b 11) (am_l 11) (am_r 11)) := rfl
set_option maxRecDepth 20000 in
theorem am_e12 : lw_tbl[592]? = some (.code (am_y 12) (am_b 12) (am_l 12) (am_r 12)) := rfl
set_option maxRecDepth 20000 in
theorem am_e13 : lw_tbl[599]? = some (.code (am_y 13) (am_b 13) (am_l 13) (am_r 13)) := rfl
set_option maxRecDepth 20000 in
theorem am_e14 : lw_tbl[611]? = some (.code (am_y 14) (am_b 14) (am_l 14) (am_r 14)) := rfl
set_option maxRecDepth 20000 in
theorem am_e15 : lw_tbl[1004]? = some (.code (am_y 15) (am_b 15) (am_l 15) (am_r 15)) := rfl
set_option maxRecDepth 20000 in
theorem am_e16 : lw_tbl[1020]? = some (.code (am_y 16) (am_b 16) (am_l 16) (am_r 16)) := rfl
set_option maxRecDepth 20000 in
theorem am_e17 : lw_tbl[271]? = some (.code (am_y 17) (am_b 17) (am_l 17) (am_r 17)) := rfl
set_option maxRecDepth 20000 in
theorem am_e18 : lw_tbl[449]? = some (.code (am_y 18) (am_b 18) (am_l 18) (am_r 18)) := rfl
set_option maxRecDepth 20000 in
theorem am_e19 : lw_tbl[517]? = some (.code (am_y 19) (am_b 19) (am_l 19) (am_r 19)) := rfl
set_option maxRecDepth 20000 in
theorem am_e20 : lw_tbl[521]? = some (.code (am_y 20) (am_b 20) (am_l 20) (am_r 20)) := rfl
set_option maxRecDepth 20000 in
theorem am_e21 : lw_tbl[607]? = some (.code (am_y 21) (am_b 21) (am_l 21) (am_r 21)) := rfl
set_option maxRecDepth 20000 in
theorem am_e22 : lw_tbl[877]? = some (.code (am_y 22) (am_b 22) (am_l 22) (am_r 22)) := rfl
set_option maxRecDepth 20000 in
theorem am_e23 : lw_tbl[881]? = some (.code (am_y 23) (am_b 23) (am_l 23) (am_r 23)) := rfl
set_option maxRecDepth 20000 in
theorem am_e24 : lw_tbl[901]? = some (.code (am_y 24) (am_b 24) (am_l 24) (am_r 24)) := rfl
set_option maxRecDepth 20000 in
theorem am_e25 : lw_tbl[1066]? = some (.code (am_y 25) (am_b 25) (am_l 25) (am_r 25)) := rfl
set_option maxRecDepth 20000 in
theorem am_e26 : lw_tbl[1070]? = some (.code (am_y 26) (am_b 26) (am_l 26) (am_r 26)) := rfl
set_option maxRecDepth 20000 in
theorem am_e27 : lw_tbl[381]? = some (.code (am_y 27) (am_b 27) (am_l 27) (am_r 27)) := rfl
set_option maxRecDepth 20000 in
theorem am_e28 : lw_tbl[513]? = some (.code (am_y 28) (am_b 28) (am_l 28) (am_r 28)) := rfl
set_option maxRecDepth 20000 in
theorem am_e29 : lw_tbl[530]? = some (.code (am_y 29) (am_b 29) (am_l 29) (am_r 29)) := rfl
set_option maxRecDepth 20000 in
theorem am_e30 : lw_tbl[596]? = some (.code (am_y 30) (am_b 30) (am_l 30) (am_r 30)) := rfl
set_option maxRecDepth 20000 in
theorem am_e31 : lw_tbl[919]? = some (.code (am_y 31) (am_b 31) (am_l 31) (am_r 31)) := rfl
set_option maxRecDepth 20000 in
theorem am_e32 : lw_tbl[946]? = some (.code (am_y 32) (am_b 32) (am_l 32) (am_r 32)) := rfl
set_option maxRecDepth 20000 in
theorem am_e33 : lw_tbl[953]? = some (.code (am_y 33) (am_b 33) (am_l 33) (am_r 33)) := rfl
set_option maxRecDepth 20000 in
theorem am_e34 : lw_tbl[957]? = some (.code (am_y 34) (am_b 34) (am_l 34) (am_r 34)) := rfl
set_option maxRecDepth 20000 in
theorem am_e35 : lw_tbl[1038]? = some (.code (am_y 35) (am_b 35) (am_l 35) (am_r 35)) := rfl
set_option maxRecDepth 20000 in
theorem am_e36 : lw_tbl[195]? = some (.code (am_y 36) (am_b 36) (am_l 36) (am_r 36)) := rfl
set_option maxRecDepth 20000 in
theorem am_e37 : lw_tbl[200]? = some (.code (am_y 37) (am_b 37) (am_l 37) (am_r 37)) := rfl
set_option maxRecDepth 20000 in
theorem am_e38 : lw_tbl[553]? = some (.code (am_y 38) (am_b 38) (am_l 38) (am_r 38)) := rfl
set_option maxRecDepth 20000 in
theorem am_e39 : lw_tbl[564]? = some (.code (am_y 39) (am_b 39) (am_l 39) (am_r 39)) := rfl
set_option maxRecDepth 20000 in
theorem am_e40 : lw_tbl[568]? = some (.code (am_y 40) (am_b 40) (am_l 40) (am_r 40)) := rfl
set_option maxRecDepth 20000 in
theorem am_e41 : lw_tbl[584]? = some (.code (am_y 41) (am_b 41) (am_l 41) (am_r 41)) := rfl
set_option maxRecDepth 20000 in
theorem am_e42 : lw_tbl[888]? = some (.code (am_y 42) (am_b 42) (am_l 42) (am_r 42)) := rfl
set_option maxRecDepth 20000 in
theorem am_e43 : lw_tbl[430]? = some (.code (am_y 43) (am_b 43) (am_l 43) (am_r 43)) := rfl
set_option maxRecDepth 20000 in
theorem am_e44 : lw_tbl[981]? = some (.code (am_y 44) (am_b 44) (am_l 44) (am_r 44)) := rfl
set_option maxRecDepth 20000 in
theorem am_e45 : lw_tbl[986]? = some (.code (am_y 45) (am_b 45) (am_l 45) (am_r 45)) := rfl
set_option maxRecDepth 20000 in
theorem am_e46 : lw_tbl[991]? = some (.code (am_y 46) (am_b 46) (am_l 46) (am_r 46)) := rfl
set_option maxRecDepth 20000 in
theorem am_e47 : lw_tbl[995]? = some (.code (am_y 47) (am_b 47) (am_l 47) (am_r 47)) := rfl
set_option maxRecDepth 20000 in
theorem am_e48 : lw_tbl[1000]? = some (.code (am_y 48) (am_b 48) (am_l 48) (am_r 48)) := rfl
set_option maxRecDepth 20000 in
theorem am_e49 : lw_tbl[1007]? = some (.code (am_y 49) (am_b 49) (am_l 49) (am_r 49)) := rfl
set_option maxRecDepth 20000 in
theorem am_e50 : lw_tbl[1011]? = some (.code (am_y 50) (am_b 50) (am_l 50) (am_r 50)) := rfl
set_option maxRecDepth 20000 in
theorem am_e51 : lw_tbl[1015]? = some (.code (am_y 51) (am_b 51) (am_l 51) (am_r 51)) := rfl
set_option maxRecDepth 20000 in
theorem am_e52 : lw_tbl[1025]? = some (.code (am_y 52) (am_b 52) (am_l 52) (am_r 52)) := rfl
set_option maxRecDepth 20000 in
theorem am_e53 : lw_tbl[1031]? = some (.code (am_y 53) (am_b 53) (am_l 53) (am_r 53)) := rfl
set_option maxRecDepth 20000 in
theorem am_e54 : lw_tbl[1034]? = some (.code (am_y 54) (am_b 54) (am_l 54) (am_r 54)) := rfl
set_option maxRecDepth 20000 in
theorem am_e55 : lw_tbl[1043]? = some (.code (am_y 55) (am_b 55) (am_l 55) (am_r 55)) := rfl
set_option maxRecDepth 20000 in
theorem am_e56 : lw_tbl[1047]? = some (.code (am_y 56) (am_b 56) (am_l 56) (am_r 56)) := rfl
set_option maxRecDepth 20000 in
theorem am_e57 : lw_tbl[402]? = some (.code (am_y 57) (am_b 57) (am_l 57) (am_r 57)) := rfl
set_option maxRecDepth 20000 in
theorem am_e58 : lw_tbl[942]? = some (.code (am_y 58) (am_b 58) (am_l 58) (am_r 58)) := rfl
set_option maxRecDepth 20000 in
theorem am_e59 : lw_tbl[964]? = some (.code (am_y 59) (am_b 59) (am_l 59) (am_r 59)) := rfl
set_option maxRecDepth 20000 in
theorem am_e60 : lw_tbl[968]? = some (.code (am_y 60) (am_b 60) (am_l 60) (am_r 60)) := rfl
set_option maxRecDepth 20000 in
theorem am_e61 : lw_tbl[152]? = some (.code (am_y 61) (am_b 61) (am_l 61) (am_r 61)) := rfl
set_option maxRecDepth 20000 in
theorem am_e62 : lw_tbl[501]? = some (.code (am_y 62) (am_b 62) (am_l 62) (am_r 62)) := rfl
set_option maxRecDepth 20000 in
theorem am_e63 : lw_tbl[697]? = some (.code (am_y 63) (am_b 63) (am_l 63) (am_r 63)) := rfl
set_option maxRecDepth 20000 in
theorem am_e64 : lw_tbl[703]? = some (.code (am_y 64) (am_b 64) (am_l 64) (am_r 64)) := rfl
set_option maxRecDepth 20000 in
theorem am_e65 : lw_tbl[706]? = some (.code (am_y 65) (am_b 65) (am_l 65) (am_r 65)) := rfl
set_option maxRecDepth 20000 in
theorem am_e66 : lw_tbl[710]? = some (.code (am_y 66) (am_b 66) (am_l 66) (am_r 66)) := rfl
set_option maxRecDepth 20000 in
theorem am_e67 : lw_tbl[715]? = some (.code (am_y 67) (am_b 67) (am_l 67) (am_r 67)) := rfl
set_option maxRecDepth 20000 in
theorem am_e68 : lw_tbl[767]? = some (.code (am_y 68) (am_b 68) (am_l 68) (am_r 68)) := rfl
set_option maxRecDepth 20000 in
theorem am_e69 : lw_tbl[771]? = some (.code (am_y 69) (am_b 69) (am_l 69) (am_r 69)) := rfl
set_option maxRecDepth 20000 in
theorem am_e70 : lw_tbl[775]? = some (.code (am_y 70) (am_b 70) (am_l 70) (am_r 70)) := rfl
set_option maxRecDepth 20000 in
theorem am_e71 : lw_tbl[780]? = some (.code (am_y 71) (am_b 71) (am_l 71) (am_r 71)) := rfl
set_option maxRecDepth 20000 in
theorem am_e72 : lw_tbl[785]? = some (.code (am_y 72) (am_b 72) (am_l 72) (am_r 72)) := rfl
set_option maxRecDepth 20000 in
theorem am_e73 : lw_tbl[790]? = some (.code (am_y 73) (am_b 73) (am_l 73) (am_r 73)) := rfl
set_option maxRecDepth 20000 in
theorem am_e74 : lw_tbl[795]? = some (.code (am_y 74) (am_b 74) (am_l 74) (am_r 74)) := rfl
set_option maxRecDepth 20000 in
theorem am_e75 : lw_tbl[799]? = some (.code (am_y 75) (am_b 75) (am_l 75) (am_r 75)) := rfl
set_option maxRecDepth 20000 in
theorem am_e76 : lw_tbl[807]? = some (.code (am_y 76) (am_b 76) (am_l 76) (am_r 76)) := rfl
set_option maxRecDepth 20000 in
theorem am_e77 : lw_tbl[813]? = some (.code (am_y 77) (am_b 77) (am_l 77) (am_r 77)) := rfl
set_option maxRecDepth 20000 in
theorem am_e78 : lw_tbl[369]? = some (.code (am_y 78) (am_b 78) (am_l 78) (am_r 78)) := rfl
set_option maxRecDepth 20000 in
theorem am_e79 : lw_tbl[1081]? = some (.code (am_y 79) (am_b 79) (am_l 79) (am_r 79)) := rfl
set_option maxRecDepth 20000 in
theorem am_e80 : lw_tbl[1088]? = some (.code (am_y 80) (am_b 80) (am_l 80) (am_r 80)) := rfl
set_option maxRecDepth 20000 in
theorem am_e81 : lw_tbl[1102]? = some (.code (am_y 81) (am_b 81) (am_l 81) (am_r 81)) := rfl
set_option maxRecDepth 20000 in
theorem am_e82 : lw_tbl[144]? = some (.code (am_y 82) (am_b 82) (am_l 82) (am_r 82)) := rfl
set_option maxRecDepth 20000 in
theorem am_e83 : lw_tbl[497]? = some (.code (am_y 83) (am_b 83) (am_l 83) (am_r 83)) := rfl
set_option maxRecDepth 20000 in
theorem am_e84 : lw_tbl[505]? = some (.code (am_y 84) (am_b 84) (am_l 84) (am_r 84)) := rfl
set_option maxRecDepth 20000 in
theorem am_e85 : lw_tbl[509]? = some (.code (am_y 85) (am_b 85) (am_l 85) (am_r 85)) := rfl
set_option maxRecDepth 20000 in
theorem am_e86 : lw_tbl[603]? = some (.code (am_y 86) (am_b 86) (am_l 86) (am_r 86)) := rfl
set_option maxRecDepth 20000 in
theorem am_e87 : lw_tbl[619]? = some (.code (am_y 87) (am_b 87) (am_l 87) (am_r 87)) := rfl
set_option maxRecDepth 20000 in
theorem am_e88 : lw_tbl[627]? = some (.code (am_y 88) (am_b 88) (am_l 88) (am_r 88)) := rfl
set_option maxRecDepth 20000 in
theorem am_e89 : lw_tbl[828]? = some (.code (am_y 89) (am_b 89) (am_l 89) (am_r 89)) := rfl
set_option maxRecDepth 20000 in
theorem am_e90 : lw_tbl[851]? = some (.code (am_y 90) (am_b 90) (am_l 90) (am_r 90)) := rfl
set_option maxRecDepth 20000 in
theorem am_e91 : lw_tbl[855]? = some (.code (am_y 91) (am_b 91) (am_l 91) (am_r 91)) := rfl
set_option maxRecDepth 20000 in
theorem am_e92 : lw_tbl[865]? = some (.code (am_y 92) (am_b 92) (am_l 92) (am_r 92)) := rfl
set_option maxRecDepth 20000 in
theorem am_e93 : lw_tbl[872]? = some (.code (am_y 93) (am_b 93) (am_l 93) (am_r 93)) := rfl
set_option maxRecDepth 20000 in
theorem am_e94 : lw_tbl[895]? = some (.code (am_y 94) (am_b 94) (am_l 94) (am_r 94)) := rfl
set_option maxRecDepth 20000 in
theorem am_e95 : lw_tbl[909]? = some (.code (am_y 95) (am_b 95) (am_l 95) (am_r 95)) := rfl
set_option maxRecDepth 20000 in
theorem am_e96 : lw_tbl[914]? = some (.code (am_y 96) (am_b 96) (am_l 96) (am_r 96)) := rfl
set_option maxRecDepth 20000 in
theorem am_e97 : lw_tbl[976]? = some (.code (am_y 97) (am_b 97) (am_l 97) (am_r 97)) := rfl
set_option maxRecDepth 20000 in
theorem am_e98 : lw_tbl[1054]? = some (.code (am_y 98) (am_b 98) (am_l 98) (am_r 98)) := rfl
set_option maxRecDepth 20000 in
theorem am_e99 : lw_tbl[1062]? = some (.code (am_y 99) (am_b 99) (am_l 99) (am_r 99)) := rfl
set_option maxRecDepth 20000 in
theorem am_e100 : lw_tbl[1077]? = some (.code (am_y 100) (am_b 100) (am_l 100) (am_r 100)) := rfl
set_option maxRecDepth 20000 in
theorem am_e101 : lw_tbl[1097]? = some (.code (am_y 101) (am_b 101) (am_l 101) (am_r 101)) := rfl
set_option maxRecDepth 20000 in
theorem am_e102 : lw_tbl[1110]? = some (.code (am_y 102) (am_b 102) (am_l 102) (am_r 102)) := rfl
set_option maxRecDepth 20000 in
theorem am_e103 : lw_tbl[1125]? = some (.code (am_y 103) (am_b 103) (am_l 103) (am_r 103)) := rfl
set_option maxRecDepth 20000 in
theorem am_e104 : lw_tbl[1334]? = some (.code (am_y 104) (am_b 104) (am_l 104) (am_r 104)) := rfl
set_option maxRecDepth 20000 in
theorem am_e105 : lw_tbl[1338]? = some (.code (am_y 105) (am_b 105) (am_l 105) (am_r 105)) := rfl
set_option maxRecDepth 20000 in
theorem am_e106 : lw_tbl[1342]? = some (.code (am_y 106) (am_b 106) (am_l 106) (am_r 106)) := rfl
set_option maxRecDepth 20000 in
theorem am_e107 : lw_tbl[1346]? = some (.code (am_y 107) (am_b 107) (am_l 107) (am_r 107)) := rfl
set_option maxRecDepth 20000 in
theorem am_e108 : lw_tbl[1350]? = some (.code (am_y 108) (am_b 108) (am_l 108) (am_r 108)) := rfl
set_option maxRecDepth 20000 in
theorem am_e109 : lw_tbl[1354]? = some (.code (am_y 109) (am_b 109) (am_l 109) (am_r 109)) := rfl
set_option maxRecDepth 20000 in
theorem am_e110 : lw_tbl[1357]? = some (.code (am_y 110) (am_b 110) (am_l 110) (am_r 110)) := rfl
set_option maxRecDepth 20000 in
theorem am_e111 : lw_tbl[1360]? = some (.code (am_y 111) (am_b 111) (am_l 111) (am_r 111)) := rfl
set_option maxRecDepth 20000 in
theorem am_e112 : lw_tbl[1365]? = some (.code (am_y 112) (am_b 112) (am_l 112) (am_r 112)) := rfl
set_option maxRecDepth 20000 in
theorem am_e113 : lw_tbl[1370]? = some (.code (am_y 113) (am_b 113) (am_l 113) (am_r 113)) := rfl
set_option maxRecDepth 20000 in
theorem am_e114 : lw_tbl[1378]? = some (.code (am_y 114) (am_b 114) (am_l 114) (am_r 114)) := rfl
set_option maxRecDepth 20000 in
theorem am_e115 : lw_tbl[1383]? = some (.code (am_y 115) (am_b 115) (am_l 115) (am_r 115)) := rfl
set_option maxRecDepth 20000 in
theorem am_e116 : lw_tbl[1387]? = some (.code (am_y 116) (am_b 116) (am_l 116) (am_r 116)) := rfl
set_option maxRecDepth 20000 in
theorem am_e117 : lw_tbl[1391]? = some (.code (am_y 117) (am_b 117) (am_l 117) (am_r 117)) := rfl
set_option maxRecDepth 20000 in
theorem am_e118 : lw_tbl[1396]? = some (.code (am_y 118) (am_b 118) (am_l 118) (am_r 118)) := rfl
set_option maxRecDepth 20000 in
theorem am_e119 : lw_tbl[1401]? = some (.code (am_y 119) (am_b 119) (am_l 119) (am_r 119)) := rfl
set_option maxRecDepth 20000 in
theorem am_e120 : lw_tbl[1406]? = some (.code (am_y 120) (am_b 120) (am_l 120) (am_r 120)) := rfl
set_option maxRecDepth 20000 in
theorem am_e121 : lw_tbl[1410]? = some (.code (am_y 121) (am_b 121) (am_l 121) (am_r 121)) := rfl
set_option maxRecDepth 20000 in
theorem am_e122 : lw_tbl[1413]? = some (.code (am_y 122) (am_b 122) (am_l 122) (am_r 122)) := rfl
set_option maxRecDepth 20000 in
theorem am_e123 : lw_tbl[1417]? = some (.code (am_y 123) (am_b 123) (am_l 123) (am_r 123)) := rfl
set_option maxRecDepth 20000 in
theorem am_e124 : lw_tbl[1421]? = some (.code (am_y 124) (am_b 124) (am_l 124) (am_r 124)) := rfl
set_option maxRecDepth 20000 in
theorem am_e125 : lw_tbl[1425]? = some (.code (am_y 125) (am_b 125) (am_l 125) (am_r 125)) := rfl
set_option maxRecDepth 20000 in
theorem am_e126 : lw_tbl[1429]? = some (.code (am_y 126) (am_b 126) (am_l 126) (am_r 126)) := rfl
set_option maxRecDepth 20000 in
theorem am_e127 : lw_tbl[1433]? = some (.code (am_y 127) (am_b 127) (am_l 127) (am_r 127)) := rfl
set_option maxRecDepth 20000 in
theorem am_e128 : lw_tbl[1437]? = some (.code (am_y 128) (am_b 128) (am_l 128) (am_r 128)) := rfl
set_option maxRecDepth 20000 in
theorem am_e129 : lw_tbl[1441]? = some (.code (am_y 129) (am_b 129) (am_l 129) (am_r 129)) := rfl
set_option maxRecDepth 20000 in
theorem am_e130 : lw_tbl[1445]? = some (.code (am_y 130) (am_b 130) (am_l 130) (am_r 130)) := rfl
set_option maxRecDepth 20000 in
theorem am_e131 : lw_tbl[1449]? = some (.code (am_y 131) (am_b 131) (am_l 131) (am_r 131)) := rfl
set_option maxRecDepth 20000 in
theorem am_e132 : lw_tbl[1453]? = some (.code (am_y 132) (am_b 132) (am_l 132) (am_r 132)) := rfl
set_option maxRecDepth 20000 in
theorem am_e133 : lw_tbl[1457]? = some (.code (am_y 133) (am_b 133) (am_l 133) (am_r 133)) := rfl
set_option maxRecDepth 20000 in
theorem am_e134 : lw_tbl[1461]? = some (.code (am_y 134) (am_b 134) (am_l 134) (am_r 134)) := rfl
set_option maxRecDepth 20000 in
theorem am_e135 : lw_tbl[1465]? = some (.code (am_y 135) (am_b 135) (am_l 135) (am_r 135)) := rfl
set_option maxRecDepth 20000 in
theorem am_e136 : lw_tbl[1469]? = some (.code (am_y 136) (am_b 136) (am_l 136) (am_r 136)) := rfl
set_option maxRecDepth 20000 in
theorem am_e137 : lw_tbl[1474]? = some (.code (am_y 137) (am_b 137) (am_l 137) (am_r 137)) := rfl
set_option maxRecDepth 20000 in
theorem am_e138 : lw_tbl[1478]? = some (.code (am_y 138) (am_b 138) (am_l 138) (am_r 138)) := rfl
set_option maxRecDepth 20000 in
theorem am_e139 : lw_tbl[1482]? = some (.code (am_y 139) (am_b 139) (am_l 139) (am_r 139)) := rfl
set_option maxRecDepth 20000 in
theorem am_e140 : lw_tbl[1486]? = some (.code (am_y 140) (am_b 140) (am_l 140) (am_r 140)) := rfl
set_option maxRecDepth 20000 in
theorem am_e141 : lw_tbl[1490]? = some (.code (am_y 141) (am_b 141) (am_l 141) (am_r 141)) := rfl
set_option maxRecDepth 20000 in
theorem am_e142 : lw_tbl[1494]? = some (.code (am_y 142) (am_b 142) (am_l 142) (am_r 142)) := rfl
set_option maxRecDepth 20000 in
theorem am_e143 : lw_tbl[1498]? = some (.code (am_y 143) (am_b 143) (am_l 143) (am_r 143)) := rfl
set_option maxRecDepth 20000 in
theorem am_e144 : lw_tbl[1502]? = some (.code (am_y 144) (am_b 144) (am_l 144) (am_r 144)) := rfl
set_option maxRecDepth 20000 in
theorem am_e145 : lw_tbl[1506]? = some (.code (am_y 145) (am_b 145) (am_l 145) (am_r 145)) := rfl
set_option maxRecDepth 20000 in
theorem am_e146 : lw_tbl[1509]? = some (.code (am_y 146) (am_b 146) (am_l 146) (am_r 146)) := rfl
set_option maxRecDepth 20000 in
theorem am_e147 : lw_tbl[1514]? = some (.code (am_y 147) (am_b 147) (am_l 147) (am_r 147)) := rfl
set_option maxRecDepth 20000 in
theorem am_e148 : lw_tbl[1518]? = some (.code (am_y 148) (am_b 148) (am_l 148) (am_r 148)) := rfl
set_option maxRecDepth 20000 in
theorem am_e149 : lw_tbl[1522]? = some (.code (am_y 149) (am_b 149) (am_l 149) (am_r 149)) := rfl
set_option maxRecDepth 20000 in
theorem am_e150 : lw_tbl[1526]? = some (.code (am_y 150) (am_b 150) (am_l 150) (am_r 150)) := rfl
set_option maxRecDepth 20000 in
theorem am_e151 : lw_tbl[1530]? = some (.code (am_y 151) (am_b 151) (am_l 151) (am_r 151)) := rfl
set_option maxRecDepth 20000 in
theorem am_e152 : lw_tbl[1534]? = some (.code (am_y 152) (am_b 152) (am_l 152) (am_r 152)) := rfl
set_option maxRecDepth 20000 in
theorem am_e153 : lw_tbl[1538]? = some (.code (am_y 153) (am_b 153) (am_l 153) (am_r 153)) := rfl
set_option maxRecDepth 20000 in
theorem am_e154 : lw_tbl[1541]? = some (.code (am_y 154) (am_b 154) (am_l 154) (am_r 154)) := rfl
set_option maxRecDepth 20000 in
theorem am_e155 : lw_tbl[1545]? = some (.code (am_y 155) (am_b 155) (am_l 155) (am_r 155)) := rfl
set_option maxRecDepth 20000 in
theorem am_e156 : lw_tbl[1549]? = some (.code (am_y 156) (am_b 156) (am_l 156) (am_r 156)) := rfl
set_option maxRecDepth 20000 in
theorem am_e157 : lw_tbl[1553]? = some (.code (am_y 157) (am_b 157) (am_l 157) (am_r 157)) := rfl
set_option maxRecDepth 20000 in
theorem am_e158 : lw_tbl[1557]? = some (.code (am_y 158) (am_b 158) (am_l 158) (am_r 158)) := rfl
set_option maxRecDepth 20000 in
theorem am_e159 : lw_tbl[1561]? = some (.code (am_y 159) (am_b 159) (am_l 159) (am_r 159)) := rfl
set_option maxRecDepth 20000 in
theorem am_e160 : lw_tbl[1565]? = some (.code (am_y 160) (am_b 160) (am_l 160) (am_r 160)) := rfl
set_option maxRecDepth 20000 in
theorem am_e161 : lw_tbl[1569]? = some (.code (am_y 161) (am_b 161) (am_l 161) (am_r 161)) := rfl
set_option maxRecDepth 20000 in
theorem am_e162 : lw_tbl[1573]? = some (.code (am_y 162) (am_b 162) (am_l 162) (am_r 162)) := rfl
set_option maxRecDepth 20000 in
theorem am_e163 : lw_tbl[1577]? = some (.code (am_y 163) (am_b 163) (am_l 163) (am_r 163)) := rfl
set_option maxRecDepth 20000 in
theorem am_e164 : lw_tbl[1581]? = some (.code (am_y 164) (am_b 164) (am_l 164) (am_r 164)) := rfl
set_option maxRecDepth 20000 in
theorem am_e165 : lw_tbl[1585]? = some (.code (am_y 165) (am_b 165) (am_l 165) (am_r 165)) := rfl
set_option maxRecDepth 20000 in
theorem am_e166 : lw_tbl[1589]? = some (.code (am_y 166) (am_b 166) (am_l 166) (am_r 166)) := rfl
set_option maxRecDepth 20000 in
theorem am_e167 : lw_tbl[1593]? = some (.code (am_y 167) (am_b 167) (am_l 167) (am_r 167)) := rfl
set_option maxRecDepth 20000 in
theorem am_e168 : lw_tbl[1597]? = some (.code (am_y 168) (am_b 168) (am_l 168) (am_r 168)) := rfl
set_option maxRecDepth 20000 in
theorem am_e169 : lw_tbl[1601]? = some (.code (am_y 169) (am_b 169) (am_l 169) (am_r 169)) := rfl
set_option maxRecDepth 20000 in
theorem am_e170 : lw_tbl[1604]? = some (.code (am_y 170) (am_b 170) (am_l 170) (am_r 170)) := rfl
set_option maxRecDepth 20000 in
theorem am_e171 : lw_tbl[1608]? = some (.code (am_y 171) (am_b 171) (am_l 171) (am_r 171)) := rfl
set_option maxRecDepth 20000 in
theorem am_e172 : lw_tbl[456]? = some (.code (am_y 172) (am_b 172) (am_l 172) (am_r 172)) := rfl
set_option maxRecDepth 20000 in
theorem am_e173 : lw_tbl[556]? = some (.code (am_y 173) (am_b 173) (am_l 173) (am_r 173)) := rfl
set_option maxRecDepth 20000 in
theorem am_e174 : lw_tbl[719]? = some (.code (am_y 174) (am_b 174) (am_l 174) (am_r 174)) := rfl
set_option maxRecDepth 20000 in
theorem am_e175 : lw_tbl[723]? = some (.code (am_y 175) (am_b 175) (am_l 175) (am_r 175)) := rfl
set_option maxRecDepth 20000 in
theorem am_e176 : lw_tbl[729]? = some (.code (am_y 176) (am_b 176) (am_l 176) (am_r 176)) := rfl
set_option maxRecDepth 20000 in
theorem am_e177 : lw_tbl[733]? = some (.code (am_y 177) (am_b 177) (am_l 177) (am_r 177)) := rfl
set_option maxRecDepth 20000 in
theorem am_e178 : lw_tbl[736]? = some (.code (am_y 178) (am_b 178) (am_l 178) (am_r 178)) := rfl
set_option maxRecDepth 20000 in
theorem am_e179 : lw_tbl[820]? = some (.code (am_y 179) (am_b 179) (am_l 179) (am_r 179)) := rfl
set_option maxRecDepth 20000 in
theorem am_e180 : lw_tbl[739]? = some (.code (am_y 180) (am_b 180) (am_l 180) (am_r 180)) := rfl
set_option maxRecDepth 20000 in
theorem am_e181 : lw_tbl[744]? = some (.code (am_y 181) (am_b 181) (am_l 181) (am_r 181)) := rfl
theorem am_eS (mi : Nat) (h : mi < am_nM) : ∃ i : Nat, lw_tbl[i]? = some (.code (am_y mi) (am_b mi) (am_l mi) (am_r mi)) := by
  unfold am_nM at h
  match mi, h with
  | 0, _ => exact ⟨_, am_e0⟩
  | 1, _ => exact ⟨_, am_e1⟩
  | 2, _ => exact ⟨_, am_e2⟩
  | 3, _ => exact ⟨_, am_e3⟩
  | 4, _ => exact ⟨_, am_e4⟩
  | 5, _ => exact ⟨_, am_e5⟩
  | 6, _ => exact ⟨_, am_e6⟩
  | 7, _ => exact ⟨_, am_e7⟩
  | 8, _ => exact ⟨_, am_e8⟩
  | 9, _ => exact ⟨_, am_e9⟩
  | 10, _ => exact ⟨_, am_e10⟩
  | 11, _ => exact ⟨_, am_e11⟩
  | 12, _ => exact ⟨_, am_e12⟩
  | 13, _ => exact ⟨_, am_e13⟩
  | 14, _ => exact ⟨_, am_e14⟩
  | 15, _ => exact ⟨_, am_e15⟩
  | 16, _ => exact ⟨_, am_e16⟩
  | 17, _ => exact ⟨_, am_e17⟩
  | 18, _ => exact ⟨_, am_e18⟩
  | 19, _ => exact ⟨_, am_e19⟩
  | 20, _ => exact ⟨_, am_e20⟩
  | 21, _ => exact ⟨_, am_e21⟩
  | 22, _ => exact ⟨_, am_e22⟩
  | 23, _ => exact ⟨_, am_e23⟩
  | 24, _ => exact ⟨_, am_e24⟩
  | 25, _ => exact ⟨_, am_e25⟩
  | 26, _ => exact ⟨_, am_e26⟩
  | 27, _ => exact ⟨_, am_e27⟩
  | 28, _ => exact ⟨_, am_e28⟩
  | 29, _ => exact ⟨_, am_e29⟩
  | 30, _ => exact ⟨_, am_e30⟩
  | 31, _ => exact ⟨_, am_e31⟩
  | 32, _ => exact ⟨_, am_e32⟩
  | 33, _ => exact ⟨_, am_e33⟩
  | 34, _ => exact ⟨_, am_e34⟩
  | 35, _ => exact ⟨_, am_e35⟩
  | 36, _ => exact ⟨_, am_e36⟩
  | 37, _ => exact ⟨_, am_e37⟩
  | 38, _ => exact ⟨_, am_e38⟩
  | 39, _ => exact ⟨_, am_e39⟩
  | 40, _ => exact ⟨_, am_e40⟩
  | 41, _ => exact ⟨_, am_e41⟩
  | 42, _ => exact ⟨_, am_e42⟩
  | 43, _ => exact ⟨_, am_e43⟩
  | 44, _ => exact ⟨_, am_e44⟩
  | 45, _ => exact ⟨_, am_e45⟩
  | 46, _ => exact ⟨_, am_e46⟩
  | 47, _ => exact ⟨_, am_e47⟩
  | 48, _ => exact ⟨_, am_e48⟩
  | 49, _ => exact ⟨_, am_e49⟩
  | 50, _ => exact ⟨_, am_e50⟩
  | 51, _ => exact ⟨_, am_e51⟩
  | 52, _ => exact ⟨_, am_e52⟩
  | 53, _ => exact ⟨_, am_e53⟩
  | 54, _ => exact ⟨_, am_e54⟩
  | 55, _ => exact ⟨_, am_e55⟩
  | 56, _ => exact ⟨_, am_e56⟩
  | 57, _ => exact ⟨_, am_e57⟩
  | 58, _ => exact ⟨_, am_e58⟩
  | 59, _ => exact ⟨_, am_e59⟩
  | 60, _ => exact ⟨_, am_e60⟩
  | 61, _ => exact ⟨_, am_e61⟩
  | 62, _ => exact ⟨_, am_e62⟩
  | 63, _ => exact ⟨_, am_e63⟩
  | 64, _ => exact ⟨_, am_e64⟩
  | 65, _ => exact ⟨_, am_e65⟩
  | 66, _ => exact ⟨_, am_e66⟩
  | 67, _ => exact ⟨_, am_e67⟩
  | 68, _ => exact ⟨_, am_e68⟩
  | 69, _ => exact ⟨_, am_e69⟩
  | 70, _ => exact ⟨_, am_e70⟩
  | 71, _ => exact ⟨_, am_e71⟩
  | 72, _ => exact ⟨_, am_e72⟩
  | 73, _ => exact ⟨_, am_e73⟩
  | 74, _ => exact ⟨_, am_e74⟩
  | 75, _ => exact ⟨_, am_e75⟩
  | 76, _ => exact ⟨_, am_e76⟩
  | 77, _ => exact ⟨_, am_e77⟩
  | 78, _ => exact ⟨_, am_e78⟩
  | 79, _ => exact ⟨_, am_e79⟩
  | 80, _ => exact ⟨_, am_e80⟩
  | 81, _ => exact ⟨_, am_e81⟩
  | 82, _ => exact ⟨_, am_e82⟩
  | 83, _ => exact ⟨_, am_e83⟩
  | 84, _ => exact ⟨_, am_e84⟩
  | 85, _ => exact ⟨_, am_e85⟩
  | 86, _ => exact ⟨_, am_e86⟩
  | 87, _ => exact ⟨_, am_e87⟩
  | 88, _ => exact ⟨_, am_e88⟩
  | 89, _ => exact ⟨_, am_e89⟩
  | 90, _ => exact ⟨_, am_e90⟩
  | 91, _ => exact ⟨_, am_e91⟩
  | 92, _ => exact ⟨_, am_e92⟩
  | 93, _ => exact ⟨_, am_e93⟩
  | 94, _ => exact ⟨_, am_e94⟩
  | 95, _ => exact ⟨_, am_e95⟩
  | 96, _ => exact ⟨_, am_e96⟩
  | 97, _ => exact ⟨_, am_e97⟩
  | 98, _ => exact ⟨_, am_e98⟩
  | 99, _ => exact ⟨_, am_e99⟩
  | 100, _ => exact ⟨_, am_e100⟩
  | 101, _ => exact ⟨_, am_e101⟩
  | 102, _ => exact ⟨_, am_e102⟩
  | 103, _ => exact ⟨_, am_e103⟩
  | 104, _ => exact ⟨_, am_e104⟩
  | 105, _ => exact ⟨_, am_e105⟩
  | 106, _ => exact ⟨_, am_e106⟩
  | 107, _ => exact ⟨_, am_e107⟩
  | 108, _ => exact ⟨_, am_e108⟩
  | 109, _ => exact ⟨_, am_e109⟩
  | 110, _ => exact ⟨_, am_e110⟩
  | 111, _ => exact ⟨_, am_e111⟩
  | 112, _ => exact ⟨_, am_e112⟩
  | 113, _ => exact ⟨_, am_e113⟩
  | 114, _ => exact ⟨_, am_e114⟩
  | 115, _ => exact ⟨_, am_e115⟩
  | 116, _ => exact ⟨_, am_e116⟩
  | 117, _ => exact ⟨_, am_e117⟩
  | 118, _ => exact ⟨_, am_e118⟩
  | 119, _ => exact ⟨_, am_e119⟩
  | 120, _ => exact ⟨_, am_e120⟩
  | 121, _ => exact ⟨_, am_e121⟩
  | 122, _ => exact ⟨_, am_e122⟩
  | 123, _ => exact ⟨_, am_e123⟩
  | 124, _ => exact ⟨_, am_e124⟩
  | 125, _ => exact ⟨_, am_e125⟩
  | 126, _ => exact ⟨_, am_e126⟩
  | 127, _ => exact ⟨_, am_e127⟩
  | 128, _ => exact ⟨_, am_e128⟩
  | 129, _ => exact ⟨_, am_e129⟩
  | 130, _ => exact ⟨_, am_e130⟩
  | 131, _ => exact ⟨_, am_e131⟩
  | 132, _ => exact ⟨_, am_e132⟩
  | 133, _ => exact ⟨_, am_e133⟩
  | 134, _ => exact ⟨_, am_e134⟩
  | 135, _ => exact ⟨_, am_e135⟩
  | 136, _ => exact ⟨_, am_e136⟩
  | 137, _ => exact ⟨_, am_e137⟩
  | 138, _ => exact ⟨_, am_e138⟩
  | 139, _ => exact ⟨_, am_e139⟩
  | 140, _ => exact ⟨_, am_e140⟩
  | 141, _ => exact ⟨_, am_e141⟩
  | 142, _ => exact ⟨_, am_e142⟩
  | 143, _ => exact ⟨_, am_e143⟩
  | 144, _ => exact ⟨_, am_e144⟩
  | 145, _ => exact ⟨_, am_e145⟩
  | 146, _ => exact ⟨_, am_e146⟩
  | 147, _ => exact ⟨_, am_e147⟩
  | 148, _ => exact ⟨_, am_e148⟩
  | 149, _ => exact ⟨_, am_e149⟩
  | 150, _ => exact ⟨_, am_e150⟩
  | 151, _ => exact ⟨_, am_e151⟩
  | 152, _ => exact ⟨_, am_e152⟩
  | 153, _ => exact ⟨_, am_e153⟩
  | 154, _ => exact ⟨_, am_e154⟩
  | 155, _ => exact ⟨_, am_e155⟩
  | 156, _ => exact ⟨_, am_e156⟩
  | 157, _ => exact ⟨_, am_e157⟩
  | 158, _ => exact ⟨_, am_e158⟩
  | 159, _ => exact ⟨_, am_e159⟩
  | 160, _ => exact ⟨_, am_e160⟩
  | 161, _ => exact ⟨_, am_e161⟩
  | 162, _ => exact ⟨_, am_e162⟩
  | 163, _ => exact ⟨_, am_e163⟩
  | 164, _ => exact ⟨_, am_e164⟩
  | 165, _ => exact ⟨_, am_e165⟩
  | 166, _ => exact ⟨_, am_e166⟩
  | 167, _ => exact ⟨_, am_e167⟩
  | 168, _ => exact ⟨_, am_e168⟩
  | 169, _ => exact ⟨_, am_e169⟩
  | 170, _ => exact ⟨_, am_e170⟩
  | 171, _ => exact ⟨_, am_e171⟩
  | 172, _ => exact ⟨_, am_e172⟩
  | 173, _ => exact ⟨_, am_e173⟩
  | 174, _ => exact ⟨_, am_e174⟩
  | 175, _ => exact ⟨_, am_e175⟩
  | 176, _ => exact ⟨_, am_e176⟩
  | 177, _ => exact ⟨_, am_e177⟩
  | 178, _ => exact ⟨_, am_e178⟩
  | 179, _ => exact ⟨_, am_e179⟩
  | 180, _ => exact ⟨_, am_e180⟩
  | 181, _ => exact ⟨_, am_e181⟩
  | (n + 182), h => exact absurd h (by omega)
theorem am_code (mi : Nat) (h : mi < am_nM) : Cond.code (am_y mi) (am_b mi) (am_l mi) (am_r mi) ∈ am_TB := by
  obtain ⟨i, hi⟩ := am_eS mi h
  exact List.mem_filter.mpr ⟨List.mem_of_getElem? hi, rfl⟩
/-- the texts: owner, entry, text -/
def am_strs : List (String × Nat × String) := [("SandCars", 89, "the tape has not so many bytes"), ("SandCars$Tape", 82, "slope"), ("SandCars$Tape", 116, "siding"), ("SandCars$Tape", 92, "needs"), ("SandCars$Tape", 97, "fast"), ("SandCars$Tape", 102, "rope"), ("SandCars$Tape", 161, "plain"), ("SandCars$Tape", 163, "men"), ("SandCars$Tape", 165, "water"), ("SandCars$Tape", 167, "runaway"), ("SandCars$Tape", 144, "glass"), ("SandCars$Tape", 151, "slips"), ("SandCars$Tape", 169, "always"), ("SandCars$Tape", 171, "clear"), ("SandCars$Tape", 172, "half"), ("SandCars$Tape", 174, "turn"), ("SandCars", 152, "no such count"), ("SandCars", 186, "no such rope"), ("SandCars", 184, "no such fact of a rope"), ("SandCars", 188, "0 to 200 seconds go by"), ("SandCars", 193, "fewer than no seconds"), ("SandCars", 203, "no such fact of safety"), ("SandCars", 225, "0 to 60 seconds are planned"), ("SandCars", 230, "no such second of a plan"), ("SandCars", 246, "a glass of 1 to 30 seconds, 0 to 200 seconds"), ("SandCarsModel", 9, "plain"), ("SandCarsModel", 11, "men"), ("SandCarsModel", 13, "water"), ("SandCarsModel", 15, "runaway"), ("SandCarsModel", 23, "always"), ("SandCarsModel", 25, "clear"), ("SandCarsModel", 27, "half"), ("SandCarsModel", 29, "turn"), ("SandCarsModel", 247, "slope"), ("SandCarsModel", 249, "needs"), ("SandCarsModel", 251, "fast"), ("SandCarsModel", 253, "rope"), ("SandCarsModel", 238, "glass"), ("SandCarsModel", 243, "slips"), ("SandCarsModel", 258, "siding")]
def am_byt : List (List Int32) := [[116, 104, 101, 32, 116, 97, 112, 101, 32, 104, 97, 115, 32, 110, 111, 116, 32, 115, 111, 32, 109, 97, 110, 121, 32, 98, 121, 116, 101, 115], [115, 108, 111, 112, 101], [115, 105, 100, 105, 110, 103], [110, 101, 101, 100, 115], [102, 97, 115, 116], [114, 111, 112, 101], [112, 108, 97, 105, 110], [109, 101, 110], [119, 97, 116, 101, 114], [114, 117, 110, 97, 119, 97, 121], [103, 108, 97, 115, 115], [115, 108, 105, 112, 115], [97, 108, 119, 97, 121, 115], [99, 108, 101, 97, 114], [104, 97, 108, 102], [116, 117, 114, 110], [110, 111, 32, 115, 117, 99, 104, 32, 99, 111, 117, 110, 116], [110, 111, 32, 115, 117, 99, 104, 32, 114, 111, 112, 101], [110, 111, 32, 115, 117, 99, 104, 32, 102, 97, 99, 116, 32, 111, 102, 32, 97, 32, 114, 111, 112, 101], [48, 32, 116, 111, 32, 50, 48, 48, 32, 115, 101, 99, 111, 110, 100, 115, 32, 103, 111, 32, 98, 121], [102, 101, 119, 101, 114, 32, 116, 104, 97, 110, 32, 110, 111, 32, 115, 101, 99, 111, 110, 100, 115], [110, 111, 32, 115, 117, 99, 104, 32, 102, 97, 99, 116, 32, 111, 102, 32, 115, 97, 102, 101, 116, 121], [48, 32, 116, 111, 32, 54, 48, 32, 115, 101, 99, 111, 110, 100, 115, 32, 97, 114, 101, 32, 112, 108, 97, 110, 110, 101, 100], [110, 111, 32, 115, 117, 99, 104, 32, 115, 101, 99, 111, 110, 100, 32, 111, 102, 32, 97, 32, 112, 108, 97, 110], [97, 32, 103, 108, 97, 115, 115, 32, 111, 102, 32, 49, 32, 116, 111, 32, 51, 48, 32, 115, 101, 99, 111, 110, 100, 115, 44, 32, 48, 32, 116, 111, 32, 50, 48, 48, 32, 115, 101, 99, 111, 110, 100, 115], [112, 108, 97, 105, 110], [109, 101, 110], [119, 97, 116, 101, 114], [114, 117, 110, 97, 119, 97, 121], [97, 108, 119, 97, 121, 115], [99, 108, 101, 97, 114], [104, 97, 108, 102], [116, 117, 114, 110], [115, 108, 111, 112, 101], [110, 101, 101, 100, 115], [102, 97, 115, 116], [114, 111, 112, 101], [103, 108, 97, 115, 115], [115, 108, 105, 112, 115], [115, 105, 100, 105, 110, 103]]
def am_nT : Nat := 40
