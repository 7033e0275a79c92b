def zmt0 : List (MethodName × ByteArray × Nat × Option FieldType × Bool × Nat × Nat) := [(⟨"TablesAndTips$Acts", "<init>", "()V"⟩, prog_2_method_1_code, 1, (Option.none : Option Jvm.ClassFile.FieldType), false, 0, 0),
  (⟨"TablesAndTips$Acts", "forget", "()V"⟩, prog_2_method_2_code, 1, (Option.none : Option Jvm.ClassFile.FieldType), false, 0, 0),
  (⟨"TablesAndTips$Acts", "actFor", "(III)V"⟩, prog_2_method_3_code, 4, (Option.none : Option Jvm.ClassFile.FieldType), false, 3, 0),
  (⟨"TablesAndTips$Acts", "ran", "()I"⟩, prog_2_method_4_code, 1, (Option.some Jvm.ClassFile.FieldType.int), false, 0, 1),
  (⟨"TablesAndTips$Acts", "bodyAt", "(I)I"⟩, prog_2_method_5_code, 2, (Option.some Jvm.ClassFile.FieldType.int), false, 1, 1),
  (⟨"TablesAndTips$Acts", "began", "(I)V"⟩, prog_2_method_6_code, 2, (Option.none : Option Jvm.ClassFile.FieldType), false, 1, 0),
  (⟨"TablesAndTips$Acts", "doServe", "(I)I"⟩, prog_2_method_7_code, 4, (Option.some Jvm.ClassFile.FieldType.int), false, 1, 1),
  (⟨"TablesAndTips$Acts", "doGive", "(I)I"⟩, prog_2_method_8_code, 4, (Option.some Jvm.ClassFile.FieldType.int), false, 1, 1),
  (⟨"TablesAndTips$Acts", "doStay", "(I)I"⟩, prog_2_method_9_code, 4, (Option.some Jvm.ClassFile.FieldType.int), false, 1, 1)]
def zmt1 : List (MethodName × ByteArray × Nat × Option FieldType × Bool × Nat × Nat) := [(⟨"TablesAndTips$House", "<init>", "()V"⟩, prog_3_method_1_code, 1, (Option.none : Option Jvm.ClassFile.FieldType), false, 0, 0),
  (⟨"TablesAndTips$House", "becomeAs", "(LTablesAndTips$House;)V"⟩, prog_3_method_2_code, 2, (Option.none : Option Jvm.ClassFile.FieldType), false, 1, 0),
  (⟨"TablesAndTips$House", "tableCount", "()I"⟩, prog_3_method_3_code, 1, (Option.some Jvm.ClassFile.FieldType.int), false, 0, 1),
  (⟨"TablesAndTips$House", "waiterCount", "()I"⟩, prog_3_method_4_code, 1, (Option.some Jvm.ClassFile.FieldType.int), false, 0, 1),
  (⟨"TablesAndTips$House", "evenings", "()I"⟩, prog_3_method_5_code, 1, (Option.some Jvm.ClassFile.FieldType.int), false, 0, 1),
  (⟨"TablesAndTips$House", "jar", "()I"⟩, prog_3_method_6_code, 1, (Option.some Jvm.ClassFile.FieldType.int), false, 0, 1),
  (⟨"TablesAndTips$House", "seedNow", "()I"⟩, prog_3_method_7_code, 1, (Option.some Jvm.ClassFile.FieldType.int), false, 0, 1),
  (⟨"TablesAndTips$House", "changeSeed", "(I)I"⟩, prog_3_method_8_code, 3, (Option.some Jvm.ClassFile.FieldType.int), false, 1, 1),
  (⟨"TablesAndTips$House", "hasTable", "(I)Z"⟩, prog_3_method_9_code, 2, (Option.some Jvm.ClassFile.FieldType.boolean), false, 1, 2),
  (⟨"TablesAndTips$House", "hasWaiter", "(I)Z"⟩, prog_3_method_10_code, 2, (Option.some Jvm.ClassFile.FieldType.boolean), false, 1, 2),
  (⟨"TablesAndTips$House", "waiterPartMayBe", "(II)Z"⟩, prog_3_method_11_code, 2, (Option.some Jvm.ClassFile.FieldType.boolean), true, 2, 2),
  (⟨"TablesAndTips$House", "settingMayBe", "(II)Z"⟩, prog_3_method_12_code, 2, (Option.some Jvm.ClassFile.FieldType.boolean), true, 2, 2),
  (⟨"TablesAndTips$House", "tablePartMayBe", "(II)Z"⟩, prog_3_method_13_code, 3, (Option.some Jvm.ClassFile.FieldType.boolean), false, 2, 2),
  (⟨"TablesAndTips$House", "hasRoomForTable", "()Z"⟩, prog_3_method_14_code, 1, (Option.some Jvm.ClassFile.FieldType.boolean), false, 0, 2),
  (⟨"TablesAndTips$House", "hasRoomForWaiter", "()Z"⟩, prog_3_method_15_code, 1, (Option.some Jvm.ClassFile.FieldType.boolean), false, 0, 2),
  (⟨"TablesAndTips$House", "addWaiter", "(III)I"⟩, prog_3_method_16_code, 5, (Option.some Jvm.ClassFile.FieldType.int), false, 3, 1),
  (⟨"TablesAndTips$House", "addTable", "(IIIII)I"⟩, prog_3_method_17_code, 7, (Option.some Jvm.ClassFile.FieldType.int), false, 5, 1),
  (⟨"TablesAndTips$House", "tablePart", "(II)I"⟩, prog_3_method_18_code, 3, (Option.some Jvm.ClassFile.FieldType.int), false, 2, 1),
  (⟨"TablesAndTips$House", "setTablePart", "(III)V"⟩, prog_3_method_19_code, 4, (Option.none : Option Jvm.ClassFile.FieldType), false, 3, 0),
  (⟨"TablesAndTips$House", "setGuests", "(IIIII)V"⟩, prog_3_method_20_code, 6, (Option.none : Option Jvm.ClassFile.FieldType), false, 5, 0),
  (⟨"TablesAndTips$House", "setServer", "(II)V"⟩, prog_3_method_21_code, 3, (Option.none : Option Jvm.ClassFile.FieldType), false, 2, 0),
  (⟨"TablesAndTips$House", "waiterPart", "(II)I"⟩, prog_3_method_22_code, 3, (Option.some Jvm.ClassFile.FieldType.int), false, 2, 1),
  (⟨"TablesAndTips$House", "setWaiterPart", "(III)V"⟩, prog_3_method_23_code, 4, (Option.none : Option Jvm.ClassFile.FieldType), false, 3, 0),
  (⟨"TablesAndTips$House", "setting", "(I)I"⟩, prog_3_method_24_code, 2, (Option.some Jvm.ClassFile.FieldType.int), false, 1, 1),
  (⟨"TablesAndTips$House", "settle", "(II)V"⟩, prog_3_method_25_code, 3, (Option.none : Option Jvm.ClassFile.FieldType), false, 2, 0),
  (⟨"TablesAndTips$House", "tablesOfWaiter", "(I)I"⟩, prog_3_method_26_code, 4, (Option.some Jvm.ClassFile.FieldType.int), false, 1, 1),
  (⟨"TablesAndTips$House", "billsOfAll", "()I"⟩, prog_3_method_27_code, 3, (Option.some Jvm.ClassFile.FieldType.int), false, 0, 1),
  (⟨"TablesAndTips$House", "serviceOf", "(I)I"⟩, prog_3_method_28_code, 2, (Option.some Jvm.ClassFile.FieldType.int), false, 1, 1),
  (⟨"TablesAndTips$House", "serviceAt", "(I)I"⟩, prog_3_method_29_code, 2, (Option.some Jvm.ClassFile.FieldType.int), false, 1, 1),
  (⟨"TablesAndTips$House", "lacking", "(I)I"⟩, prog_3_method_30_code, 2, (Option.some Jvm.ClassFile.FieldType.int), false, 1, 1),
  (⟨"TablesAndTips$House", "middleNumber", "()I"⟩, prog_3_method_31_code, 4, (Option.some Jvm.ClassFile.FieldType.int), false, 0, 1),
  (⟨"TablesAndTips$House", "wouldGive", "(III)I"⟩, prog_3_method_32_code, 8, (Option.some Jvm.ClassFile.FieldType.int), false, 3, 1),
  (⟨"TablesAndTips$House", "roundedUp", "(I)I"⟩, prog_3_method_33_code, 1, (Option.some Jvm.ClassFile.FieldType.int), true, 1, 1),
  (⟨"TablesAndTips$House", "giftWith", "(III)I"⟩, prog_3_method_34_code, 5, (Option.some Jvm.ClassFile.FieldType.int), false, 3, 1),
  (⟨"TablesAndTips$House", "reckon", "()V"⟩, prog_3_method_35_code, 3, (Option.none : Option Jvm.ClassFile.FieldType), false, 0, 0),
  (⟨"TablesAndTips$House", "givenAt", "(I)I"⟩, prog_3_method_36_code, 2, (Option.some Jvm.ClassFile.FieldType.int), false, 1, 1),
  (⟨"TablesAndTips$House", "wouldGiveAt", "(I)I"⟩, prog_3_method_37_code, 2, (Option.some Jvm.ClassFile.FieldType.int), false, 1, 1),
  (⟨"TablesAndTips$House", "saidAt", "(II)I"⟩, prog_3_method_38_code, 5, (Option.some Jvm.ClassFile.FieldType.int), false, 2, 1),
  (⟨"TablesAndTips$House", "givenByAll", "()I"⟩, prog_3_method_39_code, 3, (Option.some Jvm.ClassFile.FieldType.int), false, 0, 1),
  (⟨"TablesAndTips$House", "ownOf", "(I)I"⟩, prog_3_method_40_code, 4, (Option.some Jvm.ClassFile.FieldType.int), false, 1, 1),
  (⟨"TablesAndTips$House", "potOf", "()I"⟩, prog_3_method_41_code, 1, (Option.some Jvm.ClassFile.FieldType.int), false, 0, 1),
  (⟨"TablesAndTips$House", "byPointsOf", "(I)I"⟩, prog_3_method_42_code, 4, (Option.some Jvm.ClassFile.FieldType.int), false, 1, 1),
  (⟨"TablesAndTips$House", "shareOf", "(I)I"⟩, prog_3_method_43_code, 2, (Option.some Jvm.ClassFile.FieldType.int), false, 1, 1),
  (⟨"TablesAndTips$House", "gainOf", "(I)I"⟩, prog_3_method_44_code, 2, (Option.some Jvm.ClassFile.FieldType.int), false, 1, 1),
  (⟨"TablesAndTips$House", "leaverBits", "()I"⟩, prog_3_method_45_code, 3, (Option.some Jvm.ClassFile.FieldType.int), false, 0, 1),
  (⟨"TablesAndTips$House", "saveEvening", "()V"⟩, prog_3_method_46_code, 4, (Option.none : Option Jvm.ClassFile.FieldType), false, 0, 0),
  (⟨"TablesAndTips$House", "drawBelow", "(I)I"⟩, prog_3_method_47_code, 2, (Option.some Jvm.ClassFile.FieldType.int), false, 1, 1),
  (⟨"TablesAndTips$House", "drawGuests", "()V"⟩, prog_3_method_48_code, 6, (Option.none : Option Jvm.ClassFile.FieldType), false, 0, 0)]
def zmt2 : List (MethodName × ByteArray × Nat × Option FieldType × Bool × Nat × Nat) := [(⟨"TablesAndTips$Outcomes", "<init>", "()V"⟩, prog_4_method_1_code, 1, (Option.none : Option Jvm.ClassFile.FieldType), false, 0, 0),
  (⟨"TablesAndTips$Outcomes", "gainWith", "(LTablesAndTips$House;II)I"⟩, prog_4_method_2_code, 4, (Option.some Jvm.ClassFile.FieldType.int), false, 3, 1),
  (⟨"TablesAndTips$Outcomes", "gainByTold", "(LTablesAndTips$House;LTablesAndTips$Shelf;I)I"⟩, prog_4_method_3_code, 5, (Option.some Jvm.ClassFile.FieldType.int), false, 3, 1),
  (⟨"TablesAndTips$Outcomes", "reckonEfforts", "(LTablesAndTips$House;)V"⟩, prog_4_method_4_code, 5, (Option.none : Option Jvm.ClassFile.FieldType), false, 1, 0),
  (⟨"TablesAndTips$Outcomes", "effortRows", "()I"⟩, prog_4_method_5_code, 1, (Option.some Jvm.ClassFile.FieldType.int), false, 0, 1),
  (⟨"TablesAndTips$Outcomes", "effortIn", "(II)I"⟩, prog_4_method_6_code, 3, (Option.some Jvm.ClassFile.FieldType.int), false, 2, 1),
  (⟨"TablesAndTips$Outcomes", "withEffort", "(III)I"⟩, prog_4_method_7_code, 4, (Option.some Jvm.ClassFile.FieldType.int), false, 3, 1),
  (⟨"TablesAndTips$Outcomes", "gainIn", "(II)I"⟩, prog_4_method_8_code, 3, (Option.some Jvm.ClassFile.FieldType.int), false, 2, 1),
  (⟨"TablesAndTips$Outcomes", "replyIn", "(II)I"⟩, prog_4_method_9_code, 5, (Option.some Jvm.ClassFile.FieldType.int), false, 2, 1),
  (⟨"TablesAndTips$Outcomes", "replyNow", "(I)I"⟩, prog_4_method_10_code, 2, (Option.some Jvm.ClassFile.FieldType.int), false, 1, 1),
  (⟨"TablesAndTips$Outcomes", "takeTurns", "()I"⟩, prog_4_method_11_code, 4, (Option.some Jvm.ClassFile.FieldType.int), false, 0, 1),
  (⟨"TablesAndTips$Outcomes", "findRests", "()I"⟩, prog_4_method_12_code, 4, (Option.some Jvm.ClassFile.FieldType.int), false, 0, 1),
  (⟨"TablesAndTips$Outcomes", "rowRests", "(I)Z"⟩, prog_4_method_13_code, 3, (Option.some Jvm.ClassFile.FieldType.boolean), false, 1, 2),
  (⟨"TablesAndTips$Outcomes", "findBest", "()V"⟩, prog_4_method_14_code, 3, (Option.none : Option Jvm.ClassFile.FieldType), false, 0, 0),
  (⟨"TablesAndTips$Outcomes", "sumOfGains", "(I)I"⟩, prog_4_method_15_code, 4, (Option.some Jvm.ClassFile.FieldType.int), false, 1, 1),
  (⟨"TablesAndTips$Outcomes", "effortFound", "(I)I"⟩, prog_4_method_16_code, 2, (Option.some Jvm.ClassFile.FieldType.int), false, 1, 1),
  (⟨"TablesAndTips$Outcomes", "findPoints", "(LTablesAndTips$House;)Z"⟩, prog_4_method_17_code, 5, (Option.some Jvm.ClassFile.FieldType.boolean), false, 1, 2),
  (⟨"TablesAndTips$Outcomes", "pointsFound", "(I)I"⟩, prog_4_method_18_code, 2, (Option.some Jvm.ClassFile.FieldType.int), false, 1, 1),
  (⟨"TablesAndTips$Outcomes", "findWay", "(LTablesAndTips$House;IZ)Z"⟩, prog_4_method_19_code, 5, (Option.some Jvm.ClassFile.FieldType.boolean), false, 3, 2),
  (⟨"TablesAndTips$Outcomes", "reckonStillToCome", "()V"⟩, prog_4_method_20_code, 5, (Option.none : Option Jvm.ClassFile.FieldType), false, 0, 0),
  (⟨"TablesAndTips$Outcomes", "placeFrom", "(IIIZ)V"⟩, prog_4_method_21_code, 7, (Option.none : Option Jvm.ClassFile.FieldType), false, 4, 0),
  (⟨"TablesAndTips$Outcomes", "isHopeless", "(IZ)Z"⟩, prog_4_method_22_code, 5, (Option.some Jvm.ClassFile.FieldType.boolean), false, 2, 2),
  (⟨"TablesAndTips$Outcomes", "keepIfBetter", "(Z)V"⟩, prog_4_method_23_code, 3, (Option.none : Option Jvm.ClassFile.FieldType), false, 1, 0),
  (⟨"TablesAndTips$Outcomes", "sumOfOwn", "()I"⟩, prog_4_method_24_code, 3, (Option.some Jvm.ClassFile.FieldType.int), false, 0, 1),
  (⟨"TablesAndTips$Outcomes", "greatestOwn", "()I"⟩, prog_4_method_25_code, 3, (Option.some Jvm.ClassFile.FieldType.int), false, 0, 1),
  (⟨"TablesAndTips$Outcomes", "leastOwn", "()I"⟩, prog_4_method_26_code, 3, (Option.some Jvm.ClassFile.FieldType.int), false, 0, 1),
  (⟨"TablesAndTips$Outcomes", "valueOfWay", "()I"⟩, prog_4_method_27_code, 1, (Option.some Jvm.ClassFile.FieldType.int), false, 0, 1),
  (⟨"TablesAndTips$Outcomes", "serverInWay", "(I)I"⟩, prog_4_method_28_code, 2, (Option.some Jvm.ClassFile.FieldType.int), false, 1, 1),
  (⟨"TablesAndTips$Outcomes", "turnsOf", "(LTablesAndTips$House;II)I"⟩, prog_4_method_29_code, 8, (Option.some Jvm.ClassFile.FieldType.int), false, 3, 1),
  (⟨"TablesAndTips$Outcomes", "worthOf", "(LTablesAndTips$House;I)I"⟩, prog_4_method_30_code, 4, (Option.some Jvm.ClassFile.FieldType.int), false, 2, 1),
  (⟨"TablesAndTips$Outcomes", "leastAdded", "(LTablesAndTips$House;)I"⟩, prog_4_method_31_code, 3, (Option.some Jvm.ClassFile.FieldType.int), false, 1, 1)]
def zmt3 : List (MethodName × ByteArray × Nat × Option FieldType × Bool × Nat × Nat) := [(⟨"TablesAndTips$Reader", "<init>", "()V"⟩, prog_5_method_1_code, 1, (Option.none : Option Jvm.ClassFile.FieldType), false, 0, 0),
  (⟨"TablesAndTips$Reader", "draft", "()LTablesAndTips$House;"⟩, prog_5_method_2_code, 1, (Option.some (Jvm.ClassFile.FieldType.object "TablesAndTips$House")), false, 0, 4),
  (⟨"TablesAndTips$Reader", "faultPlace", "()I"⟩, prog_5_method_3_code, 1, (Option.some Jvm.ClassFile.FieldType.int), false, 0, 1),
  (⟨"TablesAndTips$Reader", "read", "(LTablesAndTips$Shelf;LTablesAndTips$House;)I"⟩, prog_5_method_4_code, 5, (Option.some Jvm.ClassFile.FieldType.int), false, 2, 1),
  (⟨"TablesAndTips$Reader", "faultAt", "(I)Z"⟩, prog_5_method_5_code, 2, (Option.some Jvm.ClassFile.FieldType.boolean), false, 1, 2),
  (⟨"TablesAndTips$Reader", "readItem", "(LTablesAndTips$Shelf;)Z"⟩, prog_5_method_6_code, 5, (Option.some Jvm.ClassFile.FieldType.boolean), false, 1, 2),
  (⟨"TablesAndTips$Reader", "itemBy", "(I)I"⟩, prog_5_method_7_code, 2, (Option.some Jvm.ClassFile.FieldType.int), true, 1, 1),
  (⟨"TablesAndTips$Reader", "wordOf", "(I)Ljava/lang/String;"⟩, prog_5_method_8_code, 1, (Option.some (Jvm.ClassFile.FieldType.object "java/lang/String")), true, 1, 4),
  (⟨"TablesAndTips$Reader", "letterAt", "(Ljava/lang/String;I)I"⟩, prog_5_method_9_code, 2, (Option.some Jvm.ClassFile.FieldType.int), true, 2, 1),
  (⟨"TablesAndTips$Reader", "readWord", "(LTablesAndTips$Shelf;Ljava/lang/String;)Z"⟩, prog_5_method_10_code, 4, (Option.some Jvm.ClassFile.FieldType.boolean), false, 2, 2),
  (⟨"TablesAndTips$Reader", "readSign", "(LTablesAndTips$Shelf;I)Z"⟩, prog_5_method_11_code, 3, (Option.some Jvm.ClassFile.FieldType.boolean), false, 2, 2),
  (⟨"TablesAndTips$Reader", "readNumber", "(LTablesAndTips$Shelf;II)Z"⟩, prog_5_method_12_code, 6, (Option.some Jvm.ClassFile.FieldType.boolean), false, 3, 2),
  (⟨"TablesAndTips$Reader", "isDigit", "(I)Z"⟩, prog_5_method_13_code, 1, (Option.some Jvm.ClassFile.FieldType.boolean), true, 1, 2),
  (⟨"TablesAndTips$Reader", "hasRoomFor", "(I)Z"⟩, prog_5_method_14_code, 2, (Option.some Jvm.ClassFile.FieldType.boolean), false, 1, 2),
  (⟨"TablesAndTips$Reader", "mayBe", "(III)Z"⟩, prog_5_method_15_code, 4, (Option.some Jvm.ClassFile.FieldType.boolean), false, 3, 2),
  (⟨"TablesAndTips$Reader", "waiterPartTold", "(I)I"⟩, prog_5_method_16_code, 1, (Option.some Jvm.ClassFile.FieldType.int), true, 1, 1),
  (⟨"TablesAndTips$Reader", "settingTold", "(II)I"⟩, prog_5_method_17_code, 2, (Option.some Jvm.ClassFile.FieldType.int), true, 2, 1),
  (⟨"TablesAndTips$Reader", "number", "(I)I"⟩, prog_5_method_18_code, 2, (Option.some Jvm.ClassFile.FieldType.int), false, 1, 1),
  (⟨"TablesAndTips$Reader", "tell", "(I)V"⟩, prog_5_method_19_code, 3, (Option.none : Option Jvm.ClassFile.FieldType), false, 1, 0)]
def zmt4 : List (MethodName × ByteArray × Nat × Option FieldType × Bool × Nat × Nat) := [(⟨"TablesAndTips$Shelf", "<init>", "()V"⟩, prog_6_method_1_code, 1, (Option.none : Option Jvm.ClassFile.FieldType), false, 0, 0),
  (⟨"TablesAndTips$Shelf", "held", "()I"⟩, prog_6_method_2_code, 1, (Option.some Jvm.ClassFile.FieldType.int), false, 0, 1),
  (⟨"TablesAndTips$Shelf", "hasRow", "()Z"⟩, prog_6_method_3_code, 1, (Option.some Jvm.ClassFile.FieldType.boolean), false, 0, 2),
  (⟨"TablesAndTips$Shelf", "hasGuests", "()Z"⟩, prog_6_method_4_code, 1, (Option.some Jvm.ClassFile.FieldType.boolean), false, 0, 2),
  (⟨"TablesAndTips$Shelf", "differsInSort", "(LTablesAndTips$Shelf;)Z"⟩, prog_6_method_5_code, 2, (Option.some Jvm.ClassFile.FieldType.boolean), false, 1, 2),
  (⟨"TablesAndTips$Shelf", "holdNothing", "()V"⟩, prog_6_method_6_code, 1, (Option.none : Option Jvm.ClassFile.FieldType), false, 0, 0),
  (⟨"TablesAndTips$Shelf", "holdGuests", "(I)V"⟩, prog_6_method_7_code, 2, (Option.none : Option Jvm.ClassFile.FieldType), false, 1, 0),
  (⟨"TablesAndTips$Shelf", "holdRow", "(II)V"⟩, prog_6_method_8_code, 4, (Option.none : Option Jvm.ClassFile.FieldType), false, 2, 0),
  (⟨"TablesAndTips$Shelf", "spans", "(II)Z"⟩, prog_6_method_9_code, 3, (Option.some Jvm.ClassFile.FieldType.boolean), false, 2, 2),
  (⟨"TablesAndTips$Shelf", "longAt", "(I)J"⟩, prog_6_method_10_code, 2, (Option.some Jvm.ClassFile.FieldType.long), false, 1, 3),
  (⟨"TablesAndTips$Shelf", "intAt", "(I)I"⟩, prog_6_method_11_code, 2, (Option.some Jvm.ClassFile.FieldType.int), false, 1, 1),
  (⟨"TablesAndTips$Shelf", "putIn", "(IJ)V"⟩, prog_6_method_12_code, 4, (Option.none : Option Jvm.ClassFile.FieldType), false, 2, 0),
  (⟨"TablesAndTips$Shelf", "lowestBits", "(J)J"⟩, prog_6_method_13_code, 3, (Option.some Jvm.ClassFile.FieldType.long), false, 1, 3),
  (⟨"TablesAndTips$Shelf", "takeFrom", "(LTablesAndTips$Shelf;III)V"⟩, prog_6_method_14_code, 8, (Option.none : Option Jvm.ClassFile.FieldType), false, 4, 0)]
def zmt5 : List (MethodName × ByteArray × Nat × Option FieldType × Bool × Nat × Nat) := [(⟨"TablesAndTips", "<init>", "()V"⟩, prog_1_method_1_code, 2, (Option.none : Option Jvm.ClassFile.FieldType), false, 0, 0),
  (⟨"TablesAndTips", "row", "(III)I"⟩, prog_1_method_2_code, 5, (Option.some Jvm.ClassFile.FieldType.int), false, 3, 1),
  (⟨"TablesAndTips", "set", "(IIJ)I"⟩, prog_1_method_3_code, 7, (Option.some Jvm.ClassFile.FieldType.int), false, 3, 1),
  (⟨"TablesAndTips", "copy", "(IIIII)I"⟩, prog_1_method_4_code, 8, (Option.some Jvm.ClassFile.FieldType.int), false, 5, 1),
  (⟨"TablesAndTips", "element", "(II)J"⟩, prog_1_method_5_code, 4, (Option.some Jvm.ClassFile.FieldType.long), false, 2, 3),
  (⟨"TablesAndTips", "show", "(II)I"⟩, prog_1_method_6_code, 4, (Option.some Jvm.ClassFile.FieldType.int), false, 2, 1),
  (⟨"TablesAndTips", "holds", "(I)I"⟩, prog_1_method_7_code, 3, (Option.some Jvm.ClassFile.FieldType.int), false, 1, 1),
  (⟨"TablesAndTips", "says", "(II)I"⟩, prog_1_method_8_code, 5, (Option.some Jvm.ClassFile.FieldType.int), false, 2, 1),
  (⟨"TablesAndTips", "waiter", "(III)I"⟩, prog_1_method_9_code, 4, (Option.some Jvm.ClassFile.FieldType.int), false, 3, 1),
  (⟨"TablesAndTips", "table", "(IIIII)I"⟩, prog_1_method_10_code, 6, (Option.some Jvm.ClassFile.FieldType.int), false, 5, 1),
  (⟨"TablesAndTips", "tables", "(III)I"⟩, prog_1_method_11_code, 12, (Option.some Jvm.ClassFile.FieldType.int), false, 3, 1),
  (⟨"TablesAndTips", "serves", "(II)I"⟩, prog_1_method_12_code, 4, (Option.some Jvm.ClassFile.FieldType.int), false, 2, 1),
  (⟨"TablesAndTips", "becomes", "(III)I"⟩, prog_1_method_13_code, 5, (Option.some Jvm.ClassFile.FieldType.int), false, 3, 1),
  (⟨"TablesAndTips", "ask", "(II)I"⟩, prog_1_method_14_code, 4, (Option.some Jvm.ClassFile.FieldType.int), false, 2, 1),
  (⟨"TablesAndTips", "tableOf", "(II)I"⟩, prog_1_method_15_code, 3, (Option.some Jvm.ClassFile.FieldType.int), false, 2, 1),
  (⟨"TablesAndTips", "waiterOf", "(II)I"⟩, prog_1_method_16_code, 3, (Option.some Jvm.ClassFile.FieldType.int), false, 2, 1),
  (⟨"TablesAndTips", "house", "(I)I"⟩, prog_1_method_17_code, 5, (Option.some Jvm.ClassFile.FieldType.int), false, 1, 1),
  (⟨"TablesAndTips", "fault", "()I"⟩, prog_1_method_18_code, 1, (Option.some Jvm.ClassFile.FieldType.int), false, 0, 1),
  (⟨"TablesAndTips", "would", "(I)I"⟩, prog_1_method_19_code, 2, (Option.some Jvm.ClassFile.FieldType.int), false, 1, 1),
  (⟨"TablesAndTips", "gives", "(I)I"⟩, prog_1_method_20_code, 2, (Option.some Jvm.ClassFile.FieldType.int), false, 1, 1),
  (⟨"TablesAndTips", "all", "()I"⟩, prog_1_method_21_code, 1, (Option.some Jvm.ClassFile.FieldType.int), false, 0, 1),
  (⟨"TablesAndTips", "share", "(II)I"⟩, prog_1_method_22_code, 3, (Option.some Jvm.ClassFile.FieldType.int), false, 2, 1),
  (⟨"TablesAndTips", "gain", "(II)I"⟩, prog_1_method_23_code, 3, (Option.some Jvm.ClassFile.FieldType.int), false, 2, 1),
  (⟨"TablesAndTips", "reply", "(I)I"⟩, prog_1_method_24_code, 2, (Option.some Jvm.ClassFile.FieldType.int), false, 1, 1),
  (⟨"TablesAndTips", "rest", "(I)I"⟩, prog_1_method_25_code, 3, (Option.some Jvm.ClassFile.FieldType.int), false, 1, 1),
  (⟨"TablesAndTips", "rests", "(I)I"⟩, prog_1_method_26_code, 3, (Option.some Jvm.ClassFile.FieldType.int), false, 1, 1),
  (⟨"TablesAndTips", "best", "(I)I"⟩, prog_1_method_27_code, 2, (Option.some Jvm.ClassFile.FieldType.int), false, 1, 1),
  (⟨"TablesAndTips", "points", "(I)I"⟩, prog_1_method_28_code, 2, (Option.some Jvm.ClassFile.FieldType.int), false, 1, 1),
  (⟨"TablesAndTips", "leavers", "()I"⟩, prog_1_method_29_code, 1, (Option.some Jvm.ClassFile.FieldType.int), false, 0, 1),
  (⟨"TablesAndTips", "most", "(II)I"⟩, prog_1_method_30_code, 3, (Option.some Jvm.ClassFile.FieldType.int), false, 2, 1),
  (⟨"TablesAndTips", "even", "(II)I"⟩, prog_1_method_31_code, 3, (Option.some Jvm.ClassFile.FieldType.int), false, 2, 1),
  (⟨"TablesAndTips", "turns", "(II)I"⟩, prog_1_method_32_code, 3, (Option.some Jvm.ClassFile.FieldType.int), false, 2, 1),
  (⟨"TablesAndTips", "luck", "(I)I"⟩, prog_1_method_33_code, 3, (Option.some Jvm.ClassFile.FieldType.int), false, 1, 1),
  (⟨"TablesAndTips", "worth", "(I)I"⟩, prog_1_method_34_code, 2, (Option.some Jvm.ClassFile.FieldType.int), false, 1, 1),
  (⟨"TablesAndTips", "raise", "()I"⟩, prog_1_method_35_code, 1, (Option.some Jvm.ClassFile.FieldType.int), false, 0, 1),
  (⟨"TablesAndTips", "judge", "(I)I"⟩, prog_1_method_36_code, 4, (Option.some Jvm.ClassFile.FieldType.int), false, 1, 1),
  (⟨"TablesAndTips", "told", "(II)I"⟩, prog_1_method_37_code, 5, (Option.some Jvm.ClassFile.FieldType.int), false, 2, 1),
  (⟨"TablesAndTips", "evening", "()I"⟩, prog_1_method_38_code, 1, (Option.some Jvm.ClassFile.FieldType.int), false, 0, 1),
  (⟨"TablesAndTips", "guests", "()I"⟩, prog_1_method_39_code, 1, (Option.some Jvm.ClassFile.FieldType.int), false, 0, 1),
  (⟨"TablesAndTips", "seed", "(I)I"⟩, prog_1_method_40_code, 2, (Option.some Jvm.ClassFile.FieldType.int), false, 1, 1),
  (⟨"TablesAndTips", "act", "(III)I"⟩, prog_1_method_41_code, 4, (Option.some Jvm.ClassFile.FieldType.int), false, 3, 1),
  (⟨"TablesAndTips", "trace", "(I)I"⟩, prog_1_method_42_code, 2, (Option.some Jvm.ClassFile.FieldType.int), false, 1, 1),
  (⟨"TablesAndTips", "image", "()I"⟩, prog_1_method_43_code, 1, (Option.some Jvm.ClassFile.FieldType.int), false, 0, 1),
  (⟨"TablesAndTips", "restore", "()I"⟩, prog_1_method_44_code, 3, (Option.some Jvm.ClassFile.FieldType.int), false, 0, 1),
  (⟨"TablesAndTips", "status", "(I)I"⟩, prog_1_method_45_code, 2, (Option.some Jvm.ClassFile.FieldType.int), false, 1, 1),
  (⟨"TablesAndTips", "refuse", "(I)I"⟩, prog_1_method_46_code, 2, (Option.some Jvm.ClassFile.FieldType.int), false, 1, 1),
  (⟨"TablesAndTips", "refuseFar", "(I)I"⟩, prog_1_method_47_code, 2, (Option.some Jvm.ClassFile.FieldType.int), false, 1, 1),
  (⟨"TablesAndTips", "answer", "(I)I"⟩, prog_1_method_48_code, 2, (Option.some Jvm.ClassFile.FieldType.int), false, 1, 1),
  (⟨"TablesAndTips", "shelfAt", "(I)LTablesAndTips$Shelf;"⟩, prog_1_method_49_code, 2, (Option.some (Jvm.ClassFile.FieldType.object "TablesAndTips$Shelf")), false, 1, 4),
  (⟨"TablesAndTips", "rowRefusal", "(LTablesAndTips$Shelf;)I"⟩, prog_1_method_50_code, 1, (Option.some Jvm.ClassFile.FieldType.int), true, 1, 1),
  (⟨"TablesAndTips", "toldRefusal", "(LTablesAndTips$Shelf;)I"⟩, prog_1_method_51_code, 3, (Option.some Jvm.ClassFile.FieldType.int), false, 1, 1),
  (⟨"TablesAndTips", "firstWrongEffort", "(LTablesAndTips$Shelf;)I"⟩, prog_1_method_52_code, 3, (Option.some Jvm.ClassFile.FieldType.int), false, 1, 1),
  (⟨"TablesAndTips", "placed", "(IIZ)I"⟩, prog_1_method_53_code, 4, (Option.some Jvm.ClassFile.FieldType.int), false, 3, 1),
  (⟨"TablesAndTips", "isUnder", "(II)Z"⟩, prog_1_method_54_code, 4, (Option.some Jvm.ClassFile.FieldType.boolean), true, 2, 2),
  (⟨"TablesAndTips", "at", "([II)I"⟩, prog_1_method_55_code, 2, (Option.some Jvm.ClassFile.FieldType.int), true, 2, 1),
  (⟨"TablesAndTips", "put", "([III)V"⟩, prog_1_method_56_code, 3, (Option.none : Option Jvm.ClassFile.FieldType), true, 3, 0),
  (⟨"TablesAndTips", "copyAll", "([I[I)V"⟩, prog_1_method_57_code, 3, (Option.none : Option Jvm.ClassFile.FieldType), true, 2, 0),
  (⟨"TablesAndTips", "hundredths", "(II)I"⟩, prog_1_method_58_code, 2, (Option.some Jvm.ClassFile.FieldType.int), true, 2, 1),
  (⟨"TablesAndTips", "power", "(II)I"⟩, prog_1_method_59_code, 4, (Option.some Jvm.ClassFile.FieldType.int), true, 2, 1),
  (⟨"TablesAndTips", "digit", "(IIII)I"⟩, prog_1_method_60_code, 5, (Option.some Jvm.ClassFile.FieldType.int), true, 4, 1)]
def zmt6 : List (MethodName × ByteArray × Nat × Option FieldType × Bool × Nat × Nat) := [(⟨"TablesAndTipsModel", "<init>", "()V"⟩, prog_8_method_1_code, 1, (Option.none : Option Jvm.ClassFile.FieldType), false, 0, 0),
  (⟨"TablesAndTipsModel", "no", "(I)I"⟩, prog_8_method_2_code, 2, (Option.some Jvm.ClassFile.FieldType.int), false, 1, 1),
  (⟨"TablesAndTipsModel", "noTen", "(I)I"⟩, prog_8_method_3_code, 2, (Option.some Jvm.ClassFile.FieldType.int), false, 1, 1),
  (⟨"TablesAndTipsModel", "noLow", "(I)I"⟩, prog_8_method_4_code, 2, (Option.some Jvm.ClassFile.FieldType.int), false, 1, 1),
  (⟨"TablesAndTipsModel", "isShelf", "(I)Z"⟩, prog_8_method_5_code, 2, (Option.some Jvm.ClassFile.FieldType.boolean), false, 1, 2),
  (⟨"TablesAndTipsModel", "isTable", "(I)Z"⟩, prog_8_method_6_code, 2, (Option.some Jvm.ClassFile.FieldType.boolean), false, 1, 2),
  (⟨"TablesAndTipsModel", "isWaiter", "(I)Z"⟩, prog_8_method_7_code, 2, (Option.some Jvm.ClassFile.FieldType.boolean), false, 1, 2),
  (⟨"TablesAndTipsModel", "row", "(III)I"⟩, prog_8_method_8_code, 5, (Option.some Jvm.ClassFile.FieldType.int), false, 3, 1),
  (⟨"TablesAndTipsModel", "set", "(IIJ)I"⟩, prog_8_method_9_code, 5, (Option.some Jvm.ClassFile.FieldType.int), false, 3, 1),
  (⟨"TablesAndTipsModel", "copy", "(IIIII)I"⟩, prog_8_method_10_code, 7, (Option.some Jvm.ClassFile.FieldType.int), false, 5, 1),
  (⟨"TablesAndTipsModel", "element", "(II)J"⟩, prog_8_method_11_code, 3, (Option.some Jvm.ClassFile.FieldType.long), false, 2, 3),
  (⟨"TablesAndTipsModel", "show", "(II)I"⟩, prog_8_method_12_code, 3, (Option.some Jvm.ClassFile.FieldType.int), false, 2, 1),
  (⟨"TablesAndTipsModel", "holds", "(I)I"⟩, prog_8_method_13_code, 2, (Option.some Jvm.ClassFile.FieldType.int), false, 1, 1),
  (⟨"TablesAndTipsModel", "isUnder", "(II)Z"⟩, prog_8_method_14_code, 3, (Option.some Jvm.ClassFile.FieldType.boolean), false, 2, 2),
  (⟨"TablesAndTipsModel", "says", "(II)I"⟩, prog_8_method_15_code, 4, (Option.some Jvm.ClassFile.FieldType.int), false, 2, 1),
  (⟨"TablesAndTipsModel", "wants", "(I)I"⟩, prog_8_method_16_code, 2, (Option.some Jvm.ClassFile.FieldType.int), false, 1, 1),
  (⟨"TablesAndTipsModel", "intAt", "(II)I"⟩, prog_8_method_17_code, 3, (Option.some Jvm.ClassFile.FieldType.int), false, 2, 1),
  (⟨"TablesAndTipsModel", "comes", "(III)I"⟩, prog_8_method_18_code, 4, (Option.some Jvm.ClassFile.FieldType.int), false, 3, 1),
  (⟨"TablesAndTipsModel", "waiter", "(III)I"⟩, prog_8_method_19_code, 4, (Option.some Jvm.ClassFile.FieldType.int), false, 3, 1),
  (⟨"TablesAndTipsModel", "isSo", "(III)Z"⟩, prog_8_method_20_code, 4, (Option.some Jvm.ClassFile.FieldType.boolean), false, 3, 2),
  (⟨"TablesAndTipsModel", "adds", "(IIIII)I"⟩, prog_8_method_21_code, 6, (Option.some Jvm.ClassFile.FieldType.int), false, 5, 1),
  (⟨"TablesAndTipsModel", "table", "(IIIII)I"⟩, prog_8_method_22_code, 6, (Option.some Jvm.ClassFile.FieldType.int), false, 5, 1),
  (⟨"TablesAndTipsModel", "tables", "(III)I"⟩, prog_8_method_23_code, 9, (Option.some Jvm.ClassFile.FieldType.int), false, 3, 1),
  (⟨"TablesAndTipsModel", "serves", "(II)I"⟩, prog_8_method_24_code, 4, (Option.some Jvm.ClassFile.FieldType.int), false, 2, 1),
  (⟨"TablesAndTipsModel", "become", "([IIIII)I"⟩, prog_8_method_25_code, 7, (Option.some Jvm.ClassFile.FieldType.int), false, 5, 1),
  (⟨"TablesAndTipsModel", "becomes", "(III)I"⟩, prog_8_method_26_code, 4, (Option.some Jvm.ClassFile.FieldType.int), false, 3, 1),
  (⟨"TablesAndTipsModel", "ask", "(II)I"⟩, prog_8_method_27_code, 4, (Option.some Jvm.ClassFile.FieldType.int), false, 2, 1),
  (⟨"TablesAndTipsModel", "tableOf", "(II)I"⟩, prog_8_method_28_code, 3, (Option.some Jvm.ClassFile.FieldType.int), false, 2, 1),
  (⟨"TablesAndTipsModel", "tablesOf", "(I)I"⟩, prog_8_method_29_code, 4, (Option.some Jvm.ClassFile.FieldType.int), false, 1, 1),
  (⟨"TablesAndTipsModel", "waiterOf", "(II)I"⟩, prog_8_method_30_code, 3, (Option.some Jvm.ClassFile.FieldType.int), false, 2, 1),
  (⟨"TablesAndTipsModel", "wrong", "(I)Z"⟩, prog_8_method_31_code, 2, (Option.some Jvm.ClassFile.FieldType.boolean), false, 1, 2),
  (⟨"TablesAndTipsModel", "word", "()I"⟩, prog_8_method_32_code, 6, (Option.some Jvm.ClassFile.FieldType.int), false, 0, 1),
  (⟨"TablesAndTipsModel", "isDigit", "()Z"⟩, prog_8_method_33_code, 1, (Option.some Jvm.ClassFile.FieldType.boolean), false, 0, 2),
  (⟨"TablesAndTipsModel", "number", "(II)Z"⟩, prog_8_method_34_code, 5, (Option.some Jvm.ClassFile.FieldType.boolean), false, 2, 2),
  (⟨"TablesAndTipsModel", "top", "(II)I"⟩, prog_8_method_35_code, 3, (Option.some Jvm.ClassFile.FieldType.int), false, 2, 1),
  (⟨"TablesAndTipsModel", "isFull", "(I)Z"⟩, prog_8_method_36_code, 2, (Option.some Jvm.ClassFile.FieldType.boolean), false, 1, 2),
  (⟨"TablesAndTipsModel", "isWordAt", "(I)Z"⟩, prog_8_method_37_code, 4, (Option.some Jvm.ClassFile.FieldType.boolean), false, 1, 2),
  (⟨"TablesAndTipsModel", "item", "()Z"⟩, prog_8_method_38_code, 5, (Option.some Jvm.ClassFile.FieldType.boolean), false, 0, 2),
  (⟨"TablesAndTipsModel", "keeps", "([II[IIZ)I"⟩, prog_8_method_39_code, 7, (Option.some Jvm.ClassFile.FieldType.int), false, 5, 1),
  (⟨"TablesAndTipsModel", "carries", "([IZ)V"⟩, prog_8_method_40_code, 4, (Option.none : Option Jvm.ClassFile.FieldType), false, 2, 0),
  (⟨"TablesAndTipsModel", "house", "(I)I"⟩, prog_8_method_41_code, 5, (Option.some Jvm.ClassFile.FieldType.int), false, 1, 1),
  (⟨"TablesAndTipsModel", "fault", "()I"⟩, prog_8_method_42_code, 1, (Option.some Jvm.ClassFile.FieldType.int), false, 0, 1),
  (⟨"TablesAndTipsModel", "service", "(I)I"⟩, prog_8_method_43_code, 2, (Option.some Jvm.ClassFile.FieldType.int), false, 1, 1),
  (⟨"TablesAndTipsModel", "lacks", "(I)I"⟩, prog_8_method_44_code, 3, (Option.some Jvm.ClassFile.FieldType.int), false, 1, 1),
  (⟨"TablesAndTipsModel", "custom", "(I)I"⟩, prog_8_method_45_code, 2, (Option.some Jvm.ClassFile.FieldType.int), false, 1, 1),
  (⟨"TablesAndTipsModel", "middle", "()I"⟩, prog_8_method_46_code, 6, (Option.some Jvm.ClassFile.FieldType.int), false, 0, 1),
  (⟨"TablesAndTipsModel", "wouldOf", "(I)I"⟩, prog_8_method_47_code, 4, (Option.some Jvm.ClassFile.FieldType.int), false, 1, 1),
  (⟨"TablesAndTipsModel", "givesOf", "(I)I"⟩, prog_8_method_48_code, 4, (Option.some Jvm.ClassFile.FieldType.int), false, 1, 1),
  (⟨"TablesAndTipsModel", "would", "(I)I"⟩, prog_8_method_49_code, 2, (Option.some Jvm.ClassFile.FieldType.int), false, 1, 1),
  (⟨"TablesAndTipsModel", "gives", "(I)I"⟩, prog_8_method_50_code, 2, (Option.some Jvm.ClassFile.FieldType.int), false, 1, 1),
  (⟨"TablesAndTipsModel", "allGiven", "()I"⟩, prog_8_method_51_code, 3, (Option.some Jvm.ClassFile.FieldType.int), false, 0, 1),
  (⟨"TablesAndTipsModel", "all", "()I"⟩, prog_8_method_52_code, 1, (Option.some Jvm.ClassFile.FieldType.int), false, 0, 1),
  (⟨"TablesAndTipsModel", "ownOf", "(I)I"⟩, prog_8_method_53_code, 4, (Option.some Jvm.ClassFile.FieldType.int), false, 1, 1),
  (⟨"TablesAndTipsModel", "shareOf", "(I)I"⟩, prog_8_method_54_code, 4, (Option.some Jvm.ClassFile.FieldType.int), false, 1, 1),
  (⟨"TablesAndTipsModel", "share", "(II)I"⟩, prog_8_method_55_code, 3, (Option.some Jvm.ClassFile.FieldType.int), false, 2, 1),
  (⟨"TablesAndTipsModel", "gainOf", "(I)I"⟩, prog_8_method_56_code, 2, (Option.some Jvm.ClassFile.FieldType.int), false, 1, 1),
  (⟨"TablesAndTipsModel", "gainIf", "(II)I"⟩, prog_8_method_57_code, 5, (Option.some Jvm.ClassFile.FieldType.int), false, 2, 1),
  (⟨"TablesAndTipsModel", "gain", "(II)I"⟩, prog_8_method_58_code, 3, (Option.some Jvm.ClassFile.FieldType.int), false, 2, 1),
  (⟨"TablesAndTipsModel", "replyOf", "(I)I"⟩, prog_8_method_59_code, 6, (Option.some Jvm.ClassFile.FieldType.int), false, 1, 1),
  (⟨"TablesAndTipsModel", "reply", "(I)I"⟩, prog_8_method_60_code, 2, (Option.some Jvm.ClassFile.FieldType.int), false, 1, 1),
  (⟨"TablesAndTipsModel", "keepsEfforts", "(Z)V"⟩, prog_8_method_61_code, 3, (Option.none : Option Jvm.ClassFile.FieldType), false, 1, 0),
  (⟨"TablesAndTipsModel", "rest", "(I)I"⟩, prog_8_method_62_code, 6, (Option.some Jvm.ClassFile.FieldType.int), false, 1, 1),
  (⟨"TablesAndTipsModel", "efforts", "()I"⟩, prog_8_method_63_code, 3, (Option.some Jvm.ClassFile.FieldType.int), false, 0, 1),
  (⟨"TablesAndTipsModel", "tells", "(I)V"⟩, prog_8_method_64_code, 4, (Option.none : Option Jvm.ClassFile.FieldType), false, 1, 0),
  (⟨"TablesAndTipsModel", "isRest", "()Z"⟩, prog_8_method_65_code, 4, (Option.some Jvm.ClassFile.FieldType.boolean), false, 0, 2),
  (⟨"TablesAndTipsModel", "rests", "(I)I"⟩, prog_8_method_66_code, 5, (Option.some Jvm.ClassFile.FieldType.int), false, 1, 1),
  (⟨"TablesAndTipsModel", "best", "(I)I"⟩, prog_8_method_67_code, 6, (Option.some Jvm.ClassFile.FieldType.int), false, 1, 1),
  (⟨"TablesAndTipsModel", "isContent", "()Z"⟩, prog_8_method_68_code, 2, (Option.some Jvm.ClassFile.FieldType.boolean), false, 0, 2),
  (⟨"TablesAndTipsModel", "points", "(I)I"⟩, prog_8_method_69_code, 8, (Option.some Jvm.ClassFile.FieldType.int), false, 1, 1),
  (⟨"TablesAndTipsModel", "leavers", "()I"⟩, prog_8_method_70_code, 3, (Option.some Jvm.ClassFile.FieldType.int), false, 0, 1),
  (⟨"TablesAndTipsModel", "spread", "()I"⟩, prog_8_method_71_code, 5, (Option.some Jvm.ClassFile.FieldType.int), false, 0, 1),
  (⟨"TablesAndTipsModel", "tries", "(IIZ)V"⟩, prog_8_method_72_code, 7, (Option.none : Option Jvm.ClassFile.FieldType), false, 3, 0),
  (⟨"TablesAndTipsModel", "toldOf", "(IIZ)I"⟩, prog_8_method_73_code, 5, (Option.some Jvm.ClassFile.FieldType.int), false, 3, 1),
  (⟨"TablesAndTipsModel", "most", "(II)I"⟩, prog_8_method_74_code, 3, (Option.some Jvm.ClassFile.FieldType.int), false, 2, 1),
  (⟨"TablesAndTipsModel", "even", "(II)I"⟩, prog_8_method_75_code, 3, (Option.some Jvm.ClassFile.FieldType.int), false, 2, 1),
  (⟨"TablesAndTipsModel", "turnsOf", "(II)I"⟩, prog_8_method_76_code, 6, (Option.some Jvm.ClassFile.FieldType.int), false, 2, 1),
  (⟨"TablesAndTipsModel", "turns", "(II)I"⟩, prog_8_method_77_code, 3, (Option.some Jvm.ClassFile.FieldType.int), false, 2, 1),
  (⟨"TablesAndTipsModel", "luck", "(I)I"⟩, prog_8_method_78_code, 2, (Option.some Jvm.ClassFile.FieldType.int), false, 1, 1),
  (⟨"TablesAndTipsModel", "worth", "(I)I"⟩, prog_8_method_79_code, 4, (Option.some Jvm.ClassFile.FieldType.int), false, 1, 1),
  (⟨"TablesAndTipsModel", "raise", "()I"⟩, prog_8_method_80_code, 4, (Option.some Jvm.ClassFile.FieldType.int), false, 0, 1),
  (⟨"TablesAndTipsModel", "rowOf", "(II)I"⟩, prog_8_method_81_code, 5, (Option.some Jvm.ClassFile.FieldType.int), false, 2, 1),
  (⟨"TablesAndTipsModel", "judge", "(I)I"⟩, prog_8_method_82_code, 3, (Option.some Jvm.ClassFile.FieldType.int), false, 1, 1),
  (⟨"TablesAndTipsModel", "told", "(II)I"⟩, prog_8_method_83_code, 4, (Option.some Jvm.ClassFile.FieldType.int), false, 2, 1),
  (⟨"TablesAndTipsModel", "evening", "()I"⟩, prog_8_method_84_code, 2, (Option.some Jvm.ClassFile.FieldType.int), false, 0, 1),
  (⟨"TablesAndTipsModel", "draw", "(I)I"⟩, prog_8_method_85_code, 2, (Option.some Jvm.ClassFile.FieldType.int), false, 1, 1),
  (⟨"TablesAndTipsModel", "allBills", "()I"⟩, prog_8_method_86_code, 3, (Option.some Jvm.ClassFile.FieldType.int), false, 0, 1),
  (⟨"TablesAndTipsModel", "guests", "()I"⟩, prog_8_method_87_code, 2, (Option.some Jvm.ClassFile.FieldType.int), false, 0, 1),
  (⟨"TablesAndTipsModel", "seed", "(I)I"⟩, prog_8_method_88_code, 3, (Option.some Jvm.ClassFile.FieldType.int), false, 1, 1),
  (⟨"TablesAndTipsModel", "body", "(I)V"⟩, prog_8_method_89_code, 2, (Option.none : Option Jvm.ClassFile.FieldType), false, 1, 0),
  (⟨"TablesAndTipsModel", "serving", "(II)I"⟩, prog_8_method_90_code, 6, (Option.some Jvm.ClassFile.FieldType.int), false, 2, 1),
  (⟨"TablesAndTipsModel", "giving", "(II)I"⟩, prog_8_method_91_code, 6, (Option.some Jvm.ClassFile.FieldType.int), false, 2, 1),
  (⟨"TablesAndTipsModel", "staying", "(II)I"⟩, prog_8_method_92_code, 5, (Option.some Jvm.ClassFile.FieldType.int), false, 2, 1),
  (⟨"TablesAndTipsModel", "act", "(III)I"⟩, prog_8_method_93_code, 4, (Option.some Jvm.ClassFile.FieldType.int), false, 3, 1),
  (⟨"TablesAndTipsModel", "trace", "(I)I"⟩, prog_8_method_94_code, 2, (Option.some Jvm.ClassFile.FieldType.int), false, 1, 1),
  (⟨"TablesAndTipsModel", "image", "()I"⟩, prog_8_method_95_code, 1, (Option.some Jvm.ClassFile.FieldType.int), false, 0, 1),
  (⟨"TablesAndTipsModel", "restore", "()I"⟩, prog_8_method_96_code, 2, (Option.some Jvm.ClassFile.FieldType.int), false, 0, 1),
  (⟨"TablesAndTipsModel", "status", "(I)I"⟩, prog_8_method_97_code, 2, (Option.some Jvm.ClassFile.FieldType.int), false, 1, 1)]
def zmt7 : List (MethodName × ByteArray × Nat × Option FieldType × Bool × Nat × Nat) := [(⟨"TablesAndTipsLaw", "law", "([I)Z"⟩, code, 4, some .boolean, true, 1, 2)]
def zmd : MethodName × ByteArray × Nat × Option FieldType × Bool × Nat × Nat := (⟨"", "", ""⟩, ⟨#[]⟩, 0, none, false, 0, 9)
def zm (M : Nat) : MethodName × ByteArray × Nat × Option FieldType × Bool × Nat × Nat := (match M / 1000 with
  | 0 => zmt0
  | 1 => zmt1
  | 2 => zmt2
  | 3 => zmt3
  | 4 => zmt4
  | 5 => zmt5
  | 6 => zmt6
  | 7 => zmt7
  | _ => []).getD (M % 1000) zmd
def zy (M : Nat) : MethodName := (zm M).1
def zcode (M : Nat) : ByteArray := (zm M).2.1
def zmaxl (M : Nat) : Nat := (zm M).2.2.1
def zret (M : Nat) : Option FieldType := (zm M).2.2.2.1
def zstat (M : Nat) : Bool := (zm M).2.2.2.2.1
def znarg (M : Nat) : Nat := (zm M).2.2.2.2.2.1
def zrt (M : Nat) : Nat := (zm M).2.2.2.2.2.2
def zflL : List (Nat × Nat × Nat × Nat × Nat) := [(1, 9, 1, 0, 27), (1, 15, 1, 1, 28), (1, 18, 1, 2, 29), (1, 21, 1, 3, 30), (1, 25, 1, 4, 31), (1, 28, 1, 5, 32), (1, 31, 1, 6, 33), (1, 34, 1, 7, 34), (1, 37, 1, 8, 35), (0, 9, 0, 0, 62), (0, 15, 0, 1, 63), (0, 19, 0, 2, 64), (0, 22, 0, 3, 65), (0, 25, 0, 4, 66), (2, 12, 2, 0, 86), (2, 18, 2, 1, 87), (2, 22, 2, 2, 88), (2, 26, 2, 3, 89), (2, 29, 2, 4, 90), (2, 32, 2, 5, 91), (2, 35, 2, 6, 92), (2, 38, 2, 7, 93), (2, 41, 2, 8, 94), (2, 44, 2, 9, 95), (2, 48, 2, 10, 96), (3, 12, 3, 0, 128), (3, 18, 3, 1, 129), (3, 22, 3, 2, 130), (3, 26, 3, 3, 131), (4, 9, 4, 0, 148), (4, 15, 4, 1, 149), (4, 19, 4, 2, 150), (5, 10, 5, 0, 159), (5, 16, 5, 1, 160), (5, 22, 5, 2, 161), (5, 29, 5, 3, 162), (5, 36, 5, 4, 163), (5, 42, 5, 5, 164), (5, 46, 5, 6, 165), (5, 50, 5, 7, 166), (6, 106, 6, 0, 1008), (6, 109, 6, 1, 1009), (6, 166, 6, 2, 1010), (6, 169, 6, 3, 1011), (6, 219, 6, 4, 1012), (6, 222, 6, 5, 1013), (6, 7, 6, 6, 1014), (6, 13, 6, 7, 1015), (6, 16, 6, 8, 1016), (6, 20, 6, 9, 1017), (6, 23, 6, 10, 1018), (6, 26, 6, 11, 1019), (6, 29, 6, 12, 1020), (6, 32, 6, 13, 1021), (6, 35, 6, 14, 1022), (6, 38, 6, 15, 1023), (6, 41, 6, 16, 1024), (6, 44, 6, 17, 1025), (6, 47, 6, 18, 1026), (6, 50, 6, 19, 1027), (6, 53, 6, 20, 1028), (6, 56, 6, 21, 1029), (6, 59, 6, 22, 1030), (6, 62, 6, 23, 1031), (6, 65, 6, 24, 1032), (6, 68, 6, 25, 1033), (6, 72, 6, 26, 1034), (6, 75, 6, 27, 1035), (6, 78, 6, 28, 1036), (6, 187, 6, 29, 1037), (6, 181, 6, 30, 1038), (6, 184, 6, 31, 1039), (6, 190, 6, 32, 1040), (6, 178, 6, 33, 1041), (6, 81, 6, 34, 1042), (6, 84, 6, 35, 1043), (6, 87, 6, 36, 1044), (6, 90, 6, 37, 1045), (6, 93, 6, 38, 1046), (6, 96, 6, 39, 1047), (6, 279, 6, 40, 1048), (6, 283, 6, 41, 1049), (6, 297, 6, 42, 1050), (6, 300, 6, 43, 1051), (6, 99, 6, 44, 1052), (6, 102, 6, 45, 1053), (6, 313, 6, 46, 1054), (6, 327, 6, 47, 1055)]
def zfl (o i : Nat) : Option (Nat × Nat) := (zflL.find? (fun q => q.1 == o && q.2.1 == i)).map (fun q => (q.2.2.1, q.2.2.2.1))
def zslL : List (Nat × Nat × Nat × Nat × Nat) := [(5, 328, 1000, 0, 293), (3, 69, 1006, 0, 564), (1, 44, 1003, 1, 368), (1, 51, 1004, 1, 370), (1, 61, 1001, 1, 396), (1, 64, 1002, 1, 398), (1, 54, 1005, 1, 444), (2, 184, 1005, 1, 878)]
def zsl (o i : Nat) : Option Nat := (zslL.find? (fun q => q.1 == o && q.2.1 == i)).map (fun q => q.2.2.1)
def zmlL : List (Nat × Nat × Nat × Nat × Nat) := [(7, 13, 5001, 0, 184), (5, 55, 5048, 0, 188), (5, 59, 5045, 0, 192), (5, 309, 5054, 0, 196), (5, 313, 5055, 0, 199), (5, 63, 4007, 0, 202), (7, 20, 5002, 0, 206), (5, 67, 5049, 0, 210), (5, 79, 4003, 0, 213), (5, 87, 4002, 0, 217), (5, 71, 4008, 0, 221), (5, 75, 4011, 0, 225), (4, 30, 4012, 0, 229), (7, 25, 5003, 0, 233), (5, 83, 4004, 0, 237), (4, 22, 4002, 0, 241), (5, 90, 4013, 0, 242), (4, 26, 4009, 0, 246), (4, 34, 4011, 0, 250), (7, 30, 5004, 0, 251), (5, 94, 4009, 0, 255), (7, 35, 5005, 0, 256), (5, 98, 1008, 0, 260), (5, 102, 4005, 0, 264), (5, 105, 4006, 0, 268), (7, 40, 5006, 0, 272), (5, 109, 4001, 0, 276), (7, 45, 5007, 0, 280), (5, 113, 1017, 0, 284), (1, 93, 1008, 0, 288), (5, 117, 5053, 0, 290), (5, 120, 1034, 0, 295), (1, 142, 1028, 0, 299), (1, 103, 1017, 0, 303), (1, 110, 1027, 0, 304), (1, 107, 1021, 0, 308), (1, 57, 1009, 0, 312), (1, 145, 1033, 0, 316), (1, 135, 1023, 0, 320), (1, 138, 1031, 0, 327), (1, 125, 1032, 0, 331), (1, 128, 1030, 0, 334), (1, 119, 9002, 0, 338), (1, 114, 9001, 0, 341), (1, 132, 1029, 0, 344), (5, 123, 1037, 0, 349), (1, 148, 1035, 0, 353), (7, 49, 5008, 0, 357), (5, 126, 1015, 0, 361), (1, 67, 1010, 0, 365), (1, 71, 1014, 0, 372), (1, 75, 1022, 0, 376), (5, 130, 5047, 0, 380), (7, 53, 5009, 0, 384), (5, 133, 1016, 0, 388), (1, 79, 1012, 0, 392), (1, 82, 1013, 0, 400), (1, 85, 1019, 0, 404), (1, 100, 1018, 0, 408), (1, 89, 1020, 0, 412), (7, 57, 5010, 0, 416), (5, 137, 4010, 0, 420), (7, 61, 5011, 0, 424), (5, 140, 1009, 0, 428), (5, 143, 1020, 0, 429), (7, 65, 5012, 0, 430), (5, 146, 1010, 0, 434), (5, 149, 1021, 0, 435), (5, 152, 1022, 0, 436), (7, 69, 5013, 0, 437), (5, 156, 1011, 0, 441), (5, 159, 1023, 0, 446), (5, 162, 1024, 0, 447), (7, 73, 5014, 0, 451), (5, 165, 1028, 0, 455), (7, 77, 5015, 0, 456), (5, 168, 1025, 0, 460), (7, 81, 5016, 0, 464), (5, 171, 3003, 0, 468), (3, 29, 1001, 0, 472), (3, 33, 3005, 0, 479), (3, 47, 4010, 0, 483), (3, 51, 3006, 0, 484), (3, 58, 3007, 0, 487), (3, 84, 3008, 0, 495), (3, 97, 9003, 0, 498), (3, 103, 9004, 0, 508), (3, 54, 3004, 0, 546), (3, 62, 3009, 0, 550), (3, 43, 3010, 0, 554), (3, 66, 3013, 0, 558), (3, 118, 1014, 0, 562), (3, 122, 1013, 0, 563), (3, 76, 3011, 0, 567), (3, 107, 3012, 0, 571), (3, 110, 3014, 0, 574), (3, 125, 3015, 0, 578), (3, 128, 1010, 0, 581), (3, 131, 1012, 0, 582), (3, 134, 3016, 0, 583), (3, 138, 1011, 0, 586), (3, 80, 3018, 0, 588), (3, 141, 3017, 0, 592), (3, 144, 1015, 0, 596), (3, 148, 1016, 0, 597), (3, 152, 1024, 0, 598), (3, 37, 4008, 0, 599), (5, 175, 3001, 0, 600), (5, 179, 1001, 0, 604), (7, 85, 5017, 0, 606), (5, 183, 3002, 0, 610), (7, 90, 5018, 0, 614), (5, 186, 1036, 0, 618), (7, 94, 5019, 0, 622), (5, 189, 1035, 0, 626), (7, 98, 5020, 0, 627), (5, 192, 1038, 0, 631), (7, 102, 5021, 0, 635), (5, 195, 1039, 0, 639), (5, 198, 1042, 0, 643), (1, 154, 1040, 0, 647), (1, 151, 1038, 0, 651), (1, 157, 1041, 0, 652), (1, 160, 1039, 0, 656), (7, 106, 5022, 0, 657), (5, 201, 5046, 0, 661), (5, 204, 2001, 0, 666), (2, 51, 1001, 0, 670), (2, 55, 1022, 0, 671), (2, 59, 1034, 0, 672), (2, 62, 1043, 0, 673), (1, 163, 1042, 0, 677), (1, 166, 1025, 0, 678), (7, 110, 5023, 0, 679), (5, 208, 2003, 0, 683), (2, 66, 1003, 0, 687), (2, 75, 1021, 0, 691), (2, 79, 2004, 0, 692), (2, 82, 2005, 0, 699), (5, 331, 5058, 0, 706), (5, 211, 2009, 0, 708), (2, 107, 2008, 0, 712), (2, 100, 2006, 0, 716), (2, 104, 2007, 0, 720), (7, 114, 5024, 0, 725), (5, 214, 2010, 0, 729), (5, 217, 2015, 0, 733), (7, 118, 5025, 0, 737), (5, 220, 2011, 0, 741), (2, 110, 2012, 0, 745), (7, 122, 5026, 0, 749), (5, 223, 2013, 0, 753), (2, 114, 2014, 0, 757), (7, 126, 5027, 0, 761), (5, 226, 2016, 0, 765), (2, 117, 1024, 0, 769), (2, 121, 2017, 0, 770), (2, 124, 1044, 0, 774), (5, 230, 2017, 0, 778), (7, 130, 5028, 0, 779), (5, 233, 1044, 0, 783), (7, 134, 5029, 0, 784), (5, 236, 5052, 0, 788), (5, 318, 2018, 0, 792), (2, 127, 2019, 0, 796), (2, 134, 1002, 0, 800), (2, 137, 1027, 0, 804), (2, 140, 1033, 0, 805), (2, 143, 9001, 0, 806), (2, 130, 2020, 0, 807), (2, 148, 2022, 0, 811), (2, 159, 2024, 0, 815), (2, 162, 2025, 0, 819), (2, 169, 9002, 0, 823), (2, 156, 2023, 0, 824), (2, 152, 2021, 0, 829), (5, 322, 2026, 0, 833), (5, 325, 2027, 0, 837), (7, 138, 5030, 0, 841), (7, 142, 5031, 0, 845), (5, 240, 2028, 0, 849), (2, 172, 1017, 0, 853), (2, 175, 1020, 0, 854), (2, 178, 1039, 0, 855), (7, 146, 5032, 0, 856), (5, 243, 1003, 0, 860), (7, 150, 5033, 0, 861), (5, 246, 2029, 0, 865), (2, 181, 1038, 0, 869), (7, 154, 5034, 0, 870), (5, 250, 2030, 0, 874), (7, 158, 5035, 0, 879), (5, 254, 5050, 0, 883), (5, 257, 5051, 0, 887), (7, 162, 5036, 0, 891), (5, 260, 2002, 0, 895), (2, 70, 4010, 0, 899), (7, 166, 5037, 0, 900), (5, 264, 1045, 0, 904), (5, 267, 1005, 0, 908), (7, 170, 5038, 0, 912), (5, 270, 1047, 0, 916), (1, 170, 1046, 0, 920), (5, 273, 1026, 0, 925), (7, 174, 5039, 0, 929), (5, 276, 1007, 0, 933), (7, 178, 5040, 0, 937), (5, 279, 1, 0, 941), (5, 282, 2, 0, 945), (5, 285, 6, 0, 949), (0, 36, 5, 0, 954), (5, 288, 7, 0, 959), (0, 40, 6, 0, 963), (5, 291, 8, 0, 964), (0, 44, 7, 0, 968), (7, 182, 5041, 0, 969), (5, 294, 4, 0, 973), (7, 186, 5042, 0, 977), (5, 297, 1002, 0, 981), (7, 190, 5043, 0, 982), (7, 194, 5044, 0, 986), (5, 300, 1004, 0, 990), (5, 303, 1006, 0, 994), (5, 306, 3, 0, 998), (7, 17, 6007, 0, 1153), (6, 112, 6004, 0, 1157), (6, 116, 6001, 0, 1161), (7, 24, 6008, 0, 1165), (7, 29, 6009, 0, 1169), (7, 34, 6010, 0, 1173), (7, 39, 6011, 0, 1177), (6, 120, 6005, 0, 1181), (7, 44, 6012, 0, 1185), (7, 48, 6014, 0, 1189), (6, 123, 6013, 0, 1193), (6, 127, 6044, 0, 1197), (6, 130, 6045, 0, 1201), (6, 134, 6047, 0, 1205), (6, 232, 6046, 0, 1209), (6, 172, 6042, 0, 1213), (6, 137, 6043, 0, 1217), (7, 52, 6018, 0, 1221), (6, 140, 6017, 0, 1225), (7, 56, 6021, 0, 1229), (6, 144, 6006, 0, 1233), (6, 147, 6019, 0, 1237), (6, 151, 6020, 0, 1241), (7, 60, 6022, 0, 1245), (6, 155, 6015, 0, 1249), (6, 158, 6016, 0, 1253), (7, 64, 6023, 0, 1257), (7, 68, 6025, 0, 1261), (6, 162, 6024, 0, 1265), (7, 72, 6026, 0, 1269), (7, 76, 6027, 0, 1273), (7, 80, 6029, 0, 1277), (6, 175, 6028, 0, 1281), (7, 84, 6040, 0, 1285), (6, 225, 6039, 0, 1289), (6, 215, 6038, 0, 1293), (6, 229, 6037, 0, 1297), (6, 200, 6036, 0, 1301), (6, 203, 6035, 0, 1305), (6, 197, 6030, 0, 1309), (6, 206, 6031, 0, 1313), (6, 209, 6034, 0, 1317), (6, 212, 6033, 0, 1321), (6, 193, 6032, 0, 1325), (7, 89, 6041, 0, 1329), (7, 93, 6048, 0, 1333), (7, 97, 6049, 0, 1337), (7, 101, 6051, 0, 1341), (6, 235, 6050, 0, 1345), (7, 105, 6054, 0, 1349), (6, 238, 6052, 0, 1353), (6, 241, 6053, 0, 1357), (7, 109, 6057, 0, 1361), (6, 247, 6003, 0, 1365), (6, 244, 6055, 0, 1370), (6, 250, 6056, 0, 1374), (7, 113, 6059, 0, 1378), (6, 253, 6058, 0, 1382), (7, 117, 6061, 0, 1386), (6, 256, 6002, 0, 1390), (6, 259, 6060, 0, 1394), (7, 121, 6065, 0, 1398), (6, 263, 6062, 0, 1402), (6, 266, 6063, 0, 1406), (6, 270, 6064, 0, 1410), (7, 125, 6066, 0, 1414), (7, 129, 6068, 0, 1418), (6, 273, 6067, 0, 1422), (7, 133, 6069, 0, 1426), (7, 137, 6073, 0, 1430), (6, 290, 6072, 0, 1434), (6, 286, 6071, 0, 1438), (6, 276, 6070, 0, 1442), (7, 141, 6074, 0, 1446), (7, 145, 6076, 0, 1450), (6, 294, 6075, 0, 1454), (7, 149, 6077, 0, 1458), (7, 153, 6078, 0, 1462), (7, 157, 6079, 0, 1466), (7, 161, 6081, 0, 1470), (6, 303, 6080, 0, 1474), (7, 165, 6082, 0, 1478), (7, 169, 6083, 0, 1482), (7, 173, 6086, 0, 1486), (6, 307, 6084, 0, 1490), (6, 310, 6085, 0, 1495), (7, 177, 6087, 0, 1499), (7, 181, 6092, 0, 1503), (6, 319, 6089, 0, 1507), (6, 316, 6088, 0, 1511), (6, 321, 6090, 0, 1515), (6, 324, 6091, 0, 1519), (7, 185, 6093, 0, 1523), (7, 189, 6094, 0, 1527), (7, 193, 6095, 0, 1531), (7, 197, 6096, 0, 1535), (1, 47, 5054, 1, 289), (1, 122, 5057, 1, 324), (1, 96, 5055, 1, 348), (1, 40, 5056, 1, 476), (3, 72, 5054, 1, 566), (3, 114, 5055, 1, 587), (2, 89, 5058, 1, 696), (2, 92, 5059, 1, 703), (2, 85, 5055, 1, 707), (2, 96, 5054, 1, 724), (2, 165, 5056, 1, 828), (0, 32, 5053, 1, 953), (0, 28, 5055, 1, 958)]
def zml (o i : Nat) : Option Nat := (zmlL.find? (fun q => q.1 == o && q.2.1 == i)).map (fun q => q.2.2.1)
def zcsL : List (Nat × Nat × Value) := [(5, 317, .int (-1000000)), (1, 169, .int (1103515245)), (6, 105, .int (1000000)), (6, 306, .int (1103515245)), (3, 88, .ref 2000), (3, 90, .ref 2001), (3, 92, .ref 2002), (3, 94, .ref 2003), (3, 96, .ref 2004)]
def zcs (o i : Nat) : Option Value := (zcsL.find? (fun q => q.1 == o && q.2.1 == i)).map (fun q => q.2.2)
def zc2L : List (Nat × Nat × Int64) := [(7, 18, 4294967295)]
def zc2 (o i : Nat) : Option Int64 := (zc2L.find? (fun q => q.1 == o && q.2.1 == i)).map (fun q => q.2.2)
def zshL : List (Nat × Nat) := [(5, 8), (1, 9), (10, 40), (10, 24), (10, 5), (10, 8), (1, 9), (10, 40), (10, 24), (10, 5), (10, 8), (0, 5), (10, 20), (2, 11), (1, 9), (10, 40), (10, 24), (10, 5), (10, 8), (10, 1024), (10, 4), (10, 4), (10, 9), (10, 8), (10, 8), (3, 4), (1, 9), (10, 40), (10, 24), (10, 5), (10, 8), (10, 5), (12, 8), (10, 8), (4, 3), (11, 160), (4, 3), (11, 160), (4, 3), (11, 160), (4, 3), (11, 160), (4, 3), (11, 160), (4, 3), (11, 160), (4, 3), (11, 160), (4, 3), (11, 160), (6, 48), (10, 8), (10, 8), (10, 8), (10, 8), (10, 8), (10, 8), (10, 4), (10, 4), (10, 4), (10, 4), (10, 4), (10, 4), (10, 3), (10, 8), (10, 8), (10, 8), (10, 8), (11, 1280), (11, 160), (10, 40), (10, 5), (10, 100), (10, 100), (10, 4), (10, 4), (10, 8), (10, 8), (10, 4), (10, 20)]
def zstL : List (List Int32) := [[-1, 0, 1, 1, 0, 1, 3], [0, 1, 1, 0], [6, 999, 9, 99], [0, 0, 0, 1, 0], [6, 3, 99, 9, 999], [3, 30, 99, 99, 99], [3, 5, 1, 1, 3]]
def zsrL : List (List Int32) := [[119, 97, 105, 116, 101, 114], [116, 97, 98, 108, 101], [115, 104, 97, 114, 105, 110, 103], [97, 100, 100, 101, 100], [110, 117, 109, 98, 101, 114, 115]]
def zsh (a : Nat) : Nat × Nat := if a < 80 then zshL.getD a (99, 0) else if a = 999 then (21, 0) else if 1000 ≤ a ∧ a < 1007 then (20, (zstL.getD (a - 1000) []).length) else if 2000 ≤ a ∧ a < 2005 then (22, (zsrL.getD (a - 2000) []).length) else (99, 0)
def zTag (a : Nat) : Nat := (zsh a).1
def zLen (a : Nat) : Nat := (zsh a).2
def zrfL : List (List Nat) := [[1, 6, 11, 13, 25, 32, 33, 0], [2, 3, 4, 0, 0, 0, 0, 0, 5], [], [], [], [], [7, 8, 9, 0, 0, 0, 0, 0, 10], [], [], [], [], [12, 0, 0, 0, 0], [], [14, 19, 0, 0, 20, 21, 22, 23, 24, 0, 0], [15, 16, 17, 0, 0, 0, 0, 0, 18], [], [], [], [], [], [], [], [], [], [], [26, 31, 0, 0], [27, 28, 29, 0, 0, 0, 0, 0, 30], [], [], [], [], [], [34, 36, 38, 40, 42, 44, 46, 48], [], [35, 0, 0], [], [37, 0, 0], [], [39, 0, 0], [], [41, 0, 0], [], [43, 0, 0], [], [45, 0, 0], [], [47, 0, 0], [], [49, 0, 0], [], [0, 0, 0, 0, 0, 0, 0, 0, 51, 52, 53, 54, 55, 56, 57, 58, 59, 60, 61, 62, 63, 64, 65, 66, 67, 68, 69, 70, 71, 0, 0, 0, 0, 0, 72, 73, 74, 75, 76, 77, 0, 0, 0, 0, 78, 79, 0, 0], [], [], [], [], [], [], [], [], [], [], [], [], [], [], [], [], [], [], [], [], [], [], [], [], [], [], [], [], []]
def zref (a k : Nat) : Nat := (zrfL.getD a []).getD k 0
def zfkL : List (List Nat) := [[2, 0, 0, 0, 0], [2, 2, 2, 0, 0, 0, 0, 0, 2], [2, 2, 0, 0, 2, 2, 2, 2, 2, 1, 0], [2, 2, 0, 0], [2, 0, 0], [2, 2, 2, 2, 2, 2, 2, 1], [0, 0, 0, 0, 0, 0, 0, 0, 2, 2, 2, 2, 2, 2, 2, 2, 2, 2, 2, 2, 2, 2, 2, 2, 2, 2, 2, 2, 2, 0, 0, 0, 0, 0, 2, 2, 2, 2, 2, 2, 1, 0, 0, 0, 2, 2, 0, 1]]
def zfk (c k : Nat) : Nat := (zfkL.getD c []).getD k 9
abbrev zM : Type := (Nat → Nat → Int32) × (Nat → Nat → Int64)
abbrev zL : Type := List (Option Value)
abbrev zR : Type := (Nat × zL × List Value × zM) ⊕ ((Nat × List Value × List Value) ⊕ Option (Option Value))
def zX : zR := .inr (.inr none)
abbrev zN (pc : Nat) (ls : zL) (st : List Value) (w : zM) : zR := .inl (pc, ls, st, w)
def zui (w : zM) (a k : Nat) (v : Int32) : zM := (fun a' k' => if a' = a ∧ k' = k then v else w.1 a' k', w.2)
def zul (w : zM) (a k : Nat) (v : Int64) : zM := (w.1, fun a' k' => if a' = a ∧ k' = k then v else w.2 a' k')
def ztab (a j : Nat) : Int32 := (zstL.getD (a - 1000) []).getD j 0
def zld (w : zM) (a j : Nat) : Int32 := if zTag a = 20 then ztab a j else w.1 a j
def zgf (w : zM) (a ci k : Nat) : Value := if zfk ci k = 2 then .ref (zref a k) else .int (w.1 a k)
def zisR (v : Value) : Bool := match v with
  | .null => true
  | .ref _ => true
  | _ => false
def zkill (x : Option Value) : Option Value := match x with
  | some (.long _) => none
  | some (.double _) => none
  | y => y
def zlo (ls : zL) (i : Nat) (k : Value → zR) : zR := match ls[i]? with
  | some (some v) => k v
  | _ => zX
def zloI (ls : zL) (i : Nat) (k : Int32 → zR) : zR := match ls[i]? with
  | some (some (.int v)) => k v
  | _ => zX
def zloJ (ls : zL) (i : Nat) (k : Int64 → zR) : zR := match ls[i]? with
  | some (some (.long v)) => k v
  | _ => zX
def zset (ls : zL) (i : Nat) (v : Value) : zL := (match i with
  | 0 => ls
  | j + 1 => ls.set j (zkill (ls.getD j none))).set i (some v)
def zi1 (st : List Value) (k : Int32 → List Value → zR) : zR := match st with
  | .int x :: r => k x r
  | _ => zX
def zi2 (st : List Value) (k : Int32 → Int32 → List Value → zR) : zR := match st with
  | .int y :: .int x :: r => k x y r
  | _ => zX
def zj1 (st : List Value) (k : Int64 → List Value → zR) : zR := match st with
  | .long x :: r => k x r
  | _ => zX
def zj2 (st : List Value) (k : Int64 → Int64 → List Value → zR) : zR := match st with
  | .long y :: .long x :: r => k x y r
  | _ => zX
def zij (st : List Value) (k : Int64 → Int32 → List Value → zR) : zR := match st with
  | .int y :: .long x :: r => k x y r
  | _ => zX
def za1 (st : List Value) (k : Nat → List Value → zR) : zR := match st with
  | .ref a :: r => k a r
  | _ => zX
def zai (st : List Value) (k : Nat → Int32 → List Value → zR) : zR := match st with
  | .int i :: .ref a :: r => k a i r
  | _ => zX
def zia (st : List Value) (k : Nat → Int32 → List Value → zR) : zR := match st with
  | .int x :: .ref a :: r => k a x r
  | _ => zX
def zaii (st : List Value) (k : Nat → Int32 → Int32 → List Value → zR) : zR := match st with
  | .int x :: .int i :: .ref a :: r => k a i x r
  | _ => zX
def zaij (st : List Value) (k : Nat → Int32 → Int64 → List Value → zR) : zR := match st with
  | .long x :: .int i :: .ref a :: r => k a i x r
  | _ => zX
def zjp (pc : Nat) (off : Int) (k : Nat → zR) : zR := if 0 ≤ (pc : Int) + off then k ((pc : Int) + off).toNat else zX
def zcmp (c : Jvm.ClassFile.Cond) (x y : Int32) : Bool := match c with
  | .eq => decide (x = y)
  | .ne => decide (¬ x = y)
  | .lt => decide (x < y)
  | .ge => decide (y ≤ x)
  | .gt => decide (y < x)
  | .le => decide (x ≤ y)
def zswt (x : Int32) (lo : Int) (offs : List Int) (dflt : Int) : Int := match offs with
  | [] => dflt
  | a :: l => if x.toInt = lo then a else zswt x (lo + 1) l dflt
def zswl (x : Int32) (ps : List (Int × Int)) (dflt : Int) : Int := match ps with
  | [] => dflt
  | q :: l => if x.toInt = q.1 then q.2 else zswl x l dflt
def zcl2 (v : Value) : Bool := match v with
  | .long _ => false
  | .double _ => false
  | _ => true
def zinv (M : Nat) (st : List Value) : zR := if zstat M = true then (if znarg M ≤ st.length ∧ ((st.drop (znarg M)).map fun v => v.category).sum ≤ 8 then .inr (.inl (M, (st.take (znarg M)).reverse, st.drop (znarg M))) else zX) else zX
def zinw (M : Nat) (st : List Value) : zR := if zstat M = false then za1 (st.drop (znarg M)) (fun a r => if zTag a = M / 1000 ∧ (r.map fun v => v.category).sum ≤ 8 then .inr (.inl (M, .ref a :: (st.take (znarg M)).reverse, r)) else zX) else zX
def zis (i : Int32) (n : Nat) : Bool := decide (¬ (i < 0 ∨ n ≤ i.toNatClampNeg))
def zisS (w : zM) (i : Int32) : Bool := decide (0 ≤ i.toInt ∧ i.toInt < (w.1 998 0).toInt)
def zstep (M : Nat) (ins : Instr) (pc len : Nat) (ls : zL) (st : List Value) (w : zM) : zR := match ins with
  | .aload_n k => zlo ls k.val fun v => if zisR v = true then zN (pc + 1) ls (v :: st) w else zX
  | .aload k => zlo ls k fun v => if zisR v = true then zN (pc + 2) ls (v :: st) w else zX
  | .iload_n k => zloI ls k.val fun v => zN (pc + 1) ls (.int v :: st) w
  | .iload k => zloI ls k fun v => zN (pc + 2) ls (.int v :: st) w
  | .lload_n k => zloJ ls k.val fun v => zN (pc + 1) ls (.long v :: st) w
  | .iconst n => zN (pc + 1) ls (.int (Int32.ofInt n) :: st) w
  | .bipush n => zN (pc + 2) ls (.int (Int8.ofInt n).toInt32 :: st) w
  | .sipush n => zN (pc + 3) ls (.int (Int16.ofInt n).toInt32 :: st) w
  | .lconst n => zN (pc + 1) ls (.long (Int64.ofNat n.val) :: st) w
  | .aconst_null => zN (pc + 1) ls (.null :: st) w
  | .istore_n k => zi1 st fun x r => if k.val < ls.length then zN (pc + 1) (zset ls k.val (.int x)) r w else zX
  | .istore k => zi1 st fun x r => if k < ls.length then zN (pc + 2) (zset ls k (.int x)) r w else zX
  | .astore_n k => (match st with
    | v :: r => if zisR v = true ∧ k.val < ls.length then zN (pc + 1) (zset ls k.val v) r w else zX
    | _ => zX)
  | .astore k => (match st with
    | v :: r => if zisR v = true ∧ k < ls.length then zN (pc + 2) (zset ls k v) r w else zX
    | _ => zX)
  | .iinc k n => zloI ls k fun v => if k < ls.length then zN (pc + 3) (zset ls k (.int (v + Int32.ofInt n))) st w else zX
  | .iadd => zi2 st fun x y r => zN (pc + 1) ls (.int (x + y) :: r) w
  | .isub => zi2 st fun x y r => zN (pc + 1) ls (.int (x - y) :: r) w
  | .imul => zi2 st fun x y r => zN (pc + 1) ls (.int (x * y) :: r) w
  | .iand => zi2 st fun x y r => zN (pc + 1) ls (.int (x &&& y) :: r) w
  | .ior => zi2 st fun x y r => zN (pc + 1) ls (.int (x ||| y) :: r) w
  | .ixor => zi2 st fun x y r => zN (pc + 1) ls (.int (x ^^^ y) :: r) w
  | .idiv => zi2 st fun x y r => if y = 0 then zX else zN (pc + 1) ls (.int (x / y) :: r) w
  | .irem => zi2 st fun x y r => if y = 0 then zX else zN (pc + 1) ls (.int (x - x / y * y) :: r) w
  | .ishl => zi2 st fun x y r => zN (pc + 1) ls (.int (x <<< (y &&& 31)) :: r) w
  | .iushr => zi2 st fun x y r => zN (pc + 1) ls (.int (x.toUInt32 >>> (y.toUInt32 &&& Int32.toUInt32 31)).toInt32 :: r) w
  | .ineg => zi1 st fun x r => zN (pc + 1) ls (.int (-x) :: r) w
  | .i2b => zi1 st fun x r => zN (pc + 1) ls (.int x.toInt8.toInt32 :: r) w
  | .i2s => zi1 st fun x r => zN (pc + 1) ls (.int x.toInt16.toInt32 :: r) w
  | .i2l => zi1 st fun x r => zN (pc + 1) ls (.long x.toInt64 :: r) w
  | .l2i => zj1 st fun x r => zN (pc + 1) ls (.int x.toInt32 :: r) w
  | .land => zj2 st fun x y r => zN (pc + 1) ls (.long (x &&& y) :: r) w
  | .lor => zj2 st fun x y r => zN (pc + 1) ls (.long (x ||| y) :: r) w
  | .lshl => zij st fun x y r => zN (pc + 1) ls (.long (x <<< (y.toInt64 &&& 63)) :: r) w
  | .lcmp => zj2 st fun x y r => zN (pc + 1) ls (.int (lg_cmp x y) :: r) w
  | .dup => (match st with
    | v :: r => if zcl2 v = true then zN (pc + 1) ls (v :: v :: r) w else zX
    | _ => zX)
  | .pop => (match st with
    | v :: r => if zcl2 v = true then zN (pc + 1) ls r w else zX
    | _ => zX)
  | .dup_x1 => (match st with
    | v :: u :: r => if zcl2 v = true ∧ zcl2 u = true then zN (pc + 1) ls (v :: u :: v :: r) w else zX
    | _ => zX)
  | .dup2 => (match st with
    | v :: u :: r => if zcl2 v = true ∧ zcl2 u = true then zN (pc + 1) ls (v :: u :: v :: u :: r) w else zX
    | _ => zX)
  | .goto off => zjp pc off fun t => zN t ls st w
  | .ifCond c off => zi1 st fun x r => zjp pc off fun t => if zcmp c x 0 = true then zN t ls r w else zN (pc + 3) ls r w
  | .if_icmp c off => zi2 st fun x y r => zjp pc off fun t => if zcmp c x y = true then zN t ls r w else zN (pc + 3) ls r w
  | .ifnull off => (match st with
    | .null :: r => zjp pc off fun t => zN t ls r w
    | .ref _ :: r => zN (pc + 3) ls r w
    | _ => zX)
  | .ifnonnull off => (match st with
    | .null :: r => zN (pc + 3) ls r w
    | .ref _ :: r => zjp pc off fun t => zN t ls r w
    | _ => zX)
  | .tableswitch dflt lo hi offs => zi1 st fun x r => if hi + 1 = lo + offs.size then zjp pc (zswt x lo offs.toList dflt) fun t => zN t ls r w else zX
  | .lookupswitch dflt ps => zi1 st fun x r => if (ps.toList.zip (ps.toList.drop 1)).all (fun (a, next) => a.1 < next.1) = true then zjp pc (zswl x ps.toList dflt) fun t => zN t ls r w else zX
  | .getfield i => za1 st fun a r => (match zfl (M / 1000) i with
    | some q => if zTag a = q.1 then zN (pc + 3) ls (zgf w a q.1 q.2 :: r) w else zX
    | none => zX)
  | .putfield i => zia st fun a x r => (match zfl (M / 1000) i with
    | some q => if zTag a = q.1 ∧ (zfk q.1 q.2 = 0 ∨ (zfk q.1 q.2 = 1 ∧ (x = 0 ∨ x = 1))) then zN (pc + 3) ls r (zui w a q.2 x) else zX
    | none => zX)
  | .getstatic i => (match zsl (M / 1000) i with
    | some t => zN (pc + 3) ls (.ref t :: st) w
    | none => zX)
  | .iaload => zai st fun a i r => if (zTag a = 10 ∨ zTag a = 20) ∧ zis i (zLen a) = true then zN (pc + 1) ls (.int (zld w a i.toNatClampNeg) :: r) w else if zTag a = 21 ∧ zisS w i = true then zN (pc + 1) ls (.int (w.1 a i.toNatClampNeg) :: r) w else zX
  | .laload => zai st fun a i r => if zTag a = 11 ∧ zis i (zLen a) = true then zN (pc + 1) ls (.long (w.2 a i.toNatClampNeg) :: r) w else zX
  | .aaload => zai st fun a i r => if zTag a = 12 ∧ zis i (zLen a) = true then zN (pc + 1) ls (.ref (zref a i.toNatClampNeg) :: r) w else zX
  | .iastore => zaii st fun a i x r => if zTag a = 10 ∧ zis i (zLen a) = true then zN (pc + 1) ls r (zui w a i.toNatClampNeg x) else zX
  | .lastore => zaij st fun a i x r => if zTag a = 11 ∧ zis i (zLen a) = true then zN (pc + 1) ls r (zul w a i.toNatClampNeg x) else zX
  | .arraylength => za1 st fun a r => if zTag a = 10 ∨ zTag a = 11 ∨ zTag a = 12 ∨ zTag a = 20 then zN (pc + 1) ls (.int (Int32.ofNat (zLen a)) :: r) w else if zTag a = 21 then zN (pc + 1) ls (.int (w.1 998 0) :: r) w else zX
  | .ldc i => (match zcs (M / 1000) i with
    | some v => zN (pc + 2) ls (v :: st) w
    | none => zX)
  | .ldc_w i => (match zcs (M / 1000) i with
    | some (.int v) => zN (pc + 3) ls (.int v :: st) w
    | _ => zX)
  | .ldc2_w i => (match zc2 (M / 1000) i with
    | some v => zN (pc + 3) ls (.long v :: st) w
    | none => zX)
  | .invokestatic i => (match zml (M / 1000) i with
    | some K => if K = 9001 then zi2 st fun x y r => (if (r.map fun v => v.category).sum ≤ 8 then zN (pc + 3) ls (.int (if x < y then y else x) :: r) w else zX) else if K = 9002 then zi2 st fun x y r => (if (r.map fun v => v.category).sum ≤ 8 then zN (pc + 3) ls (.int (if y < x then y else x) :: r) w else zX) else if K < 7000 then zinv K st else zX
    | none => zX)
  | .invokevirtual i => (match zml (M / 1000) i with
    | some K => if K = 9003 then za1 st fun a r => (if zTag a = 22 ∧ (r.map fun v => v.category).sum ≤ 8 then zN (pc + 3) ls (.int (Int32.ofNat (zLen a)) :: r) w else zX) else if K = 9004 then zai st fun a i r => (if zTag a = 22 ∧ zis i (zLen a) = true ∧ (r.map fun v => v.category).sum ≤ 8 then zN (pc + 3) ls (.int ((zsrL.getD (a - 2000) []).getD i.toNatClampNeg 0) :: r) w else zX) else if K < 7000 then zinw K st else zX
    | none => zX)
  | .ireturn => (match st with
    | [.int x] => if zrt M = 1 ∨ (zrt M = 2 ∧ (x = 0 ∨ x = 1)) then .inr (.inr (some (some (.int x)))) else zX
    | _ => zX)
  | .lreturn => (match st with
    | [.long x] => if zrt M = 3 then .inr (.inr (some (some (.long x)))) else zX
    | _ => zX)
  | .areturn => (match st with
    | [v] => if zrt M = 4 ∧ zisR v = true then .inr (.inr (some (some v))) else zX
    | _ => zX)
  | .return_ => (match st with
    | [] => if zrt M = 0 then .inr (.inr (some none)) else zX
    | _ => zX)
  | _ => zX
def zpush (v : Option Value) (st : List Value) : List Value := match v with
  | some x => x :: st
  | none => st
def zflat (as : List Value) : zL := match as with
  | [] => []
  | .long x :: l => some (.long x) :: none :: zflat l
  | .double x :: l => some (.double x) :: none :: zflat l
  | v :: l => some v :: zflat l
def zent (n : Nat) (as : List Value) : zL := zflat as ++ List.replicate (n - (zflat as).length) none
def zlen (ins : Instr) (len : Nat) : Bool := match ins with
  | .aload _ => len == 2
  | .iload _ => len == 2
  | .istore _ => len == 2
  | .astore _ => len == 2
  | .bipush _ => len == 2
  | .ldc _ => len == 2
  | .sipush _ => len == 3
  | .iinc _ _ => len == 3
  | .goto _ => len == 3
  | .ifCond _ _ => len == 3
  | .if_icmp _ _ => len == 3
  | .ifnull _ => len == 3
  | .ifnonnull _ => len == 3
  | .getfield _ => len == 3
  | .putfield _ => len == 3
  | .getstatic _ => len == 3
  | .ldc_w _ => len == 3
  | .ldc2_w _ => len == 3
  | .invokestatic _ => len == 3
  | .invokevirtual _ => len == 3
  | .tableswitch _ _ _ _ => true
  | .lookupswitch _ _ => true
  | _ => len == 1
def zcal (f : Nat → Nat → Nat → zL → List Value → zM → Option (Option Value × zM)) (d K : Nat) (as : List Value) (w : zM) : Option (Option Value × zM) := if (zflat as).length ≤ zmaxl K then f d K 0 (zent (zmaxl K) as) [] w else none
def zgo (f : Nat → Nat → Nat → zL → List Value → zM → Option (Option Value × zM)) (d M pc : Nat) (ls : zL) (st : List Value) (w : zM) : Option (Option Value × zM) := match decode (zcode M) pc with
  | .error _ => none
  | .ok q => if zlen q.1 q.2 = true then (match zstep M q.1 pc q.2 ls st w with
    | .inl c => f d M c.1 c.2.1 c.2.2.1 c.2.2.2
    | .inr (.inl c) => (match d with
      | 0 => none
      | d' + 1 => (zcal f d' c.1 c.2.1 w).bind (fun r => f (d' + 1) M (pc + 3) ls (zpush r.1 c.2.2) r.2))
    | .inr (.inr (some v)) => some (v, w)
    | .inr (.inr none) => none) else none
def zrun (n : Nat) : Nat → Nat → Nat → zL → List Value → zM → Option (Option Value × zM) := match n with
  | 0 => fun _ _ _ _ _ _ => none
  | n + 1 => zgo (zrun n)
