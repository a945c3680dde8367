/-! the words that every method of mine is given: those of the tables that keep, and what picks the private methods -/
def cw : List Cond := [(Jvm.Cond.selects "BuildDrawer$Drawing" ({ cls := "BuildDrawer$Drawing", name := "begin", desc := "(JII)V" } : Jvm.MethodName) ({ cls := "BuildDrawer$Drawing", name := "begin", desc := "(JII)V" } : Jvm.MethodName)),
  (Jvm.Cond.selects "BuildDrawer$Drawing" ({ cls := "BuildDrawer$Drawing", name := "chance", desc := "(I)I" } : Jvm.MethodName) ({ cls := "BuildDrawer$Drawing", name := "chance", desc := "(I)I" } : Jvm.MethodName)),
  (Jvm.Cond.selects "BuildDrawer$Drawing" ({ cls := "BuildDrawer$Drawing", name := "next", desc := "()V" } : Jvm.MethodName) ({ cls := "BuildDrawer$Drawing", name := "next", desc := "()V" } : Jvm.MethodName)),
  (Jvm.Cond.selects "BuildDrawer$Drawing" ({ cls := "BuildDrawer$Drawing", name := "nextSort", desc := "()I" } : Jvm.MethodName) ({ cls := "BuildDrawer$Drawing", name := "nextSort", desc := "()I" } : Jvm.MethodName)),
  (Jvm.Cond.selects "BuildDrawer$Drawing" ({ cls := "BuildDrawer$Drawing", name := "nextB", desc := "()I" } : Jvm.MethodName) ({ cls := "BuildDrawer$Drawing", name := "nextB", desc := "()I" } : Jvm.MethodName)),
  (Jvm.Cond.selects "BuildDrawer$Drawing" ({ cls := "BuildDrawer$Drawing", name := "nextBOfStep", desc := "()I" } : Jvm.MethodName) ({ cls := "BuildDrawer$Drawing", name := "nextBOfStep", desc := "()I" } : Jvm.MethodName)),
  (Jvm.Cond.selects "BuildDrawer$Drawing" ({ cls := "BuildDrawer$Drawing", name := "nextNeed", desc := "()I" } : Jvm.MethodName) ({ cls := "BuildDrawer$Drawing", name := "nextNeed", desc := "()I" } : Jvm.MethodName)),
  (Jvm.Cond.selects "BuildDrawer" ({ cls := "BuildDrawer", name := "takeAllBack", desc := "()V" } : Jvm.MethodName) ({ cls := "BuildDrawer", name := "takeAllBack", desc := "()V" } : Jvm.MethodName)),
  (Jvm.Cond.selects "BuildDrawer" ({ cls := "BuildDrawer", name := "isPart", desc := "(I)Z" } : Jvm.MethodName) ({ cls := "BuildDrawer", name := "isPart", desc := "(I)Z" } : Jvm.MethodName)),
  (Jvm.Cond.selects "BuildDrawer" ({ cls := "BuildDrawer", name := "commonSet", desc := "()I" } : Jvm.MethodName) ({ cls := "BuildDrawer", name := "commonSet", desc := "()I" } : Jvm.MethodName)),
  (Jvm.Cond.selects "BuildDrawer" ({ cls := "BuildDrawer", name := "writeText", desc := "()V" } : Jvm.MethodName) ({ cls := "BuildDrawer", name := "writeText", desc := "()V" } : Jvm.MethodName)),
  (Jvm.Cond.selects "BuildDrawer" ({ cls := "BuildDrawer", name := "writePart", desc := "(I)V" } : Jvm.MethodName) ({ cls := "BuildDrawer", name := "writePart", desc := "(I)V" } : Jvm.MethodName)),
  (Jvm.Cond.selects "BuildDrawer" ({ cls := "BuildDrawer", name := "writeSign", desc := "(C)V" } : Jvm.MethodName) ({ cls := "BuildDrawer", name := "writeSign", desc := "(C)V" } : Jvm.MethodName)),
  (Jvm.Cond.selects "BuildDrawer" ({ cls := "BuildDrawer", name := "writeNumber", desc := "(I)V" } : Jvm.MethodName) ({ cls := "BuildDrawer", name := "writeNumber", desc := "(I)V" } : Jvm.MethodName)),
  (Jvm.Cond.selects "BuildDrawer" ({ cls := "BuildDrawer", name := "writeDigit", desc := "(I)V" } : Jvm.MethodName) ({ cls := "BuildDrawer", name := "writeDigit", desc := "(I)V" } : Jvm.MethodName)),
  (Jvm.Cond.selects "BuildDrawer" ({ cls := "BuildDrawer", name := "marksLeft", desc := "()I" } : Jvm.MethodName) ({ cls := "BuildDrawer", name := "marksLeft", desc := "()I" } : Jvm.MethodName)),
  (Jvm.Cond.selects "BuildDrawer" ({ cls := "BuildDrawer", name := "holdsOf", desc := "(I)Z" } : Jvm.MethodName) ({ cls := "BuildDrawer", name := "holdsOf", desc := "(I)Z" } : Jvm.MethodName)),
  (Jvm.Cond.selects "BuildDrawer" ({ cls := "BuildDrawer", name := "leaveOutAllThatCanGo", desc := "()V" } : Jvm.MethodName) ({ cls := "BuildDrawer", name := "leaveOutAllThatCanGo", desc := "()V" } : Jvm.MethodName)),
  (Jvm.Cond.selects "BuildDrawer" ({ cls := "BuildDrawer", name := "leaveOutFromLastToFirst", desc := "()Z" } : Jvm.MethodName) ({ cls := "BuildDrawer", name := "leaveOutFromLastToFirst", desc := "()Z" } : Jvm.MethodName)),
  (Jvm.Cond.selects "BuildDrawer" ({ cls := "BuildDrawer", name := "canGo", desc := "(I)Z" } : Jvm.MethodName) ({ cls := "BuildDrawer", name := "canGo", desc := "(I)Z" } : Jvm.MethodName)),
  (Jvm.Cond.selects "BuildDrawer" ({ cls := "BuildDrawer", name := "countLeft", desc := "()I" } : Jvm.MethodName) ({ cls := "BuildDrawer", name := "countLeft", desc := "()I" } : Jvm.MethodName)),
  (Jvm.Cond.selects "BuildDrawer$Drawing" ({ cls := "BuildDrawer$Drawing", name := "isAtTheLikeOf", desc := "(LBuildDrawer$Drawing;)Z" } : Jvm.MethodName) ({ cls := "BuildDrawer$Drawing", name := "isAtTheLikeOf", desc := "(LBuildDrawer$Drawing;)Z" } : Jvm.MethodName)),
  (Jvm.Cond.selects "BuildDrawerModel" ({ cls := "BuildDrawerModel", name := "fill", desc := "(JIII)V" } : Jvm.MethodName) ({ cls := "BuildDrawerModel", name := "fill", desc := "(JIII)V" } : Jvm.MethodName)),
  (Jvm.Cond.selects "BuildDrawerModel" ({ cls := "BuildDrawerModel", name := "chance", desc := "(I)I" } : Jvm.MethodName) ({ cls := "BuildDrawerModel", name := "chance", desc := "(I)I" } : Jvm.MethodName)),
  (Jvm.Cond.selects "BuildDrawerModel" ({ cls := "BuildDrawerModel", name := "drawB", desc := "(I)I" } : Jvm.MethodName) ({ cls := "BuildDrawerModel", name := "drawB", desc := "(I)I" } : Jvm.MethodName)),
  (Jvm.Cond.selects "BuildDrawerModel" ({ cls := "BuildDrawerModel", name := "holds", desc := "(I)Z" } : Jvm.MethodName) ({ cls := "BuildDrawerModel", name := "holds", desc := "(I)Z" } : Jvm.MethodName)),
  (Jvm.Cond.selects "BuildDrawerModel" ({ cls := "BuildDrawerModel", name := "canGo", desc := "(I)Z" } : Jvm.MethodName) ({ cls := "BuildDrawerModel", name := "canGo", desc := "(I)Z" } : Jvm.MethodName)),
  (Jvm.Cond.selects "BuildDrawerModel" ({ cls := "BuildDrawerModel", name := "count", desc := "()I" } : Jvm.MethodName) ({ cls := "BuildDrawerModel", name := "count", desc := "()I" } : Jvm.MethodName)),
  (Jvm.Cond.selects "BuildDrawerModel" ({ cls := "BuildDrawerModel", name := "shared", desc := "()J" } : Jvm.MethodName) ({ cls := "BuildDrawerModel", name := "shared", desc := "()J" } : Jvm.MethodName)),
  (Jvm.Cond.selects "BuildDrawerModel" ({ cls := "BuildDrawerModel", name := "say", desc := "(I)V" } : Jvm.MethodName) ({ cls := "BuildDrawerModel", name := "say", desc := "(I)V" } : Jvm.MethodName)),
  (Jvm.Cond.selects "BuildDrawerModel" ({ cls := "BuildDrawerModel", name := "sayNumber", desc := "(I)V" } : Jvm.MethodName) ({ cls := "BuildDrawerModel", name := "sayNumber", desc := "(I)V" } : Jvm.MethodName)),
  (Jvm.Cond.initialized "BuildDrawerLaw"),
  (Jvm.Cond.initialized "BuildDrawer"),
  (Jvm.Cond.initialized "BuildDrawer$Drawing"),
  (Jvm.Cond.initialized "BuildDrawerModel"),
  (Jvm.Cond.initialized "java/lang/Integer"),
  (Jvm.Cond.initialized "java/lang/String"),
  (Jvm.Cond.initialized "java/lang/StringLatin1"),
  (Jvm.Cond.initialized "jdk/internal/util/Preconditions"),
  (Jvm.Cond.classLink "BuildDrawerLaw" (7 : Nat) "BuildDrawer"),
  (Jvm.Cond.instantiable "BuildDrawer" (14 : Nat)),
  (Jvm.Cond.methodLink "BuildDrawerLaw" (15 : Nat) ({ cls := "BuildDrawer", name := "<init>", desc := "(J)V" } : Jvm.MethodName)),
  (Jvm.Cond.instanceMethod ({ cls := "BuildDrawer", name := "<init>", desc := "(J)V" } : Jvm.MethodName)),
  (Jvm.Cond.code ({ cls := "BuildDrawer", name := "<init>", desc := "(J)V" } : Jvm.MethodName) prog_1_method_1_code (3 : Nat) (Option.none : Option Jvm.ClassFile.FieldType)),
  (Jvm.Cond.methodLink "BuildDrawer" (3 : Nat) ({ cls := "java/lang/Object", name := "<init>", desc := "()V" } : Jvm.MethodName)),
  (Jvm.Cond.instanceMethod ({ cls := "java/lang/Object", name := "<init>", desc := "()V" } : Jvm.MethodName)),
  (Jvm.Cond.code ({ cls := "java/lang/Object", name := "<init>", desc := "()V" } : Jvm.MethodName) object_method_1_code (1 : Nat) (Option.none : Option Jvm.ClassFile.FieldType)),
  (Jvm.Cond.classLink "BuildDrawer" (9 : Nat) "BuildDrawer$Drawing"),
  (Jvm.Cond.instantiable "BuildDrawer$Drawing" (9 : Nat)),
  (Jvm.Cond.instanceMethod ({ cls := "BuildDrawer$Drawing", name := "<init>", desc := "()V" } : Jvm.MethodName)),
  (Jvm.Cond.code ({ cls := "BuildDrawer$Drawing", name := "<init>", desc := "()V" } : Jvm.MethodName) prog_2_method_1_code (1 : Nat) (Option.none : Option Jvm.ClassFile.FieldType)),
  (Jvm.Cond.methodLink "BuildDrawer$Drawing" (3 : Nat) ({ cls := "java/lang/Object", name := "<init>", desc := "()V" } : Jvm.MethodName)),
  (Jvm.Cond.fieldLink "BuildDrawer$Drawing" (9 : Nat) "BuildDrawer$Drawing" "word" "J"),
  (Jvm.Cond.fieldLink "BuildDrawer$Drawing" (15 : Nat) "BuildDrawer$Drawing" "sortOfKind" "I"),
  (Jvm.Cond.fieldLink "BuildDrawer$Drawing" (19 : Nat) "BuildDrawer$Drawing" "plantedBit" "I"),
  (Jvm.Cond.fieldLink "BuildDrawer$Drawing" (22 : Nat) "BuildDrawer$Drawing" "number" "I"),
  (Jvm.Cond.fieldLink "BuildDrawer$Drawing" (25 : Nat) "BuildDrawer$Drawing" "sort" "I"),
  (Jvm.Cond.fieldLink "BuildDrawer$Drawing" (28 : Nat) "BuildDrawer$Drawing" "a" "I"),
  (Jvm.Cond.fieldLink "BuildDrawer$Drawing" (31 : Nat) "BuildDrawer$Drawing" "b" "I"),
  (Jvm.Cond.fieldLink "BuildDrawer$Drawing" (34 : Nat) "BuildDrawer$Drawing" "need" "I"),
  (Jvm.Cond.fieldLink "BuildDrawer$Drawing" (37 : Nat) "BuildDrawer$Drawing" "mark" "I"),
  (Jvm.Cond.lays "BuildDrawer$Drawing" "BuildDrawer$Drawing" "word" "J"),
  (Jvm.Cond.lays "BuildDrawer$Drawing" "BuildDrawer$Drawing" "sortOfKind" "I"),
  (Jvm.Cond.lays "BuildDrawer$Drawing" "BuildDrawer$Drawing" "plantedBit" "I"),
  (Jvm.Cond.lays "BuildDrawer$Drawing" "BuildDrawer$Drawing" "number" "I"),
  (Jvm.Cond.lays "BuildDrawer$Drawing" "BuildDrawer$Drawing" "sort" "I"),
  (Jvm.Cond.lays "BuildDrawer$Drawing" "BuildDrawer$Drawing" "a" "I"),
  (Jvm.Cond.lays "BuildDrawer$Drawing" "BuildDrawer$Drawing" "b" "I"),
  (Jvm.Cond.lays "BuildDrawer$Drawing" "BuildDrawer$Drawing" "need" "I"),
  (Jvm.Cond.lays "BuildDrawer$Drawing" "BuildDrawer$Drawing" "mark" "I"),
  (Jvm.Cond.fieldLink "BuildDrawer" (57 : Nat) "BuildDrawer" "seed" "J"),
  (Jvm.Cond.fieldLink "BuildDrawer" (12 : Nat) "BuildDrawer" "mine" "LBuildDrawer$Drawing;"),
  (Jvm.Cond.fieldLink "BuildDrawer" (16 : Nat) "BuildDrawer" "others" "LBuildDrawer$Drawing;"),
  (Jvm.Cond.fieldLink "BuildDrawer" (19 : Nat) "BuildDrawer" "count" "I"),
  (Jvm.Cond.fieldLink "BuildDrawer" (23 : Nat) "BuildDrawer" "sorts" "[I"),
  (Jvm.Cond.fieldLink "BuildDrawer" (27 : Nat) "BuildDrawer" "as" "[I"),
  (Jvm.Cond.fieldLink "BuildDrawer" (30 : Nat) "BuildDrawer" "bs" "[I"),
  (Jvm.Cond.fieldLink "BuildDrawer" (33 : Nat) "BuildDrawer" "needs" "[I"),
  (Jvm.Cond.fieldLink "BuildDrawer" (36 : Nat) "BuildDrawer" "marks" "[I"),
  (Jvm.Cond.fieldLink "BuildDrawer" (39 : Nat) "BuildDrawer" "isLeft" "[Z"),
  (Jvm.Cond.fieldLink "BuildDrawer" (43 : Nat) "BuildDrawer" "verdictBits" "I"),
  (Jvm.Cond.fieldLink "BuildDrawer" (46 : Nat) "BuildDrawer" "verdictStays" "Z"),
  (Jvm.Cond.fieldLink "BuildDrawer" (50 : Nat) "BuildDrawer" "text" "[C"),
  (Jvm.Cond.fieldLink "BuildDrawer" (54 : Nat) "BuildDrawer" "textLength" "I"),
  (Jvm.Cond.laysFinal "BuildDrawer" "BuildDrawer" "seed" "J"),
  (Jvm.Cond.laysFinal "BuildDrawer" "BuildDrawer" "mine" "LBuildDrawer$Drawing;"),
  (Jvm.Cond.laysFinal "BuildDrawer" "BuildDrawer" "others" "LBuildDrawer$Drawing;"),
  (Jvm.Cond.lays "BuildDrawer" "BuildDrawer" "count" "I"),
  (Jvm.Cond.laysFinal "BuildDrawer" "BuildDrawer" "sorts" "[I"),
  (Jvm.Cond.laysFinal "BuildDrawer" "BuildDrawer" "as" "[I"),
  (Jvm.Cond.laysFinal "BuildDrawer" "BuildDrawer" "bs" "[I"),
  (Jvm.Cond.laysFinal "BuildDrawer" "BuildDrawer" "needs" "[I"),
  (Jvm.Cond.laysFinal "BuildDrawer" "BuildDrawer" "marks" "[I"),
  (Jvm.Cond.laysFinal "BuildDrawer" "BuildDrawer" "isLeft" "[Z"),
  (Jvm.Cond.lays "BuildDrawer" "BuildDrawer" "verdictBits" "I"),
  (Jvm.Cond.lays "BuildDrawer" "BuildDrawer" "verdictStays" "Z"),
  (Jvm.Cond.laysFinal "BuildDrawer" "BuildDrawer" "text" "[C"),
  (Jvm.Cond.lays "BuildDrawer" "BuildDrawer" "textLength" "I"),
  (Jvm.Cond.arrayClass Jvm.ClassFile.FieldType.int),
  (Jvm.Cond.arrayClass Jvm.ClassFile.FieldType.boolean),
  (Jvm.Cond.arrayClass Jvm.ClassFile.FieldType.char),
  (Jvm.Cond.methodLink "BuildDrawerLaw" (21 : Nat) ({ cls := "BuildDrawer", name := "draw", desc := "(II)I" } : Jvm.MethodName)),
  (Jvm.Cond.instanceMethod ({ cls := "BuildDrawer", name := "draw", desc := "(II)I" } : Jvm.MethodName)),
  (Jvm.Cond.selects "BuildDrawer" ({ cls := "BuildDrawer", name := "draw", desc := "(II)I" } : Jvm.MethodName) ({ cls := "BuildDrawer", name := "draw", desc := "(II)I" } : Jvm.MethodName)),
  (Jvm.Cond.code ({ cls := "BuildDrawer", name := "draw", desc := "(II)I" } : Jvm.MethodName) prog_1_method_2_code (4 : Nat) (Option.some Jvm.ClassFile.FieldType.int)),
  (Jvm.Cond.methodLink "BuildDrawer" (61 : Nat) ({ cls := "BuildDrawer", name := "canBeDrawn", desc := "(II)Z" } : Jvm.MethodName)),
  (Jvm.Cond.static ({ cls := "BuildDrawer", name := "canBeDrawn", desc := "(II)Z" } : Jvm.MethodName)),
  (Jvm.Cond.code ({ cls := "BuildDrawer", name := "canBeDrawn", desc := "(II)Z" } : Jvm.MethodName) prog_1_method_10_code (2 : Nat) (Option.some Jvm.ClassFile.FieldType.boolean)),
  (Jvm.Cond.instanceMethod ({ cls := "BuildDrawer$Drawing", name := "begin", desc := "(JII)V" } : Jvm.MethodName)),
  (Jvm.Cond.code ({ cls := "BuildDrawer$Drawing", name := "begin", desc := "(JII)V" } : Jvm.MethodName) prog_2_method_2_code (5 : Nat) (Option.none : Option Jvm.ClassFile.FieldType)),
  (Jvm.Cond.constantLong "BuildDrawer$Drawing" (40 : Nat) (2862933555777941757 : Int64)),
  (Jvm.Cond.methodLink "BuildDrawer$Drawing" (46 : Nat) ({ cls := "BuildDrawer$Drawing", name := "chance", desc := "(I)I" } : Jvm.MethodName)),
  (Jvm.Cond.instanceMethod ({ cls := "BuildDrawer$Drawing", name := "chance", desc := "(I)I" } : Jvm.MethodName)),
  (Jvm.Cond.code ({ cls := "BuildDrawer$Drawing", name := "chance", desc := "(I)I" } : Jvm.MethodName) prog_2_method_10_code (3 : Nat) (Option.some Jvm.ClassFile.FieldType.int)),
  (Jvm.Cond.constantLong "BuildDrawer$Drawing" (66 : Nat) (6364136223846793005 : Int64)),
  (Jvm.Cond.constantLong "BuildDrawer$Drawing" (68 : Nat) (1442695040888963407 : Int64)),
  (Jvm.Cond.methodLink "BuildDrawer$Drawing" (50 : Nat) ({ cls := "BuildDrawer$Drawing", name := "bitOrNone", desc := "(I)I" } : Jvm.MethodName)),
  (Jvm.Cond.static ({ cls := "BuildDrawer$Drawing", name := "bitOrNone", desc := "(I)I" } : Jvm.MethodName)),
  (Jvm.Cond.code ({ cls := "BuildDrawer$Drawing", name := "bitOrNone", desc := "(I)I" } : Jvm.MethodName) prog_2_method_5_code (1 : Nat) (Option.some Jvm.ClassFile.FieldType.int)),
  (Jvm.Cond.instanceMethod ({ cls := "BuildDrawer$Drawing", name := "next", desc := "()V" } : Jvm.MethodName)),
  (Jvm.Cond.code ({ cls := "BuildDrawer$Drawing", name := "next", desc := "()V" } : Jvm.MethodName) prog_2_method_3_code (1 : Nat) (Option.none : Option Jvm.ClassFile.FieldType)),
  (Jvm.Cond.methodLink "BuildDrawer$Drawing" (53 : Nat) ({ cls := "BuildDrawer$Drawing", name := "nextSort", desc := "()I" } : Jvm.MethodName)),
  (Jvm.Cond.instanceMethod ({ cls := "BuildDrawer$Drawing", name := "nextSort", desc := "()I" } : Jvm.MethodName)),
  (Jvm.Cond.code ({ cls := "BuildDrawer$Drawing", name := "nextSort", desc := "()I" } : Jvm.MethodName) prog_2_method_6_code (1 : Nat) (Option.some Jvm.ClassFile.FieldType.int)),
  (Jvm.Cond.methodLink "BuildDrawer$Drawing" (57 : Nat) ({ cls := "BuildDrawer$Drawing", name := "nextB", desc := "()I" } : Jvm.MethodName)),
  (Jvm.Cond.instanceMethod ({ cls := "BuildDrawer$Drawing", name := "nextB", desc := "()I" } : Jvm.MethodName)),
  (Jvm.Cond.code ({ cls := "BuildDrawer$Drawing", name := "nextB", desc := "()I" } : Jvm.MethodName) prog_2_method_7_code (1 : Nat) (Option.some Jvm.ClassFile.FieldType.int)),
  (Jvm.Cond.methodLink "BuildDrawer$Drawing" (63 : Nat) ({ cls := "BuildDrawer$Drawing", name := "nextBOfStep", desc := "()I" } : Jvm.MethodName)),
  (Jvm.Cond.instanceMethod ({ cls := "BuildDrawer$Drawing", name := "nextBOfStep", desc := "()I" } : Jvm.MethodName)),
  (Jvm.Cond.code ({ cls := "BuildDrawer$Drawing", name := "nextBOfStep", desc := "()I" } : Jvm.MethodName) prog_2_method_8_code (2 : Nat) (Option.some Jvm.ClassFile.FieldType.int)),
  (Jvm.Cond.methodLink "BuildDrawer$Drawing" (60 : Nat) ({ cls := "BuildDrawer$Drawing", name := "nextNeed", desc := "()I" } : Jvm.MethodName)),
  (Jvm.Cond.instanceMethod ({ cls := "BuildDrawer$Drawing", name := "nextNeed", desc := "()I" } : Jvm.MethodName)),
  (Jvm.Cond.code ({ cls := "BuildDrawer$Drawing", name := "nextNeed", desc := "()I" } : Jvm.MethodName) prog_2_method_9_code (2 : Nat) (Option.some Jvm.ClassFile.FieldType.int)),
  (Jvm.Cond.methodLink "BuildDrawer" (87 : Nat) ({ cls := "BuildDrawer", name := "takeAllBack", desc := "()V" } : Jvm.MethodName)),
  (Jvm.Cond.instanceMethod ({ cls := "BuildDrawer", name := "takeAllBack", desc := "()V" } : Jvm.MethodName)),
  (Jvm.Cond.code ({ cls := "BuildDrawer", name := "takeAllBack", desc := "()V" } : Jvm.MethodName) prog_1_method_12_code (2 : Nat) (Option.none : Option Jvm.ClassFile.FieldType)),
  (Jvm.Cond.methodLink "BuildDrawerLaw" (26 : Nat) ({ cls := "BuildDrawer", name := "part", desc := "(II)J" } : Jvm.MethodName)),
  (Jvm.Cond.instanceMethod ({ cls := "BuildDrawer", name := "part", desc := "(II)J" } : Jvm.MethodName)),
  (Jvm.Cond.selects "BuildDrawer" ({ cls := "BuildDrawer", name := "part", desc := "(II)J" } : Jvm.MethodName) ({ cls := "BuildDrawer", name := "part", desc := "(II)J" } : Jvm.MethodName)),
  (Jvm.Cond.code ({ cls := "BuildDrawer", name := "part", desc := "(II)J" } : Jvm.MethodName) prog_1_method_3_code (3 : Nat) (Option.some Jvm.ClassFile.FieldType.long)),
  (Jvm.Cond.methodLink "BuildDrawer" (90 : Nat) ({ cls := "BuildDrawer", name := "isPart", desc := "(I)Z" } : Jvm.MethodName)),
  (Jvm.Cond.instanceMethod ({ cls := "BuildDrawer", name := "isPart", desc := "(I)Z" } : Jvm.MethodName)),
  (Jvm.Cond.code ({ cls := "BuildDrawer", name := "isPart", desc := "(I)Z" } : Jvm.MethodName) prog_1_method_11_code (2 : Nat) (Option.some Jvm.ClassFile.FieldType.boolean)),
  (Jvm.Cond.constantLong "BuildDrawer" (94 : Nat) (-1 : Int64)),
  (Jvm.Cond.methodLink "BuildDrawer" (96 : Nat) ({ cls := "BuildDrawer", name := "commonSet", desc := "()I" } : Jvm.MethodName)),
  (Jvm.Cond.instanceMethod ({ cls := "BuildDrawer", name := "commonSet", desc := "()I" } : Jvm.MethodName)),
  (Jvm.Cond.code ({ cls := "BuildDrawer", name := "commonSet", desc := "()I" } : Jvm.MethodName) prog_1_method_15_code (3 : Nat) (Option.some Jvm.ClassFile.FieldType.int)),
  (Jvm.Cond.methodLink "BuildDrawer" (100 : Nat) ({ cls := "java/lang/Integer", name := "bitCount", desc := "(I)I" } : Jvm.MethodName)),
  (Jvm.Cond.static ({ cls := "java/lang/Integer", name := "bitCount", desc := "(I)I" } : Jvm.MethodName)),
  (Jvm.Cond.code ({ cls := "java/lang/Integer", name := "bitCount", desc := "(I)I" } : Jvm.MethodName) prog_5_method_49_code (1 : Nat) (Option.some Jvm.ClassFile.FieldType.int)),
  (Jvm.Cond.constant "java/lang/Integer" (265 : Nat) (1431655765 : Int32)),
  (Jvm.Cond.constant "java/lang/Integer" (266 : Nat) (858993459 : Int32)),
  (Jvm.Cond.constant "java/lang/Integer" (267 : Nat) (252645135 : Int32)),
  (Jvm.Cond.constantLong "BuildDrawer" (106 : Nat) (-2 : Int64)),
  (Jvm.Cond.methodLink "BuildDrawerLaw" (31 : Nat) ({ cls := "BuildDrawer", name := "letter", desc := "(I)I" } : Jvm.MethodName)),
  (Jvm.Cond.instanceMethod ({ cls := "BuildDrawer", name := "letter", desc := "(I)I" } : Jvm.MethodName)),
  (Jvm.Cond.selects "BuildDrawer" ({ cls := "BuildDrawer", name := "letter", desc := "(I)I" } : Jvm.MethodName) ({ cls := "BuildDrawer", name := "letter", desc := "(I)I" } : Jvm.MethodName)),
  (Jvm.Cond.code ({ cls := "BuildDrawer", name := "letter", desc := "(I)I" } : Jvm.MethodName) prog_1_method_4_code (2 : Nat) (Option.some Jvm.ClassFile.FieldType.int)),
  (Jvm.Cond.methodLink "BuildDrawer" (108 : Nat) ({ cls := "BuildDrawer", name := "writeText", desc := "()V" } : Jvm.MethodName)),
  (Jvm.Cond.instanceMethod ({ cls := "BuildDrawer", name := "writeText", desc := "()V" } : Jvm.MethodName)),
  (Jvm.Cond.code ({ cls := "BuildDrawer", name := "writeText", desc := "()V" } : Jvm.MethodName) prog_1_method_20_code (2 : Nat) (Option.none : Option Jvm.ClassFile.FieldType)),
  (Jvm.Cond.methodLink "BuildDrawer" (134 : Nat) ({ cls := "BuildDrawer", name := "writePart", desc := "(I)V" } : Jvm.MethodName)),
  (Jvm.Cond.instanceMethod ({ cls := "BuildDrawer", name := "writePart", desc := "(I)V" } : Jvm.MethodName)),
  (Jvm.Cond.code ({ cls := "BuildDrawer", name := "writePart", desc := "(I)V" } : Jvm.MethodName) prog_1_method_21_code (2 : Nat) (Option.none : Option Jvm.ClassFile.FieldType)),
  (Jvm.Cond.methodLink "BuildDrawer" (138 : Nat) ({ cls := "BuildDrawer", name := "letterOf", desc := "(I)C" } : Jvm.MethodName)),
  (Jvm.Cond.static ({ cls := "BuildDrawer", name := "letterOf", desc := "(I)C" } : Jvm.MethodName)),
  (Jvm.Cond.code ({ cls := "BuildDrawer", name := "letterOf", desc := "(I)C" } : Jvm.MethodName) prog_1_method_22_code (1 : Nat) (Option.some Jvm.ClassFile.FieldType.char)),
  (Jvm.Cond.methodLink "BuildDrawer" (151 : Nat) ({ cls := "java/lang/String", name := "length", desc := "()I" } : Jvm.MethodName)),
  (Jvm.Cond.instanceMethod ({ cls := "java/lang/String", name := "length", desc := "()I" } : Jvm.MethodName)),
  (Jvm.Cond.selects "java/lang/String" ({ cls := "java/lang/String", name := "length", desc := "()I" } : Jvm.MethodName) ({ cls := "java/lang/String", name := "length", desc := "()I" } : Jvm.MethodName)),
  (Jvm.Cond.code ({ cls := "java/lang/String", name := "length", desc := "()I" } : Jvm.MethodName) prog_6_method_54_code (1 : Nat) (Option.some Jvm.ClassFile.FieldType.int)),
  (Jvm.Cond.methodLink "java/lang/String" (335 : Nat) ({ cls := "java/lang/String", name := "coder", desc := "()B" } : Jvm.MethodName)),
  (Jvm.Cond.instanceMethod ({ cls := "java/lang/String", name := "coder", desc := "()B" } : Jvm.MethodName)),
  (Jvm.Cond.selects "java/lang/String" ({ cls := "java/lang/String", name := "coder", desc := "()B" } : Jvm.MethodName) ({ cls := "java/lang/String", name := "coder", desc := "()B" } : Jvm.MethodName)),
  (Jvm.Cond.code ({ cls := "java/lang/String", name := "coder", desc := "()B" } : Jvm.MethodName) prog_6_method_152_code (1 : Nat) (Option.some Jvm.ClassFile.FieldType.byte)),
  (Jvm.Cond.fieldLink "java/lang/String" (38 : Nat) "java/lang/String" "COMPACT_STRINGS" "Z"),
  (Jvm.Cond.methodLink "BuildDrawer" (156 : Nat) ({ cls := "java/lang/String", name := "charAt", desc := "(I)C" } : Jvm.MethodName)),
  (Jvm.Cond.instanceMethod ({ cls := "java/lang/String", name := "charAt", desc := "(I)C" } : Jvm.MethodName)),
  (Jvm.Cond.selects "java/lang/String" ({ cls := "java/lang/String", name := "charAt", desc := "(I)C" } : Jvm.MethodName) ({ cls := "java/lang/String", name := "charAt", desc := "(I)C" } : Jvm.MethodName)),
  (Jvm.Cond.code ({ cls := "java/lang/String", name := "charAt", desc := "(I)C" } : Jvm.MethodName) prog_6_method_56_code (2 : Nat) (Option.some Jvm.ClassFile.FieldType.char)),
  (Jvm.Cond.methodLink "java/lang/String" (492 : Nat) ({ cls := "java/lang/String", name := "isLatin1", desc := "()Z" } : Jvm.MethodName)),
  (Jvm.Cond.instanceMethod ({ cls := "java/lang/String", name := "isLatin1", desc := "()Z" } : Jvm.MethodName)),
  (Jvm.Cond.selects "java/lang/String" ({ cls := "java/lang/String", name := "isLatin1", desc := "()Z" } : Jvm.MethodName) ({ cls := "java/lang/String", name := "isLatin1", desc := "()Z" } : Jvm.MethodName)),
  (Jvm.Cond.code ({ cls := "java/lang/String", name := "isLatin1", desc := "()Z" } : Jvm.MethodName) prog_6_method_154_code (1 : Nat) (Option.some Jvm.ClassFile.FieldType.boolean)),
  (Jvm.Cond.methodLink "java/lang/String" (495 : Nat) ({ cls := "java/lang/StringLatin1", name := "charAt", desc := "([BI)C" } : Jvm.MethodName)),
  (Jvm.Cond.static ({ cls := "java/lang/StringLatin1", name := "charAt", desc := "([BI)C" } : Jvm.MethodName)),
  (Jvm.Cond.code ({ cls := "java/lang/StringLatin1", name := "charAt", desc := "([BI)C" } : Jvm.MethodName) prog_7_method_2_code (2 : Nat) (Option.some Jvm.ClassFile.FieldType.char)),
  (Jvm.Cond.methodLink "java/lang/StringLatin1" (9 : Nat) ({ cls := "java/lang/String", name := "checkIndex", desc := "(II)V" } : Jvm.MethodName)),
  (Jvm.Cond.static ({ cls := "java/lang/String", name := "checkIndex", desc := "(II)V" } : Jvm.MethodName)),
  (Jvm.Cond.code ({ cls := "java/lang/String", name := "checkIndex", desc := "(II)V" } : Jvm.MethodName) prog_6_method_155_code (2 : Nat) (Option.none : Option Jvm.ClassFile.FieldType)),
  (Jvm.Cond.fieldLink "java/lang/String" (1053 : Nat) "jdk/internal/util/Preconditions" "SIOOBE_FORMATTER" "Ljava/util/function/BiFunction;"),
  (Jvm.Cond.methodLink "java/lang/String" (1059 : Nat) ({ cls := "jdk/internal/util/Preconditions", name := "checkIndex", desc := "(IILjava/util/function/BiFunction;)I" } : Jvm.MethodName)),
  (Jvm.Cond.static ({ cls := "jdk/internal/util/Preconditions", name := "checkIndex", desc := "(IILjava/util/function/BiFunction;)I" } : Jvm.MethodName)),
  (Jvm.Cond.code ({ cls := "jdk/internal/util/Preconditions", name := "checkIndex", desc := "(IILjava/util/function/BiFunction;)I" } : Jvm.MethodName) prog_9_method_11_code (3 : Nat) (Option.some Jvm.ClassFile.FieldType.int)),
  (Jvm.Cond.methodLink "BuildDrawer" (142 : Nat) ({ cls := "BuildDrawer", name := "writeSign", desc := "(C)V" } : Jvm.MethodName)),
  (Jvm.Cond.instanceMethod ({ cls := "BuildDrawer", name := "writeSign", desc := "(C)V" } : Jvm.MethodName)),
  (Jvm.Cond.code ({ cls := "BuildDrawer", name := "writeSign", desc := "(C)V" } : Jvm.MethodName) prog_1_method_25_code (2 : Nat) (Option.none : Option Jvm.ClassFile.FieldType)),
  (Jvm.Cond.methodLink "BuildDrawer" (146 : Nat) ({ cls := "BuildDrawer", name := "writeNumber", desc := "(I)V" } : Jvm.MethodName)),
  (Jvm.Cond.instanceMethod ({ cls := "BuildDrawer", name := "writeNumber", desc := "(I)V" } : Jvm.MethodName)),
  (Jvm.Cond.code ({ cls := "BuildDrawer", name := "writeNumber", desc := "(I)V" } : Jvm.MethodName) prog_1_method_23_code (2 : Nat) (Option.none : Option Jvm.ClassFile.FieldType)),
  (Jvm.Cond.methodLink "BuildDrawer" (159 : Nat) ({ cls := "BuildDrawer", name := "writeDigit", desc := "(I)V" } : Jvm.MethodName)),
  (Jvm.Cond.instanceMethod ({ cls := "BuildDrawer", name := "writeDigit", desc := "(I)V" } : Jvm.MethodName)),
  (Jvm.Cond.code ({ cls := "BuildDrawer", name := "writeDigit", desc := "(I)V" } : Jvm.MethodName) prog_1_method_24_code (2 : Nat) (Option.none : Option Jvm.ClassFile.FieldType)),
  (Jvm.Cond.arrayClass Jvm.ClassFile.FieldType.byte),
  (Jvm.Cond.methodLink "BuildDrawerLaw" (36 : Nat) ({ cls := "BuildDrawer", name := "verdict", desc := "(IZ)V" } : Jvm.MethodName)),
  (Jvm.Cond.instanceMethod ({ cls := "BuildDrawer", name := "verdict", desc := "(IZ)V" } : Jvm.MethodName)),
  (Jvm.Cond.selects "BuildDrawer" ({ cls := "BuildDrawer", name := "verdict", desc := "(IZ)V" } : Jvm.MethodName) ({ cls := "BuildDrawer", name := "verdict", desc := "(IZ)V" } : Jvm.MethodName)),
  (Jvm.Cond.code ({ cls := "BuildDrawer", name := "verdict", desc := "(IZ)V" } : Jvm.MethodName) prog_1_method_5_code (3 : Nat) (Option.none : Option Jvm.ClassFile.FieldType)),
  (Jvm.Cond.methodLink "BuildDrawerLaw" (41 : Nat) ({ cls := "BuildDrawer", name := "shorter", desc := "()I" } : Jvm.MethodName)),
  (Jvm.Cond.instanceMethod ({ cls := "BuildDrawer", name := "shorter", desc := "()I" } : Jvm.MethodName)),
  (Jvm.Cond.selects "BuildDrawer" ({ cls := "BuildDrawer", name := "shorter", desc := "()I" } : Jvm.MethodName) ({ cls := "BuildDrawer", name := "shorter", desc := "()I" } : Jvm.MethodName)),
  (Jvm.Cond.code ({ cls := "BuildDrawer", name := "shorter", desc := "()I" } : Jvm.MethodName) prog_1_method_6_code (1 : Nat) (Option.some Jvm.ClassFile.FieldType.int)),
  (Jvm.Cond.methodLink "BuildDrawer" (111 : Nat) ({ cls := "BuildDrawer", name := "marksLeft", desc := "()I" } : Jvm.MethodName)),
  (Jvm.Cond.instanceMethod ({ cls := "BuildDrawer", name := "marksLeft", desc := "()I" } : Jvm.MethodName)),
  (Jvm.Cond.code ({ cls := "BuildDrawer", name := "marksLeft", desc := "()I" } : Jvm.MethodName) prog_1_method_14_code (3 : Nat) (Option.some Jvm.ClassFile.FieldType.int)),
  (Jvm.Cond.methodLink "BuildDrawer" (114 : Nat) ({ cls := "BuildDrawer", name := "holdsOf", desc := "(I)Z" } : Jvm.MethodName)),
  (Jvm.Cond.instanceMethod ({ cls := "BuildDrawer", name := "holdsOf", desc := "(I)Z" } : Jvm.MethodName)),
  (Jvm.Cond.code ({ cls := "BuildDrawer", name := "holdsOf", desc := "(I)Z" } : Jvm.MethodName) prog_1_method_16_code (3 : Nat) (Option.some Jvm.ClassFile.FieldType.boolean)),
  (Jvm.Cond.methodLink "BuildDrawer" (117 : Nat) ({ cls := "BuildDrawer", name := "leaveOutAllThatCanGo", desc := "()V" } : Jvm.MethodName)),
  (Jvm.Cond.instanceMethod ({ cls := "BuildDrawer", name := "leaveOutAllThatCanGo", desc := "()V" } : Jvm.MethodName)),
  (Jvm.Cond.code ({ cls := "BuildDrawer", name := "leaveOutAllThatCanGo", desc := "()V" } : Jvm.MethodName) prog_1_method_18_code (3 : Nat) (Option.none : Option Jvm.ClassFile.FieldType)),
  (Jvm.Cond.methodLink "BuildDrawer" (130 : Nat) ({ cls := "BuildDrawer", name := "leaveOutFromLastToFirst", desc := "()Z" } : Jvm.MethodName)),
  (Jvm.Cond.instanceMethod ({ cls := "BuildDrawer", name := "leaveOutFromLastToFirst", desc := "()Z" } : Jvm.MethodName)),
  (Jvm.Cond.code ({ cls := "BuildDrawer", name := "leaveOutFromLastToFirst", desc := "()Z" } : Jvm.MethodName) prog_1_method_19_code (3 : Nat) (Option.some Jvm.ClassFile.FieldType.boolean)),
  (Jvm.Cond.methodLink "BuildDrawer" (123 : Nat) ({ cls := "BuildDrawer", name := "canGo", desc := "(I)Z" } : Jvm.MethodName)),
  (Jvm.Cond.instanceMethod ({ cls := "BuildDrawer", name := "canGo", desc := "(I)Z" } : Jvm.MethodName)),
  (Jvm.Cond.code ({ cls := "BuildDrawer", name := "canGo", desc := "(I)Z" } : Jvm.MethodName) prog_1_method_17_code (4 : Nat) (Option.some Jvm.ClassFile.FieldType.boolean)),
  (Jvm.Cond.methodLink "BuildDrawer" (120 : Nat) ({ cls := "BuildDrawer", name := "countLeft", desc := "()I" } : Jvm.MethodName)),
  (Jvm.Cond.instanceMethod ({ cls := "BuildDrawer", name := "countLeft", desc := "()I" } : Jvm.MethodName)),
  (Jvm.Cond.code ({ cls := "BuildDrawer", name := "countLeft", desc := "()I" } : Jvm.MethodName) prog_1_method_13_code (3 : Nat) (Option.some Jvm.ClassFile.FieldType.int)),
  (Jvm.Cond.methodLink "BuildDrawerLaw" (46 : Nat) ({ cls := "BuildDrawer", name := "left", desc := "(I)I" } : Jvm.MethodName)),
  (Jvm.Cond.instanceMethod ({ cls := "BuildDrawer", name := "left", desc := "(I)I" } : Jvm.MethodName)),
  (Jvm.Cond.selects "BuildDrawer" ({ cls := "BuildDrawer", name := "left", desc := "(I)I" } : Jvm.MethodName) ({ cls := "BuildDrawer", name := "left", desc := "(I)I" } : Jvm.MethodName)),
  (Jvm.Cond.code ({ cls := "BuildDrawer", name := "left", desc := "(I)I" } : Jvm.MethodName) prog_1_method_7_code (4 : Nat) (Option.some Jvm.ClassFile.FieldType.int)),
  (Jvm.Cond.methodLink "BuildDrawerLaw" (50 : Nat) ({ cls := "BuildDrawer", name := "minimal", desc := "()Z" } : Jvm.MethodName)),
  (Jvm.Cond.instanceMethod ({ cls := "BuildDrawer", name := "minimal", desc := "()Z" } : Jvm.MethodName)),
  (Jvm.Cond.selects "BuildDrawer" ({ cls := "BuildDrawer", name := "minimal", desc := "()Z" } : Jvm.MethodName) ({ cls := "BuildDrawer", name := "minimal", desc := "()Z" } : Jvm.MethodName)),
  (Jvm.Cond.code ({ cls := "BuildDrawer", name := "minimal", desc := "()Z" } : Jvm.MethodName) prog_1_method_8_code (2 : Nat) (Option.some Jvm.ClassFile.FieldType.boolean)),
  (Jvm.Cond.methodLink "BuildDrawerLaw" (57 : Nat) ({ cls := "BuildDrawer", name := "same", desc := "(JII)Z" } : Jvm.MethodName)),
  (Jvm.Cond.instanceMethod ({ cls := "BuildDrawer", name := "same", desc := "(JII)Z" } : Jvm.MethodName)),
  (Jvm.Cond.selects "BuildDrawer" ({ cls := "BuildDrawer", name := "same", desc := "(JII)Z" } : Jvm.MethodName) ({ cls := "BuildDrawer", name := "same", desc := "(JII)Z" } : Jvm.MethodName)),
  (Jvm.Cond.code ({ cls := "BuildDrawer", name := "same", desc := "(JII)Z" } : Jvm.MethodName) prog_1_method_9_code (6 : Nat) (Option.some Jvm.ClassFile.FieldType.boolean)),
  (Jvm.Cond.instanceMethod ({ cls := "BuildDrawer$Drawing", name := "isAtTheLikeOf", desc := "(LBuildDrawer$Drawing;)Z" } : Jvm.MethodName)),
  (Jvm.Cond.code ({ cls := "BuildDrawer$Drawing", name := "isAtTheLikeOf", desc := "(LBuildDrawer$Drawing;)Z" } : Jvm.MethodName) prog_2_method_4_code (2 : Nat) (Option.some Jvm.ClassFile.FieldType.boolean)),
  (Jvm.Cond.methodLink "BuildDrawerLaw" (9 : Nat) ({ cls := "BuildDrawerLaw", name := "cell", desc := "([II)I" } : Jvm.MethodName)),
  (Jvm.Cond.static ({ cls := "BuildDrawerLaw", name := "cell", desc := "([II)I" } : Jvm.MethodName)),
  (Jvm.Cond.code ({ cls := "BuildDrawerLaw", name := "cell", desc := "([II)I" } : Jvm.MethodName) method_2_code (2 : Nat) (Option.some Jvm.ClassFile.FieldType.int)),
  (Jvm.Cond.classLink "BuildDrawerLaw" (18 : Nat) "BuildDrawerModel"),
  (Jvm.Cond.instantiable "BuildDrawerModel" (16 : Nat)),
  (Jvm.Cond.methodLink "BuildDrawerLaw" (20 : Nat) ({ cls := "BuildDrawerModel", name := "<init>", desc := "(J)V" } : Jvm.MethodName)),
  (Jvm.Cond.instanceMethod ({ cls := "BuildDrawerModel", name := "<init>", desc := "(J)V" } : Jvm.MethodName)),
  (Jvm.Cond.code ({ cls := "BuildDrawerModel", name := "<init>", desc := "(J)V" } : Jvm.MethodName) prog_4_method_1_code (3 : Nat) (Option.none : Option Jvm.ClassFile.FieldType)),
  (Jvm.Cond.methodLink "BuildDrawerModel" (1 : Nat) ({ cls := "java/lang/Object", name := "<init>", desc := "()V" } : Jvm.MethodName)),
  (Jvm.Cond.fieldLink "BuildDrawerModel" (37 : Nat) "BuildDrawerModel" "code" "I"),
  (Jvm.Cond.fieldLink "BuildDrawerModel" (33 : Nat) "BuildDrawerModel" "seed" "J"),
  (Jvm.Cond.fieldLink "BuildDrawerModel" (41 : Nat) "BuildDrawerModel" "word" "J"),
  (Jvm.Cond.fieldLink "BuildDrawerModel" (71 : Nat) "BuildDrawerModel" "parts" "I"),
  (Jvm.Cond.fieldLink "BuildDrawerModel" (74 : Nat) "BuildDrawerModel" "bits" "I"),
  (Jvm.Cond.fieldLink "BuildDrawerModel" (52 : Nat) "BuildDrawerModel" "planted" "I"),
  (Jvm.Cond.fieldLink "BuildDrawerModel" (7 : Nat) "BuildDrawerModel" "stays" "Z"),
  (Jvm.Cond.fieldLink "BuildDrawerModel" (13 : Nat) "BuildDrawerModel" "sort" "[I"),
  (Jvm.Cond.fieldLink "BuildDrawerModel" (17 : Nat) "BuildDrawerModel" "a" "[I"),
  (Jvm.Cond.fieldLink "BuildDrawerModel" (20 : Nat) "BuildDrawerModel" "b" "[I"),
  (Jvm.Cond.fieldLink "BuildDrawerModel" (23 : Nat) "BuildDrawerModel" "need" "[I"),
  (Jvm.Cond.fieldLink "BuildDrawerModel" (26 : Nat) "BuildDrawerModel" "mark" "[I"),
  (Jvm.Cond.fieldLink "BuildDrawerModel" (29 : Nat) "BuildDrawerModel" "is" "[Z"),
  (Jvm.Cond.fieldLink "BuildDrawerModel" (99 : Nat) "BuildDrawerModel" "wanted" "I"),
  (Jvm.Cond.fieldLink "BuildDrawerModel" (102 : Nat) "BuildDrawerModel" "found" "I"),
  (Jvm.Cond.fieldLink "BuildDrawerModel" (96 : Nat) "BuildDrawerModel" "seen" "I"),
  (Jvm.Cond.lays "BuildDrawerModel" "BuildDrawerModel" "code" "I"),
  (Jvm.Cond.laysFinal "BuildDrawerModel" "BuildDrawerModel" "seed" "J"),
  (Jvm.Cond.lays "BuildDrawerModel" "BuildDrawerModel" "word" "J"),
  (Jvm.Cond.lays "BuildDrawerModel" "BuildDrawerModel" "parts" "I"),
  (Jvm.Cond.lays "BuildDrawerModel" "BuildDrawerModel" "bits" "I"),
  (Jvm.Cond.lays "BuildDrawerModel" "BuildDrawerModel" "planted" "I"),
  (Jvm.Cond.lays "BuildDrawerModel" "BuildDrawerModel" "stays" "Z"),
  (Jvm.Cond.laysFinal "BuildDrawerModel" "BuildDrawerModel" "sort" "[I"),
  (Jvm.Cond.laysFinal "BuildDrawerModel" "BuildDrawerModel" "a" "[I"),
  (Jvm.Cond.laysFinal "BuildDrawerModel" "BuildDrawerModel" "b" "[I"),
  (Jvm.Cond.laysFinal "BuildDrawerModel" "BuildDrawerModel" "need" "[I"),
  (Jvm.Cond.laysFinal "BuildDrawerModel" "BuildDrawerModel" "mark" "[I"),
  (Jvm.Cond.laysFinal "BuildDrawerModel" "BuildDrawerModel" "is" "[Z"),
  (Jvm.Cond.lays "BuildDrawerModel" "BuildDrawerModel" "wanted" "I"),
  (Jvm.Cond.lays "BuildDrawerModel" "BuildDrawerModel" "found" "I"),
  (Jvm.Cond.lays "BuildDrawerModel" "BuildDrawerModel" "seen" "I"),
  (Jvm.Cond.methodLink "BuildDrawerLaw" (25 : Nat) ({ cls := "BuildDrawerModel", name := "draw", desc := "(II)I" } : Jvm.MethodName)),
  (Jvm.Cond.instanceMethod ({ cls := "BuildDrawerModel", name := "draw", desc := "(II)I" } : Jvm.MethodName)),
  (Jvm.Cond.selects "BuildDrawerModel" ({ cls := "BuildDrawerModel", name := "draw", desc := "(II)I" } : Jvm.MethodName) ({ cls := "BuildDrawerModel", name := "draw", desc := "(II)I" } : Jvm.MethodName)),
  (Jvm.Cond.code ({ cls := "BuildDrawerModel", name := "draw", desc := "(II)I" } : Jvm.MethodName) prog_4_method_8_code (4 : Nat) (Option.some Jvm.ClassFile.FieldType.int)),
  (Jvm.Cond.methodLink "BuildDrawerModel" (63 : Nat) ({ cls := "BuildDrawerModel", name := "isSuch", desc := "(II)Z" } : Jvm.MethodName)),
  (Jvm.Cond.static ({ cls := "BuildDrawerModel", name := "isSuch", desc := "(II)Z" } : Jvm.MethodName)),
  (Jvm.Cond.code ({ cls := "BuildDrawerModel", name := "isSuch", desc := "(II)Z" } : Jvm.MethodName) prog_4_method_7_code (2 : Nat) (Option.some Jvm.ClassFile.FieldType.boolean)),
  (Jvm.Cond.methodLink "BuildDrawerModel" (67 : Nat) ({ cls := "BuildDrawerModel", name := "fill", desc := "(JIII)V" } : Jvm.MethodName)),
  (Jvm.Cond.instanceMethod ({ cls := "BuildDrawerModel", name := "fill", desc := "(JIII)V" } : Jvm.MethodName)),
  (Jvm.Cond.code ({ cls := "BuildDrawerModel", name := "fill", desc := "(JIII)V" } : Jvm.MethodName) prog_4_method_6_code (9 : Nat) (Option.none : Option Jvm.ClassFile.FieldType)),
  (Jvm.Cond.constantLong "BuildDrawerModel" (55 : Nat) (2862933555777941757 : Int64)),
  (Jvm.Cond.methodLink "BuildDrawerModel" (48 : Nat) ({ cls := "BuildDrawerModel", name := "chance", desc := "(I)I" } : Jvm.MethodName)),
  (Jvm.Cond.instanceMethod ({ cls := "BuildDrawerModel", name := "chance", desc := "(I)I" } : Jvm.MethodName)),
  (Jvm.Cond.code ({ cls := "BuildDrawerModel", name := "chance", desc := "(I)I" } : Jvm.MethodName) prog_4_method_3_code (2 : Nat) (Option.some Jvm.ClassFile.FieldType.int)),
  (Jvm.Cond.constantLong "BuildDrawerModel" (44 : Nat) (6364136223846793005 : Int64)),
  (Jvm.Cond.constantLong "BuildDrawerModel" (46 : Nat) (1442695040888963407 : Int64)),
  (Jvm.Cond.methodLink "BuildDrawerModel" (57 : Nat) ({ cls := "BuildDrawerModel", name := "sortOf", desc := "(I)I" } : Jvm.MethodName)),
  (Jvm.Cond.static ({ cls := "BuildDrawerModel", name := "sortOf", desc := "(I)I" } : Jvm.MethodName)),
  (Jvm.Cond.code ({ cls := "BuildDrawerModel", name := "sortOf", desc := "(I)I" } : Jvm.MethodName) prog_4_method_4_code (1 : Nat) (Option.some Jvm.ClassFile.FieldType.int)),
  (Jvm.Cond.methodLink "BuildDrawerModel" (60 : Nat) ({ cls := "BuildDrawerModel", name := "drawB", desc := "(I)I" } : Jvm.MethodName)),
  (Jvm.Cond.instanceMethod ({ cls := "BuildDrawerModel", name := "drawB", desc := "(I)I" } : Jvm.MethodName)),
  (Jvm.Cond.code ({ cls := "BuildDrawerModel", name := "drawB", desc := "(I)I" } : Jvm.MethodName) prog_4_method_5_code (3 : Nat) (Option.some Jvm.ClassFile.FieldType.int)),
  (Jvm.Cond.methodLink "BuildDrawerLaw" (61 : Nat) ({ cls := "BuildDrawerModel", name := "same", desc := "(JII)Z" } : Jvm.MethodName)),
  (Jvm.Cond.instanceMethod ({ cls := "BuildDrawerModel", name := "same", desc := "(JII)Z" } : Jvm.MethodName)),
  (Jvm.Cond.selects "BuildDrawerModel" ({ cls := "BuildDrawerModel", name := "same", desc := "(JII)Z" } : Jvm.MethodName) ({ cls := "BuildDrawerModel", name := "same", desc := "(JII)Z" } : Jvm.MethodName)),
  (Jvm.Cond.code ({ cls := "BuildDrawerModel", name := "same", desc := "(JII)Z" } : Jvm.MethodName) prog_4_method_9_code (12 : Nat) (Option.some Jvm.ClassFile.FieldType.boolean)),
  (Jvm.Cond.methodLink "BuildDrawerLaw" (40 : Nat) ({ cls := "BuildDrawerModel", name := "verdict", desc := "(IZ)V" } : Jvm.MethodName)),
  (Jvm.Cond.instanceMethod ({ cls := "BuildDrawerModel", name := "verdict", desc := "(IZ)V" } : Jvm.MethodName)),
  (Jvm.Cond.selects "BuildDrawerModel" ({ cls := "BuildDrawerModel", name := "verdict", desc := "(IZ)V" } : Jvm.MethodName) ({ cls := "BuildDrawerModel", name := "verdict", desc := "(IZ)V" } : Jvm.MethodName)),
  (Jvm.Cond.code ({ cls := "BuildDrawerModel", name := "verdict", desc := "(IZ)V" } : Jvm.MethodName) prog_4_method_10_code (3 : Nat) (Option.none : Option Jvm.ClassFile.FieldType)),
  (Jvm.Cond.methodLink "BuildDrawerLaw" (45 : Nat) ({ cls := "BuildDrawerModel", name := "shorter", desc := "()I" } : Jvm.MethodName)),
  (Jvm.Cond.instanceMethod ({ cls := "BuildDrawerModel", name := "shorter", desc := "()I" } : Jvm.MethodName)),
  (Jvm.Cond.selects "BuildDrawerModel" ({ cls := "BuildDrawerModel", name := "shorter", desc := "()I" } : Jvm.MethodName) ({ cls := "BuildDrawerModel", name := "shorter", desc := "()I" } : Jvm.MethodName)),
  (Jvm.Cond.code ({ cls := "BuildDrawerModel", name := "shorter", desc := "()I" } : Jvm.MethodName) prog_4_method_14_code (3 : Nat) (Option.some Jvm.ClassFile.FieldType.int)),
  (Jvm.Cond.methodLink "BuildDrawerModel" (77 : Nat) ({ cls := "BuildDrawerModel", name := "holds", desc := "(I)Z" } : Jvm.MethodName)),
  (Jvm.Cond.instanceMethod ({ cls := "BuildDrawerModel", name := "holds", desc := "(I)Z" } : Jvm.MethodName)),
  (Jvm.Cond.code ({ cls := "BuildDrawerModel", name := "holds", desc := "(I)Z" } : Jvm.MethodName) prog_4_method_11_code (4 : Nat) (Option.some Jvm.ClassFile.FieldType.boolean)),
  (Jvm.Cond.methodLink "BuildDrawerModel" (81 : Nat) ({ cls := "BuildDrawerModel", name := "canGo", desc := "(I)Z" } : Jvm.MethodName)),
  (Jvm.Cond.instanceMethod ({ cls := "BuildDrawerModel", name := "canGo", desc := "(I)Z" } : Jvm.MethodName)),
  (Jvm.Cond.code ({ cls := "BuildDrawerModel", name := "canGo", desc := "(I)Z" } : Jvm.MethodName) prog_4_method_12_code (3 : Nat) (Option.some Jvm.ClassFile.FieldType.boolean)),
  (Jvm.Cond.methodLink "BuildDrawerModel" (84 : Nat) ({ cls := "BuildDrawerModel", name := "count", desc := "()I" } : Jvm.MethodName)),
  (Jvm.Cond.instanceMethod ({ cls := "BuildDrawerModel", name := "count", desc := "()I" } : Jvm.MethodName)),
  (Jvm.Cond.code ({ cls := "BuildDrawerModel", name := "count", desc := "()I" } : Jvm.MethodName) prog_4_method_13_code (3 : Nat) (Option.some Jvm.ClassFile.FieldType.int)),
  (Jvm.Cond.methodLink "BuildDrawerLaw" (54 : Nat) ({ cls := "BuildDrawerModel", name := "minimal", desc := "()Z" } : Jvm.MethodName)),
  (Jvm.Cond.instanceMethod ({ cls := "BuildDrawerModel", name := "minimal", desc := "()Z" } : Jvm.MethodName)),
  (Jvm.Cond.selects "BuildDrawerModel" ({ cls := "BuildDrawerModel", name := "minimal", desc := "()Z" } : Jvm.MethodName) ({ cls := "BuildDrawerModel", name := "minimal", desc := "()Z" } : Jvm.MethodName)),
  (Jvm.Cond.code ({ cls := "BuildDrawerModel", name := "minimal", desc := "()Z" } : Jvm.MethodName) prog_4_method_15_code (3 : Nat) (Option.some Jvm.ClassFile.FieldType.boolean)),
  (Jvm.Cond.methodLink "BuildDrawerLaw" (49 : Nat) ({ cls := "BuildDrawerModel", name := "left", desc := "(I)I" } : Jvm.MethodName)),
  (Jvm.Cond.instanceMethod ({ cls := "BuildDrawerModel", name := "left", desc := "(I)I" } : Jvm.MethodName)),
  (Jvm.Cond.selects "BuildDrawerModel" ({ cls := "BuildDrawerModel", name := "left", desc := "(I)I" } : Jvm.MethodName) ({ cls := "BuildDrawerModel", name := "left", desc := "(I)I" } : Jvm.MethodName)),
  (Jvm.Cond.code ({ cls := "BuildDrawerModel", name := "left", desc := "(I)I" } : Jvm.MethodName) prog_4_method_16_code (4 : Nat) (Option.some Jvm.ClassFile.FieldType.int)),
  (Jvm.Cond.methodLink "BuildDrawerLaw" (30 : Nat) ({ cls := "BuildDrawerModel", name := "part", desc := "(II)J" } : Jvm.MethodName)),
  (Jvm.Cond.instanceMethod ({ cls := "BuildDrawerModel", name := "part", desc := "(II)J" } : Jvm.MethodName)),
  (Jvm.Cond.selects "BuildDrawerModel" ({ cls := "BuildDrawerModel", name := "part", desc := "(II)J" } : Jvm.MethodName) ({ cls := "BuildDrawerModel", name := "part", desc := "(II)J" } : Jvm.MethodName)),
  (Jvm.Cond.code ({ cls := "BuildDrawerModel", name := "part", desc := "(II)J" } : Jvm.MethodName) prog_4_method_17_code (3 : Nat) (Option.some Jvm.ClassFile.FieldType.long)),
  (Jvm.Cond.constantLong "BuildDrawerModel" (88 : Nat) (-1 : Int64)),
  (Jvm.Cond.methodLink "BuildDrawerModel" (90 : Nat) ({ cls := "BuildDrawerModel", name := "shared", desc := "()J" } : Jvm.MethodName)),
  (Jvm.Cond.instanceMethod ({ cls := "BuildDrawerModel", name := "shared", desc := "()J" } : Jvm.MethodName)),
  (Jvm.Cond.code ({ cls := "BuildDrawerModel", name := "shared", desc := "()J" } : Jvm.MethodName) prog_4_method_18_code (4 : Nat) (Option.some Jvm.ClassFile.FieldType.long)),
  (Jvm.Cond.constantLong "BuildDrawerModel" (94 : Nat) (-2 : Int64)),
  (Jvm.Cond.methodLink "BuildDrawerLaw" (35 : Nat) ({ cls := "BuildDrawerModel", name := "letter", desc := "(I)I" } : Jvm.MethodName)),
  (Jvm.Cond.instanceMethod ({ cls := "BuildDrawerModel", name := "letter", desc := "(I)I" } : Jvm.MethodName)),
  (Jvm.Cond.selects "BuildDrawerModel" ({ cls := "BuildDrawerModel", name := "letter", desc := "(I)I" } : Jvm.MethodName) ({ cls := "BuildDrawerModel", name := "letter", desc := "(I)I" } : Jvm.MethodName)),
  (Jvm.Cond.code ({ cls := "BuildDrawerModel", name := "letter", desc := "(I)I" } : Jvm.MethodName) prog_4_method_22_code (3 : Nat) (Option.some Jvm.ClassFile.FieldType.int)),
  (Jvm.Cond.methodLink "BuildDrawerModel" (109 : Nat) ({ cls := "BuildDrawerModel", name := "letterOf", desc := "(I)I" } : Jvm.MethodName)),
  (Jvm.Cond.static ({ cls := "BuildDrawerModel", name := "letterOf", desc := "(I)I" } : Jvm.MethodName)),
  (Jvm.Cond.code ({ cls := "BuildDrawerModel", name := "letterOf", desc := "(I)I" } : Jvm.MethodName) prog_4_method_21_code (1 : Nat) (Option.some Jvm.ClassFile.FieldType.int)),
  (Jvm.Cond.methodLink "BuildDrawerModel" (105 : Nat) ({ cls := "BuildDrawerModel", name := "say", desc := "(I)V" } : Jvm.MethodName)),
  (Jvm.Cond.instanceMethod ({ cls := "BuildDrawerModel", name := "say", desc := "(I)V" } : Jvm.MethodName)),
  (Jvm.Cond.code ({ cls := "BuildDrawerModel", name := "say", desc := "(I)V" } : Jvm.MethodName) prog_4_method_19_code (2 : Nat) (Option.none : Option Jvm.ClassFile.FieldType)),
  (Jvm.Cond.methodLink "BuildDrawerModel" (112 : Nat) ({ cls := "BuildDrawerModel", name := "sayNumber", desc := "(I)V" } : Jvm.MethodName)),
  (Jvm.Cond.instanceMethod ({ cls := "BuildDrawerModel", name := "sayNumber", desc := "(I)V" } : Jvm.MethodName)),
  (Jvm.Cond.code ({ cls := "BuildDrawerModel", name := "sayNumber", desc := "(I)V" } : Jvm.MethodName) prog_4_method_20_code (3 : Nat) (Option.none : Option Jvm.ClassFile.FieldType)),
  (Jvm.Cond.constantLong "BuildDrawerLaw" (55 : Nat) (4294967295 : Int64)),
  (Jvm.Cond.fieldLink "java/lang/String" (9 : Nat) "java/lang/String" "value" "[B"),
  (Jvm.Cond.fieldLink "java/lang/String" (15 : Nat) "java/lang/String" "coder" "B")]
def cw_ps : List Nat := [0, 1, 2, 3, 4, 5, 6, 7, 8, 9, 10, 11, 12, 13, 14, 15, 16, 17, 18, 19, 20, 21, 22, 23, 24, 25, 26, 27, 28, 29, 30, 31, 32, 33, 34, 35, 36, 37, 38, 40, 41, 42, 43, 44, 45, 46, 47, 48, 49, 51, 52, 53, 54, 55, 56, 57, 58, 60, 62, 64, 66, 68, 70, 72, 74, 76, 78, 80, 82, 84, 87, 88, 89, 90, 91, 92, 93, 94, 95, 96, 97, 98, 99, 100, 101, 103, 105, 107, 109, 111, 113, 115, 117, 119, 121, 123, 125, 127, 130, 131, 132, 133, 134, 135, 136, 137, 138, 139, 142, 143, 144, 147, 149, 150, 151, 152, 153, 154, 155, 158, 159, 160, 162, 163, 164, 166, 167, 168, 170, 171, 172, 174, 175, 176, 178, 179, 180, 181, 182, 183, 184, 186, 187, 188, 189, 191, 192, 193, 194, 195, 196, 197, 198, 199, 200, 201, 202, 203, 204, 206, 207, 208, 210, 211, 212, 213, 214, 216, 217, 218, 219, 220, 221, 222, 223, 224, 226, 227, 228, 229, 230, 231, 232, 233, 234, 235, 236, 237, 238, 239, 240, 242, 243, 244, 264, 266, 267, 268, 270, 271, 272, 274, 275, 276, 277, 278, 279, 280, 281, 282, 283, 284, 285, 287, 288, 289, 291, 292, 293, 295, 296, 297, 299, 300, 301, 303, 304, 305, 307, 308, 309, 310, 311, 312, 313, 314, 315, 316, 317, 318, 319, 320, 323, 324, 325, 326, 327, 328, 329, 330, 331, 332, 333, 334, 335, 336, 337, 338, 339, 340, 341, 342, 343, 344, 345, 346, 347, 348, 349, 350, 352, 354, 356, 358, 360, 362, 364, 366, 368, 370, 372, 374, 376, 378, 380, 383, 384, 385, 386, 387, 388, 389, 390, 392, 393, 394, 395, 397, 398, 399, 400, 401, 402, 403, 404, 406, 407, 408, 409, 410, 411, 412, 413, 414, 415, 416, 417, 418, 419, 420, 422, 423, 424, 426, 427, 428, 430, 431, 432, 433, 434, 435, 436, 437, 438, 439, 440, 441, 442, 443, 444, 445, 447, 448, 449, 450, 451, 452, 453, 454, 455, 456, 457, 459, 460, 461, 463, 464, 465, 466, 467]
set_option maxRecDepth 100000 in
theorem cw_eq : cw = cw_ps.filterMap (fun i => lw_tbl[i]?) := by rfl
theorem cw_tbl : ∀ w ∈ cw, w ∈ lw_tbl := by
  intro w h
  rw [cw_eq] at h
  obtain ⟨i, -, hi⟩ := List.mem_filterMap.mp h
  exact List.mem_of_getElem? hi
theorem cw_all : cw.all goodWord = true := by decide +kernel
theorem cw_good : ∀ w ∈ cw, (w.onTables && w.keeps) = true ∨ ∃ ty, w = Cond.arrayClass ty := fun w h => good_of_word (List.all_eq_true.mp cw_all w h)
set_option maxRecDepth 20000 in
theorem ks_D_begin : (Jvm.Cond.selects "BuildDrawer$Drawing" ({ cls := "BuildDrawer$Drawing", name := "begin", desc := "(JII)V" } : Jvm.MethodName) ({ cls := "BuildDrawer$Drawing", name := "begin", desc := "(JII)V" } : Jvm.MethodName)) ∈ cw := List.mem_of_getElem? (i := 0) (by rfl)
set_option maxRecDepth 20000 in
theorem ks_D_chance : (Jvm.Cond.selects "BuildDrawer$Drawing" ({ cls := "BuildDrawer$Drawing", name := "chance", desc := "(I)I" } : Jvm.MethodName) ({ cls := "BuildDrawer$Drawing", name := "chance", desc := "(I)I" } : Jvm.MethodName)) ∈ cw := List.mem_of_getElem? (i := 1) (by rfl)
set_option maxRecDepth 20000 in
theorem ks_D_next : (Jvm.Cond.selects "BuildDrawer$Drawing" ({ cls := "BuildDrawer$Drawing", name := "next", desc := "()V" } : Jvm.MethodName) ({ cls := "BuildDrawer$Drawing", name := "next", desc := "()V" } : Jvm.MethodName)) ∈ cw := List.mem_of_getElem? (i := 2) (by rfl)
set_option maxRecDepth 20000 in
theorem ks_D_nextSort : (Jvm.Cond.selects "BuildDrawer$Drawing" ({ cls := "BuildDrawer$Drawing", name := "nextSort", desc := "()I" } : Jvm.MethodName) ({ cls := "BuildDrawer$Drawing", name := "nextSort", desc := "()I" } : Jvm.MethodName)) ∈ cw := List.mem_of_getElem? (i := 3) (by rfl)
set_option maxRecDepth 20000 in
theorem ks_D_nextB : (Jvm.Cond.selects "BuildDrawer$Drawing" ({ cls := "BuildDrawer$Drawing", name := "nextB", desc := "()I" } : Jvm.MethodName) ({ cls := "BuildDrawer$Drawing", name := "nextB", desc := "()I" } : Jvm.MethodName)) ∈ cw := List.mem_of_getElem? (i := 4) (by rfl)
set_option maxRecDepth 20000 in
theorem ks_D_nextBOfStep : (Jvm.Cond.selects "BuildDrawer$Drawing" ({ cls := "BuildDrawer$Drawing", name := "nextBOfStep", desc := "()I" } : Jvm.MethodName) ({ cls := "BuildDrawer$Drawing", name := "nextBOfStep", desc := "()I" } : Jvm.MethodName)) ∈ cw := List.mem_of_getElem? (i := 5) (by rfl)
set_option maxRecDepth 20000 in
theorem ks_D_nextNeed : (Jvm.Cond.selects "BuildDrawer$Drawing" ({ cls := "BuildDrawer$Drawing", name := "nextNeed", desc := "()I" } : Jvm.MethodName) ({ cls := "BuildDrawer$Drawing", name := "nextNeed", desc := "()I" } : Jvm.MethodName)) ∈ cw := List.mem_of_getElem? (i := 6) (by rfl)
set_option maxRecDepth 20000 in
theorem ks_B_takeAllBack : (Jvm.Cond.selects "BuildDrawer" ({ cls := "BuildDrawer", name := "takeAllBack", desc := "()V" } : Jvm.MethodName) ({ cls := "BuildDrawer", name := "takeAllBack", desc := "()V" } : Jvm.MethodName)) ∈ cw := List.mem_of_getElem? (i := 7) (by rfl)
set_option maxRecDepth 20000 in
theorem ks_B_isPart : (Jvm.Cond.selects "BuildDrawer" ({ cls := "BuildDrawer", name := "isPart", desc := "(I)Z" } : Jvm.MethodName) ({ cls := "BuildDrawer", name := "isPart", desc := "(I)Z" } : Jvm.MethodName)) ∈ cw := List.mem_of_getElem? (i := 8) (by rfl)
set_option maxRecDepth 20000 in
theorem ks_B_commonSet : (Jvm.Cond.selects "BuildDrawer" ({ cls := "BuildDrawer", name := "commonSet", desc := "()I" } : Jvm.MethodName) ({ cls := "BuildDrawer", name := "commonSet", desc := "()I" } : Jvm.MethodName)) ∈ cw := List.mem_of_getElem? (i := 9) (by rfl)
set_option maxRecDepth 20000 in
theorem ks_B_writeText : (Jvm.Cond.selects "BuildDrawer" ({ cls := "BuildDrawer", name := "writeText", desc := "()V" } : Jvm.MethodName) ({ cls := "BuildDrawer", name := "writeText", desc := "()V" } : Jvm.MethodName)) ∈ cw := List.mem_of_getElem? (i := 10) (by rfl)
set_option maxRecDepth 20000 in
theorem ks_B_writePart : (Jvm.Cond.selects "BuildDrawer" ({ cls := "BuildDrawer", name := "writePart", desc := "(I)V" } : Jvm.MethodName) ({ cls := "BuildDrawer", name := "writePart", desc := "(I)V" } : Jvm.MethodName)) ∈ cw := List.mem_of_getElem? (i := 11) (by rfl)
set_option maxRecDepth 20000 in
theorem ks_B_writeSign : (Jvm.Cond.selects "BuildDrawer" ({ cls := "BuildDrawer", name := "writeSign", desc := "(C)V" } : Jvm.MethodName) ({ cls := "BuildDrawer", name := "writeSign", desc := "(C)V" } : Jvm.MethodName)) ∈ cw := List.mem_of_getElem? (i := 12) (by rfl)
set_option maxRecDepth 20000 in
theorem ks_B_writeNumber : (Jvm.Cond.selects "BuildDrawer" ({ cls := "BuildDrawer", name := "writeNumber", desc := "(I)V" } : Jvm.MethodName) ({ cls := "BuildDrawer", name := "writeNumber", desc := "(I)V" } : Jvm.MethodName)) ∈ cw := List.mem_of_getElem? (i := 13) (by rfl)
set_option maxRecDepth 20000 in
theorem ks_B_writeDigit : (Jvm.Cond.selects "BuildDrawer" ({ cls := "BuildDrawer", name := "writeDigit", desc := "(I)V" } : Jvm.MethodName) ({ cls := "BuildDrawer", name := "writeDigit", desc := "(I)V" } : Jvm.MethodName)) ∈ cw := List.mem_of_getElem? (i := 14) (by rfl)
set_option maxRecDepth 20000 in
theorem ks_B_marksLeft : (Jvm.Cond.selects "BuildDrawer" ({ cls := "BuildDrawer", name := "marksLeft", desc := "()I" } : Jvm.MethodName) ({ cls := "BuildDrawer", name := "marksLeft", desc := "()I" } : Jvm.MethodName)) ∈ cw := List.mem_of_getElem? (i := 15) (by rfl)
set_option maxRecDepth 20000 in
theorem ks_B_holdsOf : (Jvm.Cond.selects "BuildDrawer" ({ cls := "BuildDrawer", name := "holdsOf", desc := "(I)Z" } : Jvm.MethodName) ({ cls := "BuildDrawer", name := "holdsOf", desc := "(I)Z" } : Jvm.MethodName)) ∈ cw := List.mem_of_getElem? (i := 16) (by rfl)
set_option maxRecDepth 20000 in
theorem ks_B_leaveOutAllThatCanGo : (Jvm.Cond.selects "BuildDrawer" ({ cls := "BuildDrawer", name := "leaveOutAllThatCanGo", desc := "()V" } : Jvm.MethodName) ({ cls := "BuildDrawer", name := "leaveOutAllThatCanGo", desc := "()V" } : Jvm.MethodName)) ∈ cw := List.mem_of_getElem? (i := 17) (by rfl)
set_option maxRecDepth 20000 in
theorem ks_B_leaveOutFromLastToFirst : (Jvm.Cond.selects "BuildDrawer" ({ cls := "BuildDrawer", name := "leaveOutFromLastToFirst", desc := "()Z" } : Jvm.MethodName) ({ cls := "BuildDrawer", name := "leaveOutFromLastToFirst", desc := "()Z" } : Jvm.MethodName)) ∈ cw := List.mem_of_getElem? (i := 18) (by rfl)
set_option maxRecDepth 20000 in
theorem ks_B_canGo : (Jvm.Cond.selects "BuildDrawer" ({ cls := "BuildDrawer", name := "canGo", desc := "(I)Z" } : Jvm.MethodName) ({ cls := "BuildDrawer", name := "canGo", desc := "(I)Z" } : Jvm.MethodName)) ∈ cw := List.mem_of_getElem? (i := 19) (by rfl)
set_option maxRecDepth 20000 in
theorem ks_B_countLeft : (Jvm.Cond.selects "BuildDrawer" ({ cls := "BuildDrawer", name := "countLeft", desc := "()I" } : Jvm.MethodName) ({ cls := "BuildDrawer", name := "countLeft", desc := "()I" } : Jvm.MethodName)) ∈ cw := List.mem_of_getElem? (i := 20) (by rfl)
set_option maxRecDepth 20000 in
theorem ks_D_isAtTheLikeOf : (Jvm.Cond.selects "BuildDrawer$Drawing" ({ cls := "BuildDrawer$Drawing", name := "isAtTheLikeOf", desc := "(LBuildDrawer$Drawing;)Z" } : Jvm.MethodName) ({ cls := "BuildDrawer$Drawing", name := "isAtTheLikeOf", desc := "(LBuildDrawer$Drawing;)Z" } : Jvm.MethodName)) ∈ cw := List.mem_of_getElem? (i := 21) (by rfl)
set_option maxRecDepth 20000 in
theorem ks_M_fill : (Jvm.Cond.selects "BuildDrawerModel" ({ cls := "BuildDrawerModel", name := "fill", desc := "(JIII)V" } : Jvm.MethodName) ({ cls := "BuildDrawerModel", name := "fill", desc := "(JIII)V" } : Jvm.MethodName)) ∈ cw := List.mem_of_getElem? (i := 22) (by rfl)
set_option maxRecDepth 20000 in
theorem ks_M_chance : (Jvm.Cond.selects "BuildDrawerModel" ({ cls := "BuildDrawerModel", name := "chance", desc := "(I)I" } : Jvm.MethodName) ({ cls := "BuildDrawerModel", name := "chance", desc := "(I)I" } : Jvm.MethodName)) ∈ cw := List.mem_of_getElem? (i := 23) (by rfl)
set_option maxRecDepth 20000 in
theorem ks_M_drawB : (Jvm.Cond.selects "BuildDrawerModel" ({ cls := "BuildDrawerModel", name := "drawB", desc := "(I)I" } : Jvm.MethodName) ({ cls := "BuildDrawerModel", name := "drawB", desc := "(I)I" } : Jvm.MethodName)) ∈ cw := List.mem_of_getElem? (i := 24) (by rfl)
set_option maxRecDepth 20000 in
theorem ks_M_holds : (Jvm.Cond.selects "BuildDrawerModel" ({ cls := "BuildDrawerModel", name := "holds", desc := "(I)Z" } : Jvm.MethodName) ({ cls := "BuildDrawerModel", name := "holds", desc := "(I)Z" } : Jvm.MethodName)) ∈ cw := List.mem_of_getElem? (i := 25) (by rfl)
set_option maxRecDepth 20000 in
theorem ks_M_canGo : (Jvm.Cond.selects "BuildDrawerModel" ({ cls := "BuildDrawerModel", name := "canGo", desc := "(I)Z" } : Jvm.MethodName) ({ cls := "BuildDrawerModel", name := "canGo", desc := "(I)Z" } : Jvm.MethodName)) ∈ cw := List.mem_of_getElem? (i := 26) (by rfl)
set_option maxRecDepth 20000 in
theorem ks_M_count : (Jvm.Cond.selects "BuildDrawerModel" ({ cls := "BuildDrawerModel", name := "count", desc := "()I" } : Jvm.MethodName) ({ cls := "BuildDrawerModel", name := "count", desc := "()I" } : Jvm.MethodName)) ∈ cw := List.mem_of_getElem? (i := 27) (by rfl)
set_option maxRecDepth 20000 in
theorem ks_M_shared : (Jvm.Cond.selects "BuildDrawerModel" ({ cls := "BuildDrawerModel", name := "shared", desc := "()J" } : Jvm.MethodName) ({ cls := "BuildDrawerModel", name := "shared", desc := "()J" } : Jvm.MethodName)) ∈ cw := List.mem_of_getElem? (i := 28) (by rfl)
set_option maxRecDepth 20000 in
theorem ks_M_say : (Jvm.Cond.selects "BuildDrawerModel" ({ cls := "BuildDrawerModel", name := "say", desc := "(I)V" } : Jvm.MethodName) ({ cls := "BuildDrawerModel", name := "say", desc := "(I)V" } : Jvm.MethodName)) ∈ cw := List.mem_of_getElem? (i := 29) (by rfl)
set_option maxRecDepth 20000 in
theorem ks_M_sayNumber : (Jvm.Cond.selects "BuildDrawerModel" ({ cls := "BuildDrawerModel", name := "sayNumber", desc := "(I)V" } : Jvm.MethodName) ({ cls := "BuildDrawerModel", name := "sayNumber", desc := "(I)V" } : Jvm.MethodName)) ∈ cw := List.mem_of_getElem? (i := 30) (by rfl)
set_option maxRecDepth 20000 in
theorem k_0 : (Jvm.Cond.initialized "BuildDrawerLaw") ∈ cw := List.mem_of_getElem? (i := 31) (by rfl)
set_option maxRecDepth 20000 in
theorem k_1 : (Jvm.Cond.initialized "BuildDrawer") ∈ cw := List.mem_of_getElem? (i := 32) (by rfl)
set_option maxRecDepth 20000 in
theorem k_2 : (Jvm.Cond.initialized "BuildDrawer$Drawing") ∈ cw := List.mem_of_getElem? (i := 33) (by rfl)
set_option maxRecDepth 20000 in
theorem k_3 : (Jvm.Cond.initialized "BuildDrawerModel") ∈ cw := List.mem_of_getElem? (i := 34) (by rfl)
set_option maxRecDepth 20000 in
theorem k_4 : (Jvm.Cond.initialized "java/lang/Integer") ∈ cw := List.mem_of_getElem? (i := 35) (by rfl)
set_option maxRecDepth 20000 in
theorem k_5 : (Jvm.Cond.initialized "java/lang/String") ∈ cw := List.mem_of_getElem? (i := 36) (by rfl)
set_option maxRecDepth 20000 in
theorem k_6 : (Jvm.Cond.initialized "java/lang/StringLatin1") ∈ cw := List.mem_of_getElem? (i := 37) (by rfl)
set_option maxRecDepth 20000 in
theorem k_7 : (Jvm.Cond.initialized "jdk/internal/util/Preconditions") ∈ cw := List.mem_of_getElem? (i := 38) (by rfl)
set_option maxRecDepth 20000 in
theorem k_9 : (Jvm.Cond.classLink "BuildDrawerLaw" (7 : Nat) "BuildDrawer") ∈ cw := List.mem_of_getElem? (i := 39) (by rfl)
set_option maxRecDepth 20000 in
theorem k_10 : (Jvm.Cond.instantiable "BuildDrawer" (14 : Nat)) ∈ cw := List.mem_of_getElem? (i := 40) (by rfl)
set_option maxRecDepth 20000 in
theorem k_11 : (Jvm.Cond.methodLink "BuildDrawerLaw" (15 : Nat) ({ cls := "BuildDrawer", name := "<init>", desc := "(J)V" } : Jvm.MethodName)) ∈ cw := List.mem_of_getElem? (i := 41) (by rfl)
set_option maxRecDepth 20000 in
theorem k_12 : (Jvm.Cond.instanceMethod ({ cls := "BuildDrawer", name := "<init>", desc := "(J)V" } : Jvm.MethodName)) ∈ cw := List.mem_of_getElem? (i := 42) (by rfl)
set_option maxRecDepth 20000 in
theorem k_13 : (Jvm.Cond.code ({ cls := "BuildDrawer", name := "<init>", desc := "(J)V" } : Jvm.MethodName) prog_1_method_1_code (3 : Nat) (Option.none : Option Jvm.ClassFile.FieldType)) ∈ cw := List.mem_of_getElem? (i := 43) (by rfl)
set_option maxRecDepth 20000 in
theorem k_14 : (Jvm.Cond.methodLink "BuildDrawer" (3 : Nat) ({ cls := "java/lang/Object", name := "<init>", desc := "()V" } : Jvm.MethodName)) ∈ cw := List.mem_of_getElem? (i := 44) (by rfl)
set_option maxRecDepth 20000 in
theorem k_15 : (Jvm.Cond.instanceMethod ({ cls := "java/lang/Object", name := "<init>", desc := "()V" } : Jvm.MethodName)) ∈ cw := List.mem_of_getElem? (i := 45) (by rfl)
set_option maxRecDepth 20000 in
theorem k_16 : (Jvm.Cond.code ({ cls := "java/lang/Object", name := "<init>", desc := "()V" } : Jvm.MethodName) object_method_1_code (1 : Nat) (Option.none : Option Jvm.ClassFile.FieldType)) ∈ cw := List.mem_of_getElem? (i := 46) (by rfl)
set_option maxRecDepth 20000 in
theorem k_17 : (Jvm.Cond.classLink "BuildDrawer" (9 : Nat) "BuildDrawer$Drawing") ∈ cw := List.mem_of_getElem? (i := 47) (by rfl)
set_option maxRecDepth 20000 in
theorem k_18 : (Jvm.Cond.instantiable "BuildDrawer$Drawing" (9 : Nat)) ∈ cw := List.mem_of_getElem? (i := 48) (by rfl)
set_option maxRecDepth 20000 in
theorem k_20 : (Jvm.Cond.instanceMethod ({ cls := "BuildDrawer$Drawing", name := "<init>", desc := "()V" } : Jvm.MethodName)) ∈ cw := List.mem_of_getElem? (i := 49) (by rfl)
set_option maxRecDepth 20000 in
theorem k_21 : (Jvm.Cond.code ({ cls := "BuildDrawer$Drawing", name := "<init>", desc := "()V" } : Jvm.MethodName) prog_2_method_1_code (1 : Nat) (Option.none : Option Jvm.ClassFile.FieldType)) ∈ cw := List.mem_of_getElem? (i := 50) (by rfl)
set_option maxRecDepth 20000 in
theorem k_22 : (Jvm.Cond.methodLink "BuildDrawer$Drawing" (3 : Nat) ({ cls := "java/lang/Object", name := "<init>", desc := "()V" } : Jvm.MethodName)) ∈ cw := List.mem_of_getElem? (i := 51) (by rfl)
set_option maxRecDepth 20000 in
theorem k_23 : (Jvm.Cond.fieldLink "BuildDrawer$Drawing" (9 : Nat) "BuildDrawer$Drawing" "word" "J") ∈ cw := List.mem_of_getElem? (i := 52) (by rfl)
set_option maxRecDepth 20000 in
theorem k_24 : (Jvm.Cond.fieldLink "BuildDrawer$Drawing" (15 : Nat) "BuildDrawer$Drawing" "sortOfKind" "I") ∈ cw := List.mem_of_getElem? (i := 53) (by rfl)
set_option maxRecDepth 20000 in
theorem k_25 : (Jvm.Cond.fieldLink "BuildDrawer$Drawing" (19 : Nat) "BuildDrawer$Drawing" "plantedBit" "I") ∈ cw := List.mem_of_getElem? (i := 54) (by rfl)
set_option maxRecDepth 20000 in
theorem k_26 : (Jvm.Cond.fieldLink "BuildDrawer$Drawing" (22 : Nat) "BuildDrawer$Drawing" "number" "I") ∈ cw := List.mem_of_getElem? (i := 55) (by rfl)
set_option maxRecDepth 20000 in
theorem k_27 : (Jvm.Cond.fieldLink "BuildDrawer$Drawing" (25 : Nat) "BuildDrawer$Drawing" "sort" "I") ∈ cw := List.mem_of_getElem? (i := 56) (by rfl)
set_option maxRecDepth 20000 in
theorem k_29 : (Jvm.Cond.fieldLink "BuildDrawer$Drawing" (28 : Nat) "BuildDrawer$Drawing" "a" "I") ∈ cw := List.mem_of_getElem? (i := 57) (by rfl)
set_option maxRecDepth 20000 in
theorem k_31 : (Jvm.Cond.fieldLink "BuildDrawer$Drawing" (31 : Nat) "BuildDrawer$Drawing" "b" "I") ∈ cw := List.mem_of_getElem? (i := 58) (by rfl)
set_option maxRecDepth 20000 in
theorem k_33 : (Jvm.Cond.fieldLink "BuildDrawer$Drawing" (34 : Nat) "BuildDrawer$Drawing" "need" "I") ∈ cw := List.mem_of_getElem? (i := 59) (by rfl)
set_option maxRecDepth 20000 in
theorem k_35 : (Jvm.Cond.fieldLink "BuildDrawer$Drawing" (37 : Nat) "BuildDrawer$Drawing" "mark" "I") ∈ cw := List.mem_of_getElem? (i := 60) (by rfl)
set_option maxRecDepth 20000 in
theorem k_37 : (Jvm.Cond.lays "BuildDrawer$Drawing" "BuildDrawer$Drawing" "word" "J") ∈ cw := List.mem_of_getElem? (i := 61) (by rfl)
set_option maxRecDepth 20000 in
theorem k_39 : (Jvm.Cond.lays "BuildDrawer$Drawing" "BuildDrawer$Drawing" "sortOfKind" "I") ∈ cw := List.mem_of_getElem? (i := 62) (by rfl)
set_option maxRecDepth 20000 in
theorem k_41 : (Jvm.Cond.lays "BuildDrawer$Drawing" "BuildDrawer$Drawing" "plantedBit" "I") ∈ cw := List.mem_of_getElem? (i := 63) (by rfl)
set_option maxRecDepth 20000 in
theorem k_43 : (Jvm.Cond.lays "BuildDrawer$Drawing" "BuildDrawer$Drawing" "number" "I") ∈ cw := List.mem_of_getElem? (i := 64) (by rfl)
set_option maxRecDepth 20000 in
theorem k_45 : (Jvm.Cond.lays "BuildDrawer$Drawing" "BuildDrawer$Drawing" "sort" "I") ∈ cw := List.mem_of_getElem? (i := 65) (by rfl)
set_option maxRecDepth 20000 in
theorem k_47 : (Jvm.Cond.lays "BuildDrawer$Drawing" "BuildDrawer$Drawing" "a" "I") ∈ cw := List.mem_of_getElem? (i := 66) (by rfl)
set_option maxRecDepth 20000 in
theorem k_49 : (Jvm.Cond.lays "BuildDrawer$Drawing" "BuildDrawer$Drawing" "b" "I") ∈ cw := List.mem_of_getElem? (i := 67) (by rfl)
set_option maxRecDepth 20000 in
theorem k_51 : (Jvm.Cond.lays "BuildDrawer$Drawing" "BuildDrawer$Drawing" "need" "I") ∈ cw := List.mem_of_getElem? (i := 68) (by rfl)
set_option maxRecDepth 20000 in
theorem k_53 : (Jvm.Cond.lays "BuildDrawer$Drawing" "BuildDrawer$Drawing" "mark" "I") ∈ cw := List.mem_of_getElem? (i := 69) (by rfl)
set_option maxRecDepth 20000 in
theorem k_56 : (Jvm.Cond.fieldLink "BuildDrawer" (57 : Nat) "BuildDrawer" "seed" "J") ∈ cw := List.mem_of_getElem? (i := 70) (by rfl)
set_option maxRecDepth 20000 in
theorem k_57 : (Jvm.Cond.fieldLink "BuildDrawer" (12 : Nat) "BuildDrawer" "mine" "LBuildDrawer$Drawing;") ∈ cw := List.mem_of_getElem? (i := 71) (by rfl)
set_option maxRecDepth 20000 in
theorem k_58 : (Jvm.Cond.fieldLink "BuildDrawer" (16 : Nat) "BuildDrawer" "others" "LBuildDrawer$Drawing;") ∈ cw := List.mem_of_getElem? (i := 72) (by rfl)
set_option maxRecDepth 20000 in
theorem k_59 : (Jvm.Cond.fieldLink "BuildDrawer" (19 : Nat) "BuildDrawer" "count" "I") ∈ cw := List.mem_of_getElem? (i := 73) (by rfl)
set_option maxRecDepth 20000 in
theorem k_60 : (Jvm.Cond.fieldLink "BuildDrawer" (23 : Nat) "BuildDrawer" "sorts" "[I") ∈ cw := List.mem_of_getElem? (i := 74) (by rfl)
set_option maxRecDepth 20000 in
theorem k_61 : (Jvm.Cond.fieldLink "BuildDrawer" (27 : Nat) "BuildDrawer" "as" "[I") ∈ cw := List.mem_of_getElem? (i := 75) (by rfl)
set_option maxRecDepth 20000 in
theorem k_62 : (Jvm.Cond.fieldLink "BuildDrawer" (30 : Nat) "BuildDrawer" "bs" "[I") ∈ cw := List.mem_of_getElem? (i := 76) (by rfl)
set_option maxRecDepth 20000 in
theorem k_63 : (Jvm.Cond.fieldLink "BuildDrawer" (33 : Nat) "BuildDrawer" "needs" "[I") ∈ cw := List.mem_of_getElem? (i := 77) (by rfl)
set_option maxRecDepth 20000 in
theorem k_64 : (Jvm.Cond.fieldLink "BuildDrawer" (36 : Nat) "BuildDrawer" "marks" "[I") ∈ cw := List.mem_of_getElem? (i := 78) (by rfl)
set_option maxRecDepth 20000 in
theorem k_65 : (Jvm.Cond.fieldLink "BuildDrawer" (39 : Nat) "BuildDrawer" "isLeft" "[Z") ∈ cw := List.mem_of_getElem? (i := 79) (by rfl)
set_option maxRecDepth 20000 in
theorem k_66 : (Jvm.Cond.fieldLink "BuildDrawer" (43 : Nat) "BuildDrawer" "verdictBits" "I") ∈ cw := List.mem_of_getElem? (i := 80) (by rfl)
set_option maxRecDepth 20000 in
theorem k_67 : (Jvm.Cond.fieldLink "BuildDrawer" (46 : Nat) "BuildDrawer" "verdictStays" "Z") ∈ cw := List.mem_of_getElem? (i := 81) (by rfl)
set_option maxRecDepth 20000 in
theorem k_68 : (Jvm.Cond.fieldLink "BuildDrawer" (50 : Nat) "BuildDrawer" "text" "[C") ∈ cw := List.mem_of_getElem? (i := 82) (by rfl)
set_option maxRecDepth 20000 in
theorem k_69 : (Jvm.Cond.fieldLink "BuildDrawer" (54 : Nat) "BuildDrawer" "textLength" "I") ∈ cw := List.mem_of_getElem? (i := 83) (by rfl)
set_option maxRecDepth 20000 in
theorem k_70 : (Jvm.Cond.laysFinal "BuildDrawer" "BuildDrawer" "seed" "J") ∈ cw := List.mem_of_getElem? (i := 84) (by rfl)
set_option maxRecDepth 20000 in
theorem k_72 : (Jvm.Cond.laysFinal "BuildDrawer" "BuildDrawer" "mine" "LBuildDrawer$Drawing;") ∈ cw := List.mem_of_getElem? (i := 85) (by rfl)
set_option maxRecDepth 20000 in
theorem k_74 : (Jvm.Cond.laysFinal "BuildDrawer" "BuildDrawer" "others" "LBuildDrawer$Drawing;") ∈ cw := List.mem_of_getElem? (i := 86) (by rfl)
set_option maxRecDepth 20000 in
theorem k_76 : (Jvm.Cond.lays "BuildDrawer" "BuildDrawer" "count" "I") ∈ cw := List.mem_of_getElem? (i := 87) (by rfl)
set_option maxRecDepth 20000 in
theorem k_78 : (Jvm.Cond.laysFinal "BuildDrawer" "BuildDrawer" "sorts" "[I") ∈ cw := List.mem_of_getElem? (i := 88) (by rfl)
set_option maxRecDepth 20000 in
theorem k_80 : (Jvm.Cond.laysFinal "BuildDrawer" "BuildDrawer" "as" "[I") ∈ cw := List.mem_of_getElem? (i := 89) (by rfl)
set_option maxRecDepth 20000 in
theorem k_82 : (Jvm.Cond.laysFinal "BuildDrawer" "BuildDrawer" "bs" "[I") ∈ cw := List.mem_of_getElem? (i := 90) (by rfl)
set_option maxRecDepth 20000 in
theorem k_84 : (Jvm.Cond.laysFinal "BuildDrawer" "BuildDrawer" "needs" "[I") ∈ cw := List.mem_of_getElem? (i := 91) (by rfl)
set_option maxRecDepth 20000 in
theorem k_86 : (Jvm.Cond.laysFinal "BuildDrawer" "BuildDrawer" "marks" "[I") ∈ cw := List.mem_of_getElem? (i := 92) (by rfl)
set_option maxRecDepth 20000 in
theorem k_88 : (Jvm.Cond.laysFinal "BuildDrawer" "BuildDrawer" "isLeft" "[Z") ∈ cw := List.mem_of_getElem? (i := 93) (by rfl)
set_option maxRecDepth 20000 in
theorem k_90 : (Jvm.Cond.lays "BuildDrawer" "BuildDrawer" "verdictBits" "I") ∈ cw := List.mem_of_getElem? (i := 94) (by rfl)
set_option maxRecDepth 20000 in
theorem k_92 : (Jvm.Cond.lays "BuildDrawer" "BuildDrawer" "verdictStays" "Z") ∈ cw := List.mem_of_getElem? (i := 95) (by rfl)
set_option maxRecDepth 20000 in
theorem k_94 : (Jvm.Cond.laysFinal "BuildDrawer" "BuildDrawer" "text" "[C") ∈ cw := List.mem_of_getElem? (i := 96) (by rfl)
set_option maxRecDepth 20000 in
theorem k_96 : (Jvm.Cond.lays "BuildDrawer" "BuildDrawer" "textLength" "I") ∈ cw := List.mem_of_getElem? (i := 97) (by rfl)
set_option maxRecDepth 20000 in
theorem k_99 : (Jvm.Cond.arrayClass Jvm.ClassFile.FieldType.int) ∈ cw := List.mem_of_getElem? (i := 98) (by rfl)
set_option maxRecDepth 20000 in
theorem k_100 : (Jvm.Cond.arrayClass Jvm.ClassFile.FieldType.boolean) ∈ cw := List.mem_of_getElem? (i := 99) (by rfl)
set_option maxRecDepth 20000 in
theorem k_101 : (Jvm.Cond.arrayClass Jvm.ClassFile.FieldType.char) ∈ cw := List.mem_of_getElem? (i := 100) (by rfl)
set_option maxRecDepth 20000 in
theorem k_102 : (Jvm.Cond.methodLink "BuildDrawerLaw" (21 : Nat) ({ cls := "BuildDrawer", name := "draw", desc := "(II)I" } : Jvm.MethodName)) ∈ cw := List.mem_of_getElem? (i := 101) (by rfl)
set_option maxRecDepth 20000 in
theorem k_103 : (Jvm.Cond.instanceMethod ({ cls := "BuildDrawer", name := "draw", desc := "(II)I" } : Jvm.MethodName)) ∈ cw := List.mem_of_getElem? (i := 102) (by rfl)
set_option maxRecDepth 20000 in
theorem k_104 : (Jvm.Cond.selects "BuildDrawer" ({ cls := "BuildDrawer", name := "draw", desc := "(II)I" } : Jvm.MethodName) ({ cls := "BuildDrawer", name := "draw", desc := "(II)I" } : Jvm.MethodName)) ∈ cw := List.mem_of_getElem? (i := 103) (by rfl)
set_option maxRecDepth 20000 in
theorem k_105 : (Jvm.Cond.code ({ cls := "BuildDrawer", name := "draw", desc := "(II)I" } : Jvm.MethodName) prog_1_method_2_code (4 : Nat) (Option.some Jvm.ClassFile.FieldType.int)) ∈ cw := List.mem_of_getElem? (i := 104) (by rfl)
set_option maxRecDepth 20000 in
theorem k_106 : (Jvm.Cond.methodLink "BuildDrawer" (61 : Nat) ({ cls := "BuildDrawer", name := "canBeDrawn", desc := "(II)Z" } : Jvm.MethodName)) ∈ cw := List.mem_of_getElem? (i := 105) (by rfl)
set_option maxRecDepth 20000 in
theorem k_107 : (Jvm.Cond.static ({ cls := "BuildDrawer", name := "canBeDrawn", desc := "(II)Z" } : Jvm.MethodName)) ∈ cw := List.mem_of_getElem? (i := 106) (by rfl)
set_option maxRecDepth 20000 in
theorem k_108 : (Jvm.Cond.code ({ cls := "BuildDrawer", name := "canBeDrawn", desc := "(II)Z" } : Jvm.MethodName) prog_1_method_10_code (2 : Nat) (Option.some Jvm.ClassFile.FieldType.boolean)) ∈ cw := List.mem_of_getElem? (i := 107) (by rfl)
set_option maxRecDepth 20000 in
theorem k_111 : (Jvm.Cond.instanceMethod ({ cls := "BuildDrawer$Drawing", name := "begin", desc := "(JII)V" } : Jvm.MethodName)) ∈ cw := List.mem_of_getElem? (i := 108) (by rfl)
set_option maxRecDepth 20000 in
theorem k_112 : (Jvm.Cond.code ({ cls := "BuildDrawer$Drawing", name := "begin", desc := "(JII)V" } : Jvm.MethodName) prog_2_method_2_code (5 : Nat) (Option.none : Option Jvm.ClassFile.FieldType)) ∈ cw := List.mem_of_getElem? (i := 109) (by rfl)
set_option maxRecDepth 20000 in
theorem k_113 : (Jvm.Cond.constantLong "BuildDrawer$Drawing" (40 : Nat) (2862933555777941757 : Int64)) ∈ cw := List.mem_of_getElem? (i := 110) (by rfl)
set_option maxRecDepth 20000 in
theorem k_116 : (Jvm.Cond.methodLink "BuildDrawer$Drawing" (46 : Nat) ({ cls := "BuildDrawer$Drawing", name := "chance", desc := "(I)I" } : Jvm.MethodName)) ∈ cw := List.mem_of_getElem? (i := 111) (by rfl)
set_option maxRecDepth 20000 in
theorem k_118 : (Jvm.Cond.instanceMethod ({ cls := "BuildDrawer$Drawing", name := "chance", desc := "(I)I" } : Jvm.MethodName)) ∈ cw := List.mem_of_getElem? (i := 112) (by rfl)
set_option maxRecDepth 20000 in
theorem k_119 : (Jvm.Cond.code ({ cls := "BuildDrawer$Drawing", name := "chance", desc := "(I)I" } : Jvm.MethodName) prog_2_method_10_code (3 : Nat) (Option.some Jvm.ClassFile.FieldType.int)) ∈ cw := List.mem_of_getElem? (i := 113) (by rfl)
set_option maxRecDepth 20000 in
theorem k_120 : (Jvm.Cond.constantLong "BuildDrawer$Drawing" (66 : Nat) (6364136223846793005 : Int64)) ∈ cw := List.mem_of_getElem? (i := 114) (by rfl)
set_option maxRecDepth 20000 in
theorem k_121 : (Jvm.Cond.constantLong "BuildDrawer$Drawing" (68 : Nat) (1442695040888963407 : Int64)) ∈ cw := List.mem_of_getElem? (i := 115) (by rfl)
set_option maxRecDepth 20000 in
theorem k_122 : (Jvm.Cond.methodLink "BuildDrawer$Drawing" (50 : Nat) ({ cls := "BuildDrawer$Drawing", name := "bitOrNone", desc := "(I)I" } : Jvm.MethodName)) ∈ cw := List.mem_of_getElem? (i := 116) (by rfl)
set_option maxRecDepth 20000 in
theorem k_123 : (Jvm.Cond.static ({ cls := "BuildDrawer$Drawing", name := "bitOrNone", desc := "(I)I" } : Jvm.MethodName)) ∈ cw := List.mem_of_getElem? (i := 117) (by rfl)
set_option maxRecDepth 20000 in
theorem k_124 : (Jvm.Cond.code ({ cls := "BuildDrawer$Drawing", name := "bitOrNone", desc := "(I)I" } : Jvm.MethodName) prog_2_method_5_code (1 : Nat) (Option.some Jvm.ClassFile.FieldType.int)) ∈ cw := List.mem_of_getElem? (i := 118) (by rfl)
set_option maxRecDepth 20000 in
theorem k_127 : (Jvm.Cond.instanceMethod ({ cls := "BuildDrawer$Drawing", name := "next", desc := "()V" } : Jvm.MethodName)) ∈ cw := List.mem_of_getElem? (i := 119) (by rfl)
set_option maxRecDepth 20000 in
theorem k_128 : (Jvm.Cond.code ({ cls := "BuildDrawer$Drawing", name := "next", desc := "()V" } : Jvm.MethodName) prog_2_method_3_code (1 : Nat) (Option.none : Option Jvm.ClassFile.FieldType)) ∈ cw := List.mem_of_getElem? (i := 120) (by rfl)
set_option maxRecDepth 20000 in
theorem k_129 : (Jvm.Cond.methodLink "BuildDrawer$Drawing" (53 : Nat) ({ cls := "BuildDrawer$Drawing", name := "nextSort", desc := "()I" } : Jvm.MethodName)) ∈ cw := List.mem_of_getElem? (i := 121) (by rfl)
set_option maxRecDepth 20000 in
theorem k_131 : (Jvm.Cond.instanceMethod ({ cls := "BuildDrawer$Drawing", name := "nextSort", desc := "()I" } : Jvm.MethodName)) ∈ cw := List.mem_of_getElem? (i := 122) (by rfl)
set_option maxRecDepth 20000 in
theorem k_132 : (Jvm.Cond.code ({ cls := "BuildDrawer$Drawing", name := "nextSort", desc := "()I" } : Jvm.MethodName) prog_2_method_6_code (1 : Nat) (Option.some Jvm.ClassFile.FieldType.int)) ∈ cw := List.mem_of_getElem? (i := 123) (by rfl)
set_option maxRecDepth 20000 in
theorem k_133 : (Jvm.Cond.methodLink "BuildDrawer$Drawing" (57 : Nat) ({ cls := "BuildDrawer$Drawing", name := "nextB", desc := "()I" } : Jvm.MethodName)) ∈ cw := List.mem_of_getElem? (i := 124) (by rfl)
set_option maxRecDepth 20000 in
theorem k_135 : (Jvm.Cond.instanceMethod ({ cls := "BuildDrawer$Drawing", name := "nextB", desc := "()I" } : Jvm.MethodName)) ∈ cw := List.mem_of_getElem? (i := 125) (by rfl)
set_option maxRecDepth 20000 in
theorem k_136 : (Jvm.Cond.code ({ cls := "BuildDrawer$Drawing", name := "nextB", desc := "()I" } : Jvm.MethodName) prog_2_method_7_code (1 : Nat) (Option.some Jvm.ClassFile.FieldType.int)) ∈ cw := List.mem_of_getElem? (i := 126) (by rfl)
set_option maxRecDepth 20000 in
theorem k_137 : (Jvm.Cond.methodLink "BuildDrawer$Drawing" (63 : Nat) ({ cls := "BuildDrawer$Drawing", name := "nextBOfStep", desc := "()I" } : Jvm.MethodName)) ∈ cw := List.mem_of_getElem? (i := 127) (by rfl)
set_option maxRecDepth 20000 in
theorem k_139 : (Jvm.Cond.instanceMethod ({ cls := "BuildDrawer$Drawing", name := "nextBOfStep", desc := "()I" } : Jvm.MethodName)) ∈ cw := List.mem_of_getElem? (i := 128) (by rfl)
set_option maxRecDepth 20000 in
theorem k_140 : (Jvm.Cond.code ({ cls := "BuildDrawer$Drawing", name := "nextBOfStep", desc := "()I" } : Jvm.MethodName) prog_2_method_8_code (2 : Nat) (Option.some Jvm.ClassFile.FieldType.int)) ∈ cw := List.mem_of_getElem? (i := 129) (by rfl)
set_option maxRecDepth 20000 in
theorem k_141 : (Jvm.Cond.methodLink "BuildDrawer$Drawing" (60 : Nat) ({ cls := "BuildDrawer$Drawing", name := "nextNeed", desc := "()I" } : Jvm.MethodName)) ∈ cw := List.mem_of_getElem? (i := 130) (by rfl)
set_option maxRecDepth 20000 in
theorem k_143 : (Jvm.Cond.instanceMethod ({ cls := "BuildDrawer$Drawing", name := "nextNeed", desc := "()I" } : Jvm.MethodName)) ∈ cw := List.mem_of_getElem? (i := 131) (by rfl)
set_option maxRecDepth 20000 in
theorem k_144 : (Jvm.Cond.code ({ cls := "BuildDrawer$Drawing", name := "nextNeed", desc := "()I" } : Jvm.MethodName) prog_2_method_9_code (2 : Nat) (Option.some Jvm.ClassFile.FieldType.int)) ∈ cw := List.mem_of_getElem? (i := 132) (by rfl)
set_option maxRecDepth 20000 in
theorem k_145 : (Jvm.Cond.methodLink "BuildDrawer" (87 : Nat) ({ cls := "BuildDrawer", name := "takeAllBack", desc := "()V" } : Jvm.MethodName)) ∈ cw := List.mem_of_getElem? (i := 133) (by rfl)
set_option maxRecDepth 20000 in
theorem k_147 : (Jvm.Cond.instanceMethod ({ cls := "BuildDrawer", name := "takeAllBack", desc := "()V" } : Jvm.MethodName)) ∈ cw := List.mem_of_getElem? (i := 134) (by rfl)
set_option maxRecDepth 20000 in
theorem k_148 : (Jvm.Cond.code ({ cls := "BuildDrawer", name := "takeAllBack", desc := "()V" } : Jvm.MethodName) prog_1_method_12_code (2 : Nat) (Option.none : Option Jvm.ClassFile.FieldType)) ∈ cw := List.mem_of_getElem? (i := 135) (by rfl)
set_option maxRecDepth 20000 in
theorem k_149 : (Jvm.Cond.methodLink "BuildDrawerLaw" (26 : Nat) ({ cls := "BuildDrawer", name := "part", desc := "(II)J" } : Jvm.MethodName)) ∈ cw := List.mem_of_getElem? (i := 136) (by rfl)
set_option maxRecDepth 20000 in
theorem k_150 : (Jvm.Cond.instanceMethod ({ cls := "BuildDrawer", name := "part", desc := "(II)J" } : Jvm.MethodName)) ∈ cw := List.mem_of_getElem? (i := 137) (by rfl)
set_option maxRecDepth 20000 in
theorem k_151 : (Jvm.Cond.selects "BuildDrawer" ({ cls := "BuildDrawer", name := "part", desc := "(II)J" } : Jvm.MethodName) ({ cls := "BuildDrawer", name := "part", desc := "(II)J" } : Jvm.MethodName)) ∈ cw := List.mem_of_getElem? (i := 138) (by rfl)
set_option maxRecDepth 20000 in
theorem k_152 : (Jvm.Cond.code ({ cls := "BuildDrawer", name := "part", desc := "(II)J" } : Jvm.MethodName) prog_1_method_3_code (3 : Nat) (Option.some Jvm.ClassFile.FieldType.long)) ∈ cw := List.mem_of_getElem? (i := 139) (by rfl)
set_option maxRecDepth 20000 in
theorem k_153 : (Jvm.Cond.methodLink "BuildDrawer" (90 : Nat) ({ cls := "BuildDrawer", name := "isPart", desc := "(I)Z" } : Jvm.MethodName)) ∈ cw := List.mem_of_getElem? (i := 140) (by rfl)
set_option maxRecDepth 20000 in
theorem k_155 : (Jvm.Cond.instanceMethod ({ cls := "BuildDrawer", name := "isPart", desc := "(I)Z" } : Jvm.MethodName)) ∈ cw := List.mem_of_getElem? (i := 141) (by rfl)
set_option maxRecDepth 20000 in
theorem k_156 : (Jvm.Cond.code ({ cls := "BuildDrawer", name := "isPart", desc := "(I)Z" } : Jvm.MethodName) prog_1_method_11_code (2 : Nat) (Option.some Jvm.ClassFile.FieldType.boolean)) ∈ cw := List.mem_of_getElem? (i := 142) (by rfl)
set_option maxRecDepth 20000 in
theorem k_157 : (Jvm.Cond.constantLong "BuildDrawer" (94 : Nat) (-1 : Int64)) ∈ cw := List.mem_of_getElem? (i := 143) (by rfl)
set_option maxRecDepth 20000 in
theorem k_158 : (Jvm.Cond.methodLink "BuildDrawer" (96 : Nat) ({ cls := "BuildDrawer", name := "commonSet", desc := "()I" } : Jvm.MethodName)) ∈ cw := List.mem_of_getElem? (i := 144) (by rfl)
set_option maxRecDepth 20000 in
theorem k_160 : (Jvm.Cond.instanceMethod ({ cls := "BuildDrawer", name := "commonSet", desc := "()I" } : Jvm.MethodName)) ∈ cw := List.mem_of_getElem? (i := 145) (by rfl)
set_option maxRecDepth 20000 in
theorem k_161 : (Jvm.Cond.code ({ cls := "BuildDrawer", name := "commonSet", desc := "()I" } : Jvm.MethodName) prog_1_method_15_code (3 : Nat) (Option.some Jvm.ClassFile.FieldType.int)) ∈ cw := List.mem_of_getElem? (i := 146) (by rfl)
set_option maxRecDepth 20000 in
theorem k_162 : (Jvm.Cond.methodLink "BuildDrawer" (100 : Nat) ({ cls := "java/lang/Integer", name := "bitCount", desc := "(I)I" } : Jvm.MethodName)) ∈ cw := List.mem_of_getElem? (i := 147) (by rfl)
set_option maxRecDepth 20000 in
theorem k_163 : (Jvm.Cond.static ({ cls := "java/lang/Integer", name := "bitCount", desc := "(I)I" } : Jvm.MethodName)) ∈ cw := List.mem_of_getElem? (i := 148) (by rfl)
set_option maxRecDepth 20000 in
theorem k_164 : (Jvm.Cond.code ({ cls := "java/lang/Integer", name := "bitCount", desc := "(I)I" } : Jvm.MethodName) prog_5_method_49_code (1 : Nat) (Option.some Jvm.ClassFile.FieldType.int)) ∈ cw := List.mem_of_getElem? (i := 149) (by rfl)
set_option maxRecDepth 20000 in
theorem k_165 : (Jvm.Cond.constant "java/lang/Integer" (265 : Nat) (1431655765 : Int32)) ∈ cw := List.mem_of_getElem? (i := 150) (by rfl)
set_option maxRecDepth 20000 in
theorem k_166 : (Jvm.Cond.constant "java/lang/Integer" (266 : Nat) (858993459 : Int32)) ∈ cw := List.mem_of_getElem? (i := 151) (by rfl)
set_option maxRecDepth 20000 in
theorem k_167 : (Jvm.Cond.constant "java/lang/Integer" (267 : Nat) (252645135 : Int32)) ∈ cw := List.mem_of_getElem? (i := 152) (by rfl)
set_option maxRecDepth 20000 in
theorem k_168 : (Jvm.Cond.constantLong "BuildDrawer" (106 : Nat) (-2 : Int64)) ∈ cw := List.mem_of_getElem? (i := 153) (by rfl)
set_option maxRecDepth 20000 in
theorem k_169 : (Jvm.Cond.methodLink "BuildDrawerLaw" (31 : Nat) ({ cls := "BuildDrawer", name := "letter", desc := "(I)I" } : Jvm.MethodName)) ∈ cw := List.mem_of_getElem? (i := 154) (by rfl)
set_option maxRecDepth 20000 in
theorem k_170 : (Jvm.Cond.instanceMethod ({ cls := "BuildDrawer", name := "letter", desc := "(I)I" } : Jvm.MethodName)) ∈ cw := List.mem_of_getElem? (i := 155) (by rfl)
set_option maxRecDepth 20000 in
theorem k_171 : (Jvm.Cond.selects "BuildDrawer" ({ cls := "BuildDrawer", name := "letter", desc := "(I)I" } : Jvm.MethodName) ({ cls := "BuildDrawer", name := "letter", desc := "(I)I" } : Jvm.MethodName)) ∈ cw := List.mem_of_getElem? (i := 156) (by rfl)
set_option maxRecDepth 20000 in
theorem k_172 : (Jvm.Cond.code ({ cls := "BuildDrawer", name := "letter", desc := "(I)I" } : Jvm.MethodName) prog_1_method_4_code (2 : Nat) (Option.some Jvm.ClassFile.FieldType.int)) ∈ cw := List.mem_of_getElem? (i := 157) (by rfl)
set_option maxRecDepth 20000 in
theorem k_173 : (Jvm.Cond.methodLink "BuildDrawer" (108 : Nat) ({ cls := "BuildDrawer", name := "writeText", desc := "()V" } : Jvm.MethodName)) ∈ cw := List.mem_of_getElem? (i := 158) (by rfl)
set_option maxRecDepth 20000 in
theorem k_175 : (Jvm.Cond.instanceMethod ({ cls := "BuildDrawer", name := "writeText", desc := "()V" } : Jvm.MethodName)) ∈ cw := List.mem_of_getElem? (i := 159) (by rfl)
set_option maxRecDepth 20000 in
theorem k_176 : (Jvm.Cond.code ({ cls := "BuildDrawer", name := "writeText", desc := "()V" } : Jvm.MethodName) prog_1_method_20_code (2 : Nat) (Option.none : Option Jvm.ClassFile.FieldType)) ∈ cw := List.mem_of_getElem? (i := 160) (by rfl)
set_option maxRecDepth 20000 in
theorem k_177 : (Jvm.Cond.methodLink "BuildDrawer" (134 : Nat) ({ cls := "BuildDrawer", name := "writePart", desc := "(I)V" } : Jvm.MethodName)) ∈ cw := List.mem_of_getElem? (i := 161) (by rfl)
set_option maxRecDepth 20000 in
theorem k_179 : (Jvm.Cond.instanceMethod ({ cls := "BuildDrawer", name := "writePart", desc := "(I)V" } : Jvm.MethodName)) ∈ cw := List.mem_of_getElem? (i := 162) (by rfl)
set_option maxRecDepth 20000 in
theorem k_180 : (Jvm.Cond.code ({ cls := "BuildDrawer", name := "writePart", desc := "(I)V" } : Jvm.MethodName) prog_1_method_21_code (2 : Nat) (Option.none : Option Jvm.ClassFile.FieldType)) ∈ cw := List.mem_of_getElem? (i := 163) (by rfl)
set_option maxRecDepth 20000 in
theorem k_181 : (Jvm.Cond.methodLink "BuildDrawer" (138 : Nat) ({ cls := "BuildDrawer", name := "letterOf", desc := "(I)C" } : Jvm.MethodName)) ∈ cw := List.mem_of_getElem? (i := 164) (by rfl)
set_option maxRecDepth 20000 in
theorem k_182 : (Jvm.Cond.static ({ cls := "BuildDrawer", name := "letterOf", desc := "(I)C" } : Jvm.MethodName)) ∈ cw := List.mem_of_getElem? (i := 165) (by rfl)
set_option maxRecDepth 20000 in
theorem k_183 : (Jvm.Cond.code ({ cls := "BuildDrawer", name := "letterOf", desc := "(I)C" } : Jvm.MethodName) prog_1_method_22_code (1 : Nat) (Option.some Jvm.ClassFile.FieldType.char)) ∈ cw := List.mem_of_getElem? (i := 166) (by rfl)
set_option maxRecDepth 20000 in
theorem k_185 : (Jvm.Cond.methodLink "BuildDrawer" (151 : Nat) ({ cls := "java/lang/String", name := "length", desc := "()I" } : Jvm.MethodName)) ∈ cw := List.mem_of_getElem? (i := 167) (by rfl)
set_option maxRecDepth 20000 in
theorem k_186 : (Jvm.Cond.instanceMethod ({ cls := "java/lang/String", name := "length", desc := "()I" } : Jvm.MethodName)) ∈ cw := List.mem_of_getElem? (i := 168) (by rfl)
set_option maxRecDepth 20000 in
theorem k_187 : (Jvm.Cond.selects "java/lang/String" ({ cls := "java/lang/String", name := "length", desc := "()I" } : Jvm.MethodName) ({ cls := "java/lang/String", name := "length", desc := "()I" } : Jvm.MethodName)) ∈ cw := List.mem_of_getElem? (i := 169) (by rfl)
set_option maxRecDepth 20000 in
theorem k_188 : (Jvm.Cond.code ({ cls := "java/lang/String", name := "length", desc := "()I" } : Jvm.MethodName) prog_6_method_54_code (1 : Nat) (Option.some Jvm.ClassFile.FieldType.int)) ∈ cw := List.mem_of_getElem? (i := 170) (by rfl)
set_option maxRecDepth 20000 in
theorem k_189 : (Jvm.Cond.methodLink "java/lang/String" (335 : Nat) ({ cls := "java/lang/String", name := "coder", desc := "()B" } : Jvm.MethodName)) ∈ cw := List.mem_of_getElem? (i := 171) (by rfl)
set_option maxRecDepth 20000 in
theorem k_190 : (Jvm.Cond.instanceMethod ({ cls := "java/lang/String", name := "coder", desc := "()B" } : Jvm.MethodName)) ∈ cw := List.mem_of_getElem? (i := 172) (by rfl)
set_option maxRecDepth 20000 in
theorem k_191 : (Jvm.Cond.selects "java/lang/String" ({ cls := "java/lang/String", name := "coder", desc := "()B" } : Jvm.MethodName) ({ cls := "java/lang/String", name := "coder", desc := "()B" } : Jvm.MethodName)) ∈ cw := List.mem_of_getElem? (i := 173) (by rfl)
set_option maxRecDepth 20000 in
theorem k_192 : (Jvm.Cond.code ({ cls := "java/lang/String", name := "coder", desc := "()B" } : Jvm.MethodName) prog_6_method_152_code (1 : Nat) (Option.some Jvm.ClassFile.FieldType.byte)) ∈ cw := List.mem_of_getElem? (i := 174) (by rfl)
set_option maxRecDepth 20000 in
theorem k_193 : (Jvm.Cond.fieldLink "java/lang/String" (38 : Nat) "java/lang/String" "COMPACT_STRINGS" "Z") ∈ cw := List.mem_of_getElem? (i := 175) (by rfl)
set_option maxRecDepth 20000 in
theorem k_195 : (Jvm.Cond.methodLink "BuildDrawer" (156 : Nat) ({ cls := "java/lang/String", name := "charAt", desc := "(I)C" } : Jvm.MethodName)) ∈ cw := List.mem_of_getElem? (i := 176) (by rfl)
set_option maxRecDepth 20000 in
theorem k_196 : (Jvm.Cond.instanceMethod ({ cls := "java/lang/String", name := "charAt", desc := "(I)C" } : Jvm.MethodName)) ∈ cw := List.mem_of_getElem? (i := 177) (by rfl)
set_option maxRecDepth 20000 in
theorem k_197 : (Jvm.Cond.selects "java/lang/String" ({ cls := "java/lang/String", name := "charAt", desc := "(I)C" } : Jvm.MethodName) ({ cls := "java/lang/String", name := "charAt", desc := "(I)C" } : Jvm.MethodName)) ∈ cw := List.mem_of_getElem? (i := 178) (by rfl)
set_option maxRecDepth 20000 in
theorem k_198 : (Jvm.Cond.code ({ cls := "java/lang/String", name := "charAt", desc := "(I)C" } : Jvm.MethodName) prog_6_method_56_code (2 : Nat) (Option.some Jvm.ClassFile.FieldType.char)) ∈ cw := List.mem_of_getElem? (i := 179) (by rfl)
set_option maxRecDepth 20000 in
theorem k_199 : (Jvm.Cond.methodLink "java/lang/String" (492 : Nat) ({ cls := "java/lang/String", name := "isLatin1", desc := "()Z" } : Jvm.MethodName)) ∈ cw := List.mem_of_getElem? (i := 180) (by rfl)
set_option maxRecDepth 20000 in
theorem k_200 : (Jvm.Cond.instanceMethod ({ cls := "java/lang/String", name := "isLatin1", desc := "()Z" } : Jvm.MethodName)) ∈ cw := List.mem_of_getElem? (i := 181) (by rfl)
set_option maxRecDepth 20000 in
theorem k_201 : (Jvm.Cond.selects "java/lang/String" ({ cls := "java/lang/String", name := "isLatin1", desc := "()Z" } : Jvm.MethodName) ({ cls := "java/lang/String", name := "isLatin1", desc := "()Z" } : Jvm.MethodName)) ∈ cw := List.mem_of_getElem? (i := 182) (by rfl)
set_option maxRecDepth 20000 in
theorem k_202 : (Jvm.Cond.code ({ cls := "java/lang/String", name := "isLatin1", desc := "()Z" } : Jvm.MethodName) prog_6_method_154_code (1 : Nat) (Option.some Jvm.ClassFile.FieldType.boolean)) ∈ cw := List.mem_of_getElem? (i := 183) (by rfl)
set_option maxRecDepth 20000 in
theorem k_203 : (Jvm.Cond.methodLink "java/lang/String" (495 : Nat) ({ cls := "java/lang/StringLatin1", name := "charAt", desc := "([BI)C" } : Jvm.MethodName)) ∈ cw := List.mem_of_getElem? (i := 184) (by rfl)
set_option maxRecDepth 20000 in
theorem k_204 : (Jvm.Cond.static ({ cls := "java/lang/StringLatin1", name := "charAt", desc := "([BI)C" } : Jvm.MethodName)) ∈ cw := List.mem_of_getElem? (i := 185) (by rfl)
set_option maxRecDepth 20000 in
theorem k_205 : (Jvm.Cond.code ({ cls := "java/lang/StringLatin1", name := "charAt", desc := "([BI)C" } : Jvm.MethodName) prog_7_method_2_code (2 : Nat) (Option.some Jvm.ClassFile.FieldType.char)) ∈ cw := List.mem_of_getElem? (i := 186) (by rfl)
set_option maxRecDepth 20000 in
theorem k_206 : (Jvm.Cond.methodLink "java/lang/StringLatin1" (9 : Nat) ({ cls := "java/lang/String", name := "checkIndex", desc := "(II)V" } : Jvm.MethodName)) ∈ cw := List.mem_of_getElem? (i := 187) (by rfl)
set_option maxRecDepth 20000 in
theorem k_207 : (Jvm.Cond.static ({ cls := "java/lang/String", name := "checkIndex", desc := "(II)V" } : Jvm.MethodName)) ∈ cw := List.mem_of_getElem? (i := 188) (by rfl)
set_option maxRecDepth 20000 in
theorem k_208 : (Jvm.Cond.code ({ cls := "java/lang/String", name := "checkIndex", desc := "(II)V" } : Jvm.MethodName) prog_6_method_155_code (2 : Nat) (Option.none : Option Jvm.ClassFile.FieldType)) ∈ cw := List.mem_of_getElem? (i := 189) (by rfl)
set_option maxRecDepth 20000 in
theorem k_209 : (Jvm.Cond.fieldLink "java/lang/String" (1053 : Nat) "jdk/internal/util/Preconditions" "SIOOBE_FORMATTER" "Ljava/util/function/BiFunction;") ∈ cw := List.mem_of_getElem? (i := 190) (by rfl)
set_option maxRecDepth 20000 in
theorem k_211 : (Jvm.Cond.methodLink "java/lang/String" (1059 : Nat) ({ cls := "jdk/internal/util/Preconditions", name := "checkIndex", desc := "(IILjava/util/function/BiFunction;)I" } : Jvm.MethodName)) ∈ cw := List.mem_of_getElem? (i := 191) (by rfl)
set_option maxRecDepth 20000 in
theorem k_212 : (Jvm.Cond.static ({ cls := "jdk/internal/util/Preconditions", name := "checkIndex", desc := "(IILjava/util/function/BiFunction;)I" } : Jvm.MethodName)) ∈ cw := List.mem_of_getElem? (i := 192) (by rfl)
set_option maxRecDepth 20000 in
theorem k_213 : (Jvm.Cond.code ({ cls := "jdk/internal/util/Preconditions", name := "checkIndex", desc := "(IILjava/util/function/BiFunction;)I" } : Jvm.MethodName) prog_9_method_11_code (3 : Nat) (Option.some Jvm.ClassFile.FieldType.int)) ∈ cw := List.mem_of_getElem? (i := 193) (by rfl)
set_option maxRecDepth 20000 in
theorem k_233 : (Jvm.Cond.methodLink "BuildDrawer" (142 : Nat) ({ cls := "BuildDrawer", name := "writeSign", desc := "(C)V" } : Jvm.MethodName)) ∈ cw := List.mem_of_getElem? (i := 194) (by rfl)
set_option maxRecDepth 20000 in
theorem k_235 : (Jvm.Cond.instanceMethod ({ cls := "BuildDrawer", name := "writeSign", desc := "(C)V" } : Jvm.MethodName)) ∈ cw := List.mem_of_getElem? (i := 195) (by rfl)
set_option maxRecDepth 20000 in
theorem k_236 : (Jvm.Cond.code ({ cls := "BuildDrawer", name := "writeSign", desc := "(C)V" } : Jvm.MethodName) prog_1_method_25_code (2 : Nat) (Option.none : Option Jvm.ClassFile.FieldType)) ∈ cw := List.mem_of_getElem? (i := 196) (by rfl)
set_option maxRecDepth 20000 in
theorem k_237 : (Jvm.Cond.methodLink "BuildDrawer" (146 : Nat) ({ cls := "BuildDrawer", name := "writeNumber", desc := "(I)V" } : Jvm.MethodName)) ∈ cw := List.mem_of_getElem? (i := 197) (by rfl)
set_option maxRecDepth 20000 in
theorem k_239 : (Jvm.Cond.instanceMethod ({ cls := "BuildDrawer", name := "writeNumber", desc := "(I)V" } : Jvm.MethodName)) ∈ cw := List.mem_of_getElem? (i := 198) (by rfl)
set_option maxRecDepth 20000 in
theorem k_240 : (Jvm.Cond.code ({ cls := "BuildDrawer", name := "writeNumber", desc := "(I)V" } : Jvm.MethodName) prog_1_method_23_code (2 : Nat) (Option.none : Option Jvm.ClassFile.FieldType)) ∈ cw := List.mem_of_getElem? (i := 199) (by rfl)
set_option maxRecDepth 20000 in
theorem k_241 : (Jvm.Cond.methodLink "BuildDrawer" (159 : Nat) ({ cls := "BuildDrawer", name := "writeDigit", desc := "(I)V" } : Jvm.MethodName)) ∈ cw := List.mem_of_getElem? (i := 200) (by rfl)
set_option maxRecDepth 20000 in
theorem k_243 : (Jvm.Cond.instanceMethod ({ cls := "BuildDrawer", name := "writeDigit", desc := "(I)V" } : Jvm.MethodName)) ∈ cw := List.mem_of_getElem? (i := 201) (by rfl)
set_option maxRecDepth 20000 in
theorem k_244 : (Jvm.Cond.code ({ cls := "BuildDrawer", name := "writeDigit", desc := "(I)V" } : Jvm.MethodName) prog_1_method_24_code (2 : Nat) (Option.none : Option Jvm.ClassFile.FieldType)) ∈ cw := List.mem_of_getElem? (i := 202) (by rfl)
set_option maxRecDepth 20000 in
theorem k_245 : (Jvm.Cond.arrayClass Jvm.ClassFile.FieldType.byte) ∈ cw := List.mem_of_getElem? (i := 203) (by rfl)
set_option maxRecDepth 20000 in
theorem k_246 : (Jvm.Cond.methodLink "BuildDrawerLaw" (36 : Nat) ({ cls := "BuildDrawer", name := "verdict", desc := "(IZ)V" } : Jvm.MethodName)) ∈ cw := List.mem_of_getElem? (i := 204) (by rfl)
set_option maxRecDepth 20000 in
theorem k_247 : (Jvm.Cond.instanceMethod ({ cls := "BuildDrawer", name := "verdict", desc := "(IZ)V" } : Jvm.MethodName)) ∈ cw := List.mem_of_getElem? (i := 205) (by rfl)
set_option maxRecDepth 20000 in
theorem k_248 : (Jvm.Cond.selects "BuildDrawer" ({ cls := "BuildDrawer", name := "verdict", desc := "(IZ)V" } : Jvm.MethodName) ({ cls := "BuildDrawer", name := "verdict", desc := "(IZ)V" } : Jvm.MethodName)) ∈ cw := List.mem_of_getElem? (i := 206) (by rfl)
set_option maxRecDepth 20000 in
theorem k_249 : (Jvm.Cond.code ({ cls := "BuildDrawer", name := "verdict", desc := "(IZ)V" } : Jvm.MethodName) prog_1_method_5_code (3 : Nat) (Option.none : Option Jvm.ClassFile.FieldType)) ∈ cw := List.mem_of_getElem? (i := 207) (by rfl)
set_option maxRecDepth 20000 in
theorem k_250 : (Jvm.Cond.methodLink "BuildDrawerLaw" (41 : Nat) ({ cls := "BuildDrawer", name := "shorter", desc := "()I" } : Jvm.MethodName)) ∈ cw := List.mem_of_getElem? (i := 208) (by rfl)
set_option maxRecDepth 20000 in
theorem k_251 : (Jvm.Cond.instanceMethod ({ cls := "BuildDrawer", name := "shorter", desc := "()I" } : Jvm.MethodName)) ∈ cw := List.mem_of_getElem? (i := 209) (by rfl)
set_option maxRecDepth 20000 in
theorem k_252 : (Jvm.Cond.selects "BuildDrawer" ({ cls := "BuildDrawer", name := "shorter", desc := "()I" } : Jvm.MethodName) ({ cls := "BuildDrawer", name := "shorter", desc := "()I" } : Jvm.MethodName)) ∈ cw := List.mem_of_getElem? (i := 210) (by rfl)
set_option maxRecDepth 20000 in
theorem k_253 : (Jvm.Cond.code ({ cls := "BuildDrawer", name := "shorter", desc := "()I" } : Jvm.MethodName) prog_1_method_6_code (1 : Nat) (Option.some Jvm.ClassFile.FieldType.int)) ∈ cw := List.mem_of_getElem? (i := 211) (by rfl)
set_option maxRecDepth 20000 in
theorem k_254 : (Jvm.Cond.methodLink "BuildDrawer" (111 : Nat) ({ cls := "BuildDrawer", name := "marksLeft", desc := "()I" } : Jvm.MethodName)) ∈ cw := List.mem_of_getElem? (i := 212) (by rfl)
set_option maxRecDepth 20000 in
theorem k_256 : (Jvm.Cond.instanceMethod ({ cls := "BuildDrawer", name := "marksLeft", desc := "()I" } : Jvm.MethodName)) ∈ cw := List.mem_of_getElem? (i := 213) (by rfl)
set_option maxRecDepth 20000 in
theorem k_257 : (Jvm.Cond.code ({ cls := "BuildDrawer", name := "marksLeft", desc := "()I" } : Jvm.MethodName) prog_1_method_14_code (3 : Nat) (Option.some Jvm.ClassFile.FieldType.int)) ∈ cw := List.mem_of_getElem? (i := 214) (by rfl)
set_option maxRecDepth 20000 in
theorem k_258 : (Jvm.Cond.methodLink "BuildDrawer" (114 : Nat) ({ cls := "BuildDrawer", name := "holdsOf", desc := "(I)Z" } : Jvm.MethodName)) ∈ cw := List.mem_of_getElem? (i := 215) (by rfl)
set_option maxRecDepth 20000 in
theorem k_260 : (Jvm.Cond.instanceMethod ({ cls := "BuildDrawer", name := "holdsOf", desc := "(I)Z" } : Jvm.MethodName)) ∈ cw := List.mem_of_getElem? (i := 216) (by rfl)
set_option maxRecDepth 20000 in
theorem k_261 : (Jvm.Cond.code ({ cls := "BuildDrawer", name := "holdsOf", desc := "(I)Z" } : Jvm.MethodName) prog_1_method_16_code (3 : Nat) (Option.some Jvm.ClassFile.FieldType.boolean)) ∈ cw := List.mem_of_getElem? (i := 217) (by rfl)
set_option maxRecDepth 20000 in
theorem k_262 : (Jvm.Cond.methodLink "BuildDrawer" (117 : Nat) ({ cls := "BuildDrawer", name := "leaveOutAllThatCanGo", desc := "()V" } : Jvm.MethodName)) ∈ cw := List.mem_of_getElem? (i := 218) (by rfl)
set_option maxRecDepth 20000 in
theorem k_264 : (Jvm.Cond.instanceMethod ({ cls := "BuildDrawer", name := "leaveOutAllThatCanGo", desc := "()V" } : Jvm.MethodName)) ∈ cw := List.mem_of_getElem? (i := 219) (by rfl)
set_option maxRecDepth 20000 in
theorem k_265 : (Jvm.Cond.code ({ cls := "BuildDrawer", name := "leaveOutAllThatCanGo", desc := "()V" } : Jvm.MethodName) prog_1_method_18_code (3 : Nat) (Option.none : Option Jvm.ClassFile.FieldType)) ∈ cw := List.mem_of_getElem? (i := 220) (by rfl)
set_option maxRecDepth 20000 in
theorem k_266 : (Jvm.Cond.methodLink "BuildDrawer" (130 : Nat) ({ cls := "BuildDrawer", name := "leaveOutFromLastToFirst", desc := "()Z" } : Jvm.MethodName)) ∈ cw := List.mem_of_getElem? (i := 221) (by rfl)
set_option maxRecDepth 20000 in
theorem k_268 : (Jvm.Cond.instanceMethod ({ cls := "BuildDrawer", name := "leaveOutFromLastToFirst", desc := "()Z" } : Jvm.MethodName)) ∈ cw := List.mem_of_getElem? (i := 222) (by rfl)
set_option maxRecDepth 20000 in
theorem k_269 : (Jvm.Cond.code ({ cls := "BuildDrawer", name := "leaveOutFromLastToFirst", desc := "()Z" } : Jvm.MethodName) prog_1_method_19_code (3 : Nat) (Option.some Jvm.ClassFile.FieldType.boolean)) ∈ cw := List.mem_of_getElem? (i := 223) (by rfl)
set_option maxRecDepth 20000 in
theorem k_270 : (Jvm.Cond.methodLink "BuildDrawer" (123 : Nat) ({ cls := "BuildDrawer", name := "canGo", desc := "(I)Z" } : Jvm.MethodName)) ∈ cw := List.mem_of_getElem? (i := 224) (by rfl)
set_option maxRecDepth 20000 in
theorem k_272 : (Jvm.Cond.instanceMethod ({ cls := "BuildDrawer", name := "canGo", desc := "(I)Z" } : Jvm.MethodName)) ∈ cw := List.mem_of_getElem? (i := 225) (by rfl)
set_option maxRecDepth 20000 in
theorem k_273 : (Jvm.Cond.code ({ cls := "BuildDrawer", name := "canGo", desc := "(I)Z" } : Jvm.MethodName) prog_1_method_17_code (4 : Nat) (Option.some Jvm.ClassFile.FieldType.boolean)) ∈ cw := List.mem_of_getElem? (i := 226) (by rfl)
set_option maxRecDepth 20000 in
theorem k_274 : (Jvm.Cond.methodLink "BuildDrawer" (120 : Nat) ({ cls := "BuildDrawer", name := "countLeft", desc := "()I" } : Jvm.MethodName)) ∈ cw := List.mem_of_getElem? (i := 227) (by rfl)
set_option maxRecDepth 20000 in
theorem k_276 : (Jvm.Cond.instanceMethod ({ cls := "BuildDrawer", name := "countLeft", desc := "()I" } : Jvm.MethodName)) ∈ cw := List.mem_of_getElem? (i := 228) (by rfl)
set_option maxRecDepth 20000 in
theorem k_277 : (Jvm.Cond.code ({ cls := "BuildDrawer", name := "countLeft", desc := "()I" } : Jvm.MethodName) prog_1_method_13_code (3 : Nat) (Option.some Jvm.ClassFile.FieldType.int)) ∈ cw := List.mem_of_getElem? (i := 229) (by rfl)
set_option maxRecDepth 20000 in
theorem k_278 : (Jvm.Cond.methodLink "BuildDrawerLaw" (46 : Nat) ({ cls := "BuildDrawer", name := "left", desc := "(I)I" } : Jvm.MethodName)) ∈ cw := List.mem_of_getElem? (i := 230) (by rfl)
set_option maxRecDepth 20000 in
theorem k_279 : (Jvm.Cond.instanceMethod ({ cls := "BuildDrawer", name := "left", desc := "(I)I" } : Jvm.MethodName)) ∈ cw := List.mem_of_getElem? (i := 231) (by rfl)
set_option maxRecDepth 20000 in
theorem k_280 : (Jvm.Cond.selects "BuildDrawer" ({ cls := "BuildDrawer", name := "left", desc := "(I)I" } : Jvm.MethodName) ({ cls := "BuildDrawer", name := "left", desc := "(I)I" } : Jvm.MethodName)) ∈ cw := List.mem_of_getElem? (i := 232) (by rfl)
set_option maxRecDepth 20000 in
theorem k_281 : (Jvm.Cond.code ({ cls := "BuildDrawer", name := "left", desc := "(I)I" } : Jvm.MethodName) prog_1_method_7_code (4 : Nat) (Option.some Jvm.ClassFile.FieldType.int)) ∈ cw := List.mem_of_getElem? (i := 233) (by rfl)
set_option maxRecDepth 20000 in
theorem k_282 : (Jvm.Cond.methodLink "BuildDrawerLaw" (50 : Nat) ({ cls := "BuildDrawer", name := "minimal", desc := "()Z" } : Jvm.MethodName)) ∈ cw := List.mem_of_getElem? (i := 234) (by rfl)
set_option maxRecDepth 20000 in
theorem k_283 : (Jvm.Cond.instanceMethod ({ cls := "BuildDrawer", name := "minimal", desc := "()Z" } : Jvm.MethodName)) ∈ cw := List.mem_of_getElem? (i := 235) (by rfl)
set_option maxRecDepth 20000 in
theorem k_284 : (Jvm.Cond.selects "BuildDrawer" ({ cls := "BuildDrawer", name := "minimal", desc := "()Z" } : Jvm.MethodName) ({ cls := "BuildDrawer", name := "minimal", desc := "()Z" } : Jvm.MethodName)) ∈ cw := List.mem_of_getElem? (i := 236) (by rfl)
set_option maxRecDepth 20000 in
theorem k_285 : (Jvm.Cond.code ({ cls := "BuildDrawer", name := "minimal", desc := "()Z" } : Jvm.MethodName) prog_1_method_8_code (2 : Nat) (Option.some Jvm.ClassFile.FieldType.boolean)) ∈ cw := List.mem_of_getElem? (i := 237) (by rfl)
set_option maxRecDepth 20000 in
theorem k_286 : (Jvm.Cond.methodLink "BuildDrawerLaw" (57 : Nat) ({ cls := "BuildDrawer", name := "same", desc := "(JII)Z" } : Jvm.MethodName)) ∈ cw := List.mem_of_getElem? (i := 238) (by rfl)
set_option maxRecDepth 20000 in
theorem k_287 : (Jvm.Cond.instanceMethod ({ cls := "BuildDrawer", name := "same", desc := "(JII)Z" } : Jvm.MethodName)) ∈ cw := List.mem_of_getElem? (i := 239) (by rfl)
set_option maxRecDepth 20000 in
theorem k_288 : (Jvm.Cond.selects "BuildDrawer" ({ cls := "BuildDrawer", name := "same", desc := "(JII)Z" } : Jvm.MethodName) ({ cls := "BuildDrawer", name := "same", desc := "(JII)Z" } : Jvm.MethodName)) ∈ cw := List.mem_of_getElem? (i := 240) (by rfl)
set_option maxRecDepth 20000 in
theorem k_289 : (Jvm.Cond.code ({ cls := "BuildDrawer", name := "same", desc := "(JII)Z" } : Jvm.MethodName) prog_1_method_9_code (6 : Nat) (Option.some Jvm.ClassFile.FieldType.boolean)) ∈ cw := List.mem_of_getElem? (i := 241) (by rfl)
set_option maxRecDepth 20000 in
theorem k_292 : (Jvm.Cond.instanceMethod ({ cls := "BuildDrawer$Drawing", name := "isAtTheLikeOf", desc := "(LBuildDrawer$Drawing;)Z" } : Jvm.MethodName)) ∈ cw := List.mem_of_getElem? (i := 242) (by rfl)
set_option maxRecDepth 20000 in
theorem k_293 : (Jvm.Cond.code ({ cls := "BuildDrawer$Drawing", name := "isAtTheLikeOf", desc := "(LBuildDrawer$Drawing;)Z" } : Jvm.MethodName) prog_2_method_4_code (2 : Nat) (Option.some Jvm.ClassFile.FieldType.boolean)) ∈ cw := List.mem_of_getElem? (i := 243) (by rfl)
set_option maxRecDepth 20000 in
theorem k_294 : (Jvm.Cond.methodLink "BuildDrawerLaw" (9 : Nat) ({ cls := "BuildDrawerLaw", name := "cell", desc := "([II)I" } : Jvm.MethodName)) ∈ cw := List.mem_of_getElem? (i := 244) (by rfl)
set_option maxRecDepth 20000 in
theorem k_295 : (Jvm.Cond.static ({ cls := "BuildDrawerLaw", name := "cell", desc := "([II)I" } : Jvm.MethodName)) ∈ cw := List.mem_of_getElem? (i := 245) (by rfl)
set_option maxRecDepth 20000 in
theorem k_296 : (Jvm.Cond.code ({ cls := "BuildDrawerLaw", name := "cell", desc := "([II)I" } : Jvm.MethodName) method_2_code (2 : Nat) (Option.some Jvm.ClassFile.FieldType.int)) ∈ cw := List.mem_of_getElem? (i := 246) (by rfl)
set_option maxRecDepth 20000 in
theorem k_297 : (Jvm.Cond.classLink "BuildDrawerLaw" (18 : Nat) "BuildDrawerModel") ∈ cw := List.mem_of_getElem? (i := 247) (by rfl)
set_option maxRecDepth 20000 in
theorem k_298 : (Jvm.Cond.instantiable "BuildDrawerModel" (16 : Nat)) ∈ cw := List.mem_of_getElem? (i := 248) (by rfl)
set_option maxRecDepth 20000 in
theorem k_299 : (Jvm.Cond.methodLink "BuildDrawerLaw" (20 : Nat) ({ cls := "BuildDrawerModel", name := "<init>", desc := "(J)V" } : Jvm.MethodName)) ∈ cw := List.mem_of_getElem? (i := 249) (by rfl)
set_option maxRecDepth 20000 in
theorem k_300 : (Jvm.Cond.instanceMethod ({ cls := "BuildDrawerModel", name := "<init>", desc := "(J)V" } : Jvm.MethodName)) ∈ cw := List.mem_of_getElem? (i := 250) (by rfl)
set_option maxRecDepth 20000 in
theorem k_301 : (Jvm.Cond.code ({ cls := "BuildDrawerModel", name := "<init>", desc := "(J)V" } : Jvm.MethodName) prog_4_method_1_code (3 : Nat) (Option.none : Option Jvm.ClassFile.FieldType)) ∈ cw := List.mem_of_getElem? (i := 251) (by rfl)
set_option maxRecDepth 20000 in
theorem k_302 : (Jvm.Cond.methodLink "BuildDrawerModel" (1 : Nat) ({ cls := "java/lang/Object", name := "<init>", desc := "()V" } : Jvm.MethodName)) ∈ cw := List.mem_of_getElem? (i := 252) (by rfl)
set_option maxRecDepth 20000 in
theorem k_303 : (Jvm.Cond.fieldLink "BuildDrawerModel" (37 : Nat) "BuildDrawerModel" "code" "I") ∈ cw := List.mem_of_getElem? (i := 253) (by rfl)
set_option maxRecDepth 20000 in
theorem k_304 : (Jvm.Cond.fieldLink "BuildDrawerModel" (33 : Nat) "BuildDrawerModel" "seed" "J") ∈ cw := List.mem_of_getElem? (i := 254) (by rfl)
set_option maxRecDepth 20000 in
theorem k_305 : (Jvm.Cond.fieldLink "BuildDrawerModel" (41 : Nat) "BuildDrawerModel" "word" "J") ∈ cw := List.mem_of_getElem? (i := 255) (by rfl)
set_option maxRecDepth 20000 in
theorem k_306 : (Jvm.Cond.fieldLink "BuildDrawerModel" (71 : Nat) "BuildDrawerModel" "parts" "I") ∈ cw := List.mem_of_getElem? (i := 256) (by rfl)
set_option maxRecDepth 20000 in
theorem k_307 : (Jvm.Cond.fieldLink "BuildDrawerModel" (74 : Nat) "BuildDrawerModel" "bits" "I") ∈ cw := List.mem_of_getElem? (i := 257) (by rfl)
set_option maxRecDepth 20000 in
theorem k_308 : (Jvm.Cond.fieldLink "BuildDrawerModel" (52 : Nat) "BuildDrawerModel" "planted" "I") ∈ cw := List.mem_of_getElem? (i := 258) (by rfl)
set_option maxRecDepth 20000 in
theorem k_309 : (Jvm.Cond.fieldLink "BuildDrawerModel" (7 : Nat) "BuildDrawerModel" "stays" "Z") ∈ cw := List.mem_of_getElem? (i := 259) (by rfl)
set_option maxRecDepth 20000 in
theorem k_310 : (Jvm.Cond.fieldLink "BuildDrawerModel" (13 : Nat) "BuildDrawerModel" "sort" "[I") ∈ cw := List.mem_of_getElem? (i := 260) (by rfl)
set_option maxRecDepth 20000 in
theorem k_311 : (Jvm.Cond.fieldLink "BuildDrawerModel" (17 : Nat) "BuildDrawerModel" "a" "[I") ∈ cw := List.mem_of_getElem? (i := 261) (by rfl)
set_option maxRecDepth 20000 in
theorem k_312 : (Jvm.Cond.fieldLink "BuildDrawerModel" (20 : Nat) "BuildDrawerModel" "b" "[I") ∈ cw := List.mem_of_getElem? (i := 262) (by rfl)
set_option maxRecDepth 20000 in
theorem k_313 : (Jvm.Cond.fieldLink "BuildDrawerModel" (23 : Nat) "BuildDrawerModel" "need" "[I") ∈ cw := List.mem_of_getElem? (i := 263) (by rfl)
set_option maxRecDepth 20000 in
theorem k_314 : (Jvm.Cond.fieldLink "BuildDrawerModel" (26 : Nat) "BuildDrawerModel" "mark" "[I") ∈ cw := List.mem_of_getElem? (i := 264) (by rfl)
set_option maxRecDepth 20000 in
theorem k_315 : (Jvm.Cond.fieldLink "BuildDrawerModel" (29 : Nat) "BuildDrawerModel" "is" "[Z") ∈ cw := List.mem_of_getElem? (i := 265) (by rfl)
set_option maxRecDepth 20000 in
theorem k_316 : (Jvm.Cond.fieldLink "BuildDrawerModel" (99 : Nat) "BuildDrawerModel" "wanted" "I") ∈ cw := List.mem_of_getElem? (i := 266) (by rfl)
set_option maxRecDepth 20000 in
theorem k_317 : (Jvm.Cond.fieldLink "BuildDrawerModel" (102 : Nat) "BuildDrawerModel" "found" "I") ∈ cw := List.mem_of_getElem? (i := 267) (by rfl)
set_option maxRecDepth 20000 in
theorem k_318 : (Jvm.Cond.fieldLink "BuildDrawerModel" (96 : Nat) "BuildDrawerModel" "seen" "I") ∈ cw := List.mem_of_getElem? (i := 268) (by rfl)
set_option maxRecDepth 20000 in
theorem k_319 : (Jvm.Cond.lays "BuildDrawerModel" "BuildDrawerModel" "code" "I") ∈ cw := List.mem_of_getElem? (i := 269) (by rfl)
set_option maxRecDepth 20000 in
theorem k_321 : (Jvm.Cond.laysFinal "BuildDrawerModel" "BuildDrawerModel" "seed" "J") ∈ cw := List.mem_of_getElem? (i := 270) (by rfl)
set_option maxRecDepth 20000 in
theorem k_323 : (Jvm.Cond.lays "BuildDrawerModel" "BuildDrawerModel" "word" "J") ∈ cw := List.mem_of_getElem? (i := 271) (by rfl)
set_option maxRecDepth 20000 in
theorem k_325 : (Jvm.Cond.lays "BuildDrawerModel" "BuildDrawerModel" "parts" "I") ∈ cw := List.mem_of_getElem? (i := 272) (by rfl)
set_option maxRecDepth 20000 in
theorem k_327 : (Jvm.Cond.lays "BuildDrawerModel" "BuildDrawerModel" "bits" "I") ∈ cw := List.mem_of_getElem? (i := 273) (by rfl)
set_option maxRecDepth 20000 in
theorem k_329 : (Jvm.Cond.lays "BuildDrawerModel" "BuildDrawerModel" "planted" "I") ∈ cw := List.mem_of_getElem? (i := 274) (by rfl)
set_option maxRecDepth 20000 in
theorem k_331 : (Jvm.Cond.lays "BuildDrawerModel" "BuildDrawerModel" "stays" "Z") ∈ cw := List.mem_of_getElem? (i := 275) (by rfl)
set_option maxRecDepth 20000 in
theorem k_333 : (Jvm.Cond.laysFinal "BuildDrawerModel" "BuildDrawerModel" "sort" "[I") ∈ cw := List.mem_of_getElem? (i := 276) (by rfl)
set_option maxRecDepth 20000 in
theorem k_335 : (Jvm.Cond.laysFinal "BuildDrawerModel" "BuildDrawerModel" "a" "[I") ∈ cw := List.mem_of_getElem? (i := 277) (by rfl)
set_option maxRecDepth 20000 in
theorem k_337 : (Jvm.Cond.laysFinal "BuildDrawerModel" "BuildDrawerModel" "b" "[I") ∈ cw := List.mem_of_getElem? (i := 278) (by rfl)
set_option maxRecDepth 20000 in
theorem k_339 : (Jvm.Cond.laysFinal "BuildDrawerModel" "BuildDrawerModel" "need" "[I") ∈ cw := List.mem_of_getElem? (i := 279) (by rfl)
set_option maxRecDepth 20000 in
theorem k_341 : (Jvm.Cond.laysFinal "BuildDrawerModel" "BuildDrawerModel" "mark" "[I") ∈ cw := List.mem_of_getElem? (i := 280) (by rfl)
set_option maxRecDepth 20000 in
theorem k_343 : (Jvm.Cond.laysFinal "BuildDrawerModel" "BuildDrawerModel" "is" "[Z") ∈ cw := List.mem_of_getElem? (i := 281) (by rfl)
set_option maxRecDepth 20000 in
theorem k_345 : (Jvm.Cond.lays "BuildDrawerModel" "BuildDrawerModel" "wanted" "I") ∈ cw := List.mem_of_getElem? (i := 282) (by rfl)
set_option maxRecDepth 20000 in
theorem k_347 : (Jvm.Cond.lays "BuildDrawerModel" "BuildDrawerModel" "found" "I") ∈ cw := List.mem_of_getElem? (i := 283) (by rfl)
set_option maxRecDepth 20000 in
theorem k_349 : (Jvm.Cond.lays "BuildDrawerModel" "BuildDrawerModel" "seen" "I") ∈ cw := List.mem_of_getElem? (i := 284) (by rfl)
set_option maxRecDepth 20000 in
theorem k_352 : (Jvm.Cond.methodLink "BuildDrawerLaw" (25 : Nat) ({ cls := "BuildDrawerModel", name := "draw", desc := "(II)I" } : Jvm.MethodName)) ∈ cw := List.mem_of_getElem? (i := 285) (by rfl)
set_option maxRecDepth 20000 in
theorem k_353 : (Jvm.Cond.instanceMethod ({ cls := "BuildDrawerModel", name := "draw", desc := "(II)I" } : Jvm.MethodName)) ∈ cw := List.mem_of_getElem? (i := 286) (by rfl)
set_option maxRecDepth 20000 in
theorem k_354 : (Jvm.Cond.selects "BuildDrawerModel" ({ cls := "BuildDrawerModel", name := "draw", desc := "(II)I" } : Jvm.MethodName) ({ cls := "BuildDrawerModel", name := "draw", desc := "(II)I" } : Jvm.MethodName)) ∈ cw := List.mem_of_getElem? (i := 287) (by rfl)
set_option maxRecDepth 20000 in
theorem k_355 : (Jvm.Cond.code ({ cls := "BuildDrawerModel", name := "draw", desc := "(II)I" } : Jvm.MethodName) prog_4_method_8_code (4 : Nat) (Option.some Jvm.ClassFile.FieldType.int)) ∈ cw := List.mem_of_getElem? (i := 288) (by rfl)
set_option maxRecDepth 20000 in
theorem k_356 : (Jvm.Cond.methodLink "BuildDrawerModel" (63 : Nat) ({ cls := "BuildDrawerModel", name := "isSuch", desc := "(II)Z" } : Jvm.MethodName)) ∈ cw := List.mem_of_getElem? (i := 289) (by rfl)
set_option maxRecDepth 20000 in
theorem k_357 : (Jvm.Cond.static ({ cls := "BuildDrawerModel", name := "isSuch", desc := "(II)Z" } : Jvm.MethodName)) ∈ cw := List.mem_of_getElem? (i := 290) (by rfl)
set_option maxRecDepth 20000 in
theorem k_358 : (Jvm.Cond.code ({ cls := "BuildDrawerModel", name := "isSuch", desc := "(II)Z" } : Jvm.MethodName) prog_4_method_7_code (2 : Nat) (Option.some Jvm.ClassFile.FieldType.boolean)) ∈ cw := List.mem_of_getElem? (i := 291) (by rfl)
set_option maxRecDepth 20000 in
theorem k_359 : (Jvm.Cond.methodLink "BuildDrawerModel" (67 : Nat) ({ cls := "BuildDrawerModel", name := "fill", desc := "(JIII)V" } : Jvm.MethodName)) ∈ cw := List.mem_of_getElem? (i := 292) (by rfl)
set_option maxRecDepth 20000 in
theorem k_361 : (Jvm.Cond.instanceMethod ({ cls := "BuildDrawerModel", name := "fill", desc := "(JIII)V" } : Jvm.MethodName)) ∈ cw := List.mem_of_getElem? (i := 293) (by rfl)
set_option maxRecDepth 20000 in
theorem k_362 : (Jvm.Cond.code ({ cls := "BuildDrawerModel", name := "fill", desc := "(JIII)V" } : Jvm.MethodName) prog_4_method_6_code (9 : Nat) (Option.none : Option Jvm.ClassFile.FieldType)) ∈ cw := List.mem_of_getElem? (i := 294) (by rfl)
set_option maxRecDepth 20000 in
theorem k_363 : (Jvm.Cond.constantLong "BuildDrawerModel" (55 : Nat) (2862933555777941757 : Int64)) ∈ cw := List.mem_of_getElem? (i := 295) (by rfl)
set_option maxRecDepth 20000 in
theorem k_364 : (Jvm.Cond.methodLink "BuildDrawerModel" (48 : Nat) ({ cls := "BuildDrawerModel", name := "chance", desc := "(I)I" } : Jvm.MethodName)) ∈ cw := List.mem_of_getElem? (i := 296) (by rfl)
set_option maxRecDepth 20000 in
theorem k_366 : (Jvm.Cond.instanceMethod ({ cls := "BuildDrawerModel", name := "chance", desc := "(I)I" } : Jvm.MethodName)) ∈ cw := List.mem_of_getElem? (i := 297) (by rfl)
set_option maxRecDepth 20000 in
theorem k_367 : (Jvm.Cond.code ({ cls := "BuildDrawerModel", name := "chance", desc := "(I)I" } : Jvm.MethodName) prog_4_method_3_code (2 : Nat) (Option.some Jvm.ClassFile.FieldType.int)) ∈ cw := List.mem_of_getElem? (i := 298) (by rfl)
set_option maxRecDepth 20000 in
theorem k_368 : (Jvm.Cond.constantLong "BuildDrawerModel" (44 : Nat) (6364136223846793005 : Int64)) ∈ cw := List.mem_of_getElem? (i := 299) (by rfl)
set_option maxRecDepth 20000 in
theorem k_369 : (Jvm.Cond.constantLong "BuildDrawerModel" (46 : Nat) (1442695040888963407 : Int64)) ∈ cw := List.mem_of_getElem? (i := 300) (by rfl)
set_option maxRecDepth 20000 in
theorem k_370 : (Jvm.Cond.methodLink "BuildDrawerModel" (57 : Nat) ({ cls := "BuildDrawerModel", name := "sortOf", desc := "(I)I" } : Jvm.MethodName)) ∈ cw := List.mem_of_getElem? (i := 301) (by rfl)
set_option maxRecDepth 20000 in
theorem k_371 : (Jvm.Cond.static ({ cls := "BuildDrawerModel", name := "sortOf", desc := "(I)I" } : Jvm.MethodName)) ∈ cw := List.mem_of_getElem? (i := 302) (by rfl)
set_option maxRecDepth 20000 in
theorem k_372 : (Jvm.Cond.code ({ cls := "BuildDrawerModel", name := "sortOf", desc := "(I)I" } : Jvm.MethodName) prog_4_method_4_code (1 : Nat) (Option.some Jvm.ClassFile.FieldType.int)) ∈ cw := List.mem_of_getElem? (i := 303) (by rfl)
set_option maxRecDepth 20000 in
theorem k_373 : (Jvm.Cond.methodLink "BuildDrawerModel" (60 : Nat) ({ cls := "BuildDrawerModel", name := "drawB", desc := "(I)I" } : Jvm.MethodName)) ∈ cw := List.mem_of_getElem? (i := 304) (by rfl)
set_option maxRecDepth 20000 in
theorem k_375 : (Jvm.Cond.instanceMethod ({ cls := "BuildDrawerModel", name := "drawB", desc := "(I)I" } : Jvm.MethodName)) ∈ cw := List.mem_of_getElem? (i := 305) (by rfl)
set_option maxRecDepth 20000 in
theorem k_376 : (Jvm.Cond.code ({ cls := "BuildDrawerModel", name := "drawB", desc := "(I)I" } : Jvm.MethodName) prog_4_method_5_code (3 : Nat) (Option.some Jvm.ClassFile.FieldType.int)) ∈ cw := List.mem_of_getElem? (i := 306) (by rfl)
set_option maxRecDepth 20000 in
theorem k_377 : (Jvm.Cond.methodLink "BuildDrawerLaw" (61 : Nat) ({ cls := "BuildDrawerModel", name := "same", desc := "(JII)Z" } : Jvm.MethodName)) ∈ cw := List.mem_of_getElem? (i := 307) (by rfl)
set_option maxRecDepth 20000 in
theorem k_378 : (Jvm.Cond.instanceMethod ({ cls := "BuildDrawerModel", name := "same", desc := "(JII)Z" } : Jvm.MethodName)) ∈ cw := List.mem_of_getElem? (i := 308) (by rfl)
set_option maxRecDepth 20000 in
theorem k_379 : (Jvm.Cond.selects "BuildDrawerModel" ({ cls := "BuildDrawerModel", name := "same", desc := "(JII)Z" } : Jvm.MethodName) ({ cls := "BuildDrawerModel", name := "same", desc := "(JII)Z" } : Jvm.MethodName)) ∈ cw := List.mem_of_getElem? (i := 309) (by rfl)
set_option maxRecDepth 20000 in
theorem k_380 : (Jvm.Cond.code ({ cls := "BuildDrawerModel", name := "same", desc := "(JII)Z" } : Jvm.MethodName) prog_4_method_9_code (12 : Nat) (Option.some Jvm.ClassFile.FieldType.boolean)) ∈ cw := List.mem_of_getElem? (i := 310) (by rfl)
set_option maxRecDepth 20000 in
theorem k_381 : (Jvm.Cond.methodLink "BuildDrawerLaw" (40 : Nat) ({ cls := "BuildDrawerModel", name := "verdict", desc := "(IZ)V" } : Jvm.MethodName)) ∈ cw := List.mem_of_getElem? (i := 311) (by rfl)
set_option maxRecDepth 20000 in
theorem k_382 : (Jvm.Cond.instanceMethod ({ cls := "BuildDrawerModel", name := "verdict", desc := "(IZ)V" } : Jvm.MethodName)) ∈ cw := List.mem_of_getElem? (i := 312) (by rfl)
set_option maxRecDepth 20000 in
theorem k_383 : (Jvm.Cond.selects "BuildDrawerModel" ({ cls := "BuildDrawerModel", name := "verdict", desc := "(IZ)V" } : Jvm.MethodName) ({ cls := "BuildDrawerModel", name := "verdict", desc := "(IZ)V" } : Jvm.MethodName)) ∈ cw := List.mem_of_getElem? (i := 313) (by rfl)
set_option maxRecDepth 20000 in
theorem k_384 : (Jvm.Cond.code ({ cls := "BuildDrawerModel", name := "verdict", desc := "(IZ)V" } : Jvm.MethodName) prog_4_method_10_code (3 : Nat) (Option.none : Option Jvm.ClassFile.FieldType)) ∈ cw := List.mem_of_getElem? (i := 314) (by rfl)
set_option maxRecDepth 20000 in
theorem k_385 : (Jvm.Cond.methodLink "BuildDrawerLaw" (45 : Nat) ({ cls := "BuildDrawerModel", name := "shorter", desc := "()I" } : Jvm.MethodName)) ∈ cw := List.mem_of_getElem? (i := 315) (by rfl)
set_option maxRecDepth 20000 in
theorem k_386 : (Jvm.Cond.instanceMethod ({ cls := "BuildDrawerModel", name := "shorter", desc := "()I" } : Jvm.MethodName)) ∈ cw := List.mem_of_getElem? (i := 316) (by rfl)
set_option maxRecDepth 20000 in
theorem k_387 : (Jvm.Cond.selects "BuildDrawerModel" ({ cls := "BuildDrawerModel", name := "shorter", desc := "()I" } : Jvm.MethodName) ({ cls := "BuildDrawerModel", name := "shorter", desc := "()I" } : Jvm.MethodName)) ∈ cw := List.mem_of_getElem? (i := 317) (by rfl)
set_option maxRecDepth 20000 in
theorem k_388 : (Jvm.Cond.code ({ cls := "BuildDrawerModel", name := "shorter", desc := "()I" } : Jvm.MethodName) prog_4_method_14_code (3 : Nat) (Option.some Jvm.ClassFile.FieldType.int)) ∈ cw := List.mem_of_getElem? (i := 318) (by rfl)
set_option maxRecDepth 20000 in
theorem k_389 : (Jvm.Cond.methodLink "BuildDrawerModel" (77 : Nat) ({ cls := "BuildDrawerModel", name := "holds", desc := "(I)Z" } : Jvm.MethodName)) ∈ cw := List.mem_of_getElem? (i := 319) (by rfl)
set_option maxRecDepth 20000 in
theorem k_391 : (Jvm.Cond.instanceMethod ({ cls := "BuildDrawerModel", name := "holds", desc := "(I)Z" } : Jvm.MethodName)) ∈ cw := List.mem_of_getElem? (i := 320) (by rfl)
set_option maxRecDepth 20000 in
theorem k_392 : (Jvm.Cond.code ({ cls := "BuildDrawerModel", name := "holds", desc := "(I)Z" } : Jvm.MethodName) prog_4_method_11_code (4 : Nat) (Option.some Jvm.ClassFile.FieldType.boolean)) ∈ cw := List.mem_of_getElem? (i := 321) (by rfl)
set_option maxRecDepth 20000 in
theorem k_393 : (Jvm.Cond.methodLink "BuildDrawerModel" (81 : Nat) ({ cls := "BuildDrawerModel", name := "canGo", desc := "(I)Z" } : Jvm.MethodName)) ∈ cw := List.mem_of_getElem? (i := 322) (by rfl)
set_option maxRecDepth 20000 in
theorem k_395 : (Jvm.Cond.instanceMethod ({ cls := "BuildDrawerModel", name := "canGo", desc := "(I)Z" } : Jvm.MethodName)) ∈ cw := List.mem_of_getElem? (i := 323) (by rfl)
set_option maxRecDepth 20000 in
theorem k_396 : (Jvm.Cond.code ({ cls := "BuildDrawerModel", name := "canGo", desc := "(I)Z" } : Jvm.MethodName) prog_4_method_12_code (3 : Nat) (Option.some Jvm.ClassFile.FieldType.boolean)) ∈ cw := List.mem_of_getElem? (i := 324) (by rfl)
set_option maxRecDepth 20000 in
theorem k_397 : (Jvm.Cond.methodLink "BuildDrawerModel" (84 : Nat) ({ cls := "BuildDrawerModel", name := "count", desc := "()I" } : Jvm.MethodName)) ∈ cw := List.mem_of_getElem? (i := 325) (by rfl)
set_option maxRecDepth 20000 in
theorem k_399 : (Jvm.Cond.instanceMethod ({ cls := "BuildDrawerModel", name := "count", desc := "()I" } : Jvm.MethodName)) ∈ cw := List.mem_of_getElem? (i := 326) (by rfl)
set_option maxRecDepth 20000 in
theorem k_400 : (Jvm.Cond.code ({ cls := "BuildDrawerModel", name := "count", desc := "()I" } : Jvm.MethodName) prog_4_method_13_code (3 : Nat) (Option.some Jvm.ClassFile.FieldType.int)) ∈ cw := List.mem_of_getElem? (i := 327) (by rfl)
set_option maxRecDepth 20000 in
theorem k_401 : (Jvm.Cond.methodLink "BuildDrawerLaw" (54 : Nat) ({ cls := "BuildDrawerModel", name := "minimal", desc := "()Z" } : Jvm.MethodName)) ∈ cw := List.mem_of_getElem? (i := 328) (by rfl)
set_option maxRecDepth 20000 in
theorem k_402 : (Jvm.Cond.instanceMethod ({ cls := "BuildDrawerModel", name := "minimal", desc := "()Z" } : Jvm.MethodName)) ∈ cw := List.mem_of_getElem? (i := 329) (by rfl)
set_option maxRecDepth 20000 in
theorem k_403 : (Jvm.Cond.selects "BuildDrawerModel" ({ cls := "BuildDrawerModel", name := "minimal", desc := "()Z" } : Jvm.MethodName) ({ cls := "BuildDrawerModel", name := "minimal", desc := "()Z" } : Jvm.MethodName)) ∈ cw := List.mem_of_getElem? (i := 330) (by rfl)
set_option maxRecDepth 20000 in
theorem k_404 : (Jvm.Cond.code ({ cls := "BuildDrawerModel", name := "minimal", desc := "()Z" } : Jvm.MethodName) prog_4_method_15_code (3 : Nat) (Option.some Jvm.ClassFile.FieldType.boolean)) ∈ cw := List.mem_of_getElem? (i := 331) (by rfl)
set_option maxRecDepth 20000 in
theorem k_405 : (Jvm.Cond.methodLink "BuildDrawerLaw" (49 : Nat) ({ cls := "BuildDrawerModel", name := "left", desc := "(I)I" } : Jvm.MethodName)) ∈ cw := List.mem_of_getElem? (i := 332) (by rfl)
set_option maxRecDepth 20000 in
theorem k_406 : (Jvm.Cond.instanceMethod ({ cls := "BuildDrawerModel", name := "left", desc := "(I)I" } : Jvm.MethodName)) ∈ cw := List.mem_of_getElem? (i := 333) (by rfl)
set_option maxRecDepth 20000 in
theorem k_407 : (Jvm.Cond.selects "BuildDrawerModel" ({ cls := "BuildDrawerModel", name := "left", desc := "(I)I" } : Jvm.MethodName) ({ cls := "BuildDrawerModel", name := "left", desc := "(I)I" } : Jvm.MethodName)) ∈ cw := List.mem_of_getElem? (i := 334) (by rfl)
set_option maxRecDepth 20000 in
theorem k_408 : (Jvm.Cond.code ({ cls := "BuildDrawerModel", name := "left", desc := "(I)I" } : Jvm.MethodName) prog_4_method_16_code (4 : Nat) (Option.some Jvm.ClassFile.FieldType.int)) ∈ cw := List.mem_of_getElem? (i := 335) (by rfl)
set_option maxRecDepth 20000 in
theorem k_409 : (Jvm.Cond.methodLink "BuildDrawerLaw" (30 : Nat) ({ cls := "BuildDrawerModel", name := "part", desc := "(II)J" } : Jvm.MethodName)) ∈ cw := List.mem_of_getElem? (i := 336) (by rfl)
set_option maxRecDepth 20000 in
theorem k_410 : (Jvm.Cond.instanceMethod ({ cls := "BuildDrawerModel", name := "part", desc := "(II)J" } : Jvm.MethodName)) ∈ cw := List.mem_of_getElem? (i := 337) (by rfl)
set_option maxRecDepth 20000 in
theorem k_411 : (Jvm.Cond.selects "BuildDrawerModel" ({ cls := "BuildDrawerModel", name := "part", desc := "(II)J" } : Jvm.MethodName) ({ cls := "BuildDrawerModel", name := "part", desc := "(II)J" } : Jvm.MethodName)) ∈ cw := List.mem_of_getElem? (i := 338) (by rfl)
set_option maxRecDepth 20000 in
theorem k_412 : (Jvm.Cond.code ({ cls := "BuildDrawerModel", name := "part", desc := "(II)J" } : Jvm.MethodName) prog_4_method_17_code (3 : Nat) (Option.some Jvm.ClassFile.FieldType.long)) ∈ cw := List.mem_of_getElem? (i := 339) (by rfl)
set_option maxRecDepth 20000 in
theorem k_413 : (Jvm.Cond.constantLong "BuildDrawerModel" (88 : Nat) (-1 : Int64)) ∈ cw := List.mem_of_getElem? (i := 340) (by rfl)
set_option maxRecDepth 20000 in
theorem k_414 : (Jvm.Cond.methodLink "BuildDrawerModel" (90 : Nat) ({ cls := "BuildDrawerModel", name := "shared", desc := "()J" } : Jvm.MethodName)) ∈ cw := List.mem_of_getElem? (i := 341) (by rfl)
set_option maxRecDepth 20000 in
theorem k_416 : (Jvm.Cond.instanceMethod ({ cls := "BuildDrawerModel", name := "shared", desc := "()J" } : Jvm.MethodName)) ∈ cw := List.mem_of_getElem? (i := 342) (by rfl)
set_option maxRecDepth 20000 in
theorem k_417 : (Jvm.Cond.code ({ cls := "BuildDrawerModel", name := "shared", desc := "()J" } : Jvm.MethodName) prog_4_method_18_code (4 : Nat) (Option.some Jvm.ClassFile.FieldType.long)) ∈ cw := List.mem_of_getElem? (i := 343) (by rfl)
set_option maxRecDepth 20000 in
theorem k_418 : (Jvm.Cond.constantLong "BuildDrawerModel" (94 : Nat) (-2 : Int64)) ∈ cw := List.mem_of_getElem? (i := 344) (by rfl)
set_option maxRecDepth 20000 in
theorem k_419 : (Jvm.Cond.methodLink "BuildDrawerLaw" (35 : Nat) ({ cls := "BuildDrawerModel", name := "letter", desc := "(I)I" } : Jvm.MethodName)) ∈ cw := List.mem_of_getElem? (i := 345) (by rfl)
set_option maxRecDepth 20000 in
theorem k_420 : (Jvm.Cond.instanceMethod ({ cls := "BuildDrawerModel", name := "letter", desc := "(I)I" } : Jvm.MethodName)) ∈ cw := List.mem_of_getElem? (i := 346) (by rfl)
set_option maxRecDepth 20000 in
theorem k_421 : (Jvm.Cond.selects "BuildDrawerModel" ({ cls := "BuildDrawerModel", name := "letter", desc := "(I)I" } : Jvm.MethodName) ({ cls := "BuildDrawerModel", name := "letter", desc := "(I)I" } : Jvm.MethodName)) ∈ cw := List.mem_of_getElem? (i := 347) (by rfl)
set_option maxRecDepth 20000 in
theorem k_422 : (Jvm.Cond.code ({ cls := "BuildDrawerModel", name := "letter", desc := "(I)I" } : Jvm.MethodName) prog_4_method_22_code (3 : Nat) (Option.some Jvm.ClassFile.FieldType.int)) ∈ cw := List.mem_of_getElem? (i := 348) (by rfl)
set_option maxRecDepth 20000 in
theorem k_423 : (Jvm.Cond.methodLink "BuildDrawerModel" (109 : Nat) ({ cls := "BuildDrawerModel", name := "letterOf", desc := "(I)I" } : Jvm.MethodName)) ∈ cw := List.mem_of_getElem? (i := 349) (by rfl)
set_option maxRecDepth 20000 in
theorem k_424 : (Jvm.Cond.static ({ cls := "BuildDrawerModel", name := "letterOf", desc := "(I)I" } : Jvm.MethodName)) ∈ cw := List.mem_of_getElem? (i := 350) (by rfl)
set_option maxRecDepth 20000 in
theorem k_425 : (Jvm.Cond.code ({ cls := "BuildDrawerModel", name := "letterOf", desc := "(I)I" } : Jvm.MethodName) prog_4_method_21_code (1 : Nat) (Option.some Jvm.ClassFile.FieldType.int)) ∈ cw := List.mem_of_getElem? (i := 351) (by rfl)
set_option maxRecDepth 20000 in
theorem k_426 : (Jvm.Cond.methodLink "BuildDrawerModel" (105 : Nat) ({ cls := "BuildDrawerModel", name := "say", desc := "(I)V" } : Jvm.MethodName)) ∈ cw := List.mem_of_getElem? (i := 352) (by rfl)
set_option maxRecDepth 20000 in
theorem k_428 : (Jvm.Cond.instanceMethod ({ cls := "BuildDrawerModel", name := "say", desc := "(I)V" } : Jvm.MethodName)) ∈ cw := List.mem_of_getElem? (i := 353) (by rfl)
set_option maxRecDepth 20000 in
theorem k_429 : (Jvm.Cond.code ({ cls := "BuildDrawerModel", name := "say", desc := "(I)V" } : Jvm.MethodName) prog_4_method_19_code (2 : Nat) (Option.none : Option Jvm.ClassFile.FieldType)) ∈ cw := List.mem_of_getElem? (i := 354) (by rfl)
set_option maxRecDepth 20000 in
theorem k_430 : (Jvm.Cond.methodLink "BuildDrawerModel" (112 : Nat) ({ cls := "BuildDrawerModel", name := "sayNumber", desc := "(I)V" } : Jvm.MethodName)) ∈ cw := List.mem_of_getElem? (i := 355) (by rfl)
set_option maxRecDepth 20000 in
theorem k_432 : (Jvm.Cond.instanceMethod ({ cls := "BuildDrawerModel", name := "sayNumber", desc := "(I)V" } : Jvm.MethodName)) ∈ cw := List.mem_of_getElem? (i := 356) (by rfl)
set_option maxRecDepth 20000 in
theorem k_433 : (Jvm.Cond.code ({ cls := "BuildDrawerModel", name := "sayNumber", desc := "(I)V" } : Jvm.MethodName) prog_4_method_20_code (3 : Nat) (Option.none : Option Jvm.ClassFile.FieldType)) ∈ cw := List.mem_of_getElem? (i := 357) (by rfl)
set_option maxRecDepth 20000 in
theorem k_434 : (Jvm.Cond.constantLong "BuildDrawerLaw" (55 : Nat) (4294967295 : Int64)) ∈ cw := List.mem_of_getElem? (i := 358) (by rfl)
set_option maxRecDepth 20000 in
theorem k_435 : (Jvm.Cond.fieldLink "java/lang/String" (9 : Nat) "java/lang/String" "value" "[B") ∈ cw := List.mem_of_getElem? (i := 359) (by rfl)
set_option maxRecDepth 20000 in
theorem k_436 : (Jvm.Cond.fieldLink "java/lang/String" (15 : Nat) "java/lang/String" "coder" "B") ∈ cw := List.mem_of_getElem? (i := 360) (by rfl)
