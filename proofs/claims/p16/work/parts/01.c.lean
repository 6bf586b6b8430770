set_option maxRecDepth 100000 in
theorem k_31 : (Jvm.Cond.code ({ cls := "TableTurns", name := "<init>", desc := "()V" } : Jvm.MethodName) prog_1_method_1_code (2 : Nat) (Option.none : Option Jvm.ClassFile.FieldType)) ∈ bigG := mg 31 rfl rfl
set_option maxRecDepth 100000 in
theorem k_34 : (Jvm.Cond.code ({ cls := "java/lang/Object", name := "<init>", desc := "()V" } : Jvm.MethodName) object_method_1_code (1 : Nat) (Option.none : Option Jvm.ClassFile.FieldType)) ∈ bigG := mg 34 rfl rfl
set_option maxRecDepth 100000 in
theorem k_39 : (Jvm.Cond.code ({ cls := "TableTurns$Tape", name := "<init>", desc := "()V" } : Jvm.MethodName) prog_11_method_1_code (1 : Nat) (Option.none : Option Jvm.ClassFile.FieldType)) ∈ bigG := mg 39 rfl rfl
set_option maxRecDepth 100000 in
theorem k_84 : (Jvm.Cond.code ({ cls := "TableTurns$CommuneReader", name := "<init>", desc := "()V" } : Jvm.MethodName) prog_3_method_1_code (1 : Nat) (Option.none : Option Jvm.ClassFile.FieldType)) ∈ bigG := mg 84 rfl rfl
set_option maxRecDepth 100000 in
theorem k_100 : (Jvm.Cond.code ({ cls := "TableTurns$Commune", name := "<init>", desc := "()V" } : Jvm.MethodName) prog_2_method_1_code (1 : Nat) (Option.none : Option Jvm.ClassFile.FieldType)) ∈ bigG := mg 100 rfl rfl
set_option maxRecDepth 100000 in
theorem k_106 : (Jvm.Cond.code ({ cls := "TableTurns$Law", name := "<init>", desc := "()V" } : Jvm.MethodName) prog_5_method_1_code (1 : Nat) (Option.none : Option Jvm.ClassFile.FieldType)) ∈ bigG := mg 106 rfl rfl
set_option maxRecDepth 100000 in
theorem k_238 : (Jvm.Cond.code ({ cls := "TableTurns$Weeks", name := "<init>", desc := "()V" } : Jvm.MethodName) prog_12_method_1_code (1 : Nat) (Option.none : Option Jvm.ClassFile.FieldType)) ∈ bigG := mg 238 rfl rfl
set_option maxRecDepth 100000 in
theorem k_258 : (Jvm.Cond.code ({ cls := "TableTurns$Standing", name := "<init>", desc := "()V" } : Jvm.MethodName) prog_10_method_1_code (1 : Nat) (Option.none : Option Jvm.ClassFile.FieldType)) ∈ bigG := mg 258 rfl rfl
set_option maxRecDepth 100000 in
theorem k_294 : (Jvm.Cond.code ({ cls := "TableTurns$Hearsay", name := "<init>", desc := "()V" } : Jvm.MethodName) prog_4_method_1_code (1 : Nat) (Option.none : Option Jvm.ClassFile.FieldType)) ∈ bigG := mg 294 rfl rfl
set_option maxRecDepth 100000 in
theorem k_298 : (Jvm.Cond.code ({ cls := "java/util/Arrays", name := "fill", desc := "([II)V" } : Jvm.MethodName) prog_30_method_103_code (4 : Nat) (Option.none : Option Jvm.ClassFile.FieldType)) ∈ bigG := mg 298 rfl rfl
set_option maxRecDepth 100000 in
theorem k_324 : (Jvm.Cond.code ({ cls := "TableTurns$Planner", name := "<init>", desc := "()V" } : Jvm.MethodName) prog_9_method_1_code (2 : Nat) (Option.none : Option Jvm.ClassFile.FieldType)) ∈ bigG := mg 324 rfl rfl
set_option maxRecDepth 100000 in
theorem k_353 : (Jvm.Cond.code ({ cls := "TableTurns$Parting", name := "<init>", desc := "()V" } : Jvm.MethodName) prog_8_method_1_code (1 : Nat) (Option.none : Option Jvm.ClassFile.FieldType)) ∈ bigG := mg 353 rfl rfl
set_option maxRecDepth 100000 in
theorem k_383 : (Jvm.Cond.code ({ cls := "TableTurns$Pairing", name := "<init>", desc := "()V" } : Jvm.MethodName) prog_7_method_1_code (1 : Nat) (Option.none : Option Jvm.ClassFile.FieldType)) ∈ bigG := mg 383 rfl rfl
set_option maxRecDepth 100000 in
theorem k_400 : (Jvm.Cond.code ({ cls := "TableTurns$Mark", name := "<init>", desc := "()V" } : Jvm.MethodName) prog_6_method_1_code (1 : Nat) (Option.none : Option Jvm.ClassFile.FieldType)) ∈ bigG := mg 400 rfl rfl
set_option maxRecDepth 100000 in
theorem k_475 : (Jvm.Cond.code ({ cls := "TableTurns", name := "feed", desc := "(JJJ)I" } : Jvm.MethodName) prog_1_method_2_code (7 : Nat) (Option.some Jvm.ClassFile.FieldType.int)) ∈ bigG := mg 475 rfl rfl
set_option maxRecDepth 100000 in
theorem k_479 : (Jvm.Cond.code ({ cls := "TableTurns$Tape", name := "addBytes", desc := "(J)V" } : Jvm.MethodName) prog_11_method_2_code (6 : Nat) (Option.none : Option Jvm.ClassFile.FieldType)) ∈ bigG := mg 479 rfl rfl
set_option maxRecDepth 100000 in
theorem k_484 : (Jvm.Cond.code ({ cls := "TableTurns", name := "commune", desc := "()I" } : Jvm.MethodName) prog_1_method_3_code (2 : Nat) (Option.some Jvm.ClassFile.FieldType.int)) ∈ bigG := mg 484 rfl rfl
set_option maxRecDepth 100000 in
theorem k_488 : (Jvm.Cond.code ({ cls := "TableTurns$CommuneReader", name := "reads", desc := "(LTableTurns$Tape;LTableTurns$Commune;)Z" } : Jvm.MethodName) prog_3_method_2_code (5 : Nat) (Option.some Jvm.ClassFile.FieldType.boolean)) ∈ bigG := mg 488 rfl rfl
set_option maxRecDepth 100000 in
theorem k_492 : (Jvm.Cond.code ({ cls := "TableTurns$Commune", name := "forgets", desc := "()V" } : Jvm.MethodName) prog_2_method_2_code (1 : Nat) (Option.none : Option Jvm.ClassFile.FieldType)) ∈ bigG := mg 492 rfl rfl
set_option maxRecDepth 100000 in
theorem k_497 : (Jvm.Cond.code ({ cls := "TableTurns$Law", name := "becomesUsual", desc := "()V" } : Jvm.MethodName) prog_5_method_2_code (1 : Nat) (Option.none : Option Jvm.ClassFile.FieldType)) ∈ bigG := mg 497 rfl rfl
set_option maxRecDepth 100000 in
theorem k_501 : (Jvm.Cond.code ({ cls := "TableTurns$Law", name := "addStep", desc := "(I)V" } : Jvm.MethodName) prog_5_method_13_code (2 : Nat) (Option.none : Option Jvm.ClassFile.FieldType)) ∈ bigG := mg 501 rfl rfl
set_option maxRecDepth 100000 in
theorem k_505 : (Jvm.Cond.code ({ cls := "TableTurns$Tape", name := "rewind", desc := "()V" } : Jvm.MethodName) prog_11_method_3_code (1 : Nat) (Option.none : Option Jvm.ClassFile.FieldType)) ∈ bigG := mg 505 rfl rfl
set_option maxRecDepth 100000 in
theorem k_509 : (Jvm.Cond.code ({ cls := "TableTurns$Tape", name := "takesToken", desc := "()V" } : Jvm.MethodName) prog_11_method_4_code (1 : Nat) (Option.none : Option Jvm.ClassFile.FieldType)) ∈ bigG := mg 509 rfl rfl
set_option maxRecDepth 100000 in
theorem k_512 : (Jvm.Cond.code ({ cls := "TableTurns$Tape", name := "isBlank", desc := "(I)Z" } : Jvm.MethodName) prog_11_method_7_code (1 : Nat) (Option.some Jvm.ClassFile.FieldType.boolean)) ∈ bigG := mg 512 rfl rfl
set_option maxRecDepth 100000 in
theorem k_515 : (Jvm.Cond.code ({ cls := "TableTurns$Tape", name := "isLetter", desc := "(I)Z" } : Jvm.MethodName) prog_11_method_8_code (1 : Nat) (Option.some Jvm.ClassFile.FieldType.boolean)) ∈ bigG := mg 515 rfl rfl
set_option maxRecDepth 100000 in
theorem k_519 : (Jvm.Cond.code ({ cls := "TableTurns$Tape", name := "takesLetters", desc := "()V" } : Jvm.MethodName) prog_11_method_5_code (1 : Nat) (Option.none : Option Jvm.ClassFile.FieldType)) ∈ bigG := mg 519 rfl rfl
set_option maxRecDepth 100000 in
theorem k_522 : (Jvm.Cond.code ({ cls := "TableTurns$Tape", name := "withLetter", desc := "(JC)J" } : Jvm.MethodName) prog_11_method_10_code (3 : Nat) (Option.some Jvm.ClassFile.FieldType.long)) ∈ bigG := mg 522 rfl rfl
set_option maxRecDepth 100000 in
theorem k_526 : (Jvm.Cond.code ({ cls := "TableTurns$Tape", name := "isDigit", desc := "(I)Z" } : Jvm.MethodName) prog_11_method_9_code (1 : Nat) (Option.some Jvm.ClassFile.FieldType.boolean)) ∈ bigG := mg 526 rfl rfl
set_option maxRecDepth 100000 in
theorem k_530 : (Jvm.Cond.code ({ cls := "TableTurns$Tape", name := "takesDigits", desc := "()V" } : Jvm.MethodName) prog_11_method_6_code (1 : Nat) (Option.none : Option Jvm.ClassFile.FieldType)) ∈ bigG := mg 530 rfl rfl
set_option maxRecDepth 100000 in
theorem k_535 : (Jvm.Cond.code ({ cls := "java/lang/String", name := "indexOf", desc := "(I)I" } : Jvm.MethodName) prog_23_method_79_code (2 : Nat) (Option.some Jvm.ClassFile.FieldType.int)) ∈ bigG := mg 535 rfl rfl
set_option maxRecDepth 100000 in
theorem k_539 : (Jvm.Cond.code ({ cls := "java/lang/String", name := "indexOf", desc := "(II)I" } : Jvm.MethodName) prog_23_method_80_code (3 : Nat) (Option.some Jvm.ClassFile.FieldType.int)) ∈ bigG := mg 539 rfl rfl
set_option maxRecDepth 100000 in
theorem k_543 : (Jvm.Cond.code ({ cls := "java/lang/String", name := "isLatin1", desc := "()Z" } : Jvm.MethodName) prog_23_method_154_code (1 : Nat) (Option.some Jvm.ClassFile.FieldType.boolean)) ∈ bigG := mg 543 rfl rfl
set_option maxRecDepth 100000 in
theorem k_549 : (Jvm.Cond.code ({ cls := "java/lang/String", name := "length", desc := "()I" } : Jvm.MethodName) prog_23_method_54_code (1 : Nat) (Option.some Jvm.ClassFile.FieldType.int)) ∈ bigG := mg 549 rfl rfl
set_option maxRecDepth 100000 in
theorem k_553 : (Jvm.Cond.code ({ cls := "java/lang/String", name := "coder", desc := "()B" } : Jvm.MethodName) prog_23_method_152_code (1 : Nat) (Option.some Jvm.ClassFile.FieldType.byte)) ∈ bigG := mg 553 rfl rfl
set_option maxRecDepth 100000 in
theorem k_556 : (Jvm.Cond.code ({ cls := "java/lang/StringLatin1", name := "indexOf", desc := "([BIII)I" } : Jvm.MethodName) prog_24_method_22_code (4 : Nat) (Option.some Jvm.ClassFile.FieldType.int)) ∈ bigG := mg 556 rfl rfl
set_option maxRecDepth 100000 in
theorem k_559 : (Jvm.Cond.code ({ cls := "java/lang/StringLatin1", name := "canEncode", desc := "(I)Z" } : Jvm.MethodName) prog_24_method_4_code (1 : Nat) (Option.some Jvm.ClassFile.FieldType.boolean)) ∈ bigG := mg 559 rfl rfl
set_option maxRecDepth 100000 in
theorem k_562 : (Jvm.Cond.code ({ cls := "java/lang/Math", name := "max", desc := "(II)I" } : Jvm.MethodName) prog_21_method_65_code (2 : Nat) (Option.some Jvm.ClassFile.FieldType.int)) ∈ bigG := mg 562 rfl rfl
set_option maxRecDepth 100000 in
theorem k_565 : (Jvm.Cond.code ({ cls := "java/lang/Math", name := "min", desc := "(II)I" } : Jvm.MethodName) prog_21_method_69_code (2 : Nat) (Option.some Jvm.ClassFile.FieldType.int)) ∈ bigG := mg 565 rfl rfl
set_option maxRecDepth 100000 in
theorem k_568 : (Jvm.Cond.code ({ cls := "java/lang/StringLatin1", name := "indexOfChar", desc := "([BIII)I" } : Jvm.MethodName) prog_24_method_23_code (6 : Nat) (Option.some Jvm.ClassFile.FieldType.int)) ∈ bigG := mg 568 rfl rfl
set_option maxRecDepth 100000 in
theorem k_571 : (Jvm.Cond.code ({ cls := "java/lang/StringUTF16", name := "indexOf", desc := "([BIII)I" } : Jvm.MethodName) prog_25_method_40_code (4 : Nat) (Option.some Jvm.ClassFile.FieldType.int)) ∈ bigG := mg 571 rfl rfl
set_option maxRecDepth 100000 in
theorem k_577 : (Jvm.Cond.code ({ cls := "java/lang/StringUTF16", name := "indexOfChar", desc := "([BIII)I" } : Jvm.MethodName) prog_25_method_47_code (4 : Nat) (Option.some Jvm.ClassFile.FieldType.int)) ∈ bigG := mg 577 rfl rfl
set_option maxRecDepth 100000 in
theorem k_580 : (Jvm.Cond.code ({ cls := "java/lang/StringUTF16", name := "checkBoundsBeginEnd", desc := "(II[B)V" } : Jvm.MethodName) prog_25_method_93_code (3 : Nat) (Option.none : Option Jvm.ClassFile.FieldType)) ∈ bigG := mg 580 rfl rfl
set_option maxRecDepth 100000 in
theorem k_583 : (Jvm.Cond.code ({ cls := "java/lang/StringUTF16", name := "length", desc := "([B)I" } : Jvm.MethodName) prog_25_method_6_code (1 : Nat) (Option.some Jvm.ClassFile.FieldType.int)) ∈ bigG := mg 583 rfl rfl
set_option maxRecDepth 100000 in
theorem k_586 : (Jvm.Cond.code ({ cls := "java/lang/String", name := "checkBoundsBeginEnd", desc := "(III)V" } : Jvm.MethodName) prog_23_method_158_code (3 : Nat) (Option.none : Option Jvm.ClassFile.FieldType)) ∈ bigG := mg 586 rfl rfl
set_option maxRecDepth 100000 in
theorem k_591 : (Jvm.Cond.code ({ cls := "jdk/internal/util/Preconditions", name := "checkFromToIndex", desc := "(IIILjava/util/function/BiFunction;)I" } : Jvm.MethodName) prog_32_method_12_code (4 : Nat) (Option.some Jvm.ClassFile.FieldType.int)) ∈ bigG := mg 591 rfl rfl
set_option maxRecDepth 100000 in
theorem k_594 : (Jvm.Cond.code ({ cls := "java/lang/StringUTF16", name := "indexOfCharUnsafe", desc := "([BIII)I" } : Jvm.MethodName) prog_25_method_48_code (5 : Nat) (Option.some Jvm.ClassFile.FieldType.int)) ∈ bigG := mg 594 rfl rfl
set_option maxRecDepth 100000 in
theorem k_597 : (Jvm.Cond.code ({ cls := "java/lang/StringUTF16", name := "getChar", desc := "([BI)C" } : Jvm.MethodName) prog_25_method_5_code (2 : Nat) (Option.some Jvm.ClassFile.FieldType.char)) ∈ bigG := mg 597 rfl rfl
set_option maxRecDepth 100000 in
theorem k_606 : (Jvm.Cond.code ({ cls := "java/lang/StringUTF16", name := "indexOfSupplementary", desc := "([BIII)I" } : Jvm.MethodName) prog_25_method_49_code (7 : Nat) (Option.some Jvm.ClassFile.FieldType.int)) ∈ bigG := mg 606 rfl rfl
set_option maxRecDepth 100000 in
theorem k_609 : (Jvm.Cond.code ({ cls := "java/lang/Character", name := "isValidCodePoint", desc := "(I)Z" } : Jvm.MethodName) prog_17_method_11_code (2 : Nat) (Option.some Jvm.ClassFile.FieldType.boolean)) ∈ bigG := mg 609 rfl rfl
set_option maxRecDepth 100000 in
theorem k_612 : (Jvm.Cond.code ({ cls := "java/lang/Character", name := "highSurrogate", desc := "(I)C" } : Jvm.MethodName) prog_17_method_28_code (1 : Nat) (Option.some Jvm.ClassFile.FieldType.char)) ∈ bigG := mg 612 rfl rfl
set_option maxRecDepth 100000 in
theorem k_616 : (Jvm.Cond.code ({ cls := "java/lang/Character", name := "lowSurrogate", desc := "(I)C" } : Jvm.MethodName) prog_17_method_29_code (1 : Nat) (Option.some Jvm.ClassFile.FieldType.char)) ∈ bigG := mg 616 rfl rfl
set_option maxRecDepth 100000 in
theorem k_622 : (Jvm.Cond.code ({ cls := "TableTurns$Tape", name := "isWord", desc := "(Ljava/lang/String;)Z" } : Jvm.MethodName) prog_11_method_11_code (5 : Nat) (Option.some Jvm.ClassFile.FieldType.boolean)) ∈ bigG := mg 622 rfl rfl
set_option maxRecDepth 100000 in
theorem k_627 : (Jvm.Cond.code ({ cls := "java/lang/String", name := "charAt", desc := "(I)C" } : Jvm.MethodName) prog_23_method_56_code (2 : Nat) (Option.some Jvm.ClassFile.FieldType.char)) ∈ bigG := mg 627 rfl rfl
set_option maxRecDepth 100000 in
theorem k_630 : (Jvm.Cond.code ({ cls := "java/lang/StringLatin1", name := "charAt", desc := "([BI)C" } : Jvm.MethodName) prog_24_method_2_code (2 : Nat) (Option.some Jvm.ClassFile.FieldType.char)) ∈ bigG := mg 630 rfl rfl
set_option maxRecDepth 100000 in
theorem k_633 : (Jvm.Cond.code ({ cls := "java/lang/String", name := "checkIndex", desc := "(II)V" } : Jvm.MethodName) prog_23_method_155_code (2 : Nat) (Option.none : Option Jvm.ClassFile.FieldType)) ∈ bigG := mg 633 rfl rfl
set_option maxRecDepth 100000 in
theorem k_636 : (Jvm.Cond.code ({ cls := "jdk/internal/util/Preconditions", name := "checkIndex", desc := "(IILjava/util/function/BiFunction;)I" } : Jvm.MethodName) prog_32_method_11_code (3 : Nat) (Option.some Jvm.ClassFile.FieldType.int)) ∈ bigG := mg 636 rfl rfl
set_option maxRecDepth 100000 in
theorem k_639 : (Jvm.Cond.code ({ cls := "java/lang/StringUTF16", name := "charAt", desc := "([BI)C" } : Jvm.MethodName) prog_25_method_83_code (2 : Nat) (Option.some Jvm.ClassFile.FieldType.char)) ∈ bigG := mg 639 rfl rfl
set_option maxRecDepth 100000 in
theorem k_642 : (Jvm.Cond.code ({ cls := "java/lang/StringUTF16", name := "checkIndex", desc := "(I[B)V" } : Jvm.MethodName) prog_25_method_91_code (2 : Nat) (Option.none : Option Jvm.ClassFile.FieldType)) ∈ bigG := mg 642 rfl rfl
set_option maxRecDepth 100000 in
theorem k_646 : (Jvm.Cond.code ({ cls := "TableTurns$CommuneReader", name := "readsPerson", desc := "(LTableTurns$Tape;LTableTurns$Commune;)Z" } : Jvm.MethodName) prog_3_method_3_code (3 : Nat) (Option.some Jvm.ClassFile.FieldType.boolean)) ∈ bigG := mg 646 rfl rfl
set_option maxRecDepth 100000 in
theorem k_650 : (Jvm.Cond.code ({ cls := "TableTurns$Tape", name := "wrong", desc := "(I)Z" } : Jvm.MethodName) prog_11_method_14_code (2 : Nat) (Option.some Jvm.ClassFile.FieldType.boolean)) ∈ bigG := mg 650 rfl rfl
set_option maxRecDepth 100000 in
theorem k_653 : (Jvm.Cond.code ({ cls := "TableTurns$CommuneReader", name := "takesNewName", desc := "(LTableTurns$Tape;LTableTurns$Commune;)Z" } : Jvm.MethodName) prog_3_method_4_code (3 : Nat) (Option.some Jvm.ClassFile.FieldType.boolean)) ∈ bigG := mg 653 rfl rfl
set_option maxRecDepth 100000 in
theorem k_657 : (Jvm.Cond.code ({ cls := "TableTurns$Tape", name := "takesName", desc := "()Z" } : Jvm.MethodName) prog_11_method_19_code (1 : Nat) (Option.some Jvm.ClassFile.FieldType.boolean)) ∈ bigG := mg 657 rfl rfl
set_option maxRecDepth 100000 in
theorem k_662 : (Jvm.Cond.code ({ cls := "TableTurns$Tape", name := "isName", desc := "()Z" } : Jvm.MethodName) prog_11_method_13_code (5 : Nat) (Option.some Jvm.ClassFile.FieldType.boolean)) ∈ bigG := mg 662 rfl rfl
set_option maxRecDepth 100000 in
theorem k_668 : (Jvm.Cond.code ({ cls := "TableTurns$Commune", name := "personNamed", desc := "(J)I" } : Jvm.MethodName) prog_2_method_3_code (4 : Nat) (Option.some Jvm.ClassFile.FieldType.int)) ∈ bigG := mg 668 rfl rfl
set_option maxRecDepth 100000 in
theorem k_672 : (Jvm.Cond.code ({ cls := "TableTurns$Commune", name := "dishNamed", desc := "(J)I" } : Jvm.MethodName) prog_2_method_4_code (4 : Nat) (Option.some Jvm.ClassFile.FieldType.int)) ∈ bigG := mg 672 rfl rfl
set_option maxRecDepth 100000 in
theorem k_675 : (Jvm.Cond.code ({ cls := "TableTurns$CommuneReader", name := "takesKind", desc := "(LTableTurns$Tape;LTableTurns$Commune;I)Z" } : Jvm.MethodName) prog_3_method_5_code (3 : Nat) (Option.some Jvm.ClassFile.FieldType.boolean)) ∈ bigG := mg 675 rfl rfl
set_option maxRecDepth 100000 in
theorem k_684 : (Jvm.Cond.code ({ cls := "TableTurns$Tape", name := "takesNumberOf", desc := "(Ljava/lang/String;I)Z" } : Jvm.MethodName) prog_11_method_18_code (3 : Nat) (Option.some Jvm.ClassFile.FieldType.boolean)) ∈ bigG := mg 684 rfl rfl
set_option maxRecDepth 100000 in
theorem k_688 : (Jvm.Cond.code ({ cls := "TableTurns$Tape", name := "takesWord", desc := "(Ljava/lang/String;)Z" } : Jvm.MethodName) prog_11_method_15_code (2 : Nat) (Option.some Jvm.ClassFile.FieldType.boolean)) ∈ bigG := mg 688 rfl rfl
set_option maxRecDepth 100000 in
theorem k_693 : (Jvm.Cond.code ({ cls := "TableTurns$Tape", name := "takesNumber", desc := "(II)Z" } : Jvm.MethodName) prog_11_method_17_code (3 : Nat) (Option.some Jvm.ClassFile.FieldType.boolean)) ∈ bigG := mg 693 rfl rfl
set_option maxRecDepth 100000 in
theorem k_699 : (Jvm.Cond.code ({ cls := "TableTurns$Tape", name := "takesEnd", desc := "()Z" } : Jvm.MethodName) prog_11_method_16_code (1 : Nat) (Option.some Jvm.ClassFile.FieldType.boolean)) ∈ bigG := mg 699 rfl rfl
set_option maxRecDepth 100000 in
theorem k_703 : (Jvm.Cond.code ({ cls := "TableTurns$Tape", name := "isSign", desc := "(C)Z" } : Jvm.MethodName) prog_11_method_12_code (2 : Nat) (Option.some Jvm.ClassFile.FieldType.boolean)) ∈ bigG := mg 703 rfl rfl
set_option maxRecDepth 100000 in
theorem k_707 : (Jvm.Cond.code ({ cls := "TableTurns$CommuneReader", name := "readsDish", desc := "(LTableTurns$Tape;LTableTurns$Commune;)Z" } : Jvm.MethodName) prog_3_method_6_code (3 : Nat) (Option.some Jvm.ClassFile.FieldType.boolean)) ∈ bigG := mg 707 rfl rfl
set_option maxRecDepth 100000 in
theorem k_714 : (Jvm.Cond.code ({ cls := "TableTurns$CommuneReader", name := "readsCup", desc := "(LTableTurns$Tape;LTableTurns$Commune;)Z" } : Jvm.MethodName) prog_3_method_7_code (4 : Nat) (Option.some Jvm.ClassFile.FieldType.boolean)) ∈ bigG := mg 714 rfl rfl
set_option maxRecDepth 100000 in
theorem k_718 : (Jvm.Cond.code ({ cls := "TableTurns$Tape", name := "takesPerson", desc := "(LTableTurns$Commune;)Z" } : Jvm.MethodName) prog_11_method_20_code (2 : Nat) (Option.some Jvm.ClassFile.FieldType.boolean)) ∈ bigG := mg 718 rfl rfl
set_option maxRecDepth 100000 in
theorem k_723 : (Jvm.Cond.code ({ cls := "TableTurns$CommuneReader", name := "readsSick", desc := "(LTableTurns$Tape;LTableTurns$Commune;)Z" } : Jvm.MethodName) prog_3_method_8_code (3 : Nat) (Option.some Jvm.ClassFile.FieldType.boolean)) ∈ bigG := mg 723 rfl rfl
set_option maxRecDepth 100000 in
theorem k_732 : (Jvm.Cond.code ({ cls := "TableTurns$CommuneReader", name := "readsStore", desc := "(LTableTurns$Tape;LTableTurns$Commune;)Z" } : Jvm.MethodName) prog_3_method_9_code (3 : Nat) (Option.some Jvm.ClassFile.FieldType.boolean)) ∈ bigG := mg 732 rfl rfl
set_option maxRecDepth 100000 in
theorem k_737 : (Jvm.Cond.code ({ cls := "TableTurns$CommuneReader", name := "readsRest", desc := "(LTableTurns$Tape;LTableTurns$Commune;)Z" } : Jvm.MethodName) prog_3_method_10_code (3 : Nat) (Option.some Jvm.ClassFile.FieldType.boolean)) ∈ bigG := mg 737 rfl rfl
set_option maxRecDepth 100000 in
theorem k_742 : (Jvm.Cond.code ({ cls := "TableTurns$CommuneReader", name := "readsShare", desc := "(LTableTurns$Tape;LTableTurns$Commune;)Z" } : Jvm.MethodName) prog_3_method_11_code (3 : Nat) (Option.some Jvm.ClassFile.FieldType.boolean)) ∈ bigG := mg 742 rfl rfl
set_option maxRecDepth 100000 in
theorem k_746 : (Jvm.Cond.code ({ cls := "TableTurns$Law", name := "reads", desc := "(LTableTurns$Tape;)Z" } : Jvm.MethodName) prog_5_method_3_code (5 : Nat) (Option.some Jvm.ClassFile.FieldType.boolean)) ∈ bigG := mg 746 rfl rfl
set_option maxRecDepth 100000 in
theorem k_750 : (Jvm.Cond.code ({ cls := "TableTurns$Law", name := "partOn", desc := "(LTableTurns$Tape;)I" } : Jvm.MethodName) prog_5_method_4_code (1 : Nat) (Option.some Jvm.ClassFile.FieldType.int)) ∈ bigG := mg 750 rfl rfl
set_option maxRecDepth 100000 in
theorem k_763 : (Jvm.Cond.code ({ cls := "TableTurns$Law", name := "takesPart", desc := "(I)V" } : Jvm.MethodName) prog_5_method_7_code (2 : Nat) (Option.none : Option Jvm.ClassFile.FieldType)) ∈ bigG := mg 763 rfl rfl
set_option maxRecDepth 100000 in
theorem k_767 : (Jvm.Cond.code ({ cls := "TableTurns$Law", name := "addWaiting", desc := "(I)V" } : Jvm.MethodName) prog_5_method_14_code (2 : Nat) (Option.none : Option Jvm.ClassFile.FieldType)) ∈ bigG := mg 767 rfl rfl
set_option maxRecDepth 100000 in
theorem k_771 : (Jvm.Cond.code ({ cls := "TableTurns$Law", name := "settleNots", desc := "()V" } : Jvm.MethodName) prog_5_method_11_code (1 : Nat) (Option.none : Option Jvm.ClassFile.FieldType)) ∈ bigG := mg 771 rfl rfl
set_option maxRecDepth 100000 in
theorem k_775 : (Jvm.Cond.code ({ cls := "TableTurns$Law", name := "settleJoints", desc := "(I)V" } : Jvm.MethodName) prog_5_method_12_code (3 : Nat) (Option.none : Option Jvm.ClassFile.FieldType)) ∈ bigG := mg 775 rfl rfl
set_option maxRecDepth 100000 in
theorem k_779 : (Jvm.Cond.code ({ cls := "TableTurns$Law", name := "bindingOf", desc := "(I)I" } : Jvm.MethodName) prog_5_method_6_code (1 : Nat) (Option.some Jvm.ClassFile.FieldType.int)) ∈ bigG := mg 779 rfl rfl
set_option maxRecDepth 100000 in
theorem k_783 : (Jvm.Cond.code ({ cls := "TableTurns$Law", name := "closes", desc := "()V" } : Jvm.MethodName) prog_5_method_9_code (1 : Nat) (Option.none : Option Jvm.ClassFile.FieldType)) ∈ bigG := mg 783 rfl rfl
set_option maxRecDepth 100000 in
theorem k_786 : (Jvm.Cond.code ({ cls := "TableTurns$Law", name := "jointOn", desc := "(LTableTurns$Tape;)I" } : Jvm.MethodName) prog_5_method_5_code (1 : Nat) (Option.some Jvm.ClassFile.FieldType.int)) ∈ bigG := mg 786 rfl rfl
set_option maxRecDepth 100000 in
theorem k_792 : (Jvm.Cond.code ({ cls := "TableTurns$Law", name := "takesJoint", desc := "(I)Z" } : Jvm.MethodName) prog_5_method_8_code (3 : Nat) (Option.some Jvm.ClassFile.FieldType.boolean)) ∈ bigG := mg 792 rfl rfl
set_option maxRecDepth 100000 in
theorem k_796 : (Jvm.Cond.code ({ cls := "TableTurns$Law", name := "lastWaiting", desc := "()I" } : Jvm.MethodName) prog_5_method_10_code (1 : Nat) (Option.some Jvm.ClassFile.FieldType.int)) ∈ bigG := mg 796 rfl rfl
set_option maxRecDepth 100000 in
theorem k_800 : (Jvm.Cond.code ({ cls := "TableTurns$Commune", name := "settleGifts", desc := "()V" } : Jvm.MethodName) prog_2_method_11_code (3 : Nat) (Option.none : Option Jvm.ClassFile.FieldType)) ∈ bigG := mg 800 rfl rfl
set_option maxRecDepth 100000 in
theorem k_803 : (Jvm.Cond.code ({ cls := "java/lang/Math", name := "abs", desc := "(I)I" } : Jvm.MethodName) prog_21_method_59_code (1 : Nat) (Option.some Jvm.ClassFile.FieldType.int)) ∈ bigG := mg 803 rfl rfl
set_option maxRecDepth 100000 in
theorem k_807 : (Jvm.Cond.code ({ cls := "TableTurns$Law", name := "facesDish", desc := "(II)V" } : Jvm.MethodName) prog_5_method_15_code (3 : Nat) (Option.none : Option Jvm.ClassFile.FieldType)) ∈ bigG := mg 807 rfl rfl
set_option maxRecDepth 100000 in
theorem k_811 : (Jvm.Cond.code ({ cls := "TableTurns$Law", name := "share", desc := "(IZZ)I" } : Jvm.MethodName) prog_5_method_16_code (4 : Nat) (Option.some Jvm.ClassFile.FieldType.int)) ∈ bigG := mg 811 rfl rfl
set_option maxRecDepth 100000 in
theorem k_814 : (Jvm.Cond.code ({ cls := "TableTurns$Law", name := "truth", desc := "(Z)I" } : Jvm.MethodName) prog_5_method_19_code (1 : Nat) (Option.some Jvm.ClassFile.FieldType.int)) ∈ bigG := mg 814 rfl rfl
set_option maxRecDepth 100000 in
theorem k_818 : (Jvm.Cond.code ({ cls := "TableTurns$Law", name := "worked", desc := "()I" } : Jvm.MethodName) prog_5_method_17_code (4 : Nat) (Option.some Jvm.ClassFile.FieldType.int)) ∈ bigG := mg 818 rfl rfl
set_option maxRecDepth 100000 in
theorem k_821 : (Jvm.Cond.code ({ cls := "TableTurns$Law", name := "joined", desc := "(III)I" } : Jvm.MethodName) prog_5_method_18_code (3 : Nat) (Option.some Jvm.ClassFile.FieldType.int)) ∈ bigG := mg 821 rfl rfl
set_option maxRecDepth 100000 in
theorem k_826 : (Jvm.Cond.code ({ cls := "TableTurns$Commune", name := "settleGiftsOf", desc := "(IIZ)V" } : Jvm.MethodName) prog_2_method_14_code (6 : Nat) (Option.none : Option Jvm.ClassFile.FieldType)) ∈ bigG := mg 826 rfl rfl
set_option maxRecDepth 100000 in
theorem k_829 : (Jvm.Cond.code ({ cls := "TableTurns$Commune", name := "giftAt", desc := "(IIZ)I" } : Jvm.MethodName) prog_2_method_10_code (3 : Nat) (Option.some Jvm.ClassFile.FieldType.int)) ∈ bigG := mg 829 rfl rfl
set_option maxRecDepth 100000 in
theorem k_832 : (Jvm.Cond.code ({ cls := "TableTurns$Commune", name := "byKind", desc := "(IZI)I" } : Jvm.MethodName) prog_2_method_15_code (3 : Nat) (Option.some Jvm.ClassFile.FieldType.int)) ∈ bigG := mg 832 rfl rfl
set_option maxRecDepth 100000 in
theorem k_837 : (Jvm.Cond.code ({ cls := "TableTurns$Commune", name := "settleBeaten", desc := "(I)V" } : Jvm.MethodName) prog_2_method_12_code (5 : Nat) (Option.none : Option Jvm.ClassFile.FieldType)) ∈ bigG := mg 837 rfl rfl
set_option maxRecDepth 100000 in
theorem k_841 : (Jvm.Cond.code ({ cls := "TableTurns$Commune", name := "isNoWorse", desc := "(II)Z" } : Jvm.MethodName) prog_2_method_13_code (4 : Nat) (Option.some Jvm.ClassFile.FieldType.boolean)) ∈ bigG := mg 841 rfl rfl
set_option maxRecDepth 100000 in
theorem k_845 : (Jvm.Cond.code ({ cls := "TableTurns", name := "beginAnew", desc := "()V" } : Jvm.MethodName) prog_1_method_28_code (2 : Nat) (Option.none : Option Jvm.ClassFile.FieldType)) ∈ bigG := mg 845 rfl rfl
set_option maxRecDepth 100000 in
theorem k_849 : (Jvm.Cond.code ({ cls := "TableTurns$Standing", name := "begins", desc := "(LTableTurns$Commune;)V" } : Jvm.MethodName) prog_10_method_2_code (2 : Nat) (Option.none : Option Jvm.ClassFile.FieldType)) ∈ bigG := mg 849 rfl rfl
set_option maxRecDepth 100000 in
theorem k_855 : (Jvm.Cond.code ({ cls := "TableTurns", name := "weeks", desc := "()I" } : Jvm.MethodName) prog_1_method_4_code (2 : Nat) (Option.some Jvm.ClassFile.FieldType.int)) ∈ bigG := mg 855 rfl rfl
set_option maxRecDepth 100000 in
theorem k_859 : (Jvm.Cond.code ({ cls := "TableTurns$Weeks", name := "reads", desc := "(LTableTurns$Tape;LTableTurns$Commune;)Z" } : Jvm.MethodName) prog_12_method_3_code (4 : Nat) (Option.some Jvm.ClassFile.FieldType.boolean)) ∈ bigG := mg 859 rfl rfl
set_option maxRecDepth 100000 in
theorem k_865 : (Jvm.Cond.code ({ cls := "TableTurns$Weeks", name := "readsLine", desc := "(LTableTurns$Tape;LTableTurns$Commune;)Z" } : Jvm.MethodName) prog_12_method_4_code (5 : Nat) (Option.some Jvm.ClassFile.FieldType.boolean)) ∈ bigG := mg 865 rfl rfl
set_option maxRecDepth 100000 in
theorem k_874 : (Jvm.Cond.code ({ cls := "TableTurns$Weeks", name := "takesWhoAndWhat", desc := "(LTableTurns$Tape;LTableTurns$Commune;)Z" } : Jvm.MethodName) prog_12_method_5_code (3 : Nat) (Option.some Jvm.ClassFile.FieldType.boolean)) ∈ bigG := mg 874 rfl rfl
set_option maxRecDepth 100000 in
theorem k_880 : (Jvm.Cond.code ({ cls := "TableTurns$Tape", name := "takesDish", desc := "(LTableTurns$Commune;)Z" } : Jvm.MethodName) prog_11_method_21_code (2 : Nat) (Option.some Jvm.ClassFile.FieldType.boolean)) ∈ bigG := mg 880 rfl rfl
set_option maxRecDepth 100000 in
theorem k_886 : (Jvm.Cond.code ({ cls := "TableTurns$Weeks", name := "takesHow", desc := "(LTableTurns$Tape;)Z" } : Jvm.MethodName) prog_12_method_6_code (3 : Nat) (Option.some Jvm.ClassFile.FieldType.boolean)) ∈ bigG := mg 886 rfl rfl
set_option maxRecDepth 100000 in
theorem k_893 : (Jvm.Cond.code ({ cls := "TableTurns", name := "person", desc := "(II)I" } : Jvm.MethodName) prog_1_method_5_code (3 : Nat) (Option.some Jvm.ClassFile.FieldType.int)) ∈ bigG := mg 893 rfl rfl
set_option maxRecDepth 100000 in
theorem k_897 : (Jvm.Cond.code ({ cls := "TableTurns", name := "isPerson", desc := "(I)Z" } : Jvm.MethodName) prog_1_method_25_code (2 : Nat) (Option.some Jvm.ClassFile.FieldType.boolean)) ∈ bigG := mg 897 rfl rfl
set_option maxRecDepth 100000 in
theorem k_901 : (Jvm.Cond.code ({ cls := "TableTurns$Standing", name := "sits", desc := "(LTableTurns$Commune;I)Z" } : Jvm.MethodName) prog_10_method_5_code (3 : Nat) (Option.some Jvm.ClassFile.FieldType.boolean)) ∈ bigG := mg 901 rfl rfl
set_option maxRecDepth 100000 in
theorem k_905 : (Jvm.Cond.code ({ cls := "TableTurns$Commune", name := "isSick", desc := "(II)Z" } : Jvm.MethodName) prog_2_method_5_code (3 : Nat) (Option.some Jvm.ClassFile.FieldType.boolean)) ∈ bigG := mg 905 rfl rfl
set_option maxRecDepth 100000 in
theorem k_909 : (Jvm.Cond.code ({ cls := "TableTurns", name := "dish", desc := "(II)I" } : Jvm.MethodName) prog_1_method_6_code (3 : Nat) (Option.some Jvm.ClassFile.FieldType.int)) ∈ bigG := mg 909 rfl rfl
set_option maxRecDepth 100000 in
theorem k_913 : (Jvm.Cond.code ({ cls := "TableTurns", name := "isDish", desc := "(I)Z" } : Jvm.MethodName) prog_1_method_26_code (2 : Nat) (Option.some Jvm.ClassFile.FieldType.boolean)) ∈ bigG := mg 913 rfl rfl
set_option maxRecDepth 100000 in
theorem k_917 : (Jvm.Cond.code ({ cls := "TableTurns", name := "would", desc := "(IIZI)I" } : Jvm.MethodName) prog_1_method_7_code (5 : Nat) (Option.some Jvm.ClassFile.FieldType.int)) ∈ bigG := mg 917 rfl rfl
set_option maxRecDepth 100000 in
theorem k_921 : (Jvm.Cond.code ({ cls := "TableTurns", name := "canBeMeal", desc := "(II)Z" } : Jvm.MethodName) prog_1_method_27_code (3 : Nat) (Option.some Jvm.ClassFile.FieldType.boolean)) ∈ bigG := mg 921 rfl rfl
set_option maxRecDepth 100000 in
theorem k_925 : (Jvm.Cond.code ({ cls := "TableTurns$Standing", name := "canEat", desc := "(LTableTurns$Commune;II)Z" } : Jvm.MethodName) prog_10_method_7_code (4 : Nat) (Option.some Jvm.ClassFile.FieldType.boolean)) ∈ bigG := mg 925 rfl rfl
set_option maxRecDepth 100000 in
theorem k_930 : (Jvm.Cond.code ({ cls := "TableTurns$Commune", name := "costBy", desc := "(II)I" } : Jvm.MethodName) prog_2_method_7_code (3 : Nat) (Option.some Jvm.ClassFile.FieldType.int)) ∈ bigG := mg 930 rfl rfl
set_option maxRecDepth 100000 in
theorem k_934 : (Jvm.Cond.code ({ cls := "TableTurns$Standing", name := "gain", desc := "(LTableTurns$Commune;IIZI)I" } : Jvm.MethodName) prog_10_method_9_code (6 : Nat) (Option.some Jvm.ClassFile.FieldType.int)) ∈ bigG := mg 934 rfl rfl
set_option maxRecDepth 100000 in
theorem k_938 : (Jvm.Cond.code ({ cls := "TableTurns$Standing", name := "wouldBeIll", desc := "(LTableTurns$Commune;I)Z" } : Jvm.MethodName) prog_10_method_8_code (3 : Nat) (Option.some Jvm.ClassFile.FieldType.boolean)) ∈ bigG := mg 938 rfl rfl
set_option maxRecDepth 100000 in
theorem k_942 : (Jvm.Cond.code ({ cls := "TableTurns$Commune", name := "gift", desc := "(IIZI)I" } : Jvm.MethodName) prog_2_method_8_code (5 : Nat) (Option.some Jvm.ClassFile.FieldType.int)) ∈ bigG := mg 942 rfl rfl
set_option maxRecDepth 100000 in
theorem k_946 : (Jvm.Cond.code ({ cls := "TableTurns", name := "eat", desc := "(IIZ)I" } : Jvm.MethodName) prog_1_method_8_code (5 : Nat) (Option.some Jvm.ClassFile.FieldType.int)) ∈ bigG := mg 946 rfl rfl
set_option maxRecDepth 100000 in
theorem k_950 : (Jvm.Cond.code ({ cls := "TableTurns", name := "remember", desc := "()V" } : Jvm.MethodName) prog_1_method_29_code (1 : Nat) (Option.none : Option Jvm.ClassFile.FieldType)) ∈ bigG := mg 950 rfl rfl
set_option maxRecDepth 100000 in
theorem k_954 : (Jvm.Cond.code ({ cls := "TableTurns$Standing", name := "copies", desc := "(LTableTurns$Standing;)V" } : Jvm.MethodName) prog_10_method_3_code (2 : Nat) (Option.none : Option Jvm.ClassFile.FieldType)) ∈ bigG := mg 954 rfl rfl
set_option maxRecDepth 100000 in
theorem k_958 : (Jvm.Cond.code ({ cls := "TableTurns$Standing", name := "copiesDay", desc := "(LTableTurns$Standing;)V" } : Jvm.MethodName) prog_10_method_4_code (2 : Nat) (Option.none : Option Jvm.ClassFile.FieldType)) ∈ bigG := mg 958 rfl rfl
set_option maxRecDepth 100000 in
theorem k_966 : (Jvm.Cond.code ({ cls := "TableTurns$Standing", name := "takesMeal", desc := "(LTableTurns$Commune;IIZ)Z" } : Jvm.MethodName) prog_10_method_10_code (7 : Nat) (Option.some Jvm.ClassFile.FieldType.boolean)) ∈ bigG := mg 966 rfl rfl
set_option maxRecDepth 100000 in
theorem k_971 : (Jvm.Cond.code ({ cls := "TableTurns$Standing", name := "fill", desc := "(II)V" } : Jvm.MethodName) prog_10_method_12_code (3 : Nat) (Option.none : Option Jvm.ClassFile.FieldType)) ∈ bigG := mg 971 rfl rfl
set_option maxRecDepth 100000 in
theorem k_976 : (Jvm.Cond.code ({ cls := "TableTurns$Standing", name := "endsDay", desc := "(LTableTurns$Commune;)I" } : Jvm.MethodName) prog_10_method_13_code (4 : Nat) (Option.some Jvm.ClassFile.FieldType.int)) ∈ bigG := mg 976 rfl rfl
set_option maxRecDepth 100000 in
theorem k_980 : (Jvm.Cond.code ({ cls := "TableTurns", name := "abroad", desc := "(II)I" } : Jvm.MethodName) prog_1_method_9_code (3 : Nat) (Option.some Jvm.ClassFile.FieldType.int)) ∈ bigG := mg 980 rfl rfl
set_option maxRecDepth 100000 in
theorem k_984 : (Jvm.Cond.code ({ cls := "TableTurns$Standing", name := "eatsAbroad", desc := "(LTableTurns$Commune;II)V" } : Jvm.MethodName) prog_10_method_11_code (4 : Nat) (Option.none : Option Jvm.ClassFile.FieldType)) ∈ bigG := mg 984 rfl rfl
set_option maxRecDepth 100000 in
theorem k_988 : (Jvm.Cond.code ({ cls := "TableTurns$Commune", name := "giftAbroad", desc := "(II)I" } : Jvm.MethodName) prog_2_method_9_code (3 : Nat) (Option.some Jvm.ClassFile.FieldType.int)) ∈ bigG := mg 988 rfl rfl
set_option maxRecDepth 100000 in
theorem k_992 : (Jvm.Cond.code ({ cls := "TableTurns", name := "fast", desc := "()I" } : Jvm.MethodName) prog_1_method_10_code (1 : Nat) (Option.some Jvm.ClassFile.FieldType.int)) ∈ bigG := mg 992 rfl rfl
set_option maxRecDepth 100000 in
theorem k_996 : (Jvm.Cond.code ({ cls := "TableTurns", name := "undo", desc := "()Z" } : Jvm.MethodName) prog_1_method_11_code (1 : Nat) (Option.some Jvm.ClassFile.FieldType.boolean)) ∈ bigG := mg 996 rfl rfl
set_option maxRecDepth 100000 in
theorem k_1000 : (Jvm.Cond.code ({ cls := "TableTurns", name := "judged", desc := "(I)I" } : Jvm.MethodName) prog_1_method_12_code (5 : Nat) (Option.some Jvm.ClassFile.FieldType.int)) ∈ bigG := mg 1000 rfl rfl
set_option maxRecDepth 100000 in
theorem k_1004 : (Jvm.Cond.code ({ cls := "TableTurns$Weeks", name := "happens", desc := "(ILTableTurns$Commune;LTableTurns$Standing;)I" } : Jvm.MethodName) prog_12_method_7_code (6 : Nat) (Option.some Jvm.ClassFile.FieldType.int)) ∈ bigG := mg 1004 rfl rfl
set_option maxRecDepth 100000 in
theorem k_1012 : (Jvm.Cond.code ({ cls := "TableTurns", name := "plan", desc := "(II)I" } : Jvm.MethodName) prog_1_method_13_code (3 : Nat) (Option.some Jvm.ClassFile.FieldType.int)) ∈ bigG := mg 1012 rfl rfl
set_option maxRecDepth 100000 in
theorem k_1016 : (Jvm.Cond.code ({ cls := "TableTurns$Planner", name := "finds", desc := "(LTableTurns$Commune;LTableTurns$Standing;I)Z" } : Jvm.MethodName) prog_9_method_2_code (4 : Nat) (Option.some Jvm.ClassFile.FieldType.boolean)) ∈ bigG := mg 1016 rfl rfl
set_option maxRecDepth 100000 in
theorem k_1023 : (Jvm.Cond.code ({ cls := "TableTurns$Planner", name := "search", desc := "(LTableTurns$Commune;II)V" } : Jvm.MethodName) prog_9_method_3_code (7 : Nat) (Option.none : Option Jvm.ClassFile.FieldType)) ∈ bigG := mg 1023 rfl rfl
set_option maxRecDepth 100000 in
theorem k_1027 : (Jvm.Cond.code ({ cls := "TableTurns$Planner", name := "costOf", desc := "(LTableTurns$Commune;II)I" } : Jvm.MethodName) prog_9_method_7_code (6 : Nat) (Option.some Jvm.ClassFile.FieldType.int)) ∈ bigG := mg 1027 rfl rfl
set_option maxRecDepth 100000 in
theorem k_1030 : (Jvm.Cond.code ({ cls := "TableTurns$Planner", name := "eaterOf", desc := "(I)I" } : Jvm.MethodName) prog_9_method_4_code (1 : Nat) (Option.some Jvm.ClassFile.FieldType.int)) ∈ bigG := mg 1030 rfl rfl
set_option maxRecDepth 100000 in
theorem k_1033 : (Jvm.Cond.code ({ cls := "TableTurns$Planner", name := "dishOf", desc := "(I)I" } : Jvm.MethodName) prog_9_method_5_code (1 : Nat) (Option.some Jvm.ClassFile.FieldType.int)) ∈ bigG := mg 1033 rfl rfl
set_option maxRecDepth 100000 in
theorem k_1039 : (Jvm.Cond.code ({ cls := "TableTurns$Planner", name := "feedsAll", desc := "(LTableTurns$Commune;II)Z" } : Jvm.MethodName) prog_9_method_8_code (7 : Nat) (Option.some Jvm.ClassFile.FieldType.boolean)) ∈ bigG := mg 1039 rfl rfl
set_option maxRecDepth 100000 in
theorem k_1042 : (Jvm.Cond.code ({ cls := "TableTurns$Planner", name := "isSlow", desc := "(I)Z" } : Jvm.MethodName) prog_9_method_6_code (1 : Nat) (Option.some Jvm.ClassFile.FieldType.boolean)) ∈ bigG := mg 1042 rfl rfl
set_option maxRecDepth 100000 in
theorem k_1047 : (Jvm.Cond.code ({ cls := "TableTurns$Planner", name := "chooses", desc := "(LTableTurns$Commune;II)V" } : Jvm.MethodName) prog_9_method_9_code (5 : Nat) (Option.none : Option Jvm.ClassFile.FieldType)) ∈ bigG := mg 1047 rfl rfl
set_option maxRecDepth 100000 in
theorem k_1053 : (Jvm.Cond.code ({ cls := "TableTurns", name := "tables", desc := "(II)I" } : Jvm.MethodName) prog_1_method_14_code (3 : Nat) (Option.some Jvm.ClassFile.FieldType.int)) ∈ bigG := mg 1053 rfl rfl
set_option maxRecDepth 100000 in
theorem k_1057 : (Jvm.Cond.code ({ cls := "TableTurns$Standing", name := "whoSits", desc := "(LTableTurns$Commune;)I" } : Jvm.MethodName) prog_10_method_6_code (4 : Nat) (Option.some Jvm.ClassFile.FieldType.int)) ∈ bigG := mg 1057 rfl rfl
set_option maxRecDepth 100000 in
theorem k_1061 : (Jvm.Cond.code ({ cls := "TableTurns$Parting", name := "parts", desc := "(LTableTurns$Commune;II)V" } : Jvm.MethodName) prog_8_method_2_code (5 : Nat) (Option.none : Option Jvm.ClassFile.FieldType)) ∈ bigG := mg 1061 rfl rfl
set_option maxRecDepth 100000 in
theorem k_1064 : (Jvm.Cond.code ({ cls := "TableTurns$Parting", name := "worthOf", desc := "(LTableTurns$Commune;II)I" } : Jvm.MethodName) prog_8_method_3_code (5 : Nat) (Option.some Jvm.ClassFile.FieldType.int)) ∈ bigG := mg 1064 rfl rfl
set_option maxRecDepth 100000 in
theorem k_1067 : (Jvm.Cond.code ({ cls := "TableTurns$Parting", name := "worthBy", desc := "(LTableTurns$Commune;III)I" } : Jvm.MethodName) prog_8_method_4_code (6 : Nat) (Option.some Jvm.ClassFile.FieldType.int)) ∈ bigG := mg 1067 rfl rfl
set_option maxRecDepth 100000 in
theorem k_1074 : (Jvm.Cond.code ({ cls := "TableTurns$Parting", name := "seat", desc := "(II)V" } : Jvm.MethodName) prog_8_method_5_code (4 : Nat) (Option.none : Option Jvm.ClassFile.FieldType)) ∈ bigG := mg 1074 rfl rfl
set_option maxRecDepth 100000 in
theorem k_1078 : (Jvm.Cond.code ({ cls := "TableTurns$Parting", name := "keepIfBetter", desc := "(I)V" } : Jvm.MethodName) prog_8_method_6_code (4 : Nat) (Option.none : Option Jvm.ClassFile.FieldType)) ∈ bigG := mg 1078 rfl rfl
set_option maxRecDepth 100000 in
theorem k_1083 : (Jvm.Cond.code ({ cls := "TableTurns", name := "last", desc := "(I)I" } : Jvm.MethodName) prog_1_method_15_code (5 : Nat) (Option.some Jvm.ClassFile.FieldType.int)) ∈ bigG := mg 1083 rfl rfl
set_option maxRecDepth 100000 in
theorem k_1087 : (Jvm.Cond.code ({ cls := "TableTurns", name := "nextWell", desc := "(II)I" } : Jvm.MethodName) prog_1_method_30_code (5 : Nat) (Option.some Jvm.ClassFile.FieldType.int)) ∈ bigG := mg 1087 rfl rfl
set_option maxRecDepth 100000 in
theorem k_1092 : (Jvm.Cond.code ({ cls := "TableTurns", name := "tell", desc := "(II)Z" } : Jvm.MethodName) prog_1_method_16_code (3 : Nat) (Option.some Jvm.ClassFile.FieldType.boolean)) ∈ bigG := mg 1092 rfl rfl
set_option maxRecDepth 100000 in
theorem k_1096 : (Jvm.Cond.code ({ cls := "TableTurns", name := "sets", desc := "(II)I" } : Jvm.MethodName) prog_1_method_17_code (3 : Nat) (Option.some Jvm.ClassFile.FieldType.int)) ∈ bigG := mg 1096 rfl rfl
set_option maxRecDepth 100000 in
theorem k_1100 : (Jvm.Cond.code ({ cls := "TableTurns$Hearsay", name := "weighs", desc := "(LTableTurns$Commune;LTableTurns$Standing;I)V" } : Jvm.MethodName) prog_4_method_4_code (6 : Nat) (Option.none : Option Jvm.ClassFile.FieldType)) ∈ bigG := mg 1100 rfl rfl
set_option maxRecDepth 100000 in
theorem k_1104 : (Jvm.Cond.code ({ cls := "TableTurns$Commune", name := "everybody", desc := "()I" } : Jvm.MethodName) prog_2_method_6_code (1 : Nat) (Option.some Jvm.ClassFile.FieldType.int)) ∈ bigG := mg 1104 rfl rfl
set_option maxRecDepth 100000 in
theorem k_1108 : (Jvm.Cond.code ({ cls := "TableTurns$Hearsay", name := "agrees", desc := "(LTableTurns$Commune;LTableTurns$Standing;II)Z" } : Jvm.MethodName) prog_4_method_5_code (8 : Nat) (Option.some Jvm.ClassFile.FieldType.boolean)) ∈ bigG := mg 1108 rfl rfl
set_option maxRecDepth 100000 in
theorem k_1111 : (Jvm.Cond.code ({ cls := "TableTurns$Hearsay", name := "fullAbroad", desc := "(LTableTurns$Commune;LTableTurns$Standing;II)I" } : Jvm.MethodName) prog_4_method_6_code (4 : Nat) (Option.some Jvm.ClassFile.FieldType.int)) ∈ bigG := mg 1111 rfl rfl
set_option maxRecDepth 100000 in
theorem k_1117 : (Jvm.Cond.code ({ cls := "TableTurns$Hearsay", name := "isTold", desc := "(I)Z" } : Jvm.MethodName) prog_4_method_3_code (2 : Nat) (Option.some Jvm.ClassFile.FieldType.boolean)) ∈ bigG := mg 1117 rfl rfl
set_option maxRecDepth 100000 in
theorem k_1121 : (Jvm.Cond.code ({ cls := "TableTurns$Hearsay", name := "whomToAsk", desc := "(LTableTurns$Commune;LTableTurns$Standing;I)I" } : Jvm.MethodName) prog_4_method_7_code (9 : Nat) (Option.some Jvm.ClassFile.FieldType.int)) ∈ bigG := mg 1121 rfl rfl
set_option maxRecDepth 100000 in
theorem k_1126 : (Jvm.Cond.code ({ cls := "TableTurns", name := "stop", desc := "(I)I" } : Jvm.MethodName) prog_1_method_18_code (8 : Nat) (Option.some Jvm.ClassFile.FieldType.int)) ∈ bigG := mg 1126 rfl rfl
set_option maxRecDepth 100000 in
theorem k_1130 : (Jvm.Cond.code ({ cls := "java/lang/Integer", name := "bitCount", desc := "(I)I" } : Jvm.MethodName) prog_20_method_49_code (1 : Nat) (Option.some Jvm.ClassFile.FieldType.int)) ∈ bigG := mg 1130 rfl rfl
set_option maxRecDepth 100000 in
theorem k_1137 : (Jvm.Cond.code ({ cls := "TableTurns$Commune", name := "reached", desc := "(II)I" } : Jvm.MethodName) prog_2_method_17_code (6 : Nat) (Option.some Jvm.ClassFile.FieldType.int)) ∈ bigG := mg 1137 rfl rfl
set_option maxRecDepth 100000 in
theorem k_1141 : (Jvm.Cond.code ({ cls := "TableTurns", name := "power", desc := "(II)I" } : Jvm.MethodName) prog_1_method_19_code (7 : Nat) (Option.some Jvm.ClassFile.FieldType.int)) ∈ bigG := mg 1141 rfl rfl
set_option maxRecDepth 100000 in
theorem k_1145 : (Jvm.Cond.code ({ cls := "TableTurns$Commune", name := "votesOf", desc := "(I)I" } : Jvm.MethodName) prog_2_method_18_code (4 : Nat) (Option.some Jvm.ClassFile.FieldType.int)) ∈ bigG := mg 1145 rfl rfl
set_option maxRecDepth 100000 in
theorem k_1149 : (Jvm.Cond.code ({ cls := "TableTurns", name := "couples", desc := "(I)I" } : Jvm.MethodName) prog_1_method_20_code (2 : Nat) (Option.some Jvm.ClassFile.FieldType.int)) ∈ bigG := mg 1149 rfl rfl
set_option maxRecDepth 100000 in
theorem k_1153 : (Jvm.Cond.code ({ cls := "TableTurns$Pairing", name := "pairs", desc := "(LTableTurns$Commune;I)V" } : Jvm.MethodName) prog_7_method_2_code (3 : Nat) (Option.none : Option Jvm.ClassFile.FieldType)) ∈ bigG := mg 1153 rfl rfl
set_option maxRecDepth 100000 in
theorem k_1160 : (Jvm.Cond.code ({ cls := "TableTurns$Pairing", name := "pairRest", desc := "(LTableTurns$Commune;IZI)V" } : Jvm.MethodName) prog_7_method_3_code (9 : Nat) (Option.none : Option Jvm.ClassFile.FieldType)) ∈ bigG := mg 1160 rfl rfl
set_option maxRecDepth 100000 in
theorem k_1164 : (Jvm.Cond.code ({ cls := "java/lang/Integer", name := "numberOfTrailingZeros", desc := "(I)I" } : Jvm.MethodName) prog_20_method_48_code (2 : Nat) (Option.some Jvm.ClassFile.FieldType.int)) ∈ bigG := mg 1164 rfl rfl
set_option maxRecDepth 100000 in
theorem k_1170 : (Jvm.Cond.code ({ cls := "TableTurns", name := "years", desc := "(III)I" } : Jvm.MethodName) prog_1_method_22_code (8 : Nat) (Option.some Jvm.ClassFile.FieldType.int)) ∈ bigG := mg 1170 rfl rfl
set_option maxRecDepth 100000 in
theorem k_1173 : (Jvm.Cond.code ({ cls := "TableTurns", name := "nextDraw", desc := "(J)J" } : Jvm.MethodName) prog_1_method_34_code (2 : Nat) (Option.some Jvm.ClassFile.FieldType.long)) ∈ bigG := mg 1173 rfl rfl
set_option maxRecDepth 100000 in
theorem k_1179 : (Jvm.Cond.code ({ cls := "TableTurns", name := "drawBelow", desc := "(JI)I" } : Jvm.MethodName) prog_1_method_35_code (3 : Nat) (Option.some Jvm.ClassFile.FieldType.int)) ∈ bigG := mg 1179 rfl rfl
set_option maxRecDepth 100000 in
theorem k_1184 : (Jvm.Cond.code ({ cls := "TableTurns", name := "drawsMeal", desc := "(J)J" } : Jvm.MethodName) prog_1_method_36_code (8 : Nat) (Option.some Jvm.ClassFile.FieldType.long)) ∈ bigG := mg 1184 rfl rfl
set_option maxRecDepth 100000 in
theorem k_1188 : (Jvm.Cond.code ({ cls := "TableTurns", name := "mark", desc := "(IZ)Z" } : Jvm.MethodName) prog_1_method_23_code (3 : Nat) (Option.some Jvm.ClassFile.FieldType.boolean)) ∈ bigG := mg 1188 rfl rfl
set_option maxRecDepth 100000 in
theorem k_1192 : (Jvm.Cond.code ({ cls := "TableTurns$Mark", name := "goesBack", desc := "(LTableTurns$Standing;LTableTurns$Weeks;LTableTurns$Hearsay;)V" } : Jvm.MethodName) prog_6_method_3_code (4 : Nat) (Option.none : Option Jvm.ClassFile.FieldType)) ∈ bigG := mg 1192 rfl rfl
set_option maxRecDepth 100000 in
theorem k_1197 : (Jvm.Cond.code ({ cls := "TableTurns$Weeks", name := "copies", desc := "(LTableTurns$Weeks;)V" } : Jvm.MethodName) prog_12_method_2_code (2 : Nat) (Option.none : Option Jvm.ClassFile.FieldType)) ∈ bigG := mg 1197 rfl rfl
set_option maxRecDepth 100000 in
theorem k_1203 : (Jvm.Cond.code ({ cls := "TableTurns$Mark", name := "lays", desc := "(LTableTurns$Standing;LTableTurns$Weeks;LTableTurns$Hearsay;)V" } : Jvm.MethodName) prog_6_method_2_code (4 : Nat) (Option.none : Option Jvm.ClassFile.FieldType)) ∈ bigG := mg 1203 rfl rfl
set_option maxRecDepth 100000 in
theorem k_1207 : (Jvm.Cond.code ({ cls := "TableTurns", name := "count", desc := "(I)I" } : Jvm.MethodName) prog_1_method_24_code (2 : Nat) (Option.some Jvm.ClassFile.FieldType.int)) ∈ bigG := mg 1207 rfl rfl
set_option maxRecDepth 100000 in
theorem k_1211 : (Jvm.Cond.code ({ cls := "TableTurns$Commune", name := "cupsInAll", desc := "()I" } : Jvm.MethodName) prog_2_method_16_code (3 : Nat) (Option.some Jvm.ClassFile.FieldType.int)) ∈ bigG := mg 1211 rfl rfl
set_option maxRecDepth 100000 in
theorem k_1215 : (Jvm.Cond.code ({ cls := "TableTurns", name := "sum", desc := "([II)I" } : Jvm.MethodName) prog_1_method_37_code (4 : Nat) (Option.some Jvm.ClassFile.FieldType.int)) ∈ bigG := mg 1215 rfl rfl
set_option maxRecDepth 100000 in
theorem k_1219 : (Jvm.Cond.code ({ cls := "TableTurns$Hearsay", name := "howManyTold", desc := "()I" } : Jvm.MethodName) prog_4_method_2_code (3 : Nat) (Option.some Jvm.ClassFile.FieldType.int)) ∈ bigG := mg 1219 rfl rfl
set_option maxRecDepth 100000 in
theorem k_1227 : (Jvm.Cond.code ({ cls := "TableTurns", name := "rests", desc := "(III)I" } : Jvm.MethodName) prog_1_method_21_code (5 : Nat) (Option.some Jvm.ClassFile.FieldType.int)) ∈ bigG := mg 1227 rfl rfl
set_option maxRecDepth 100000 in
theorem k_1252 : (Jvm.Cond.code ({ cls := "java/lang/Throwable", name := "<init>", desc := "()V" } : Jvm.MethodName) prog_27_method_1_code (1 : Nat) (Option.none : Option Jvm.ClassFile.FieldType)) ∈ bigG := mg 1252 rfl rfl
set_option maxRecDepth 100000 in
theorem k_1270 : (Jvm.Cond.code ({ cls := "java/util/NoSuchElementException", name := "<init>", desc := "(Ljava/lang/String;)V" } : Jvm.MethodName) prog_31_method_4_code (2 : Nat) (Option.none : Option Jvm.ClassFile.FieldType)) ∈ bigG := mg 1270 rfl rfl
set_option maxRecDepth 100000 in
theorem k_1273 : (Jvm.Cond.code ({ cls := "java/lang/RuntimeException", name := "<init>", desc := "(Ljava/lang/String;)V" } : Jvm.MethodName) prog_22_method_2_code (2 : Nat) (Option.none : Option Jvm.ClassFile.FieldType)) ∈ bigG := mg 1273 rfl rfl
set_option maxRecDepth 100000 in
theorem k_1276 : (Jvm.Cond.code ({ cls := "java/lang/Exception", name := "<init>", desc := "(Ljava/lang/String;)V" } : Jvm.MethodName) prog_19_method_2_code (2 : Nat) (Option.none : Option Jvm.ClassFile.FieldType)) ∈ bigG := mg 1276 rfl rfl
set_option maxRecDepth 100000 in
theorem k_1279 : (Jvm.Cond.code ({ cls := "java/lang/Throwable", name := "<init>", desc := "(Ljava/lang/String;)V" } : Jvm.MethodName) prog_27_method_2_code (2 : Nat) (Option.none : Option Jvm.ClassFile.FieldType)) ∈ bigG := mg 1279 rfl rfl
set_option maxRecDepth 100000 in
theorem k_1296 : (Jvm.Cond.code ({ cls := "TableTurns", name := "findRests", desc := "(II)I" } : Jvm.MethodName) prog_1_method_31_code (6 : Nat) (Option.some Jvm.ClassFile.FieldType.int)) ∈ bigG := mg 1296 rfl rfl
set_option maxRecDepth 100000 in
theorem k_1299 : (Jvm.Cond.code ({ cls := "TableTurns", name := "isBestFor", desc := "(IIII)Z" } : Jvm.MethodName) prog_1_method_32_code (6 : Nat) (Option.some Jvm.ClassFile.FieldType.boolean)) ∈ bigG := mg 1299 rfl rfl
set_option maxRecDepth 100000 in
theorem k_1302 : (Jvm.Cond.code ({ cls := "TableTurns", name := "greedGain", desc := "(IIII)I" } : Jvm.MethodName) prog_1_method_33_code (4 : Nat) (Option.some Jvm.ClassFile.FieldType.int)) ∈ bigG := mg 1302 rfl rfl
set_option maxRecDepth 100000 in
theorem k_1309 : (Jvm.Cond.code ({ cls := "TableTurnsModel", name := "<init>", desc := "()V" } : Jvm.MethodName) prog_14_method_1_code (1 : Nat) (Option.none : Option Jvm.ClassFile.FieldType)) ∈ bigG := mg 1309 rfl rfl
set_option maxRecDepth 100000 in
theorem k_1314 : (Jvm.Cond.code ({ cls := "TableTurnsModel", name := "fresh", desc := "()V" } : Jvm.MethodName) prog_14_method_47_code (2 : Nat) (Option.none : Option Jvm.ClassFile.FieldType)) ∈ bigG := mg 1314 rfl rfl
set_option maxRecDepth 100000 in
theorem k_1524 : (Jvm.Cond.code ({ cls := "TableTurnsModel", name := "feed", desc := "(JJJ)I" } : Jvm.MethodName) prog_14_method_7_code (11 : Nat) (Option.some Jvm.ClassFile.FieldType.int)) ∈ bigG := mg 1520 rfl rfl
set_option maxRecDepth 100000 in
theorem k_1529 : (Jvm.Cond.code ({ cls := "TableTurnsModel", name := "commune", desc := "()I" } : Jvm.MethodName) prog_14_method_49_code (2 : Nat) (Option.some Jvm.ClassFile.FieldType.int)) ∈ bigG := mg 1525 rfl rfl
set_option maxRecDepth 100000 in
theorem k_1533 : (Jvm.Cond.code ({ cls := "TableTurnsModel", name := "readsAll", desc := "()Z" } : Jvm.MethodName) prog_14_method_38_code (2 : Nat) (Option.some Jvm.ClassFile.FieldType.boolean)) ∈ bigG := mg 1529 rfl rfl
set_option maxRecDepth 100000 in
theorem k_1537 : (Jvm.Cond.code ({ cls := "TableTurnsModel", name := "starts", desc := "()V" } : Jvm.MethodName) prog_14_method_37_code (1 : Nat) (Option.none : Option Jvm.ClassFile.FieldType)) ∈ bigG := mg 1533 rfl rfl
set_option maxRecDepth 100000 in
theorem k_1541 : (Jvm.Cond.code ({ cls := "TableTurnsModel", name := "nextToken", desc := "()V" } : Jvm.MethodName) prog_14_method_9_code (2 : Nat) (Option.none : Option Jvm.ClassFile.FieldType)) ∈ bigG := mg 1537 rfl rfl
set_option maxRecDepth 100000 in
theorem k_1545 : (Jvm.Cond.code ({ cls := "TableTurnsModel", name := "signAt", desc := "(I)I" } : Jvm.MethodName) prog_14_method_8_code (2 : Nat) (Option.some Jvm.ClassFile.FieldType.int)) ∈ bigG := mg 1541 rfl rfl
set_option maxRecDepth 100000 in
theorem k_1552 : (Jvm.Cond.code ({ cls := "TableTurnsModel", name := "isWord", desc := "(J)Z" } : Jvm.MethodName) prog_14_method_10_code (3 : Nat) (Option.some Jvm.ClassFile.FieldType.boolean)) ∈ bigG := mg 1548 rfl rfl
set_option maxRecDepth 100000 in
theorem k_1556 : (Jvm.Cond.code ({ cls := "TableTurnsModel", name := "readsPerson", desc := "()Z" } : Jvm.MethodName) prog_14_method_31_code (2 : Nat) (Option.some Jvm.ClassFile.FieldType.boolean)) ∈ bigG := mg 1552 rfl rfl
set_option maxRecDepth 100000 in
theorem k_1560 : (Jvm.Cond.code ({ cls := "TableTurnsModel", name := "fails", desc := "(I)Z" } : Jvm.MethodName) prog_14_method_12_code (2 : Nat) (Option.some Jvm.ClassFile.FieldType.boolean)) ∈ bigG := mg 1556 rfl rfl
set_option maxRecDepth 100000 in
theorem k_1564 : (Jvm.Cond.code ({ cls := "TableTurnsModel", name := "needsNew", desc := "()Z" } : Jvm.MethodName) prog_14_method_27_code (1 : Nat) (Option.some Jvm.ClassFile.FieldType.boolean)) ∈ bigG := mg 1560 rfl rfl
set_option maxRecDepth 100000 in
theorem k_1568 : (Jvm.Cond.code ({ cls := "TableTurnsModel", name := "isKept", desc := "()Z" } : Jvm.MethodName) prog_14_method_20_code (1 : Nat) (Option.some Jvm.ClassFile.FieldType.boolean)) ∈ bigG := mg 1564 rfl rfl
set_option maxRecDepth 100000 in
theorem k_1598 : (Jvm.Cond.code ({ cls := "TableTurnsModel", name := "personNamed", desc := "(I)I" } : Jvm.MethodName) prog_14_method_21_code (3 : Nat) (Option.some Jvm.ClassFile.FieldType.int)) ∈ bigG := mg 1594 rfl rfl
set_option maxRecDepth 100000 in
theorem k_1602 : (Jvm.Cond.code ({ cls := "TableTurnsModel", name := "dishNamed", desc := "(I)I" } : Jvm.MethodName) prog_14_method_22_code (3 : Nat) (Option.some Jvm.ClassFile.FieldType.int)) ∈ bigG := mg 1598 rfl rfl
set_option maxRecDepth 100000 in
theorem k_1606 : (Jvm.Cond.code ({ cls := "TableTurnsModel", name := "needsBoth", desc := "(JII)Z" } : Jvm.MethodName) prog_14_method_25_code (5 : Nat) (Option.some Jvm.ClassFile.FieldType.boolean)) ∈ bigG := mg 1602 rfl rfl
set_option maxRecDepth 100000 in
theorem k_1610 : (Jvm.Cond.code ({ cls := "TableTurnsModel", name := "needsWord", desc := "(J)Z" } : Jvm.MethodName) prog_14_method_24_code (3 : Nat) (Option.some Jvm.ClassFile.FieldType.boolean)) ∈ bigG := mg 1606 rfl rfl
set_option maxRecDepth 100000 in
theorem k_1614 : (Jvm.Cond.code ({ cls := "TableTurnsModel", name := "needsNumber", desc := "(II)Z" } : Jvm.MethodName) prog_14_method_23_code (3 : Nat) (Option.some Jvm.ClassFile.FieldType.boolean)) ∈ bigG := mg 1610 rfl rfl
set_option maxRecDepth 100000 in
theorem k_1617 : (Jvm.Cond.code ({ cls := "TableTurnsModel", name := "within", desc := "(III)Z" } : Jvm.MethodName) prog_14_method_3_code (3 : Nat) (Option.some Jvm.ClassFile.FieldType.boolean)) ∈ bigG := mg 1613 rfl rfl
set_option maxRecDepth 100000 in
theorem k_1621 : (Jvm.Cond.code ({ cls := "TableTurnsModel", name := "closes", desc := "()Z" } : Jvm.MethodName) prog_14_method_26_code (1 : Nat) (Option.some Jvm.ClassFile.FieldType.boolean)) ∈ bigG := mg 1617 rfl rfl
set_option maxRecDepth 100000 in
theorem k_1625 : (Jvm.Cond.code ({ cls := "TableTurnsModel", name := "isSign", desc := "(I)Z" } : Jvm.MethodName) prog_14_method_11_code (2 : Nat) (Option.some Jvm.ClassFile.FieldType.boolean)) ∈ bigG := mg 1621 rfl rfl
set_option maxRecDepth 100000 in
theorem k_1629 : (Jvm.Cond.code ({ cls := "TableTurnsModel", name := "readsDish", desc := "()Z" } : Jvm.MethodName) prog_14_method_32_code (2 : Nat) (Option.some Jvm.ClassFile.FieldType.boolean)) ∈ bigG := mg 1625 rfl rfl
set_option maxRecDepth 100000 in
theorem k_1633 : (Jvm.Cond.code ({ cls := "TableTurnsModel", name := "readsCup", desc := "()Z" } : Jvm.MethodName) prog_14_method_33_code (3 : Nat) (Option.some Jvm.ClassFile.FieldType.boolean)) ∈ bigG := mg 1629 rfl rfl
set_option maxRecDepth 100000 in
theorem k_1637 : (Jvm.Cond.code ({ cls := "TableTurnsModel", name := "needsPerson", desc := "(I)Z" } : Jvm.MethodName) prog_14_method_28_code (2 : Nat) (Option.some Jvm.ClassFile.FieldType.boolean)) ∈ bigG := mg 1633 rfl rfl
set_option maxRecDepth 100000 in
theorem k_1641 : (Jvm.Cond.code ({ cls := "TableTurnsModel", name := "readsSick", desc := "()Z" } : Jvm.MethodName) prog_14_method_34_code (3 : Nat) (Option.some Jvm.ClassFile.FieldType.boolean)) ∈ bigG := mg 1637 rfl rfl
set_option maxRecDepth 100000 in
theorem k_1645 : (Jvm.Cond.code ({ cls := "TableTurnsModel", name := "readsOne", desc := "(II)Z" } : Jvm.MethodName) prog_14_method_35_code (3 : Nat) (Option.some Jvm.ClassFile.FieldType.boolean)) ∈ bigG := mg 1641 rfl rfl
set_option maxRecDepth 100000 in
theorem k_1649 : (Jvm.Cond.code ({ cls := "TableTurnsModel", name := "isTwice", desc := "(I)Z" } : Jvm.MethodName) prog_14_method_30_code (2 : Nat) (Option.some Jvm.ClassFile.FieldType.boolean)) ∈ bigG := mg 1645 rfl rfl
set_option maxRecDepth 100000 in
theorem k_1653 : (Jvm.Cond.code ({ cls := "TableTurnsModel", name := "readsShare", desc := "()Z" } : Jvm.MethodName) prog_14_method_36_code (1 : Nat) (Option.some Jvm.ClassFile.FieldType.boolean)) ∈ bigG := mg 1649 rfl rfl
set_option maxRecDepth 100000 in
theorem k_1657 : (Jvm.Cond.code ({ cls := "TableTurnsModel", name := "reads", desc := "()Z" } : Jvm.MethodName) prog_14_method_15_code (6 : Nat) (Option.some Jvm.ClassFile.FieldType.boolean)) ∈ bigG := mg 1653 rfl rfl
set_option maxRecDepth 100000 in
theorem k_1661 : (Jvm.Cond.code ({ cls := "TableTurnsModel", name := "fact", desc := "()I" } : Jvm.MethodName) prog_14_method_14_code (1 : Nat) (Option.some Jvm.ClassFile.FieldType.int)) ∈ bigG := mg 1657 rfl rfl
set_option maxRecDepth 100000 in
theorem k_1670 : (Jvm.Cond.code ({ cls := "TableTurnsModel", name := "puts", desc := "(I)V" } : Jvm.MethodName) prog_14_method_13_code (2 : Nat) (Option.none : Option Jvm.ClassFile.FieldType)) ∈ bigG := mg 1666 rfl rfl
set_option maxRecDepth 100000 in
theorem k_1674 : (Jvm.Cond.code ({ cls := "TableTurnsModel", name := "lays", desc := "()V" } : Jvm.MethodName) prog_14_method_41_code (1 : Nat) (Option.none : Option Jvm.ClassFile.FieldType)) ∈ bigG := mg 1670 rfl rfl
set_option maxRecDepth 100000 in
theorem k_1677 : (Jvm.Cond.code ({ cls := "TableTurnsModel", name := "moves", desc := "([II)V" } : Jvm.MethodName) prog_14_method_39_code (3 : Nat) (Option.none : Option Jvm.ClassFile.FieldType)) ∈ bigG := mg 1673 rfl rfl
set_option maxRecDepth 100000 in
theorem k_1680 : (Jvm.Cond.code ({ cls := "TableTurnsModel", name := "movesNames", desc := "([JI)V" } : Jvm.MethodName) prog_14_method_40_code (3 : Nat) (Option.none : Option Jvm.ClassFile.FieldType)) ∈ bigG := mg 1676 rfl rfl
set_option maxRecDepth 100000 in
theorem k_1684 : (Jvm.Cond.code ({ cls := "TableTurnsModel", name := "forgets", desc := "()V" } : Jvm.MethodName) prog_14_method_48_code (2 : Nat) (Option.none : Option Jvm.ClassFile.FieldType)) ∈ bigG := mg 1680 rfl rfl
set_option maxRecDepth 100000 in
theorem k_1688 : (Jvm.Cond.code ({ cls := "TableTurnsModel", name := "weeks", desc := "()I" } : Jvm.MethodName) prog_14_method_50_code (1 : Nat) (Option.some Jvm.ClassFile.FieldType.int)) ∈ bigG := mg 1684 rfl rfl
set_option maxRecDepth 100000 in
theorem k_1692 : (Jvm.Cond.code ({ cls := "TableTurnsModel", name := "readsLine", desc := "()Z" } : Jvm.MethodName) prog_14_method_44_code (3 : Nat) (Option.some Jvm.ClassFile.FieldType.boolean)) ∈ bigG := mg 1688 rfl rfl
set_option maxRecDepth 100000 in
theorem k_1696 : (Jvm.Cond.code ({ cls := "TableTurnsModel", name := "readsMeal", desc := "(I)Z" } : Jvm.MethodName) prog_14_method_43_code (2 : Nat) (Option.some Jvm.ClassFile.FieldType.boolean)) ∈ bigG := mg 1692 rfl rfl
set_option maxRecDepth 100000 in
theorem k_1700 : (Jvm.Cond.code ({ cls := "TableTurnsModel", name := "needsDish", desc := "(I)Z" } : Jvm.MethodName) prog_14_method_29_code (2 : Nat) (Option.some Jvm.ClassFile.FieldType.boolean)) ∈ bigG := mg 1696 rfl rfl
set_option maxRecDepth 100000 in
theorem k_1704 : (Jvm.Cond.code ({ cls := "TableTurnsModel", name := "laysLines", desc := "(II)V" } : Jvm.MethodName) prog_14_method_45_code (4 : Nat) (Option.none : Option Jvm.ClassFile.FieldType)) ∈ bigG := mg 1700 rfl rfl
set_option maxRecDepth 100000 in
theorem k_1708 : (Jvm.Cond.code ({ cls := "TableTurnsModel", name := "person", desc := "(II)I" } : Jvm.MethodName) prog_14_method_64_code (3 : Nat) (Option.some Jvm.ClassFile.FieldType.int)) ∈ bigG := mg 1704 rfl rfl
set_option maxRecDepth 100000 in
theorem k_1712 : (Jvm.Cond.code ({ cls := "TableTurnsModel", name := "isPerson", desc := "(I)Z" } : Jvm.MethodName) prog_14_method_51_code (2 : Nat) (Option.some Jvm.ClassFile.FieldType.boolean)) ∈ bigG := mg 1708 rfl rfl
set_option maxRecDepth 100000 in
theorem k_1716 : (Jvm.Cond.code ({ cls := "TableTurnsModel", name := "isSick", desc := "(I)Z" } : Jvm.MethodName) prog_14_method_53_code (2 : Nat) (Option.some Jvm.ClassFile.FieldType.boolean)) ∈ bigG := mg 1712 rfl rfl
set_option maxRecDepth 100000 in
theorem k_1720 : (Jvm.Cond.code ({ cls := "TableTurnsModel", name := "dish", desc := "(II)I" } : Jvm.MethodName) prog_14_method_65_code (3 : Nat) (Option.some Jvm.ClassFile.FieldType.int)) ∈ bigG := mg 1716 rfl rfl
set_option maxRecDepth 100000 in
theorem k_1724 : (Jvm.Cond.code ({ cls := "TableTurnsModel", name := "isDish", desc := "(I)Z" } : Jvm.MethodName) prog_14_method_52_code (2 : Nat) (Option.some Jvm.ClassFile.FieldType.boolean)) ∈ bigG := mg 1720 rfl rfl
set_option maxRecDepth 100000 in
theorem k_1728 : (Jvm.Cond.code ({ cls := "TableTurnsModel", name := "would", desc := "(IIZI)I" } : Jvm.MethodName) prog_14_method_66_code (5 : Nat) (Option.some Jvm.ClassFile.FieldType.int)) ∈ bigG := mg 1724 rfl rfl
set_option maxRecDepth 100000 in
theorem k_1732 : (Jvm.Cond.code ({ cls := "TableTurnsModel", name := "canEat", desc := "(II)Z" } : Jvm.MethodName) prog_14_method_56_code (3 : Nat) (Option.some Jvm.ClassFile.FieldType.boolean)) ∈ bigG := mg 1728 rfl rfl
set_option maxRecDepth 100000 in
theorem k_1736 : (Jvm.Cond.code ({ cls := "TableTurnsModel", name := "costOf", desc := "(II)I" } : Jvm.MethodName) prog_14_method_55_code (3 : Nat) (Option.some Jvm.ClassFile.FieldType.int)) ∈ bigG := mg 1732 rfl rfl
set_option maxRecDepth 100000 in
theorem k_1740 : (Jvm.Cond.code ({ cls := "TableTurnsModel", name := "wouldBeIll", desc := "(I)Z" } : Jvm.MethodName) prog_14_method_57_code (2 : Nat) (Option.some Jvm.ClassFile.FieldType.boolean)) ∈ bigG := mg 1736 rfl rfl
set_option maxRecDepth 100000 in
theorem k_1744 : (Jvm.Cond.code ({ cls := "TableTurnsModel", name := "shareOf", desc := "(IIZI)I" } : Jvm.MethodName) prog_14_method_59_code (6 : Nat) (Option.some Jvm.ClassFile.FieldType.int)) ∈ bigG := mg 1740 rfl rfl
set_option maxRecDepth 100000 in
theorem k_1747 : (Jvm.Cond.code ({ cls := "TableTurnsModel", name := "away", desc := "(II)I" } : Jvm.MethodName) prog_14_method_5_code (2 : Nat) (Option.some Jvm.ClassFile.FieldType.int)) ∈ bigG := mg 1743 rfl rfl
set_option maxRecDepth 100000 in
theorem k_1751 : (Jvm.Cond.code ({ cls := "TableTurnsModel", name := "lawOf", desc := "(IIIZZ)I" } : Jvm.MethodName) prog_14_method_58_code (8 : Nat) (Option.some Jvm.ClassFile.FieldType.int)) ∈ bigG := mg 1747 rfl rfl
set_option maxRecDepth 100000 in
theorem k_1755 : (Jvm.Cond.code ({ cls := "TableTurnsModel", name := "worked", desc := "(I)I" } : Jvm.MethodName) prog_14_method_19_code (6 : Nat) (Option.some Jvm.ClassFile.FieldType.int)) ∈ bigG := mg 1751 rfl rfl
set_option maxRecDepth 100000 in
theorem k_1759 : (Jvm.Cond.code ({ cls := "TableTurnsModel", name := "opens", desc := "(I)V" } : Jvm.MethodName) prog_14_method_16_code (2 : Nat) (Option.none : Option Jvm.ClassFile.FieldType)) ∈ bigG := mg 1755 rfl rfl
set_option maxRecDepth 100000 in
theorem k_1763 : (Jvm.Cond.code ({ cls := "TableTurnsModel", name := "sums", desc := "(I)V" } : Jvm.MethodName) prog_14_method_17_code (2 : Nat) (Option.none : Option Jvm.ClassFile.FieldType)) ∈ bigG := mg 1759 rfl rfl
set_option maxRecDepth 100000 in
theorem k_1767 : (Jvm.Cond.code ({ cls := "TableTurnsModel", name := "tests", desc := "(I)V" } : Jvm.MethodName) prog_14_method_18_code (3 : Nat) (Option.none : Option Jvm.ClassFile.FieldType)) ∈ bigG := mg 1763 rfl rfl
set_option maxRecDepth 100000 in
theorem k_1770 : (Jvm.Cond.code ({ cls := "TableTurnsModel", name := "between", desc := "(III)I" } : Jvm.MethodName) prog_14_method_4_code (3 : Nat) (Option.some Jvm.ClassFile.FieldType.int)) ∈ bigG := mg 1766 rfl rfl
set_option maxRecDepth 100000 in
theorem k_1775 : (Jvm.Cond.code ({ cls := "TableTurnsModel", name := "eat", desc := "(IIZ)I" } : Jvm.MethodName) prog_14_method_68_code (4 : Nat) (Option.some Jvm.ClassFile.FieldType.int)) ∈ bigG := mg 1771 rfl rfl
set_option maxRecDepth 100000 in
theorem k_1779 : (Jvm.Cond.code ({ cls := "TableTurnsModel", name := "keeps", desc := "()V" } : Jvm.MethodName) prog_14_method_67_code (2 : Nat) (Option.none : Option Jvm.ClassFile.FieldType)) ∈ bigG := mg 1775 rfl rfl
set_option maxRecDepth 100000 in
theorem k_1782 : (Jvm.Cond.code ({ cls := "TableTurnsModel", name := "copies", desc := "([II[II)V" } : Jvm.MethodName) prog_14_method_42_code (5 : Nat) (Option.none : Option Jvm.ClassFile.FieldType)) ∈ bigG := mg 1778 rfl rfl
set_option maxRecDepth 100000 in
theorem k_1786 : (Jvm.Cond.code ({ cls := "TableTurnsModel", name := "eats", desc := "(IIZ)Z" } : Jvm.MethodName) prog_14_method_62_code (7 : Nat) (Option.some Jvm.ClassFile.FieldType.boolean)) ∈ bigG := mg 1782 rfl rfl
set_option maxRecDepth 100000 in
theorem k_1790 : (Jvm.Cond.code ({ cls := "TableTurnsModel", name := "sitting", desc := "()I" } : Jvm.MethodName) prog_14_method_54_code (3 : Nat) (Option.some Jvm.ClassFile.FieldType.int)) ∈ bigG := mg 1786 rfl rfl
set_option maxRecDepth 100000 in
theorem k_1794 : (Jvm.Cond.code ({ cls := "TableTurnsModel", name := "fills", desc := "(II)V" } : Jvm.MethodName) prog_14_method_60_code (3 : Nat) (Option.none : Option Jvm.ClassFile.FieldType)) ∈ bigG := mg 1790 rfl rfl
set_option maxRecDepth 100000 in
theorem k_1799 : (Jvm.Cond.code ({ cls := "TableTurnsModel", name := "ends", desc := "()V" } : Jvm.MethodName) prog_14_method_61_code (3 : Nat) (Option.none : Option Jvm.ClassFile.FieldType)) ∈ bigG := mg 1795 rfl rfl
set_option maxRecDepth 100000 in
theorem k_1803 : (Jvm.Cond.code ({ cls := "TableTurnsModel", name := "abroad", desc := "(II)I" } : Jvm.MethodName) prog_14_method_69_code (3 : Nat) (Option.some Jvm.ClassFile.FieldType.int)) ∈ bigG := mg 1799 rfl rfl
set_option maxRecDepth 100000 in
theorem k_1807 : (Jvm.Cond.code ({ cls := "TableTurnsModel", name := "aloneOf", desc := "(II)I" } : Jvm.MethodName) prog_14_method_63_code (3 : Nat) (Option.some Jvm.ClassFile.FieldType.int)) ∈ bigG := mg 1803 rfl rfl
set_option maxRecDepth 100000 in
theorem k_1811 : (Jvm.Cond.code ({ cls := "TableTurnsModel", name := "fast", desc := "()I" } : Jvm.MethodName) prog_14_method_70_code (1 : Nat) (Option.some Jvm.ClassFile.FieldType.int)) ∈ bigG := mg 1807 rfl rfl
set_option maxRecDepth 100000 in
theorem k_1815 : (Jvm.Cond.code ({ cls := "TableTurnsModel", name := "undo", desc := "()Z" } : Jvm.MethodName) prog_14_method_71_code (1 : Nat) (Option.some Jvm.ClassFile.FieldType.boolean)) ∈ bigG := mg 1811 rfl rfl
set_option maxRecDepth 100000 in
theorem k_1819 : (Jvm.Cond.code ({ cls := "TableTurnsModel", name := "judged", desc := "(I)I" } : Jvm.MethodName) prog_14_method_73_code (6 : Nat) (Option.some Jvm.ClassFile.FieldType.int)) ∈ bigG := mg 1815 rfl rfl
set_option maxRecDepth 100000 in
theorem k_1823 : (Jvm.Cond.code ({ cls := "TableTurnsModel", name := "goes", desc := "(I)Z" } : Jvm.MethodName) prog_14_method_72_code (2 : Nat) (Option.some Jvm.ClassFile.FieldType.boolean)) ∈ bigG := mg 1819 rfl rfl
set_option maxRecDepth 100000 in
theorem k_1827 : (Jvm.Cond.code ({ cls := "TableTurnsModel", name := "plan", desc := "(II)I" } : Jvm.MethodName) prog_14_method_75_code (4 : Nat) (Option.some Jvm.ClassFile.FieldType.int)) ∈ bigG := mg 1823 rfl rfl
set_option maxRecDepth 100000 in
theorem k_1831 : (Jvm.Cond.code ({ cls := "TableTurnsModel", name := "planOf", desc := "(II)I" } : Jvm.MethodName) prog_14_method_74_code (11 : Nat) (Option.some Jvm.ClassFile.FieldType.int)) ∈ bigG := mg 1827 rfl rfl
set_option maxRecDepth 100000 in
theorem k_1835 : (Jvm.Cond.code ({ cls := "TableTurnsModel", name := "tables", desc := "(II)I" } : Jvm.MethodName) prog_14_method_78_code (3 : Nat) (Option.some Jvm.ClassFile.FieldType.int)) ∈ bigG := mg 1831 rfl rfl
set_option maxRecDepth 100000 in
theorem k_1839 : (Jvm.Cond.code ({ cls := "TableTurnsModel", name := "laysShares", desc := "(I)V" } : Jvm.MethodName) prog_14_method_76_code (6 : Nat) (Option.none : Option Jvm.ClassFile.FieldType)) ∈ bigG := mg 1835 rfl rfl
set_option maxRecDepth 100000 in
theorem k_1843 : (Jvm.Cond.code ({ cls := "TableTurnsModel", name := "seats", desc := "(II)V" } : Jvm.MethodName) prog_14_method_77_code (5 : Nat) (Option.none : Option Jvm.ClassFile.FieldType)) ∈ bigG := mg 1839 rfl rfl
set_option maxRecDepth 100000 in
theorem k_1847 : (Jvm.Cond.code ({ cls := "TableTurnsModel", name := "last", desc := "(I)I" } : Jvm.MethodName) prog_14_method_80_code (6 : Nat) (Option.some Jvm.ClassFile.FieldType.int)) ∈ bigG := mg 1843 rfl rfl
set_option maxRecDepth 100000 in
theorem k_1851 : (Jvm.Cond.code ({ cls := "TableTurnsModel", name := "nextEater", desc := "(II)I" } : Jvm.MethodName) prog_14_method_79_code (5 : Nat) (Option.some Jvm.ClassFile.FieldType.int)) ∈ bigG := mg 1847 rfl rfl
set_option maxRecDepth 100000 in
theorem k_1855 : (Jvm.Cond.code ({ cls := "TableTurnsModel", name := "tell", desc := "(II)Z" } : Jvm.MethodName) prog_14_method_81_code (3 : Nat) (Option.some Jvm.ClassFile.FieldType.boolean)) ∈ bigG := mg 1851 rfl rfl
set_option maxRecDepth 100000 in
theorem k_1859 : (Jvm.Cond.code ({ cls := "TableTurnsModel", name := "sets", desc := "(II)I" } : Jvm.MethodName) prog_14_method_86_code (7 : Nat) (Option.some Jvm.ClassFile.FieldType.int)) ∈ bigG := mg 1855 rfl rfl
set_option maxRecDepth 100000 in
theorem k_1863 : (Jvm.Cond.code ({ cls := "TableTurnsModel", name := "isAsTold", desc := "(II)Z" } : Jvm.MethodName) prog_14_method_83_code (4 : Nat) (Option.some Jvm.ClassFile.FieldType.boolean)) ∈ bigG := mg 1859 rfl rfl
set_option maxRecDepth 100000 in
theorem k_1867 : (Jvm.Cond.code ({ cls := "TableTurnsModel", name := "fullBy", desc := "(III)I" } : Jvm.MethodName) prog_14_method_82_code (4 : Nat) (Option.some Jvm.ClassFile.FieldType.int)) ∈ bigG := mg 1863 rfl rfl
set_option maxRecDepth 100000 in
theorem k_1871 : (Jvm.Cond.code ({ cls := "TableTurnsModel", name := "askFor", desc := "(II)I" } : Jvm.MethodName) prog_14_method_85_code (7 : Nat) (Option.some Jvm.ClassFile.FieldType.int)) ∈ bigG := mg 1867 rfl rfl
set_option maxRecDepth 100000 in
theorem k_1875 : (Jvm.Cond.code ({ cls := "TableTurnsModel", name := "mostAlike", desc := "(II)I" } : Jvm.MethodName) prog_14_method_84_code (6 : Nat) (Option.some Jvm.ClassFile.FieldType.int)) ∈ bigG := mg 1871 rfl rfl
set_option maxRecDepth 100000 in
theorem k_1879 : (Jvm.Cond.code ({ cls := "TableTurnsModel", name := "stop", desc := "(I)I" } : Jvm.MethodName) prog_14_method_88_code (5 : Nat) (Option.some Jvm.ClassFile.FieldType.int)) ∈ bigG := mg 1875 rfl rfl
set_option maxRecDepth 100000 in
theorem k_1882 : (Jvm.Cond.code ({ cls := "TableTurnsModel", name := "bits", desc := "(I)I" } : Jvm.MethodName) prog_14_method_6_code (3 : Nat) (Option.some Jvm.ClassFile.FieldType.int)) ∈ bigG := mg 1878 rfl rfl
set_option maxRecDepth 100000 in
theorem k_1886 : (Jvm.Cond.code ({ cls := "TableTurnsModel", name := "spreads", desc := "(I)I" } : Jvm.MethodName) prog_14_method_87_code (5 : Nat) (Option.some Jvm.ClassFile.FieldType.int)) ∈ bigG := mg 1882 rfl rfl
set_option maxRecDepth 100000 in
theorem k_1890 : (Jvm.Cond.code ({ cls := "TableTurnsModel", name := "power", desc := "(II)I" } : Jvm.MethodName) prog_14_method_89_code (7 : Nat) (Option.some Jvm.ClassFile.FieldType.int)) ∈ bigG := mg 1886 rfl rfl
set_option maxRecDepth 100000 in
theorem k_1894 : (Jvm.Cond.code ({ cls := "TableTurnsModel", name := "couples", desc := "(I)I" } : Jvm.MethodName) prog_14_method_91_code (4 : Nat) (Option.some Jvm.ClassFile.FieldType.int)) ∈ bigG := mg 1890 rfl rfl
set_option maxRecDepth 100000 in
theorem k_1898 : (Jvm.Cond.code ({ cls := "TableTurnsModel", name := "pairs", desc := "(IZI)V" } : Jvm.MethodName) prog_14_method_90_code (6 : Nat) (Option.none : Option Jvm.ClassFile.FieldType)) ∈ bigG := mg 1894 rfl rfl
set_option maxRecDepth 100000 in
theorem k_1902 : (Jvm.Cond.code ({ cls := "TableTurnsModel", name := "rests", desc := "(III)I" } : Jvm.MethodName) prog_14_method_94_code (7 : Nat) (Option.some Jvm.ClassFile.FieldType.int)) ∈ bigG := mg 1898 rfl rfl
set_option maxRecDepth 100000 in
theorem k_1905 : (Jvm.Cond.code ({ cls := "TableTurnsModel", name := "isRest", desc := "(IIII)Z" } : Jvm.MethodName) prog_14_method_93_code (5 : Nat) (Option.some Jvm.ClassFile.FieldType.boolean)) ∈ bigG := mg 1901 rfl rfl
set_option maxRecDepth 100000 in
theorem k_1908 : (Jvm.Cond.code ({ cls := "TableTurnsModel", name := "gets", desc := "(IIII)I" } : Jvm.MethodName) prog_14_method_92_code (4 : Nat) (Option.some Jvm.ClassFile.FieldType.int)) ∈ bigG := mg 1904 rfl rfl
set_option maxRecDepth 100000 in
theorem k_1912 : (Jvm.Cond.code ({ cls := "TableTurnsModel", name := "years", desc := "(III)I" } : Jvm.MethodName) prog_14_method_98_code (5 : Nat) (Option.some Jvm.ClassFile.FieldType.int)) ∈ bigG := mg 1908 rfl rfl
set_option maxRecDepth 100000 in
theorem k_1916 : (Jvm.Cond.code ({ cls := "TableTurnsModel", name := "livesDay", desc := "()V" } : Jvm.MethodName) prog_14_method_96_code (5 : Nat) (Option.none : Option Jvm.ClassFile.FieldType)) ∈ bigG := mg 1912 rfl rfl
set_option maxRecDepth 100000 in
theorem k_1920 : (Jvm.Cond.code ({ cls := "TableTurnsModel", name := "draws", desc := "(I)I" } : Jvm.MethodName) prog_14_method_95_code (2 : Nat) (Option.some Jvm.ClassFile.FieldType.int)) ∈ bigG := mg 1916 rfl rfl
set_option maxRecDepth 100000 in
theorem k_1927 : (Jvm.Cond.code ({ cls := "TableTurnsModel", name := "sum", desc := "([II)I" } : Jvm.MethodName) prog_14_method_97_code (4 : Nat) (Option.some Jvm.ClassFile.FieldType.int)) ∈ bigG := mg 1923 rfl rfl
set_option maxRecDepth 100000 in
theorem k_1931 : (Jvm.Cond.code ({ cls := "TableTurnsModel", name := "mark", desc := "(IZ)Z" } : Jvm.MethodName) prog_14_method_99_code (5 : Nat) (Option.some Jvm.ClassFile.FieldType.boolean)) ∈ bigG := mg 1927 rfl rfl
set_option maxRecDepth 100000 in
theorem k_1935 : (Jvm.Cond.code ({ cls := "TableTurnsModel", name := "laysTold", desc := "(II)V" } : Jvm.MethodName) prog_14_method_46_code (4 : Nat) (Option.none : Option Jvm.ClassFile.FieldType)) ∈ bigG := mg 1931 rfl rfl
set_option maxRecDepth 100000 in
theorem k_1939 : (Jvm.Cond.code ({ cls := "TableTurnsModel", name := "count", desc := "(I)I" } : Jvm.MethodName) prog_14_method_101_code (2 : Nat) (Option.some Jvm.ClassFile.FieldType.int)) ∈ bigG := mg 1935 rfl rfl
set_option maxRecDepth 100000 in
theorem k_1943 : (Jvm.Cond.code ({ cls := "TableTurnsModel", name := "toldMany", desc := "()I" } : Jvm.MethodName) prog_14_method_100_code (3 : Nat) (Option.some Jvm.ClassFile.FieldType.int)) ∈ bigG := mg 1939 rfl rfl
