theorem k_0 : (Jvm.Cond.initialized "DoorServerLaw") ∈ BIG := big_in (tb_1 (List.mem_of_getElem? (i := 0) rfl)) rfl
theorem k_1 : (Jvm.Cond.initialized "DoorServer") ∈ BIG := big_in (tb_1 (List.mem_of_getElem? (i := 1) rfl)) rfl
theorem k_2 : (Jvm.Cond.initialized "DoorServer$Bytes") ∈ BIG := big_in (tb_1 (List.mem_of_getElem? (i := 2) rfl)) rfl
theorem k_3 : (Jvm.Cond.initialized "DoorServer$Packet") ∈ BIG := big_in (tb_1 (List.mem_of_getElem? (i := 3) rfl)) rfl
theorem k_4 : (Jvm.Cond.initialized "DoorServer$Server") ∈ BIG := big_in (tb_1 (List.mem_of_getElem? (i := 4) rfl)) rfl
theorem k_5 : (Jvm.Cond.initialized "DoorServer$Digests") ∈ BIG := big_in (tb_1 (List.mem_of_getElem? (i := 5) rfl)) rfl
theorem k_6 : (Jvm.Cond.initialized "DoorServer$Answers") ∈ BIG := big_in (tb_1 (List.mem_of_getElem? (i := 6) rfl)) rfl
theorem k_7 : (Jvm.Cond.initialized "DoorServer$Kept") ∈ BIG := big_in (tb_1 (List.mem_of_getElem? (i := 7) rfl)) rfl
theorem k_8 : (Jvm.Cond.initialized "DoorServer$Trials") ∈ BIG := big_in (tb_1 (List.mem_of_getElem? (i := 8) rfl)) rfl
theorem k_9 : (Jvm.Cond.initialized "DoorServer$Trial") ∈ BIG := big_in (tb_1 (List.mem_of_getElem? (i := 9) rfl)) rfl
theorem k_10 : (Jvm.Cond.initialized "DoorServer$Sessions") ∈ BIG := big_in (tb_1 (List.mem_of_getElem? (i := 10) rfl)) rfl
theorem k_11 : (Jvm.Cond.initialized "DoorServer$Session") ∈ BIG := big_in (tb_1 (List.mem_of_getElem? (i := 11) rfl)) rfl
theorem k_12 : (Jvm.Cond.initialized "DoorServer$Request") ∈ BIG := big_in (tb_1 (List.mem_of_getElem? (i := 12) rfl)) rfl
theorem k_13 : (Jvm.Cond.initialized "DoorServerModel") ∈ BIG := big_in (tb_1 (List.mem_of_getElem? (i := 13) rfl)) rfl
theorem k_14 : (Jvm.Cond.initialized "java/lang/Throwable") ∈ BIG := big_in (tb_1 (List.mem_of_getElem? (i := 14) rfl)) rfl
theorem k_15 : (Jvm.Cond.initialized "java/lang/Exception") ∈ BIG := big_in (tb_1 (List.mem_of_getElem? (i := 15) rfl)) rfl
theorem k_16 : (Jvm.Cond.initialized "java/lang/RuntimeException") ∈ BIG := big_in (tb_1 (List.mem_of_getElem? (i := 16) rfl)) rfl
theorem k_17 : (Jvm.Cond.initialized "java/lang/IllegalArgumentException") ∈ BIG := big_in (tb_1 (List.mem_of_getElem? (i := 17) rfl)) rfl
theorem k_18 : (Jvm.Cond.initialized "java/lang/IllegalStateException") ∈ BIG := big_in (tb_1 (List.mem_of_getElem? (i := 18) rfl)) rfl
theorem k_19 : (Jvm.Cond.initialized "java/lang/System") ∈ BIG := big_in (tb_1 (List.mem_of_getElem? (i := 19) rfl)) rfl
theorem k_20 : (Jvm.Cond.initialized "java/util/Arrays") ∈ BIG := big_in (tb_1 (List.mem_of_getElem? (i := 20) rfl)) rfl
theorem k_21 : (Jvm.Cond.initialized "java/lang/Math") ∈ BIG := big_in (tb_1 (List.mem_of_getElem? (i := 21) rfl)) rfl
theorem k_22 : (Jvm.Cond.classLink "DoorServerLaw" (8 : Nat) "DoorServer") ∈ BIG := big_in (tb_1 (List.mem_of_getElem? (i := 22) rfl)) rfl
theorem k_23 : (Jvm.Cond.instantiable "DoorServer" (2 : Nat)) ∈ BIG := big_in (tb_1 (List.mem_of_getElem? (i := 23) rfl)) rfl
theorem k_24 : (Jvm.Cond.methodLink "DoorServerLaw" (74 : Nat) y_DS_init) ∈ BIG := big_in (tb_1 (List.mem_of_getElem? (i := 24) rfl)) rfl
theorem k_25 : (Jvm.Cond.instanceMethod y_DS_init) ∈ BIG := big_in (tb_1 (List.mem_of_getElem? (i := 25) rfl)) rfl
theorem k_26 : (Jvm.Cond.code y_DS_init prog_1_method_1_code (1 : Nat) (Option.none : Option Jvm.ClassFile.FieldType)) ∈ BIG := big_in (tb_1 (List.mem_of_getElem? (i := 26) rfl)) rfl
theorem k_27 : (Jvm.Cond.methodLink "DoorServer" (3 : Nat) y_Ob_init) ∈ BIG := big_in (tb_1 (List.mem_of_getElem? (i := 27) rfl)) rfl
theorem k_28 : (Jvm.Cond.instanceMethod y_Ob_init) ∈ BIG := big_in (tb_1 (List.mem_of_getElem? (i := 28) rfl)) rfl
theorem k_29 : (Jvm.Cond.code y_Ob_init object_method_1_code (1 : Nat) (Option.none : Option Jvm.ClassFile.FieldType)) ∈ BIG := big_in (tb_1 (List.mem_of_getElem? (i := 29) rfl)) rfl
theorem k_30 : (Jvm.Cond.classLink "DoorServer" (9 : Nat) "DoorServer$Packet") ∈ BIG := big_in (tb_1 (List.mem_of_getElem? (i := 30) rfl)) rfl
theorem k_31 : (Jvm.Cond.instantiable "DoorServer$Packet" (2 : Nat)) ∈ BIG := big_in (tb_1 (List.mem_of_getElem? (i := 31) rfl)) rfl
theorem k_32 : (Jvm.Cond.methodLink "DoorServer" (11 : Nat) y_Pk_init) ∈ BIG := big_in (tb_1 (List.mem_of_getElem? (i := 32) rfl)) rfl
theorem k_33 : (Jvm.Cond.instanceMethod y_Pk_init) ∈ BIG := big_in (tb_1 (List.mem_of_getElem? (i := 33) rfl)) rfl
theorem k_34 : (Jvm.Cond.code y_Pk_init prog_6_method_1_code (2 : Nat) (Option.none : Option Jvm.ClassFile.FieldType)) ∈ BIG := big_in (tb_1 (List.mem_of_getElem? (i := 34) rfl)) rfl
theorem k_35 : (Jvm.Cond.methodLink "DoorServer$Packet" (3 : Nat) y_By_init) ∈ BIG := big_in (tb_1 (List.mem_of_getElem? (i := 35) rfl)) rfl
theorem k_36 : (Jvm.Cond.instanceMethod y_By_init) ∈ BIG := big_in (tb_1 (List.mem_of_getElem? (i := 36) rfl)) rfl
theorem k_37 : (Jvm.Cond.code y_By_init prog_3_method_1_code (2 : Nat) (Option.none : Option Jvm.ClassFile.FieldType)) ∈ BIG := big_in (tb_1 (List.mem_of_getElem? (i := 37) rfl)) rfl
theorem k_38 : (Jvm.Cond.methodLink "DoorServer$Bytes" (3 : Nat) y_Ob_init) ∈ BIG := big_in (tb_1 (List.mem_of_getElem? (i := 38) rfl)) rfl
theorem k_39 : (Jvm.Cond.fieldLink "DoorServer$Bytes" (9 : Nat) "DoorServer$Bytes" "row" "[I") ∈ BIG := big_in (tb_1 (List.mem_of_getElem? (i := 39) rfl)) rfl
theorem k_40 : (Jvm.Cond.fieldLink "DoorServer$Request" (31 : Nat) "DoorServer$Packet" "row" "[I") ∈ BIG := big_in (tb_1 (List.mem_of_getElem? (i := 40) rfl)) rfl
theorem k_41 : (Jvm.Cond.sameField "DoorServer$Packet" "DoorServer$Bytes" "row" "[I") ∈ BIG := big_in (tb_1 (List.mem_of_getElem? (i := 41) rfl)) rfl
theorem k_42 : (Jvm.Cond.fieldLink "DoorServer$Session" (33 : Nat) "DoorServer$Bytes" "row" "[I") ∈ BIG := big_in (tb_1 (List.mem_of_getElem? (i := 42) rfl)) rfl
theorem k_43 : (Jvm.Cond.fieldLink "DoorServer$Session" (45 : Nat) "DoorServer$Packet" "row" "[I") ∈ BIG := big_in (tb_1 (List.mem_of_getElem? (i := 43) rfl)) rfl
theorem k_44 : (Jvm.Cond.fieldLink "DoorServer$Digests" (46 : Nat) "DoorServer$Bytes" "row" "[I") ∈ BIG := big_in (tb_1 (List.mem_of_getElem? (i := 44) rfl)) rfl
theorem k_45 : (Jvm.Cond.fieldLink "DoorServer$Packet" (27 : Nat) "DoorServer$Packet" "row" "[I") ∈ BIG := big_in (tb_1 (List.mem_of_getElem? (i := 45) rfl)) rfl
theorem k_46 : (Jvm.Cond.fieldLink "DoorServer$Answers" (54 : Nat) "DoorServer$Packet" "row" "[I") ∈ BIG := big_in (tb_1 (List.mem_of_getElem? (i := 46) rfl)) rfl
theorem k_47 : (Jvm.Cond.fieldLink "DoorServer$Server" (96 : Nat) "DoorServer$Packet" "row" "[I") ∈ BIG := big_in (tb_1 (List.mem_of_getElem? (i := 47) rfl)) rfl
theorem k_48 : (Jvm.Cond.fieldLink "DoorServer$Server" (161 : Nat) "DoorServer$Bytes" "row" "[I") ∈ BIG := big_in (tb_1 (List.mem_of_getElem? (i := 48) rfl)) rfl
theorem k_49 : (Jvm.Cond.fieldLink "DoorServer" (107 : Nat) "DoorServer$Packet" "row" "[I") ∈ BIG := big_in (tb_1 (List.mem_of_getElem? (i := 49) rfl)) rfl
theorem k_50 : (Jvm.Cond.fieldLink "DoorServer" (215 : Nat) "DoorServer$Bytes" "row" "[I") ∈ BIG := big_in (tb_1 (List.mem_of_getElem? (i := 50) rfl)) rfl
theorem k_51 : (Jvm.Cond.fieldLink "DoorServer$Bytes" (15 : Nat) "DoorServer$Bytes" "length" "I") ∈ BIG := big_in (tb_1 (List.mem_of_getElem? (i := 51) rfl)) rfl
theorem k_52 : (Jvm.Cond.fieldLink "DoorServer$Packet" (9 : Nat) "DoorServer$Packet" "length" "I") ∈ BIG := big_in (tb_1 (List.mem_of_getElem? (i := 52) rfl)) rfl
theorem k_53 : (Jvm.Cond.sameField "DoorServer$Packet" "DoorServer$Bytes" "length" "I") ∈ BIG := big_in (tb_1 (List.mem_of_getElem? (i := 53) rfl)) rfl
theorem k_54 : (Jvm.Cond.fieldLink "DoorServer$Server" (74 : Nat) "DoorServer$Bytes" "length" "I") ∈ BIG := big_in (tb_1 (List.mem_of_getElem? (i := 54) rfl)) rfl
theorem k_55 : (Jvm.Cond.fieldLink "DoorServer$Request" (25 : Nat) "DoorServer$Packet" "length" "I") ∈ BIG := big_in (tb_1 (List.mem_of_getElem? (i := 55) rfl)) rfl
theorem k_56 : (Jvm.Cond.fieldLink "DoorServer$Session" (30 : Nat) "DoorServer$Bytes" "length" "I") ∈ BIG := big_in (tb_1 (List.mem_of_getElem? (i := 56) rfl)) rfl
theorem k_57 : (Jvm.Cond.fieldLink "DoorServer$Digests" (42 : Nat) "DoorServer$Bytes" "length" "I") ∈ BIG := big_in (tb_1 (List.mem_of_getElem? (i := 57) rfl)) rfl
theorem k_58 : (Jvm.Cond.fieldLink "DoorServer$Answers" (73 : Nat) "DoorServer$Packet" "length" "I") ∈ BIG := big_in (tb_1 (List.mem_of_getElem? (i := 58) rfl)) rfl
theorem k_59 : (Jvm.Cond.fieldLink "DoorServer" (81 : Nat) "DoorServer$Packet" "length" "I") ∈ BIG := big_in (tb_1 (List.mem_of_getElem? (i := 59) rfl)) rfl
theorem k_60 : (Jvm.Cond.fieldLink "DoorServer$Server" (273 : Nat) "DoorServer$Packet" "length" "I") ∈ BIG := big_in (tb_1 (List.mem_of_getElem? (i := 60) rfl)) rfl
theorem k_61 : (Jvm.Cond.fieldLink "DoorServer" (214 : Nat) "DoorServer$Bytes" "length" "I") ∈ BIG := big_in (tb_1 (List.mem_of_getElem? (i := 61) rfl)) rfl
theorem k_62 : (Jvm.Cond.laysFinal "DoorServer$Packet" "DoorServer$Bytes" "row" "[I") ∈ BIG := big_in (tb_1 (List.mem_of_getElem? (i := 62) rfl)) rfl
theorem k_64 : (Jvm.Cond.lays "DoorServer$Packet" "DoorServer$Bytes" "length" "I") ∈ BIG := big_in (tb_1 (List.mem_of_getElem? (i := 64) rfl)) rfl
theorem k_66 : (Jvm.Cond.superclass "DoorServer$Packet" "DoorServer$Bytes") ∈ BIG := big_in (tb_1 (List.mem_of_getElem? (i := 66) rfl)) rfl
theorem k_67 : (Jvm.Cond.arrayClass Jvm.ClassFile.FieldType.int) ∈ BIG := big_in (tb_1 (List.mem_of_getElem? (i := 67) rfl)) rfl
theorem k_68 : (Jvm.Cond.methodLink "DoorServer" (18 : Nat) y_Pk_begin) ∈ BIG := big_in (tb_1 (List.mem_of_getElem? (i := 68) rfl)) rfl
theorem k_69 : (Jvm.Cond.instanceMethod y_Pk_begin) ∈ BIG := big_in (tb_1 (List.mem_of_getElem? (i := 69) rfl)) rfl
theorem k_70 : (Jvm.Cond.selects "DoorServer$Packet" y_Pk_begin y_Pk_begin) ∈ BIG := big_in (tb_1 (List.mem_of_getElem? (i := 70) rfl)) rfl
theorem k_71 : (Jvm.Cond.code y_Pk_begin prog_6_method_2_code (3 : Nat) (Option.none : Option Jvm.ClassFile.FieldType)) ∈ BIG := big_in (tb_1 (List.mem_of_getElem? (i := 71) rfl)) rfl
theorem k_72 : (Jvm.Cond.methodLink "DoorServer$Packet" (15 : Nat) y_Pk_append) ∈ BIG := big_in (tb_1 (List.mem_of_getElem? (i := 72) rfl)) rfl
theorem k_73 : (Jvm.Cond.sameMethod "DoorServer$Packet" "DoorServer$Bytes" "append" "(I)V") ∈ BIG := big_in (tb_1 (List.mem_of_getElem? (i := 73) rfl)) rfl
theorem k_75 : (Jvm.Cond.selects "DoorServer$Packet" y_Pk_append y_By_append) ∈ BIG := big_in (tb_1 (List.mem_of_getElem? (i := 75) rfl)) rfl
theorem k_76 : (Jvm.Cond.instanceMethod y_By_append) ∈ BIG := big_in (tb_1 (List.mem_of_getElem? (i := 76) rfl)) rfl
theorem k_77 : (Jvm.Cond.code y_By_append prog_3_method_2_code (2 : Nat) (Option.none : Option Jvm.ClassFile.FieldType)) ∈ BIG := big_in (tb_1 (List.mem_of_getElem? (i := 77) rfl)) rfl
theorem k_78 : (Jvm.Cond.constantLong "DoorServer$Packet" (18 : Nat) (20 : Int64)) ∈ BIG := big_in (tb_1 (List.mem_of_getElem? (i := 78) rfl)) rfl
theorem k_79 : (Jvm.Cond.methodLink "DoorServer$Packet" (20 : Nat) y_Pk_appendNumber) ∈ BIG := big_in (tb_1 (List.mem_of_getElem? (i := 79) rfl)) rfl
theorem k_80 : (Jvm.Cond.sameMethod "DoorServer$Packet" "DoorServer$Bytes" "appendNumber" "(JI)V") ∈ BIG := big_in (tb_1 (List.mem_of_getElem? (i := 80) rfl)) rfl
theorem k_82 : (Jvm.Cond.selects "DoorServer$Packet" y_Pk_appendNumber y_By_appendNumber) ∈ BIG := big_in (tb_1 (List.mem_of_getElem? (i := 82) rfl)) rfl
theorem k_83 : (Jvm.Cond.instanceMethod y_By_appendNumber) ∈ BIG := big_in (tb_1 (List.mem_of_getElem? (i := 83) rfl)) rfl
theorem k_84 : (Jvm.Cond.code y_By_appendNumber prog_3_method_4_code (5 : Nat) (Option.none : Option Jvm.ClassFile.FieldType)) ∈ BIG := big_in (tb_1 (List.mem_of_getElem? (i := 84) rfl)) rfl
theorem k_85 : (Jvm.Cond.methodLink "DoorServer$Bytes" (19 : Nat) y_By_append) ∈ BIG := big_in (tb_1 (List.mem_of_getElem? (i := 85) rfl)) rfl
theorem k_86 : (Jvm.Cond.methodLink "DoorServer$Packet" (24 : Nat) y_Pk_appendZeros) ∈ BIG := big_in (tb_1 (List.mem_of_getElem? (i := 86) rfl)) rfl
theorem k_87 : (Jvm.Cond.sameMethod "DoorServer$Packet" "DoorServer$Bytes" "appendZeros" "(I)V") ∈ BIG := big_in (tb_1 (List.mem_of_getElem? (i := 87) rfl)) rfl
theorem k_89 : (Jvm.Cond.selects "DoorServer$Packet" y_Pk_appendZeros y_By_appendZeros) ∈ BIG := big_in (tb_1 (List.mem_of_getElem? (i := 89) rfl)) rfl
theorem k_90 : (Jvm.Cond.instanceMethod y_By_appendZeros) ∈ BIG := big_in (tb_1 (List.mem_of_getElem? (i := 90) rfl)) rfl
theorem k_91 : (Jvm.Cond.code y_By_appendZeros prog_3_method_3_code (3 : Nat) (Option.none : Option Jvm.ClassFile.FieldType)) ∈ BIG := big_in (tb_1 (List.mem_of_getElem? (i := 91) rfl)) rfl
theorem k_92 : (Jvm.Cond.methodLink "DoorServer" (22 : Nat) y_Pk_setAuthenticator) ∈ BIG := big_in (tb_1 (List.mem_of_getElem? (i := 92) rfl)) rfl
theorem k_93 : (Jvm.Cond.instanceMethod y_Pk_setAuthenticator) ∈ BIG := big_in (tb_1 (List.mem_of_getElem? (i := 93) rfl)) rfl
theorem k_94 : (Jvm.Cond.selects "DoorServer$Packet" y_Pk_setAuthenticator y_Pk_setAuthenticator) ∈ BIG := big_in (tb_1 (List.mem_of_getElem? (i := 94) rfl)) rfl
theorem k_95 : (Jvm.Cond.code y_Pk_setAuthenticator prog_6_method_3_code (5 : Nat) (Option.none : Option Jvm.ClassFile.FieldType)) ∈ BIG := big_in (tb_1 (List.mem_of_getElem? (i := 95) rfl)) rfl
theorem k_96 : (Jvm.Cond.classLink "DoorServer" (26 : Nat) "DoorServer$Server") ∈ BIG := big_in (tb_1 (List.mem_of_getElem? (i := 96) rfl)) rfl
theorem k_97 : (Jvm.Cond.instantiable "DoorServer$Server" (12 : Nat)) ∈ BIG := big_in (tb_1 (List.mem_of_getElem? (i := 97) rfl)) rfl
theorem k_98 : (Jvm.Cond.methodLink "DoorServer" (28 : Nat) y_Sv_init) ∈ BIG := big_in (tb_1 (List.mem_of_getElem? (i := 98) rfl)) rfl
theorem k_99 : (Jvm.Cond.instanceMethod y_Sv_init) ∈ BIG := big_in (tb_1 (List.mem_of_getElem? (i := 99) rfl)) rfl
theorem k_100 : (Jvm.Cond.code y_Sv_init prog_8_method_1_code (3 : Nat) (Option.none : Option Jvm.ClassFile.FieldType)) ∈ BIG := big_in (tb_1 (List.mem_of_getElem? (i := 100) rfl)) rfl
theorem k_101 : (Jvm.Cond.methodLink "DoorServer$Server" (3 : Nat) y_Ob_init) ∈ BIG := big_in (tb_1 (List.mem_of_getElem? (i := 101) rfl)) rfl
theorem k_102 : (Jvm.Cond.classLink "DoorServer$Server" (9 : Nat) "DoorServer$Bytes") ∈ BIG := big_in (tb_1 (List.mem_of_getElem? (i := 102) rfl)) rfl
theorem k_104 : (Jvm.Cond.classLink "DoorServer$Server" (20 : Nat) "DoorServer$Digests") ∈ BIG := big_in (tb_1 (List.mem_of_getElem? (i := 104) rfl)) rfl
theorem k_105 : (Jvm.Cond.instantiable "DoorServer$Digests" (7 : Nat)) ∈ BIG := big_in (tb_1 (List.mem_of_getElem? (i := 105) rfl)) rfl
theorem k_107 : (Jvm.Cond.instanceMethod y_Dg_init) ∈ BIG := big_in (tb_1 (List.mem_of_getElem? (i := 107) rfl)) rfl
theorem k_108 : (Jvm.Cond.code y_Dg_init prog_4_method_1_code (1 : Nat) (Option.none : Option Jvm.ClassFile.FieldType)) ∈ BIG := big_in (tb_1 (List.mem_of_getElem? (i := 108) rfl)) rfl
theorem k_109 : (Jvm.Cond.methodLink "DoorServer$Digests" (5 : Nat) y_Ob_init) ∈ BIG := big_in (tb_1 (List.mem_of_getElem? (i := 109) rfl)) rfl
theorem k_110 : (Jvm.Cond.classLink "DoorServer$Digests" (11 : Nat) "DoorServer$Bytes") ∈ BIG := big_in (tb_1 (List.mem_of_getElem? (i := 110) rfl)) rfl
theorem k_111 : (Jvm.Cond.instantiable "DoorServer$Bytes" (2 : Nat)) ∈ BIG := big_in (tb_1 (List.mem_of_getElem? (i := 111) rfl)) rfl
theorem k_112 : (Jvm.Cond.methodLink "DoorServer$Digests" (13 : Nat) y_By_init) ∈ BIG := big_in (tb_1 (List.mem_of_getElem? (i := 112) rfl)) rfl
theorem k_113 : (Jvm.Cond.laysFinal "DoorServer$Bytes" "DoorServer$Bytes" "row" "[I") ∈ BIG := big_in (tb_1 (List.mem_of_getElem? (i := 113) rfl)) rfl
theorem k_114 : (Jvm.Cond.lays "DoorServer$Bytes" "DoorServer$Bytes" "length" "I") ∈ BIG := big_in (tb_1 (List.mem_of_getElem? (i := 114) rfl)) rfl
theorem k_115 : (Jvm.Cond.superclass "DoorServer$Bytes" "java/lang/Object") ∈ BIG := big_in (tb_1 (List.mem_of_getElem? (i := 115) rfl)) rfl
theorem k_116 : (Jvm.Cond.fieldLink "DoorServer$Digests" (16 : Nat) "DoorServer$Digests" "text" "LDoorServer$Bytes;") ∈ BIG := big_in (tb_1 (List.mem_of_getElem? (i := 116) rfl)) rfl
theorem k_117 : (Jvm.Cond.fieldLink "DoorServer$Digests" (20 : Nat) "DoorServer$Digests" "words" "[I") ∈ BIG := big_in (tb_1 (List.mem_of_getElem? (i := 117) rfl)) rfl
theorem k_118 : (Jvm.Cond.fieldLink "DoorServer$Digests" (24 : Nat) "DoorServer$Digests" "digest" "[I") ∈ BIG := big_in (tb_1 (List.mem_of_getElem? (i := 118) rfl)) rfl
theorem k_119 : (Jvm.Cond.fieldLink "DoorServer$Digests" (66 : Nat) "DoorServer$Digests" "a" "I") ∈ BIG := big_in (tb_1 (List.mem_of_getElem? (i := 119) rfl)) rfl
theorem k_120 : (Jvm.Cond.fieldLink "DoorServer$Digests" (70 : Nat) "DoorServer$Digests" "b" "I") ∈ BIG := big_in (tb_1 (List.mem_of_getElem? (i := 120) rfl)) rfl
theorem k_121 : (Jvm.Cond.fieldLink "DoorServer$Digests" (74 : Nat) "DoorServer$Digests" "c" "I") ∈ BIG := big_in (tb_1 (List.mem_of_getElem? (i := 121) rfl)) rfl
theorem k_122 : (Jvm.Cond.fieldLink "DoorServer$Digests" (78 : Nat) "DoorServer$Digests" "d" "I") ∈ BIG := big_in (tb_1 (List.mem_of_getElem? (i := 122) rfl)) rfl
theorem k_123 : (Jvm.Cond.laysFinal "DoorServer$Digests" "DoorServer$Digests" "text" "LDoorServer$Bytes;") ∈ BIG := big_in (tb_1 (List.mem_of_getElem? (i := 123) rfl)) rfl
theorem k_125 : (Jvm.Cond.laysFinal "DoorServer$Digests" "DoorServer$Digests" "words" "[I") ∈ BIG := big_in (tb_1 (List.mem_of_getElem? (i := 125) rfl)) rfl
theorem k_127 : (Jvm.Cond.laysFinal "DoorServer$Digests" "DoorServer$Digests" "digest" "[I") ∈ BIG := big_in (tb_1 (List.mem_of_getElem? (i := 127) rfl)) rfl
theorem k_129 : (Jvm.Cond.lays "DoorServer$Digests" "DoorServer$Digests" "a" "I") ∈ BIG := big_in (tb_1 (List.mem_of_getElem? (i := 129) rfl)) rfl
theorem k_131 : (Jvm.Cond.lays "DoorServer$Digests" "DoorServer$Digests" "b" "I") ∈ BIG := big_in (tb_1 (List.mem_of_getElem? (i := 131) rfl)) rfl
theorem k_133 : (Jvm.Cond.lays "DoorServer$Digests" "DoorServer$Digests" "c" "I") ∈ BIG := big_in (tb_1 (List.mem_of_getElem? (i := 133) rfl)) rfl
theorem k_135 : (Jvm.Cond.lays "DoorServer$Digests" "DoorServer$Digests" "d" "I") ∈ BIG := big_in (tb_1 (List.mem_of_getElem? (i := 135) rfl)) rfl
theorem k_137 : (Jvm.Cond.superclass "DoorServer$Digests" "java/lang/Object") ∈ BIG := big_in (tb_1 (List.mem_of_getElem? (i := 137) rfl)) rfl
theorem k_138 : (Jvm.Cond.methodLink "DoorServer$Server" (27 : Nat) y_By_init) ∈ BIG := big_in (tb_1 (List.mem_of_getElem? (i := 138) rfl)) rfl
theorem k_139 : (Jvm.Cond.classLink "DoorServer$Server" (34 : Nat) "DoorServer$Packet") ∈ BIG := big_in (tb_1 (List.mem_of_getElem? (i := 139) rfl)) rfl
theorem k_140 : (Jvm.Cond.methodLink "DoorServer$Server" (36 : Nat) y_Pk_init) ∈ BIG := big_in (tb_1 (List.mem_of_getElem? (i := 140) rfl)) rfl
theorem k_141 : (Jvm.Cond.classLink "DoorServer$Server" (41 : Nat) "DoorServer$Answers") ∈ BIG := big_in (tb_1 (List.mem_of_getElem? (i := 141) rfl)) rfl
theorem k_142 : (Jvm.Cond.instantiable "DoorServer$Answers" (3 : Nat)) ∈ BIG := big_in (tb_1 (List.mem_of_getElem? (i := 142) rfl)) rfl
theorem k_143 : (Jvm.Cond.methodLink "DoorServer$Server" (43 : Nat) y_An_init) ∈ BIG := big_in (tb_1 (List.mem_of_getElem? (i := 143) rfl)) rfl
theorem k_144 : (Jvm.Cond.instanceMethod y_An_init) ∈ BIG := big_in (tb_1 (List.mem_of_getElem? (i := 144) rfl)) rfl
theorem k_145 : (Jvm.Cond.code y_An_init prog_2_method_1_code (2 : Nat) (Option.none : Option Jvm.ClassFile.FieldType)) ∈ BIG := big_in (tb_1 (List.mem_of_getElem? (i := 145) rfl)) rfl
theorem k_146 : (Jvm.Cond.methodLink "DoorServer$Answers" (3 : Nat) y_Ob_init) ∈ BIG := big_in (tb_1 (List.mem_of_getElem? (i := 146) rfl)) rfl
theorem k_147 : (Jvm.Cond.classLink "DoorServer$Answers" (11 : Nat) "DoorServer$Kept") ∈ BIG := big_in (tb_1 (List.mem_of_getElem? (i := 147) rfl)) rfl
theorem k_149 : (Jvm.Cond.instantiable "DoorServer$Kept" (6 : Nat)) ∈ BIG := big_in (tb_1 (List.mem_of_getElem? (i := 149) rfl)) rfl
theorem k_151 : (Jvm.Cond.instanceMethod y_Ke_init) ∈ BIG := big_in (tb_1 (List.mem_of_getElem? (i := 151) rfl)) rfl
theorem k_152 : (Jvm.Cond.code y_Ke_init prog_5_method_1_code (1 : Nat) (Option.none : Option Jvm.ClassFile.FieldType)) ∈ BIG := big_in (tb_1 (List.mem_of_getElem? (i := 152) rfl)) rfl
theorem k_153 : (Jvm.Cond.methodLink "DoorServer$Kept" (3 : Nat) y_Ob_init) ∈ BIG := big_in (tb_1 (List.mem_of_getElem? (i := 153) rfl)) rfl
theorem k_154 : (Jvm.Cond.classLink "DoorServer$Kept" (15 : Nat) "DoorServer$Bytes") ∈ BIG := big_in (tb_1 (List.mem_of_getElem? (i := 154) rfl)) rfl
theorem k_155 : (Jvm.Cond.methodLink "DoorServer$Kept" (17 : Nat) y_By_init) ∈ BIG := big_in (tb_1 (List.mem_of_getElem? (i := 155) rfl)) rfl
theorem k_156 : (Jvm.Cond.fieldLink "DoorServer$Answers" (22 : Nat) "DoorServer$Kept" "station" "I") ∈ BIG := big_in (tb_1 (List.mem_of_getElem? (i := 156) rfl)) rfl
theorem k_157 : (Jvm.Cond.fieldLink "DoorServer$Answers" (25 : Nat) "DoorServer$Kept" "identifier" "I") ∈ BIG := big_in (tb_1 (List.mem_of_getElem? (i := 157) rfl)) rfl
theorem k_158 : (Jvm.Cond.fieldLink "DoorServer$Answers" (47 : Nat) "DoorServer$Kept" "givenAt" "I") ∈ BIG := big_in (tb_1 (List.mem_of_getElem? (i := 158) rfl)) rfl
theorem k_159 : (Jvm.Cond.fieldLink "DoorServer$Server" (151 : Nat) "DoorServer$Kept" "givenAt" "I") ∈ BIG := big_in (tb_1 (List.mem_of_getElem? (i := 159) rfl)) rfl
theorem k_160 : (Jvm.Cond.fieldLink "DoorServer$Answers" (44 : Nat) "DoorServer$Kept" "turn" "I") ∈ BIG := big_in (tb_1 (List.mem_of_getElem? (i := 160) rfl)) rfl
theorem k_161 : (Jvm.Cond.fieldLink "DoorServer$Kept" (9 : Nat) "DoorServer$Kept" "asked" "[I") ∈ BIG := big_in (tb_1 (List.mem_of_getElem? (i := 161) rfl)) rfl
theorem k_162 : (Jvm.Cond.fieldLink "DoorServer$Answers" (60 : Nat) "DoorServer$Kept" "asked" "[I") ∈ BIG := big_in (tb_1 (List.mem_of_getElem? (i := 162) rfl)) rfl
theorem k_163 : (Jvm.Cond.fieldLink "DoorServer$Server" (156 : Nat) "DoorServer$Kept" "asked" "[I") ∈ BIG := big_in (tb_1 (List.mem_of_getElem? (i := 163) rfl)) rfl
theorem k_164 : (Jvm.Cond.fieldLink "DoorServer$Kept" (20 : Nat) "DoorServer$Kept" "answer" "LDoorServer$Bytes;") ∈ BIG := big_in (tb_1 (List.mem_of_getElem? (i := 164) rfl)) rfl
theorem k_165 : (Jvm.Cond.fieldLink "DoorServer$Answers" (69 : Nat) "DoorServer$Kept" "answer" "LDoorServer$Bytes;") ∈ BIG := big_in (tb_1 (List.mem_of_getElem? (i := 165) rfl)) rfl
theorem k_166 : (Jvm.Cond.fieldLink "DoorServer$Server" (159 : Nat) "DoorServer$Kept" "answer" "LDoorServer$Bytes;") ∈ BIG := big_in (tb_1 (List.mem_of_getElem? (i := 166) rfl)) rfl
theorem k_167 : (Jvm.Cond.lays "DoorServer$Kept" "DoorServer$Kept" "station" "I") ∈ BIG := big_in (tb_1 (List.mem_of_getElem? (i := 167) rfl)) rfl
theorem k_169 : (Jvm.Cond.lays "DoorServer$Kept" "DoorServer$Kept" "identifier" "I") ∈ BIG := big_in (tb_1 (List.mem_of_getElem? (i := 169) rfl)) rfl
theorem k_171 : (Jvm.Cond.lays "DoorServer$Kept" "DoorServer$Kept" "givenAt" "I") ∈ BIG := big_in (tb_1 (List.mem_of_getElem? (i := 171) rfl)) rfl
theorem k_173 : (Jvm.Cond.lays "DoorServer$Kept" "DoorServer$Kept" "turn" "I") ∈ BIG := big_in (tb_1 (List.mem_of_getElem? (i := 173) rfl)) rfl
theorem k_175 : (Jvm.Cond.laysFinal "DoorServer$Kept" "DoorServer$Kept" "asked" "[I") ∈ BIG := big_in (tb_1 (List.mem_of_getElem? (i := 175) rfl)) rfl
theorem k_177 : (Jvm.Cond.laysFinal "DoorServer$Kept" "DoorServer$Kept" "answer" "LDoorServer$Bytes;") ∈ BIG := big_in (tb_1 (List.mem_of_getElem? (i := 177) rfl)) rfl
theorem k_179 : (Jvm.Cond.superclass "DoorServer$Kept" "java/lang/Object") ∈ BIG := big_in (tb_1 (List.mem_of_getElem? (i := 179) rfl)) rfl
theorem k_180 : (Jvm.Cond.fieldLink "DoorServer$Answers" (13 : Nat) "DoorServer$Answers" "places" "[LDoorServer$Kept;") ∈ BIG := big_in (tb_1 (List.mem_of_getElem? (i := 180) rfl)) rfl
theorem k_181 : (Jvm.Cond.fieldLink "DoorServer$Answers" (41 : Nat) "DoorServer$Answers" "turns" "I") ∈ BIG := big_in (tb_1 (List.mem_of_getElem? (i := 181) rfl)) rfl
theorem k_182 : (Jvm.Cond.fieldLink "DoorServer$Answers" (18 : Nat) "DoorServer$Answers" "kept" "I") ∈ BIG := big_in (tb_1 (List.mem_of_getElem? (i := 182) rfl)) rfl
theorem k_183 : (Jvm.Cond.fieldLink "DoorServer" (157 : Nat) "DoorServer$Answers" "kept" "I") ∈ BIG := big_in (tb_1 (List.mem_of_getElem? (i := 183) rfl)) rfl
theorem k_184 : (Jvm.Cond.laysFinal "DoorServer$Answers" "DoorServer$Answers" "places" "[LDoorServer$Kept;") ∈ BIG := big_in (tb_1 (List.mem_of_getElem? (i := 184) rfl)) rfl
theorem k_186 : (Jvm.Cond.lays "DoorServer$Answers" "DoorServer$Answers" "turns" "I") ∈ BIG := big_in (tb_1 (List.mem_of_getElem? (i := 186) rfl)) rfl
theorem k_188 : (Jvm.Cond.lays "DoorServer$Answers" "DoorServer$Answers" "kept" "I") ∈ BIG := big_in (tb_1 (List.mem_of_getElem? (i := 188) rfl)) rfl
theorem k_190 : (Jvm.Cond.superclass "DoorServer$Answers" "java/lang/Object") ∈ BIG := big_in (tb_1 (List.mem_of_getElem? (i := 190) rfl)) rfl
theorem k_191 : (Jvm.Cond.classLink "DoorServer$Server" (48 : Nat) "DoorServer$Trials") ∈ BIG := big_in (tb_1 (List.mem_of_getElem? (i := 191) rfl)) rfl
theorem k_192 : (Jvm.Cond.instantiable "DoorServer$Trials" (4 : Nat)) ∈ BIG := big_in (tb_1 (List.mem_of_getElem? (i := 192) rfl)) rfl
theorem k_193 : (Jvm.Cond.methodLink "DoorServer$Server" (50 : Nat) y_Ts_init) ∈ BIG := big_in (tb_1 (List.mem_of_getElem? (i := 193) rfl)) rfl
theorem k_194 : (Jvm.Cond.instanceMethod y_Ts_init) ∈ BIG := big_in (tb_1 (List.mem_of_getElem? (i := 194) rfl)) rfl
theorem k_195 : (Jvm.Cond.code y_Ts_init prog_12_method_1_code (2 : Nat) (Option.none : Option Jvm.ClassFile.FieldType)) ∈ BIG := big_in (tb_1 (List.mem_of_getElem? (i := 195) rfl)) rfl
theorem k_196 : (Jvm.Cond.methodLink "DoorServer$Trials" (3 : Nat) y_Ob_init) ∈ BIG := big_in (tb_1 (List.mem_of_getElem? (i := 196) rfl)) rfl
theorem k_197 : (Jvm.Cond.classLink "DoorServer$Trials" (11 : Nat) "DoorServer$Trial") ∈ BIG := big_in (tb_1 (List.mem_of_getElem? (i := 197) rfl)) rfl
theorem k_199 : (Jvm.Cond.instantiable "DoorServer$Trial" (7 : Nat)) ∈ BIG := big_in (tb_1 (List.mem_of_getElem? (i := 199) rfl)) rfl
theorem k_201 : (Jvm.Cond.instanceMethod y_Tl_init) ∈ BIG := big_in (tb_1 (List.mem_of_getElem? (i := 201) rfl)) rfl
theorem k_202 : (Jvm.Cond.code y_Tl_init prog_11_method_1_code (1 : Nat) (Option.none : Option Jvm.ClassFile.FieldType)) ∈ BIG := big_in (tb_1 (List.mem_of_getElem? (i := 202) rfl)) rfl
theorem k_203 : (Jvm.Cond.methodLink "DoorServer$Trial" (3 : Nat) y_Ob_init) ∈ BIG := big_in (tb_1 (List.mem_of_getElem? (i := 203) rfl)) rfl
theorem k_204 : (Jvm.Cond.fieldLink "DoorServer$Trials" (29 : Nat) "DoorServer$Trial" "open" "Z") ∈ BIG := big_in (tb_1 (List.mem_of_getElem? (i := 204) rfl)) rfl
theorem k_205 : (Jvm.Cond.fieldLink "DoorServer$Trials" (33 : Nat) "DoorServer$Trial" "mark" "J") ∈ BIG := big_in (tb_1 (List.mem_of_getElem? (i := 205) rfl)) rfl
theorem k_206 : (Jvm.Cond.fieldLink "DoorServer$Server" (261 : Nat) "DoorServer$Trial" "mark" "J") ∈ BIG := big_in (tb_1 (List.mem_of_getElem? (i := 206) rfl)) rfl
theorem k_207 : (Jvm.Cond.fieldLink "DoorServer$Trials" (36 : Nat) "DoorServer$Trial" "station" "I") ∈ BIG := big_in (tb_1 (List.mem_of_getElem? (i := 207) rfl)) rfl
theorem k_208 : (Jvm.Cond.fieldLink "DoorServer$Trials" (40 : Nat) "DoorServer$Trial" "user" "I") ∈ BIG := big_in (tb_1 (List.mem_of_getElem? (i := 208) rfl)) rfl
theorem k_209 : (Jvm.Cond.fieldLink "DoorServer$Trials" (43 : Nat) "DoorServer$Trial" "number" "I") ∈ BIG := big_in (tb_1 (List.mem_of_getElem? (i := 209) rfl)) rfl
theorem k_210 : (Jvm.Cond.fieldLink "DoorServer$Server" (231 : Nat) "DoorServer$Trial" "number" "I") ∈ BIG := big_in (tb_1 (List.mem_of_getElem? (i := 210) rfl)) rfl
theorem k_211 : (Jvm.Cond.fieldLink "DoorServer$Trials" (46 : Nat) "DoorServer$Trial" "givenAt" "I") ∈ BIG := big_in (tb_1 (List.mem_of_getElem? (i := 211) rfl)) rfl
theorem k_212 : (Jvm.Cond.fieldLink "DoorServer$Server" (236 : Nat) "DoorServer$Trial" "givenAt" "I") ∈ BIG := big_in (tb_1 (List.mem_of_getElem? (i := 212) rfl)) rfl
theorem k_213 : (Jvm.Cond.fieldLink "DoorServer$Trial" (9 : Nat) "DoorServer$Trial" "drawn" "[I") ∈ BIG := big_in (tb_1 (List.mem_of_getElem? (i := 213) rfl)) rfl
theorem k_214 : (Jvm.Cond.fieldLink "DoorServer$Trials" (53 : Nat) "DoorServer$Trial" "drawn" "[I") ∈ BIG := big_in (tb_1 (List.mem_of_getElem? (i := 214) rfl)) rfl
theorem k_215 : (Jvm.Cond.fieldLink "DoorServer$Server" (241 : Nat) "DoorServer$Trial" "drawn" "[I") ∈ BIG := big_in (tb_1 (List.mem_of_getElem? (i := 215) rfl)) rfl
theorem k_216 : (Jvm.Cond.lays "DoorServer$Trial" "DoorServer$Trial" "open" "Z") ∈ BIG := big_in (tb_1 (List.mem_of_getElem? (i := 216) rfl)) rfl
theorem k_218 : (Jvm.Cond.lays "DoorServer$Trial" "DoorServer$Trial" "mark" "J") ∈ BIG := big_in (tb_1 (List.mem_of_getElem? (i := 218) rfl)) rfl
theorem k_220 : (Jvm.Cond.lays "DoorServer$Trial" "DoorServer$Trial" "station" "I") ∈ BIG := big_in (tb_1 (List.mem_of_getElem? (i := 220) rfl)) rfl
theorem k_222 : (Jvm.Cond.lays "DoorServer$Trial" "DoorServer$Trial" "user" "I") ∈ BIG := big_in (tb_1 (List.mem_of_getElem? (i := 222) rfl)) rfl
theorem k_224 : (Jvm.Cond.lays "DoorServer$Trial" "DoorServer$Trial" "number" "I") ∈ BIG := big_in (tb_1 (List.mem_of_getElem? (i := 224) rfl)) rfl
theorem k_226 : (Jvm.Cond.lays "DoorServer$Trial" "DoorServer$Trial" "givenAt" "I") ∈ BIG := big_in (tb_1 (List.mem_of_getElem? (i := 226) rfl)) rfl
theorem k_228 : (Jvm.Cond.laysFinal "DoorServer$Trial" "DoorServer$Trial" "drawn" "[I") ∈ BIG := big_in (tb_1 (List.mem_of_getElem? (i := 228) rfl)) rfl
theorem k_230 : (Jvm.Cond.superclass "DoorServer$Trial" "java/lang/Object") ∈ BIG := big_in (tb_1 (List.mem_of_getElem? (i := 230) rfl)) rfl
theorem k_231 : (Jvm.Cond.fieldLink "DoorServer$Trials" (13 : Nat) "DoorServer$Trials" "places" "[LDoorServer$Trial;") ∈ BIG := big_in (tb_1 (List.mem_of_getElem? (i := 231) rfl)) rfl
theorem k_232 : (Jvm.Cond.fieldLink "DoorServer$Trials" (26 : Nat) "DoorServer$Trials" "marks" "J") ∈ BIG := big_in (tb_1 (List.mem_of_getElem? (i := 232) rfl)) rfl
theorem k_233 : (Jvm.Cond.fieldLink "DoorServer$Trials" (17 : Nat) "DoorServer$Trials" "drawing" "J") ∈ BIG := big_in (tb_1 (List.mem_of_getElem? (i := 233) rfl)) rfl
theorem k_234 : (Jvm.Cond.fieldLink "DoorServer$Trials" (57 : Nat) "DoorServer$Trials" "kept" "I") ∈ BIG := big_in (tb_1 (List.mem_of_getElem? (i := 234) rfl)) rfl
theorem k_235 : (Jvm.Cond.fieldLink "DoorServer" (166 : Nat) "DoorServer$Trials" "kept" "I") ∈ BIG := big_in (tb_1 (List.mem_of_getElem? (i := 235) rfl)) rfl
theorem k_236 : (Jvm.Cond.laysFinal "DoorServer$Trials" "DoorServer$Trials" "places" "[LDoorServer$Trial;") ∈ BIG := big_in (tb_1 (List.mem_of_getElem? (i := 236) rfl)) rfl
theorem k_238 : (Jvm.Cond.lays "DoorServer$Trials" "DoorServer$Trials" "marks" "J") ∈ BIG := big_in (tb_1 (List.mem_of_getElem? (i := 238) rfl)) rfl
theorem k_240 : (Jvm.Cond.lays "DoorServer$Trials" "DoorServer$Trials" "drawing" "J") ∈ BIG := big_in (tb_2 (List.mem_of_getElem? (i := 0) rfl)) rfl
theorem k_242 : (Jvm.Cond.lays "DoorServer$Trials" "DoorServer$Trials" "kept" "I") ∈ BIG := big_in (tb_2 (List.mem_of_getElem? (i := 2) rfl)) rfl
theorem k_244 : (Jvm.Cond.superclass "DoorServer$Trials" "java/lang/Object") ∈ BIG := big_in (tb_2 (List.mem_of_getElem? (i := 4) rfl)) rfl
theorem k_245 : (Jvm.Cond.classLink "DoorServer$Server" (55 : Nat) "DoorServer$Sessions") ∈ BIG := big_in (tb_2 (List.mem_of_getElem? (i := 5) rfl)) rfl
theorem k_246 : (Jvm.Cond.instantiable "DoorServer$Sessions" (2 : Nat)) ∈ BIG := big_in (tb_2 (List.mem_of_getElem? (i := 6) rfl)) rfl
theorem k_247 : (Jvm.Cond.methodLink "DoorServer$Server" (57 : Nat) y_Ss_init) ∈ BIG := big_in (tb_2 (List.mem_of_getElem? (i := 7) rfl)) rfl
theorem k_248 : (Jvm.Cond.instanceMethod y_Ss_init) ∈ BIG := big_in (tb_2 (List.mem_of_getElem? (i := 8) rfl)) rfl
theorem k_249 : (Jvm.Cond.code y_Ss_init prog_10_method_1_code (2 : Nat) (Option.none : Option Jvm.ClassFile.FieldType)) ∈ BIG := big_in (tb_2 (List.mem_of_getElem? (i := 9) rfl)) rfl
theorem k_250 : (Jvm.Cond.methodLink "DoorServer$Sessions" (3 : Nat) y_Ob_init) ∈ BIG := big_in (tb_2 (List.mem_of_getElem? (i := 10) rfl)) rfl
theorem k_251 : (Jvm.Cond.classLink "DoorServer$Sessions" (11 : Nat) "DoorServer$Session") ∈ BIG := big_in (tb_2 (List.mem_of_getElem? (i := 11) rfl)) rfl
theorem k_253 : (Jvm.Cond.instantiable "DoorServer$Session" (8 : Nat)) ∈ BIG := big_in (tb_2 (List.mem_of_getElem? (i := 13) rfl)) rfl
theorem k_255 : (Jvm.Cond.instanceMethod y_Se_init) ∈ BIG := big_in (tb_2 (List.mem_of_getElem? (i := 15) rfl)) rfl
theorem k_256 : (Jvm.Cond.code y_Se_init prog_9_method_1_code (1 : Nat) (Option.none : Option Jvm.ClassFile.FieldType)) ∈ BIG := big_in (tb_2 (List.mem_of_getElem? (i := 16) rfl)) rfl
theorem k_257 : (Jvm.Cond.methodLink "DoorServer$Session" (3 : Nat) y_Ob_init) ∈ BIG := big_in (tb_2 (List.mem_of_getElem? (i := 17) rfl)) rfl
theorem k_258 : (Jvm.Cond.classLink "DoorServer$Session" (9 : Nat) "DoorServer$Bytes") ∈ BIG := big_in (tb_2 (List.mem_of_getElem? (i := 18) rfl)) rfl
theorem k_259 : (Jvm.Cond.methodLink "DoorServer$Session" (11 : Nat) y_By_init) ∈ BIG := big_in (tb_2 (List.mem_of_getElem? (i := 19) rfl)) rfl
theorem k_260 : (Jvm.Cond.fieldLink "DoorServer$Session" (20 : Nat) "DoorServer$Session" "station" "I") ∈ BIG := big_in (tb_2 (List.mem_of_getElem? (i := 20) rfl)) rfl
theorem k_261 : (Jvm.Cond.fieldLink "DoorServer" (189 : Nat) "DoorServer$Session" "station" "I") ∈ BIG := big_in (tb_2 (List.mem_of_getElem? (i := 21) rfl)) rfl
theorem k_262 : (Jvm.Cond.fieldLink "DoorServer$Session" (14 : Nat) "DoorServer$Session" "label" "LDoorServer$Bytes;") ∈ BIG := big_in (tb_2 (List.mem_of_getElem? (i := 22) rfl)) rfl
theorem k_263 : (Jvm.Cond.fieldLink "DoorServer" (211 : Nat) "DoorServer$Session" "label" "LDoorServer$Bytes;") ∈ BIG := big_in (tb_2 (List.mem_of_getElem? (i := 23) rfl)) rfl
theorem k_264 : (Jvm.Cond.fieldLink "DoorServer$Session" (55 : Nat) "DoorServer$Session" "lastOfName" "I") ∈ BIG := big_in (tb_2 (List.mem_of_getElem? (i := 24) rfl)) rfl
theorem k_265 : (Jvm.Cond.fieldLink "DoorServer" (216 : Nat) "DoorServer$Session" "lastOfName" "I") ∈ BIG := big_in (tb_2 (List.mem_of_getElem? (i := 25) rfl)) rfl
theorem k_266 : (Jvm.Cond.fieldLink "DoorServer$Sessions" (43 : Nat) "DoorServer$Session" "closed" "Z") ∈ BIG := big_in (tb_2 (List.mem_of_getElem? (i := 26) rfl)) rfl
theorem k_267 : (Jvm.Cond.fieldLink "DoorServer$Session" (81 : Nat) "DoorServer$Session" "closed" "Z") ∈ BIG := big_in (tb_2 (List.mem_of_getElem? (i := 27) rfl)) rfl
theorem k_268 : (Jvm.Cond.fieldLink "DoorServer" (194 : Nat) "DoorServer$Session" "closed" "Z") ∈ BIG := big_in (tb_2 (List.mem_of_getElem? (i := 28) rfl)) rfl
theorem k_269 : (Jvm.Cond.fieldLink "DoorServer$Session" (58 : Nat) "DoorServer$Session" "cameAt" "I") ∈ BIG := big_in (tb_2 (List.mem_of_getElem? (i := 29) rfl)) rfl
theorem k_270 : (Jvm.Cond.fieldLink "DoorServer" (198 : Nat) "DoorServer$Session" "cameAt" "I") ∈ BIG := big_in (tb_2 (List.mem_of_getElem? (i := 30) rfl)) rfl
theorem k_271 : (Jvm.Cond.fieldLink "DoorServer$Session" (61 : Nat) "DoorServer$Session" "changedAt" "I") ∈ BIG := big_in (tb_2 (List.mem_of_getElem? (i := 31) rfl)) rfl
theorem k_272 : (Jvm.Cond.fieldLink "DoorServer" (201 : Nat) "DoorServer$Session" "changedAt" "I") ∈ BIG := big_in (tb_2 (List.mem_of_getElem? (i := 32) rfl)) rfl
theorem k_273 : (Jvm.Cond.fieldLink "DoorServer$Session" (64 : Nat) "DoorServer$Session" "in" "J") ∈ BIG := big_in (tb_2 (List.mem_of_getElem? (i := 33) rfl)) rfl
theorem k_274 : (Jvm.Cond.fieldLink "DoorServer" (204 : Nat) "DoorServer$Session" "in" "J") ∈ BIG := big_in (tb_2 (List.mem_of_getElem? (i := 34) rfl)) rfl
theorem k_275 : (Jvm.Cond.fieldLink "DoorServer$Session" (78 : Nat) "DoorServer$Session" "out" "J") ∈ BIG := big_in (tb_2 (List.mem_of_getElem? (i := 35) rfl)) rfl
theorem k_276 : (Jvm.Cond.fieldLink "DoorServer" (208 : Nat) "DoorServer$Session" "out" "J") ∈ BIG := big_in (tb_2 (List.mem_of_getElem? (i := 36) rfl)) rfl
theorem k_277 : (Jvm.Cond.lays "DoorServer$Session" "DoorServer$Session" "station" "I") ∈ BIG := big_in (tb_2 (List.mem_of_getElem? (i := 37) rfl)) rfl
theorem k_279 : (Jvm.Cond.laysFinal "DoorServer$Session" "DoorServer$Session" "label" "LDoorServer$Bytes;") ∈ BIG := big_in (tb_2 (List.mem_of_getElem? (i := 39) rfl)) rfl
theorem k_281 : (Jvm.Cond.lays "DoorServer$Session" "DoorServer$Session" "lastOfName" "I") ∈ BIG := big_in (tb_2 (List.mem_of_getElem? (i := 41) rfl)) rfl
theorem k_283 : (Jvm.Cond.lays "DoorServer$Session" "DoorServer$Session" "closed" "Z") ∈ BIG := big_in (tb_2 (List.mem_of_getElem? (i := 43) rfl)) rfl
theorem k_285 : (Jvm.Cond.lays "DoorServer$Session" "DoorServer$Session" "cameAt" "I") ∈ BIG := big_in (tb_2 (List.mem_of_getElem? (i := 45) rfl)) rfl
theorem k_287 : (Jvm.Cond.lays "DoorServer$Session" "DoorServer$Session" "changedAt" "I") ∈ BIG := big_in (tb_2 (List.mem_of_getElem? (i := 47) rfl)) rfl
theorem k_289 : (Jvm.Cond.lays "DoorServer$Session" "DoorServer$Session" "in" "J") ∈ BIG := big_in (tb_2 (List.mem_of_getElem? (i := 49) rfl)) rfl
theorem k_291 : (Jvm.Cond.lays "DoorServer$Session" "DoorServer$Session" "out" "J") ∈ BIG := big_in (tb_2 (List.mem_of_getElem? (i := 51) rfl)) rfl
theorem k_293 : (Jvm.Cond.superclass "DoorServer$Session" "java/lang/Object") ∈ BIG := big_in (tb_2 (List.mem_of_getElem? (i := 53) rfl)) rfl
theorem k_294 : (Jvm.Cond.fieldLink "DoorServer$Sessions" (13 : Nat) "DoorServer$Sessions" "sorted" "[LDoorServer$Session;") ∈ BIG := big_in (tb_2 (List.mem_of_getElem? (i := 54) rfl)) rfl
theorem k_295 : (Jvm.Cond.fieldLink "DoorServer" (185 : Nat) "DoorServer$Sessions" "sorted" "[LDoorServer$Session;") ∈ BIG := big_in (tb_2 (List.mem_of_getElem? (i := 55) rfl)) rfl
theorem k_296 : (Jvm.Cond.fieldLink "DoorServer$Sessions" (22 : Nat) "DoorServer$Sessions" "kept" "I") ∈ BIG := big_in (tb_2 (List.mem_of_getElem? (i := 56) rfl)) rfl
theorem k_297 : (Jvm.Cond.fieldLink "DoorServer" (173 : Nat) "DoorServer$Sessions" "kept" "I") ∈ BIG := big_in (tb_2 (List.mem_of_getElem? (i := 57) rfl)) rfl
theorem k_298 : (Jvm.Cond.laysFinal "DoorServer$Sessions" "DoorServer$Sessions" "sorted" "[LDoorServer$Session;") ∈ BIG := big_in (tb_2 (List.mem_of_getElem? (i := 58) rfl)) rfl
theorem k_300 : (Jvm.Cond.lays "DoorServer$Sessions" "DoorServer$Sessions" "kept" "I") ∈ BIG := big_in (tb_2 (List.mem_of_getElem? (i := 60) rfl)) rfl
theorem k_302 : (Jvm.Cond.superclass "DoorServer$Sessions" "java/lang/Object") ∈ BIG := big_in (tb_2 (List.mem_of_getElem? (i := 62) rfl)) rfl
theorem k_303 : (Jvm.Cond.classLink "DoorServer$Server" (62 : Nat) "DoorServer$Request") ∈ BIG := big_in (tb_2 (List.mem_of_getElem? (i := 63) rfl)) rfl
theorem k_304 : (Jvm.Cond.instantiable "DoorServer$Request" (2 : Nat)) ∈ BIG := big_in (tb_2 (List.mem_of_getElem? (i := 64) rfl)) rfl
theorem k_305 : (Jvm.Cond.methodLink "DoorServer$Server" (64 : Nat) y_Rq_init) ∈ BIG := big_in (tb_2 (List.mem_of_getElem? (i := 65) rfl)) rfl
theorem k_306 : (Jvm.Cond.instanceMethod y_Rq_init) ∈ BIG := big_in (tb_2 (List.mem_of_getElem? (i := 66) rfl)) rfl
theorem k_307 : (Jvm.Cond.code y_Rq_init prog_7_method_1_code (2 : Nat) (Option.none : Option Jvm.ClassFile.FieldType)) ∈ BIG := big_in (tb_2 (List.mem_of_getElem? (i := 67) rfl)) rfl
theorem k_308 : (Jvm.Cond.methodLink "DoorServer$Request" (3 : Nat) y_Ob_init) ∈ BIG := big_in (tb_2 (List.mem_of_getElem? (i := 68) rfl)) rfl
theorem k_309 : (Jvm.Cond.fieldLink "DoorServer$Request" (15 : Nat) "DoorServer$Request" "packet" "LDoorServer$Packet;") ∈ BIG := big_in (tb_2 (List.mem_of_getElem? (i := 69) rfl)) rfl
theorem k_310 : (Jvm.Cond.fieldLink "DoorServer$Session" (41 : Nat) "DoorServer$Request" "packet" "LDoorServer$Packet;") ∈ BIG := big_in (tb_2 (List.mem_of_getElem? (i := 70) rfl)) rfl
theorem k_311 : (Jvm.Cond.fieldLink "DoorServer$Answers" (50 : Nat) "DoorServer$Request" "packet" "LDoorServer$Packet;") ∈ BIG := big_in (tb_2 (List.mem_of_getElem? (i := 71) rfl)) rfl
theorem k_312 : (Jvm.Cond.fieldLink "DoorServer$Server" (129 : Nat) "DoorServer$Request" "packet" "LDoorServer$Packet;") ∈ BIG := big_in (tb_2 (List.mem_of_getElem? (i := 72) rfl)) rfl
theorem k_313 : (Jvm.Cond.fieldLink "DoorServer$Request" (9 : Nat) "DoorServer$Request" "starts" "[I") ∈ BIG := big_in (tb_2 (List.mem_of_getElem? (i := 73) rfl)) rfl
theorem k_314 : (Jvm.Cond.laysFinal "DoorServer$Request" "DoorServer$Request" "packet" "LDoorServer$Packet;") ∈ BIG := big_in (tb_2 (List.mem_of_getElem? (i := 74) rfl)) rfl
theorem k_316 : (Jvm.Cond.laysFinal "DoorServer$Request" "DoorServer$Request" "starts" "[I") ∈ BIG := big_in (tb_2 (List.mem_of_getElem? (i := 76) rfl)) rfl
theorem k_318 : (Jvm.Cond.superclass "DoorServer$Request" "java/lang/Object") ∈ BIG := big_in (tb_2 (List.mem_of_getElem? (i := 78) rfl)) rfl
theorem k_319 : (Jvm.Cond.methodLink "DoorServer$Server" (71 : Nat) y_By_append) ∈ BIG := big_in (tb_2 (List.mem_of_getElem? (i := 79) rfl)) rfl
theorem k_320 : (Jvm.Cond.fieldLink "DoorServer$Server" (11 : Nat) "DoorServer$Server" "secrets" "[LDoorServer$Bytes;") ∈ BIG := big_in (tb_2 (List.mem_of_getElem? (i := 80) rfl)) rfl
theorem k_321 : (Jvm.Cond.fieldLink "DoorServer" (42 : Nat) "DoorServer$Server" "secrets" "[LDoorServer$Bytes;") ∈ BIG := big_in (tb_2 (List.mem_of_getElem? (i := 81) rfl)) rfl
theorem k_322 : (Jvm.Cond.fieldLink "DoorServer$Server" (17 : Nat) "DoorServer$Server" "passwords" "[LDoorServer$Bytes;") ∈ BIG := big_in (tb_2 (List.mem_of_getElem? (i := 82) rfl)) rfl
theorem k_323 : (Jvm.Cond.fieldLink "DoorServer" (59 : Nat) "DoorServer$Server" "passwords" "[LDoorServer$Bytes;") ∈ BIG := big_in (tb_2 (List.mem_of_getElem? (i := 83) rfl)) rfl
theorem k_324 : (Jvm.Cond.fieldLink "DoorServer$Server" (23 : Nat) "DoorServer$Server" "digests" "LDoorServer$Digests;") ∈ BIG := big_in (tb_2 (List.mem_of_getElem? (i := 84) rfl)) rfl
theorem k_325 : (Jvm.Cond.fieldLink "DoorServer" (91 : Nat) "DoorServer$Server" "digests" "LDoorServer$Digests;") ∈ BIG := big_in (tb_2 (List.mem_of_getElem? (i := 85) rfl)) rfl
theorem k_326 : (Jvm.Cond.fieldLink "DoorServer$Server" (30 : Nat) "DoorServer$Server" "typed" "LDoorServer$Bytes;") ∈ BIG := big_in (tb_2 (List.mem_of_getElem? (i := 86) rfl)) rfl
theorem k_327 : (Jvm.Cond.fieldLink "DoorServer" (111 : Nat) "DoorServer$Server" "typed" "LDoorServer$Bytes;") ∈ BIG := big_in (tb_2 (List.mem_of_getElem? (i := 87) rfl)) rfl
theorem k_328 : (Jvm.Cond.fieldLink "DoorServer$Server" (37 : Nat) "DoorServer$Server" "answer" "LDoorServer$Packet;") ∈ BIG := big_in (tb_2 (List.mem_of_getElem? (i := 88) rfl)) rfl
theorem k_329 : (Jvm.Cond.fieldLink "DoorServer" (104 : Nat) "DoorServer$Server" "answer" "LDoorServer$Packet;") ∈ BIG := big_in (tb_2 (List.mem_of_getElem? (i := 89) rfl)) rfl
theorem k_330 : (Jvm.Cond.fieldLink "DoorServer$Server" (44 : Nat) "DoorServer$Server" "answers" "LDoorServer$Answers;") ∈ BIG := big_in (tb_2 (List.mem_of_getElem? (i := 90) rfl)) rfl
theorem k_331 : (Jvm.Cond.fieldLink "DoorServer" (153 : Nat) "DoorServer$Server" "answers" "LDoorServer$Answers;") ∈ BIG := big_in (tb_2 (List.mem_of_getElem? (i := 91) rfl)) rfl
theorem k_332 : (Jvm.Cond.fieldLink "DoorServer$Server" (51 : Nat) "DoorServer$Server" "trials" "LDoorServer$Trials;") ∈ BIG := big_in (tb_2 (List.mem_of_getElem? (i := 92) rfl)) rfl
theorem k_333 : (Jvm.Cond.fieldLink "DoorServer" (162 : Nat) "DoorServer$Server" "trials" "LDoorServer$Trials;") ∈ BIG := big_in (tb_2 (List.mem_of_getElem? (i := 93) rfl)) rfl
theorem k_334 : (Jvm.Cond.fieldLink "DoorServer$Server" (58 : Nat) "DoorServer$Server" "sessions" "LDoorServer$Sessions;") ∈ BIG := big_in (tb_2 (List.mem_of_getElem? (i := 94) rfl)) rfl
theorem k_335 : (Jvm.Cond.fieldLink "DoorServer" (169 : Nat) "DoorServer$Server" "sessions" "LDoorServer$Sessions;") ∈ BIG := big_in (tb_2 (List.mem_of_getElem? (i := 95) rfl)) rfl
theorem k_336 : (Jvm.Cond.fieldLink "DoorServer$Server" (67 : Nat) "DoorServer$Server" "request" "LDoorServer$Request;") ∈ BIG := big_in (tb_2 (List.mem_of_getElem? (i := 96) rfl)) rfl
theorem k_337 : (Jvm.Cond.fieldLink "DoorServer$Server" (103 : Nat) "DoorServer$Server" "time" "I") ∈ BIG := big_in (tb_2 (List.mem_of_getElem? (i := 97) rfl)) rfl
theorem k_338 : (Jvm.Cond.fieldLink "DoorServer" (149 : Nat) "DoorServer$Server" "time" "I") ∈ BIG := big_in (tb_2 (List.mem_of_getElem? (i := 98) rfl)) rfl
theorem k_339 : (Jvm.Cond.fieldLink "DoorServer$Server" (290 : Nat) "DoorServer$Server" "anew" "I") ∈ BIG := big_in (tb_2 (List.mem_of_getElem? (i := 99) rfl)) rfl
theorem k_340 : (Jvm.Cond.fieldLink "DoorServer" (176 : Nat) "DoorServer$Server" "anew" "I") ∈ BIG := big_in (tb_2 (List.mem_of_getElem? (i := 100) rfl)) rfl
theorem k_341 : (Jvm.Cond.fieldLink "DoorServer$Server" (166 : Nat) "DoorServer$Server" "alike" "I") ∈ BIG := big_in (tb_2 (List.mem_of_getElem? (i := 101) rfl)) rfl
theorem k_342 : (Jvm.Cond.fieldLink "DoorServer" (179 : Nat) "DoorServer$Server" "alike" "I") ∈ BIG := big_in (tb_2 (List.mem_of_getElem? (i := 102) rfl)) rfl
theorem k_343 : (Jvm.Cond.laysFinal "DoorServer$Server" "DoorServer$Server" "secrets" "[LDoorServer$Bytes;") ∈ BIG := big_in (tb_2 (List.mem_of_getElem? (i := 103) rfl)) rfl
theorem k_345 : (Jvm.Cond.laysFinal "DoorServer$Server" "DoorServer$Server" "passwords" "[LDoorServer$Bytes;") ∈ BIG := big_in (tb_2 (List.mem_of_getElem? (i := 105) rfl)) rfl
theorem k_347 : (Jvm.Cond.laysFinal "DoorServer$Server" "DoorServer$Server" "digests" "LDoorServer$Digests;") ∈ BIG := big_in (tb_2 (List.mem_of_getElem? (i := 107) rfl)) rfl
theorem k_349 : (Jvm.Cond.laysFinal "DoorServer$Server" "DoorServer$Server" "typed" "LDoorServer$Bytes;") ∈ BIG := big_in (tb_2 (List.mem_of_getElem? (i := 109) rfl)) rfl
theorem k_351 : (Jvm.Cond.laysFinal "DoorServer$Server" "DoorServer$Server" "answer" "LDoorServer$Packet;") ∈ BIG := big_in (tb_2 (List.mem_of_getElem? (i := 111) rfl)) rfl
theorem k_353 : (Jvm.Cond.laysFinal "DoorServer$Server" "DoorServer$Server" "answers" "LDoorServer$Answers;") ∈ BIG := big_in (tb_2 (List.mem_of_getElem? (i := 113) rfl)) rfl
theorem k_355 : (Jvm.Cond.laysFinal "DoorServer$Server" "DoorServer$Server" "trials" "LDoorServer$Trials;") ∈ BIG := big_in (tb_2 (List.mem_of_getElem? (i := 115) rfl)) rfl
theorem k_357 : (Jvm.Cond.laysFinal "DoorServer$Server" "DoorServer$Server" "sessions" "LDoorServer$Sessions;") ∈ BIG := big_in (tb_2 (List.mem_of_getElem? (i := 117) rfl)) rfl
theorem k_359 : (Jvm.Cond.laysFinal "DoorServer$Server" "DoorServer$Server" "request" "LDoorServer$Request;") ∈ BIG := big_in (tb_2 (List.mem_of_getElem? (i := 119) rfl)) rfl
theorem k_361 : (Jvm.Cond.lays "DoorServer$Server" "DoorServer$Server" "time" "I") ∈ BIG := big_in (tb_2 (List.mem_of_getElem? (i := 121) rfl)) rfl
theorem k_363 : (Jvm.Cond.lays "DoorServer$Server" "DoorServer$Server" "anew" "I") ∈ BIG := big_in (tb_2 (List.mem_of_getElem? (i := 123) rfl)) rfl
theorem k_365 : (Jvm.Cond.lays "DoorServer$Server" "DoorServer$Server" "alike" "I") ∈ BIG := big_in (tb_2 (List.mem_of_getElem? (i := 125) rfl)) rfl
theorem k_367 : (Jvm.Cond.superclass "DoorServer$Server" "java/lang/Object") ∈ BIG := big_in (tb_2 (List.mem_of_getElem? (i := 127) rfl)) rfl
theorem k_368 : (Jvm.Cond.fieldLink "DoorServer" (14 : Nat) "DoorServer" "draft" "LDoorServer$Packet;") ∈ BIG := big_in (tb_2 (List.mem_of_getElem? (i := 128) rfl)) rfl
theorem k_369 : (Jvm.Cond.fieldLink "DoorServer" (31 : Nat) "DoorServer" "server" "LDoorServer$Server;") ∈ BIG := big_in (tb_2 (List.mem_of_getElem? (i := 129) rfl)) rfl
theorem k_370 : (Jvm.Cond.laysFinal "DoorServer" "DoorServer" "draft" "LDoorServer$Packet;") ∈ BIG := big_in (tb_2 (List.mem_of_getElem? (i := 130) rfl)) rfl
theorem k_372 : (Jvm.Cond.laysFinal "DoorServer" "DoorServer" "server" "LDoorServer$Server;") ∈ BIG := big_in (tb_2 (List.mem_of_getElem? (i := 132) rfl)) rfl
theorem k_374 : (Jvm.Cond.superclass "DoorServer" "java/lang/Object") ∈ BIG := big_in (tb_2 (List.mem_of_getElem? (i := 134) rfl)) rfl
theorem k_375 : (Jvm.Cond.methodLink "DoorServerLaw" (133 : Nat) y_DS_size) ∈ BIG := big_in (tb_2 (List.mem_of_getElem? (i := 135) rfl)) rfl
theorem k_376 : (Jvm.Cond.instanceMethod y_DS_size) ∈ BIG := big_in (tb_2 (List.mem_of_getElem? (i := 136) rfl)) rfl
theorem k_377 : (Jvm.Cond.selects "DoorServer" y_DS_size y_DS_size) ∈ BIG := big_in (tb_2 (List.mem_of_getElem? (i := 137) rfl)) rfl
theorem k_378 : (Jvm.Cond.code y_DS_size prog_1_method_15_code (1 : Nat) (Option.some Jvm.ClassFile.FieldType.int)) ∈ BIG := big_in (tb_2 (List.mem_of_getElem? (i := 138) rfl)) rfl
theorem k_379 : (Jvm.Cond.methodLink "DoorServerLaw" (80 : Nat) y_Lw_secret) ∈ BIG := big_in (tb_2 (List.mem_of_getElem? (i := 139) rfl)) rfl
theorem k_380 : (Jvm.Cond.static y_Lw_secret) ∈ BIG := big_in (tb_2 (List.mem_of_getElem? (i := 140) rfl)) rfl
theorem k_382 : (Jvm.Cond.classLink "DoorServerLaw" (13 : Nat) "java/lang/IllegalArgumentException") ∈ BIG := big_in (tb_2 (List.mem_of_getElem? (i := 142) rfl)) rfl
theorem k_383 : (Jvm.Cond.methodLink "DoorServerLaw" (7 : Nat) y_DS_secret) ∈ BIG := big_in (tb_2 (List.mem_of_getElem? (i := 143) rfl)) rfl
theorem k_384 : (Jvm.Cond.instanceMethod y_DS_secret) ∈ BIG := big_in (tb_2 (List.mem_of_getElem? (i := 144) rfl)) rfl
theorem k_385 : (Jvm.Cond.selects "DoorServer" y_DS_secret y_DS_secret) ∈ BIG := big_in (tb_2 (List.mem_of_getElem? (i := 145) rfl)) rfl
theorem k_386 : (Jvm.Cond.code y_DS_secret prog_1_method_2_code (5 : Nat) (Option.none : Option Jvm.ClassFile.FieldType)) ∈ BIG := big_in (tb_2 (List.mem_of_getElem? (i := 146) rfl)) rfl
theorem k_387 : (Jvm.Cond.methodLink "DoorServer" (35 : Nat) y_DS_requireStation) ∈ BIG := big_in (tb_2 (List.mem_of_getElem? (i := 147) rfl)) rfl
theorem k_388 : (Jvm.Cond.static y_DS_requireStation) ∈ BIG := big_in (tb_2 (List.mem_of_getElem? (i := 148) rfl)) rfl
theorem k_389 : (Jvm.Cond.code y_DS_requireStation prog_1_method_22_code (1 : Nat) (Option.none : Option Jvm.ClassFile.FieldType)) ∈ BIG := big_in (tb_2 (List.mem_of_getElem? (i := 149) rfl)) rfl
theorem k_390 : (Jvm.Cond.methodLink "DoorServer" (38 : Nat) y_DS_requireWithin) ∈ BIG := big_in (tb_2 (List.mem_of_getElem? (i := 150) rfl)) rfl
theorem k_391 : (Jvm.Cond.static y_DS_requireWithin) ∈ BIG := big_in (tb_2 (List.mem_of_getElem? (i := 151) rfl)) rfl
theorem k_392 : (Jvm.Cond.code y_DS_requireWithin prog_1_method_20_code (3 : Nat) (Option.none : Option Jvm.ClassFile.FieldType)) ∈ BIG := big_in (tb_2 (List.mem_of_getElem? (i := 152) rfl)) rfl
theorem k_393 : (Jvm.Cond.classLink "DoorServer" (182 : Nat) "java/lang/IllegalArgumentException") ∈ BIG := big_in (tb_2 (List.mem_of_getElem? (i := 153) rfl)) rfl
theorem k_394 : (Jvm.Cond.instantiable "java/lang/IllegalArgumentException" (6 : Nat)) ∈ BIG := big_in (tb_2 (List.mem_of_getElem? (i := 154) rfl)) rfl
theorem k_402 : (Jvm.Cond.selects "java/lang/IllegalArgumentException" y_Th_fillInStackTrace y_Th_fillInStackTrace) ∈ BIG := big_in (tb_2 (List.mem_of_getElem? (i := 162) rfl)) rfl
theorem k_403 : (Jvm.Cond.selects "java/lang/IllegalArgumentException" y_Th_fillInStackTrace2 y_Th_fillInStackTrace2) ∈ BIG := big_in (tb_2 (List.mem_of_getElem? (i := 163) rfl)) rfl
theorem k_404 : (Jvm.Cond.lays "java/lang/IllegalArgumentException" "java/lang/Throwable" "cause" "Ljava/lang/Throwable;") ∈ BIG := big_in (tb_2 (List.mem_of_getElem? (i := 164) rfl)) rfl
theorem k_405 : (Jvm.Cond.lays "java/lang/Throwable" "java/lang/Throwable" "cause" "Ljava/lang/Throwable;") ∈ BIG := big_in (tb_2 (List.mem_of_getElem? (i := 165) rfl)) rfl
theorem k_406 : (Jvm.Cond.lays "java/lang/IllegalArgumentException" "java/lang/Throwable" "stackTrace" "[Ljava/lang/StackTraceElement;") ∈ BIG := big_in (tb_2 (List.mem_of_getElem? (i := 166) rfl)) rfl
theorem k_407 : (Jvm.Cond.lays "java/lang/Throwable" "java/lang/Throwable" "stackTrace" "[Ljava/lang/StackTraceElement;") ∈ BIG := big_in (tb_2 (List.mem_of_getElem? (i := 167) rfl)) rfl
theorem k_408 : (Jvm.Cond.lays "java/lang/IllegalArgumentException" "java/lang/Throwable" "suppressedExceptions" "Ljava/util/List;") ∈ BIG := big_in (tb_2 (List.mem_of_getElem? (i := 168) rfl)) rfl
theorem k_409 : (Jvm.Cond.lays "java/lang/Throwable" "java/lang/Throwable" "suppressedExceptions" "Ljava/util/List;") ∈ BIG := big_in (tb_2 (List.mem_of_getElem? (i := 169) rfl)) rfl
theorem k_410 : (Jvm.Cond.lays "java/lang/IllegalArgumentException" "java/lang/Throwable" "detailMessage" "Ljava/lang/String;") ∈ BIG := big_in (tb_2 (List.mem_of_getElem? (i := 170) rfl)) rfl
theorem k_411 : (Jvm.Cond.lays "java/lang/Throwable" "java/lang/Throwable" "detailMessage" "Ljava/lang/String;") ∈ BIG := big_in (tb_2 (List.mem_of_getElem? (i := 171) rfl)) rfl
theorem k_412 : (Jvm.Cond.lays "java/lang/IllegalArgumentException" "java/lang/Throwable" "backtrace" "Ljava/lang/Object;") ∈ BIG := big_in (tb_2 (List.mem_of_getElem? (i := 172) rfl)) rfl
theorem k_413 : (Jvm.Cond.lays "java/lang/Throwable" "java/lang/Throwable" "backtrace" "Ljava/lang/Object;") ∈ BIG := big_in (tb_2 (List.mem_of_getElem? (i := 173) rfl)) rfl
theorem k_414 : (Jvm.Cond.fieldLink "java/lang/Throwable" (198 : Nat) "java/lang/Throwable" "backtrace" "Ljava/lang/Object;") ∈ BIG := big_in (tb_2 (List.mem_of_getElem? (i := 174) rfl)) rfl
theorem k_415 : (Jvm.Cond.superclass "java/lang/Throwable" "java/lang/Object") ∈ BIG := big_in (tb_2 (List.mem_of_getElem? (i := 175) rfl)) rfl
theorem k_416 : (Jvm.Cond.instanceMethod y_Th_init) ∈ BIG := big_in (tb_2 (List.mem_of_getElem? (i := 176) rfl)) rfl
theorem k_417 : (Jvm.Cond.code y_Th_init prog_21_method_1_code (1 : Nat) (Option.none : Option Jvm.ClassFile.FieldType)) ∈ BIG := big_in (tb_2 (List.mem_of_getElem? (i := 177) rfl)) rfl
theorem k_418 : (Jvm.Cond.methodLink "java/lang/Throwable" (1 : Nat) y_Ob_init) ∈ BIG := big_in (tb_2 (List.mem_of_getElem? (i := 178) rfl)) rfl
theorem k_419 : (Jvm.Cond.fieldLink "java/lang/Throwable" (13 : Nat) "java/lang/Throwable" "UNASSIGNED_STACK" "[Ljava/lang/StackTraceElement;") ∈ BIG := big_in (tb_2 (List.mem_of_getElem? (i := 179) rfl)) rfl
theorem k_421 : (Jvm.Cond.fieldLink "java/lang/Throwable" (20 : Nat) "java/lang/Throwable" "SUPPRESSED_SENTINEL" "Ljava/util/List;") ∈ BIG := big_in (tb_2 (List.mem_of_getElem? (i := 181) rfl)) rfl
theorem k_423 : (Jvm.Cond.methodLink "java/lang/Throwable" (27 : Nat) y_Th_fillInStackTrace2) ∈ BIG := big_in (tb_2 (List.mem_of_getElem? (i := 183) rfl)) rfl
theorem k_424 : (Jvm.Cond.instanceMethod y_Th_fillInStackTrace2) ∈ BIG := big_in (tb_2 (List.mem_of_getElem? (i := 184) rfl)) rfl
theorem k_425 : (Jvm.Cond.sameMethod "java/lang/Throwable" "java/lang/Throwable" "fillInStackTrace" "()Ljava/lang/Throwable;") ∈ BIG := big_in (tb_2 (List.mem_of_getElem? (i := 185) rfl)) rfl
theorem k_426 : (Jvm.Cond.selects "java/lang/IllegalStateException" y_Th_fillInStackTrace2 y_Th_fillInStackTrace2) ∈ BIG := big_in (tb_2 (List.mem_of_getElem? (i := 186) rfl)) rfl
theorem k_428 : (Jvm.Cond.methodLink "java/lang/Throwable" (202 : Nat) y_Th_fillInStackTrace) ∈ BIG := big_in (tb_2 (List.mem_of_getElem? (i := 188) rfl)) rfl
theorem k_430 : (Jvm.Cond.instanceMethod y_Th_fillInStackTrace) ∈ BIG := big_in (tb_2 (List.mem_of_getElem? (i := 190) rfl)) rfl
theorem k_431 : (Jvm.Cond.instantiable "java/lang/Throwable" (6 : Nat)) ∈ BIG := big_in (tb_2 (List.mem_of_getElem? (i := 191) rfl)) rfl
theorem k_432 : (Jvm.Cond.native y_Th_fillInStackTrace) ∈ BIG := big_in (tb_2 (List.mem_of_getElem? (i := 192) rfl)) rfl
theorem k_433 : (Jvm.Cond.methodLink "DoorServer" (184 : Nat) y_Ia_init) ∈ BIG := big_in (tb_2 (List.mem_of_getElem? (i := 193) rfl)) rfl
theorem k_434 : (Jvm.Cond.instanceMethod y_Ia_init) ∈ BIG := big_in (tb_2 (List.mem_of_getElem? (i := 194) rfl)) rfl
theorem k_435 : (Jvm.Cond.code y_Ia_init prog_16_method_1_code (1 : Nat) (Option.none : Option Jvm.ClassFile.FieldType)) ∈ BIG := big_in (tb_2 (List.mem_of_getElem? (i := 195) rfl)) rfl
theorem k_436 : (Jvm.Cond.methodLink "java/lang/IllegalArgumentException" (1 : Nat) y_Re_init) ∈ BIG := big_in (tb_2 (List.mem_of_getElem? (i := 196) rfl)) rfl
theorem k_437 : (Jvm.Cond.instanceMethod y_Re_init) ∈ BIG := big_in (tb_2 (List.mem_of_getElem? (i := 197) rfl)) rfl
theorem k_438 : (Jvm.Cond.code y_Re_init prog_19_method_1_code (1 : Nat) (Option.none : Option Jvm.ClassFile.FieldType)) ∈ BIG := big_in (tb_2 (List.mem_of_getElem? (i := 198) rfl)) rfl
theorem k_439 : (Jvm.Cond.methodLink "java/lang/RuntimeException" (1 : Nat) y_Ex_init) ∈ BIG := big_in (tb_2 (List.mem_of_getElem? (i := 199) rfl)) rfl
theorem k_440 : (Jvm.Cond.instanceMethod y_Ex_init) ∈ BIG := big_in (tb_2 (List.mem_of_getElem? (i := 200) rfl)) rfl
theorem k_441 : (Jvm.Cond.code y_Ex_init prog_15_method_1_code (1 : Nat) (Option.none : Option Jvm.ClassFile.FieldType)) ∈ BIG := big_in (tb_2 (List.mem_of_getElem? (i := 201) rfl)) rfl
theorem k_442 : (Jvm.Cond.methodLink "java/lang/Exception" (1 : Nat) y_Th_init) ∈ BIG := big_in (tb_2 (List.mem_of_getElem? (i := 202) rfl)) rfl
theorem k_444 : (Jvm.Cond.fieldLink "java/lang/Throwable" (7 : Nat) "java/lang/Throwable" "cause" "Ljava/lang/Throwable;") ∈ BIG := big_in (tb_2 (List.mem_of_getElem? (i := 204) rfl)) rfl
theorem k_445 : (Jvm.Cond.fieldLink "java/lang/Throwable" (17 : Nat) "java/lang/Throwable" "stackTrace" "[Ljava/lang/StackTraceElement;") ∈ BIG := big_in (tb_2 (List.mem_of_getElem? (i := 205) rfl)) rfl
theorem k_446 : (Jvm.Cond.fieldLink "java/lang/Throwable" (24 : Nat) "java/lang/Throwable" "suppressedExceptions" "Ljava/util/List;") ∈ BIG := big_in (tb_2 (List.mem_of_getElem? (i := 206) rfl)) rfl
theorem k_451 : (Jvm.Cond.lays "java/lang/IllegalArgumentException" "java/lang/Throwable" "depth" "I") ∈ BIG := big_in (tb_2 (List.mem_of_getElem? (i := 211) rfl)) rfl
theorem k_454 : (Jvm.Cond.superclass "java/lang/IllegalArgumentException" "java/lang/RuntimeException") ∈ BIG := big_in (tb_2 (List.mem_of_getElem? (i := 214) rfl)) rfl
theorem k_455 : (Jvm.Cond.methodLink "DoorServer" (46 : Nat) y_By_become) ∈ BIG := big_in (tb_2 (List.mem_of_getElem? (i := 215) rfl)) rfl
theorem k_456 : (Jvm.Cond.instanceMethod y_By_become) ∈ BIG := big_in (tb_2 (List.mem_of_getElem? (i := 216) rfl)) rfl
theorem k_457 : (Jvm.Cond.selects "DoorServer$Bytes" y_By_become y_By_become) ∈ BIG := big_in (tb_2 (List.mem_of_getElem? (i := 217) rfl)) rfl
theorem k_458 : (Jvm.Cond.sameMethod "DoorServer$Bytes" "DoorServer$Bytes" "become" "(JI)V") ∈ BIG := big_in (tb_2 (List.mem_of_getElem? (i := 218) rfl)) rfl
theorem k_459 : (Jvm.Cond.selects "DoorServer$Packet" y_By_become y_By_become) ∈ BIG := big_in (tb_2 (List.mem_of_getElem? (i := 219) rfl)) rfl
theorem k_460 : (Jvm.Cond.code y_By_become prog_3_method_7_code (4 : Nat) (Option.none : Option Jvm.ClassFile.FieldType)) ∈ BIG := big_in (tb_2 (List.mem_of_getElem? (i := 220) rfl)) rfl
theorem k_461 : (Jvm.Cond.methodLink "DoorServer$Bytes" (31 : Nat) y_By_appendPattern) ∈ BIG := big_in (tb_2 (List.mem_of_getElem? (i := 221) rfl)) rfl
theorem k_462 : (Jvm.Cond.instanceMethod y_By_appendPattern) ∈ BIG := big_in (tb_2 (List.mem_of_getElem? (i := 222) rfl)) rfl
theorem k_463 : (Jvm.Cond.selects "DoorServer$Bytes" y_By_appendPattern y_By_appendPattern) ∈ BIG := big_in (tb_2 (List.mem_of_getElem? (i := 223) rfl)) rfl
theorem k_464 : (Jvm.Cond.sameMethod "DoorServer$Bytes" "DoorServer$Bytes" "appendPattern" "(JI)V") ∈ BIG := big_in (tb_2 (List.mem_of_getElem? (i := 224) rfl)) rfl
theorem k_465 : (Jvm.Cond.selects "DoorServer$Packet" y_By_appendPattern y_By_appendPattern) ∈ BIG := big_in (tb_2 (List.mem_of_getElem? (i := 225) rfl)) rfl
theorem k_466 : (Jvm.Cond.code y_By_appendPattern prog_3_method_5_code (5 : Nat) (Option.none : Option Jvm.ClassFile.FieldType)) ∈ BIG := big_in (tb_2 (List.mem_of_getElem? (i := 226) rfl)) rfl
theorem k_467 : (Jvm.Cond.constantLong "DoorServer$Bytes" (23 : Nat) (63 : Int64)) ∈ BIG := big_in (tb_2 (List.mem_of_getElem? (i := 227) rfl)) rfl
theorem k_468 : (Jvm.Cond.methodLink "DoorServerLaw" (86 : Nat) y_Lw_user) ∈ BIG := big_in (tb_2 (List.mem_of_getElem? (i := 228) rfl)) rfl
theorem k_469 : (Jvm.Cond.static y_Lw_user) ∈ BIG := big_in (tb_2 (List.mem_of_getElem? (i := 229) rfl)) rfl
theorem k_471 : (Jvm.Cond.methodLink "DoorServerLaw" (15 : Nat) y_DS_user) ∈ BIG := big_in (tb_2 (List.mem_of_getElem? (i := 231) rfl)) rfl
theorem k_472 : (Jvm.Cond.instanceMethod y_DS_user) ∈ BIG := big_in (tb_2 (List.mem_of_getElem? (i := 232) rfl)) rfl
theorem k_473 : (Jvm.Cond.selects "DoorServer" y_DS_user y_DS_user) ∈ BIG := big_in (tb_2 (List.mem_of_getElem? (i := 233) rfl)) rfl
theorem k_474 : (Jvm.Cond.code y_DS_user prog_1_method_3_code (6 : Nat) (Option.some Jvm.ClassFile.FieldType.boolean)) ∈ BIG := big_in (tb_2 (List.mem_of_getElem? (i := 234) rfl)) rfl
theorem k_475 : (Jvm.Cond.methodLink "DoorServer" (52 : Nat) y_DS_requireUser) ∈ BIG := big_in (tb_2 (List.mem_of_getElem? (i := 235) rfl)) rfl
theorem k_476 : (Jvm.Cond.static y_DS_requireUser) ∈ BIG := big_in (tb_2 (List.mem_of_getElem? (i := 236) rfl)) rfl
theorem k_477 : (Jvm.Cond.code y_DS_requireUser prog_1_method_23_code (1 : Nat) (Option.none : Option Jvm.ClassFile.FieldType)) ∈ BIG := big_in (tb_2 (List.mem_of_getElem? (i := 237) rfl)) rfl
theorem k_478 : (Jvm.Cond.methodLink "DoorServer" (55 : Nat) y_Sv_isTold) ∈ BIG := big_in (tb_2 (List.mem_of_getElem? (i := 238) rfl)) rfl
theorem k_479 : (Jvm.Cond.instanceMethod y_Sv_isTold) ∈ BIG := big_in (tb_2 (List.mem_of_getElem? (i := 239) rfl)) rfl
theorem k_480 : (Jvm.Cond.selects "DoorServer$Server" y_Sv_isTold y_Sv_isTold) ∈ BIG := big_in (tb_3 (List.mem_of_getElem? (i := 0) rfl)) rfl
theorem k_481 : (Jvm.Cond.code y_Sv_isTold prog_8_method_2_code (2 : Nat) (Option.some Jvm.ClassFile.FieldType.boolean)) ∈ BIG := big_in (tb_3 (List.mem_of_getElem? (i := 1) rfl)) rfl
theorem k_482 : (Jvm.Cond.methodLink "DoorServerLaw" (94 : Nat) y_Lw_draft) ∈ BIG := big_in (tb_3 (List.mem_of_getElem? (i := 2) rfl)) rfl
theorem k_483 : (Jvm.Cond.static y_Lw_draft) ∈ BIG := big_in (tb_3 (List.mem_of_getElem? (i := 3) rfl)) rfl
theorem k_485 : (Jvm.Cond.methodLink "DoorServerLaw" (19 : Nat) y_DS_draft) ∈ BIG := big_in (tb_3 (List.mem_of_getElem? (i := 5) rfl)) rfl
theorem k_486 : (Jvm.Cond.instanceMethod y_DS_draft) ∈ BIG := big_in (tb_3 (List.mem_of_getElem? (i := 6) rfl)) rfl
theorem k_487 : (Jvm.Cond.selects "DoorServer" y_DS_draft y_DS_draft) ∈ BIG := big_in (tb_3 (List.mem_of_getElem? (i := 7) rfl)) rfl
theorem k_488 : (Jvm.Cond.code y_DS_draft prog_1_method_4_code (5 : Nat) (Option.none : Option Jvm.ClassFile.FieldType)) ∈ BIG := big_in (tb_3 (List.mem_of_getElem? (i := 8) rfl)) rfl
theorem k_489 : (Jvm.Cond.methodLink "DoorServer" (62 : Nat) y_DS_requireByte) ∈ BIG := big_in (tb_3 (List.mem_of_getElem? (i := 9) rfl)) rfl
theorem k_490 : (Jvm.Cond.static y_DS_requireByte) ∈ BIG := big_in (tb_3 (List.mem_of_getElem? (i := 10) rfl)) rfl
theorem k_491 : (Jvm.Cond.code y_DS_requireByte prog_1_method_21_code (1 : Nat) (Option.none : Option Jvm.ClassFile.FieldType)) ∈ BIG := big_in (tb_3 (List.mem_of_getElem? (i := 11) rfl)) rfl
theorem k_492 : (Jvm.Cond.methodLink "DoorServerLaw" (98 : Nat) y_Lw_put) ∈ BIG := big_in (tb_3 (List.mem_of_getElem? (i := 12) rfl)) rfl
theorem k_493 : (Jvm.Cond.static y_Lw_put) ∈ BIG := big_in (tb_3 (List.mem_of_getElem? (i := 13) rfl)) rfl
theorem k_495 : (Jvm.Cond.classLink "DoorServerLaw" (27 : Nat) "java/lang/IllegalStateException") ∈ BIG := big_in (tb_3 (List.mem_of_getElem? (i := 15) rfl)) rfl
theorem k_496 : (Jvm.Cond.methodLink "DoorServerLaw" (23 : Nat) y_DS_put) ∈ BIG := big_in (tb_3 (List.mem_of_getElem? (i := 16) rfl)) rfl
theorem k_497 : (Jvm.Cond.instanceMethod y_DS_put) ∈ BIG := big_in (tb_3 (List.mem_of_getElem? (i := 17) rfl)) rfl
theorem k_498 : (Jvm.Cond.selects "DoorServer" y_DS_put y_DS_put) ∈ BIG := big_in (tb_3 (List.mem_of_getElem? (i := 18) rfl)) rfl
theorem k_499 : (Jvm.Cond.code y_DS_put prog_1_method_5_code (5 : Nat) (Option.some Jvm.ClassFile.FieldType.int)) ∈ BIG := big_in (tb_3 (List.mem_of_getElem? (i := 19) rfl)) rfl
theorem k_500 : (Jvm.Cond.methodLink "DoorServer" (65 : Nat) y_DS_requireRoom) ∈ BIG := big_in (tb_3 (List.mem_of_getElem? (i := 20) rfl)) rfl
theorem k_502 : (Jvm.Cond.instanceMethod y_DS_requireRoom) ∈ BIG := big_in (tb_3 (List.mem_of_getElem? (i := 22) rfl)) rfl
theorem k_503 : (Jvm.Cond.code y_DS_requireRoom prog_1_method_24_code (2 : Nat) (Option.none : Option Jvm.ClassFile.FieldType)) ∈ BIG := big_in (tb_3 (List.mem_of_getElem? (i := 23) rfl)) rfl
theorem k_504 : (Jvm.Cond.classLink "DoorServer" (219 : Nat) "java/lang/IllegalStateException") ∈ BIG := big_in (tb_3 (List.mem_of_getElem? (i := 24) rfl)) rfl
theorem k_505 : (Jvm.Cond.instantiable "java/lang/IllegalStateException" (6 : Nat)) ∈ BIG := big_in (tb_3 (List.mem_of_getElem? (i := 25) rfl)) rfl
theorem k_507 : (Jvm.Cond.selects "java/lang/IllegalStateException" y_Th_fillInStackTrace y_Th_fillInStackTrace) ∈ BIG := big_in (tb_3 (List.mem_of_getElem? (i := 27) rfl)) rfl
theorem k_508 : (Jvm.Cond.lays "java/lang/IllegalStateException" "java/lang/Throwable" "cause" "Ljava/lang/Throwable;") ∈ BIG := big_in (tb_3 (List.mem_of_getElem? (i := 28) rfl)) rfl
theorem k_509 : (Jvm.Cond.lays "java/lang/IllegalStateException" "java/lang/Throwable" "stackTrace" "[Ljava/lang/StackTraceElement;") ∈ BIG := big_in (tb_3 (List.mem_of_getElem? (i := 29) rfl)) rfl
theorem k_510 : (Jvm.Cond.lays "java/lang/IllegalStateException" "java/lang/Throwable" "suppressedExceptions" "Ljava/util/List;") ∈ BIG := big_in (tb_3 (List.mem_of_getElem? (i := 30) rfl)) rfl
theorem k_511 : (Jvm.Cond.lays "java/lang/IllegalStateException" "java/lang/Throwable" "detailMessage" "Ljava/lang/String;") ∈ BIG := big_in (tb_3 (List.mem_of_getElem? (i := 31) rfl)) rfl
theorem k_512 : (Jvm.Cond.lays "java/lang/IllegalStateException" "java/lang/Throwable" "backtrace" "Ljava/lang/Object;") ∈ BIG := big_in (tb_3 (List.mem_of_getElem? (i := 32) rfl)) rfl
theorem k_513 : (Jvm.Cond.methodLink "DoorServer" (221 : Nat) y_Is_init) ∈ BIG := big_in (tb_3 (List.mem_of_getElem? (i := 33) rfl)) rfl
theorem k_514 : (Jvm.Cond.instanceMethod y_Is_init) ∈ BIG := big_in (tb_3 (List.mem_of_getElem? (i := 34) rfl)) rfl
theorem k_515 : (Jvm.Cond.code y_Is_init prog_17_method_1_code (1 : Nat) (Option.none : Option Jvm.ClassFile.FieldType)) ∈ BIG := big_in (tb_3 (List.mem_of_getElem? (i := 35) rfl)) rfl
theorem k_516 : (Jvm.Cond.methodLink "java/lang/IllegalStateException" (1 : Nat) y_Re_init) ∈ BIG := big_in (tb_3 (List.mem_of_getElem? (i := 36) rfl)) rfl
theorem k_517 : (Jvm.Cond.lays "java/lang/IllegalStateException" "java/lang/Throwable" "depth" "I") ∈ BIG := big_in (tb_3 (List.mem_of_getElem? (i := 37) rfl)) rfl
theorem k_518 : (Jvm.Cond.superclass "java/lang/IllegalStateException" "java/lang/RuntimeException") ∈ BIG := big_in (tb_3 (List.mem_of_getElem? (i := 38) rfl)) rfl
theorem k_519 : (Jvm.Cond.methodLink "DoorServer" (68 : Nat) y_Pk_open) ∈ BIG := big_in (tb_3 (List.mem_of_getElem? (i := 39) rfl)) rfl
theorem k_520 : (Jvm.Cond.instanceMethod y_Pk_open) ∈ BIG := big_in (tb_3 (List.mem_of_getElem? (i := 40) rfl)) rfl
theorem k_521 : (Jvm.Cond.selects "DoorServer$Packet" y_Pk_open y_Pk_open) ∈ BIG := big_in (tb_3 (List.mem_of_getElem? (i := 41) rfl)) rfl
theorem k_522 : (Jvm.Cond.code y_Pk_open prog_6_method_5_code (3 : Nat) (Option.none : Option Jvm.ClassFile.FieldType)) ∈ BIG := big_in (tb_3 (List.mem_of_getElem? (i := 42) rfl)) rfl
theorem k_523 : (Jvm.Cond.methodLink "DoorServer" (71 : Nat) y_Pk_append) ∈ BIG := big_in (tb_3 (List.mem_of_getElem? (i := 43) rfl)) rfl
theorem k_524 : (Jvm.Cond.methodLink "DoorServer" (74 : Nat) y_DS_closedDraft) ∈ BIG := big_in (tb_3 (List.mem_of_getElem? (i := 44) rfl)) rfl
theorem k_526 : (Jvm.Cond.instanceMethod y_DS_closedDraft) ∈ BIG := big_in (tb_3 (List.mem_of_getElem? (i := 46) rfl)) rfl
theorem k_527 : (Jvm.Cond.code y_DS_closedDraft prog_1_method_26_code (1 : Nat) (Option.some Jvm.ClassFile.FieldType.int)) ∈ BIG := big_in (tb_3 (List.mem_of_getElem? (i := 47) rfl)) rfl
theorem k_528 : (Jvm.Cond.methodLink "DoorServer" (127 : Nat) y_Pk_tellLength) ∈ BIG := big_in (tb_3 (List.mem_of_getElem? (i := 48) rfl)) rfl
theorem k_529 : (Jvm.Cond.instanceMethod y_Pk_tellLength) ∈ BIG := big_in (tb_3 (List.mem_of_getElem? (i := 49) rfl)) rfl
theorem k_530 : (Jvm.Cond.selects "DoorServer$Packet" y_Pk_tellLength y_Pk_tellLength) ∈ BIG := big_in (tb_3 (List.mem_of_getElem? (i := 50) rfl)) rfl
theorem k_531 : (Jvm.Cond.code y_Pk_tellLength prog_6_method_7_code (1 : Nat) (Option.none : Option Jvm.ClassFile.FieldType)) ∈ BIG := big_in (tb_3 (List.mem_of_getElem? (i := 51) rfl)) rfl
theorem k_532 : (Jvm.Cond.methodLink "DoorServerLaw" (102 : Nat) y_Lw_number) ∈ BIG := big_in (tb_3 (List.mem_of_getElem? (i := 52) rfl)) rfl
theorem k_533 : (Jvm.Cond.static y_Lw_number) ∈ BIG := big_in (tb_3 (List.mem_of_getElem? (i := 53) rfl)) rfl
theorem k_535 : (Jvm.Cond.methodLink "DoorServerLaw" (29 : Nat) y_DS_number) ∈ BIG := big_in (tb_3 (List.mem_of_getElem? (i := 55) rfl)) rfl
theorem k_536 : (Jvm.Cond.instanceMethod y_DS_number) ∈ BIG := big_in (tb_3 (List.mem_of_getElem? (i := 56) rfl)) rfl
theorem k_537 : (Jvm.Cond.selects "DoorServer" y_DS_number y_DS_number) ∈ BIG := big_in (tb_3 (List.mem_of_getElem? (i := 57) rfl)) rfl
theorem k_538 : (Jvm.Cond.code y_DS_number prog_1_method_6_code (3 : Nat) (Option.some Jvm.ClassFile.FieldType.int)) ∈ BIG := big_in (tb_3 (List.mem_of_getElem? (i := 58) rfl)) rfl
theorem k_539 : (Jvm.Cond.methodLink "DoorServer" (78 : Nat) y_Pk_appendNumber) ∈ BIG := big_in (tb_3 (List.mem_of_getElem? (i := 59) rfl)) rfl
theorem k_540 : (Jvm.Cond.methodLink "DoorServerLaw" (106 : Nat) y_Lw_name) ∈ BIG := big_in (tb_3 (List.mem_of_getElem? (i := 60) rfl)) rfl
theorem k_541 : (Jvm.Cond.static y_Lw_name) ∈ BIG := big_in (tb_3 (List.mem_of_getElem? (i := 61) rfl)) rfl
theorem k_543 : (Jvm.Cond.methodLink "DoorServerLaw" (33 : Nat) y_DS_name) ∈ BIG := big_in (tb_3 (List.mem_of_getElem? (i := 63) rfl)) rfl
theorem k_544 : (Jvm.Cond.instanceMethod y_DS_name) ∈ BIG := big_in (tb_3 (List.mem_of_getElem? (i := 64) rfl)) rfl
theorem k_545 : (Jvm.Cond.selects "DoorServer" y_DS_name y_DS_name) ∈ BIG := big_in (tb_3 (List.mem_of_getElem? (i := 65) rfl)) rfl
theorem k_546 : (Jvm.Cond.code y_DS_name prog_1_method_7_code (2 : Nat) (Option.some Jvm.ClassFile.FieldType.int)) ∈ BIG := big_in (tb_3 (List.mem_of_getElem? (i := 66) rfl)) rfl
theorem k_547 : (Jvm.Cond.methodLink "DoorServerLaw" (110 : Nat) y_Lw_password) ∈ BIG := big_in (tb_3 (List.mem_of_getElem? (i := 67) rfl)) rfl
theorem k_548 : (Jvm.Cond.static y_Lw_password) ∈ BIG := big_in (tb_3 (List.mem_of_getElem? (i := 68) rfl)) rfl
theorem k_550 : (Jvm.Cond.methodLink "DoorServerLaw" (37 : Nat) y_DS_password) ∈ BIG := big_in (tb_3 (List.mem_of_getElem? (i := 70) rfl)) rfl
theorem k_551 : (Jvm.Cond.instanceMethod y_DS_password) ∈ BIG := big_in (tb_3 (List.mem_of_getElem? (i := 71) rfl)) rfl
theorem k_552 : (Jvm.Cond.selects "DoorServer" y_DS_password y_DS_password) ∈ BIG := big_in (tb_3 (List.mem_of_getElem? (i := 72) rfl)) rfl
theorem k_553 : (Jvm.Cond.code y_DS_password prog_1_method_8_code (7 : Nat) (Option.some Jvm.ClassFile.FieldType.int)) ∈ BIG := big_in (tb_3 (List.mem_of_getElem? (i := 73) rfl)) rfl
theorem k_554 : (Jvm.Cond.methodLink "DoorServer" (85 : Nat) y_Pk_appendPattern) ∈ BIG := big_in (tb_3 (List.mem_of_getElem? (i := 74) rfl)) rfl
theorem k_555 : (Jvm.Cond.sameMethod "DoorServer$Packet" "DoorServer$Bytes" "appendPattern" "(JI)V") ∈ BIG := big_in (tb_3 (List.mem_of_getElem? (i := 75) rfl)) rfl
theorem k_557 : (Jvm.Cond.selects "DoorServer$Packet" y_Pk_appendPattern y_By_appendPattern) ∈ BIG := big_in (tb_3 (List.mem_of_getElem? (i := 77) rfl)) rfl
theorem k_558 : (Jvm.Cond.methodLink "DoorServer" (88 : Nat) y_Pk_appendZeros) ∈ BIG := big_in (tb_3 (List.mem_of_getElem? (i := 78) rfl)) rfl
theorem k_559 : (Jvm.Cond.methodLink "DoorServer" (95 : Nat) y_Dg_cover) ∈ BIG := big_in (tb_3 (List.mem_of_getElem? (i := 79) rfl)) rfl
theorem k_560 : (Jvm.Cond.instanceMethod y_Dg_cover) ∈ BIG := big_in (tb_3 (List.mem_of_getElem? (i := 80) rfl)) rfl
theorem k_561 : (Jvm.Cond.selects "DoorServer$Digests" y_Dg_cover y_Dg_cover) ∈ BIG := big_in (tb_3 (List.mem_of_getElem? (i := 81) rfl)) rfl
theorem k_562 : (Jvm.Cond.code y_Dg_cover prog_4_method_6_code (8 : Nat) (Option.none : Option Jvm.ClassFile.FieldType)) ∈ BIG := big_in (tb_3 (List.mem_of_getElem? (i := 82) rfl)) rfl
theorem k_563 : (Jvm.Cond.methodLink "DoorServer$Digests" (55 : Nat) y_Dg_ofMask) ∈ BIG := big_in (tb_3 (List.mem_of_getElem? (i := 83) rfl)) rfl
theorem k_564 : (Jvm.Cond.instanceMethod y_Dg_ofMask) ∈ BIG := big_in (tb_3 (List.mem_of_getElem? (i := 84) rfl)) rfl
theorem k_565 : (Jvm.Cond.selects "DoorServer$Digests" y_Dg_ofMask y_Dg_ofMask) ∈ BIG := big_in (tb_3 (List.mem_of_getElem? (i := 85) rfl)) rfl
theorem k_566 : (Jvm.Cond.code y_Dg_ofMask prog_4_method_7_code (5 : Nat) (Option.some (Jvm.ClassFile.FieldType.array Jvm.ClassFile.FieldType.int))) ∈ BIG := big_in (tb_3 (List.mem_of_getElem? (i := 86) rfl)) rfl
theorem k_567 : (Jvm.Cond.methodLink "DoorServer$Digests" (49 : Nat) y_By_becomeRow) ∈ BIG := big_in (tb_3 (List.mem_of_getElem? (i := 87) rfl)) rfl
theorem k_568 : (Jvm.Cond.instanceMethod y_By_becomeRow) ∈ BIG := big_in (tb_3 (List.mem_of_getElem? (i := 88) rfl)) rfl
theorem k_569 : (Jvm.Cond.selects "DoorServer$Bytes" y_By_becomeRow y_By_becomeRow) ∈ BIG := big_in (tb_3 (List.mem_of_getElem? (i := 89) rfl)) rfl
theorem k_570 : (Jvm.Cond.sameMethod "DoorServer$Bytes" "DoorServer$Bytes" "becomeRow" "([III)V") ∈ BIG := big_in (tb_3 (List.mem_of_getElem? (i := 90) rfl)) rfl
theorem k_571 : (Jvm.Cond.selects "DoorServer$Packet" y_By_becomeRow y_By_becomeRow) ∈ BIG := big_in (tb_3 (List.mem_of_getElem? (i := 91) rfl)) rfl
theorem k_572 : (Jvm.Cond.code y_By_becomeRow prog_3_method_8_code (4 : Nat) (Option.none : Option Jvm.ClassFile.FieldType)) ∈ BIG := big_in (tb_3 (List.mem_of_getElem? (i := 92) rfl)) rfl
theorem k_573 : (Jvm.Cond.methodLink "DoorServer$Bytes" (35 : Nat) y_By_appendRow) ∈ BIG := big_in (tb_3 (List.mem_of_getElem? (i := 93) rfl)) rfl
theorem k_574 : (Jvm.Cond.instanceMethod y_By_appendRow) ∈ BIG := big_in (tb_3 (List.mem_of_getElem? (i := 94) rfl)) rfl
theorem k_575 : (Jvm.Cond.selects "DoorServer$Bytes" y_By_appendRow y_By_appendRow) ∈ BIG := big_in (tb_3 (List.mem_of_getElem? (i := 95) rfl)) rfl
theorem k_576 : (Jvm.Cond.sameMethod "DoorServer$Bytes" "DoorServer$Bytes" "appendRow" "([III)V") ∈ BIG := big_in (tb_3 (List.mem_of_getElem? (i := 96) rfl)) rfl
theorem k_577 : (Jvm.Cond.selects "DoorServer$Packet" y_By_appendRow y_By_appendRow) ∈ BIG := big_in (tb_3 (List.mem_of_getElem? (i := 97) rfl)) rfl
theorem k_578 : (Jvm.Cond.code y_By_appendRow prog_3_method_6_code (4 : Nat) (Option.none : Option Jvm.ClassFile.FieldType)) ∈ BIG := big_in (tb_3 (List.mem_of_getElem? (i := 98) rfl)) rfl
theorem k_579 : (Jvm.Cond.methodLink "DoorServer$Bytes" (25 : Nat) y_Sy_arraycopy) ∈ BIG := big_in (tb_3 (List.mem_of_getElem? (i := 99) rfl)) rfl
theorem k_580 : (Jvm.Cond.static y_Sy_arraycopy) ∈ BIG := big_in (tb_3 (List.mem_of_getElem? (i := 100) rfl)) rfl
theorem k_581 : (Jvm.Cond.native y_Sy_arraycopy) ∈ BIG := big_in (tb_3 (List.mem_of_getElem? (i := 101) rfl)) rfl
theorem k_582 : (Jvm.Cond.methodLink "DoorServer$Digests" (38 : Nat) y_By_appendRow) ∈ BIG := big_in (tb_3 (List.mem_of_getElem? (i := 102) rfl)) rfl
theorem k_583 : (Jvm.Cond.methodLink "DoorServer$Digests" (34 : Nat) y_Dg_digestText) ∈ BIG := big_in (tb_3 (List.mem_of_getElem? (i := 103) rfl)) rfl
theorem k_585 : (Jvm.Cond.instanceMethod y_Dg_digestText) ∈ BIG := big_in (tb_3 (List.mem_of_getElem? (i := 105) rfl)) rfl
theorem k_586 : (Jvm.Cond.code y_Dg_digestText prog_4_method_10_code (4 : Nat) (Option.some (Jvm.ClassFile.FieldType.array Jvm.ClassFile.FieldType.int))) ∈ BIG := big_in (tb_3 (List.mem_of_getElem? (i := 106) rfl)) rfl
theorem k_587 : (Jvm.Cond.methodLink "DoorServer$Digests" (59 : Nat) y_Ar_fill) ∈ BIG := big_in (tb_3 (List.mem_of_getElem? (i := 107) rfl)) rfl
theorem k_588 : (Jvm.Cond.static y_Ar_fill) ∈ BIG := big_in (tb_3 (List.mem_of_getElem? (i := 108) rfl)) rfl
theorem k_589 : (Jvm.Cond.code y_Ar_fill prog_22_method_104_code (5 : Nat) (Option.none : Option Jvm.ClassFile.FieldType)) ∈ BIG := big_in (tb_3 (List.mem_of_getElem? (i := 109) rfl)) rfl
theorem k_590 : (Jvm.Cond.methodLink "java/util/Arrays" (13 : Nat) y_Ar_rangeCheck) ∈ BIG := big_in (tb_3 (List.mem_of_getElem? (i := 110) rfl)) rfl
theorem k_591 : (Jvm.Cond.static y_Ar_rangeCheck) ∈ BIG := big_in (tb_3 (List.mem_of_getElem? (i := 111) rfl)) rfl
theorem k_592 : (Jvm.Cond.code y_Ar_rangeCheck prog_22_method_30_code (3 : Nat) (Option.none : Option Jvm.ClassFile.FieldType)) ∈ BIG := big_in (tb_3 (List.mem_of_getElem? (i := 112) rfl)) rfl
theorem k_593 : (Jvm.Cond.constant "DoorServer$Digests" (65 : Nat) (1732584193 : Int32)) ∈ BIG := big_in (tb_3 (List.mem_of_getElem? (i := 113) rfl)) rfl
theorem k_594 : (Jvm.Cond.constant "DoorServer$Digests" (69 : Nat) (-271733879 : Int32)) ∈ BIG := big_in (tb_3 (List.mem_of_getElem? (i := 114) rfl)) rfl
theorem k_595 : (Jvm.Cond.constant "DoorServer$Digests" (73 : Nat) (-1732584194 : Int32)) ∈ BIG := big_in (tb_3 (List.mem_of_getElem? (i := 115) rfl)) rfl
theorem k_596 : (Jvm.Cond.constant "DoorServer$Digests" (77 : Nat) (271733878 : Int32)) ∈ BIG := big_in (tb_3 (List.mem_of_getElem? (i := 116) rfl)) rfl
theorem k_597 : (Jvm.Cond.methodLink "DoorServer$Digests" (81 : Nat) y_Dg_mixBlock) ∈ BIG := big_in (tb_3 (List.mem_of_getElem? (i := 117) rfl)) rfl
theorem k_599 : (Jvm.Cond.instanceMethod y_Dg_mixBlock) ∈ BIG := big_in (tb_3 (List.mem_of_getElem? (i := 119) rfl)) rfl
theorem k_600 : (Jvm.Cond.code y_Dg_mixBlock prog_4_method_11_code (13 : Nat) (Option.none : Option Jvm.ClassFile.FieldType)) ∈ BIG := big_in (tb_3 (List.mem_of_getElem? (i := 120) rfl)) rfl
theorem k_601 : (Jvm.Cond.fieldLink "DoorServer$Digests" (84 : Nat) "DoorServer$Digests" "SINES" "[I") ∈ BIG := big_in (tb_3 (List.mem_of_getElem? (i := 121) rfl)) rfl
theorem k_603 : (Jvm.Cond.fieldLink "DoorServer$Digests" (87 : Nat) "DoorServer$Digests" "TURNS" "[I") ∈ BIG := big_in (tb_3 (List.mem_of_getElem? (i := 123) rfl)) rfl
theorem k_605 : (Jvm.Cond.methodLink "DoorServerLaw" (113 : Nat) y_Lw_hello) ∈ BIG := big_in (tb_3 (List.mem_of_getElem? (i := 125) rfl)) rfl
theorem k_606 : (Jvm.Cond.static y_Lw_hello) ∈ BIG := big_in (tb_3 (List.mem_of_getElem? (i := 126) rfl)) rfl
theorem k_608 : (Jvm.Cond.methodLink "DoorServerLaw" (41 : Nat) y_DS_hello) ∈ BIG := big_in (tb_3 (List.mem_of_getElem? (i := 128) rfl)) rfl
theorem k_609 : (Jvm.Cond.instanceMethod y_DS_hello) ∈ BIG := big_in (tb_3 (List.mem_of_getElem? (i := 129) rfl)) rfl
theorem k_610 : (Jvm.Cond.selects "DoorServer" y_DS_hello y_DS_hello) ∈ BIG := big_in (tb_3 (List.mem_of_getElem? (i := 130) rfl)) rfl
theorem k_611 : (Jvm.Cond.code y_DS_hello prog_1_method_9_code (2 : Nat) (Option.some Jvm.ClassFile.FieldType.int)) ∈ BIG := big_in (tb_3 (List.mem_of_getElem? (i := 131) rfl)) rfl
theorem k_612 : (Jvm.Cond.methodLink "DoorServer" (101 : Nat) y_Pk_openTalk) ∈ BIG := big_in (tb_3 (List.mem_of_getElem? (i := 132) rfl)) rfl
theorem k_613 : (Jvm.Cond.instanceMethod y_Pk_openTalk) ∈ BIG := big_in (tb_3 (List.mem_of_getElem? (i := 133) rfl)) rfl
theorem k_614 : (Jvm.Cond.selects "DoorServer$Packet" y_Pk_openTalk y_Pk_openTalk) ∈ BIG := big_in (tb_3 (List.mem_of_getElem? (i := 134) rfl)) rfl
theorem k_615 : (Jvm.Cond.code y_Pk_openTalk prog_6_method_6_code (4 : Nat) (Option.none : Option Jvm.ClassFile.FieldType)) ∈ BIG := big_in (tb_3 (List.mem_of_getElem? (i := 135) rfl)) rfl
theorem k_616 : (Jvm.Cond.methodLink "DoorServer$Packet" (37 : Nat) y_Pk_open) ∈ BIG := big_in (tb_3 (List.mem_of_getElem? (i := 136) rfl)) rfl
theorem k_617 : (Jvm.Cond.methodLink "DoorServerLaw" (116 : Nat) y_Lw_reply) ∈ BIG := big_in (tb_3 (List.mem_of_getElem? (i := 137) rfl)) rfl
theorem k_618 : (Jvm.Cond.static y_Lw_reply) ∈ BIG := big_in (tb_3 (List.mem_of_getElem? (i := 138) rfl)) rfl
theorem k_620 : (Jvm.Cond.methodLink "DoorServerLaw" (44 : Nat) y_DS_reply) ∈ BIG := big_in (tb_3 (List.mem_of_getElem? (i := 140) rfl)) rfl
theorem k_621 : (Jvm.Cond.instanceMethod y_DS_reply) ∈ BIG := big_in (tb_3 (List.mem_of_getElem? (i := 141) rfl)) rfl
theorem k_622 : (Jvm.Cond.selects "DoorServer" y_DS_reply y_DS_reply) ∈ BIG := big_in (tb_3 (List.mem_of_getElem? (i := 142) rfl)) rfl
theorem k_623 : (Jvm.Cond.code y_DS_reply prog_1_method_10_code (8 : Nat) (Option.some Jvm.ClassFile.FieldType.int)) ∈ BIG := big_in (tb_3 (List.mem_of_getElem? (i := 143) rfl)) rfl
theorem k_624 : (Jvm.Cond.methodLink "DoorServer" (115 : Nat) y_Pk_appendRow) ∈ BIG := big_in (tb_3 (List.mem_of_getElem? (i := 144) rfl)) rfl
theorem k_625 : (Jvm.Cond.sameMethod "DoorServer$Packet" "DoorServer$Bytes" "appendRow" "([III)V") ∈ BIG := big_in (tb_3 (List.mem_of_getElem? (i := 145) rfl)) rfl
theorem k_627 : (Jvm.Cond.selects "DoorServer$Packet" y_Pk_appendRow y_By_appendRow) ∈ BIG := big_in (tb_3 (List.mem_of_getElem? (i := 147) rfl)) rfl
theorem k_628 : (Jvm.Cond.methodLink "DoorServer" (119 : Nat) y_Dg_ofReply) ∈ BIG := big_in (tb_3 (List.mem_of_getElem? (i := 148) rfl)) rfl
theorem k_629 : (Jvm.Cond.instanceMethod y_Dg_ofReply) ∈ BIG := big_in (tb_3 (List.mem_of_getElem? (i := 149) rfl)) rfl
theorem k_630 : (Jvm.Cond.selects "DoorServer$Digests" y_Dg_ofReply y_Dg_ofReply) ∈ BIG := big_in (tb_3 (List.mem_of_getElem? (i := 150) rfl)) rfl
theorem k_631 : (Jvm.Cond.code y_Dg_ofReply prog_4_method_5_code (5 : Nat) (Option.some (Jvm.ClassFile.FieldType.array Jvm.ClassFile.FieldType.int))) ∈ BIG := big_in (tb_3 (List.mem_of_getElem? (i := 151) rfl)) rfl
theorem k_632 : (Jvm.Cond.methodLink "DoorServer$Digests" (52 : Nat) y_By_append) ∈ BIG := big_in (tb_3 (List.mem_of_getElem? (i := 152) rfl)) rfl
theorem k_633 : (Jvm.Cond.methodLink "DoorServerLaw" (120 : Nat) y_Lw_prove) ∈ BIG := big_in (tb_3 (List.mem_of_getElem? (i := 153) rfl)) rfl
theorem k_634 : (Jvm.Cond.static y_Lw_prove) ∈ BIG := big_in (tb_3 (List.mem_of_getElem? (i := 154) rfl)) rfl
theorem k_636 : (Jvm.Cond.methodLink "DoorServerLaw" (48 : Nat) y_DS_prove) ∈ BIG := big_in (tb_3 (List.mem_of_getElem? (i := 156) rfl)) rfl
theorem k_637 : (Jvm.Cond.instanceMethod y_DS_prove) ∈ BIG := big_in (tb_3 (List.mem_of_getElem? (i := 157) rfl)) rfl
theorem k_638 : (Jvm.Cond.selects "DoorServer" y_DS_prove y_DS_prove) ∈ BIG := big_in (tb_3 (List.mem_of_getElem? (i := 158) rfl)) rfl
theorem k_639 : (Jvm.Cond.code y_DS_prove prog_1_method_11_code (3 : Nat) (Option.some Jvm.ClassFile.FieldType.int)) ∈ BIG := big_in (tb_3 (List.mem_of_getElem? (i := 159) rfl)) rfl
theorem k_640 : (Jvm.Cond.methodLink "DoorServer" (123 : Nat) y_Pk_findValue) ∈ BIG := big_in (tb_3 (List.mem_of_getElem? (i := 160) rfl)) rfl
theorem k_641 : (Jvm.Cond.instanceMethod y_Pk_findValue) ∈ BIG := big_in (tb_3 (List.mem_of_getElem? (i := 161) rfl)) rfl
theorem k_642 : (Jvm.Cond.selects "DoorServer$Packet" y_Pk_findValue y_Pk_findValue) ∈ BIG := big_in (tb_3 (List.mem_of_getElem? (i := 162) rfl)) rfl
theorem k_643 : (Jvm.Cond.code y_Pk_findValue prog_6_method_8_code (5 : Nat) (Option.some Jvm.ClassFile.FieldType.int)) ∈ BIG := big_in (tb_3 (List.mem_of_getElem? (i := 163) rfl)) rfl
theorem k_644 : (Jvm.Cond.methodLink "DoorServer" (130 : Nat) y_DS_firstProof) ∈ BIG := big_in (tb_3 (List.mem_of_getElem? (i := 164) rfl)) rfl
theorem k_646 : (Jvm.Cond.instanceMethod y_DS_firstProof) ∈ BIG := big_in (tb_3 (List.mem_of_getElem? (i := 166) rfl)) rfl
theorem k_647 : (Jvm.Cond.code y_DS_firstProof prog_1_method_25_code (2 : Nat) (Option.some Jvm.ClassFile.FieldType.int)) ∈ BIG := big_in (tb_3 (List.mem_of_getElem? (i := 167) rfl)) rfl
theorem k_648 : (Jvm.Cond.methodLink "DoorServer" (133 : Nat) y_Dg_ofProof) ∈ BIG := big_in (tb_3 (List.mem_of_getElem? (i := 168) rfl)) rfl
theorem k_649 : (Jvm.Cond.instanceMethod y_Dg_ofProof) ∈ BIG := big_in (tb_3 (List.mem_of_getElem? (i := 169) rfl)) rfl
theorem k_650 : (Jvm.Cond.selects "DoorServer$Digests" y_Dg_ofProof y_Dg_ofProof) ∈ BIG := big_in (tb_3 (List.mem_of_getElem? (i := 170) rfl)) rfl
theorem k_651 : (Jvm.Cond.code y_Dg_ofProof prog_4_method_2_code (4 : Nat) (Option.some (Jvm.ClassFile.FieldType.array Jvm.ClassFile.FieldType.int))) ∈ BIG := big_in (tb_3 (List.mem_of_getElem? (i := 171) rfl)) rfl
theorem k_652 : (Jvm.Cond.methodLink "DoorServer$Digests" (27 : Nat) y_Dg_startWithKey) ∈ BIG := big_in (tb_3 (List.mem_of_getElem? (i := 172) rfl)) rfl
theorem k_654 : (Jvm.Cond.instanceMethod y_Dg_startWithKey) ∈ BIG := big_in (tb_3 (List.mem_of_getElem? (i := 174) rfl)) rfl
theorem k_655 : (Jvm.Cond.code y_Dg_startWithKey prog_4_method_8_code (4 : Nat) (Option.none : Option Jvm.ClassFile.FieldType)) ∈ BIG := big_in (tb_3 (List.mem_of_getElem? (i := 175) rfl)) rfl
theorem k_656 : (Jvm.Cond.methodLink "DoorServer$Digests" (31 : Nat) y_Dg_appendBlanked) ∈ BIG := big_in (tb_3 (List.mem_of_getElem? (i := 176) rfl)) rfl
theorem k_658 : (Jvm.Cond.instanceMethod y_Dg_appendBlanked) ∈ BIG := big_in (tb_3 (List.mem_of_getElem? (i := 178) rfl)) rfl
theorem k_659 : (Jvm.Cond.code y_Dg_appendBlanked prog_4_method_9_code (4 : Nat) (Option.none : Option Jvm.ClassFile.FieldType)) ∈ BIG := big_in (tb_3 (List.mem_of_getElem? (i := 179) rfl)) rfl
theorem k_660 : (Jvm.Cond.methodLink "DoorServer" (137 : Nat) y_Pk_write) ∈ BIG := big_in (tb_3 (List.mem_of_getElem? (i := 180) rfl)) rfl
theorem k_661 : (Jvm.Cond.instanceMethod y_Pk_write) ∈ BIG := big_in (tb_3 (List.mem_of_getElem? (i := 181) rfl)) rfl
theorem k_662 : (Jvm.Cond.selects "DoorServer$Packet" y_Pk_write y_Pk_write) ∈ BIG := big_in (tb_3 (List.mem_of_getElem? (i := 182) rfl)) rfl
theorem k_663 : (Jvm.Cond.code y_Pk_write prog_6_method_4_code (3 : Nat) (Option.none : Option Jvm.ClassFile.FieldType)) ∈ BIG := big_in (tb_3 (List.mem_of_getElem? (i := 183) rfl)) rfl
theorem k_664 : (Jvm.Cond.methodLink "DoorServer$Packet" (31 : Nat) y_Sy_arraycopy) ∈ BIG := big_in (tb_3 (List.mem_of_getElem? (i := 184) rfl)) rfl
theorem k_665 : (Jvm.Cond.methodLink "DoorServerLaw" (123 : Nat) y_Lw_seal) ∈ BIG := big_in (tb_3 (List.mem_of_getElem? (i := 185) rfl)) rfl
theorem k_666 : (Jvm.Cond.static y_Lw_seal) ∈ BIG := big_in (tb_3 (List.mem_of_getElem? (i := 186) rfl)) rfl
theorem k_668 : (Jvm.Cond.methodLink "DoorServerLaw" (51 : Nat) y_DS_seal) ∈ BIG := big_in (tb_3 (List.mem_of_getElem? (i := 188) rfl)) rfl
theorem k_669 : (Jvm.Cond.instanceMethod y_DS_seal) ∈ BIG := big_in (tb_3 (List.mem_of_getElem? (i := 189) rfl)) rfl
theorem k_670 : (Jvm.Cond.selects "DoorServer" y_DS_seal y_DS_seal) ∈ BIG := big_in (tb_3 (List.mem_of_getElem? (i := 190) rfl)) rfl
theorem k_671 : (Jvm.Cond.code y_DS_seal prog_1_method_12_code (2 : Nat) (Option.none : Option Jvm.ClassFile.FieldType)) ∈ BIG := big_in (tb_3 (List.mem_of_getElem? (i := 191) rfl)) rfl
theorem k_672 : (Jvm.Cond.methodLink "DoorServer" (141 : Nat) y_Dg_ofSeal) ∈ BIG := big_in (tb_3 (List.mem_of_getElem? (i := 192) rfl)) rfl
theorem k_673 : (Jvm.Cond.instanceMethod y_Dg_ofSeal) ∈ BIG := big_in (tb_3 (List.mem_of_getElem? (i := 193) rfl)) rfl
theorem k_674 : (Jvm.Cond.selects "DoorServer$Digests" y_Dg_ofSeal y_Dg_ofSeal) ∈ BIG := big_in (tb_3 (List.mem_of_getElem? (i := 194) rfl)) rfl
theorem k_675 : (Jvm.Cond.code y_Dg_ofSeal prog_4_method_3_code (3 : Nat) (Option.some (Jvm.ClassFile.FieldType.array Jvm.ClassFile.FieldType.int))) ∈ BIG := big_in (tb_3 (List.mem_of_getElem? (i := 195) rfl)) rfl
theorem k_676 : (Jvm.Cond.methodLink "DoorServerLaw" (127 : Nat) y_Lw_spoil) ∈ BIG := big_in (tb_3 (List.mem_of_getElem? (i := 196) rfl)) rfl
theorem k_677 : (Jvm.Cond.static y_Lw_spoil) ∈ BIG := big_in (tb_3 (List.mem_of_getElem? (i := 197) rfl)) rfl
theorem k_679 : (Jvm.Cond.methodLink "DoorServerLaw" (55 : Nat) y_DS_spoil) ∈ BIG := big_in (tb_3 (List.mem_of_getElem? (i := 199) rfl)) rfl
theorem k_680 : (Jvm.Cond.instanceMethod y_DS_spoil) ∈ BIG := big_in (tb_3 (List.mem_of_getElem? (i := 200) rfl)) rfl
theorem k_681 : (Jvm.Cond.selects "DoorServer" y_DS_spoil y_DS_spoil) ∈ BIG := big_in (tb_3 (List.mem_of_getElem? (i := 201) rfl)) rfl
theorem k_682 : (Jvm.Cond.code y_DS_spoil prog_1_method_13_code (3 : Nat) (Option.some Jvm.ClassFile.FieldType.int)) ∈ BIG := big_in (tb_3 (List.mem_of_getElem? (i := 202) rfl)) rfl
theorem k_683 : (Jvm.Cond.methodLink "DoorServerLaw" (130 : Nat) y_Lw_send) ∈ BIG := big_in (tb_3 (List.mem_of_getElem? (i := 203) rfl)) rfl
theorem k_684 : (Jvm.Cond.static y_Lw_send) ∈ BIG := big_in (tb_3 (List.mem_of_getElem? (i := 204) rfl)) rfl
theorem k_686 : (Jvm.Cond.methodLink "DoorServerLaw" (58 : Nat) y_DS_send) ∈ BIG := big_in (tb_3 (List.mem_of_getElem? (i := 206) rfl)) rfl
theorem k_687 : (Jvm.Cond.instanceMethod y_DS_send) ∈ BIG := big_in (tb_3 (List.mem_of_getElem? (i := 207) rfl)) rfl
theorem k_688 : (Jvm.Cond.selects "DoorServer" y_DS_send y_DS_send) ∈ BIG := big_in (tb_3 (List.mem_of_getElem? (i := 208) rfl)) rfl
theorem k_689 : (Jvm.Cond.code y_DS_send prog_1_method_14_code (2 : Nat) (Option.some Jvm.ClassFile.FieldType.int)) ∈ BIG := big_in (tb_3 (List.mem_of_getElem? (i := 209) rfl)) rfl
theorem k_690 : (Jvm.Cond.methodLink "DoorServer" (145 : Nat) y_Sv_take) ∈ BIG := big_in (tb_3 (List.mem_of_getElem? (i := 210) rfl)) rfl
theorem k_691 : (Jvm.Cond.instanceMethod y_Sv_take) ∈ BIG := big_in (tb_3 (List.mem_of_getElem? (i := 211) rfl)) rfl
theorem k_692 : (Jvm.Cond.selects "DoorServer$Server" y_Sv_take y_Sv_take) ∈ BIG := big_in (tb_3 (List.mem_of_getElem? (i := 212) rfl)) rfl
theorem k_693 : (Jvm.Cond.code y_Sv_take prog_8_method_3_code (3 : Nat) (Option.some Jvm.ClassFile.FieldType.int)) ∈ BIG := big_in (tb_3 (List.mem_of_getElem? (i := 213) rfl)) rfl
theorem k_694 : (Jvm.Cond.methodLink "DoorServer$Server" (78 : Nat) y_Rq_isWhole) ∈ BIG := big_in (tb_3 (List.mem_of_getElem? (i := 214) rfl)) rfl
theorem k_695 : (Jvm.Cond.instanceMethod y_Rq_isWhole) ∈ BIG := big_in (tb_3 (List.mem_of_getElem? (i := 215) rfl)) rfl
theorem k_696 : (Jvm.Cond.selects "DoorServer$Request" y_Rq_isWhole y_Rq_isWhole) ∈ BIG := big_in (tb_3 (List.mem_of_getElem? (i := 216) rfl)) rfl
theorem k_697 : (Jvm.Cond.code y_Rq_isWhole prog_7_method_2_code (4 : Nat) (Option.some Jvm.ClassFile.FieldType.boolean)) ∈ BIG := big_in (tb_3 (List.mem_of_getElem? (i := 217) rfl)) rfl
theorem k_698 : (Jvm.Cond.methodLink "DoorServer$Request" (19 : Nat) y_Ar_fill2) ∈ BIG := big_in (tb_3 (List.mem_of_getElem? (i := 218) rfl)) rfl
theorem k_699 : (Jvm.Cond.static y_Ar_fill2) ∈ BIG := big_in (tb_3 (List.mem_of_getElem? (i := 219) rfl)) rfl
theorem k_700 : (Jvm.Cond.code y_Ar_fill2 prog_22_method_103_code (4 : Nat) (Option.none : Option Jvm.ClassFile.FieldType)) ∈ BIG := big_in (tb_3 (List.mem_of_getElem? (i := 220) rfl)) rfl
theorem k_701 : (Jvm.Cond.methodLink "DoorServer$Request" (34 : Nat) y_Rq_takes) ∈ BIG := big_in (tb_3 (List.mem_of_getElem? (i := 221) rfl)) rfl
theorem k_703 : (Jvm.Cond.instanceMethod y_Rq_takes) ∈ BIG := big_in (tb_3 (List.mem_of_getElem? (i := 223) rfl)) rfl
theorem k_704 : (Jvm.Cond.code y_Rq_takes prog_7_method_3_code (4 : Nat) (Option.some Jvm.ClassFile.FieldType.boolean)) ∈ BIG := big_in (tb_3 (List.mem_of_getElem? (i := 224) rfl)) rfl
theorem k_705 : (Jvm.Cond.methodLink "DoorServer$Request" (38 : Nat) y_Rq_isKnown) ∈ BIG := big_in (tb_3 (List.mem_of_getElem? (i := 225) rfl)) rfl
theorem k_706 : (Jvm.Cond.static y_Rq_isKnown) ∈ BIG := big_in (tb_3 (List.mem_of_getElem? (i := 226) rfl)) rfl
theorem k_707 : (Jvm.Cond.code y_Rq_isKnown prog_7_method_4_code (1 : Nat) (Option.some Jvm.ClassFile.FieldType.boolean)) ∈ BIG := big_in (tb_3 (List.mem_of_getElem? (i := 227) rfl)) rfl
theorem k_708 : (Jvm.Cond.methodLink "DoorServer$Request" (42 : Nat) y_Rq_fits) ∈ BIG := big_in (tb_3 (List.mem_of_getElem? (i := 228) rfl)) rfl
theorem k_709 : (Jvm.Cond.static y_Rq_fits) ∈ BIG := big_in (tb_3 (List.mem_of_getElem? (i := 229) rfl)) rfl
theorem k_710 : (Jvm.Cond.code y_Rq_fits prog_7_method_5_code (2 : Nat) (Option.some Jvm.ClassFile.FieldType.boolean)) ∈ BIG := big_in (tb_3 (List.mem_of_getElem? (i := 230) rfl)) rfl
theorem k_711 : (Jvm.Cond.methodLink "DoorServer$Server" (82 : Nat) y_Rq_code) ∈ BIG := big_in (tb_3 (List.mem_of_getElem? (i := 231) rfl)) rfl
theorem k_712 : (Jvm.Cond.instanceMethod y_Rq_code) ∈ BIG := big_in (tb_3 (List.mem_of_getElem? (i := 232) rfl)) rfl
theorem k_713 : (Jvm.Cond.selects "DoorServer$Request" y_Rq_code y_Rq_code) ∈ BIG := big_in (tb_3 (List.mem_of_getElem? (i := 233) rfl)) rfl
theorem k_714 : (Jvm.Cond.code y_Rq_code prog_7_method_11_code (1 : Nat) (Option.some Jvm.ClassFile.FieldType.int)) ∈ BIG := big_in (tb_3 (List.mem_of_getElem? (i := 234) rfl)) rfl
theorem k_715 : (Jvm.Cond.methodLink "DoorServer$Server" (86 : Nat) y_Sv_isProved) ∈ BIG := big_in (tb_3 (List.mem_of_getElem? (i := 235) rfl)) rfl
theorem k_717 : (Jvm.Cond.instanceMethod y_Sv_isProved) ∈ BIG := big_in (tb_3 (List.mem_of_getElem? (i := 237) rfl)) rfl
theorem k_718 : (Jvm.Cond.code y_Sv_isProved prog_8_method_4_code (4 : Nat) (Option.some Jvm.ClassFile.FieldType.boolean)) ∈ BIG := big_in (tb_3 (List.mem_of_getElem? (i := 238) rfl)) rfl
theorem k_719 : (Jvm.Cond.methodLink "DoorServer$Server" (122 : Nat) y_Rq_has) ∈ BIG := big_in (tb_3 (List.mem_of_getElem? (i := 239) rfl)) rfl
theorem k_720 : (Jvm.Cond.instanceMethod y_Rq_has) ∈ BIG := big_in (tb_4 (List.mem_of_getElem? (i := 0) rfl)) rfl
theorem k_721 : (Jvm.Cond.selects "DoorServer$Request" y_Rq_has y_Rq_has) ∈ BIG := big_in (tb_4 (List.mem_of_getElem? (i := 1) rfl)) rfl
theorem k_722 : (Jvm.Cond.code y_Rq_has prog_7_method_6_code (2 : Nat) (Option.some Jvm.ClassFile.FieldType.boolean)) ∈ BIG := big_in (tb_4 (List.mem_of_getElem? (i := 2) rfl)) rfl
theorem k_723 : (Jvm.Cond.methodLink "DoorServer$Server" (125 : Nat) y_Rq_startOf) ∈ BIG := big_in (tb_4 (List.mem_of_getElem? (i := 3) rfl)) rfl
theorem k_724 : (Jvm.Cond.instanceMethod y_Rq_startOf) ∈ BIG := big_in (tb_4 (List.mem_of_getElem? (i := 4) rfl)) rfl
theorem k_725 : (Jvm.Cond.selects "DoorServer$Request" y_Rq_startOf y_Rq_startOf) ∈ BIG := big_in (tb_4 (List.mem_of_getElem? (i := 5) rfl)) rfl
theorem k_726 : (Jvm.Cond.code y_Rq_startOf prog_7_method_7_code (2 : Nat) (Option.some Jvm.ClassFile.FieldType.int)) ∈ BIG := big_in (tb_4 (List.mem_of_getElem? (i := 6) rfl)) rfl
theorem k_727 : (Jvm.Cond.methodLink "DoorServer$Server" (132 : Nat) y_Dg_ofProof) ∈ BIG := big_in (tb_4 (List.mem_of_getElem? (i := 7) rfl)) rfl
theorem k_728 : (Jvm.Cond.methodLink "DoorServer$Server" (136 : Nat) y_By_standsAt) ∈ BIG := big_in (tb_4 (List.mem_of_getElem? (i := 8) rfl)) rfl
theorem k_729 : (Jvm.Cond.static y_By_standsAt) ∈ BIG := big_in (tb_4 (List.mem_of_getElem? (i := 9) rfl)) rfl
theorem k_730 : (Jvm.Cond.code y_By_standsAt prog_3_method_12_code (5 : Nat) (Option.some Jvm.ClassFile.FieldType.boolean)) ∈ BIG := big_in (tb_4 (List.mem_of_getElem? (i := 10) rfl)) rfl
theorem k_731 : (Jvm.Cond.methodLink "DoorServer$Server" (90 : Nat) y_Sv_isSealed) ∈ BIG := big_in (tb_4 (List.mem_of_getElem? (i := 11) rfl)) rfl
theorem k_733 : (Jvm.Cond.instanceMethod y_Sv_isSealed) ∈ BIG := big_in (tb_4 (List.mem_of_getElem? (i := 13) rfl)) rfl
theorem k_734 : (Jvm.Cond.code y_Sv_isSealed prog_8_method_5_code (3 : Nat) (Option.some Jvm.ClassFile.FieldType.boolean)) ∈ BIG := big_in (tb_4 (List.mem_of_getElem? (i := 14) rfl)) rfl
theorem k_735 : (Jvm.Cond.methodLink "DoorServer$Server" (140 : Nat) y_Dg_ofSeal) ∈ BIG := big_in (tb_4 (List.mem_of_getElem? (i := 15) rfl)) rfl
theorem k_736 : (Jvm.Cond.methodLink "DoorServer$Server" (93 : Nat) y_Sv_answersAlike) ∈ BIG := big_in (tb_4 (List.mem_of_getElem? (i := 16) rfl)) rfl
theorem k_738 : (Jvm.Cond.instanceMethod y_Sv_answersAlike) ∈ BIG := big_in (tb_4 (List.mem_of_getElem? (i := 18) rfl)) rfl
theorem k_739 : (Jvm.Cond.code y_Sv_answersAlike prog_8_method_6_code (3 : Nat) (Option.some Jvm.ClassFile.FieldType.boolean)) ∈ BIG := big_in (tb_4 (List.mem_of_getElem? (i := 19) rfl)) rfl
theorem k_740 : (Jvm.Cond.methodLink "DoorServer$Server" (144 : Nat) y_Rq_identifier) ∈ BIG := big_in (tb_4 (List.mem_of_getElem? (i := 20) rfl)) rfl
theorem k_741 : (Jvm.Cond.instanceMethod y_Rq_identifier) ∈ BIG := big_in (tb_4 (List.mem_of_getElem? (i := 21) rfl)) rfl
theorem k_742 : (Jvm.Cond.selects "DoorServer$Request" y_Rq_identifier y_Rq_identifier) ∈ BIG := big_in (tb_4 (List.mem_of_getElem? (i := 22) rfl)) rfl
theorem k_743 : (Jvm.Cond.code y_Rq_identifier prog_7_method_12_code (1 : Nat) (Option.some Jvm.ClassFile.FieldType.int)) ∈ BIG := big_in (tb_4 (List.mem_of_getElem? (i := 23) rfl)) rfl
theorem k_744 : (Jvm.Cond.methodLink "DoorServer$Server" (147 : Nat) y_An_find) ∈ BIG := big_in (tb_4 (List.mem_of_getElem? (i := 24) rfl)) rfl
theorem k_745 : (Jvm.Cond.instanceMethod y_An_find) ∈ BIG := big_in (tb_4 (List.mem_of_getElem? (i := 25) rfl)) rfl
theorem k_746 : (Jvm.Cond.selects "DoorServer$Answers" y_An_find y_An_find) ∈ BIG := big_in (tb_4 (List.mem_of_getElem? (i := 26) rfl)) rfl
theorem k_747 : (Jvm.Cond.code y_An_find prog_2_method_2_code (4 : Nat) (Option.some (Jvm.ClassFile.FieldType.object "DoorServer$Kept"))) ∈ BIG := big_in (tb_4 (List.mem_of_getElem? (i := 27) rfl)) rfl
theorem k_748 : (Jvm.Cond.methodLink "DoorServer$Server" (162 : Nat) y_Pk_becomeRow) ∈ BIG := big_in (tb_4 (List.mem_of_getElem? (i := 28) rfl)) rfl
theorem k_749 : (Jvm.Cond.sameMethod "DoorServer$Packet" "DoorServer$Bytes" "becomeRow" "([III)V") ∈ BIG := big_in (tb_4 (List.mem_of_getElem? (i := 29) rfl)) rfl
theorem k_751 : (Jvm.Cond.selects "DoorServer$Packet" y_Pk_becomeRow y_By_becomeRow) ∈ BIG := big_in (tb_4 (List.mem_of_getElem? (i := 31) rfl)) rfl
theorem k_752 : (Jvm.Cond.methodLink "DoorServer$Server" (100 : Nat) y_Sv_tellsSession) ∈ BIG := big_in (tb_4 (List.mem_of_getElem? (i := 32) rfl)) rfl
theorem k_754 : (Jvm.Cond.instanceMethod y_Sv_tellsSession) ∈ BIG := big_in (tb_4 (List.mem_of_getElem? (i := 34) rfl)) rfl
theorem k_755 : (Jvm.Cond.code y_Sv_tellsSession prog_8_method_7_code (3 : Nat) (Option.some Jvm.ClassFile.FieldType.boolean)) ∈ BIG := big_in (tb_4 (List.mem_of_getElem? (i := 35) rfl)) rfl
theorem k_756 : (Jvm.Cond.methodLink "DoorServer$Server" (169 : Nat) y_Rq_numberOf) ∈ BIG := big_in (tb_4 (List.mem_of_getElem? (i := 36) rfl)) rfl
theorem k_757 : (Jvm.Cond.instanceMethod y_Rq_numberOf) ∈ BIG := big_in (tb_4 (List.mem_of_getElem? (i := 37) rfl)) rfl
theorem k_758 : (Jvm.Cond.selects "DoorServer$Request" y_Rq_numberOf y_Rq_numberOf) ∈ BIG := big_in (tb_4 (List.mem_of_getElem? (i := 38) rfl)) rfl
theorem k_759 : (Jvm.Cond.code y_Rq_numberOf prog_7_method_10_code (6 : Nat) (Option.some Jvm.ClassFile.FieldType.long)) ∈ BIG := big_in (tb_4 (List.mem_of_getElem? (i := 39) rfl)) rfl
theorem k_760 : (Jvm.Cond.methodLink "DoorServer$Request" (46 : Nat) y_Rq_has) ∈ BIG := big_in (tb_4 (List.mem_of_getElem? (i := 40) rfl)) rfl
theorem k_761 : (Jvm.Cond.methodLink "DoorServer$Request" (49 : Nat) y_Rq_lengthOf) ∈ BIG := big_in (tb_4 (List.mem_of_getElem? (i := 41) rfl)) rfl
theorem k_762 : (Jvm.Cond.instanceMethod y_Rq_lengthOf) ∈ BIG := big_in (tb_4 (List.mem_of_getElem? (i := 42) rfl)) rfl
theorem k_763 : (Jvm.Cond.selects "DoorServer$Request" y_Rq_lengthOf y_Rq_lengthOf) ∈ BIG := big_in (tb_4 (List.mem_of_getElem? (i := 43) rfl)) rfl
theorem k_764 : (Jvm.Cond.code y_Rq_lengthOf prog_7_method_8_code (2 : Nat) (Option.some Jvm.ClassFile.FieldType.int)) ∈ BIG := big_in (tb_4 (List.mem_of_getElem? (i := 44) rfl)) rfl
theorem k_765 : (Jvm.Cond.methodLink "DoorServer$Request" (53 : Nat) y_Rq_byteOf) ∈ BIG := big_in (tb_4 (List.mem_of_getElem? (i := 45) rfl)) rfl
theorem k_766 : (Jvm.Cond.instanceMethod y_Rq_byteOf) ∈ BIG := big_in (tb_4 (List.mem_of_getElem? (i := 46) rfl)) rfl
theorem k_767 : (Jvm.Cond.selects "DoorServer$Request" y_Rq_byteOf y_Rq_byteOf) ∈ BIG := big_in (tb_4 (List.mem_of_getElem? (i := 47) rfl)) rfl
theorem k_768 : (Jvm.Cond.code y_Rq_byteOf prog_7_method_9_code (3 : Nat) (Option.some Jvm.ClassFile.FieldType.int)) ∈ BIG := big_in (tb_4 (List.mem_of_getElem? (i := 48) rfl)) rfl
theorem k_769 : (Jvm.Cond.constantLong "DoorServer$Server" (173 : Nat) (3 : Int64)) ∈ BIG := big_in (tb_4 (List.mem_of_getElem? (i := 49) rfl)) rfl
theorem k_770 : (Jvm.Cond.methodLink "DoorServer$Server" (106 : Nat) y_Ss_write) ∈ BIG := big_in (tb_4 (List.mem_of_getElem? (i := 50) rfl)) rfl
theorem k_771 : (Jvm.Cond.instanceMethod y_Ss_write) ∈ BIG := big_in (tb_4 (List.mem_of_getElem? (i := 51) rfl)) rfl
theorem k_772 : (Jvm.Cond.selects "DoorServer$Sessions" y_Ss_write y_Ss_write) ∈ BIG := big_in (tb_4 (List.mem_of_getElem? (i := 52) rfl)) rfl
theorem k_773 : (Jvm.Cond.code y_Ss_write prog_10_method_2_code (7 : Nat) (Option.none : Option Jvm.ClassFile.FieldType)) ∈ BIG := big_in (tb_4 (List.mem_of_getElem? (i := 53) rfl)) rfl
theorem k_774 : (Jvm.Cond.methodLink "DoorServer$Sessions" (18 : Nat) y_Ss_placeOf) ∈ BIG := big_in (tb_4 (List.mem_of_getElem? (i := 54) rfl)) rfl
theorem k_776 : (Jvm.Cond.instanceMethod y_Ss_placeOf) ∈ BIG := big_in (tb_4 (List.mem_of_getElem? (i := 56) rfl)) rfl
theorem k_777 : (Jvm.Cond.code y_Ss_placeOf prog_10_method_3_code (4 : Nat) (Option.some Jvm.ClassFile.FieldType.int)) ∈ BIG := big_in (tb_4 (List.mem_of_getElem? (i := 57) rfl)) rfl
theorem k_778 : (Jvm.Cond.methodLink "DoorServer$Sessions" (26 : Nat) y_Se_compareWith) ∈ BIG := big_in (tb_4 (List.mem_of_getElem? (i := 58) rfl)) rfl
theorem k_779 : (Jvm.Cond.instanceMethod y_Se_compareWith) ∈ BIG := big_in (tb_4 (List.mem_of_getElem? (i := 59) rfl)) rfl
theorem k_780 : (Jvm.Cond.selects "DoorServer$Session" y_Se_compareWith y_Se_compareWith) ∈ BIG := big_in (tb_4 (List.mem_of_getElem? (i := 60) rfl)) rfl
theorem k_781 : (Jvm.Cond.code y_Se_compareWith prog_9_method_2_code (6 : Nat) (Option.some Jvm.ClassFile.FieldType.int)) ∈ BIG := big_in (tb_4 (List.mem_of_getElem? (i := 61) rfl)) rfl
theorem k_782 : (Jvm.Cond.methodLink "DoorServer$Session" (24 : Nat) y_Rq_lengthOf) ∈ BIG := big_in (tb_4 (List.mem_of_getElem? (i := 62) rfl)) rfl
theorem k_783 : (Jvm.Cond.methodLink "DoorServer$Session" (37 : Nat) y_Rq_byteOf) ∈ BIG := big_in (tb_4 (List.mem_of_getElem? (i := 63) rfl)) rfl
theorem k_784 : (Jvm.Cond.methodLink "DoorServer$Sessions" (29 : Nat) y_Ss_makeRoom) ∈ BIG := big_in (tb_4 (List.mem_of_getElem? (i := 64) rfl)) rfl
theorem k_786 : (Jvm.Cond.instanceMethod y_Ss_makeRoom) ∈ BIG := big_in (tb_4 (List.mem_of_getElem? (i := 66) rfl)) rfl
theorem k_787 : (Jvm.Cond.code y_Ss_makeRoom prog_10_method_4_code (4 : Nat) (Option.none : Option Jvm.ClassFile.FieldType)) ∈ BIG := big_in (tb_4 (List.mem_of_getElem? (i := 67) rfl)) rfl
theorem k_788 : (Jvm.Cond.methodLink "DoorServer$Sessions" (33 : Nat) y_Se_come) ∈ BIG := big_in (tb_4 (List.mem_of_getElem? (i := 68) rfl)) rfl
theorem k_789 : (Jvm.Cond.instanceMethod y_Se_come) ∈ BIG := big_in (tb_4 (List.mem_of_getElem? (i := 69) rfl)) rfl
theorem k_790 : (Jvm.Cond.selects "DoorServer$Session" y_Se_come y_Se_come) ∈ BIG := big_in (tb_4 (List.mem_of_getElem? (i := 70) rfl)) rfl
theorem k_791 : (Jvm.Cond.code y_Se_come prog_9_method_3_code (4 : Nat) (Option.none : Option Jvm.ClassFile.FieldType)) ∈ BIG := big_in (tb_4 (List.mem_of_getElem? (i := 71) rfl)) rfl
theorem k_792 : (Jvm.Cond.methodLink "DoorServer$Session" (48 : Nat) y_Rq_startOf) ∈ BIG := big_in (tb_4 (List.mem_of_getElem? (i := 72) rfl)) rfl
theorem k_793 : (Jvm.Cond.methodLink "DoorServer$Session" (51 : Nat) y_By_becomeRow) ∈ BIG := big_in (tb_4 (List.mem_of_getElem? (i := 73) rfl)) rfl
theorem k_794 : (Jvm.Cond.methodLink "DoorServer$Sessions" (37 : Nat) y_Rq_numberOf) ∈ BIG := big_in (tb_4 (List.mem_of_getElem? (i := 74) rfl)) rfl
theorem k_795 : (Jvm.Cond.constantLong "DoorServer$Sessions" (47 : Nat) (2 : Int64)) ∈ BIG := big_in (tb_4 (List.mem_of_getElem? (i := 75) rfl)) rfl
theorem k_796 : (Jvm.Cond.methodLink "DoorServer$Sessions" (49 : Nat) y_Se_change) ∈ BIG := big_in (tb_4 (List.mem_of_getElem? (i := 76) rfl)) rfl
theorem k_797 : (Jvm.Cond.instanceMethod y_Se_change) ∈ BIG := big_in (tb_4 (List.mem_of_getElem? (i := 77) rfl)) rfl
theorem k_798 : (Jvm.Cond.selects "DoorServer$Session" y_Se_change y_Se_change) ∈ BIG := big_in (tb_4 (List.mem_of_getElem? (i := 78) rfl)) rfl
theorem k_799 : (Jvm.Cond.code y_Se_change prog_9_method_4_code (4 : Nat) (Option.none : Option Jvm.ClassFile.FieldType)) ∈ BIG := big_in (tb_4 (List.mem_of_getElem? (i := 79) rfl)) rfl
theorem k_800 : (Jvm.Cond.methodLink "DoorServer$Session" (68 : Nat) y_Rq_numberOf) ∈ BIG := big_in (tb_4 (List.mem_of_getElem? (i := 80) rfl)) rfl
theorem k_801 : (Jvm.Cond.methodLink "DoorServer$Session" (72 : Nat) y_Ma_max) ∈ BIG := big_in (tb_4 (List.mem_of_getElem? (i := 81) rfl)) rfl
theorem k_802 : (Jvm.Cond.static y_Ma_max) ∈ BIG := big_in (tb_4 (List.mem_of_getElem? (i := 82) rfl)) rfl
theorem k_803 : (Jvm.Cond.code y_Ma_max prog_18_method_66_code (4 : Nat) (Option.some Jvm.ClassFile.FieldType.long)) ∈ BIG := big_in (tb_4 (List.mem_of_getElem? (i := 83) rfl)) rfl
theorem k_804 : (Jvm.Cond.methodLink "DoorServer$Server" (110 : Nat) y_Sv_beginAnswer) ∈ BIG := big_in (tb_4 (List.mem_of_getElem? (i := 84) rfl)) rfl
theorem k_806 : (Jvm.Cond.instanceMethod y_Sv_beginAnswer) ∈ BIG := big_in (tb_4 (List.mem_of_getElem? (i := 86) rfl)) rfl
theorem k_807 : (Jvm.Cond.code y_Sv_beginAnswer prog_8_method_12_code (2 : Nat) (Option.none : Option Jvm.ClassFile.FieldType)) ∈ BIG := big_in (tb_4 (List.mem_of_getElem? (i := 87) rfl)) rfl
theorem k_808 : (Jvm.Cond.methodLink "DoorServer$Server" (248 : Nat) y_Pk_begin) ∈ BIG := big_in (tb_4 (List.mem_of_getElem? (i := 88) rfl)) rfl
theorem k_809 : (Jvm.Cond.methodLink "DoorServer$Server" (252 : Nat) y_Sy_arraycopy) ∈ BIG := big_in (tb_4 (List.mem_of_getElem? (i := 89) rfl)) rfl
theorem k_810 : (Jvm.Cond.methodLink "DoorServer$Server" (113 : Nat) y_Sv_judge) ∈ BIG := big_in (tb_4 (List.mem_of_getElem? (i := 90) rfl)) rfl
theorem k_812 : (Jvm.Cond.instanceMethod y_Sv_judge) ∈ BIG := big_in (tb_4 (List.mem_of_getElem? (i := 92) rfl)) rfl
theorem k_813 : (Jvm.Cond.code y_Sv_judge prog_8_method_8_code (7 : Nat) (Option.none : Option Jvm.ClassFile.FieldType)) ∈ BIG := big_in (tb_4 (List.mem_of_getElem? (i := 93) rfl)) rfl
theorem k_814 : (Jvm.Cond.methodLink "DoorServer$Server" (175 : Nat) y_Sv_toldUser) ∈ BIG := big_in (tb_4 (List.mem_of_getElem? (i := 94) rfl)) rfl
theorem k_816 : (Jvm.Cond.instanceMethod y_Sv_toldUser) ∈ BIG := big_in (tb_4 (List.mem_of_getElem? (i := 96) rfl)) rfl
theorem k_817 : (Jvm.Cond.code y_Sv_toldUser prog_8_method_9_code (2 : Nat) (Option.some Jvm.ClassFile.FieldType.int)) ∈ BIG := big_in (tb_4 (List.mem_of_getElem? (i := 97) rfl)) rfl
theorem k_818 : (Jvm.Cond.methodLink "DoorServer$Server" (203 : Nat) y_Rq_namedUser) ∈ BIG := big_in (tb_4 (List.mem_of_getElem? (i := 98) rfl)) rfl
theorem k_819 : (Jvm.Cond.instanceMethod y_Rq_namedUser) ∈ BIG := big_in (tb_4 (List.mem_of_getElem? (i := 99) rfl)) rfl
theorem k_820 : (Jvm.Cond.selects "DoorServer$Request" y_Rq_namedUser y_Rq_namedUser) ∈ BIG := big_in (tb_4 (List.mem_of_getElem? (i := 100) rfl)) rfl
theorem k_821 : (Jvm.Cond.code y_Rq_namedUser prog_7_method_13_code (3 : Nat) (Option.some Jvm.ClassFile.FieldType.int)) ∈ BIG := big_in (tb_4 (List.mem_of_getElem? (i := 101) rfl)) rfl
theorem k_822 : (Jvm.Cond.methodLink "DoorServer$Server" (206 : Nat) y_Sv_isTold) ∈ BIG := big_in (tb_4 (List.mem_of_getElem? (i := 102) rfl)) rfl
theorem k_823 : (Jvm.Cond.methodLink "DoorServer$Server" (178 : Nat) y_Rq_talkKind) ∈ BIG := big_in (tb_4 (List.mem_of_getElem? (i := 103) rfl)) rfl
theorem k_824 : (Jvm.Cond.instanceMethod y_Rq_talkKind) ∈ BIG := big_in (tb_4 (List.mem_of_getElem? (i := 104) rfl)) rfl
theorem k_825 : (Jvm.Cond.selects "DoorServer$Request" y_Rq_talkKind y_Rq_talkKind) ∈ BIG := big_in (tb_4 (List.mem_of_getElem? (i := 105) rfl)) rfl
theorem k_826 : (Jvm.Cond.code y_Rq_talkKind prog_7_method_14_code (3 : Nat) (Option.some Jvm.ClassFile.FieldType.int)) ∈ BIG := big_in (tb_4 (List.mem_of_getElem? (i := 106) rfl)) rfl
theorem k_827 : (Jvm.Cond.methodLink "DoorServer$Server" (181 : Nat) y_Rq_talkNumber) ∈ BIG := big_in (tb_4 (List.mem_of_getElem? (i := 107) rfl)) rfl
theorem k_828 : (Jvm.Cond.instanceMethod y_Rq_talkNumber) ∈ BIG := big_in (tb_4 (List.mem_of_getElem? (i := 108) rfl)) rfl
theorem k_829 : (Jvm.Cond.selects "DoorServer$Request" y_Rq_talkNumber y_Rq_talkNumber) ∈ BIG := big_in (tb_4 (List.mem_of_getElem? (i := 109) rfl)) rfl
theorem k_830 : (Jvm.Cond.code y_Rq_talkNumber prog_7_method_15_code (1 : Nat) (Option.some Jvm.ClassFile.FieldType.int)) ∈ BIG := big_in (tb_4 (List.mem_of_getElem? (i := 110) rfl)) rfl
theorem k_831 : (Jvm.Cond.methodLink "DoorServer$Server" (184 : Nat) y_Ts_give) ∈ BIG := big_in (tb_4 (List.mem_of_getElem? (i := 111) rfl)) rfl
theorem k_832 : (Jvm.Cond.instanceMethod y_Ts_give) ∈ BIG := big_in (tb_4 (List.mem_of_getElem? (i := 112) rfl)) rfl
theorem k_833 : (Jvm.Cond.selects "DoorServer$Trials" y_Ts_give y_Ts_give) ∈ BIG := big_in (tb_4 (List.mem_of_getElem? (i := 113) rfl)) rfl
theorem k_834 : (Jvm.Cond.code y_Ts_give prog_12_method_2_code (7 : Nat) (Option.some (Jvm.ClassFile.FieldType.object "DoorServer$Trial"))) ∈ BIG := big_in (tb_4 (List.mem_of_getElem? (i := 114) rfl)) rfl
theorem k_835 : (Jvm.Cond.methodLink "DoorServer$Trials" (22 : Nat) y_Ts_freePlace) ∈ BIG := big_in (tb_4 (List.mem_of_getElem? (i := 115) rfl)) rfl
theorem k_837 : (Jvm.Cond.instanceMethod y_Ts_freePlace) ∈ BIG := big_in (tb_4 (List.mem_of_getElem? (i := 117) rfl)) rfl
theorem k_838 : (Jvm.Cond.code y_Ts_freePlace prog_12_method_4_code (3 : Nat) (Option.some (Jvm.ClassFile.FieldType.object "DoorServer$Trial"))) ∈ BIG := big_in (tb_4 (List.mem_of_getElem? (i := 118) rfl)) rfl
theorem k_839 : (Jvm.Cond.constantLong "DoorServer$Trials" (49 : Nat) (6364136223846793005 : Int64)) ∈ BIG := big_in (tb_4 (List.mem_of_getElem? (i := 119) rfl)) rfl
theorem k_840 : (Jvm.Cond.constantLong "DoorServer$Trials" (51 : Nat) (1442695040888963407 : Int64)) ∈ BIG := big_in (tb_4 (List.mem_of_getElem? (i := 120) rfl)) rfl
theorem k_841 : (Jvm.Cond.methodLink "DoorServer$Server" (188 : Nat) y_Sv_appendChallenge) ∈ BIG := big_in (tb_4 (List.mem_of_getElem? (i := 121) rfl)) rfl
theorem k_843 : (Jvm.Cond.instanceMethod y_Sv_appendChallenge) ∈ BIG := big_in (tb_4 (List.mem_of_getElem? (i := 123) rfl)) rfl
theorem k_844 : (Jvm.Cond.code y_Sv_appendChallenge prog_8_method_13_code (2 : Nat) (Option.none : Option Jvm.ClassFile.FieldType)) ∈ BIG := big_in (tb_4 (List.mem_of_getElem? (i := 124) rfl)) rfl
theorem k_845 : (Jvm.Cond.methodLink "DoorServer$Server" (258 : Nat) y_Pk_open) ∈ BIG := big_in (tb_4 (List.mem_of_getElem? (i := 125) rfl)) rfl
theorem k_846 : (Jvm.Cond.methodLink "DoorServer$Server" (265 : Nat) y_Pk_appendNumber) ∈ BIG := big_in (tb_4 (List.mem_of_getElem? (i := 126) rfl)) rfl
theorem k_847 : (Jvm.Cond.methodLink "DoorServer$Server" (199 : Nat) y_Pk_openTalk) ∈ BIG := big_in (tb_4 (List.mem_of_getElem? (i := 127) rfl)) rfl
theorem k_848 : (Jvm.Cond.methodLink "DoorServer$Server" (269 : Nat) y_Pk_append) ∈ BIG := big_in (tb_4 (List.mem_of_getElem? (i := 128) rfl)) rfl
theorem k_849 : (Jvm.Cond.methodLink "DoorServer$Server" (270 : Nat) y_Pk_appendRow) ∈ BIG := big_in (tb_4 (List.mem_of_getElem? (i := 129) rfl)) rfl
theorem k_850 : (Jvm.Cond.methodLink "DoorServer$Server" (192 : Nat) y_Sv_passwordHolds) ∈ BIG := big_in (tb_4 (List.mem_of_getElem? (i := 130) rfl)) rfl
theorem k_852 : (Jvm.Cond.instanceMethod y_Sv_passwordHolds) ∈ BIG := big_in (tb_4 (List.mem_of_getElem? (i := 132) rfl)) rfl
theorem k_853 : (Jvm.Cond.code y_Sv_passwordHolds prog_8_method_10_code (7 : Nat) (Option.some Jvm.ClassFile.FieldType.boolean)) ∈ BIG := big_in (tb_4 (List.mem_of_getElem? (i := 133) rfl)) rfl
theorem k_854 : (Jvm.Cond.methodLink "DoorServer$Server" (209 : Nat) y_Rq_lengthOf) ∈ BIG := big_in (tb_4 (List.mem_of_getElem? (i := 134) rfl)) rfl
theorem k_855 : (Jvm.Cond.methodLink "DoorServer$Server" (212 : Nat) y_Dg_ofMask) ∈ BIG := big_in (tb_4 (List.mem_of_getElem? (i := 135) rfl)) rfl
theorem k_856 : (Jvm.Cond.methodLink "DoorServer$Server" (216 : Nat) y_By_appendMasked) ∈ BIG := big_in (tb_4 (List.mem_of_getElem? (i := 136) rfl)) rfl
theorem k_857 : (Jvm.Cond.instanceMethod y_By_appendMasked) ∈ BIG := big_in (tb_4 (List.mem_of_getElem? (i := 137) rfl)) rfl
theorem k_858 : (Jvm.Cond.selects "DoorServer$Bytes" y_By_appendMasked y_By_appendMasked) ∈ BIG := big_in (tb_4 (List.mem_of_getElem? (i := 138) rfl)) rfl
theorem k_859 : (Jvm.Cond.sameMethod "DoorServer$Bytes" "DoorServer$Bytes" "appendMasked" "([II[I)V") ∈ BIG := big_in (tb_4 (List.mem_of_getElem? (i := 139) rfl)) rfl
theorem k_860 : (Jvm.Cond.selects "DoorServer$Packet" y_By_appendMasked y_By_appendMasked) ∈ BIG := big_in (tb_4 (List.mem_of_getElem? (i := 140) rfl)) rfl
theorem k_861 : (Jvm.Cond.code y_By_appendMasked prog_3_method_9_code (5 : Nat) (Option.none : Option Jvm.ClassFile.FieldType)) ∈ BIG := big_in (tb_4 (List.mem_of_getElem? (i := 141) rfl)) rfl
theorem k_862 : (Jvm.Cond.methodLink "DoorServer$Server" (220 : Nat) y_By_dropZerosBehind) ∈ BIG := big_in (tb_4 (List.mem_of_getElem? (i := 142) rfl)) rfl
theorem k_863 : (Jvm.Cond.instanceMethod y_By_dropZerosBehind) ∈ BIG := big_in (tb_4 (List.mem_of_getElem? (i := 143) rfl)) rfl
theorem k_864 : (Jvm.Cond.selects "DoorServer$Bytes" y_By_dropZerosBehind y_By_dropZerosBehind) ∈ BIG := big_in (tb_4 (List.mem_of_getElem? (i := 144) rfl)) rfl
theorem k_865 : (Jvm.Cond.sameMethod "DoorServer$Bytes" "DoorServer$Bytes" "dropZerosBehind" "()V") ∈ BIG := big_in (tb_4 (List.mem_of_getElem? (i := 145) rfl)) rfl
theorem k_866 : (Jvm.Cond.selects "DoorServer$Packet" y_By_dropZerosBehind y_By_dropZerosBehind) ∈ BIG := big_in (tb_4 (List.mem_of_getElem? (i := 146) rfl)) rfl
theorem k_867 : (Jvm.Cond.code y_By_dropZerosBehind prog_3_method_10_code (1 : Nat) (Option.none : Option Jvm.ClassFile.FieldType)) ∈ BIG := big_in (tb_4 (List.mem_of_getElem? (i := 147) rfl)) rfl
theorem k_868 : (Jvm.Cond.methodLink "DoorServer$Server" (223 : Nat) y_By_isAlike) ∈ BIG := big_in (tb_4 (List.mem_of_getElem? (i := 148) rfl)) rfl
theorem k_869 : (Jvm.Cond.instanceMethod y_By_isAlike) ∈ BIG := big_in (tb_4 (List.mem_of_getElem? (i := 149) rfl)) rfl
theorem k_870 : (Jvm.Cond.selects "DoorServer$Bytes" y_By_isAlike y_By_isAlike) ∈ BIG := big_in (tb_4 (List.mem_of_getElem? (i := 150) rfl)) rfl
theorem k_871 : (Jvm.Cond.sameMethod "DoorServer$Bytes" "DoorServer$Bytes" "isAlike" "(LDoorServer$Bytes;)Z") ∈ BIG := big_in (tb_4 (List.mem_of_getElem? (i := 151) rfl)) rfl
theorem k_872 : (Jvm.Cond.selects "DoorServer$Packet" y_By_isAlike y_By_isAlike) ∈ BIG := big_in (tb_4 (List.mem_of_getElem? (i := 152) rfl)) rfl
theorem k_873 : (Jvm.Cond.code y_By_isAlike prog_3_method_11_code (2 : Nat) (Option.some Jvm.ClassFile.FieldType.boolean)) ∈ BIG := big_in (tb_4 (List.mem_of_getElem? (i := 153) rfl)) rfl
theorem k_874 : (Jvm.Cond.methodLink "DoorServer$Bytes" (39 : Nat) y_By_standsAt) ∈ BIG := big_in (tb_4 (List.mem_of_getElem? (i := 154) rfl)) rfl
theorem k_875 : (Jvm.Cond.methodLink "DoorServer$Server" (196 : Nat) y_Sv_replyHolds) ∈ BIG := big_in (tb_4 (List.mem_of_getElem? (i := 155) rfl)) rfl
theorem k_877 : (Jvm.Cond.instanceMethod y_Sv_replyHolds) ∈ BIG := big_in (tb_4 (List.mem_of_getElem? (i := 157) rfl)) rfl
theorem k_878 : (Jvm.Cond.code y_Sv_replyHolds prog_8_method_11_code (5 : Nat) (Option.some Jvm.ClassFile.FieldType.boolean)) ∈ BIG := big_in (tb_4 (List.mem_of_getElem? (i := 158) rfl)) rfl
theorem k_879 : (Jvm.Cond.methodLink "DoorServer$Server" (227 : Nat) y_Ts_take) ∈ BIG := big_in (tb_4 (List.mem_of_getElem? (i := 159) rfl)) rfl
theorem k_880 : (Jvm.Cond.instanceMethod y_Ts_take) ∈ BIG := big_in (tb_4 (List.mem_of_getElem? (i := 160) rfl)) rfl
theorem k_881 : (Jvm.Cond.selects "DoorServer$Trials" y_Ts_take y_Ts_take) ∈ BIG := big_in (tb_4 (List.mem_of_getElem? (i := 161) rfl)) rfl
theorem k_882 : (Jvm.Cond.code y_Ts_take prog_12_method_3_code (7 : Nat) (Option.some (Jvm.ClassFile.FieldType.object "DoorServer$Trial"))) ∈ BIG := big_in (tb_4 (List.mem_of_getElem? (i := 162) rfl)) rfl
theorem k_883 : (Jvm.Cond.methodLink "DoorServer$Server" (237 : Nat) y_Rq_byteOf) ∈ BIG := big_in (tb_4 (List.mem_of_getElem? (i := 163) rfl)) rfl
theorem k_884 : (Jvm.Cond.methodLink "DoorServer$Server" (244 : Nat) y_Dg_ofReply) ∈ BIG := big_in (tb_4 (List.mem_of_getElem? (i := 164) rfl)) rfl
theorem k_885 : (Jvm.Cond.methodLink "DoorServer$Server" (116 : Nat) y_Sv_appendProof) ∈ BIG := big_in (tb_4 (List.mem_of_getElem? (i := 165) rfl)) rfl
theorem k_887 : (Jvm.Cond.instanceMethod y_Sv_appendProof) ∈ BIG := big_in (tb_4 (List.mem_of_getElem? (i := 167) rfl)) rfl
theorem k_888 : (Jvm.Cond.code y_Sv_appendProof prog_8_method_14_code (3 : Nat) (Option.none : Option Jvm.ClassFile.FieldType)) ∈ BIG := big_in (tb_4 (List.mem_of_getElem? (i := 168) rfl)) rfl
theorem k_889 : (Jvm.Cond.methodLink "DoorServer$Server" (274 : Nat) y_Pk_appendZeros) ∈ BIG := big_in (tb_4 (List.mem_of_getElem? (i := 169) rfl)) rfl
theorem k_890 : (Jvm.Cond.methodLink "DoorServer$Server" (277 : Nat) y_Pk_tellLength) ∈ BIG := big_in (tb_4 (List.mem_of_getElem? (i := 170) rfl)) rfl
theorem k_891 : (Jvm.Cond.methodLink "DoorServer$Server" (280 : Nat) y_Pk_write) ∈ BIG := big_in (tb_4 (List.mem_of_getElem? (i := 171) rfl)) rfl
theorem k_892 : (Jvm.Cond.methodLink "DoorServer$Server" (119 : Nat) y_Sv_finishAnswer) ∈ BIG := big_in (tb_4 (List.mem_of_getElem? (i := 172) rfl)) rfl
theorem k_894 : (Jvm.Cond.instanceMethod y_Sv_finishAnswer) ∈ BIG := big_in (tb_4 (List.mem_of_getElem? (i := 174) rfl)) rfl
theorem k_895 : (Jvm.Cond.code y_Sv_finishAnswer prog_8_method_15_code (2 : Nat) (Option.none : Option Jvm.ClassFile.FieldType)) ∈ BIG := big_in (tb_4 (List.mem_of_getElem? (i := 175) rfl)) rfl
theorem k_896 : (Jvm.Cond.methodLink "DoorServer$Server" (283 : Nat) y_Dg_ofAnswer) ∈ BIG := big_in (tb_4 (List.mem_of_getElem? (i := 176) rfl)) rfl
theorem k_897 : (Jvm.Cond.instanceMethod y_Dg_ofAnswer) ∈ BIG := big_in (tb_4 (List.mem_of_getElem? (i := 177) rfl)) rfl
theorem k_898 : (Jvm.Cond.selects "DoorServer$Digests" y_Dg_ofAnswer y_Dg_ofAnswer) ∈ BIG := big_in (tb_4 (List.mem_of_getElem? (i := 178) rfl)) rfl
theorem k_899 : (Jvm.Cond.code y_Dg_ofAnswer prog_4_method_4_code (3 : Nat) (Option.some (Jvm.ClassFile.FieldType.array Jvm.ClassFile.FieldType.int))) ∈ BIG := big_in (tb_4 (List.mem_of_getElem? (i := 179) rfl)) rfl
theorem k_900 : (Jvm.Cond.methodLink "DoorServer$Server" (286 : Nat) y_An_keep) ∈ BIG := big_in (tb_4 (List.mem_of_getElem? (i := 180) rfl)) rfl
theorem k_901 : (Jvm.Cond.instanceMethod y_An_keep) ∈ BIG := big_in (tb_4 (List.mem_of_getElem? (i := 181) rfl)) rfl
theorem k_902 : (Jvm.Cond.selects "DoorServer$Answers" y_An_keep y_An_keep) ∈ BIG := big_in (tb_4 (List.mem_of_getElem? (i := 182) rfl)) rfl
theorem k_903 : (Jvm.Cond.code y_An_keep prog_2_method_3_code (6 : Nat) (Option.none : Option Jvm.ClassFile.FieldType)) ∈ BIG := big_in (tb_4 (List.mem_of_getElem? (i := 183) rfl)) rfl
theorem k_904 : (Jvm.Cond.methodLink "DoorServer$Answers" (28 : Nat) y_Rq_identifier) ∈ BIG := big_in (tb_4 (List.mem_of_getElem? (i := 184) rfl)) rfl
theorem k_905 : (Jvm.Cond.methodLink "DoorServer$Answers" (33 : Nat) y_An_find) ∈ BIG := big_in (tb_4 (List.mem_of_getElem? (i := 185) rfl)) rfl
theorem k_906 : (Jvm.Cond.methodLink "DoorServer$Answers" (37 : Nat) y_An_freePlace) ∈ BIG := big_in (tb_4 (List.mem_of_getElem? (i := 186) rfl)) rfl
theorem k_908 : (Jvm.Cond.instanceMethod y_An_freePlace) ∈ BIG := big_in (tb_4 (List.mem_of_getElem? (i := 188) rfl)) rfl
theorem k_909 : (Jvm.Cond.code y_An_freePlace prog_2_method_4_code (3 : Nat) (Option.some (Jvm.ClassFile.FieldType.object "DoorServer$Kept"))) ∈ BIG := big_in (tb_4 (List.mem_of_getElem? (i := 189) rfl)) rfl
theorem k_910 : (Jvm.Cond.methodLink "DoorServer$Answers" (63 : Nat) y_Sy_arraycopy) ∈ BIG := big_in (tb_4 (List.mem_of_getElem? (i := 190) rfl)) rfl
theorem k_911 : (Jvm.Cond.methodLink "DoorServer$Answers" (76 : Nat) y_By_becomeRow) ∈ BIG := big_in (tb_4 (List.mem_of_getElem? (i := 191) rfl)) rfl
theorem k_912 : (Jvm.Cond.methodLink "DoorServerLaw" (137 : Nat) y_Lw_byteAt) ∈ BIG := big_in (tb_4 (List.mem_of_getElem? (i := 192) rfl)) rfl
theorem k_913 : (Jvm.Cond.static y_Lw_byteAt) ∈ BIG := big_in (tb_4 (List.mem_of_getElem? (i := 193) rfl)) rfl
theorem k_915 : (Jvm.Cond.methodLink "DoorServerLaw" (61 : Nat) y_DS_byteAt) ∈ BIG := big_in (tb_4 (List.mem_of_getElem? (i := 195) rfl)) rfl
theorem k_916 : (Jvm.Cond.instanceMethod y_DS_byteAt) ∈ BIG := big_in (tb_4 (List.mem_of_getElem? (i := 196) rfl)) rfl
theorem k_917 : (Jvm.Cond.selects "DoorServer" y_DS_byteAt y_DS_byteAt) ∈ BIG := big_in (tb_4 (List.mem_of_getElem? (i := 197) rfl)) rfl
theorem k_918 : (Jvm.Cond.code y_DS_byteAt prog_1_method_16_code (2 : Nat) (Option.some Jvm.ClassFile.FieldType.int)) ∈ BIG := big_in (tb_4 (List.mem_of_getElem? (i := 198) rfl)) rfl
theorem k_919 : (Jvm.Cond.methodLink "DoorServerLaw" (140 : Nat) y_Lw_ticks) ∈ BIG := big_in (tb_4 (List.mem_of_getElem? (i := 199) rfl)) rfl
theorem k_920 : (Jvm.Cond.static y_Lw_ticks) ∈ BIG := big_in (tb_4 (List.mem_of_getElem? (i := 200) rfl)) rfl
theorem k_922 : (Jvm.Cond.methodLink "DoorServerLaw" (64 : Nat) y_DS_ticks) ∈ BIG := big_in (tb_4 (List.mem_of_getElem? (i := 202) rfl)) rfl
theorem k_923 : (Jvm.Cond.instanceMethod y_DS_ticks) ∈ BIG := big_in (tb_4 (List.mem_of_getElem? (i := 203) rfl)) rfl
theorem k_924 : (Jvm.Cond.selects "DoorServer" y_DS_ticks y_DS_ticks) ∈ BIG := big_in (tb_4 (List.mem_of_getElem? (i := 204) rfl)) rfl
theorem k_925 : (Jvm.Cond.code y_DS_ticks prog_1_method_17_code (2 : Nat) (Option.some Jvm.ClassFile.FieldType.int)) ∈ BIG := big_in (tb_4 (List.mem_of_getElem? (i := 205) rfl)) rfl
theorem k_926 : (Jvm.Cond.constant "DoorServer" (152 : Nat) (1000000 : Int32)) ∈ BIG := big_in (tb_4 (List.mem_of_getElem? (i := 206) rfl)) rfl
theorem k_927 : (Jvm.Cond.methodLink "DoorServerLaw" (143 : Nat) y_Lw_count) ∈ BIG := big_in (tb_4 (List.mem_of_getElem? (i := 207) rfl)) rfl
theorem k_928 : (Jvm.Cond.static y_Lw_count) ∈ BIG := big_in (tb_4 (List.mem_of_getElem? (i := 208) rfl)) rfl
theorem k_930 : (Jvm.Cond.methodLink "DoorServerLaw" (67 : Nat) y_DS_count) ∈ BIG := big_in (tb_4 (List.mem_of_getElem? (i := 210) rfl)) rfl
theorem k_931 : (Jvm.Cond.instanceMethod y_DS_count) ∈ BIG := big_in (tb_4 (List.mem_of_getElem? (i := 211) rfl)) rfl
theorem k_932 : (Jvm.Cond.selects "DoorServer" y_DS_count y_DS_count) ∈ BIG := big_in (tb_4 (List.mem_of_getElem? (i := 212) rfl)) rfl
theorem k_933 : (Jvm.Cond.code y_DS_count prog_1_method_18_code (2 : Nat) (Option.some Jvm.ClassFile.FieldType.int)) ∈ BIG := big_in (tb_4 (List.mem_of_getElem? (i := 213) rfl)) rfl
theorem k_934 : (Jvm.Cond.methodLink "DoorServerLaw" (146 : Nat) y_Lw_record) ∈ BIG := big_in (tb_4 (List.mem_of_getElem? (i := 214) rfl)) rfl
theorem k_935 : (Jvm.Cond.static y_Lw_record) ∈ BIG := big_in (tb_4 (List.mem_of_getElem? (i := 215) rfl)) rfl
theorem k_937 : (Jvm.Cond.methodLink "DoorServerLaw" (70 : Nat) y_DS_record) ∈ BIG := big_in (tb_4 (List.mem_of_getElem? (i := 217) rfl)) rfl
theorem k_938 : (Jvm.Cond.instanceMethod y_DS_record) ∈ BIG := big_in (tb_4 (List.mem_of_getElem? (i := 218) rfl)) rfl
theorem k_939 : (Jvm.Cond.selects "DoorServer" y_DS_record y_DS_record) ∈ BIG := big_in (tb_4 (List.mem_of_getElem? (i := 219) rfl)) rfl
theorem k_940 : (Jvm.Cond.code y_DS_record prog_1_method_19_code (4 : Nat) (Option.some Jvm.ClassFile.FieldType.long)) ∈ BIG := big_in (tb_4 (List.mem_of_getElem? (i := 220) rfl)) rfl
theorem k_941 : (Jvm.Cond.classLink "DoorServerLaw" (75 : Nat) "DoorServerModel") ∈ BIG := big_in (tb_4 (List.mem_of_getElem? (i := 221) rfl)) rfl
theorem k_942 : (Jvm.Cond.instantiable "DoorServerModel" (45 : Nat)) ∈ BIG := big_in (tb_4 (List.mem_of_getElem? (i := 222) rfl)) rfl
theorem k_943 : (Jvm.Cond.methodLink "DoorServerLaw" (77 : Nat) y_Md_init) ∈ BIG := big_in (tb_4 (List.mem_of_getElem? (i := 223) rfl)) rfl
theorem k_944 : (Jvm.Cond.instanceMethod y_Md_init) ∈ BIG := big_in (tb_4 (List.mem_of_getElem? (i := 224) rfl)) rfl
theorem k_945 : (Jvm.Cond.code y_Md_init prog_14_method_1_code (2 : Nat) (Option.none : Option Jvm.ClassFile.FieldType)) ∈ BIG := big_in (tb_4 (List.mem_of_getElem? (i := 225) rfl)) rfl
theorem k_946 : (Jvm.Cond.methodLink "DoorServerModel" (1 : Nat) y_Ob_init) ∈ BIG := big_in (tb_4 (List.mem_of_getElem? (i := 226) rfl)) rfl
theorem k_947 : (Jvm.Cond.constantLong "DoorServerModel" (7 : Nat) (3614090360 : Int64)) ∈ BIG := big_in (tb_4 (List.mem_of_getElem? (i := 227) rfl)) rfl
theorem k_948 : (Jvm.Cond.constantLong "DoorServerModel" (9 : Nat) (3905402710 : Int64)) ∈ BIG := big_in (tb_4 (List.mem_of_getElem? (i := 228) rfl)) rfl
theorem k_949 : (Jvm.Cond.constantLong "DoorServerModel" (11 : Nat) (606105819 : Int64)) ∈ BIG := big_in (tb_4 (List.mem_of_getElem? (i := 229) rfl)) rfl
theorem k_950 : (Jvm.Cond.constantLong "DoorServerModel" (13 : Nat) (3250441966 : Int64)) ∈ BIG := big_in (tb_4 (List.mem_of_getElem? (i := 230) rfl)) rfl
theorem k_951 : (Jvm.Cond.constantLong "DoorServerModel" (15 : Nat) (4118548399 : Int64)) ∈ BIG := big_in (tb_4 (List.mem_of_getElem? (i := 231) rfl)) rfl
theorem k_952 : (Jvm.Cond.constantLong "DoorServerModel" (17 : Nat) (1200080426 : Int64)) ∈ BIG := big_in (tb_4 (List.mem_of_getElem? (i := 232) rfl)) rfl
theorem k_953 : (Jvm.Cond.constantLong "DoorServerModel" (19 : Nat) (2821735955 : Int64)) ∈ BIG := big_in (tb_4 (List.mem_of_getElem? (i := 233) rfl)) rfl
theorem k_954 : (Jvm.Cond.constantLong "DoorServerModel" (21 : Nat) (4249261313 : Int64)) ∈ BIG := big_in (tb_4 (List.mem_of_getElem? (i := 234) rfl)) rfl
theorem k_955 : (Jvm.Cond.constantLong "DoorServerModel" (23 : Nat) (1770035416 : Int64)) ∈ BIG := big_in (tb_4 (List.mem_of_getElem? (i := 235) rfl)) rfl
theorem k_956 : (Jvm.Cond.constantLong "DoorServerModel" (25 : Nat) (2336552879 : Int64)) ∈ BIG := big_in (tb_4 (List.mem_of_getElem? (i := 236) rfl)) rfl
theorem k_957 : (Jvm.Cond.constantLong "DoorServerModel" (27 : Nat) (4294925233 : Int64)) ∈ BIG := big_in (tb_4 (List.mem_of_getElem? (i := 237) rfl)) rfl
theorem k_958 : (Jvm.Cond.constantLong "DoorServerModel" (29 : Nat) (2304563134 : Int64)) ∈ BIG := big_in (tb_4 (List.mem_of_getElem? (i := 238) rfl)) rfl
theorem k_959 : (Jvm.Cond.constantLong "DoorServerModel" (31 : Nat) (1804603682 : Int64)) ∈ BIG := big_in (tb_4 (List.mem_of_getElem? (i := 239) rfl)) rfl
theorem k_960 : (Jvm.Cond.constantLong "DoorServerModel" (33 : Nat) (4254626195 : Int64)) ∈ BIG := big_in (tb_5 (List.mem_of_getElem? (i := 0) rfl)) rfl
theorem k_961 : (Jvm.Cond.constantLong "DoorServerModel" (35 : Nat) (2792965006 : Int64)) ∈ BIG := big_in (tb_5 (List.mem_of_getElem? (i := 1) rfl)) rfl
theorem k_962 : (Jvm.Cond.constantLong "DoorServerModel" (37 : Nat) (1236535329 : Int64)) ∈ BIG := big_in (tb_5 (List.mem_of_getElem? (i := 2) rfl)) rfl
theorem k_963 : (Jvm.Cond.constantLong "DoorServerModel" (39 : Nat) (4129170786 : Int64)) ∈ BIG := big_in (tb_5 (List.mem_of_getElem? (i := 3) rfl)) rfl
theorem k_964 : (Jvm.Cond.constantLong "DoorServerModel" (41 : Nat) (3225465664 : Int64)) ∈ BIG := big_in (tb_5 (List.mem_of_getElem? (i := 4) rfl)) rfl
theorem k_965 : (Jvm.Cond.constantLong "DoorServerModel" (43 : Nat) (643717713 : Int64)) ∈ BIG := big_in (tb_5 (List.mem_of_getElem? (i := 5) rfl)) rfl
theorem k_966 : (Jvm.Cond.constantLong "DoorServerModel" (45 : Nat) (3921069994 : Int64)) ∈ BIG := big_in (tb_5 (List.mem_of_getElem? (i := 6) rfl)) rfl
theorem k_967 : (Jvm.Cond.constantLong "DoorServerModel" (47 : Nat) (3593408605 : Int64)) ∈ BIG := big_in (tb_5 (List.mem_of_getElem? (i := 7) rfl)) rfl
theorem k_968 : (Jvm.Cond.constantLong "DoorServerModel" (49 : Nat) (38016083 : Int64)) ∈ BIG := big_in (tb_5 (List.mem_of_getElem? (i := 8) rfl)) rfl
theorem k_969 : (Jvm.Cond.constantLong "DoorServerModel" (51 : Nat) (3634488961 : Int64)) ∈ BIG := big_in (tb_5 (List.mem_of_getElem? (i := 9) rfl)) rfl
theorem k_970 : (Jvm.Cond.constantLong "DoorServerModel" (53 : Nat) (3889429448 : Int64)) ∈ BIG := big_in (tb_5 (List.mem_of_getElem? (i := 10) rfl)) rfl
theorem k_971 : (Jvm.Cond.constantLong "DoorServerModel" (55 : Nat) (568446438 : Int64)) ∈ BIG := big_in (tb_5 (List.mem_of_getElem? (i := 11) rfl)) rfl
theorem k_972 : (Jvm.Cond.constantLong "DoorServerModel" (57 : Nat) (3275163606 : Int64)) ∈ BIG := big_in (tb_5 (List.mem_of_getElem? (i := 12) rfl)) rfl
theorem k_973 : (Jvm.Cond.constantLong "DoorServerModel" (59 : Nat) (4107603335 : Int64)) ∈ BIG := big_in (tb_5 (List.mem_of_getElem? (i := 13) rfl)) rfl
theorem k_974 : (Jvm.Cond.constantLong "DoorServerModel" (61 : Nat) (1163531501 : Int64)) ∈ BIG := big_in (tb_5 (List.mem_of_getElem? (i := 14) rfl)) rfl
theorem k_975 : (Jvm.Cond.constantLong "DoorServerModel" (63 : Nat) (2850285829 : Int64)) ∈ BIG := big_in (tb_5 (List.mem_of_getElem? (i := 15) rfl)) rfl
theorem k_976 : (Jvm.Cond.constantLong "DoorServerModel" (65 : Nat) (4243563512 : Int64)) ∈ BIG := big_in (tb_5 (List.mem_of_getElem? (i := 16) rfl)) rfl
theorem k_977 : (Jvm.Cond.constantLong "DoorServerModel" (67 : Nat) (1735328473 : Int64)) ∈ BIG := big_in (tb_5 (List.mem_of_getElem? (i := 17) rfl)) rfl
theorem k_978 : (Jvm.Cond.constantLong "DoorServerModel" (69 : Nat) (2368359562 : Int64)) ∈ BIG := big_in (tb_5 (List.mem_of_getElem? (i := 18) rfl)) rfl
theorem k_979 : (Jvm.Cond.constantLong "DoorServerModel" (71 : Nat) (4294588738 : Int64)) ∈ BIG := big_in (tb_5 (List.mem_of_getElem? (i := 19) rfl)) rfl
theorem k_980 : (Jvm.Cond.constantLong "DoorServerModel" (73 : Nat) (2272392833 : Int64)) ∈ BIG := big_in (tb_5 (List.mem_of_getElem? (i := 20) rfl)) rfl
theorem k_981 : (Jvm.Cond.constantLong "DoorServerModel" (75 : Nat) (1839030562 : Int64)) ∈ BIG := big_in (tb_5 (List.mem_of_getElem? (i := 21) rfl)) rfl
theorem k_982 : (Jvm.Cond.constantLong "DoorServerModel" (77 : Nat) (4259657740 : Int64)) ∈ BIG := big_in (tb_5 (List.mem_of_getElem? (i := 22) rfl)) rfl
theorem k_983 : (Jvm.Cond.constantLong "DoorServerModel" (79 : Nat) (2763975236 : Int64)) ∈ BIG := big_in (tb_5 (List.mem_of_getElem? (i := 23) rfl)) rfl
theorem k_984 : (Jvm.Cond.constantLong "DoorServerModel" (81 : Nat) (1272893353 : Int64)) ∈ BIG := big_in (tb_5 (List.mem_of_getElem? (i := 24) rfl)) rfl
theorem k_985 : (Jvm.Cond.constantLong "DoorServerModel" (83 : Nat) (4139469664 : Int64)) ∈ BIG := big_in (tb_5 (List.mem_of_getElem? (i := 25) rfl)) rfl
theorem k_986 : (Jvm.Cond.constantLong "DoorServerModel" (85 : Nat) (3200236656 : Int64)) ∈ BIG := big_in (tb_5 (List.mem_of_getElem? (i := 26) rfl)) rfl
theorem k_987 : (Jvm.Cond.constantLong "DoorServerModel" (87 : Nat) (681279174 : Int64)) ∈ BIG := big_in (tb_5 (List.mem_of_getElem? (i := 27) rfl)) rfl
theorem k_988 : (Jvm.Cond.constantLong "DoorServerModel" (89 : Nat) (3936430074 : Int64)) ∈ BIG := big_in (tb_5 (List.mem_of_getElem? (i := 28) rfl)) rfl
theorem k_989 : (Jvm.Cond.constantLong "DoorServerModel" (91 : Nat) (3572445317 : Int64)) ∈ BIG := big_in (tb_5 (List.mem_of_getElem? (i := 29) rfl)) rfl
theorem k_990 : (Jvm.Cond.constantLong "DoorServerModel" (93 : Nat) (76029189 : Int64)) ∈ BIG := big_in (tb_5 (List.mem_of_getElem? (i := 30) rfl)) rfl
theorem k_991 : (Jvm.Cond.constantLong "DoorServerModel" (95 : Nat) (3654602809 : Int64)) ∈ BIG := big_in (tb_5 (List.mem_of_getElem? (i := 31) rfl)) rfl
theorem k_992 : (Jvm.Cond.constantLong "DoorServerModel" (97 : Nat) (3873151461 : Int64)) ∈ BIG := big_in (tb_5 (List.mem_of_getElem? (i := 32) rfl)) rfl
theorem k_993 : (Jvm.Cond.constantLong "DoorServerModel" (99 : Nat) (530742520 : Int64)) ∈ BIG := big_in (tb_5 (List.mem_of_getElem? (i := 33) rfl)) rfl
theorem k_994 : (Jvm.Cond.constantLong "DoorServerModel" (101 : Nat) (3299628645 : Int64)) ∈ BIG := big_in (tb_5 (List.mem_of_getElem? (i := 34) rfl)) rfl
theorem k_995 : (Jvm.Cond.constantLong "DoorServerModel" (103 : Nat) (4096336452 : Int64)) ∈ BIG := big_in (tb_5 (List.mem_of_getElem? (i := 35) rfl)) rfl
theorem k_996 : (Jvm.Cond.constantLong "DoorServerModel" (105 : Nat) (1126891415 : Int64)) ∈ BIG := big_in (tb_5 (List.mem_of_getElem? (i := 36) rfl)) rfl
theorem k_997 : (Jvm.Cond.constantLong "DoorServerModel" (107 : Nat) (2878612391 : Int64)) ∈ BIG := big_in (tb_5 (List.mem_of_getElem? (i := 37) rfl)) rfl
theorem k_998 : (Jvm.Cond.constantLong "DoorServerModel" (109 : Nat) (4237533241 : Int64)) ∈ BIG := big_in (tb_5 (List.mem_of_getElem? (i := 38) rfl)) rfl
theorem k_999 : (Jvm.Cond.constantLong "DoorServerModel" (111 : Nat) (1700485571 : Int64)) ∈ BIG := big_in (tb_5 (List.mem_of_getElem? (i := 39) rfl)) rfl
theorem k_1000 : (Jvm.Cond.constantLong "DoorServerModel" (113 : Nat) (2399980690 : Int64)) ∈ BIG := big_in (tb_5 (List.mem_of_getElem? (i := 40) rfl)) rfl
theorem k_1001 : (Jvm.Cond.constantLong "DoorServerModel" (115 : Nat) (4293915773 : Int64)) ∈ BIG := big_in (tb_5 (List.mem_of_getElem? (i := 41) rfl)) rfl
theorem k_1002 : (Jvm.Cond.constantLong "DoorServerModel" (117 : Nat) (2240044497 : Int64)) ∈ BIG := big_in (tb_5 (List.mem_of_getElem? (i := 42) rfl)) rfl
theorem k_1003 : (Jvm.Cond.constantLong "DoorServerModel" (119 : Nat) (1873313359 : Int64)) ∈ BIG := big_in (tb_5 (List.mem_of_getElem? (i := 43) rfl)) rfl
theorem k_1004 : (Jvm.Cond.constantLong "DoorServerModel" (121 : Nat) (4264355552 : Int64)) ∈ BIG := big_in (tb_5 (List.mem_of_getElem? (i := 44) rfl)) rfl
theorem k_1005 : (Jvm.Cond.constantLong "DoorServerModel" (123 : Nat) (2734768916 : Int64)) ∈ BIG := big_in (tb_5 (List.mem_of_getElem? (i := 45) rfl)) rfl
theorem k_1006 : (Jvm.Cond.constantLong "DoorServerModel" (125 : Nat) (1309151649 : Int64)) ∈ BIG := big_in (tb_5 (List.mem_of_getElem? (i := 46) rfl)) rfl
theorem k_1007 : (Jvm.Cond.constantLong "DoorServerModel" (127 : Nat) (4149444226 : Int64)) ∈ BIG := big_in (tb_5 (List.mem_of_getElem? (i := 47) rfl)) rfl
theorem k_1008 : (Jvm.Cond.constantLong "DoorServerModel" (129 : Nat) (3174756917 : Int64)) ∈ BIG := big_in (tb_5 (List.mem_of_getElem? (i := 48) rfl)) rfl
theorem k_1009 : (Jvm.Cond.constantLong "DoorServerModel" (131 : Nat) (718787259 : Int64)) ∈ BIG := big_in (tb_5 (List.mem_of_getElem? (i := 49) rfl)) rfl
theorem k_1010 : (Jvm.Cond.constantLong "DoorServerModel" (133 : Nat) (3951481745 : Int64)) ∈ BIG := big_in (tb_5 (List.mem_of_getElem? (i := 50) rfl)) rfl
theorem k_1011 : (Jvm.Cond.methodLink "DoorServerModel" (239 : Nat) y_Md_begin) ∈ BIG := big_in (tb_5 (List.mem_of_getElem? (i := 51) rfl)) rfl
theorem k_1013 : (Jvm.Cond.instanceMethod y_Md_begin) ∈ BIG := big_in (tb_5 (List.mem_of_getElem? (i := 53) rfl)) rfl
theorem k_1014 : (Jvm.Cond.code y_Md_begin prog_14_method_17_code (6 : Nat) (Option.none : Option Jvm.ClassFile.FieldType)) ∈ BIG := big_in (tb_5 (List.mem_of_getElem? (i := 54) rfl)) rfl
theorem k_1015 : (Jvm.Cond.methodLink "DoorServerModel" (300 : Nat) y_Md_add) ∈ BIG := big_in (tb_5 (List.mem_of_getElem? (i := 55) rfl)) rfl
theorem k_1017 : (Jvm.Cond.instanceMethod y_Md_add) ∈ BIG := big_in (tb_5 (List.mem_of_getElem? (i := 57) rfl)) rfl
theorem k_1018 : (Jvm.Cond.code y_Md_add prog_14_method_16_code (2 : Nat) (Option.none : Option Jvm.ClassFile.FieldType)) ∈ BIG := big_in (tb_5 (List.mem_of_getElem? (i := 58) rfl)) rfl
theorem k_1019 : (Jvm.Cond.constantLong "DoorServerModel" (280 : Nat) (255 : Int64)) ∈ BIG := big_in (tb_5 (List.mem_of_getElem? (i := 59) rfl)) rfl
theorem k_1020 : (Jvm.Cond.fieldLink "DoorServerModel" (135 : Nat) "DoorServerModel" "sines" "[J") ∈ BIG := big_in (tb_5 (List.mem_of_getElem? (i := 60) rfl)) rfl
theorem k_1021 : (Jvm.Cond.fieldLink "DoorServerModel" (243 : Nat) "DoorServerModel" "code" "I") ∈ BIG := big_in (tb_5 (List.mem_of_getElem? (i := 61) rfl)) rfl
theorem k_1022 : (Jvm.Cond.fieldLink "DoorServerModel" (380 : Nat) "DoorServerModel" "time" "I") ∈ BIG := big_in (tb_5 (List.mem_of_getElem? (i := 62) rfl)) rfl
theorem k_1023 : (Jvm.Cond.fieldLink "DoorServerModel" (141 : Nat) "DoorServerModel" "secret" "[I") ∈ BIG := big_in (tb_5 (List.mem_of_getElem? (i := 63) rfl)) rfl
theorem k_1024 : (Jvm.Cond.fieldLink "DoorServerModel" (145 : Nat) "DoorServerModel" "secretSize" "[I") ∈ BIG := big_in (tb_5 (List.mem_of_getElem? (i := 64) rfl)) rfl
theorem k_1025 : (Jvm.Cond.fieldLink "DoorServerModel" (148 : Nat) "DoorServerModel" "word" "[I") ∈ BIG := big_in (tb_5 (List.mem_of_getElem? (i := 65) rfl)) rfl
theorem k_1026 : (Jvm.Cond.fieldLink "DoorServerModel" (151 : Nat) "DoorServerModel" "wordSize" "[I") ∈ BIG := big_in (tb_5 (List.mem_of_getElem? (i := 66) rfl)) rfl
theorem k_1027 : (Jvm.Cond.fieldLink "DoorServerModel" (154 : Nat) "DoorServerModel" "draft" "[I") ∈ BIG := big_in (tb_5 (List.mem_of_getElem? (i := 67) rfl)) rfl
theorem k_1028 : (Jvm.Cond.fieldLink "DoorServerModel" (297 : Nat) "DoorServerModel" "size" "I") ∈ BIG := big_in (tb_5 (List.mem_of_getElem? (i := 68) rfl)) rfl
theorem k_1029 : (Jvm.Cond.fieldLink "DoorServerModel" (157 : Nat) "DoorServerModel" "text" "[I") ∈ BIG := big_in (tb_5 (List.mem_of_getElem? (i := 69) rfl)) rfl
theorem k_1030 : (Jvm.Cond.fieldLink "DoorServerModel" (247 : Nat) "DoorServerModel" "texts" "I") ∈ BIG := big_in (tb_5 (List.mem_of_getElem? (i := 70) rfl)) rfl
theorem k_1031 : (Jvm.Cond.fieldLink "DoorServerModel" (160 : Nat) "DoorServerModel" "digest" "[I") ∈ BIG := big_in (tb_5 (List.mem_of_getElem? (i := 71) rfl)) rfl
theorem k_1032 : (Jvm.Cond.fieldLink "DoorServerModel" (163 : Nat) "DoorServerModel" "kept" "[I") ∈ BIG := big_in (tb_5 (List.mem_of_getElem? (i := 72) rfl)) rfl
theorem k_1033 : (Jvm.Cond.fieldLink "DoorServerModel" (166 : Nat) "DoorServerModel" "last" "[I") ∈ BIG := big_in (tb_5 (List.mem_of_getElem? (i := 73) rfl)) rfl
theorem k_1034 : (Jvm.Cond.fieldLink "DoorServerModel" (325 : Nat) "DoorServerModel" "lastSize" "I") ∈ BIG := big_in (tb_5 (List.mem_of_getElem? (i := 74) rfl)) rfl
theorem k_1035 : (Jvm.Cond.fieldLink "DoorServerModel" (169 : Nat) "DoorServerModel" "answer" "[I") ∈ BIG := big_in (tb_5 (List.mem_of_getElem? (i := 75) rfl)) rfl
theorem k_1036 : (Jvm.Cond.fieldLink "DoorServerModel" (383 : Nat) "DoorServerModel" "answerSize" "I") ∈ BIG := big_in (tb_5 (List.mem_of_getElem? (i := 76) rfl)) rfl
theorem k_1037 : (Jvm.Cond.fieldLink "DoorServerModel" (377 : Nat) "DoorServerModel" "answers" "I") ∈ BIG := big_in (tb_5 (List.mem_of_getElem? (i := 77) rfl)) rfl
theorem k_1038 : (Jvm.Cond.fieldLink "DoorServerModel" (172 : Nat) "DoorServerModel" "answerStation" "[I") ∈ BIG := big_in (tb_5 (List.mem_of_getElem? (i := 78) rfl)) rfl
theorem k_1039 : (Jvm.Cond.fieldLink "DoorServerModel" (175 : Nat) "DoorServerModel" "answerIdentifier" "[I") ∈ BIG := big_in (tb_5 (List.mem_of_getElem? (i := 79) rfl)) rfl
theorem k_1040 : (Jvm.Cond.fieldLink "DoorServerModel" (178 : Nat) "DoorServerModel" "answerTime" "[I") ∈ BIG := big_in (tb_5 (List.mem_of_getElem? (i := 80) rfl)) rfl
theorem k_1041 : (Jvm.Cond.fieldLink "DoorServerModel" (181 : Nat) "DoorServerModel" "answerLength" "[I") ∈ BIG := big_in (tb_5 (List.mem_of_getElem? (i := 81) rfl)) rfl
theorem k_1042 : (Jvm.Cond.fieldLink "DoorServerModel" (184 : Nat) "DoorServerModel" "answerBytes" "[I") ∈ BIG := big_in (tb_5 (List.mem_of_getElem? (i := 82) rfl)) rfl
theorem k_1043 : (Jvm.Cond.fieldLink "DoorServerModel" (187 : Nat) "DoorServerModel" "answerAsked" "[I") ∈ BIG := big_in (tb_5 (List.mem_of_getElem? (i := 83) rfl)) rfl
theorem k_1044 : (Jvm.Cond.fieldLink "DoorServerModel" (427 : Nat) "DoorServerModel" "trials" "I") ∈ BIG := big_in (tb_5 (List.mem_of_getElem? (i := 84) rfl)) rfl
theorem k_1045 : (Jvm.Cond.fieldLink "DoorServerModel" (190 : Nat) "DoorServerModel" "trialMark" "[J") ∈ BIG := big_in (tb_5 (List.mem_of_getElem? (i := 85) rfl)) rfl
theorem k_1046 : (Jvm.Cond.fieldLink "DoorServerModel" (193 : Nat) "DoorServerModel" "trialStation" "[I") ∈ BIG := big_in (tb_5 (List.mem_of_getElem? (i := 86) rfl)) rfl
theorem k_1047 : (Jvm.Cond.fieldLink "DoorServerModel" (196 : Nat) "DoorServerModel" "trialUser" "[I") ∈ BIG := big_in (tb_5 (List.mem_of_getElem? (i := 87) rfl)) rfl
theorem k_1048 : (Jvm.Cond.fieldLink "DoorServerModel" (199 : Nat) "DoorServerModel" "trialNumber" "[I") ∈ BIG := big_in (tb_5 (List.mem_of_getElem? (i := 88) rfl)) rfl
theorem k_1049 : (Jvm.Cond.fieldLink "DoorServerModel" (202 : Nat) "DoorServerModel" "trialTime" "[I") ∈ BIG := big_in (tb_5 (List.mem_of_getElem? (i := 89) rfl)) rfl
theorem k_1050 : (Jvm.Cond.fieldLink "DoorServerModel" (205 : Nat) "DoorServerModel" "trialDrawn" "[I") ∈ BIG := big_in (tb_5 (List.mem_of_getElem? (i := 90) rfl)) rfl
theorem k_1051 : (Jvm.Cond.fieldLink "DoorServerModel" (433 : Nat) "DoorServerModel" "marks" "J") ∈ BIG := big_in (tb_5 (List.mem_of_getElem? (i := 91) rfl)) rfl
theorem k_1052 : (Jvm.Cond.fieldLink "DoorServerModel" (208 : Nat) "DoorServerModel" "drawing" "J") ∈ BIG := big_in (tb_5 (List.mem_of_getElem? (i := 92) rfl)) rfl
theorem k_1053 : (Jvm.Cond.fieldLink "DoorServerModel" (440 : Nat) "DoorServerModel" "records" "I") ∈ BIG := big_in (tb_5 (List.mem_of_getElem? (i := 93) rfl)) rfl
theorem k_1054 : (Jvm.Cond.fieldLink "DoorServerModel" (212 : Nat) "DoorServerModel" "recordStation" "[I") ∈ BIG := big_in (tb_5 (List.mem_of_getElem? (i := 94) rfl)) rfl
theorem k_1055 : (Jvm.Cond.fieldLink "DoorServerModel" (215 : Nat) "DoorServerModel" "recordSize" "[I") ∈ BIG := big_in (tb_5 (List.mem_of_getElem? (i := 95) rfl)) rfl
theorem k_1056 : (Jvm.Cond.fieldLink "DoorServerModel" (218 : Nat) "DoorServerModel" "recordBytes" "[I") ∈ BIG := big_in (tb_5 (List.mem_of_getElem? (i := 96) rfl)) rfl
theorem k_1057 : (Jvm.Cond.fieldLink "DoorServerModel" (221 : Nat) "DoorServerModel" "recordName" "[I") ∈ BIG := big_in (tb_5 (List.mem_of_getElem? (i := 97) rfl)) rfl
theorem k_1058 : (Jvm.Cond.fieldLink "DoorServerModel" (224 : Nat) "DoorServerModel" "recordClosed" "[I") ∈ BIG := big_in (tb_5 (List.mem_of_getElem? (i := 98) rfl)) rfl
theorem k_1059 : (Jvm.Cond.fieldLink "DoorServerModel" (227 : Nat) "DoorServerModel" "recordCame" "[I") ∈ BIG := big_in (tb_5 (List.mem_of_getElem? (i := 99) rfl)) rfl
theorem k_1060 : (Jvm.Cond.fieldLink "DoorServerModel" (230 : Nat) "DoorServerModel" "recordChanged" "[I") ∈ BIG := big_in (tb_5 (List.mem_of_getElem? (i := 100) rfl)) rfl
theorem k_1061 : (Jvm.Cond.fieldLink "DoorServerModel" (233 : Nat) "DoorServerModel" "recordIn" "[J") ∈ BIG := big_in (tb_5 (List.mem_of_getElem? (i := 101) rfl)) rfl
theorem k_1062 : (Jvm.Cond.fieldLink "DoorServerModel" (236 : Nat) "DoorServerModel" "recordOut" "[J") ∈ BIG := big_in (tb_5 (List.mem_of_getElem? (i := 102) rfl)) rfl
theorem k_1063 : (Jvm.Cond.fieldLink "DoorServerModel" (398 : Nat) "DoorServerModel" "anew" "I") ∈ BIG := big_in (tb_5 (List.mem_of_getElem? (i := 103) rfl)) rfl
theorem k_1064 : (Jvm.Cond.fieldLink "DoorServerModel" (368 : Nat) "DoorServerModel" "alike" "I") ∈ BIG := big_in (tb_5 (List.mem_of_getElem? (i := 104) rfl)) rfl
theorem k_1065 : (Jvm.Cond.laysFinal "DoorServerModel" "DoorServerModel" "sines" "[J") ∈ BIG := big_in (tb_5 (List.mem_of_getElem? (i := 105) rfl)) rfl
theorem k_1067 : (Jvm.Cond.lays "DoorServerModel" "DoorServerModel" "code" "I") ∈ BIG := big_in (tb_5 (List.mem_of_getElem? (i := 107) rfl)) rfl
theorem k_1069 : (Jvm.Cond.lays "DoorServerModel" "DoorServerModel" "time" "I") ∈ BIG := big_in (tb_5 (List.mem_of_getElem? (i := 109) rfl)) rfl
theorem k_1071 : (Jvm.Cond.laysFinal "DoorServerModel" "DoorServerModel" "secret" "[I") ∈ BIG := big_in (tb_5 (List.mem_of_getElem? (i := 111) rfl)) rfl
theorem k_1073 : (Jvm.Cond.laysFinal "DoorServerModel" "DoorServerModel" "secretSize" "[I") ∈ BIG := big_in (tb_5 (List.mem_of_getElem? (i := 113) rfl)) rfl
theorem k_1075 : (Jvm.Cond.laysFinal "DoorServerModel" "DoorServerModel" "word" "[I") ∈ BIG := big_in (tb_5 (List.mem_of_getElem? (i := 115) rfl)) rfl
theorem k_1077 : (Jvm.Cond.laysFinal "DoorServerModel" "DoorServerModel" "wordSize" "[I") ∈ BIG := big_in (tb_5 (List.mem_of_getElem? (i := 117) rfl)) rfl
theorem k_1079 : (Jvm.Cond.laysFinal "DoorServerModel" "DoorServerModel" "draft" "[I") ∈ BIG := big_in (tb_5 (List.mem_of_getElem? (i := 119) rfl)) rfl
theorem k_1081 : (Jvm.Cond.lays "DoorServerModel" "DoorServerModel" "size" "I") ∈ BIG := big_in (tb_5 (List.mem_of_getElem? (i := 121) rfl)) rfl
theorem k_1083 : (Jvm.Cond.laysFinal "DoorServerModel" "DoorServerModel" "text" "[I") ∈ BIG := big_in (tb_5 (List.mem_of_getElem? (i := 123) rfl)) rfl
theorem k_1085 : (Jvm.Cond.lays "DoorServerModel" "DoorServerModel" "texts" "I") ∈ BIG := big_in (tb_5 (List.mem_of_getElem? (i := 125) rfl)) rfl
theorem k_1087 : (Jvm.Cond.laysFinal "DoorServerModel" "DoorServerModel" "digest" "[I") ∈ BIG := big_in (tb_5 (List.mem_of_getElem? (i := 127) rfl)) rfl
theorem k_1089 : (Jvm.Cond.laysFinal "DoorServerModel" "DoorServerModel" "kept" "[I") ∈ BIG := big_in (tb_5 (List.mem_of_getElem? (i := 129) rfl)) rfl
theorem k_1091 : (Jvm.Cond.laysFinal "DoorServerModel" "DoorServerModel" "last" "[I") ∈ BIG := big_in (tb_5 (List.mem_of_getElem? (i := 131) rfl)) rfl
theorem k_1093 : (Jvm.Cond.lays "DoorServerModel" "DoorServerModel" "lastSize" "I") ∈ BIG := big_in (tb_5 (List.mem_of_getElem? (i := 133) rfl)) rfl
theorem k_1095 : (Jvm.Cond.laysFinal "DoorServerModel" "DoorServerModel" "answer" "[I") ∈ BIG := big_in (tb_5 (List.mem_of_getElem? (i := 135) rfl)) rfl
theorem k_1097 : (Jvm.Cond.lays "DoorServerModel" "DoorServerModel" "answerSize" "I") ∈ BIG := big_in (tb_5 (List.mem_of_getElem? (i := 137) rfl)) rfl
theorem k_1099 : (Jvm.Cond.lays "DoorServerModel" "DoorServerModel" "answers" "I") ∈ BIG := big_in (tb_5 (List.mem_of_getElem? (i := 139) rfl)) rfl
theorem k_1101 : (Jvm.Cond.laysFinal "DoorServerModel" "DoorServerModel" "answerStation" "[I") ∈ BIG := big_in (tb_5 (List.mem_of_getElem? (i := 141) rfl)) rfl
theorem k_1103 : (Jvm.Cond.laysFinal "DoorServerModel" "DoorServerModel" "answerIdentifier" "[I") ∈ BIG := big_in (tb_5 (List.mem_of_getElem? (i := 143) rfl)) rfl
theorem k_1105 : (Jvm.Cond.laysFinal "DoorServerModel" "DoorServerModel" "answerTime" "[I") ∈ BIG := big_in (tb_5 (List.mem_of_getElem? (i := 145) rfl)) rfl
theorem k_1107 : (Jvm.Cond.laysFinal "DoorServerModel" "DoorServerModel" "answerLength" "[I") ∈ BIG := big_in (tb_5 (List.mem_of_getElem? (i := 147) rfl)) rfl
theorem k_1109 : (Jvm.Cond.laysFinal "DoorServerModel" "DoorServerModel" "answerBytes" "[I") ∈ BIG := big_in (tb_5 (List.mem_of_getElem? (i := 149) rfl)) rfl
theorem k_1111 : (Jvm.Cond.laysFinal "DoorServerModel" "DoorServerModel" "answerAsked" "[I") ∈ BIG := big_in (tb_5 (List.mem_of_getElem? (i := 151) rfl)) rfl
theorem k_1113 : (Jvm.Cond.lays "DoorServerModel" "DoorServerModel" "trials" "I") ∈ BIG := big_in (tb_5 (List.mem_of_getElem? (i := 153) rfl)) rfl
theorem k_1115 : (Jvm.Cond.laysFinal "DoorServerModel" "DoorServerModel" "trialMark" "[J") ∈ BIG := big_in (tb_5 (List.mem_of_getElem? (i := 155) rfl)) rfl
theorem k_1117 : (Jvm.Cond.laysFinal "DoorServerModel" "DoorServerModel" "trialStation" "[I") ∈ BIG := big_in (tb_5 (List.mem_of_getElem? (i := 157) rfl)) rfl
theorem k_1119 : (Jvm.Cond.laysFinal "DoorServerModel" "DoorServerModel" "trialUser" "[I") ∈ BIG := big_in (tb_5 (List.mem_of_getElem? (i := 159) rfl)) rfl
theorem k_1121 : (Jvm.Cond.laysFinal "DoorServerModel" "DoorServerModel" "trialNumber" "[I") ∈ BIG := big_in (tb_5 (List.mem_of_getElem? (i := 161) rfl)) rfl
theorem k_1123 : (Jvm.Cond.laysFinal "DoorServerModel" "DoorServerModel" "trialTime" "[I") ∈ BIG := big_in (tb_5 (List.mem_of_getElem? (i := 163) rfl)) rfl
theorem k_1125 : (Jvm.Cond.laysFinal "DoorServerModel" "DoorServerModel" "trialDrawn" "[I") ∈ BIG := big_in (tb_5 (List.mem_of_getElem? (i := 165) rfl)) rfl
theorem k_1127 : (Jvm.Cond.lays "DoorServerModel" "DoorServerModel" "marks" "J") ∈ BIG := big_in (tb_5 (List.mem_of_getElem? (i := 167) rfl)) rfl
theorem k_1129 : (Jvm.Cond.lays "DoorServerModel" "DoorServerModel" "drawing" "J") ∈ BIG := big_in (tb_5 (List.mem_of_getElem? (i := 169) rfl)) rfl
theorem k_1131 : (Jvm.Cond.lays "DoorServerModel" "DoorServerModel" "records" "I") ∈ BIG := big_in (tb_5 (List.mem_of_getElem? (i := 171) rfl)) rfl
theorem k_1133 : (Jvm.Cond.laysFinal "DoorServerModel" "DoorServerModel" "recordStation" "[I") ∈ BIG := big_in (tb_5 (List.mem_of_getElem? (i := 173) rfl)) rfl
theorem k_1135 : (Jvm.Cond.laysFinal "DoorServerModel" "DoorServerModel" "recordSize" "[I") ∈ BIG := big_in (tb_5 (List.mem_of_getElem? (i := 175) rfl)) rfl
theorem k_1137 : (Jvm.Cond.laysFinal "DoorServerModel" "DoorServerModel" "recordBytes" "[I") ∈ BIG := big_in (tb_5 (List.mem_of_getElem? (i := 177) rfl)) rfl
theorem k_1139 : (Jvm.Cond.laysFinal "DoorServerModel" "DoorServerModel" "recordName" "[I") ∈ BIG := big_in (tb_5 (List.mem_of_getElem? (i := 179) rfl)) rfl
theorem k_1141 : (Jvm.Cond.laysFinal "DoorServerModel" "DoorServerModel" "recordClosed" "[I") ∈ BIG := big_in (tb_5 (List.mem_of_getElem? (i := 181) rfl)) rfl
theorem k_1143 : (Jvm.Cond.laysFinal "DoorServerModel" "DoorServerModel" "recordCame" "[I") ∈ BIG := big_in (tb_5 (List.mem_of_getElem? (i := 183) rfl)) rfl
theorem k_1145 : (Jvm.Cond.laysFinal "DoorServerModel" "DoorServerModel" "recordChanged" "[I") ∈ BIG := big_in (tb_5 (List.mem_of_getElem? (i := 185) rfl)) rfl
theorem k_1147 : (Jvm.Cond.laysFinal "DoorServerModel" "DoorServerModel" "recordIn" "[J") ∈ BIG := big_in (tb_5 (List.mem_of_getElem? (i := 187) rfl)) rfl
theorem k_1149 : (Jvm.Cond.laysFinal "DoorServerModel" "DoorServerModel" "recordOut" "[J") ∈ BIG := big_in (tb_5 (List.mem_of_getElem? (i := 189) rfl)) rfl
theorem k_1151 : (Jvm.Cond.lays "DoorServerModel" "DoorServerModel" "anew" "I") ∈ BIG := big_in (tb_5 (List.mem_of_getElem? (i := 191) rfl)) rfl
theorem k_1153 : (Jvm.Cond.lays "DoorServerModel" "DoorServerModel" "alike" "I") ∈ BIG := big_in (tb_5 (List.mem_of_getElem? (i := 193) rfl)) rfl
theorem k_1155 : (Jvm.Cond.superclass "DoorServerModel" "java/lang/Object") ∈ BIG := big_in (tb_5 (List.mem_of_getElem? (i := 195) rfl)) rfl
theorem k_1156 : (Jvm.Cond.arrayClass Jvm.ClassFile.FieldType.long) ∈ BIG := big_in (tb_5 (List.mem_of_getElem? (i := 196) rfl)) rfl
theorem k_1157 : (Jvm.Cond.methodLink "DoorServerLaw" (90 : Nat) y_Md_thrown) ∈ BIG := big_in (tb_5 (List.mem_of_getElem? (i := 197) rfl)) rfl
theorem k_1158 : (Jvm.Cond.instanceMethod y_Md_thrown) ∈ BIG := big_in (tb_5 (List.mem_of_getElem? (i := 198) rfl)) rfl
theorem k_1159 : (Jvm.Cond.selects "DoorServerModel" y_Md_thrown y_Md_thrown) ∈ BIG := big_in (tb_5 (List.mem_of_getElem? (i := 199) rfl)) rfl
theorem k_1160 : (Jvm.Cond.code y_Md_thrown prog_14_method_2_code (1 : Nat) (Option.some Jvm.ClassFile.FieldType.int)) ∈ BIG := big_in (tb_5 (List.mem_of_getElem? (i := 200) rfl)) rfl
theorem k_1161 : (Jvm.Cond.methodLink "DoorServerLaw" (85 : Nat) y_Md_secret) ∈ BIG := big_in (tb_5 (List.mem_of_getElem? (i := 201) rfl)) rfl
theorem k_1162 : (Jvm.Cond.instanceMethod y_Md_secret) ∈ BIG := big_in (tb_5 (List.mem_of_getElem? (i := 202) rfl)) rfl
theorem k_1163 : (Jvm.Cond.selects "DoorServerModel" y_Md_secret y_Md_secret) ∈ BIG := big_in (tb_5 (List.mem_of_getElem? (i := 203) rfl)) rfl
theorem k_1164 : (Jvm.Cond.code y_Md_secret prog_14_method_14_code (6 : Nat) (Option.none : Option Jvm.ClassFile.FieldType)) ∈ BIG := big_in (tb_5 (List.mem_of_getElem? (i := 204) rfl)) rfl
theorem k_1165 : (Jvm.Cond.methodLink "DoorServerModel" (289 : Nat) y_Md_goes) ∈ BIG := big_in (tb_5 (List.mem_of_getElem? (i := 205) rfl)) rfl
theorem k_1167 : (Jvm.Cond.instanceMethod y_Md_goes) ∈ BIG := big_in (tb_5 (List.mem_of_getElem? (i := 207) rfl)) rfl
theorem k_1168 : (Jvm.Cond.code y_Md_goes prog_14_method_3_code (2 : Nat) (Option.some Jvm.ClassFile.FieldType.boolean)) ∈ BIG := big_in (tb_5 (List.mem_of_getElem? (i := 208) rfl)) rfl
theorem k_1169 : (Jvm.Cond.methodLink "DoorServerModel" (293 : Nat) y_Md_letter) ∈ BIG := big_in (tb_5 (List.mem_of_getElem? (i := 209) rfl)) rfl
theorem k_1170 : (Jvm.Cond.static y_Md_letter) ∈ BIG := big_in (tb_5 (List.mem_of_getElem? (i := 210) rfl)) rfl
theorem k_1171 : (Jvm.Cond.code y_Md_letter prog_14_method_13_code (3 : Nat) (Option.some Jvm.ClassFile.FieldType.int)) ∈ BIG := big_in (tb_5 (List.mem_of_getElem? (i := 211) rfl)) rfl
theorem k_1172 : (Jvm.Cond.constantLong "DoorServerModel" (287 : Nat) (63 : Int64)) ∈ BIG := big_in (tb_5 (List.mem_of_getElem? (i := 212) rfl)) rfl
theorem k_1173 : (Jvm.Cond.methodLink "DoorServerLaw" (89 : Nat) y_Md_user) ∈ BIG := big_in (tb_5 (List.mem_of_getElem? (i := 213) rfl)) rfl
theorem k_1174 : (Jvm.Cond.instanceMethod y_Md_user) ∈ BIG := big_in (tb_5 (List.mem_of_getElem? (i := 214) rfl)) rfl
theorem k_1175 : (Jvm.Cond.selects "DoorServerModel" y_Md_user y_Md_user) ∈ BIG := big_in (tb_5 (List.mem_of_getElem? (i := 215) rfl)) rfl
theorem k_1176 : (Jvm.Cond.code y_Md_user prog_14_method_15_code (7 : Nat) (Option.some Jvm.ClassFile.FieldType.boolean)) ∈ BIG := big_in (tb_5 (List.mem_of_getElem? (i := 216) rfl)) rfl
theorem k_1177 : (Jvm.Cond.methodLink "DoorServerLaw" (97 : Nat) y_Md_draft) ∈ BIG := big_in (tb_5 (List.mem_of_getElem? (i := 217) rfl)) rfl
theorem k_1178 : (Jvm.Cond.instanceMethod y_Md_draft) ∈ BIG := big_in (tb_5 (List.mem_of_getElem? (i := 218) rfl)) rfl
theorem k_1179 : (Jvm.Cond.selects "DoorServerModel" y_Md_draft y_Md_draft) ∈ BIG := big_in (tb_5 (List.mem_of_getElem? (i := 219) rfl)) rfl
theorem k_1180 : (Jvm.Cond.code y_Md_draft prog_14_method_18_code (5 : Nat) (Option.none : Option Jvm.ClassFile.FieldType)) ∈ BIG := big_in (tb_5 (List.mem_of_getElem? (i := 220) rfl)) rfl
theorem k_1181 : (Jvm.Cond.methodLink "DoorServerModel" (303 : Nat) y_Md_isByte) ∈ BIG := big_in (tb_5 (List.mem_of_getElem? (i := 221) rfl)) rfl
theorem k_1182 : (Jvm.Cond.static y_Md_isByte) ∈ BIG := big_in (tb_5 (List.mem_of_getElem? (i := 222) rfl)) rfl
theorem k_1183 : (Jvm.Cond.code y_Md_isByte prog_14_method_4_code (1 : Nat) (Option.some Jvm.ClassFile.FieldType.boolean)) ∈ BIG := big_in (tb_5 (List.mem_of_getElem? (i := 223) rfl)) rfl
theorem k_1184 : (Jvm.Cond.methodLink "DoorServerLaw" (101 : Nat) y_Md_put) ∈ BIG := big_in (tb_5 (List.mem_of_getElem? (i := 224) rfl)) rfl
theorem k_1185 : (Jvm.Cond.instanceMethod y_Md_put) ∈ BIG := big_in (tb_5 (List.mem_of_getElem? (i := 225) rfl)) rfl
theorem k_1186 : (Jvm.Cond.selects "DoorServerModel" y_Md_put y_Md_put) ∈ BIG := big_in (tb_5 (List.mem_of_getElem? (i := 226) rfl)) rfl
theorem k_1187 : (Jvm.Cond.code y_Md_put prog_14_method_22_code (5 : Nat) (Option.some Jvm.ClassFile.FieldType.int)) ∈ BIG := big_in (tb_5 (List.mem_of_getElem? (i := 227) rfl)) rfl
theorem k_1188 : (Jvm.Cond.methodLink "DoorServerModel" (310 : Nat) y_Md_opens) ∈ BIG := big_in (tb_5 (List.mem_of_getElem? (i := 228) rfl)) rfl
theorem k_1190 : (Jvm.Cond.instanceMethod y_Md_opens) ∈ BIG := big_in (tb_5 (List.mem_of_getElem? (i := 230) rfl)) rfl
theorem k_1191 : (Jvm.Cond.code y_Md_opens prog_14_method_20_code (3 : Nat) (Option.some Jvm.ClassFile.FieldType.boolean)) ∈ BIG := big_in (tb_5 (List.mem_of_getElem? (i := 231) rfl)) rfl
theorem k_1192 : (Jvm.Cond.methodLink "DoorServerModel" (314 : Nat) y_Md_closes) ∈ BIG := big_in (tb_5 (List.mem_of_getElem? (i := 232) rfl)) rfl
theorem k_1194 : (Jvm.Cond.instanceMethod y_Md_closes) ∈ BIG := big_in (tb_5 (List.mem_of_getElem? (i := 234) rfl)) rfl
theorem k_1195 : (Jvm.Cond.code y_Md_closes prog_14_method_21_code (1 : Nat) (Option.some Jvm.ClassFile.FieldType.int)) ∈ BIG := big_in (tb_5 (List.mem_of_getElem? (i := 235) rfl)) rfl
theorem k_1196 : (Jvm.Cond.methodLink "DoorServerModel" (307 : Nat) y_Md_length) ∈ BIG := big_in (tb_5 (List.mem_of_getElem? (i := 236) rfl)) rfl
theorem k_1198 : (Jvm.Cond.instanceMethod y_Md_length) ∈ BIG := big_in (tb_5 (List.mem_of_getElem? (i := 238) rfl)) rfl
theorem k_1199 : (Jvm.Cond.code y_Md_length prog_14_method_19_code (1 : Nat) (Option.none : Option Jvm.ClassFile.FieldType)) ∈ BIG := big_in (tb_5 (List.mem_of_getElem? (i := 239) rfl)) rfl
theorem k_1200 : (Jvm.Cond.methodLink "DoorServerLaw" (105 : Nat) y_Md_number) ∈ BIG := big_in (tb_6 (List.mem_of_getElem? (i := 0) rfl)) rfl
theorem k_1201 : (Jvm.Cond.instanceMethod y_Md_number) ∈ BIG := big_in (tb_6 (List.mem_of_getElem? (i := 1) rfl)) rfl
theorem k_1202 : (Jvm.Cond.selects "DoorServerModel" y_Md_number y_Md_number) ∈ BIG := big_in (tb_6 (List.mem_of_getElem? (i := 2) rfl)) rfl
theorem k_1203 : (Jvm.Cond.code y_Md_number prog_14_method_23_code (4 : Nat) (Option.some Jvm.ClassFile.FieldType.int)) ∈ BIG := big_in (tb_6 (List.mem_of_getElem? (i := 3) rfl)) rfl
theorem k_1204 : (Jvm.Cond.methodLink "DoorServerLaw" (109 : Nat) y_Md_name) ∈ BIG := big_in (tb_6 (List.mem_of_getElem? (i := 4) rfl)) rfl
theorem k_1205 : (Jvm.Cond.instanceMethod y_Md_name) ∈ BIG := big_in (tb_6 (List.mem_of_getElem? (i := 5) rfl)) rfl
theorem k_1206 : (Jvm.Cond.selects "DoorServerModel" y_Md_name y_Md_name) ∈ BIG := big_in (tb_6 (List.mem_of_getElem? (i := 6) rfl)) rfl
theorem k_1207 : (Jvm.Cond.code y_Md_name prog_14_method_24_code (2 : Nat) (Option.some Jvm.ClassFile.FieldType.int)) ∈ BIG := big_in (tb_6 (List.mem_of_getElem? (i := 7) rfl)) rfl
theorem k_1208 : (Jvm.Cond.methodLink "DoorServerLaw" (112 : Nat) y_Md_password) ∈ BIG := big_in (tb_6 (List.mem_of_getElem? (i := 8) rfl)) rfl
theorem k_1209 : (Jvm.Cond.instanceMethod y_Md_password) ∈ BIG := big_in (tb_6 (List.mem_of_getElem? (i := 9) rfl)) rfl
theorem k_1210 : (Jvm.Cond.selects "DoorServerModel" y_Md_password y_Md_password) ∈ BIG := big_in (tb_6 (List.mem_of_getElem? (i := 10) rfl)) rfl
theorem k_1211 : (Jvm.Cond.code y_Md_password prog_14_method_26_code (8 : Nat) (Option.some Jvm.ClassFile.FieldType.int)) ∈ BIG := big_in (tb_6 (List.mem_of_getElem? (i := 11) rfl)) rfl
theorem k_1212 : (Jvm.Cond.methodLink "DoorServerModel" (321 : Nat) y_Md_cover) ∈ BIG := big_in (tb_6 (List.mem_of_getElem? (i := 12) rfl)) rfl
theorem k_1214 : (Jvm.Cond.instanceMethod y_Md_cover) ∈ BIG := big_in (tb_6 (List.mem_of_getElem? (i := 14) rfl)) rfl
theorem k_1215 : (Jvm.Cond.code y_Md_cover prog_14_method_25_code (4 : Nat) (Option.none : Option Jvm.ClassFile.FieldType)) ∈ BIG := big_in (tb_6 (List.mem_of_getElem? (i := 15) rfl)) rfl
theorem k_1216 : (Jvm.Cond.methodLink "DoorServerModel" (318 : Nat) y_Md_saySecret) ∈ BIG := big_in (tb_6 (List.mem_of_getElem? (i := 16) rfl)) rfl
theorem k_1218 : (Jvm.Cond.instanceMethod y_Md_saySecret) ∈ BIG := big_in (tb_6 (List.mem_of_getElem? (i := 18) rfl)) rfl
theorem k_1219 : (Jvm.Cond.code y_Md_saySecret prog_14_method_6_code (3 : Nat) (Option.none : Option Jvm.ClassFile.FieldType)) ∈ BIG := big_in (tb_6 (List.mem_of_getElem? (i := 19) rfl)) rfl
theorem k_1220 : (Jvm.Cond.methodLink "DoorServerModel" (250 : Nat) y_Md_say) ∈ BIG := big_in (tb_6 (List.mem_of_getElem? (i := 20) rfl)) rfl
theorem k_1222 : (Jvm.Cond.instanceMethod y_Md_say) ∈ BIG := big_in (tb_6 (List.mem_of_getElem? (i := 22) rfl)) rfl
theorem k_1223 : (Jvm.Cond.code y_Md_say prog_14_method_5_code (2 : Nat) (Option.none : Option Jvm.ClassFile.FieldType)) ∈ BIG := big_in (tb_6 (List.mem_of_getElem? (i := 23) rfl)) rfl
theorem k_1224 : (Jvm.Cond.methodLink "DoorServerModel" (284 : Nat) y_Md_md5) ∈ BIG := big_in (tb_6 (List.mem_of_getElem? (i := 24) rfl)) rfl
theorem k_1226 : (Jvm.Cond.instanceMethod y_Md_md5) ∈ BIG := big_in (tb_6 (List.mem_of_getElem? (i := 26) rfl)) rfl
theorem k_1227 : (Jvm.Cond.code y_Md_md5 prog_14_method_8_code (24 : Nat) (Option.none : Option Jvm.ClassFile.FieldType)) ∈ BIG := big_in (tb_6 (List.mem_of_getElem? (i := 27) rfl)) rfl
theorem k_1228 : (Jvm.Cond.constantLong "DoorServerModel" (256 : Nat) (1732584193 : Int64)) ∈ BIG := big_in (tb_6 (List.mem_of_getElem? (i := 28) rfl)) rfl
theorem k_1229 : (Jvm.Cond.constantLong "DoorServerModel" (258 : Nat) (4023233417 : Int64)) ∈ BIG := big_in (tb_6 (List.mem_of_getElem? (i := 29) rfl)) rfl
theorem k_1230 : (Jvm.Cond.constantLong "DoorServerModel" (260 : Nat) (2562383102 : Int64)) ∈ BIG := big_in (tb_6 (List.mem_of_getElem? (i := 30) rfl)) rfl
theorem k_1231 : (Jvm.Cond.constantLong "DoorServerModel" (262 : Nat) (271733878 : Int64)) ∈ BIG := big_in (tb_6 (List.mem_of_getElem? (i := 31) rfl)) rfl
theorem k_1232 : (Jvm.Cond.methodLink "DoorServerModel" (264 : Nat) y_Md_mixed) ∈ BIG := big_in (tb_6 (List.mem_of_getElem? (i := 32) rfl)) rfl
theorem k_1233 : (Jvm.Cond.static y_Md_mixed) ∈ BIG := big_in (tb_6 (List.mem_of_getElem? (i := 33) rfl)) rfl
theorem k_1234 : (Jvm.Cond.code y_Md_mixed prog_14_method_9_code (7 : Nat) (Option.some Jvm.ClassFile.FieldType.long)) ∈ BIG := big_in (tb_6 (List.mem_of_getElem? (i := 34) rfl)) rfl
theorem k_1235 : (Jvm.Cond.constantLong "DoorServerModel" (254 : Nat) (4294967295 : Int64)) ∈ BIG := big_in (tb_6 (List.mem_of_getElem? (i := 35) rfl)) rfl
theorem k_1236 : (Jvm.Cond.methodLink "DoorServerModel" (268 : Nat) y_Md_wordAt) ∈ BIG := big_in (tb_6 (List.mem_of_getElem? (i := 36) rfl)) rfl
theorem k_1238 : (Jvm.Cond.instanceMethod y_Md_wordAt) ∈ BIG := big_in (tb_6 (List.mem_of_getElem? (i := 38) rfl)) rfl
theorem k_1239 : (Jvm.Cond.code y_Md_wordAt prog_14_method_10_code (7 : Nat) (Option.some Jvm.ClassFile.FieldType.long)) ∈ BIG := big_in (tb_6 (List.mem_of_getElem? (i := 39) rfl)) rfl
theorem k_1240 : (Jvm.Cond.constantLong "DoorServerModel" (282 : Nat) (256 : Int64)) ∈ BIG := big_in (tb_6 (List.mem_of_getElem? (i := 40) rfl)) rfl
theorem k_1241 : (Jvm.Cond.methodLink "DoorServerModel" (272 : Nat) y_Md_turn) ∈ BIG := big_in (tb_6 (List.mem_of_getElem? (i := 41) rfl)) rfl
theorem k_1242 : (Jvm.Cond.static y_Md_turn) ∈ BIG := big_in (tb_6 (List.mem_of_getElem? (i := 42) rfl)) rfl
theorem k_1243 : (Jvm.Cond.code y_Md_turn prog_14_method_11_code (2 : Nat) (Option.some Jvm.ClassFile.FieldType.int)) ∈ BIG := big_in (tb_6 (List.mem_of_getElem? (i := 43) rfl)) rfl
theorem k_1244 : (Jvm.Cond.methodLink "DoorServerModel" (276 : Nat) y_Md_turned) ∈ BIG := big_in (tb_6 (List.mem_of_getElem? (i := 44) rfl)) rfl
theorem k_1245 : (Jvm.Cond.static y_Md_turned) ∈ BIG := big_in (tb_6 (List.mem_of_getElem? (i := 45) rfl)) rfl
theorem k_1246 : (Jvm.Cond.code y_Md_turned prog_14_method_7_code (5 : Nat) (Option.some Jvm.ClassFile.FieldType.long)) ∈ BIG := big_in (tb_6 (List.mem_of_getElem? (i := 46) rfl)) rfl
theorem k_1247 : (Jvm.Cond.methodLink "DoorServerLaw" (115 : Nat) y_Md_hello) ∈ BIG := big_in (tb_6 (List.mem_of_getElem? (i := 47) rfl)) rfl
theorem k_1248 : (Jvm.Cond.instanceMethod y_Md_hello) ∈ BIG := big_in (tb_6 (List.mem_of_getElem? (i := 48) rfl)) rfl
theorem k_1249 : (Jvm.Cond.selects "DoorServerModel" y_Md_hello y_Md_hello) ∈ BIG := big_in (tb_6 (List.mem_of_getElem? (i := 49) rfl)) rfl
theorem k_1250 : (Jvm.Cond.code y_Md_hello prog_14_method_27_code (2 : Nat) (Option.some Jvm.ClassFile.FieldType.int)) ∈ BIG := big_in (tb_6 (List.mem_of_getElem? (i := 50) rfl)) rfl
theorem k_1251 : (Jvm.Cond.methodLink "DoorServerLaw" (119 : Nat) y_Md_reply) ∈ BIG := big_in (tb_6 (List.mem_of_getElem? (i := 51) rfl)) rfl
theorem k_1252 : (Jvm.Cond.instanceMethod y_Md_reply) ∈ BIG := big_in (tb_6 (List.mem_of_getElem? (i := 52) rfl)) rfl
theorem k_1253 : (Jvm.Cond.selects "DoorServerModel" y_Md_reply y_Md_reply) ∈ BIG := big_in (tb_6 (List.mem_of_getElem? (i := 53) rfl)) rfl
theorem k_1254 : (Jvm.Cond.code y_Md_reply prog_14_method_28_code (6 : Nat) (Option.some Jvm.ClassFile.FieldType.int)) ∈ BIG := big_in (tb_6 (List.mem_of_getElem? (i := 54) rfl)) rfl
theorem k_1255 : (Jvm.Cond.methodLink "DoorServerLaw" (122 : Nat) y_Md_prove) ∈ BIG := big_in (tb_6 (List.mem_of_getElem? (i := 55) rfl)) rfl
theorem k_1256 : (Jvm.Cond.instanceMethod y_Md_prove) ∈ BIG := big_in (tb_6 (List.mem_of_getElem? (i := 56) rfl)) rfl
theorem k_1257 : (Jvm.Cond.selects "DoorServerModel" y_Md_prove y_Md_prove) ∈ BIG := big_in (tb_6 (List.mem_of_getElem? (i := 57) rfl)) rfl
theorem k_1258 : (Jvm.Cond.code y_Md_prove prog_14_method_32_code (4 : Nat) (Option.some Jvm.ClassFile.FieldType.int)) ∈ BIG := big_in (tb_6 (List.mem_of_getElem? (i := 58) rfl)) rfl
theorem k_1259 : (Jvm.Cond.methodLink "DoorServerModel" (331 : Nat) y_Md_proofPlace) ∈ BIG := big_in (tb_6 (List.mem_of_getElem? (i := 59) rfl)) rfl
theorem k_1261 : (Jvm.Cond.instanceMethod y_Md_proofPlace) ∈ BIG := big_in (tb_6 (List.mem_of_getElem? (i := 61) rfl)) rfl
theorem k_1262 : (Jvm.Cond.code y_Md_proofPlace prog_14_method_29_code (2 : Nat) (Option.some Jvm.ClassFile.FieldType.int)) ∈ BIG := big_in (tb_6 (List.mem_of_getElem? (i := 62) rfl)) rfl
theorem k_1263 : (Jvm.Cond.methodLink "DoorServerModel" (334 : Nat) y_Md_proof) ∈ BIG := big_in (tb_6 (List.mem_of_getElem? (i := 63) rfl)) rfl
theorem k_1265 : (Jvm.Cond.instanceMethod y_Md_proof) ∈ BIG := big_in (tb_6 (List.mem_of_getElem? (i := 65) rfl)) rfl
theorem k_1266 : (Jvm.Cond.code y_Md_proof prog_14_method_30_code (4 : Nat) (Option.none : Option Jvm.ClassFile.FieldType)) ∈ BIG := big_in (tb_6 (List.mem_of_getElem? (i := 66) rfl)) rfl
theorem k_1267 : (Jvm.Cond.methodLink "DoorServerModel" (328 : Nat) y_Md_keyed) ∈ BIG := big_in (tb_6 (List.mem_of_getElem? (i := 67) rfl)) rfl
theorem k_1269 : (Jvm.Cond.instanceMethod y_Md_keyed) ∈ BIG := big_in (tb_6 (List.mem_of_getElem? (i := 69) rfl)) rfl
theorem k_1270 : (Jvm.Cond.code y_Md_keyed prog_14_method_12_code (4 : Nat) (Option.none : Option Jvm.ClassFile.FieldType)) ∈ BIG := big_in (tb_6 (List.mem_of_getElem? (i := 70) rfl)) rfl
theorem k_1271 : (Jvm.Cond.methodLink "DoorServerLaw" (126 : Nat) y_Md_seal) ∈ BIG := big_in (tb_6 (List.mem_of_getElem? (i := 71) rfl)) rfl
theorem k_1272 : (Jvm.Cond.instanceMethod y_Md_seal) ∈ BIG := big_in (tb_6 (List.mem_of_getElem? (i := 72) rfl)) rfl
theorem k_1273 : (Jvm.Cond.selects "DoorServerModel" y_Md_seal y_Md_seal) ∈ BIG := big_in (tb_6 (List.mem_of_getElem? (i := 73) rfl)) rfl
theorem k_1274 : (Jvm.Cond.code y_Md_seal prog_14_method_33_code (3 : Nat) (Option.none : Option Jvm.ClassFile.FieldType)) ∈ BIG := big_in (tb_6 (List.mem_of_getElem? (i := 74) rfl)) rfl
theorem k_1275 : (Jvm.Cond.methodLink "DoorServerModel" (337 : Nat) y_Md_authenticator) ∈ BIG := big_in (tb_6 (List.mem_of_getElem? (i := 75) rfl)) rfl
theorem k_1277 : (Jvm.Cond.instanceMethod y_Md_authenticator) ∈ BIG := big_in (tb_6 (List.mem_of_getElem? (i := 77) rfl)) rfl
theorem k_1278 : (Jvm.Cond.code y_Md_authenticator prog_14_method_31_code (3 : Nat) (Option.none : Option Jvm.ClassFile.FieldType)) ∈ BIG := big_in (tb_6 (List.mem_of_getElem? (i := 78) rfl)) rfl
theorem k_1279 : (Jvm.Cond.methodLink "DoorServerLaw" (129 : Nat) y_Md_spoil) ∈ BIG := big_in (tb_6 (List.mem_of_getElem? (i := 79) rfl)) rfl
theorem k_1280 : (Jvm.Cond.instanceMethod y_Md_spoil) ∈ BIG := big_in (tb_6 (List.mem_of_getElem? (i := 80) rfl)) rfl
theorem k_1281 : (Jvm.Cond.selects "DoorServerModel" y_Md_spoil y_Md_spoil) ∈ BIG := big_in (tb_6 (List.mem_of_getElem? (i := 81) rfl)) rfl
theorem k_1282 : (Jvm.Cond.code y_Md_spoil prog_14_method_34_code (3 : Nat) (Option.some Jvm.ClassFile.FieldType.int)) ∈ BIG := big_in (tb_6 (List.mem_of_getElem? (i := 82) rfl)) rfl
theorem k_1283 : (Jvm.Cond.methodLink "DoorServerLaw" (132 : Nat) y_Md_send) ∈ BIG := big_in (tb_6 (List.mem_of_getElem? (i := 83) rfl)) rfl
theorem k_1284 : (Jvm.Cond.instanceMethod y_Md_send) ∈ BIG := big_in (tb_6 (List.mem_of_getElem? (i := 84) rfl)) rfl
theorem k_1285 : (Jvm.Cond.selects "DoorServerModel" y_Md_send y_Md_send) ∈ BIG := big_in (tb_6 (List.mem_of_getElem? (i := 85) rfl)) rfl
theorem k_1286 : (Jvm.Cond.code y_Md_send prog_14_method_45_code (5 : Nat) (Option.some Jvm.ClassFile.FieldType.int)) ∈ BIG := big_in (tb_6 (List.mem_of_getElem? (i := 86) rfl)) rfl
theorem k_1287 : (Jvm.Cond.methodLink "DoorServerModel" (359 : Nat) y_Md_isWhole) ∈ BIG := big_in (tb_6 (List.mem_of_getElem? (i := 87) rfl)) rfl
theorem k_1289 : (Jvm.Cond.instanceMethod y_Md_isWhole) ∈ BIG := big_in (tb_6 (List.mem_of_getElem? (i := 89) rfl)) rfl
theorem k_1290 : (Jvm.Cond.code y_Md_isWhole prog_14_method_38_code (3 : Nat) (Option.some Jvm.ClassFile.FieldType.boolean)) ∈ BIG := big_in (tb_6 (List.mem_of_getElem? (i := 90) rfl)) rfl
theorem k_1291 : (Jvm.Cond.methodLink "DoorServerModel" (343 : Nat) y_Md_isKnown) ∈ BIG := big_in (tb_6 (List.mem_of_getElem? (i := 91) rfl)) rfl
theorem k_1292 : (Jvm.Cond.static y_Md_isKnown) ∈ BIG := big_in (tb_6 (List.mem_of_getElem? (i := 92) rfl)) rfl
theorem k_1293 : (Jvm.Cond.code y_Md_isKnown prog_14_method_36_code (1 : Nat) (Option.some Jvm.ClassFile.FieldType.boolean)) ∈ BIG := big_in (tb_6 (List.mem_of_getElem? (i := 93) rfl)) rfl
theorem k_1294 : (Jvm.Cond.methodLink "DoorServerModel" (346 : Nat) y_Md_find) ∈ BIG := big_in (tb_6 (List.mem_of_getElem? (i := 94) rfl)) rfl
theorem k_1296 : (Jvm.Cond.instanceMethod y_Md_find) ∈ BIG := big_in (tb_6 (List.mem_of_getElem? (i := 96) rfl)) rfl
theorem k_1297 : (Jvm.Cond.code y_Md_find prog_14_method_37_code (4 : Nat) (Option.some Jvm.ClassFile.FieldType.int)) ∈ BIG := big_in (tb_6 (List.mem_of_getElem? (i := 97) rfl)) rfl
theorem k_1298 : (Jvm.Cond.methodLink "DoorServerModel" (340 : Nat) y_Md_isRightSize) ∈ BIG := big_in (tb_6 (List.mem_of_getElem? (i := 98) rfl)) rfl
theorem k_1299 : (Jvm.Cond.static y_Md_isRightSize) ∈ BIG := big_in (tb_6 (List.mem_of_getElem? (i := 99) rfl)) rfl
theorem k_1300 : (Jvm.Cond.code y_Md_isRightSize prog_14_method_35_code (2 : Nat) (Option.some Jvm.ClassFile.FieldType.boolean)) ∈ BIG := big_in (tb_6 (List.mem_of_getElem? (i := 100) rfl)) rfl
theorem k_1301 : (Jvm.Cond.methodLink "DoorServerModel" (349 : Nat) y_Md_findEnd) ∈ BIG := big_in (tb_6 (List.mem_of_getElem? (i := 101) rfl)) rfl
theorem k_1303 : (Jvm.Cond.instanceMethod y_Md_findEnd) ∈ BIG := big_in (tb_6 (List.mem_of_getElem? (i := 103) rfl)) rfl
theorem k_1304 : (Jvm.Cond.code y_Md_findEnd prog_14_method_39_code (3 : Nat) (Option.some Jvm.ClassFile.FieldType.boolean)) ∈ BIG := big_in (tb_6 (List.mem_of_getElem? (i := 104) rfl)) rfl
theorem k_1305 : (Jvm.Cond.methodLink "DoorServerModel" (353 : Nat) y_Md_has) ∈ BIG := big_in (tb_6 (List.mem_of_getElem? (i := 105) rfl)) rfl
theorem k_1307 : (Jvm.Cond.instanceMethod y_Md_has) ∈ BIG := big_in (tb_6 (List.mem_of_getElem? (i := 107) rfl)) rfl
theorem k_1308 : (Jvm.Cond.code y_Md_has prog_14_method_40_code (2 : Nat) (Option.some Jvm.ClassFile.FieldType.boolean)) ∈ BIG := big_in (tb_6 (List.mem_of_getElem? (i := 108) rfl)) rfl
theorem k_1309 : (Jvm.Cond.methodLink "DoorServerModel" (356 : Nat) y_Md_valueAt) ∈ BIG := big_in (tb_6 (List.mem_of_getElem? (i := 109) rfl)) rfl
theorem k_1311 : (Jvm.Cond.instanceMethod y_Md_valueAt) ∈ BIG := big_in (tb_6 (List.mem_of_getElem? (i := 111) rfl)) rfl
theorem k_1312 : (Jvm.Cond.code y_Md_valueAt prog_14_method_41_code (2 : Nat) (Option.some Jvm.ClassFile.FieldType.int)) ∈ BIG := big_in (tb_6 (List.mem_of_getElem? (i := 112) rfl)) rfl
theorem k_1313 : (Jvm.Cond.methodLink "DoorServerModel" (362 : Nat) y_Md_isDigestAt) ∈ BIG := big_in (tb_6 (List.mem_of_getElem? (i := 113) rfl)) rfl
theorem k_1315 : (Jvm.Cond.instanceMethod y_Md_isDigestAt) ∈ BIG := big_in (tb_6 (List.mem_of_getElem? (i := 115) rfl)) rfl
theorem k_1316 : (Jvm.Cond.code y_Md_isDigestAt prog_14_method_44_code (4 : Nat) (Option.some Jvm.ClassFile.FieldType.boolean)) ∈ BIG := big_in (tb_6 (List.mem_of_getElem? (i := 116) rfl)) rfl
theorem k_1317 : (Jvm.Cond.methodLink "DoorServerModel" (365 : Nat) y_Md_keptAnswer) ∈ BIG := big_in (tb_6 (List.mem_of_getElem? (i := 117) rfl)) rfl
theorem k_1319 : (Jvm.Cond.instanceMethod y_Md_keptAnswer) ∈ BIG := big_in (tb_6 (List.mem_of_getElem? (i := 119) rfl)) rfl
theorem k_1320 : (Jvm.Cond.code y_Md_keptAnswer prog_14_method_46_code (5 : Nat) (Option.some Jvm.ClassFile.FieldType.int)) ∈ BIG := big_in (tb_6 (List.mem_of_getElem? (i := 120) rfl)) rfl
theorem k_1321 : (Jvm.Cond.methodLink "DoorServerModel" (371 : Nat) y_Md_enter) ∈ BIG := big_in (tb_6 (List.mem_of_getElem? (i := 121) rfl)) rfl
theorem k_1323 : (Jvm.Cond.instanceMethod y_Md_enter) ∈ BIG := big_in (tb_6 (List.mem_of_getElem? (i := 123) rfl)) rfl
theorem k_1324 : (Jvm.Cond.code y_Md_enter prog_14_method_54_code (3 : Nat) (Option.some Jvm.ClassFile.FieldType.int)) ∈ BIG := big_in (tb_6 (List.mem_of_getElem? (i := 124) rfl)) rfl
theorem k_1325 : (Jvm.Cond.methodLink "DoorServerModel" (404 : Nat) y_Md_userOf) ∈ BIG := big_in (tb_6 (List.mem_of_getElem? (i := 125) rfl)) rfl
theorem k_1327 : (Jvm.Cond.instanceMethod y_Md_userOf) ∈ BIG := big_in (tb_6 (List.mem_of_getElem? (i := 127) rfl)) rfl
theorem k_1328 : (Jvm.Cond.code y_Md_userOf prog_14_method_53_code (3 : Nat) (Option.some Jvm.ClassFile.FieldType.int)) ∈ BIG := big_in (tb_6 (List.mem_of_getElem? (i := 128) rfl)) rfl
theorem k_1329 : (Jvm.Cond.methodLink "DoorServerModel" (401 : Nat) y_Md_sizeOf) ∈ BIG := big_in (tb_6 (List.mem_of_getElem? (i := 129) rfl)) rfl
theorem k_1331 : (Jvm.Cond.instanceMethod y_Md_sizeOf) ∈ BIG := big_in (tb_6 (List.mem_of_getElem? (i := 131) rfl)) rfl
theorem k_1332 : (Jvm.Cond.code y_Md_sizeOf prog_14_method_42_code (2 : Nat) (Option.some Jvm.ClassFile.FieldType.int)) ∈ BIG := big_in (tb_6 (List.mem_of_getElem? (i := 132) rfl)) rfl
theorem k_1333 : (Jvm.Cond.methodLink "DoorServerModel" (407 : Nat) y_Md_open) ∈ BIG := big_in (tb_6 (List.mem_of_getElem? (i := 133) rfl)) rfl
theorem k_1335 : (Jvm.Cond.instanceMethod y_Md_open) ∈ BIG := big_in (tb_6 (List.mem_of_getElem? (i := 135) rfl)) rfl
theorem k_1336 : (Jvm.Cond.code y_Md_open prog_14_method_48_code (3 : Nat) (Option.none : Option Jvm.ClassFile.FieldType)) ∈ BIG := big_in (tb_6 (List.mem_of_getElem? (i := 136) rfl)) rfl
theorem k_1337 : (Jvm.Cond.methodLink "DoorServerModel" (386 : Nat) y_Md_tell) ∈ BIG := big_in (tb_6 (List.mem_of_getElem? (i := 137) rfl)) rfl
theorem k_1339 : (Jvm.Cond.instanceMethod y_Md_tell) ∈ BIG := big_in (tb_6 (List.mem_of_getElem? (i := 139) rfl)) rfl
theorem k_1340 : (Jvm.Cond.code y_Md_tell prog_14_method_47_code (2 : Nat) (Option.none : Option Jvm.ClassFile.FieldType)) ∈ BIG := big_in (tb_6 (List.mem_of_getElem? (i := 140) rfl)) rfl
theorem k_1341 : (Jvm.Cond.methodLink "DoorServerModel" (410 : Nat) y_Md_isPassword) ∈ BIG := big_in (tb_6 (List.mem_of_getElem? (i := 141) rfl)) rfl
theorem k_1343 : (Jvm.Cond.instanceMethod y_Md_isPassword) ∈ BIG := big_in (tb_6 (List.mem_of_getElem? (i := 143) rfl)) rfl
theorem k_1344 : (Jvm.Cond.code y_Md_isPassword prog_14_method_55_code (9 : Nat) (Option.some Jvm.ClassFile.FieldType.boolean)) ∈ BIG := big_in (tb_6 (List.mem_of_getElem? (i := 144) rfl)) rfl
theorem k_1345 : (Jvm.Cond.methodLink "DoorServerModel" (413 : Nat) y_Md_talks) ∈ BIG := big_in (tb_6 (List.mem_of_getElem? (i := 145) rfl)) rfl
theorem k_1347 : (Jvm.Cond.instanceMethod y_Md_talks) ∈ BIG := big_in (tb_6 (List.mem_of_getElem? (i := 147) rfl)) rfl
theorem k_1348 : (Jvm.Cond.code y_Md_talks prog_14_method_56_code (9 : Nat) (Option.none : Option Jvm.ClassFile.FieldType)) ∈ BIG := big_in (tb_6 (List.mem_of_getElem? (i := 148) rfl)) rfl
theorem k_1349 : (Jvm.Cond.methodLink "DoorServerModel" (419 : Nat) y_Md_challenge) ∈ BIG := big_in (tb_6 (List.mem_of_getElem? (i := 149) rfl)) rfl
theorem k_1351 : (Jvm.Cond.instanceMethod y_Md_challenge) ∈ BIG := big_in (tb_6 (List.mem_of_getElem? (i := 151) rfl)) rfl
theorem k_1352 : (Jvm.Cond.code y_Md_challenge prog_14_method_58_code (5 : Nat) (Option.none : Option Jvm.ClassFile.FieldType)) ∈ BIG := big_in (tb_6 (List.mem_of_getElem? (i := 152) rfl)) rfl
theorem k_1353 : (Jvm.Cond.methodLink "DoorServerModel" (430 : Nat) y_Md_dropTrial) ∈ BIG := big_in (tb_6 (List.mem_of_getElem? (i := 153) rfl)) rfl
theorem k_1355 : (Jvm.Cond.instanceMethod y_Md_dropTrial) ∈ BIG := big_in (tb_6 (List.mem_of_getElem? (i := 155) rfl)) rfl
theorem k_1356 : (Jvm.Cond.code y_Md_dropTrial prog_14_method_57_code (4 : Nat) (Option.none : Option Jvm.ClassFile.FieldType)) ∈ BIG := big_in (tb_6 (List.mem_of_getElem? (i := 156) rfl)) rfl
theorem k_1357 : (Jvm.Cond.constantLong "DoorServerModel" (436 : Nat) (6364136223846793005 : Int64)) ∈ BIG := big_in (tb_6 (List.mem_of_getElem? (i := 157) rfl)) rfl
theorem k_1358 : (Jvm.Cond.constantLong "DoorServerModel" (438 : Nat) (1442695040888963407 : Int64)) ∈ BIG := big_in (tb_6 (List.mem_of_getElem? (i := 158) rfl)) rfl
theorem k_1359 : (Jvm.Cond.methodLink "DoorServerModel" (423 : Nat) y_Md_isMet) ∈ BIG := big_in (tb_6 (List.mem_of_getElem? (i := 159) rfl)) rfl
theorem k_1361 : (Jvm.Cond.instanceMethod y_Md_isMet) ∈ BIG := big_in (tb_6 (List.mem_of_getElem? (i := 161) rfl)) rfl
theorem k_1362 : (Jvm.Cond.code y_Md_isMet prog_14_method_59_code (11 : Nat) (Option.some Jvm.ClassFile.FieldType.boolean)) ∈ BIG := big_in (tb_6 (List.mem_of_getElem? (i := 162) rfl)) rfl
theorem k_1363 : (Jvm.Cond.methodLink "DoorServerModel" (416 : Nat) y_Md_close) ∈ BIG := big_in (tb_6 (List.mem_of_getElem? (i := 163) rfl)) rfl
theorem k_1365 : (Jvm.Cond.instanceMethod y_Md_close) ∈ BIG := big_in (tb_6 (List.mem_of_getElem? (i := 165) rfl)) rfl
theorem k_1366 : (Jvm.Cond.code y_Md_close prog_14_method_52_code (5 : Nat) (Option.some Jvm.ClassFile.FieldType.int)) ∈ BIG := big_in (tb_6 (List.mem_of_getElem? (i := 166) rfl)) rfl
theorem k_1367 : (Jvm.Cond.methodLink "DoorServerModel" (395 : Nat) y_Md_keep) ∈ BIG := big_in (tb_6 (List.mem_of_getElem? (i := 167) rfl)) rfl
theorem k_1369 : (Jvm.Cond.instanceMethod y_Md_keep) ∈ BIG := big_in (tb_6 (List.mem_of_getElem? (i := 169) rfl)) rfl
theorem k_1370 : (Jvm.Cond.code y_Md_keep prog_14_method_51_code (3 : Nat) (Option.none : Option Jvm.ClassFile.FieldType)) ∈ BIG := big_in (tb_6 (List.mem_of_getElem? (i := 170) rfl)) rfl
theorem k_1371 : (Jvm.Cond.methodLink "DoorServerModel" (392 : Nat) y_Md_dropAnswer) ∈ BIG := big_in (tb_6 (List.mem_of_getElem? (i := 171) rfl)) rfl
theorem k_1373 : (Jvm.Cond.instanceMethod y_Md_dropAnswer) ∈ BIG := big_in (tb_6 (List.mem_of_getElem? (i := 173) rfl)) rfl
theorem k_1374 : (Jvm.Cond.code y_Md_dropAnswer prog_14_method_50_code (3 : Nat) (Option.none : Option Jvm.ClassFile.FieldType)) ∈ BIG := big_in (tb_6 (List.mem_of_getElem? (i := 174) rfl)) rfl
theorem k_1375 : (Jvm.Cond.methodLink "DoorServerModel" (389 : Nat) y_Md_copyAnswer) ∈ BIG := big_in (tb_6 (List.mem_of_getElem? (i := 175) rfl)) rfl
theorem k_1377 : (Jvm.Cond.instanceMethod y_Md_copyAnswer) ∈ BIG := big_in (tb_6 (List.mem_of_getElem? (i := 177) rfl)) rfl
theorem k_1378 : (Jvm.Cond.code y_Md_copyAnswer prog_14_method_49_code (4 : Nat) (Option.none : Option Jvm.ClassFile.FieldType)) ∈ BIG := big_in (tb_6 (List.mem_of_getElem? (i := 178) rfl)) rfl
theorem k_1379 : (Jvm.Cond.methodLink "DoorServerModel" (374 : Nat) y_Md_write) ∈ BIG := big_in (tb_6 (List.mem_of_getElem? (i := 179) rfl)) rfl
theorem k_1381 : (Jvm.Cond.instanceMethod y_Md_write) ∈ BIG := big_in (tb_6 (List.mem_of_getElem? (i := 181) rfl)) rfl
theorem k_1382 : (Jvm.Cond.code y_Md_write prog_14_method_61_code (7 : Nat) (Option.some Jvm.ClassFile.FieldType.int)) ∈ BIG := big_in (tb_6 (List.mem_of_getElem? (i := 182) rfl)) rfl
theorem k_1383 : (Jvm.Cond.methodLink "DoorServerModel" (443 : Nat) y_Md_fourOf) ∈ BIG := big_in (tb_6 (List.mem_of_getElem? (i := 183) rfl)) rfl
theorem k_1385 : (Jvm.Cond.instanceMethod y_Md_fourOf) ∈ BIG := big_in (tb_6 (List.mem_of_getElem? (i := 185) rfl)) rfl
theorem k_1386 : (Jvm.Cond.code y_Md_fourOf prog_14_method_43_code (3 : Nat) (Option.some Jvm.ClassFile.FieldType.long)) ∈ BIG := big_in (tb_6 (List.mem_of_getElem? (i := 186) rfl)) rfl
theorem k_1387 : (Jvm.Cond.constantLong "DoorServerModel" (447 : Nat) (2 : Int64)) ∈ BIG := big_in (tb_6 (List.mem_of_getElem? (i := 187) rfl)) rfl
theorem k_1388 : (Jvm.Cond.constantLong "DoorServerModel" (449 : Nat) (3 : Int64)) ∈ BIG := big_in (tb_6 (List.mem_of_getElem? (i := 188) rfl)) rfl
theorem k_1389 : (Jvm.Cond.methodLink "DoorServerModel" (451 : Nat) y_Md_recordOf) ∈ BIG := big_in (tb_6 (List.mem_of_getElem? (i := 189) rfl)) rfl
theorem k_1391 : (Jvm.Cond.instanceMethod y_Md_recordOf) ∈ BIG := big_in (tb_6 (List.mem_of_getElem? (i := 191) rfl)) rfl
theorem k_1392 : (Jvm.Cond.code y_Md_recordOf prog_14_method_60_code (7 : Nat) (Option.some Jvm.ClassFile.FieldType.int)) ∈ BIG := big_in (tb_6 (List.mem_of_getElem? (i := 192) rfl)) rfl
theorem k_1393 : (Jvm.Cond.methodLink "DoorServerLaw" (136 : Nat) y_Md_size) ∈ BIG := big_in (tb_6 (List.mem_of_getElem? (i := 193) rfl)) rfl
theorem k_1394 : (Jvm.Cond.instanceMethod y_Md_size) ∈ BIG := big_in (tb_6 (List.mem_of_getElem? (i := 194) rfl)) rfl
theorem k_1395 : (Jvm.Cond.selects "DoorServerModel" y_Md_size y_Md_size) ∈ BIG := big_in (tb_6 (List.mem_of_getElem? (i := 195) rfl)) rfl
theorem k_1396 : (Jvm.Cond.code y_Md_size prog_14_method_62_code (1 : Nat) (Option.some Jvm.ClassFile.FieldType.int)) ∈ BIG := big_in (tb_6 (List.mem_of_getElem? (i := 196) rfl)) rfl
theorem k_1397 : (Jvm.Cond.methodLink "DoorServerLaw" (139 : Nat) y_Md_byteAt) ∈ BIG := big_in (tb_6 (List.mem_of_getElem? (i := 197) rfl)) rfl
theorem k_1398 : (Jvm.Cond.instanceMethod y_Md_byteAt) ∈ BIG := big_in (tb_6 (List.mem_of_getElem? (i := 198) rfl)) rfl
theorem k_1399 : (Jvm.Cond.selects "DoorServerModel" y_Md_byteAt y_Md_byteAt) ∈ BIG := big_in (tb_6 (List.mem_of_getElem? (i := 199) rfl)) rfl
theorem k_1400 : (Jvm.Cond.code y_Md_byteAt prog_14_method_63_code (2 : Nat) (Option.some Jvm.ClassFile.FieldType.int)) ∈ BIG := big_in (tb_6 (List.mem_of_getElem? (i := 200) rfl)) rfl
theorem k_1401 : (Jvm.Cond.methodLink "DoorServerLaw" (142 : Nat) y_Md_ticks) ∈ BIG := big_in (tb_6 (List.mem_of_getElem? (i := 201) rfl)) rfl
theorem k_1402 : (Jvm.Cond.instanceMethod y_Md_ticks) ∈ BIG := big_in (tb_6 (List.mem_of_getElem? (i := 202) rfl)) rfl
theorem k_1403 : (Jvm.Cond.selects "DoorServerModel" y_Md_ticks y_Md_ticks) ∈ BIG := big_in (tb_6 (List.mem_of_getElem? (i := 203) rfl)) rfl
theorem k_1404 : (Jvm.Cond.code y_Md_ticks prog_14_method_64_code (2 : Nat) (Option.some Jvm.ClassFile.FieldType.int)) ∈ BIG := big_in (tb_6 (List.mem_of_getElem? (i := 204) rfl)) rfl
theorem k_1405 : (Jvm.Cond.constant "DoorServerModel" (454 : Nat) (1000000 : Int32)) ∈ BIG := big_in (tb_6 (List.mem_of_getElem? (i := 205) rfl)) rfl
theorem k_1406 : (Jvm.Cond.methodLink "DoorServerLaw" (145 : Nat) y_Md_count) ∈ BIG := big_in (tb_6 (List.mem_of_getElem? (i := 206) rfl)) rfl
theorem k_1407 : (Jvm.Cond.instanceMethod y_Md_count) ∈ BIG := big_in (tb_6 (List.mem_of_getElem? (i := 207) rfl)) rfl
theorem k_1408 : (Jvm.Cond.selects "DoorServerModel" y_Md_count y_Md_count) ∈ BIG := big_in (tb_6 (List.mem_of_getElem? (i := 208) rfl)) rfl
theorem k_1409 : (Jvm.Cond.code y_Md_count prog_14_method_65_code (2 : Nat) (Option.some Jvm.ClassFile.FieldType.int)) ∈ BIG := big_in (tb_6 (List.mem_of_getElem? (i := 209) rfl)) rfl
theorem k_1410 : (Jvm.Cond.methodLink "DoorServerLaw" (148 : Nat) y_Md_record) ∈ BIG := big_in (tb_6 (List.mem_of_getElem? (i := 210) rfl)) rfl
theorem k_1411 : (Jvm.Cond.instanceMethod y_Md_record) ∈ BIG := big_in (tb_6 (List.mem_of_getElem? (i := 211) rfl)) rfl
theorem k_1412 : (Jvm.Cond.selects "DoorServerModel" y_Md_record y_Md_record) ∈ BIG := big_in (tb_6 (List.mem_of_getElem? (i := 212) rfl)) rfl
theorem k_1413 : (Jvm.Cond.code y_Md_record prog_14_method_67_code (7 : Nat) (Option.some Jvm.ClassFile.FieldType.long)) ∈ BIG := big_in (tb_6 (List.mem_of_getElem? (i := 213) rfl)) rfl
theorem k_1414 : (Jvm.Cond.methodLink "DoorServerModel" (455 : Nat) y_Md_isBefore) ∈ BIG := big_in (tb_6 (List.mem_of_getElem? (i := 214) rfl)) rfl
theorem k_1416 : (Jvm.Cond.instanceMethod y_Md_isBefore) ∈ BIG := big_in (tb_6 (List.mem_of_getElem? (i := 216) rfl)) rfl
theorem k_1417 : (Jvm.Cond.code y_Md_isBefore prog_14_method_66_code (5 : Nat) (Option.some Jvm.ClassFile.FieldType.boolean)) ∈ BIG := big_in (tb_6 (List.mem_of_getElem? (i := 217) rfl)) rfl
theorem k_1418 : (Jvm.Cond.constantLong "DoorServerLaw" (78 : Nat) (4294967295 : Int64)) ∈ BIG := big_in (tb_6 (List.mem_of_getElem? (i := 218) rfl)) rfl
theorem k_1419 : (Jvm.Cond.sameMethod "DoorServer$Bytes" "DoorServer$Bytes" "append" "(I)V") ∈ BIG := big_in (tb_6 (List.mem_of_getElem? (i := 219) rfl)) rfl
theorem k_1420 : (Jvm.Cond.selects "DoorServer$Bytes" y_By_append y_By_append) ∈ BIG := big_in (tb_6 (List.mem_of_getElem? (i := 220) rfl)) rfl
theorem k_1421 : (Jvm.Cond.selects "DoorServer$Packet" y_By_append y_By_append) ∈ BIG := big_in (tb_6 (List.mem_of_getElem? (i := 221) rfl)) rfl
theorem k_1422 : (Jvm.Cond.sameMethod "java/lang/Throwable" "java/lang/Throwable" "fillInStackTrace" "(I)Ljava/lang/Throwable;") ∈ BIG := big_in (tb_6 (List.mem_of_getElem? (i := 222) rfl)) rfl
theorem in_DS : ∀ w ∈ u_ws R_DS F_DS 2, w ∈ BIG := by
  show ∀ w ∈ [u_lay R_DS F_DS 0, u_lay R_DS F_DS 1], w ∈ BIG
  exact List.forall_mem_cons.mpr ⟨k_370, List.forall_mem_cons.mpr ⟨k_372, fun _ h => absurd h List.not_mem_nil⟩⟩
theorem in_By : ∀ w ∈ u_ws R_By F_By 2, w ∈ BIG := by
  show ∀ w ∈ [u_lay R_By F_By 0, u_lay R_By F_By 1], w ∈ BIG
  exact List.forall_mem_cons.mpr ⟨k_113, List.forall_mem_cons.mpr ⟨k_114, fun _ h => absurd h List.not_mem_nil⟩⟩
theorem in_Pk : ∀ w ∈ u_ws R_Pk F_Pk 2, w ∈ BIG := by
  show ∀ w ∈ [u_lay R_Pk F_Pk 0, u_lay R_Pk F_Pk 1], w ∈ BIG
  exact List.forall_mem_cons.mpr ⟨k_62, List.forall_mem_cons.mpr ⟨k_64, fun _ h => absurd h List.not_mem_nil⟩⟩
theorem in_Dg : ∀ w ∈ u_ws R_Dg F_Dg 7, w ∈ BIG := by
  show ∀ w ∈ [u_lay R_Dg F_Dg 0, u_lay R_Dg F_Dg 1, u_lay R_Dg F_Dg 2, u_lay R_Dg F_Dg 3, u_lay R_Dg F_Dg 4, u_lay R_Dg F_Dg 5, u_lay R_Dg F_Dg 6], w ∈ BIG
  exact List.forall_mem_cons.mpr ⟨k_123, List.forall_mem_cons.mpr ⟨k_125, List.forall_mem_cons.mpr ⟨k_127, List.forall_mem_cons.mpr ⟨k_129, List.forall_mem_cons.mpr ⟨k_131, List.forall_mem_cons.mpr ⟨k_133, List.forall_mem_cons.mpr ⟨k_135, fun _ h => absurd h List.not_mem_nil⟩⟩⟩⟩⟩⟩⟩
theorem in_Rq : ∀ w ∈ u_ws R_Rq F_Rq 2, w ∈ BIG := by
  show ∀ w ∈ [u_lay R_Rq F_Rq 0, u_lay R_Rq F_Rq 1], w ∈ BIG
  exact List.forall_mem_cons.mpr ⟨k_314, List.forall_mem_cons.mpr ⟨k_316, fun _ h => absurd h List.not_mem_nil⟩⟩
theorem in_Sv : ∀ w ∈ u_ws R_Sv F_Sv 12, w ∈ BIG := by
  show ∀ w ∈ [u_lay R_Sv F_Sv 0, u_lay R_Sv F_Sv 1, u_lay R_Sv F_Sv 2, u_lay R_Sv F_Sv 3, u_lay R_Sv F_Sv 4, u_lay R_Sv F_Sv 5, u_lay R_Sv F_Sv 6, u_lay R_Sv F_Sv 7, u_lay R_Sv F_Sv 8, u_lay R_Sv F_Sv 9, u_lay R_Sv F_Sv 10, u_lay R_Sv F_Sv 11], w ∈ BIG
  exact List.forall_mem_cons.mpr ⟨k_343, List.forall_mem_cons.mpr ⟨k_345, List.forall_mem_cons.mpr ⟨k_347, List.forall_mem_cons.mpr ⟨k_349, List.forall_mem_cons.mpr ⟨k_351, List.forall_mem_cons.mpr ⟨k_353, List.forall_mem_cons.mpr ⟨k_355, List.forall_mem_cons.mpr ⟨k_357, List.forall_mem_cons.mpr ⟨k_359, List.forall_mem_cons.mpr ⟨k_361, List.forall_mem_cons.mpr ⟨k_363, List.forall_mem_cons.mpr ⟨k_365, fun _ h => absurd h List.not_mem_nil⟩⟩⟩⟩⟩⟩⟩⟩⟩⟩⟩⟩
theorem in_An : ∀ w ∈ u_ws R_An F_An 3, w ∈ BIG := by
  show ∀ w ∈ [u_lay R_An F_An 0, u_lay R_An F_An 1, u_lay R_An F_An 2], w ∈ BIG
  exact List.forall_mem_cons.mpr ⟨k_184, List.forall_mem_cons.mpr ⟨k_186, List.forall_mem_cons.mpr ⟨k_188, fun _ h => absurd h List.not_mem_nil⟩⟩⟩
theorem in_Ke : ∀ w ∈ u_ws R_Ke F_Ke 6, w ∈ BIG := by
  show ∀ w ∈ [u_lay R_Ke F_Ke 0, u_lay R_Ke F_Ke 1, u_lay R_Ke F_Ke 2, u_lay R_Ke F_Ke 3, u_lay R_Ke F_Ke 4, u_lay R_Ke F_Ke 5], w ∈ BIG
  exact List.forall_mem_cons.mpr ⟨k_167, List.forall_mem_cons.mpr ⟨k_169, List.forall_mem_cons.mpr ⟨k_171, List.forall_mem_cons.mpr ⟨k_173, List.forall_mem_cons.mpr ⟨k_175, List.forall_mem_cons.mpr ⟨k_177, fun _ h => absurd h List.not_mem_nil⟩⟩⟩⟩⟩⟩
theorem in_Tl : ∀ w ∈ u_ws R_Tl F_Tl 7, w ∈ BIG := by
  show ∀ w ∈ [u_lay R_Tl F_Tl 0, u_lay R_Tl F_Tl 1, u_lay R_Tl F_Tl 2, u_lay R_Tl F_Tl 3, u_lay R_Tl F_Tl 4, u_lay R_Tl F_Tl 5, u_lay R_Tl F_Tl 6], w ∈ BIG
  exact List.forall_mem_cons.mpr ⟨k_216, List.forall_mem_cons.mpr ⟨k_218, List.forall_mem_cons.mpr ⟨k_220, List.forall_mem_cons.mpr ⟨k_222, List.forall_mem_cons.mpr ⟨k_224, List.forall_mem_cons.mpr ⟨k_226, List.forall_mem_cons.mpr ⟨k_228, fun _ h => absurd h List.not_mem_nil⟩⟩⟩⟩⟩⟩⟩
theorem in_Ts : ∀ w ∈ u_ws R_Ts F_Ts 4, w ∈ BIG := by
  show ∀ w ∈ [u_lay R_Ts F_Ts 0, u_lay R_Ts F_Ts 1, u_lay R_Ts F_Ts 2, u_lay R_Ts F_Ts 3], w ∈ BIG
  exact List.forall_mem_cons.mpr ⟨k_236, List.forall_mem_cons.mpr ⟨k_238, List.forall_mem_cons.mpr ⟨k_240, List.forall_mem_cons.mpr ⟨k_242, fun _ h => absurd h List.not_mem_nil⟩⟩⟩⟩
theorem in_Se : ∀ w ∈ u_ws R_Se F_Se 8, w ∈ BIG := by
  show ∀ w ∈ [u_lay R_Se F_Se 0, u_lay R_Se F_Se 1, u_lay R_Se F_Se 2, u_lay R_Se F_Se 3, u_lay R_Se F_Se 4, u_lay R_Se F_Se 5, u_lay R_Se F_Se 6, u_lay R_Se F_Se 7], w ∈ BIG
  exact List.forall_mem_cons.mpr ⟨k_277, List.forall_mem_cons.mpr ⟨k_279, List.forall_mem_cons.mpr ⟨k_281, List.forall_mem_cons.mpr ⟨k_283, List.forall_mem_cons.mpr ⟨k_285, List.forall_mem_cons.mpr ⟨k_287, List.forall_mem_cons.mpr ⟨k_289, List.forall_mem_cons.mpr ⟨k_291, fun _ h => absurd h List.not_mem_nil⟩⟩⟩⟩⟩⟩⟩⟩
theorem in_Ss : ∀ w ∈ u_ws R_Ss F_Ss 2, w ∈ BIG := by
  show ∀ w ∈ [u_lay R_Ss F_Ss 0, u_lay R_Ss F_Ss 1], w ∈ BIG
  exact List.forall_mem_cons.mpr ⟨k_298, List.forall_mem_cons.mpr ⟨k_300, fun _ h => absurd h List.not_mem_nil⟩⟩
theorem in_Md : ∀ w ∈ u_ws R_Md F_Md 45, w ∈ BIG := by
  show ∀ w ∈ [u_lay R_Md F_Md 0, u_lay R_Md F_Md 1, u_lay R_Md F_Md 2, u_lay R_Md F_Md 3, u_lay R_Md F_Md 4, u_lay R_Md F_Md 5, u_lay R_Md F_Md 6, u_lay R_Md F_Md 7, u_lay R_Md F_Md 8, u_lay R_Md F_Md 9, u_lay R_Md F_Md 10, u_lay R_Md F_Md 11, u_lay R_Md F_Md 12, u_lay R_Md F_Md 13, u_lay R_Md F_Md 14, u_lay R_Md F_Md 15, u_lay R_Md F_Md 16, u_lay R_Md F_Md 17, u_lay R_Md F_Md 18, u_lay R_Md F_Md 19, u_lay R_Md F_Md 20, u_lay R_Md F_Md 21, u_lay R_Md F_Md 22, u_lay R_Md F_Md 23, u_lay R_Md F_Md 24, u_lay R_Md F_Md 25, u_lay R_Md F_Md 26, u_lay R_Md F_Md 27, u_lay R_Md F_Md 28, u_lay R_Md F_Md 29, u_lay R_Md F_Md 30, u_lay R_Md F_Md 31, u_lay R_Md F_Md 32, u_lay R_Md F_Md 33, u_lay R_Md F_Md 34, u_lay R_Md F_Md 35, u_lay R_Md F_Md 36, u_lay R_Md F_Md 37, u_lay R_Md F_Md 38, u_lay R_Md F_Md 39, u_lay R_Md F_Md 40, u_lay R_Md F_Md 41, u_lay R_Md F_Md 42, u_lay R_Md F_Md 43, u_lay R_Md F_Md 44], w ∈ BIG
  exact List.forall_mem_cons.mpr ⟨k_1065, List.forall_mem_cons.mpr ⟨k_1067, List.forall_mem_cons.mpr ⟨k_1069, List.forall_mem_cons.mpr ⟨k_1071, List.forall_mem_cons.mpr ⟨k_1073, List.forall_mem_cons.mpr ⟨k_1075, List.forall_mem_cons.mpr ⟨k_1077, List.forall_mem_cons.mpr ⟨k_1079, List.forall_mem_cons.mpr ⟨k_1081, List.forall_mem_cons.mpr ⟨k_1083, List.forall_mem_cons.mpr ⟨k_1085, List.forall_mem_cons.mpr ⟨k_1087, List.forall_mem_cons.mpr ⟨k_1089, List.forall_mem_cons.mpr ⟨k_1091, List.forall_mem_cons.mpr ⟨k_1093, List.forall_mem_cons.mpr ⟨k_1095, List.forall_mem_cons.mpr ⟨k_1097, List.forall_mem_cons.mpr ⟨k_1099, List.forall_mem_cons.mpr ⟨k_1101, List.forall_mem_cons.mpr ⟨k_1103, List.forall_mem_cons.mpr ⟨k_1105, List.forall_mem_cons.mpr ⟨k_1107, List.forall_mem_cons.mpr ⟨k_1109, List.forall_mem_cons.mpr ⟨k_1111, List.forall_mem_cons.mpr ⟨k_1113, List.forall_mem_cons.mpr ⟨k_1115, List.forall_mem_cons.mpr ⟨k_1117, List.forall_mem_cons.mpr ⟨k_1119, List.forall_mem_cons.mpr ⟨k_1121, List.forall_mem_cons.mpr ⟨k_1123, List.forall_mem_cons.mpr ⟨k_1125, List.forall_mem_cons.mpr ⟨k_1127, List.forall_mem_cons.mpr ⟨k_1129, List.forall_mem_cons.mpr ⟨k_1131, List.forall_mem_cons.mpr ⟨k_1133, List.forall_mem_cons.mpr ⟨k_1135, List.forall_mem_cons.mpr ⟨k_1137, List.forall_mem_cons.mpr ⟨k_1139, List.forall_mem_cons.mpr ⟨k_1141, List.forall_mem_cons.mpr ⟨k_1143, List.forall_mem_cons.mpr ⟨k_1145, List.forall_mem_cons.mpr ⟨k_1147, List.forall_mem_cons.mpr ⟨k_1149, List.forall_mem_cons.mpr ⟨k_1151, List.forall_mem_cons.mpr ⟨k_1153, fun _ h => absurd h List.not_mem_nil⟩⟩⟩⟩⟩⟩⟩⟩⟩⟩⟩⟩⟩⟩⟩⟩⟩⟩⟩⟩⟩⟩⟩⟩⟩⟩⟩⟩⟩⟩⟩⟩⟩⟩⟩⟩⟩⟩⟩⟩⟩⟩⟩⟩⟩
