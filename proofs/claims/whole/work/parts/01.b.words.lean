/-! one list of words for all methods; words by their places; class tables; code names: laid by program (wip/whole/names.py) -/
def tb : List Cond := lw_tbl.filter goodWord
theorem tb_good : GoodIn tb tb := fun w h => ⟨h, good_of_word (List.mem_filter.mp h).2⟩
theorem tb_in {w : Cond} (h : w ∈ lw_tbl) (hg : goodWord w = true) : w ∈ tb := List.mem_filter.mpr ⟨h, hg⟩
theorem tb_t1 {w : Cond} (i : Nat) (h : tables_1_1[i]? = some w) (hg : goodWord w = true) : w ∈ tb := tb_in (List.mem_append_right _ (List.mem_append_left _ (List.mem_of_getElem? h))) hg
theorem tb_t2 {w : Cond} (i : Nat) (h : tables_1_2[i]? = some w) (hg : goodWord w = true) : w ∈ tb := tb_in (List.mem_append_right _ (List.mem_append_right _ (List.mem_append_left _ (List.mem_of_getElem? h)))) hg
theorem tb_t3 {w : Cond} (i : Nat) (h : tables_1_3[i]? = some w) (hg : goodWord w = true) : w ∈ tb := tb_in (List.mem_append_right _ (List.mem_append_right _ (List.mem_append_right _ (List.mem_append_left _ (List.mem_of_getElem? h))))) hg
theorem tb_t4 {w : Cond} (i : Nat) (h : tables_1_4[i]? = some w) (hg : goodWord w = true) : w ∈ tb := tb_in (List.mem_append_right _ (List.mem_append_right _ (List.mem_append_right _ (List.mem_append_right _ (List.mem_of_getElem? h))))) hg
theorem w_0 : (Jvm.Cond.initialized "RetentionVaultLaw") ∈ tb := tb_t1 0 rfl rfl
theorem w_1 : (Jvm.Cond.initialized "RetentionVault") ∈ tb := tb_t1 1 rfl rfl
theorem w_2 : (Jvm.Cond.initialized "java/util/AbstractCollection") ∈ tb := tb_t1 2 rfl rfl
theorem w_3 : (Jvm.Cond.initialized "java/util/AbstractList") ∈ tb := tb_t1 3 rfl rfl
theorem w_4 : (Jvm.Cond.initialized "java/util/ArrayList") ∈ tb := tb_t1 4 rfl rfl
theorem w_5 : (Jvm.Cond.initialized "RetentionVault$Rule") ∈ tb := tb_t1 5 rfl rfl
theorem w_6 : (Jvm.Cond.initialized "RetentionVault$Log") ∈ tb := tb_t1 6 rfl rfl
theorem w_7 : (Jvm.Cond.initialized "RetentionVaultModel") ∈ tb := tb_t1 7 rfl rfl
theorem w_8 : (Jvm.Cond.initialized "java/lang/Throwable") ∈ tb := tb_t1 8 rfl rfl
theorem w_9 : (Jvm.Cond.initialized "java/lang/Exception") ∈ tb := tb_t1 9 rfl rfl
theorem w_10 : (Jvm.Cond.initialized "java/lang/RuntimeException") ∈ tb := tb_t1 10 rfl rfl
theorem w_11 : (Jvm.Cond.initialized "java/lang/IllegalArgumentException") ∈ tb := tb_t1 11 rfl rfl
theorem w_12 : (Jvm.Cond.initialized "java/lang/IllegalStateException") ∈ tb := tb_t1 12 rfl rfl
theorem w_13 : (Jvm.Cond.initialized "RetentionVault$Version") ∈ tb := tb_t1 13 rfl rfl
theorem w_14 : (Jvm.Cond.initialized "java/util/Objects") ∈ tb := tb_t1 14 rfl rfl
theorem w_15 : (Jvm.Cond.initialized "jdk/internal/util/Preconditions") ∈ tb := tb_t1 15 rfl rfl
theorem w_16 : (Jvm.Cond.initialized "jdk/internal/util/ArraysSupport") ∈ tb := tb_t1 16 rfl rfl
theorem w_17 : (Jvm.Cond.initialized "java/lang/Math") ∈ tb := tb_t1 17 rfl rfl
theorem w_18 : (Jvm.Cond.initialized "java/util/Arrays") ∈ tb := tb_t1 18 rfl rfl
theorem w_19 : (Jvm.Cond.initialized "java/lang/System") ∈ tb := tb_t1 19 rfl rfl
theorem w_20 : (Jvm.Cond.initialized "java/util/NoSuchElementException") ∈ tb := tb_t1 20 rfl rfl
theorem w_21 : (Jvm.Cond.initialized "java/lang/IndexOutOfBoundsException") ∈ tb := tb_t1 21 rfl rfl
theorem w_22 : (Jvm.Cond.classLink "RetentionVaultLaw" (8 : Nat) "RetentionVault") ∈ tb := tb_t1 22 rfl rfl
theorem w_23 : (Jvm.Cond.instantiable "RetentionVault" (5 : Nat)) ∈ tb := tb_t1 23 rfl rfl
theorem w_24 : (Jvm.Cond.methodLink "RetentionVaultLaw" (67 : Nat) ({ cls := "RetentionVault", name := "<init>", desc := "()V" } : Jvm.MethodName)) ∈ tb := tb_t1 24 rfl rfl
theorem w_25 : (Jvm.Cond.instanceMethod ({ cls := "RetentionVault", name := "<init>", desc := "()V" } : Jvm.MethodName)) ∈ tb := tb_t1 25 rfl rfl
theorem w_26 : (Jvm.Cond.code ({ cls := "RetentionVault", name := "<init>", desc := "()V" } : Jvm.MethodName) prog_1_method_1_code (2 : Nat) (Option.none : Option Jvm.ClassFile.FieldType)) ∈ tb := tb_t1 26 rfl rfl
theorem w_27 : (Jvm.Cond.methodLink "RetentionVault" (1 : Nat) ({ cls := "java/lang/Object", name := "<init>", desc := "()V" } : Jvm.MethodName)) ∈ tb := tb_t1 27 rfl rfl
theorem w_28 : (Jvm.Cond.instanceMethod ({ cls := "java/lang/Object", name := "<init>", desc := "()V" } : Jvm.MethodName)) ∈ tb := tb_t1 28 rfl rfl
theorem w_29 : (Jvm.Cond.code ({ cls := "java/lang/Object", name := "<init>", desc := "()V" } : Jvm.MethodName) object_method_1_code (1 : Nat) (Option.none : Option Jvm.ClassFile.FieldType)) ∈ tb := tb_t1 29 rfl rfl
theorem w_30 : (Jvm.Cond.classLink "RetentionVault" (7 : Nat) "java/util/ArrayList") ∈ tb := tb_t1 30 rfl rfl
theorem w_31 : (Jvm.Cond.instantiable "java/util/ArrayList" (3 : Nat)) ∈ tb := tb_t1 31 rfl rfl
theorem w_32 : (Jvm.Cond.methodLink "RetentionVault" (9 : Nat) ({ cls := "java/util/ArrayList", name := "<init>", desc := "()V" } : Jvm.MethodName)) ∈ tb := tb_t1 32 rfl rfl
theorem w_33 : (Jvm.Cond.instanceMethod ({ cls := "java/util/ArrayList", name := "<init>", desc := "()V" } : Jvm.MethodName)) ∈ tb := tb_t1 33 rfl rfl
theorem w_34 : (Jvm.Cond.code ({ cls := "java/util/ArrayList", name := "<init>", desc := "()V" } : Jvm.MethodName) prog_21_method_2_code (1 : Nat) (Option.none : Option Jvm.ClassFile.FieldType)) ∈ tb := tb_t1 34 rfl rfl
theorem w_35 : (Jvm.Cond.methodLink "java/util/ArrayList" (1 : Nat) ({ cls := "java/util/AbstractList", name := "<init>", desc := "()V" } : Jvm.MethodName)) ∈ tb := tb_t1 35 rfl rfl
theorem w_36 : (Jvm.Cond.instanceMethod ({ cls := "java/util/AbstractList", name := "<init>", desc := "()V" } : Jvm.MethodName)) ∈ tb := tb_t1 36 rfl rfl
theorem w_37 : (Jvm.Cond.code ({ cls := "java/util/AbstractList", name := "<init>", desc := "()V" } : Jvm.MethodName) prog_20_method_1_code (1 : Nat) (Option.none : Option Jvm.ClassFile.FieldType)) ∈ tb := tb_t1 37 rfl rfl
theorem w_38 : (Jvm.Cond.methodLink "java/util/AbstractList" (1 : Nat) ({ cls := "java/util/AbstractCollection", name := "<init>", desc := "()V" } : Jvm.MethodName)) ∈ tb := tb_t1 38 rfl rfl
theorem w_39 : (Jvm.Cond.instanceMethod ({ cls := "java/util/AbstractCollection", name := "<init>", desc := "()V" } : Jvm.MethodName)) ∈ tb := tb_t1 39 rfl rfl
theorem w_40 : (Jvm.Cond.code ({ cls := "java/util/AbstractCollection", name := "<init>", desc := "()V" } : Jvm.MethodName) prog_19_method_1_code (1 : Nat) (Option.none : Option Jvm.ClassFile.FieldType)) ∈ tb := tb_t1 40 rfl rfl
theorem w_41 : (Jvm.Cond.methodLink "java/util/AbstractCollection" (1 : Nat) ({ cls := "java/lang/Object", name := "<init>", desc := "()V" } : Jvm.MethodName)) ∈ tb := tb_t1 41 rfl rfl
theorem w_42 : (Jvm.Cond.fieldLink "java/util/ArrayList" (39 : Nat) "java/util/ArrayList" "DEFAULTCAPACITY_EMPTY_ELEMENTDATA" "[Ljava/lang/Object;") ∈ tb := tb_t1 42 rfl rfl
theorem w_44 : (Jvm.Cond.fieldLink "java/util/ArrayList" (9 : Nat) "java/util/ArrayList" "elementData" "[Ljava/lang/Object;") ∈ tb := tb_t1 44 rfl rfl
theorem w_45 : (Jvm.Cond.fieldLink "java/util/ArrayList" (48 : Nat) "java/util/ArrayList" "size" "I") ∈ tb := tb_t1 45 rfl rfl
theorem w_46 : (Jvm.Cond.fieldLink "java/util/AbstractList" (7 : Nat) "java/util/AbstractList" "modCount" "I") ∈ tb := tb_t1 46 rfl rfl
theorem w_47 : (Jvm.Cond.fieldLink "java/util/ArrayList" (63 : Nat) "java/util/ArrayList" "modCount" "I") ∈ tb := tb_t1 47 rfl rfl
theorem w_48 : (Jvm.Cond.sameField "java/util/ArrayList" "java/util/AbstractList" "modCount" "I") ∈ tb := tb_t1 48 rfl rfl
theorem w_49 : (Jvm.Cond.lays "java/util/ArrayList" "java/util/ArrayList" "elementData" "[Ljava/lang/Object;") ∈ tb := tb_t1 49 rfl rfl
theorem w_50 : (Jvm.Cond.soleField "java/util/ArrayList" "elementData") ∈ tb := tb_t1 50 rfl rfl
theorem w_51 : (Jvm.Cond.lays "java/util/ArrayList" "java/util/ArrayList" "size" "I") ∈ tb := tb_t1 51 rfl rfl
theorem w_52 : (Jvm.Cond.soleField "java/util/ArrayList" "size") ∈ tb := tb_t1 52 rfl rfl
theorem w_53 : (Jvm.Cond.lays "java/util/ArrayList" "java/util/AbstractList" "modCount" "I") ∈ tb := tb_t1 53 rfl rfl
theorem w_54 : (Jvm.Cond.soleField "java/util/AbstractList" "modCount") ∈ tb := tb_t1 54 rfl rfl
theorem w_55 : (Jvm.Cond.superclass "java/util/ArrayList" "java/util/AbstractList") ∈ tb := tb_t1 55 rfl rfl
theorem w_56 : (Jvm.Cond.classLink "RetentionVault" (16 : Nat) "RetentionVault$Rule") ∈ tb := tb_t1 56 rfl rfl
theorem w_58 : (Jvm.Cond.instantiable "RetentionVault$Rule" (4 : Nat)) ∈ tb := tb_t1 58 rfl rfl
theorem w_60 : (Jvm.Cond.instanceMethod ({ cls := "RetentionVault$Rule", name := "<init>", desc := "()V" } : Jvm.MethodName)) ∈ tb := tb_t1 60 rfl rfl
theorem w_61 : (Jvm.Cond.code ({ cls := "RetentionVault$Rule", name := "<init>", desc := "()V" } : Jvm.MethodName) prog_3_method_1_code (1 : Nat) (Option.none : Option Jvm.ClassFile.FieldType)) ∈ tb := tb_t1 61 rfl rfl
theorem w_62 : (Jvm.Cond.methodLink "RetentionVault$Rule" (3 : Nat) ({ cls := "java/lang/Object", name := "<init>", desc := "()V" } : Jvm.MethodName)) ∈ tb := tb_t1 62 rfl rfl
theorem w_63 : (Jvm.Cond.fieldLink "RetentionVault$Rule" (9 : Nat) "RetentionVault$Rule" "tag" "I") ∈ tb := tb_t1 63 rfl rfl
theorem w_64 : (Jvm.Cond.fieldLink "RetentionVault$Rule" (15 : Nat) "RetentionVault$Rule" "forCurrent" "Z") ∈ tb := tb_t1 64 rfl rfl
theorem w_65 : (Jvm.Cond.fieldLink "RetentionVault$Rule" (19 : Nat) "RetentionVault$Rule" "days" "I") ∈ tb := tb_t1 65 rfl rfl
theorem w_66 : (Jvm.Cond.fieldLink "RetentionVault$Rule" (22 : Nat) "RetentionVault$Rule" "action" "I") ∈ tb := tb_t1 66 rfl rfl
theorem w_67 : (Jvm.Cond.fieldLink "RetentionVault" (123 : Nat) "RetentionVault$Rule" "action" "I") ∈ tb := tb_t1 67 rfl rfl
theorem w_68 : (Jvm.Cond.lays "RetentionVault$Rule" "RetentionVault$Rule" "tag" "I") ∈ tb := tb_t1 68 rfl rfl
theorem w_69 : (Jvm.Cond.soleField "RetentionVault$Rule" "tag") ∈ tb := tb_t1 69 rfl rfl
theorem w_70 : (Jvm.Cond.lays "RetentionVault$Rule" "RetentionVault$Rule" "forCurrent" "Z") ∈ tb := tb_t1 70 rfl rfl
theorem w_71 : (Jvm.Cond.soleField "RetentionVault$Rule" "forCurrent") ∈ tb := tb_t1 71 rfl rfl
theorem w_72 : (Jvm.Cond.lays "RetentionVault$Rule" "RetentionVault$Rule" "days" "I") ∈ tb := tb_t1 72 rfl rfl
theorem w_73 : (Jvm.Cond.soleField "RetentionVault$Rule" "days") ∈ tb := tb_t1 73 rfl rfl
theorem w_74 : (Jvm.Cond.lays "RetentionVault$Rule" "RetentionVault$Rule" "action" "I") ∈ tb := tb_t1 74 rfl rfl
theorem w_75 : (Jvm.Cond.soleField "RetentionVault$Rule" "action") ∈ tb := tb_t1 75 rfl rfl
theorem w_76 : (Jvm.Cond.superclass "RetentionVault$Rule" "java/lang/Object") ∈ tb := tb_t1 76 rfl rfl
theorem w_77 : (Jvm.Cond.classLink "RetentionVault" (23 : Nat) "RetentionVault$Log") ∈ tb := tb_t1 77 rfl rfl
theorem w_78 : (Jvm.Cond.instantiable "RetentionVault$Log" (3 : Nat)) ∈ tb := tb_t1 78 rfl rfl
theorem w_80 : (Jvm.Cond.instanceMethod ({ cls := "RetentionVault$Log", name := "<init>", desc := "()V" } : Jvm.MethodName)) ∈ tb := tb_t1 80 rfl rfl
theorem w_81 : (Jvm.Cond.code ({ cls := "RetentionVault$Log", name := "<init>", desc := "()V" } : Jvm.MethodName) prog_2_method_1_code (1 : Nat) (Option.none : Option Jvm.ClassFile.FieldType)) ∈ tb := tb_t1 81 rfl rfl
theorem w_82 : (Jvm.Cond.methodLink "RetentionVault$Log" (1 : Nat) ({ cls := "java/lang/Object", name := "<init>", desc := "()V" } : Jvm.MethodName)) ∈ tb := tb_t1 82 rfl rfl
theorem w_83 : (Jvm.Cond.constantLong "RetentionVault$Log" (13 : Nat) (7 : Int64)) ∈ tb := tb_t1 83 rfl rfl
theorem w_84 : (Jvm.Cond.fieldLink "RetentionVault$Log" (9 : Nat) "RetentionVault$Log" "ring" "[I") ∈ tb := tb_t1 84 rfl rfl
theorem w_85 : (Jvm.Cond.fieldLink "RetentionVault$Log" (19 : Nat) "RetentionVault$Log" "written" "I") ∈ tb := tb_t1 85 rfl rfl
theorem w_86 : (Jvm.Cond.fieldLink "RetentionVault" (148 : Nat) "RetentionVault$Log" "written" "I") ∈ tb := tb_t1 86 rfl rfl
theorem w_87 : (Jvm.Cond.fieldLink "RetentionVault$Log" (15 : Nat) "RetentionVault$Log" "chain" "J") ∈ tb := tb_t1 87 rfl rfl
theorem w_88 : (Jvm.Cond.fieldLink "RetentionVault" (184 : Nat) "RetentionVault$Log" "chain" "J") ∈ tb := tb_t1 88 rfl rfl
theorem w_89 : (Jvm.Cond.laysFinal "RetentionVault$Log" "RetentionVault$Log" "ring" "[I") ∈ tb := tb_t1 89 rfl rfl
theorem w_90 : (Jvm.Cond.soleField "RetentionVault$Log" "ring") ∈ tb := tb_t1 90 rfl rfl
theorem w_91 : (Jvm.Cond.lays "RetentionVault$Log" "RetentionVault$Log" "written" "I") ∈ tb := tb_t1 91 rfl rfl
theorem w_92 : (Jvm.Cond.soleField "RetentionVault$Log" "written") ∈ tb := tb_t1 92 rfl rfl
theorem w_93 : (Jvm.Cond.lays "RetentionVault$Log" "RetentionVault$Log" "chain" "J") ∈ tb := tb_t1 93 rfl rfl
theorem w_94 : (Jvm.Cond.soleField "RetentionVault$Log" "chain") ∈ tb := tb_t1 94 rfl rfl
theorem w_95 : (Jvm.Cond.superclass "RetentionVault$Log" "java/lang/Object") ∈ tb := tb_t1 95 rfl rfl
theorem w_96 : (Jvm.Cond.arrayClass Jvm.ClassFile.FieldType.int) ∈ tb := tb_t1 96 rfl rfl
theorem w_97 : (Jvm.Cond.fieldLink "RetentionVault" (10 : Nat) "RetentionVault" "versions" "Ljava/util/ArrayList;") ∈ tb := tb_t1 97 rfl rfl
theorem w_98 : (Jvm.Cond.fieldLink "RetentionVault" (18 : Nat) "RetentionVault" "rules" "[LRetentionVault$Rule;") ∈ tb := tb_t1 98 rfl rfl
theorem w_99 : (Jvm.Cond.fieldLink "RetentionVault" (26 : Nat) "RetentionVault" "log" "LRetentionVault$Log;") ∈ tb := tb_t1 99 rfl rfl
theorem w_100 : (Jvm.Cond.fieldLink "RetentionVault" (48 : Nat) "RetentionVault" "day" "I") ∈ tb := tb_t1 100 rfl rfl
theorem w_101 : (Jvm.Cond.fieldLink "RetentionVault" (44 : Nat) "RetentionVault" "everPut" "I") ∈ tb := tb_t1 101 rfl rfl
theorem w_102 : (Jvm.Cond.laysFinal "RetentionVault" "RetentionVault" "versions" "Ljava/util/ArrayList;") ∈ tb := tb_t1 102 rfl rfl
theorem w_103 : (Jvm.Cond.soleField "RetentionVault" "versions") ∈ tb := tb_t1 103 rfl rfl
theorem w_104 : (Jvm.Cond.laysFinal "RetentionVault" "RetentionVault" "rules" "[LRetentionVault$Rule;") ∈ tb := tb_t1 104 rfl rfl
theorem w_105 : (Jvm.Cond.soleField "RetentionVault" "rules") ∈ tb := tb_t1 105 rfl rfl
theorem w_106 : (Jvm.Cond.laysFinal "RetentionVault" "RetentionVault" "log" "LRetentionVault$Log;") ∈ tb := tb_t1 106 rfl rfl
theorem w_107 : (Jvm.Cond.soleField "RetentionVault" "log") ∈ tb := tb_t1 107 rfl rfl
theorem w_108 : (Jvm.Cond.lays "RetentionVault" "RetentionVault" "day" "I") ∈ tb := tb_t1 108 rfl rfl
theorem w_109 : (Jvm.Cond.soleField "RetentionVault" "day") ∈ tb := tb_t1 109 rfl rfl
theorem w_110 : (Jvm.Cond.lays "RetentionVault" "RetentionVault" "everPut" "I") ∈ tb := tb_t1 110 rfl rfl
theorem w_111 : (Jvm.Cond.soleField "RetentionVault" "everPut") ∈ tb := tb_t1 111 rfl rfl
theorem w_112 : (Jvm.Cond.superclass "RetentionVault" "java/lang/Object") ∈ tb := tb_t1 112 rfl rfl
theorem w_113 : (Jvm.Cond.methodLink "RetentionVaultLaw" (123 : Nat) ({ cls := "RetentionVault", name := "link", desc := "()J" } : Jvm.MethodName)) ∈ tb := tb_t1 113 rfl rfl
theorem w_114 : (Jvm.Cond.instanceMethod ({ cls := "RetentionVault", name := "link", desc := "()J" } : Jvm.MethodName)) ∈ tb := tb_t1 114 rfl rfl
theorem w_115 : (Jvm.Cond.selects "RetentionVault" ({ cls := "RetentionVault", name := "link", desc := "()J" } : Jvm.MethodName) ({ cls := "RetentionVault", name := "link", desc := "()J" } : Jvm.MethodName)) ∈ tb := tb_t1 115 rfl rfl
theorem w_116 : (Jvm.Cond.code ({ cls := "RetentionVault", name := "link", desc := "()J" } : Jvm.MethodName) prog_1_method_15_code (1 : Nat) (Option.some Jvm.ClassFile.FieldType.long)) ∈ tb := tb_t1 116 rfl rfl
theorem w_117 : (Jvm.Cond.methodLink "RetentionVaultLaw" (71 : Nat) ({ cls := "RetentionVaultLaw", name := "put", desc := "(LRetentionVault;III[J)I" } : Jvm.MethodName)) ∈ tb := tb_t1 117 rfl rfl
theorem w_118 : (Jvm.Cond.static ({ cls := "RetentionVaultLaw", name := "put", desc := "(LRetentionVault;III[J)I" } : Jvm.MethodName)) ∈ tb := tb_t1 118 rfl rfl
theorem w_119 : (Jvm.Cond.codeWith ({ cls := "RetentionVaultLaw", name := "put", desc := "(LRetentionVault;III[J)I" } : Jvm.MethodName) method_3_code (6 : Nat) (Option.some Jvm.ClassFile.FieldType.int) [((0 : Nat), (12 : Nat), (15 : Nat), (13 : Nat)), ((0 : Nat), (12 : Nat), (19 : Nat), (15 : Nat))]) ∈ tb := tb_t1 119 rfl rfl
theorem w_120 : (Jvm.Cond.classLink "RetentionVaultLaw" (13 : Nat) "java/lang/IllegalArgumentException") ∈ tb := tb_t1 120 rfl rfl
theorem w_121 : (Jvm.Cond.classLink "RetentionVaultLaw" (15 : Nat) "java/lang/IllegalStateException") ∈ tb := tb_t1 121 rfl rfl
theorem w_122 : (Jvm.Cond.methodLink "RetentionVaultLaw" (7 : Nat) ({ cls := "RetentionVault", name := "put", desc := "(III)I" } : Jvm.MethodName)) ∈ tb := tb_t1 122 rfl rfl
theorem w_123 : (Jvm.Cond.instanceMethod ({ cls := "RetentionVault", name := "put", desc := "(III)I" } : Jvm.MethodName)) ∈ tb := tb_t1 123 rfl rfl
theorem w_124 : (Jvm.Cond.selects "RetentionVault" ({ cls := "RetentionVault", name := "put", desc := "(III)I" } : Jvm.MethodName) ({ cls := "RetentionVault", name := "put", desc := "(III)I" } : Jvm.MethodName)) ∈ tb := tb_t1 124 rfl rfl
theorem w_125 : (Jvm.Cond.code ({ cls := "RetentionVault", name := "put", desc := "(III)I" } : Jvm.MethodName) prog_1_method_2_code (5 : Nat) (Option.some Jvm.ClassFile.FieldType.int)) ∈ tb := tb_t1 125 rfl rfl
theorem w_126 : (Jvm.Cond.constant "RetentionVault" (30 : Nat) (1000000 : Int32)) ∈ tb := tb_t1 126 rfl rfl
theorem w_127 : (Jvm.Cond.methodLink "RetentionVault" (31 : Nat) ({ cls := "RetentionVault", name := "isWithin", desc := "(III)Z" } : Jvm.MethodName)) ∈ tb := tb_t1 127 rfl rfl
theorem w_128 : (Jvm.Cond.static ({ cls := "RetentionVault", name := "isWithin", desc := "(III)Z" } : Jvm.MethodName)) ∈ tb := tb_t1 128 rfl rfl
theorem w_129 : (Jvm.Cond.code ({ cls := "RetentionVault", name := "isWithin", desc := "(III)Z" } : Jvm.MethodName) prog_1_method_17_code (3 : Nat) (Option.some Jvm.ClassFile.FieldType.boolean)) ∈ tb := tb_t1 129 rfl rfl
theorem w_130 : (Jvm.Cond.methodLink "RetentionVault" (35 : Nat) ({ cls := "RetentionVault", name := "demand", desc := "(Z)V" } : Jvm.MethodName)) ∈ tb := tb_t1 130 rfl rfl
theorem w_131 : (Jvm.Cond.static ({ cls := "RetentionVault", name := "demand", desc := "(Z)V" } : Jvm.MethodName)) ∈ tb := tb_t1 131 rfl rfl
theorem w_132 : (Jvm.Cond.code ({ cls := "RetentionVault", name := "demand", desc := "(Z)V" } : Jvm.MethodName) prog_1_method_18_code (1 : Nat) (Option.none : Option Jvm.ClassFile.FieldType)) ∈ tb := tb_t1 132 rfl rfl
theorem w_133 : (Jvm.Cond.classLink "RetentionVault" (167 : Nat) "java/lang/IllegalArgumentException") ∈ tb := tb_t1 133 rfl rfl
theorem w_134 : (Jvm.Cond.instantiable "java/lang/IllegalArgumentException" (6 : Nat)) ∈ tb := tb_t1 134 rfl rfl
theorem w_142 : (Jvm.Cond.selects "java/lang/IllegalArgumentException" ({ cls := "java/lang/Throwable", name := "fillInStackTrace", desc := "(I)Ljava/lang/Throwable;" } : Jvm.MethodName) ({ cls := "java/lang/Throwable", name := "fillInStackTrace", desc := "(I)Ljava/lang/Throwable;" } : Jvm.MethodName)) ∈ tb := tb_t1 142 rfl rfl
theorem w_143 : (Jvm.Cond.selects "java/lang/IllegalArgumentException" ({ cls := "java/lang/Throwable", name := "fillInStackTrace", desc := "()Ljava/lang/Throwable;" } : Jvm.MethodName) ({ cls := "java/lang/Throwable", name := "fillInStackTrace", desc := "()Ljava/lang/Throwable;" } : Jvm.MethodName)) ∈ tb := tb_t1 143 rfl rfl
theorem w_144 : (Jvm.Cond.lays "java/lang/IllegalArgumentException" "java/lang/Throwable" "cause" "Ljava/lang/Throwable;") ∈ tb := tb_t1 144 rfl rfl
theorem w_145 : (Jvm.Cond.lays "java/lang/Throwable" "java/lang/Throwable" "cause" "Ljava/lang/Throwable;") ∈ tb := tb_t1 145 rfl rfl
theorem w_146 : (Jvm.Cond.lays "java/lang/IllegalArgumentException" "java/lang/Throwable" "stackTrace" "[Ljava/lang/StackTraceElement;") ∈ tb := tb_t1 146 rfl rfl
theorem w_147 : (Jvm.Cond.lays "java/lang/Throwable" "java/lang/Throwable" "stackTrace" "[Ljava/lang/StackTraceElement;") ∈ tb := tb_t1 147 rfl rfl
theorem w_148 : (Jvm.Cond.lays "java/lang/IllegalArgumentException" "java/lang/Throwable" "suppressedExceptions" "Ljava/util/List;") ∈ tb := tb_t1 148 rfl rfl
theorem w_149 : (Jvm.Cond.lays "java/lang/Throwable" "java/lang/Throwable" "suppressedExceptions" "Ljava/util/List;") ∈ tb := tb_t1 149 rfl rfl
theorem w_150 : (Jvm.Cond.lays "java/lang/IllegalArgumentException" "java/lang/Throwable" "detailMessage" "Ljava/lang/String;") ∈ tb := tb_t1 150 rfl rfl
theorem w_151 : (Jvm.Cond.lays "java/lang/Throwable" "java/lang/Throwable" "detailMessage" "Ljava/lang/String;") ∈ tb := tb_t1 151 rfl rfl
theorem w_152 : (Jvm.Cond.lays "java/lang/IllegalArgumentException" "java/lang/Throwable" "backtrace" "Ljava/lang/Object;") ∈ tb := tb_t1 152 rfl rfl
theorem w_153 : (Jvm.Cond.lays "java/lang/Throwable" "java/lang/Throwable" "backtrace" "Ljava/lang/Object;") ∈ tb := tb_t1 153 rfl rfl
theorem w_154 : (Jvm.Cond.fieldLink "java/lang/Throwable" (198 : Nat) "java/lang/Throwable" "backtrace" "Ljava/lang/Object;") ∈ tb := tb_t1 154 rfl rfl
theorem w_155 : (Jvm.Cond.superclass "java/lang/Throwable" "java/lang/Object") ∈ tb := tb_t1 155 rfl rfl
theorem w_156 : (Jvm.Cond.instanceMethod ({ cls := "java/lang/Throwable", name := "<init>", desc := "()V" } : Jvm.MethodName)) ∈ tb := tb_t1 156 rfl rfl
theorem w_157 : (Jvm.Cond.code ({ cls := "java/lang/Throwable", name := "<init>", desc := "()V" } : Jvm.MethodName) prog_18_method_1_code (1 : Nat) (Option.none : Option Jvm.ClassFile.FieldType)) ∈ tb := tb_t1 157 rfl rfl
theorem w_158 : (Jvm.Cond.methodLink "java/lang/Throwable" (1 : Nat) ({ cls := "java/lang/Object", name := "<init>", desc := "()V" } : Jvm.MethodName)) ∈ tb := tb_t1 158 rfl rfl
theorem w_159 : (Jvm.Cond.fieldLink "java/lang/Throwable" (13 : Nat) "java/lang/Throwable" "UNASSIGNED_STACK" "[Ljava/lang/StackTraceElement;") ∈ tb := tb_t1 159 rfl rfl
theorem w_161 : (Jvm.Cond.fieldLink "java/lang/Throwable" (20 : Nat) "java/lang/Throwable" "SUPPRESSED_SENTINEL" "Ljava/util/List;") ∈ tb := tb_t1 161 rfl rfl
theorem w_163 : (Jvm.Cond.methodLink "java/lang/Throwable" (27 : Nat) ({ cls := "java/lang/Throwable", name := "fillInStackTrace", desc := "()Ljava/lang/Throwable;" } : Jvm.MethodName)) ∈ tb := tb_t1 163 rfl rfl
theorem w_164 : (Jvm.Cond.instanceMethod ({ cls := "java/lang/Throwable", name := "fillInStackTrace", desc := "()Ljava/lang/Throwable;" } : Jvm.MethodName)) ∈ tb := tb_t1 164 rfl rfl
theorem w_165 : (Jvm.Cond.sameMethod "java/lang/Throwable" "java/lang/Throwable" "fillInStackTrace" "()Ljava/lang/Throwable;") ∈ tb := tb_t1 165 rfl rfl
theorem w_166 : (Jvm.Cond.selects "java/lang/IllegalStateException" ({ cls := "java/lang/Throwable", name := "fillInStackTrace", desc := "()Ljava/lang/Throwable;" } : Jvm.MethodName) ({ cls := "java/lang/Throwable", name := "fillInStackTrace", desc := "()Ljava/lang/Throwable;" } : Jvm.MethodName)) ∈ tb := tb_t1 166 rfl rfl
theorem w_167 : (Jvm.Cond.selects "java/lang/IndexOutOfBoundsException" ({ cls := "java/lang/Throwable", name := "fillInStackTrace", desc := "()Ljava/lang/Throwable;" } : Jvm.MethodName) ({ cls := "java/lang/Throwable", name := "fillInStackTrace", desc := "()Ljava/lang/Throwable;" } : Jvm.MethodName)) ∈ tb := tb_t1 167 rfl rfl
theorem w_168 : (Jvm.Cond.selects "java/util/NoSuchElementException" ({ cls := "java/lang/Throwable", name := "fillInStackTrace", desc := "()Ljava/lang/Throwable;" } : Jvm.MethodName) ({ cls := "java/lang/Throwable", name := "fillInStackTrace", desc := "()Ljava/lang/Throwable;" } : Jvm.MethodName)) ∈ tb := tb_t1 168 rfl rfl
theorem w_169 : (Jvm.Cond.codeSync ({ cls := "java/lang/Throwable", name := "fillInStackTrace", desc := "()Ljava/lang/Throwable;" } : Jvm.MethodName) prog_18_method_18_code (1 : Nat) (Option.some (Jvm.ClassFile.FieldType.object "java/lang/Throwable"))) ∈ tb := tb_t1 169 rfl rfl
theorem w_170 : (Jvm.Cond.methodLink "java/lang/Throwable" (202 : Nat) ({ cls := "java/lang/Throwable", name := "fillInStackTrace", desc := "(I)Ljava/lang/Throwable;" } : Jvm.MethodName)) ∈ tb := tb_t1 170 rfl rfl
theorem w_172 : (Jvm.Cond.instanceMethod ({ cls := "java/lang/Throwable", name := "fillInStackTrace", desc := "(I)Ljava/lang/Throwable;" } : Jvm.MethodName)) ∈ tb := tb_t1 172 rfl rfl
theorem w_173 : (Jvm.Cond.instantiable "java/lang/Throwable" (6 : Nat)) ∈ tb := tb_t1 173 rfl rfl
theorem w_174 : (Jvm.Cond.native ({ cls := "java/lang/Throwable", name := "fillInStackTrace", desc := "(I)Ljava/lang/Throwable;" } : Jvm.MethodName)) ∈ tb := tb_t1 174 rfl rfl
theorem w_176 : (Jvm.Cond.methodLink "RetentionVault" (171 : Nat) ({ cls := "java/lang/IllegalArgumentException", name := "<init>", desc := "(Ljava/lang/String;)V" } : Jvm.MethodName)) ∈ tb := tb_t1 176 rfl rfl
theorem w_177 : (Jvm.Cond.instanceMethod ({ cls := "java/lang/IllegalArgumentException", name := "<init>", desc := "(Ljava/lang/String;)V" } : Jvm.MethodName)) ∈ tb := tb_t1 177 rfl rfl
theorem w_178 : (Jvm.Cond.code ({ cls := "java/lang/IllegalArgumentException", name := "<init>", desc := "(Ljava/lang/String;)V" } : Jvm.MethodName) prog_10_method_2_code (2 : Nat) (Option.none : Option Jvm.ClassFile.FieldType)) ∈ tb := tb_t1 178 rfl rfl
theorem w_179 : (Jvm.Cond.methodLink "java/lang/IllegalArgumentException" (7 : Nat) ({ cls := "java/lang/RuntimeException", name := "<init>", desc := "(Ljava/lang/String;)V" } : Jvm.MethodName)) ∈ tb := tb_t1 179 rfl rfl
theorem w_180 : (Jvm.Cond.instanceMethod ({ cls := "java/lang/RuntimeException", name := "<init>", desc := "(Ljava/lang/String;)V" } : Jvm.MethodName)) ∈ tb := tb_t1 180 rfl rfl
theorem w_181 : (Jvm.Cond.code ({ cls := "java/lang/RuntimeException", name := "<init>", desc := "(Ljava/lang/String;)V" } : Jvm.MethodName) prog_15_method_2_code (2 : Nat) (Option.none : Option Jvm.ClassFile.FieldType)) ∈ tb := tb_t1 181 rfl rfl
theorem w_182 : (Jvm.Cond.methodLink "java/lang/RuntimeException" (7 : Nat) ({ cls := "java/lang/Exception", name := "<init>", desc := "(Ljava/lang/String;)V" } : Jvm.MethodName)) ∈ tb := tb_t1 182 rfl rfl
theorem w_183 : (Jvm.Cond.instanceMethod ({ cls := "java/lang/Exception", name := "<init>", desc := "(Ljava/lang/String;)V" } : Jvm.MethodName)) ∈ tb := tb_t1 183 rfl rfl
theorem w_184 : (Jvm.Cond.code ({ cls := "java/lang/Exception", name := "<init>", desc := "(Ljava/lang/String;)V" } : Jvm.MethodName) prog_9_method_2_code (2 : Nat) (Option.none : Option Jvm.ClassFile.FieldType)) ∈ tb := tb_t1 184 rfl rfl
theorem w_185 : (Jvm.Cond.methodLink "java/lang/Exception" (7 : Nat) ({ cls := "java/lang/Throwable", name := "<init>", desc := "(Ljava/lang/String;)V" } : Jvm.MethodName)) ∈ tb := tb_t1 185 rfl rfl
theorem w_186 : (Jvm.Cond.instanceMethod ({ cls := "java/lang/Throwable", name := "<init>", desc := "(Ljava/lang/String;)V" } : Jvm.MethodName)) ∈ tb := tb_t1 186 rfl rfl
theorem w_187 : (Jvm.Cond.code ({ cls := "java/lang/Throwable", name := "<init>", desc := "(Ljava/lang/String;)V" } : Jvm.MethodName) prog_18_method_2_code (2 : Nat) (Option.none : Option Jvm.ClassFile.FieldType)) ∈ tb := tb_t1 187 rfl rfl
theorem w_188 : (Jvm.Cond.fieldLink "java/lang/Throwable" (198 : Nat) "java/lang/Throwable" "backtrace" "Ljava/lang/Object;") ∈ tb := tb_t1 188 rfl rfl
theorem w_189 : (Jvm.Cond.fieldLink "java/lang/Throwable" (31 : Nat) "java/lang/Throwable" "detailMessage" "Ljava/lang/String;") ∈ tb := tb_t1 189 rfl rfl
theorem w_190 : (Jvm.Cond.fieldLink "java/lang/Throwable" (7 : Nat) "java/lang/Throwable" "cause" "Ljava/lang/Throwable;") ∈ tb := tb_t1 190 rfl rfl
theorem w_191 : (Jvm.Cond.fieldLink "java/lang/Throwable" (17 : Nat) "java/lang/Throwable" "stackTrace" "[Ljava/lang/StackTraceElement;") ∈ tb := tb_t1 191 rfl rfl
theorem w_192 : (Jvm.Cond.fieldLink "java/lang/Throwable" (24 : Nat) "java/lang/Throwable" "suppressedExceptions" "Ljava/util/List;") ∈ tb := tb_t1 192 rfl rfl
theorem w_193 : (Jvm.Cond.soleField "java/lang/Throwable" "backtrace") ∈ tb := tb_t1 193 rfl rfl
theorem w_194 : (Jvm.Cond.soleField "java/lang/Throwable" "detailMessage") ∈ tb := tb_t1 194 rfl rfl
theorem w_195 : (Jvm.Cond.soleField "java/lang/Throwable" "cause") ∈ tb := tb_t1 195 rfl rfl
theorem w_196 : (Jvm.Cond.soleField "java/lang/Throwable" "stackTrace") ∈ tb := tb_t1 196 rfl rfl
theorem w_197 : (Jvm.Cond.lays "java/lang/IllegalArgumentException" "java/lang/Throwable" "depth" "I") ∈ tb := tb_t1 197 rfl rfl
theorem w_198 : (Jvm.Cond.soleField "java/lang/Throwable" "depth") ∈ tb := tb_t1 198 rfl rfl
theorem w_199 : (Jvm.Cond.soleField "java/lang/Throwable" "suppressedExceptions") ∈ tb := tb_t1 199 rfl rfl
theorem w_200 : (Jvm.Cond.superclass "java/lang/IllegalArgumentException" "java/lang/RuntimeException") ∈ tb := tb_t1 200 rfl rfl
theorem w_201 : (Jvm.Cond.arrayClass Jvm.ClassFile.FieldType.byte) ∈ tb := tb_t1 201 rfl rfl
theorem w_202 : (Jvm.Cond.methodLink "RetentionVault" (39 : Nat) ({ cls := "RetentionVault", name := "demandRoom", desc := "()V" } : Jvm.MethodName)) ∈ tb := tb_t1 202 rfl rfl
theorem w_204 : (Jvm.Cond.instanceMethod ({ cls := "RetentionVault", name := "demandRoom", desc := "()V" } : Jvm.MethodName)) ∈ tb := tb_t1 204 rfl rfl
theorem w_205 : (Jvm.Cond.code ({ cls := "RetentionVault", name := "demandRoom", desc := "()V" } : Jvm.MethodName) prog_1_method_19_code (1 : Nat) (Option.none : Option Jvm.ClassFile.FieldType)) ∈ tb := tb_t1 205 rfl rfl
theorem w_206 : (Jvm.Cond.methodLink "RetentionVault" (200 : Nat) ({ cls := "RetentionVault", name := "isFull", desc := "()Z" } : Jvm.MethodName)) ∈ tb := tb_t1 206 rfl rfl
theorem w_208 : (Jvm.Cond.instanceMethod ({ cls := "RetentionVault", name := "isFull", desc := "()Z" } : Jvm.MethodName)) ∈ tb := tb_t1 208 rfl rfl
theorem w_209 : (Jvm.Cond.code ({ cls := "RetentionVault", name := "isFull", desc := "()Z" } : Jvm.MethodName) prog_1_method_20_code (1 : Nat) (Option.some Jvm.ClassFile.FieldType.boolean)) ∈ tb := tb_t1 209 rfl rfl
theorem w_210 : (Jvm.Cond.methodLink "RetentionVault" (188 : Nat) ({ cls := "java/util/ArrayList", name := "size", desc := "()I" } : Jvm.MethodName)) ∈ tb := tb_t1 210 rfl rfl
theorem w_211 : (Jvm.Cond.instanceMethod ({ cls := "java/util/ArrayList", name := "size", desc := "()I" } : Jvm.MethodName)) ∈ tb := tb_t1 211 rfl rfl
theorem w_212 : (Jvm.Cond.selects "java/util/ArrayList" ({ cls := "java/util/ArrayList", name := "size", desc := "()I" } : Jvm.MethodName) ({ cls := "java/util/ArrayList", name := "size", desc := "()I" } : Jvm.MethodName)) ∈ tb := tb_t1 212 rfl rfl
theorem w_213 : (Jvm.Cond.code ({ cls := "java/util/ArrayList", name := "size", desc := "()I" } : Jvm.MethodName) prog_21_method_8_code (1 : Nat) (Option.some Jvm.ClassFile.FieldType.int)) ∈ tb := tb_t1 213 rfl rfl
theorem w_214 : (Jvm.Cond.classLink "RetentionVault" (80 : Nat) "java/lang/IllegalStateException") ∈ tb := tb_t1 214 rfl rfl
theorem w_215 : (Jvm.Cond.instantiable "java/lang/IllegalStateException" (6 : Nat)) ∈ tb := tb_t1 215 rfl rfl
theorem w_217 : (Jvm.Cond.selects "java/lang/IllegalStateException" ({ cls := "java/lang/Throwable", name := "fillInStackTrace", desc := "(I)Ljava/lang/Throwable;" } : Jvm.MethodName) ({ cls := "java/lang/Throwable", name := "fillInStackTrace", desc := "(I)Ljava/lang/Throwable;" } : Jvm.MethodName)) ∈ tb := tb_t1 217 rfl rfl
theorem w_218 : (Jvm.Cond.lays "java/lang/IllegalStateException" "java/lang/Throwable" "cause" "Ljava/lang/Throwable;") ∈ tb := tb_t1 218 rfl rfl
theorem w_219 : (Jvm.Cond.lays "java/lang/IllegalStateException" "java/lang/Throwable" "stackTrace" "[Ljava/lang/StackTraceElement;") ∈ tb := tb_t1 219 rfl rfl
theorem w_220 : (Jvm.Cond.lays "java/lang/IllegalStateException" "java/lang/Throwable" "suppressedExceptions" "Ljava/util/List;") ∈ tb := tb_t1 220 rfl rfl
theorem w_221 : (Jvm.Cond.lays "java/lang/IllegalStateException" "java/lang/Throwable" "detailMessage" "Ljava/lang/String;") ∈ tb := tb_t1 221 rfl rfl
theorem w_222 : (Jvm.Cond.lays "java/lang/IllegalStateException" "java/lang/Throwable" "backtrace" "Ljava/lang/Object;") ∈ tb := tb_t1 222 rfl rfl
theorem w_224 : (Jvm.Cond.methodLink "RetentionVault" (84 : Nat) ({ cls := "java/lang/IllegalStateException", name := "<init>", desc := "(Ljava/lang/String;)V" } : Jvm.MethodName)) ∈ tb := tb_t1 224 rfl rfl
theorem w_225 : (Jvm.Cond.instanceMethod ({ cls := "java/lang/IllegalStateException", name := "<init>", desc := "(Ljava/lang/String;)V" } : Jvm.MethodName)) ∈ tb := tb_t1 225 rfl rfl
theorem w_226 : (Jvm.Cond.code ({ cls := "java/lang/IllegalStateException", name := "<init>", desc := "(Ljava/lang/String;)V" } : Jvm.MethodName) prog_11_method_2_code (2 : Nat) (Option.none : Option Jvm.ClassFile.FieldType)) ∈ tb := tb_t1 226 rfl rfl
theorem w_227 : (Jvm.Cond.methodLink "java/lang/IllegalStateException" (7 : Nat) ({ cls := "java/lang/RuntimeException", name := "<init>", desc := "(Ljava/lang/String;)V" } : Jvm.MethodName)) ∈ tb := tb_t1 227 rfl rfl
theorem w_228 : (Jvm.Cond.lays "java/lang/IllegalStateException" "java/lang/Throwable" "depth" "I") ∈ tb := tb_t1 228 rfl rfl
theorem w_229 : (Jvm.Cond.superclass "java/lang/IllegalStateException" "java/lang/RuntimeException") ∈ tb := tb_t1 229 rfl rfl
theorem w_230 : (Jvm.Cond.classLink "RetentionVault" (42 : Nat) "RetentionVault$Version") ∈ tb := tb_t1 230 rfl rfl
theorem w_231 : (Jvm.Cond.instantiable "RetentionVault$Version" (13 : Nat)) ∈ tb := tb_t1 231 rfl rfl
theorem w_232 : (Jvm.Cond.methodLink "RetentionVault" (51 : Nat) ({ cls := "RetentionVault$Version", name := "<init>", desc := "(III)V" } : Jvm.MethodName)) ∈ tb := tb_t1 232 rfl rfl
theorem w_233 : (Jvm.Cond.instanceMethod ({ cls := "RetentionVault$Version", name := "<init>", desc := "(III)V" } : Jvm.MethodName)) ∈ tb := tb_t1 233 rfl rfl
theorem w_234 : (Jvm.Cond.code ({ cls := "RetentionVault$Version", name := "<init>", desc := "(III)V" } : Jvm.MethodName) prog_4_method_1_code (4 : Nat) (Option.none : Option Jvm.ClassFile.FieldType)) ∈ tb := tb_t1 234 rfl rfl
theorem w_235 : (Jvm.Cond.methodLink "RetentionVault$Version" (3 : Nat) ({ cls := "java/lang/Object", name := "<init>", desc := "()V" } : Jvm.MethodName)) ∈ tb := tb_t1 235 rfl rfl
theorem w_236 : (Jvm.Cond.fieldLink "RetentionVault$Version" (9 : Nat) "RetentionVault$Version" "number" "I") ∈ tb := tb_t1 236 rfl rfl
theorem w_237 : (Jvm.Cond.fieldLink "RetentionVault" (106 : Nat) "RetentionVault$Version" "number" "I") ∈ tb := tb_t1 237 rfl rfl
theorem w_238 : (Jvm.Cond.fieldLink "RetentionVault$Version" (15 : Nat) "RetentionVault$Version" "key" "I") ∈ tb := tb_t1 238 rfl rfl
theorem w_239 : (Jvm.Cond.fieldLink "RetentionVault" (91 : Nat) "RetentionVault$Version" "key" "I") ∈ tb := tb_t1 239 rfl rfl
theorem w_240 : (Jvm.Cond.fieldLink "RetentionVault$Version" (18 : Nat) "RetentionVault$Version" "putDay" "I") ∈ tb := tb_t2 0 rfl rfl
theorem w_241 : (Jvm.Cond.fieldLink "RetentionVault$Version" (28 : Nat) "RetentionVault$Version" "size" "I") ∈ tb := tb_t2 1 rfl rfl
theorem w_242 : (Jvm.Cond.fieldLink "RetentionVault" (145 : Nat) "RetentionVault$Version" "size" "I") ∈ tb := tb_t2 2 rfl rfl
theorem w_243 : (Jvm.Cond.fieldLink "RetentionVault$Version" (31 : Nat) "RetentionVault$Version" "tag" "I") ∈ tb := tb_t2 3 rfl rfl
theorem w_244 : (Jvm.Cond.fieldLink "RetentionVault$Rule" (29 : Nat) "RetentionVault$Version" "tag" "I") ∈ tb := tb_t2 4 rfl rfl
theorem w_245 : (Jvm.Cond.fieldLink "RetentionVault$Version" (21 : Nat) "RetentionVault$Version" "tier" "I") ∈ tb := tb_t2 5 rfl rfl
theorem w_246 : (Jvm.Cond.fieldLink "RetentionVault" (131 : Nat) "RetentionVault$Version" "tier" "I") ∈ tb := tb_t2 6 rfl rfl
theorem w_247 : (Jvm.Cond.fieldLink "RetentionVault$Version" (24 : Nat) "RetentionVault$Version" "isCurrent" "Z") ∈ tb := tb_t2 7 rfl rfl
theorem w_248 : (Jvm.Cond.fieldLink "RetentionVault$Rule" (32 : Nat) "RetentionVault$Version" "isCurrent" "Z") ∈ tb := tb_t2 8 rfl rfl
theorem w_249 : (Jvm.Cond.fieldLink "RetentionVault" (161 : Nat) "RetentionVault$Version" "isCurrent" "Z") ∈ tb := tb_t2 9 rfl rfl
theorem w_250 : (Jvm.Cond.fieldLink "RetentionVault$Version" (34 : Nat) "RetentionVault$Version" "ceasedDay" "I") ∈ tb := tb_t2 10 rfl rfl
theorem w_251 : (Jvm.Cond.fieldLink "RetentionVault" (224 : Nat) "RetentionVault$Version" "ceasedDay" "I") ∈ tb := tb_t2 11 rfl rfl
theorem w_252 : (Jvm.Cond.fieldLink "RetentionVault" (97 : Nat) "RetentionVault$Version" "retainedUntil" "I") ∈ tb := tb_t2 12 rfl rfl
theorem w_253 : (Jvm.Cond.fieldLink "RetentionVault$Version" (40 : Nat) "RetentionVault$Version" "retainedUntil" "I") ∈ tb := tb_t2 13 rfl rfl
theorem w_254 : (Jvm.Cond.fieldLink "RetentionVault" (102 : Nat) "RetentionVault$Version" "strict" "Z") ∈ tb := tb_t2 14 rfl rfl
theorem w_255 : (Jvm.Cond.fieldLink "RetentionVault$Version" (43 : Nat) "RetentionVault$Version" "strict" "Z") ∈ tb := tb_t2 15 rfl rfl
theorem w_256 : (Jvm.Cond.fieldLink "RetentionVault$Version" (37 : Nat) "RetentionVault$Version" "holds" "I") ∈ tb := tb_t2 16 rfl rfl
theorem w_257 : (Jvm.Cond.fieldLink "RetentionVault" (113 : Nat) "RetentionVault$Version" "holds" "I") ∈ tb := tb_t2 17 rfl rfl
theorem w_258 : (Jvm.Cond.fieldLink "RetentionVault" (134 : Nat) "RetentionVault$Version" "readableFrom" "I") ∈ tb := tb_t2 18 rfl rfl
theorem w_259 : (Jvm.Cond.fieldLink "RetentionVault$Version" (54 : Nat) "RetentionVault$Version" "readableFrom" "I") ∈ tb := tb_t2 19 rfl rfl
theorem w_260 : (Jvm.Cond.fieldLink "RetentionVault" (137 : Nat) "RetentionVault$Version" "readableBefore" "I") ∈ tb := tb_t2 20 rfl rfl
theorem w_261 : (Jvm.Cond.fieldLink "RetentionVault$Version" (57 : Nat) "RetentionVault$Version" "readableBefore" "I") ∈ tb := tb_t2 21 rfl rfl
theorem w_262 : (Jvm.Cond.laysFinal "RetentionVault$Version" "RetentionVault$Version" "number" "I") ∈ tb := tb_t2 22 rfl rfl
theorem w_263 : (Jvm.Cond.soleField "RetentionVault$Version" "number") ∈ tb := tb_t2 23 rfl rfl
theorem w_264 : (Jvm.Cond.laysFinal "RetentionVault$Version" "RetentionVault$Version" "key" "I") ∈ tb := tb_t2 24 rfl rfl
theorem w_265 : (Jvm.Cond.soleField "RetentionVault$Version" "key") ∈ tb := tb_t2 25 rfl rfl
theorem w_266 : (Jvm.Cond.laysFinal "RetentionVault$Version" "RetentionVault$Version" "putDay" "I") ∈ tb := tb_t2 26 rfl rfl
theorem w_267 : (Jvm.Cond.soleField "RetentionVault$Version" "putDay") ∈ tb := tb_t2 27 rfl rfl
theorem w_268 : (Jvm.Cond.lays "RetentionVault$Version" "RetentionVault$Version" "size" "I") ∈ tb := tb_t2 28 rfl rfl
theorem w_269 : (Jvm.Cond.soleField "RetentionVault$Version" "size") ∈ tb := tb_t2 29 rfl rfl
theorem w_270 : (Jvm.Cond.lays "RetentionVault$Version" "RetentionVault$Version" "tag" "I") ∈ tb := tb_t2 30 rfl rfl
theorem w_271 : (Jvm.Cond.soleField "RetentionVault$Version" "tag") ∈ tb := tb_t2 31 rfl rfl
theorem w_272 : (Jvm.Cond.lays "RetentionVault$Version" "RetentionVault$Version" "tier" "I") ∈ tb := tb_t2 32 rfl rfl
theorem w_273 : (Jvm.Cond.soleField "RetentionVault$Version" "tier") ∈ tb := tb_t2 33 rfl rfl
theorem w_274 : (Jvm.Cond.lays "RetentionVault$Version" "RetentionVault$Version" "isCurrent" "Z") ∈ tb := tb_t2 34 rfl rfl
theorem w_275 : (Jvm.Cond.soleField "RetentionVault$Version" "isCurrent") ∈ tb := tb_t2 35 rfl rfl
theorem w_276 : (Jvm.Cond.lays "RetentionVault$Version" "RetentionVault$Version" "ceasedDay" "I") ∈ tb := tb_t2 36 rfl rfl
theorem w_277 : (Jvm.Cond.soleField "RetentionVault$Version" "ceasedDay") ∈ tb := tb_t2 37 rfl rfl
theorem w_278 : (Jvm.Cond.lays "RetentionVault$Version" "RetentionVault$Version" "retainedUntil" "I") ∈ tb := tb_t2 38 rfl rfl
theorem w_279 : (Jvm.Cond.soleField "RetentionVault$Version" "retainedUntil") ∈ tb := tb_t2 39 rfl rfl
theorem w_280 : (Jvm.Cond.lays "RetentionVault$Version" "RetentionVault$Version" "strict" "Z") ∈ tb := tb_t2 40 rfl rfl
theorem w_281 : (Jvm.Cond.soleField "RetentionVault$Version" "strict") ∈ tb := tb_t2 41 rfl rfl
theorem w_282 : (Jvm.Cond.lays "RetentionVault$Version" "RetentionVault$Version" "holds" "I") ∈ tb := tb_t2 42 rfl rfl
theorem w_283 : (Jvm.Cond.soleField "RetentionVault$Version" "holds") ∈ tb := tb_t2 43 rfl rfl
theorem w_284 : (Jvm.Cond.lays "RetentionVault$Version" "RetentionVault$Version" "readableFrom" "I") ∈ tb := tb_t2 44 rfl rfl
theorem w_285 : (Jvm.Cond.soleField "RetentionVault$Version" "readableFrom") ∈ tb := tb_t2 45 rfl rfl
theorem w_286 : (Jvm.Cond.lays "RetentionVault$Version" "RetentionVault$Version" "readableBefore" "I") ∈ tb := tb_t2 46 rfl rfl
theorem w_287 : (Jvm.Cond.soleField "RetentionVault$Version" "readableBefore") ∈ tb := tb_t2 47 rfl rfl
theorem w_288 : (Jvm.Cond.superclass "RetentionVault$Version" "java/lang/Object") ∈ tb := tb_t2 48 rfl rfl
theorem w_289 : (Jvm.Cond.methodLink "RetentionVault" (54 : Nat) ({ cls := "RetentionVault$Version", name := "makeObject", desc := "(II)V" } : Jvm.MethodName)) ∈ tb := tb_t2 49 rfl rfl
theorem w_290 : (Jvm.Cond.instanceMethod ({ cls := "RetentionVault$Version", name := "makeObject", desc := "(II)V" } : Jvm.MethodName)) ∈ tb := tb_t2 50 rfl rfl
theorem w_291 : (Jvm.Cond.selects "RetentionVault$Version" ({ cls := "RetentionVault$Version", name := "makeObject", desc := "(II)V" } : Jvm.MethodName) ({ cls := "RetentionVault$Version", name := "makeObject", desc := "(II)V" } : Jvm.MethodName)) ∈ tb := tb_t2 51 rfl rfl
theorem w_292 : (Jvm.Cond.code ({ cls := "RetentionVault$Version", name := "makeObject", desc := "(II)V" } : Jvm.MethodName) prog_4_method_2_code (3 : Nat) (Option.none : Option Jvm.ClassFile.FieldType)) ∈ tb := tb_t2 52 rfl rfl
theorem w_293 : (Jvm.Cond.methodLink "RetentionVault" (58 : Nat) ({ cls := "RetentionVault", name := "add", desc := "(LRetentionVault$Version;)I" } : Jvm.MethodName)) ∈ tb := tb_t2 53 rfl rfl
theorem w_295 : (Jvm.Cond.instanceMethod ({ cls := "RetentionVault", name := "add", desc := "(LRetentionVault$Version;)I" } : Jvm.MethodName)) ∈ tb := tb_t2 55 rfl rfl
theorem w_296 : (Jvm.Cond.code ({ cls := "RetentionVault", name := "add", desc := "(LRetentionVault$Version;)I" } : Jvm.MethodName) prog_1_method_25_code (3 : Nat) (Option.some Jvm.ClassFile.FieldType.int)) ∈ tb := tb_t2 56 rfl rfl
theorem w_297 : (Jvm.Cond.methodLink "RetentionVault" (219 : Nat) ({ cls := "RetentionVault", name := "latestOf", desc := "(I)LRetentionVault$Version;" } : Jvm.MethodName)) ∈ tb := tb_t2 57 rfl rfl
theorem w_299 : (Jvm.Cond.instanceMethod ({ cls := "RetentionVault", name := "latestOf", desc := "(I)LRetentionVault$Version;" } : Jvm.MethodName)) ∈ tb := tb_t2 59 rfl rfl
theorem w_300 : (Jvm.Cond.code ({ cls := "RetentionVault", name := "latestOf", desc := "(I)LRetentionVault$Version;" } : Jvm.MethodName) prog_1_method_24_code (4 : Nat) (Option.some (Jvm.ClassFile.FieldType.object "RetentionVault$Version"))) ∈ tb := tb_t2 60 rfl rfl
theorem w_301 : (Jvm.Cond.methodLink "RetentionVault" (205 : Nat) ({ cls := "java/util/ArrayList", name := "get", desc := "(I)Ljava/lang/Object;" } : Jvm.MethodName)) ∈ tb := tb_t2 61 rfl rfl
theorem w_302 : (Jvm.Cond.instanceMethod ({ cls := "java/util/ArrayList", name := "get", desc := "(I)Ljava/lang/Object;" } : Jvm.MethodName)) ∈ tb := tb_t2 62 rfl rfl
theorem w_303 : (Jvm.Cond.selects "java/util/ArrayList" ({ cls := "java/util/ArrayList", name := "get", desc := "(I)Ljava/lang/Object;" } : Jvm.MethodName) ({ cls := "java/util/ArrayList", name := "get", desc := "(I)Ljava/lang/Object;" } : Jvm.MethodName)) ∈ tb := tb_t2 63 rfl rfl
theorem w_304 : (Jvm.Cond.code ({ cls := "java/util/ArrayList", name := "get", desc := "(I)Ljava/lang/Object;" } : Jvm.MethodName) prog_21_method_20_code (2 : Nat) (Option.some (Jvm.ClassFile.FieldType.object "java/lang/Object"))) ∈ tb := tb_t2 64 rfl rfl
theorem w_305 : (Jvm.Cond.methodLink "java/util/ArrayList" (118 : Nat) ({ cls := "java/util/Objects", name := "checkIndex", desc := "(II)I" } : Jvm.MethodName)) ∈ tb := tb_t2 65 rfl rfl
theorem w_306 : (Jvm.Cond.static ({ cls := "java/util/Objects", name := "checkIndex", desc := "(II)I" } : Jvm.MethodName)) ∈ tb := tb_t2 66 rfl rfl
theorem w_307 : (Jvm.Cond.code ({ cls := "java/util/Objects", name := "checkIndex", desc := "(II)I" } : Jvm.MethodName) prog_26_method_17_code (2 : Nat) (Option.some Jvm.ClassFile.FieldType.int)) ∈ tb := tb_t2 67 rfl rfl
theorem w_308 : (Jvm.Cond.methodLink "java/util/Objects" (105 : Nat) ({ cls := "jdk/internal/util/Preconditions", name := "checkIndex", desc := "(IILjava/util/function/BiFunction;)I" } : Jvm.MethodName)) ∈ tb := tb_t2 68 rfl rfl
theorem w_309 : (Jvm.Cond.static ({ cls := "jdk/internal/util/Preconditions", name := "checkIndex", desc := "(IILjava/util/function/BiFunction;)I" } : Jvm.MethodName)) ∈ tb := tb_t2 69 rfl rfl
theorem w_310 : (Jvm.Cond.code ({ cls := "jdk/internal/util/Preconditions", name := "checkIndex", desc := "(IILjava/util/function/BiFunction;)I" } : Jvm.MethodName) prog_30_method_11_code (3 : Nat) (Option.some Jvm.ClassFile.FieldType.int)) ∈ tb := tb_t2 70 rfl rfl
theorem w_311 : (Jvm.Cond.methodLink "java/util/ArrayList" (123 : Nat) ({ cls := "java/util/ArrayList", name := "elementData", desc := "(I)Ljava/lang/Object;" } : Jvm.MethodName)) ∈ tb := tb_t2 71 rfl rfl
theorem w_312 : (Jvm.Cond.instanceMethod ({ cls := "java/util/ArrayList", name := "elementData", desc := "(I)Ljava/lang/Object;" } : Jvm.MethodName)) ∈ tb := tb_t2 72 rfl rfl
theorem w_313 : (Jvm.Cond.selects "java/util/ArrayList" ({ cls := "java/util/ArrayList", name := "elementData", desc := "(I)Ljava/lang/Object;" } : Jvm.MethodName) ({ cls := "java/util/ArrayList", name := "elementData", desc := "(I)Ljava/lang/Object;" } : Jvm.MethodName)) ∈ tb := tb_t2 73 rfl rfl
theorem w_314 : (Jvm.Cond.code ({ cls := "java/util/ArrayList", name := "elementData", desc := "(I)Ljava/lang/Object;" } : Jvm.MethodName) prog_21_method_18_code (2 : Nat) (Option.some (Jvm.ClassFile.FieldType.object "java/lang/Object"))) ∈ tb := tb_t2 74 rfl rfl
theorem w_315 : (Jvm.Cond.methodLink "RetentionVault" (227 : Nat) ({ cls := "java/util/ArrayList", name := "add", desc := "(Ljava/lang/Object;)Z" } : Jvm.MethodName)) ∈ tb := tb_t2 75 rfl rfl
theorem w_316 : (Jvm.Cond.instanceMethod ({ cls := "java/util/ArrayList", name := "add", desc := "(Ljava/lang/Object;)Z" } : Jvm.MethodName)) ∈ tb := tb_t2 76 rfl rfl
theorem w_317 : (Jvm.Cond.selects "java/util/ArrayList" ({ cls := "java/util/ArrayList", name := "add", desc := "(Ljava/lang/Object;)Z" } : Jvm.MethodName) ({ cls := "java/util/ArrayList", name := "add", desc := "(Ljava/lang/Object;)Z" } : Jvm.MethodName)) ∈ tb := tb_t2 77 rfl rfl
theorem w_318 : (Jvm.Cond.code ({ cls := "java/util/ArrayList", name := "add", desc := "(Ljava/lang/Object;)Z" } : Jvm.MethodName) prog_21_method_25_code (2 : Nat) (Option.some Jvm.ClassFile.FieldType.boolean)) ∈ tb := tb_t2 78 rfl rfl
theorem w_319 : (Jvm.Cond.methodLink "java/util/ArrayList" (131 : Nat) ({ cls := "java/util/ArrayList", name := "add", desc := "(Ljava/lang/Object;[Ljava/lang/Object;I)V" } : Jvm.MethodName)) ∈ tb := tb_t2 79 rfl rfl
theorem w_321 : (Jvm.Cond.instanceMethod ({ cls := "java/util/ArrayList", name := "add", desc := "(Ljava/lang/Object;[Ljava/lang/Object;I)V" } : Jvm.MethodName)) ∈ tb := tb_t2 81 rfl rfl
theorem w_322 : (Jvm.Cond.code ({ cls := "java/util/ArrayList", name := "add", desc := "(Ljava/lang/Object;[Ljava/lang/Object;I)V" } : Jvm.MethodName) prog_21_method_24_code (4 : Nat) (Option.none : Option Jvm.ClassFile.FieldType)) ∈ tb := tb_t2 82 rfl rfl
theorem w_323 : (Jvm.Cond.methodLink "java/util/ArrayList" (129 : Nat) ({ cls := "java/util/ArrayList", name := "grow", desc := "()[Ljava/lang/Object;" } : Jvm.MethodName)) ∈ tb := tb_t2 83 rfl rfl
theorem w_325 : (Jvm.Cond.instanceMethod ({ cls := "java/util/ArrayList", name := "grow", desc := "()[Ljava/lang/Object;" } : Jvm.MethodName)) ∈ tb := tb_t2 85 rfl rfl
theorem w_326 : (Jvm.Cond.code ({ cls := "java/util/ArrayList", name := "grow", desc := "()[Ljava/lang/Object;" } : Jvm.MethodName) prog_21_method_7_code (1 : Nat) (Option.some (Jvm.ClassFile.FieldType.array (Jvm.ClassFile.FieldType.object "java/lang/Object")))) ∈ tb := tb_t2 86 rfl rfl
theorem w_327 : (Jvm.Cond.methodLink "java/util/ArrayList" (69 : Nat) ({ cls := "java/util/ArrayList", name := "grow", desc := "(I)[Ljava/lang/Object;" } : Jvm.MethodName)) ∈ tb := tb_t2 87 rfl rfl
theorem w_329 : (Jvm.Cond.instanceMethod ({ cls := "java/util/ArrayList", name := "grow", desc := "(I)[Ljava/lang/Object;" } : Jvm.MethodName)) ∈ tb := tb_t2 89 rfl rfl
theorem w_330 : (Jvm.Cond.code ({ cls := "java/util/ArrayList", name := "grow", desc := "(I)[Ljava/lang/Object;" } : Jvm.MethodName) prog_21_method_6_code (4 : Nat) (Option.some (Jvm.ClassFile.FieldType.array (Jvm.ClassFile.FieldType.object "java/lang/Object")))) ∈ tb := tb_t2 90 rfl rfl
theorem w_331 : (Jvm.Cond.methodLink "java/util/ArrayList" (73 : Nat) ({ cls := "jdk/internal/util/ArraysSupport", name := "newLength", desc := "(III)I" } : Jvm.MethodName)) ∈ tb := tb_t2 91 rfl rfl
theorem w_332 : (Jvm.Cond.static ({ cls := "jdk/internal/util/ArraysSupport", name := "newLength", desc := "(III)I" } : Jvm.MethodName)) ∈ tb := tb_t2 92 rfl rfl
theorem w_333 : (Jvm.Cond.code ({ cls := "jdk/internal/util/ArraysSupport", name := "newLength", desc := "(III)I" } : Jvm.MethodName) prog_29_method_27_code (4 : Nat) (Option.some Jvm.ClassFile.FieldType.int)) ∈ tb := tb_t2 93 rfl rfl
theorem w_334 : (Jvm.Cond.methodLink "jdk/internal/util/ArraysSupport" (194 : Nat) ({ cls := "java/lang/Math", name := "max", desc := "(II)I" } : Jvm.MethodName)) ∈ tb := tb_t2 94 rfl rfl
theorem w_335 : (Jvm.Cond.static ({ cls := "java/lang/Math", name := "max", desc := "(II)I" } : Jvm.MethodName)) ∈ tb := tb_t2 95 rfl rfl
theorem w_336 : (Jvm.Cond.code ({ cls := "java/lang/Math", name := "max", desc := "(II)I" } : Jvm.MethodName) prog_14_method_65_code (2 : Nat) (Option.some Jvm.ClassFile.FieldType.int)) ∈ tb := tb_t2 96 rfl rfl
theorem w_337 : (Jvm.Cond.constant "jdk/internal/util/ArraysSupport" (200 : Nat) (2147483639 : Int32)) ∈ tb := tb_t2 97 rfl rfl
theorem w_338 : (Jvm.Cond.methodLink "jdk/internal/util/ArraysSupport" (201 : Nat) ({ cls := "jdk/internal/util/ArraysSupport", name := "hugeLength", desc := "(II)I" } : Jvm.MethodName)) ∈ tb := tb_t2 98 rfl rfl
theorem w_339 : (Jvm.Cond.static ({ cls := "jdk/internal/util/ArraysSupport", name := "hugeLength", desc := "(II)I" } : Jvm.MethodName)) ∈ tb := tb_t2 99 rfl rfl
theorem w_340 : (Jvm.Cond.code ({ cls := "jdk/internal/util/ArraysSupport", name := "hugeLength", desc := "(II)I" } : Jvm.MethodName) prog_29_method_28_code (3 : Nat) (Option.some Jvm.ClassFile.FieldType.int)) ∈ tb := tb_t2 100 rfl rfl
theorem w_341 : (Jvm.Cond.methodLink "java/util/ArrayList" (66 : Nat) ({ cls := "java/util/Arrays", name := "copyOf", desc := "([Ljava/lang/Object;I)[Ljava/lang/Object;" } : Jvm.MethodName)) ∈ tb := tb_t2 101 rfl rfl
theorem w_342 : (Jvm.Cond.static ({ cls := "java/util/Arrays", name := "copyOf", desc := "([Ljava/lang/Object;I)[Ljava/lang/Object;" } : Jvm.MethodName)) ∈ tb := tb_t2 102 rfl rfl
theorem w_343 : (Jvm.Cond.code ({ cls := "java/util/Arrays", name := "copyOf", desc := "([Ljava/lang/Object;I)[Ljava/lang/Object;" } : Jvm.MethodName) prog_22_method_119_code (2 : Nat) (Option.some (Jvm.ClassFile.FieldType.array (Jvm.ClassFile.FieldType.object "java/lang/Object")))) ∈ tb := tb_t2 103 rfl rfl
theorem w_344 : (Jvm.Cond.methodLink "java/util/Arrays" (86 : Nat) ({ cls := "java/lang/Object", name := "getClass", desc := "()Ljava/lang/Class;" } : Jvm.MethodName)) ∈ tb := tb_t2 104 rfl rfl
theorem w_345 : (Jvm.Cond.instanceMethod ({ cls := "java/lang/Object", name := "getClass", desc := "()Ljava/lang/Class;" } : Jvm.MethodName)) ∈ tb := tb_t2 105 rfl rfl
theorem w_346 : (Jvm.Cond.sameMethod "java/lang/Object" "java/lang/Object" "getClass" "()Ljava/lang/Class;") ∈ tb := tb_t2 106 rfl rfl
theorem w_347 : (Jvm.Cond.selects "RetentionVault" ({ cls := "java/lang/Object", name := "getClass", desc := "()Ljava/lang/Class;" } : Jvm.MethodName) ({ cls := "java/lang/Object", name := "getClass", desc := "()Ljava/lang/Class;" } : Jvm.MethodName)) ∈ tb := tb_t2 107 rfl rfl
theorem w_348 : (Jvm.Cond.selects "RetentionVault$Log" ({ cls := "java/lang/Object", name := "getClass", desc := "()Ljava/lang/Class;" } : Jvm.MethodName) ({ cls := "java/lang/Object", name := "getClass", desc := "()Ljava/lang/Class;" } : Jvm.MethodName)) ∈ tb := tb_t2 108 rfl rfl
theorem w_349 : (Jvm.Cond.selects "RetentionVault$Rule" ({ cls := "java/lang/Object", name := "getClass", desc := "()Ljava/lang/Class;" } : Jvm.MethodName) ({ cls := "java/lang/Object", name := "getClass", desc := "()Ljava/lang/Class;" } : Jvm.MethodName)) ∈ tb := tb_t2 109 rfl rfl
theorem w_350 : (Jvm.Cond.selects "RetentionVault$Version" ({ cls := "java/lang/Object", name := "getClass", desc := "()Ljava/lang/Class;" } : Jvm.MethodName) ({ cls := "java/lang/Object", name := "getClass", desc := "()Ljava/lang/Class;" } : Jvm.MethodName)) ∈ tb := tb_t2 110 rfl rfl
theorem w_351 : (Jvm.Cond.selects "RetentionVaultModel" ({ cls := "java/lang/Object", name := "getClass", desc := "()Ljava/lang/Class;" } : Jvm.MethodName) ({ cls := "java/lang/Object", name := "getClass", desc := "()Ljava/lang/Class;" } : Jvm.MethodName)) ∈ tb := tb_t2 111 rfl rfl
theorem w_352 : (Jvm.Cond.selects "java/lang/IllegalArgumentException" ({ cls := "java/lang/Object", name := "getClass", desc := "()Ljava/lang/Class;" } : Jvm.MethodName) ({ cls := "java/lang/Object", name := "getClass", desc := "()Ljava/lang/Class;" } : Jvm.MethodName)) ∈ tb := tb_t2 112 rfl rfl
theorem w_353 : (Jvm.Cond.selects "java/lang/IllegalStateException" ({ cls := "java/lang/Object", name := "getClass", desc := "()Ljava/lang/Class;" } : Jvm.MethodName) ({ cls := "java/lang/Object", name := "getClass", desc := "()Ljava/lang/Class;" } : Jvm.MethodName)) ∈ tb := tb_t2 113 rfl rfl
theorem w_354 : (Jvm.Cond.selects "java/lang/IndexOutOfBoundsException" ({ cls := "java/lang/Object", name := "getClass", desc := "()Ljava/lang/Class;" } : Jvm.MethodName) ({ cls := "java/lang/Object", name := "getClass", desc := "()Ljava/lang/Class;" } : Jvm.MethodName)) ∈ tb := tb_t2 114 rfl rfl
theorem w_355 : (Jvm.Cond.selects "java/util/ArrayList" ({ cls := "java/lang/Object", name := "getClass", desc := "()Ljava/lang/Class;" } : Jvm.MethodName) ({ cls := "java/lang/Object", name := "getClass", desc := "()Ljava/lang/Class;" } : Jvm.MethodName)) ∈ tb := tb_t2 115 rfl rfl
theorem w_356 : (Jvm.Cond.selects "java/util/NoSuchElementException" ({ cls := "java/lang/Object", name := "getClass", desc := "()Ljava/lang/Class;" } : Jvm.MethodName) ({ cls := "java/lang/Object", name := "getClass", desc := "()Ljava/lang/Class;" } : Jvm.MethodName)) ∈ tb := tb_t2 116 rfl rfl
theorem w_357 : (Jvm.Cond.native ({ cls := "java/lang/Object", name := "getClass", desc := "()Ljava/lang/Class;" } : Jvm.MethodName)) ∈ tb := tb_t2 117 rfl rfl
theorem w_358 : (Jvm.Cond.methodLink "java/util/Arrays" (300 : Nat) ({ cls := "java/util/Arrays", name := "copyOf", desc := "([Ljava/lang/Object;ILjava/lang/Class;)[Ljava/lang/Object;" } : Jvm.MethodName)) ∈ tb := tb_t2 118 rfl rfl
theorem w_359 : (Jvm.Cond.static ({ cls := "java/util/Arrays", name := "copyOf", desc := "([Ljava/lang/Object;ILjava/lang/Class;)[Ljava/lang/Object;" } : Jvm.MethodName)) ∈ tb := tb_t2 119 rfl rfl
theorem w_360 : (Jvm.Cond.code ({ cls := "java/util/Arrays", name := "copyOf", desc := "([Ljava/lang/Object;ILjava/lang/Class;)[Ljava/lang/Object;" } : Jvm.MethodName) prog_22_method_120_code (4 : Nat) (Option.some (Jvm.ClassFile.FieldType.array (Jvm.ClassFile.FieldType.object "java/lang/Object")))) ∈ tb := tb_t2 120 rfl rfl
theorem w_361 : (Jvm.Cond.classLink "java/util/Arrays" (110 : Nat) "[Ljava/lang/Object;") ∈ tb := tb_t2 121 rfl rfl
theorem w_363 : (Jvm.Cond.classLink "java/util/Arrays" (2 : Nat) "java/lang/Object") ∈ tb := tb_t2 123 rfl rfl
theorem w_364 : (Jvm.Cond.methodLink "java/util/Arrays" (304 : Nat) ({ cls := "java/lang/Math", name := "min", desc := "(II)I" } : Jvm.MethodName)) ∈ tb := tb_t2 124 rfl rfl
theorem w_365 : (Jvm.Cond.static ({ cls := "java/lang/Math", name := "min", desc := "(II)I" } : Jvm.MethodName)) ∈ tb := tb_t2 125 rfl rfl
theorem w_366 : (Jvm.Cond.code ({ cls := "java/lang/Math", name := "min", desc := "(II)I" } : Jvm.MethodName) prog_14_method_69_code (2 : Nat) (Option.some Jvm.ClassFile.FieldType.int)) ∈ tb := tb_t2 126 rfl rfl
theorem w_367 : (Jvm.Cond.methodLink "java/util/Arrays" (150 : Nat) ({ cls := "java/lang/System", name := "arraycopy", desc := "(Ljava/lang/Object;ILjava/lang/Object;II)V" } : Jvm.MethodName)) ∈ tb := tb_t2 127 rfl rfl
theorem w_368 : (Jvm.Cond.static ({ cls := "java/lang/System", name := "arraycopy", desc := "(Ljava/lang/Object;ILjava/lang/Object;II)V" } : Jvm.MethodName)) ∈ tb := tb_t2 128 rfl rfl
theorem w_369 : (Jvm.Cond.native ({ cls := "java/lang/System", name := "arraycopy", desc := "(Ljava/lang/Object;ILjava/lang/Object;II)V" } : Jvm.MethodName)) ∈ tb := tb_t2 129 rfl rfl
theorem w_370 : (Jvm.Cond.methodLink "java/util/ArrayList" (79 : Nat) ({ cls := "java/lang/Math", name := "max", desc := "(II)I" } : Jvm.MethodName)) ∈ tb := tb_t2 130 rfl rfl
theorem w_371 : (Jvm.Cond.classLink "java/util/ArrayList" (7 : Nat) "java/lang/Object") ∈ tb := tb_t2 131 rfl rfl
theorem w_372 : (Jvm.Cond.methodLink "RetentionVault" (214 : Nat) ({ cls := "RetentionVault$Version", name := "isMarker", desc := "()Z" } : Jvm.MethodName)) ∈ tb := tb_t2 132 rfl rfl
theorem w_373 : (Jvm.Cond.instanceMethod ({ cls := "RetentionVault$Version", name := "isMarker", desc := "()Z" } : Jvm.MethodName)) ∈ tb := tb_t2 133 rfl rfl
theorem w_374 : (Jvm.Cond.selects "RetentionVault$Version" ({ cls := "RetentionVault$Version", name := "isMarker", desc := "()Z" } : Jvm.MethodName) ({ cls := "RetentionVault$Version", name := "isMarker", desc := "()Z" } : Jvm.MethodName)) ∈ tb := tb_t2 134 rfl rfl
theorem w_375 : (Jvm.Cond.code ({ cls := "RetentionVault$Version", name := "isMarker", desc := "()Z" } : Jvm.MethodName) prog_4_method_3_code (1 : Nat) (Option.some Jvm.ClassFile.FieldType.boolean)) ∈ tb := tb_t2 135 rfl rfl
theorem w_376 : (Jvm.Cond.methodLink "RetentionVault" (109 : Nat) ({ cls := "RetentionVault$Log", name := "write", desc := "(IIII)V" } : Jvm.MethodName)) ∈ tb := tb_t2 136 rfl rfl
theorem w_377 : (Jvm.Cond.instanceMethod ({ cls := "RetentionVault$Log", name := "write", desc := "(IIII)V" } : Jvm.MethodName)) ∈ tb := tb_t2 137 rfl rfl
theorem w_378 : (Jvm.Cond.selects "RetentionVault$Log" ({ cls := "RetentionVault$Log", name := "write", desc := "(IIII)V" } : Jvm.MethodName) ({ cls := "RetentionVault$Log", name := "write", desc := "(IIII)V" } : Jvm.MethodName)) ∈ tb := tb_t2 138 rfl rfl
theorem w_379 : (Jvm.Cond.code ({ cls := "RetentionVault$Log", name := "write", desc := "(IIII)V" } : Jvm.MethodName) prog_2_method_2_code (6 : Nat) (Option.none : Option Jvm.ClassFile.FieldType)) ∈ tb := tb_t2 139 rfl rfl
theorem w_380 : (Jvm.Cond.methodLink "RetentionVault$Log" (23 : Nat) ({ cls := "RetentionVault$Log", name := "placeOf", desc := "(I)I" } : Jvm.MethodName)) ∈ tb := tb_t2 140 rfl rfl
theorem w_381 : (Jvm.Cond.static ({ cls := "RetentionVault$Log", name := "placeOf", desc := "(I)I" } : Jvm.MethodName)) ∈ tb := tb_t2 141 rfl rfl
theorem w_382 : (Jvm.Cond.code ({ cls := "RetentionVault$Log", name := "placeOf", desc := "(I)I" } : Jvm.MethodName) prog_2_method_6_code (1 : Nat) (Option.some Jvm.ClassFile.FieldType.int)) ∈ tb := tb_t2 142 rfl rfl
theorem w_383 : (Jvm.Cond.methodLink "RetentionVault$Log" (27 : Nat) ({ cls := "RetentionVault$Log", name := "append", desc := "(II)V" } : Jvm.MethodName)) ∈ tb := tb_t2 143 rfl rfl
theorem w_385 : (Jvm.Cond.instanceMethod ({ cls := "RetentionVault$Log", name := "append", desc := "(II)V" } : Jvm.MethodName)) ∈ tb := tb_t2 145 rfl rfl
theorem w_386 : (Jvm.Cond.code ({ cls := "RetentionVault$Log", name := "append", desc := "(II)V" } : Jvm.MethodName) prog_2_method_5_code (3 : Nat) (Option.none : Option Jvm.ClassFile.FieldType)) ∈ tb := tb_t2 146 rfl rfl
theorem w_387 : (Jvm.Cond.constantLong "RetentionVault$Log" (31 : Nat) (1099511628211 : Int64)) ∈ tb := tb_t2 147 rfl rfl
theorem w_388 : (Jvm.Cond.methodLink "RetentionVaultLaw" (81 : Nat) ({ cls := "RetentionVaultLaw", name := "mark", desc := "(LRetentionVault;I[J)I" } : Jvm.MethodName)) ∈ tb := tb_t2 148 rfl rfl
theorem w_389 : (Jvm.Cond.static ({ cls := "RetentionVaultLaw", name := "mark", desc := "(LRetentionVault;I[J)I" } : Jvm.MethodName)) ∈ tb := tb_t2 149 rfl rfl
theorem w_390 : (Jvm.Cond.codeWith ({ cls := "RetentionVaultLaw", name := "mark", desc := "(LRetentionVault;I[J)I" } : Jvm.MethodName) method_4_code (4 : Nat) (Option.some Jvm.ClassFile.FieldType.int) [((0 : Nat), (9 : Nat), (12 : Nat), (21 : Nat)), ((0 : Nat), (9 : Nat), (15 : Nat), (15 : Nat))]) ∈ tb := tb_t2 150 rfl rfl
theorem w_391 : (Jvm.Cond.classLink "RetentionVaultLaw" (21 : Nat) "java/util/NoSuchElementException") ∈ tb := tb_t2 151 rfl rfl
theorem w_392 : (Jvm.Cond.methodLink "RetentionVaultLaw" (17 : Nat) ({ cls := "RetentionVault", name := "mark", desc := "(I)I" } : Jvm.MethodName)) ∈ tb := tb_t2 152 rfl rfl
theorem w_393 : (Jvm.Cond.instanceMethod ({ cls := "RetentionVault", name := "mark", desc := "(I)I" } : Jvm.MethodName)) ∈ tb := tb_t2 153 rfl rfl
theorem w_394 : (Jvm.Cond.selects "RetentionVault" ({ cls := "RetentionVault", name := "mark", desc := "(I)I" } : Jvm.MethodName) ({ cls := "RetentionVault", name := "mark", desc := "(I)I" } : Jvm.MethodName)) ∈ tb := tb_t2 154 rfl rfl
theorem w_395 : (Jvm.Cond.code ({ cls := "RetentionVault", name := "mark", desc := "(I)I" } : Jvm.MethodName) prog_1_method_3_code (2 : Nat) (Option.some Jvm.ClassFile.FieldType.int)) ∈ tb := tb_t2 155 rfl rfl
theorem w_396 : (Jvm.Cond.methodLink "RetentionVault" (62 : Nat) ({ cls := "RetentionVault", name := "currentObject", desc := "(I)LRetentionVault$Version;" } : Jvm.MethodName)) ∈ tb := tb_t2 156 rfl rfl
theorem w_398 : (Jvm.Cond.instanceMethod ({ cls := "RetentionVault", name := "currentObject", desc := "(I)LRetentionVault$Version;" } : Jvm.MethodName)) ∈ tb := tb_t2 158 rfl rfl
theorem w_399 : (Jvm.Cond.code ({ cls := "RetentionVault", name := "currentObject", desc := "(I)LRetentionVault$Version;" } : Jvm.MethodName) prog_1_method_23_code (3 : Nat) (Option.some (Jvm.ClassFile.FieldType.object "RetentionVault$Version"))) ∈ tb := tb_t2 159 rfl rfl
theorem w_400 : (Jvm.Cond.classLink "RetentionVault" (209 : Nat) "java/util/NoSuchElementException") ∈ tb := tb_t2 160 rfl rfl
theorem w_401 : (Jvm.Cond.instantiable "java/util/NoSuchElementException" (6 : Nat)) ∈ tb := tb_t2 161 rfl rfl
theorem w_403 : (Jvm.Cond.selects "java/util/NoSuchElementException" ({ cls := "java/lang/Throwable", name := "fillInStackTrace", desc := "(I)Ljava/lang/Throwable;" } : Jvm.MethodName) ({ cls := "java/lang/Throwable", name := "fillInStackTrace", desc := "(I)Ljava/lang/Throwable;" } : Jvm.MethodName)) ∈ tb := tb_t2 163 rfl rfl
theorem w_404 : (Jvm.Cond.lays "java/util/NoSuchElementException" "java/lang/Throwable" "cause" "Ljava/lang/Throwable;") ∈ tb := tb_t2 164 rfl rfl
theorem w_405 : (Jvm.Cond.lays "java/util/NoSuchElementException" "java/lang/Throwable" "stackTrace" "[Ljava/lang/StackTraceElement;") ∈ tb := tb_t2 165 rfl rfl
theorem w_406 : (Jvm.Cond.lays "java/util/NoSuchElementException" "java/lang/Throwable" "suppressedExceptions" "Ljava/util/List;") ∈ tb := tb_t2 166 rfl rfl
theorem w_407 : (Jvm.Cond.lays "java/util/NoSuchElementException" "java/lang/Throwable" "detailMessage" "Ljava/lang/String;") ∈ tb := tb_t2 167 rfl rfl
theorem w_408 : (Jvm.Cond.lays "java/util/NoSuchElementException" "java/lang/Throwable" "backtrace" "Ljava/lang/Object;") ∈ tb := tb_t2 168 rfl rfl
theorem w_410 : (Jvm.Cond.methodLink "RetentionVault" (213 : Nat) ({ cls := "java/util/NoSuchElementException", name := "<init>", desc := "(Ljava/lang/String;)V" } : Jvm.MethodName)) ∈ tb := tb_t2 170 rfl rfl
theorem w_411 : (Jvm.Cond.instanceMethod ({ cls := "java/util/NoSuchElementException", name := "<init>", desc := "(Ljava/lang/String;)V" } : Jvm.MethodName)) ∈ tb := tb_t2 171 rfl rfl
theorem w_412 : (Jvm.Cond.code ({ cls := "java/util/NoSuchElementException", name := "<init>", desc := "(Ljava/lang/String;)V" } : Jvm.MethodName) prog_25_method_4_code (2 : Nat) (Option.none : Option Jvm.ClassFile.FieldType)) ∈ tb := tb_t2 172 rfl rfl
theorem w_413 : (Jvm.Cond.methodLink "java/util/NoSuchElementException" (13 : Nat) ({ cls := "java/lang/RuntimeException", name := "<init>", desc := "(Ljava/lang/String;)V" } : Jvm.MethodName)) ∈ tb := tb_t2 173 rfl rfl
theorem w_414 : (Jvm.Cond.lays "java/util/NoSuchElementException" "java/lang/Throwable" "depth" "I") ∈ tb := tb_t2 174 rfl rfl
theorem w_415 : (Jvm.Cond.superclass "java/util/NoSuchElementException" "java/lang/RuntimeException") ∈ tb := tb_t2 175 rfl rfl
theorem w_416 : (Jvm.Cond.methodLink "RetentionVaultLaw" (85 : Nat) ({ cls := "RetentionVaultLaw", name := "erase", desc := "(LRetentionVault;IZ[J)I" } : Jvm.MethodName)) ∈ tb := tb_t2 176 rfl rfl
theorem w_417 : (Jvm.Cond.static ({ cls := "RetentionVaultLaw", name := "erase", desc := "(LRetentionVault;IZ[J)I" } : Jvm.MethodName)) ∈ tb := tb_t2 177 rfl rfl
theorem w_418 : (Jvm.Cond.codeWith ({ cls := "RetentionVaultLaw", name := "erase", desc := "(LRetentionVault;IZ[J)I" } : Jvm.MethodName) method_5_code (5 : Nat) (Option.some Jvm.ClassFile.FieldType.int) [((0 : Nat), (10 : Nat), (13 : Nat), (21 : Nat)), ((0 : Nat), (10 : Nat), (17 : Nat), (15 : Nat))]) ∈ tb := tb_t2 178 rfl rfl
theorem w_419 : (Jvm.Cond.methodLink "RetentionVaultLaw" (23 : Nat) ({ cls := "RetentionVault", name := "erase", desc := "(IZ)I" } : Jvm.MethodName)) ∈ tb := tb_t2 179 rfl rfl
theorem w_420 : (Jvm.Cond.instanceMethod ({ cls := "RetentionVault", name := "erase", desc := "(IZ)I" } : Jvm.MethodName)) ∈ tb := tb_t2 180 rfl rfl
theorem w_421 : (Jvm.Cond.selects "RetentionVault" ({ cls := "RetentionVault", name := "erase", desc := "(IZ)I" } : Jvm.MethodName) ({ cls := "RetentionVault", name := "erase", desc := "(IZ)I" } : Jvm.MethodName)) ∈ tb := tb_t2 181 rfl rfl
theorem w_422 : (Jvm.Cond.code ({ cls := "RetentionVault", name := "erase", desc := "(IZ)I" } : Jvm.MethodName) prog_1_method_4_code (5 : Nat) (Option.some Jvm.ClassFile.FieldType.int)) ∈ tb := tb_t2 182 rfl rfl
theorem w_423 : (Jvm.Cond.methodLink "RetentionVault" (66 : Nat) ({ cls := "RetentionVault", name := "versionNumbered", desc := "(I)LRetentionVault$Version;" } : Jvm.MethodName)) ∈ tb := tb_t2 183 rfl rfl
theorem w_425 : (Jvm.Cond.instanceMethod ({ cls := "RetentionVault", name := "versionNumbered", desc := "(I)LRetentionVault$Version;" } : Jvm.MethodName)) ∈ tb := tb_t2 185 rfl rfl
theorem w_426 : (Jvm.Cond.code ({ cls := "RetentionVault", name := "versionNumbered", desc := "(I)LRetentionVault$Version;" } : Jvm.MethodName) prog_1_method_21_code (4 : Nat) (Option.some (Jvm.ClassFile.FieldType.object "RetentionVault$Version"))) ∈ tb := tb_t2 186 rfl rfl
theorem w_428 : (Jvm.Cond.methodLink "RetentionVault" (69 : Nat) ({ cls := "RetentionVault$Version", name := "isRetainedStrictly", desc := "(I)Z" } : Jvm.MethodName)) ∈ tb := tb_t2 188 rfl rfl
theorem w_429 : (Jvm.Cond.instanceMethod ({ cls := "RetentionVault$Version", name := "isRetainedStrictly", desc := "(I)Z" } : Jvm.MethodName)) ∈ tb := tb_t2 189 rfl rfl
theorem w_430 : (Jvm.Cond.selects "RetentionVault$Version" ({ cls := "RetentionVault$Version", name := "isRetainedStrictly", desc := "(I)Z" } : Jvm.MethodName) ({ cls := "RetentionVault$Version", name := "isRetainedStrictly", desc := "(I)Z" } : Jvm.MethodName)) ∈ tb := tb_t2 190 rfl rfl
theorem w_431 : (Jvm.Cond.code ({ cls := "RetentionVault$Version", name := "isRetainedStrictly", desc := "(I)Z" } : Jvm.MethodName) prog_4_method_8_code (2 : Nat) (Option.some Jvm.ClassFile.FieldType.boolean)) ∈ tb := tb_t2 191 rfl rfl
theorem w_432 : (Jvm.Cond.methodLink "RetentionVault$Version" (46 : Nat) ({ cls := "RetentionVault$Version", name := "isRetained", desc := "(I)Z" } : Jvm.MethodName)) ∈ tb := tb_t2 192 rfl rfl
theorem w_433 : (Jvm.Cond.instanceMethod ({ cls := "RetentionVault$Version", name := "isRetained", desc := "(I)Z" } : Jvm.MethodName)) ∈ tb := tb_t2 193 rfl rfl
theorem w_434 : (Jvm.Cond.selects "RetentionVault$Version" ({ cls := "RetentionVault$Version", name := "isRetained", desc := "(I)Z" } : Jvm.MethodName) ({ cls := "RetentionVault$Version", name := "isRetained", desc := "(I)Z" } : Jvm.MethodName)) ∈ tb := tb_t2 194 rfl rfl
theorem w_435 : (Jvm.Cond.code ({ cls := "RetentionVault$Version", name := "isRetained", desc := "(I)Z" } : Jvm.MethodName) prog_4_method_7_code (2 : Nat) (Option.some Jvm.ClassFile.FieldType.boolean)) ∈ tb := tb_t2 195 rfl rfl
theorem w_436 : (Jvm.Cond.methodLink "RetentionVault" (73 : Nat) ({ cls := "RetentionVault$Version", name := "isHeld", desc := "()Z" } : Jvm.MethodName)) ∈ tb := tb_t2 196 rfl rfl
theorem w_437 : (Jvm.Cond.instanceMethod ({ cls := "RetentionVault$Version", name := "isHeld", desc := "()Z" } : Jvm.MethodName)) ∈ tb := tb_t2 197 rfl rfl
theorem w_438 : (Jvm.Cond.selects "RetentionVault$Version" ({ cls := "RetentionVault$Version", name := "isHeld", desc := "()Z" } : Jvm.MethodName) ({ cls := "RetentionVault$Version", name := "isHeld", desc := "()Z" } : Jvm.MethodName)) ∈ tb := tb_t2 198 rfl rfl
theorem w_439 : (Jvm.Cond.code ({ cls := "RetentionVault$Version", name := "isHeld", desc := "()Z" } : Jvm.MethodName) prog_4_method_6_code (1 : Nat) (Option.some Jvm.ClassFile.FieldType.boolean)) ∈ tb := tb_t2 199 rfl rfl
theorem w_440 : (Jvm.Cond.methodLink "RetentionVault" (77 : Nat) ({ cls := "RetentionVault$Version", name := "isRetained", desc := "(I)Z" } : Jvm.MethodName)) ∈ tb := tb_t2 200 rfl rfl
theorem w_442 : (Jvm.Cond.methodLink "RetentionVault" (87 : Nat) ({ cls := "RetentionVault", name := "takeAway", desc := "(LRetentionVault$Version;)V" } : Jvm.MethodName)) ∈ tb := tb_t2 202 rfl rfl
theorem w_444 : (Jvm.Cond.instanceMethod ({ cls := "RetentionVault", name := "takeAway", desc := "(LRetentionVault$Version;)V" } : Jvm.MethodName)) ∈ tb := tb_t2 204 rfl rfl
theorem w_445 : (Jvm.Cond.code ({ cls := "RetentionVault", name := "takeAway", desc := "(LRetentionVault$Version;)V" } : Jvm.MethodName) prog_1_method_26_code (3 : Nat) (Option.none : Option Jvm.ClassFile.FieldType)) ∈ tb := tb_t2 205 rfl rfl
theorem w_446 : (Jvm.Cond.methodLink "RetentionVault" (230 : Nat) ({ cls := "java/util/ArrayList", name := "remove", desc := "(I)Ljava/lang/Object;" } : Jvm.MethodName)) ∈ tb := tb_t2 206 rfl rfl
theorem w_447 : (Jvm.Cond.instanceMethod ({ cls := "java/util/ArrayList", name := "remove", desc := "(I)Ljava/lang/Object;" } : Jvm.MethodName)) ∈ tb := tb_t2 207 rfl rfl
theorem w_448 : (Jvm.Cond.selects "java/util/ArrayList" ({ cls := "java/util/ArrayList", name := "remove", desc := "(I)Ljava/lang/Object;" } : Jvm.MethodName) ({ cls := "java/util/ArrayList", name := "remove", desc := "(I)Ljava/lang/Object;" } : Jvm.MethodName)) ∈ tb := tb_t2 208 rfl rfl
theorem w_449 : (Jvm.Cond.code ({ cls := "java/util/ArrayList", name := "remove", desc := "(I)Ljava/lang/Object;" } : Jvm.MethodName) prog_21_method_29_code (4 : Nat) (Option.some (Jvm.ClassFile.FieldType.object "java/lang/Object"))) ∈ tb := tb_t2 209 rfl rfl
theorem w_450 : (Jvm.Cond.methodLink "java/util/ArrayList" (144 : Nat) ({ cls := "java/util/ArrayList", name := "fastRemove", desc := "([Ljava/lang/Object;I)V" } : Jvm.MethodName)) ∈ tb := tb_t2 210 rfl rfl
theorem w_452 : (Jvm.Cond.instanceMethod ({ cls := "java/util/ArrayList", name := "fastRemove", desc := "([Ljava/lang/Object;I)V" } : Jvm.MethodName)) ∈ tb := tb_t2 212 rfl rfl
theorem w_453 : (Jvm.Cond.code ({ cls := "java/util/ArrayList", name := "fastRemove", desc := "([Ljava/lang/Object;I)V" } : Jvm.MethodName) prog_21_method_39_code (4 : Nat) (Option.none : Option Jvm.ClassFile.FieldType)) ∈ tb := tb_t2 213 rfl rfl
theorem w_454 : (Jvm.Cond.methodLink "java/util/ArrayList" (112 : Nat) ({ cls := "java/lang/System", name := "arraycopy", desc := "(Ljava/lang/Object;ILjava/lang/Object;II)V" } : Jvm.MethodName)) ∈ tb := tb_t2 214 rfl rfl
theorem w_455 : (Jvm.Cond.methodLink "RetentionVaultLaw" (89 : Nat) ({ cls := "RetentionVaultLaw", name := "retain", desc := "(LRetentionVault;IIZ)I" } : Jvm.MethodName)) ∈ tb := tb_t2 215 rfl rfl
theorem w_456 : (Jvm.Cond.static ({ cls := "RetentionVaultLaw", name := "retain", desc := "(LRetentionVault;IIZ)I" } : Jvm.MethodName)) ∈ tb := tb_t2 216 rfl rfl
theorem w_457 : (Jvm.Cond.codeWith ({ cls := "RetentionVaultLaw", name := "retain", desc := "(LRetentionVault;IIZ)I" } : Jvm.MethodName) method_6_code (5 : Nat) (Option.some Jvm.ClassFile.FieldType.int) [((0 : Nat), (7 : Nat), (10 : Nat), (21 : Nat)), ((0 : Nat), (7 : Nat), (14 : Nat), (13 : Nat)), ((0 : Nat), (7 : Nat), (18 : Nat), (15 : Nat))]) ∈ tb := tb_t2 217 rfl rfl
theorem w_458 : (Jvm.Cond.methodLink "RetentionVaultLaw" (27 : Nat) ({ cls := "RetentionVault", name := "retain", desc := "(IIZ)V" } : Jvm.MethodName)) ∈ tb := tb_t2 218 rfl rfl
theorem w_459 : (Jvm.Cond.instanceMethod ({ cls := "RetentionVault", name := "retain", desc := "(IIZ)V" } : Jvm.MethodName)) ∈ tb := tb_t2 219 rfl rfl
theorem w_460 : (Jvm.Cond.selects "RetentionVault" ({ cls := "RetentionVault", name := "retain", desc := "(IIZ)V" } : Jvm.MethodName) ({ cls := "RetentionVault", name := "retain", desc := "(IIZ)V" } : Jvm.MethodName)) ∈ tb := tb_t2 220 rfl rfl
theorem w_461 : (Jvm.Cond.code ({ cls := "RetentionVault", name := "retain", desc := "(IIZ)V" } : Jvm.MethodName) prog_1_method_5_code (6 : Nat) (Option.none : Option Jvm.ClassFile.FieldType)) ∈ tb := tb_t2 221 rfl rfl
theorem w_462 : (Jvm.Cond.methodLink "RetentionVault" (94 : Nat) ({ cls := "RetentionVault", name := "objectNumbered", desc := "(I)LRetentionVault$Version;" } : Jvm.MethodName)) ∈ tb := tb_t2 222 rfl rfl
theorem w_464 : (Jvm.Cond.instanceMethod ({ cls := "RetentionVault", name := "objectNumbered", desc := "(I)LRetentionVault$Version;" } : Jvm.MethodName)) ∈ tb := tb_t2 224 rfl rfl
theorem w_465 : (Jvm.Cond.code ({ cls := "RetentionVault", name := "objectNumbered", desc := "(I)LRetentionVault$Version;" } : Jvm.MethodName) prog_1_method_22_code (3 : Nat) (Option.some (Jvm.ClassFile.FieldType.object "RetentionVault$Version"))) ∈ tb := tb_t2 225 rfl rfl
theorem w_468 : (Jvm.Cond.methodLink "RetentionVaultLaw" (93 : Nat) ({ cls := "RetentionVaultLaw", name := "hold", desc := "(LRetentionVault;IIZ[J)I" } : Jvm.MethodName)) ∈ tb := tb_t2 228 rfl rfl
theorem w_469 : (Jvm.Cond.static ({ cls := "RetentionVaultLaw", name := "hold", desc := "(LRetentionVault;IIZ[J)I" } : Jvm.MethodName)) ∈ tb := tb_t2 229 rfl rfl
theorem w_470 : (Jvm.Cond.codeWith ({ cls := "RetentionVaultLaw", name := "hold", desc := "(LRetentionVault;IIZ[J)I" } : Jvm.MethodName) method_7_code (6 : Nat) (Option.some Jvm.ClassFile.FieldType.int) [((0 : Nat), (19 : Nat), (22 : Nat), (21 : Nat)), ((0 : Nat), (19 : Nat), (26 : Nat), (13 : Nat))]) ∈ tb := tb_t2 230 rfl rfl
theorem w_471 : (Jvm.Cond.methodLink "RetentionVaultLaw" (31 : Nat) ({ cls := "RetentionVault", name := "hold", desc := "(IIZ)Z" } : Jvm.MethodName)) ∈ tb := tb_t2 231 rfl rfl
theorem w_472 : (Jvm.Cond.instanceMethod ({ cls := "RetentionVault", name := "hold", desc := "(IIZ)Z" } : Jvm.MethodName)) ∈ tb := tb_t2 232 rfl rfl
theorem w_473 : (Jvm.Cond.selects "RetentionVault" ({ cls := "RetentionVault", name := "hold", desc := "(IIZ)Z" } : Jvm.MethodName) ({ cls := "RetentionVault", name := "hold", desc := "(IIZ)Z" } : Jvm.MethodName)) ∈ tb := tb_t2 233 rfl rfl
theorem w_474 : (Jvm.Cond.code ({ cls := "RetentionVault", name := "hold", desc := "(IIZ)Z" } : Jvm.MethodName) prog_1_method_6_code (7 : Nat) (Option.some Jvm.ClassFile.FieldType.boolean)) ∈ tb := tb_t2 234 rfl rfl
theorem w_475 : (Jvm.Cond.methodLink "RetentionVaultLaw" (97 : Nat) ({ cls := "RetentionVaultLaw", name := "rule", desc := "(LRetentionVault;IIZII)I" } : Jvm.MethodName)) ∈ tb := tb_t2 235 rfl rfl
theorem w_476 : (Jvm.Cond.static ({ cls := "RetentionVaultLaw", name := "rule", desc := "(LRetentionVault;IIZII)I" } : Jvm.MethodName)) ∈ tb := tb_t2 236 rfl rfl
theorem w_477 : (Jvm.Cond.codeWith ({ cls := "RetentionVaultLaw", name := "rule", desc := "(LRetentionVault;IIZII)I" } : Jvm.MethodName) method_8_code (7 : Nat) (Option.some Jvm.ClassFile.FieldType.int) [((0 : Nat), (11 : Nat), (14 : Nat), (13 : Nat))]) ∈ tb := tb_t2 237 rfl rfl
theorem w_478 : (Jvm.Cond.methodLink "RetentionVaultLaw" (35 : Nat) ({ cls := "RetentionVault", name := "rule", desc := "(IIZII)V" } : Jvm.MethodName)) ∈ tb := tb_t2 238 rfl rfl
theorem w_479 : (Jvm.Cond.instanceMethod ({ cls := "RetentionVault", name := "rule", desc := "(IIZII)V" } : Jvm.MethodName)) ∈ tb := tb_t2 239 rfl rfl
theorem w_480 : (Jvm.Cond.selects "RetentionVault" ({ cls := "RetentionVault", name := "rule", desc := "(IIZII)V" } : Jvm.MethodName) ({ cls := "RetentionVault", name := "rule", desc := "(IIZII)V" } : Jvm.MethodName)) ∈ tb := tb_t3 0 rfl rfl
theorem w_481 : (Jvm.Cond.code ({ cls := "RetentionVault", name := "rule", desc := "(IIZII)V" } : Jvm.MethodName) prog_1_method_7_code (6 : Nat) (Option.none : Option Jvm.ClassFile.FieldType)) ∈ tb := tb_t3 1 rfl rfl
theorem w_482 : (Jvm.Cond.methodLink "RetentionVault" (116 : Nat) ({ cls := "RetentionVault$Rule", name := "become", desc := "(IZII)V" } : Jvm.MethodName)) ∈ tb := tb_t3 2 rfl rfl
theorem w_483 : (Jvm.Cond.instanceMethod ({ cls := "RetentionVault$Rule", name := "become", desc := "(IZII)V" } : Jvm.MethodName)) ∈ tb := tb_t3 3 rfl rfl
theorem w_484 : (Jvm.Cond.selects "RetentionVault$Rule" ({ cls := "RetentionVault$Rule", name := "become", desc := "(IZII)V" } : Jvm.MethodName) ({ cls := "RetentionVault$Rule", name := "become", desc := "(IZII)V" } : Jvm.MethodName)) ∈ tb := tb_t3 4 rfl rfl
theorem w_485 : (Jvm.Cond.code ({ cls := "RetentionVault$Rule", name := "become", desc := "(IZII)V" } : Jvm.MethodName) prog_3_method_2_code (5 : Nat) (Option.none : Option Jvm.ClassFile.FieldType)) ∈ tb := tb_t3 5 rfl rfl
theorem w_486 : (Jvm.Cond.methodLink "RetentionVaultLaw" (101 : Nat) ({ cls := "RetentionVaultLaw", name := "unrule", desc := "(LRetentionVault;I[J)I" } : Jvm.MethodName)) ∈ tb := tb_t3 6 rfl rfl
theorem w_487 : (Jvm.Cond.static ({ cls := "RetentionVaultLaw", name := "unrule", desc := "(LRetentionVault;I[J)I" } : Jvm.MethodName)) ∈ tb := tb_t3 7 rfl rfl
theorem w_488 : (Jvm.Cond.codeWith ({ cls := "RetentionVaultLaw", name := "unrule", desc := "(LRetentionVault;I[J)I" } : Jvm.MethodName) method_9_code (4 : Nat) (Option.some Jvm.ClassFile.FieldType.int) [((0 : Nat), (16 : Nat), (19 : Nat), (13 : Nat))]) ∈ tb := tb_t3 8 rfl rfl
theorem w_489 : (Jvm.Cond.methodLink "RetentionVaultLaw" (39 : Nat) ({ cls := "RetentionVault", name := "unrule", desc := "(I)Z" } : Jvm.MethodName)) ∈ tb := tb_t3 9 rfl rfl
theorem w_490 : (Jvm.Cond.instanceMethod ({ cls := "RetentionVault", name := "unrule", desc := "(I)Z" } : Jvm.MethodName)) ∈ tb := tb_t3 10 rfl rfl
theorem w_491 : (Jvm.Cond.selects "RetentionVault" ({ cls := "RetentionVault", name := "unrule", desc := "(I)Z" } : Jvm.MethodName) ({ cls := "RetentionVault", name := "unrule", desc := "(I)Z" } : Jvm.MethodName)) ∈ tb := tb_t3 11 rfl rfl
theorem w_492 : (Jvm.Cond.code ({ cls := "RetentionVault", name := "unrule", desc := "(I)Z" } : Jvm.MethodName) prog_1_method_8_code (3 : Nat) (Option.some Jvm.ClassFile.FieldType.boolean)) ∈ tb := tb_t3 12 rfl rfl
theorem w_493 : (Jvm.Cond.methodLink "RetentionVault" (120 : Nat) ({ cls := "RetentionVault$Rule", name := "isEmpty", desc := "()Z" } : Jvm.MethodName)) ∈ tb := tb_t3 13 rfl rfl
theorem w_494 : (Jvm.Cond.instanceMethod ({ cls := "RetentionVault$Rule", name := "isEmpty", desc := "()Z" } : Jvm.MethodName)) ∈ tb := tb_t3 14 rfl rfl
theorem w_495 : (Jvm.Cond.selects "RetentionVault$Rule" ({ cls := "RetentionVault$Rule", name := "isEmpty", desc := "()Z" } : Jvm.MethodName) ({ cls := "RetentionVault$Rule", name := "isEmpty", desc := "()Z" } : Jvm.MethodName)) ∈ tb := tb_t3 15 rfl rfl
theorem w_496 : (Jvm.Cond.code ({ cls := "RetentionVault$Rule", name := "isEmpty", desc := "()Z" } : Jvm.MethodName) prog_3_method_3_code (1 : Nat) (Option.some Jvm.ClassFile.FieldType.boolean)) ∈ tb := tb_t3 16 rfl rfl
theorem w_497 : (Jvm.Cond.methodLink "RetentionVaultLaw" (104 : Nat) ({ cls := "RetentionVaultLaw", name := "fetch", desc := "(LRetentionVault;II[J)I" } : Jvm.MethodName)) ∈ tb := tb_t3 17 rfl rfl
theorem w_498 : (Jvm.Cond.static ({ cls := "RetentionVaultLaw", name := "fetch", desc := "(LRetentionVault;II[J)I" } : Jvm.MethodName)) ∈ tb := tb_t3 18 rfl rfl
theorem w_499 : (Jvm.Cond.codeWith ({ cls := "RetentionVaultLaw", name := "fetch", desc := "(LRetentionVault;II[J)I" } : Jvm.MethodName) method_10_code (5 : Nat) (Option.some Jvm.ClassFile.FieldType.int) [((0 : Nat), (10 : Nat), (13 : Nat), (21 : Nat)), ((0 : Nat), (10 : Nat), (17 : Nat), (13 : Nat)), ((0 : Nat), (10 : Nat), (21 : Nat), (15 : Nat))]) ∈ tb := tb_t3 19 rfl rfl
theorem w_500 : (Jvm.Cond.methodLink "RetentionVaultLaw" (43 : Nat) ({ cls := "RetentionVault", name := "fetch", desc := "(II)I" } : Jvm.MethodName)) ∈ tb := tb_t3 20 rfl rfl
theorem w_501 : (Jvm.Cond.instanceMethod ({ cls := "RetentionVault", name := "fetch", desc := "(II)I" } : Jvm.MethodName)) ∈ tb := tb_t3 21 rfl rfl
theorem w_502 : (Jvm.Cond.selects "RetentionVault" ({ cls := "RetentionVault", name := "fetch", desc := "(II)I" } : Jvm.MethodName) ({ cls := "RetentionVault", name := "fetch", desc := "(II)I" } : Jvm.MethodName)) ∈ tb := tb_t3 22 rfl rfl
theorem w_503 : (Jvm.Cond.code ({ cls := "RetentionVault", name := "fetch", desc := "(II)I" } : Jvm.MethodName) prog_1_method_9_code (4 : Nat) (Option.some Jvm.ClassFile.FieldType.int)) ∈ tb := tb_t3 23 rfl rfl
theorem w_504 : (Jvm.Cond.methodLink "RetentionVault" (126 : Nat) ({ cls := "RetentionVault$Version", name := "isCold", desc := "()Z" } : Jvm.MethodName)) ∈ tb := tb_t3 24 rfl rfl
theorem w_505 : (Jvm.Cond.instanceMethod ({ cls := "RetentionVault$Version", name := "isCold", desc := "()Z" } : Jvm.MethodName)) ∈ tb := tb_t3 25 rfl rfl
theorem w_506 : (Jvm.Cond.selects "RetentionVault$Version" ({ cls := "RetentionVault$Version", name := "isCold", desc := "()Z" } : Jvm.MethodName) ({ cls := "RetentionVault$Version", name := "isCold", desc := "()Z" } : Jvm.MethodName)) ∈ tb := tb_t3 26 rfl rfl
theorem w_507 : (Jvm.Cond.code ({ cls := "RetentionVault$Version", name := "isCold", desc := "()Z" } : Jvm.MethodName) prog_4_method_4_code (1 : Nat) (Option.some Jvm.ClassFile.FieldType.boolean)) ∈ tb := tb_t3 27 rfl rfl
theorem w_509 : (Jvm.Cond.methodLink "RetentionVaultLaw" (108 : Nat) ({ cls := "RetentionVaultLaw", name := "read", desc := "(LRetentionVault;I[J)I" } : Jvm.MethodName)) ∈ tb := tb_t3 29 rfl rfl
theorem w_510 : (Jvm.Cond.static ({ cls := "RetentionVaultLaw", name := "read", desc := "(LRetentionVault;I[J)I" } : Jvm.MethodName)) ∈ tb := tb_t3 30 rfl rfl
theorem w_511 : (Jvm.Cond.codeWith ({ cls := "RetentionVaultLaw", name := "read", desc := "(LRetentionVault;I[J)I" } : Jvm.MethodName) method_11_code (4 : Nat) (Option.some Jvm.ClassFile.FieldType.int) [((0 : Nat), (9 : Nat), (12 : Nat), (21 : Nat)), ((0 : Nat), (9 : Nat), (15 : Nat), (15 : Nat))]) ∈ tb := tb_t3 31 rfl rfl
theorem w_512 : (Jvm.Cond.methodLink "RetentionVaultLaw" (47 : Nat) ({ cls := "RetentionVault", name := "read", desc := "(I)I" } : Jvm.MethodName)) ∈ tb := tb_t3 32 rfl rfl
theorem w_513 : (Jvm.Cond.instanceMethod ({ cls := "RetentionVault", name := "read", desc := "(I)I" } : Jvm.MethodName)) ∈ tb := tb_t3 33 rfl rfl
theorem w_514 : (Jvm.Cond.selects "RetentionVault" ({ cls := "RetentionVault", name := "read", desc := "(I)I" } : Jvm.MethodName) ({ cls := "RetentionVault", name := "read", desc := "(I)I" } : Jvm.MethodName)) ∈ tb := tb_t3 34 rfl rfl
theorem w_515 : (Jvm.Cond.code ({ cls := "RetentionVault", name := "read", desc := "(I)I" } : Jvm.MethodName) prog_1_method_10_code (3 : Nat) (Option.some Jvm.ClassFile.FieldType.int)) ∈ tb := tb_t3 35 rfl rfl
theorem w_516 : (Jvm.Cond.methodLink "RetentionVault" (140 : Nat) ({ cls := "RetentionVault$Version", name := "isFetchedFor", desc := "(I)Z" } : Jvm.MethodName)) ∈ tb := tb_t3 36 rfl rfl
theorem w_517 : (Jvm.Cond.instanceMethod ({ cls := "RetentionVault$Version", name := "isFetchedFor", desc := "(I)Z" } : Jvm.MethodName)) ∈ tb := tb_t3 37 rfl rfl
theorem w_518 : (Jvm.Cond.selects "RetentionVault$Version" ({ cls := "RetentionVault$Version", name := "isFetchedFor", desc := "(I)Z" } : Jvm.MethodName) ({ cls := "RetentionVault$Version", name := "isFetchedFor", desc := "(I)Z" } : Jvm.MethodName)) ∈ tb := tb_t3 38 rfl rfl
theorem w_519 : (Jvm.Cond.code ({ cls := "RetentionVault$Version", name := "isFetchedFor", desc := "(I)Z" } : Jvm.MethodName) prog_4_method_10_code (2 : Nat) (Option.some Jvm.ClassFile.FieldType.boolean)) ∈ tb := tb_t3 39 rfl rfl
theorem w_521 : (Jvm.Cond.methodLink "RetentionVaultLaw" (111 : Nat) ({ cls := "RetentionVaultLaw", name := "tick", desc := "(LRetentionVault;I[J)I" } : Jvm.MethodName)) ∈ tb := tb_t3 41 rfl rfl
theorem w_522 : (Jvm.Cond.static ({ cls := "RetentionVaultLaw", name := "tick", desc := "(LRetentionVault;I[J)I" } : Jvm.MethodName)) ∈ tb := tb_t3 42 rfl rfl
theorem w_523 : (Jvm.Cond.codeWith ({ cls := "RetentionVaultLaw", name := "tick", desc := "(LRetentionVault;I[J)I" } : Jvm.MethodName) method_12_code (4 : Nat) (Option.some Jvm.ClassFile.FieldType.int) [((0 : Nat), (9 : Nat), (12 : Nat), (13 : Nat))]) ∈ tb := tb_t3 43 rfl rfl
theorem w_524 : (Jvm.Cond.methodLink "RetentionVaultLaw" (50 : Nat) ({ cls := "RetentionVault", name := "tick", desc := "(I)I" } : Jvm.MethodName)) ∈ tb := tb_t3 44 rfl rfl
theorem w_525 : (Jvm.Cond.instanceMethod ({ cls := "RetentionVault", name := "tick", desc := "(I)I" } : Jvm.MethodName)) ∈ tb := tb_t3 45 rfl rfl
theorem w_526 : (Jvm.Cond.selects "RetentionVault" ({ cls := "RetentionVault", name := "tick", desc := "(I)I" } : Jvm.MethodName) ({ cls := "RetentionVault", name := "tick", desc := "(I)I" } : Jvm.MethodName)) ∈ tb := tb_t3 46 rfl rfl
theorem w_527 : (Jvm.Cond.code ({ cls := "RetentionVault", name := "tick", desc := "(I)I" } : Jvm.MethodName) prog_1_method_11_code (4 : Nat) (Option.some Jvm.ClassFile.FieldType.int)) ∈ tb := tb_t3 47 rfl rfl
theorem w_528 : (Jvm.Cond.methodLink "RetentionVault" (151 : Nat) ({ cls := "RetentionVault", name := "goThroughVersions", desc := "()V" } : Jvm.MethodName)) ∈ tb := tb_t3 48 rfl rfl
theorem w_530 : (Jvm.Cond.instanceMethod ({ cls := "RetentionVault", name := "goThroughVersions", desc := "()V" } : Jvm.MethodName)) ∈ tb := tb_t3 50 rfl rfl
theorem w_531 : (Jvm.Cond.code ({ cls := "RetentionVault", name := "goThroughVersions", desc := "()V" } : Jvm.MethodName) prog_1_method_27_code (4 : Nat) (Option.none : Option Jvm.ClassFile.FieldType)) ∈ tb := tb_t3 51 rfl rfl
theorem w_532 : (Jvm.Cond.methodLink "RetentionVault" (233 : Nat) ({ cls := "RetentionVault", name := "goThroughRules", desc := "(LRetentionVault$Version;)V" } : Jvm.MethodName)) ∈ tb := tb_t3 52 rfl rfl
theorem w_534 : (Jvm.Cond.instanceMethod ({ cls := "RetentionVault", name := "goThroughRules", desc := "(LRetentionVault$Version;)V" } : Jvm.MethodName)) ∈ tb := tb_t3 54 rfl rfl
theorem w_535 : (Jvm.Cond.code ({ cls := "RetentionVault", name := "goThroughRules", desc := "(LRetentionVault$Version;)V" } : Jvm.MethodName) prog_1_method_28_code (4 : Nat) (Option.none : Option Jvm.ClassFile.FieldType)) ∈ tb := tb_t3 55 rfl rfl
theorem w_536 : (Jvm.Cond.methodLink "RetentionVault" (236 : Nat) ({ cls := "RetentionVault$Rule", name := "isDue", desc := "(LRetentionVault$Version;I)Z" } : Jvm.MethodName)) ∈ tb := tb_t3 56 rfl rfl
theorem w_537 : (Jvm.Cond.instanceMethod ({ cls := "RetentionVault$Rule", name := "isDue", desc := "(LRetentionVault$Version;I)Z" } : Jvm.MethodName)) ∈ tb := tb_t3 57 rfl rfl
theorem w_538 : (Jvm.Cond.selects "RetentionVault$Rule" ({ cls := "RetentionVault$Rule", name := "isDue", desc := "(LRetentionVault$Version;I)Z" } : Jvm.MethodName) ({ cls := "RetentionVault$Rule", name := "isDue", desc := "(LRetentionVault$Version;I)Z" } : Jvm.MethodName)) ∈ tb := tb_t3 58 rfl rfl
theorem w_539 : (Jvm.Cond.code ({ cls := "RetentionVault$Rule", name := "isDue", desc := "(LRetentionVault$Version;I)Z" } : Jvm.MethodName) prog_3_method_4_code (3 : Nat) (Option.some Jvm.ClassFile.FieldType.boolean)) ∈ tb := tb_t3 59 rfl rfl
theorem w_540 : (Jvm.Cond.methodLink "RetentionVault$Rule" (25 : Nat) ({ cls := "RetentionVault$Rule", name := "isEmpty", desc := "()Z" } : Jvm.MethodName)) ∈ tb := tb_t3 60 rfl rfl
theorem w_541 : (Jvm.Cond.methodLink "RetentionVault$Rule" (35 : Nat) ({ cls := "RetentionVault$Version", name := "since", desc := "()I" } : Jvm.MethodName)) ∈ tb := tb_t3 61 rfl rfl
theorem w_542 : (Jvm.Cond.instanceMethod ({ cls := "RetentionVault$Version", name := "since", desc := "()I" } : Jvm.MethodName)) ∈ tb := tb_t3 62 rfl rfl
theorem w_543 : (Jvm.Cond.selects "RetentionVault$Version" ({ cls := "RetentionVault$Version", name := "since", desc := "()I" } : Jvm.MethodName) ({ cls := "RetentionVault$Version", name := "since", desc := "()I" } : Jvm.MethodName)) ∈ tb := tb_t3 63 rfl rfl
theorem w_544 : (Jvm.Cond.code ({ cls := "RetentionVault$Version", name := "since", desc := "()I" } : Jvm.MethodName) prog_4_method_5_code (1 : Nat) (Option.some Jvm.ClassFile.FieldType.int)) ∈ tb := tb_t3 64 rfl rfl
theorem w_545 : (Jvm.Cond.methodLink "RetentionVault" (240 : Nat) ({ cls := "RetentionVault", name := "cool", desc := "(LRetentionVault$Version;I)V" } : Jvm.MethodName)) ∈ tb := tb_t3 65 rfl rfl
theorem w_547 : (Jvm.Cond.instanceMethod ({ cls := "RetentionVault", name := "cool", desc := "(LRetentionVault$Version;I)V" } : Jvm.MethodName)) ∈ tb := tb_t3 67 rfl rfl
theorem w_548 : (Jvm.Cond.code ({ cls := "RetentionVault", name := "cool", desc := "(LRetentionVault$Version;I)V" } : Jvm.MethodName) prog_1_method_29_code (3 : Nat) (Option.none : Option Jvm.ClassFile.FieldType)) ∈ tb := tb_t3 68 rfl rfl
theorem w_549 : (Jvm.Cond.methodLink "RetentionVault" (244 : Nat) ({ cls := "RetentionVault", name := "expire", desc := "(LRetentionVault$Version;)Z" } : Jvm.MethodName)) ∈ tb := tb_t3 69 rfl rfl
theorem w_551 : (Jvm.Cond.instanceMethod ({ cls := "RetentionVault", name := "expire", desc := "(LRetentionVault$Version;)Z" } : Jvm.MethodName)) ∈ tb := tb_t3 71 rfl rfl
theorem w_552 : (Jvm.Cond.code ({ cls := "RetentionVault", name := "expire", desc := "(LRetentionVault$Version;)Z" } : Jvm.MethodName) prog_1_method_30_code (2 : Nat) (Option.some Jvm.ClassFile.FieldType.boolean)) ∈ tb := tb_t3 72 rfl rfl
theorem w_553 : (Jvm.Cond.methodLink "RetentionVault" (164 : Nat) ({ cls := "RetentionVault$Version", name := "isGuarded", desc := "(I)Z" } : Jvm.MethodName)) ∈ tb := tb_t3 73 rfl rfl
theorem w_554 : (Jvm.Cond.instanceMethod ({ cls := "RetentionVault$Version", name := "isGuarded", desc := "(I)Z" } : Jvm.MethodName)) ∈ tb := tb_t3 74 rfl rfl
theorem w_555 : (Jvm.Cond.selects "RetentionVault$Version" ({ cls := "RetentionVault$Version", name := "isGuarded", desc := "(I)Z" } : Jvm.MethodName) ({ cls := "RetentionVault$Version", name := "isGuarded", desc := "(I)Z" } : Jvm.MethodName)) ∈ tb := tb_t3 75 rfl rfl
theorem w_556 : (Jvm.Cond.code ({ cls := "RetentionVault$Version", name := "isGuarded", desc := "(I)Z" } : Jvm.MethodName) prog_4_method_9_code (2 : Nat) (Option.some Jvm.ClassFile.FieldType.boolean)) ∈ tb := tb_t3 76 rfl rfl
theorem w_557 : (Jvm.Cond.methodLink "RetentionVault$Version" (50 : Nat) ({ cls := "RetentionVault$Version", name := "isHeld", desc := "()Z" } : Jvm.MethodName)) ∈ tb := tb_t3 77 rfl rfl
theorem w_558 : (Jvm.Cond.methodLink "RetentionVault" (154 : Nat) ({ cls := "RetentionVault", name := "takeLoneMarkersAway", desc := "()V" } : Jvm.MethodName)) ∈ tb := tb_t3 78 rfl rfl
theorem w_560 : (Jvm.Cond.instanceMethod ({ cls := "RetentionVault", name := "takeLoneMarkersAway", desc := "()V" } : Jvm.MethodName)) ∈ tb := tb_t3 80 rfl rfl
theorem w_561 : (Jvm.Cond.code ({ cls := "RetentionVault", name := "takeLoneMarkersAway", desc := "()V" } : Jvm.MethodName) prog_1_method_31_code (4 : Nat) (Option.none : Option Jvm.ClassFile.FieldType)) ∈ tb := tb_t3 81 rfl rfl
theorem w_562 : (Jvm.Cond.methodLink "RetentionVault" (248 : Nat) ({ cls := "RetentionVault", name := "isAlone", desc := "(LRetentionVault$Version;)Z" } : Jvm.MethodName)) ∈ tb := tb_t3 82 rfl rfl
theorem w_564 : (Jvm.Cond.instanceMethod ({ cls := "RetentionVault", name := "isAlone", desc := "(LRetentionVault$Version;)Z" } : Jvm.MethodName)) ∈ tb := tb_t3 84 rfl rfl
theorem w_565 : (Jvm.Cond.code ({ cls := "RetentionVault", name := "isAlone", desc := "(LRetentionVault$Version;)Z" } : Jvm.MethodName) prog_1_method_32_code (4 : Nat) (Option.some Jvm.ClassFile.FieldType.boolean)) ∈ tb := tb_t3 85 rfl rfl
theorem w_566 : (Jvm.Cond.methodLink "RetentionVaultLaw" (114 : Nat) ({ cls := "RetentionVaultLaw", name := "current", desc := "(LRetentionVault;I[J)I" } : Jvm.MethodName)) ∈ tb := tb_t3 86 rfl rfl
theorem w_567 : (Jvm.Cond.static ({ cls := "RetentionVaultLaw", name := "current", desc := "(LRetentionVault;I[J)I" } : Jvm.MethodName)) ∈ tb := tb_t3 87 rfl rfl
theorem w_568 : (Jvm.Cond.codeWith ({ cls := "RetentionVaultLaw", name := "current", desc := "(LRetentionVault;I[J)I" } : Jvm.MethodName) method_13_code (4 : Nat) (Option.some Jvm.ClassFile.FieldType.int) [((0 : Nat), (9 : Nat), (12 : Nat), (21 : Nat))]) ∈ tb := tb_t3 88 rfl rfl
theorem w_569 : (Jvm.Cond.methodLink "RetentionVaultLaw" (53 : Nat) ({ cls := "RetentionVault", name := "current", desc := "(I)I" } : Jvm.MethodName)) ∈ tb := tb_t3 89 rfl rfl
theorem w_570 : (Jvm.Cond.instanceMethod ({ cls := "RetentionVault", name := "current", desc := "(I)I" } : Jvm.MethodName)) ∈ tb := tb_t3 90 rfl rfl
theorem w_571 : (Jvm.Cond.selects "RetentionVault" ({ cls := "RetentionVault", name := "current", desc := "(I)I" } : Jvm.MethodName) ({ cls := "RetentionVault", name := "current", desc := "(I)I" } : Jvm.MethodName)) ∈ tb := tb_t3 91 rfl rfl
theorem w_572 : (Jvm.Cond.code ({ cls := "RetentionVault", name := "current", desc := "(I)I" } : Jvm.MethodName) prog_1_method_12_code (2 : Nat) (Option.some Jvm.ClassFile.FieldType.int)) ∈ tb := tb_t3 92 rfl rfl
theorem w_573 : (Jvm.Cond.methodLink "RetentionVaultLaw" (117 : Nat) ({ cls := "RetentionVaultLaw", name := "about", desc := "(LRetentionVault;II[J)I" } : Jvm.MethodName)) ∈ tb := tb_t3 93 rfl rfl
theorem w_574 : (Jvm.Cond.static ({ cls := "RetentionVaultLaw", name := "about", desc := "(LRetentionVault;II[J)I" } : Jvm.MethodName)) ∈ tb := tb_t3 94 rfl rfl
theorem w_575 : (Jvm.Cond.codeWith ({ cls := "RetentionVaultLaw", name := "about", desc := "(LRetentionVault;II[J)I" } : Jvm.MethodName) method_14_code (5 : Nat) (Option.some Jvm.ClassFile.FieldType.int) [((0 : Nat), (10 : Nat), (13 : Nat), (21 : Nat)), ((0 : Nat), (10 : Nat), (17 : Nat), (13 : Nat))]) ∈ tb := tb_t3 95 rfl rfl
theorem w_576 : (Jvm.Cond.methodLink "RetentionVaultLaw" (56 : Nat) ({ cls := "RetentionVault", name := "about", desc := "(II)I" } : Jvm.MethodName)) ∈ tb := tb_t3 96 rfl rfl
theorem w_577 : (Jvm.Cond.instanceMethod ({ cls := "RetentionVault", name := "about", desc := "(II)I" } : Jvm.MethodName)) ∈ tb := tb_t3 97 rfl rfl
theorem w_578 : (Jvm.Cond.selects "RetentionVault" ({ cls := "RetentionVault", name := "about", desc := "(II)I" } : Jvm.MethodName) ({ cls := "RetentionVault", name := "about", desc := "(II)I" } : Jvm.MethodName)) ∈ tb := tb_t3 98 rfl rfl
theorem w_579 : (Jvm.Cond.code ({ cls := "RetentionVault", name := "about", desc := "(II)I" } : Jvm.MethodName) prog_1_method_13_code (4 : Nat) (Option.some Jvm.ClassFile.FieldType.int)) ∈ tb := tb_t3 99 rfl rfl
theorem w_580 : (Jvm.Cond.methodLink "RetentionVault" (157 : Nat) ({ cls := "RetentionVault$Version", name := "since", desc := "()I" } : Jvm.MethodName)) ∈ tb := tb_t3 100 rfl rfl
theorem w_582 : (Jvm.Cond.methodLink "RetentionVaultLaw" (120 : Nat) ({ cls := "RetentionVaultLaw", name := "entry", desc := "(LRetentionVault;II[J)I" } : Jvm.MethodName)) ∈ tb := tb_t3 102 rfl rfl
theorem w_583 : (Jvm.Cond.static ({ cls := "RetentionVaultLaw", name := "entry", desc := "(LRetentionVault;II[J)I" } : Jvm.MethodName)) ∈ tb := tb_t3 103 rfl rfl
theorem w_584 : (Jvm.Cond.codeWith ({ cls := "RetentionVaultLaw", name := "entry", desc := "(LRetentionVault;II[J)I" } : Jvm.MethodName) method_15_code (5 : Nat) (Option.some Jvm.ClassFile.FieldType.int) [((0 : Nat), (10 : Nat), (13 : Nat), (13 : Nat)), ((0 : Nat), (10 : Nat), (17 : Nat), (62 : Nat))]) ∈ tb := tb_t3 104 rfl rfl
theorem w_585 : (Jvm.Cond.classLink "RetentionVaultLaw" (62 : Nat) "java/lang/IndexOutOfBoundsException") ∈ tb := tb_t3 105 rfl rfl
theorem w_586 : (Jvm.Cond.methodLink "RetentionVaultLaw" (59 : Nat) ({ cls := "RetentionVault", name := "entry", desc := "(II)I" } : Jvm.MethodName)) ∈ tb := tb_t3 106 rfl rfl
theorem w_587 : (Jvm.Cond.instanceMethod ({ cls := "RetentionVault", name := "entry", desc := "(II)I" } : Jvm.MethodName)) ∈ tb := tb_t3 107 rfl rfl
theorem w_588 : (Jvm.Cond.selects "RetentionVault" ({ cls := "RetentionVault", name := "entry", desc := "(II)I" } : Jvm.MethodName) ({ cls := "RetentionVault", name := "entry", desc := "(II)I" } : Jvm.MethodName)) ∈ tb := tb_t3 108 rfl rfl
theorem w_589 : (Jvm.Cond.code ({ cls := "RetentionVault", name := "entry", desc := "(II)I" } : Jvm.MethodName) prog_1_method_14_code (3 : Nat) (Option.some Jvm.ClassFile.FieldType.int)) ∈ tb := tb_t3 109 rfl rfl
theorem w_590 : (Jvm.Cond.methodLink "RetentionVault" (172 : Nat) ({ cls := "RetentionVault$Log", name := "keeps", desc := "(I)Z" } : Jvm.MethodName)) ∈ tb := tb_t3 110 rfl rfl
theorem w_591 : (Jvm.Cond.instanceMethod ({ cls := "RetentionVault$Log", name := "keeps", desc := "(I)Z" } : Jvm.MethodName)) ∈ tb := tb_t3 111 rfl rfl
theorem w_592 : (Jvm.Cond.selects "RetentionVault$Log" ({ cls := "RetentionVault$Log", name := "keeps", desc := "(I)Z" } : Jvm.MethodName) ({ cls := "RetentionVault$Log", name := "keeps", desc := "(I)Z" } : Jvm.MethodName)) ∈ tb := tb_t3 112 rfl rfl
theorem w_593 : (Jvm.Cond.code ({ cls := "RetentionVault$Log", name := "keeps", desc := "(I)Z" } : Jvm.MethodName) prog_2_method_3_code (2 : Nat) (Option.some Jvm.ClassFile.FieldType.boolean)) ∈ tb := tb_t3 113 rfl rfl
theorem w_594 : (Jvm.Cond.classLink "RetentionVault" (175 : Nat) "java/lang/IndexOutOfBoundsException") ∈ tb := tb_t3 114 rfl rfl
theorem w_595 : (Jvm.Cond.instantiable "java/lang/IndexOutOfBoundsException" (6 : Nat)) ∈ tb := tb_t3 115 rfl rfl
theorem w_597 : (Jvm.Cond.selects "java/lang/IndexOutOfBoundsException" ({ cls := "java/lang/Throwable", name := "fillInStackTrace", desc := "(I)Ljava/lang/Throwable;" } : Jvm.MethodName) ({ cls := "java/lang/Throwable", name := "fillInStackTrace", desc := "(I)Ljava/lang/Throwable;" } : Jvm.MethodName)) ∈ tb := tb_t3 117 rfl rfl
theorem w_598 : (Jvm.Cond.lays "java/lang/IndexOutOfBoundsException" "java/lang/Throwable" "cause" "Ljava/lang/Throwable;") ∈ tb := tb_t3 118 rfl rfl
theorem w_599 : (Jvm.Cond.lays "java/lang/IndexOutOfBoundsException" "java/lang/Throwable" "stackTrace" "[Ljava/lang/StackTraceElement;") ∈ tb := tb_t3 119 rfl rfl
theorem w_600 : (Jvm.Cond.lays "java/lang/IndexOutOfBoundsException" "java/lang/Throwable" "suppressedExceptions" "Ljava/util/List;") ∈ tb := tb_t3 120 rfl rfl
theorem w_601 : (Jvm.Cond.lays "java/lang/IndexOutOfBoundsException" "java/lang/Throwable" "detailMessage" "Ljava/lang/String;") ∈ tb := tb_t3 121 rfl rfl
theorem w_602 : (Jvm.Cond.lays "java/lang/IndexOutOfBoundsException" "java/lang/Throwable" "backtrace" "Ljava/lang/Object;") ∈ tb := tb_t3 122 rfl rfl
theorem w_604 : (Jvm.Cond.methodLink "RetentionVault" (179 : Nat) ({ cls := "java/lang/IndexOutOfBoundsException", name := "<init>", desc := "(Ljava/lang/String;)V" } : Jvm.MethodName)) ∈ tb := tb_t3 124 rfl rfl
theorem w_605 : (Jvm.Cond.instanceMethod ({ cls := "java/lang/IndexOutOfBoundsException", name := "<init>", desc := "(Ljava/lang/String;)V" } : Jvm.MethodName)) ∈ tb := tb_t3 125 rfl rfl
theorem w_606 : (Jvm.Cond.code ({ cls := "java/lang/IndexOutOfBoundsException", name := "<init>", desc := "(Ljava/lang/String;)V" } : Jvm.MethodName) prog_12_method_2_code (2 : Nat) (Option.none : Option Jvm.ClassFile.FieldType)) ∈ tb := tb_t3 126 rfl rfl
theorem w_607 : (Jvm.Cond.methodLink "java/lang/IndexOutOfBoundsException" (7 : Nat) ({ cls := "java/lang/RuntimeException", name := "<init>", desc := "(Ljava/lang/String;)V" } : Jvm.MethodName)) ∈ tb := tb_t3 127 rfl rfl
theorem w_608 : (Jvm.Cond.lays "java/lang/IndexOutOfBoundsException" "java/lang/Throwable" "depth" "I") ∈ tb := tb_t3 128 rfl rfl
theorem w_609 : (Jvm.Cond.superclass "java/lang/IndexOutOfBoundsException" "java/lang/RuntimeException") ∈ tb := tb_t3 129 rfl rfl
theorem w_610 : (Jvm.Cond.methodLink "RetentionVault" (180 : Nat) ({ cls := "RetentionVault$Log", name := "numberOf", desc := "(II)I" } : Jvm.MethodName)) ∈ tb := tb_t3 130 rfl rfl
theorem w_611 : (Jvm.Cond.instanceMethod ({ cls := "RetentionVault$Log", name := "numberOf", desc := "(II)I" } : Jvm.MethodName)) ∈ tb := tb_t3 131 rfl rfl
theorem w_612 : (Jvm.Cond.selects "RetentionVault$Log" ({ cls := "RetentionVault$Log", name := "numberOf", desc := "(II)I" } : Jvm.MethodName) ({ cls := "RetentionVault$Log", name := "numberOf", desc := "(II)I" } : Jvm.MethodName)) ∈ tb := tb_t3 132 rfl rfl
theorem w_613 : (Jvm.Cond.code ({ cls := "RetentionVault$Log", name := "numberOf", desc := "(II)I" } : Jvm.MethodName) prog_2_method_4_code (3 : Nat) (Option.some Jvm.ClassFile.FieldType.int)) ∈ tb := tb_t3 133 rfl rfl
theorem w_614 : (Jvm.Cond.methodLink "RetentionVaultLaw" (128 : Nat) ({ cls := "RetentionVaultLaw", name := "figure", desc := "(LRetentionVault;I[J)I" } : Jvm.MethodName)) ∈ tb := tb_t3 134 rfl rfl
theorem w_615 : (Jvm.Cond.static ({ cls := "RetentionVaultLaw", name := "figure", desc := "(LRetentionVault;I[J)I" } : Jvm.MethodName)) ∈ tb := tb_t3 135 rfl rfl
theorem w_616 : (Jvm.Cond.codeWith ({ cls := "RetentionVaultLaw", name := "figure", desc := "(LRetentionVault;I[J)I" } : Jvm.MethodName) method_16_code (4 : Nat) (Option.some Jvm.ClassFile.FieldType.int) [((0 : Nat), (9 : Nat), (12 : Nat), (13 : Nat))]) ∈ tb := tb_t3 136 rfl rfl
theorem w_617 : (Jvm.Cond.methodLink "RetentionVaultLaw" (64 : Nat) ({ cls := "RetentionVault", name := "figure", desc := "(I)I" } : Jvm.MethodName)) ∈ tb := tb_t3 137 rfl rfl
theorem w_618 : (Jvm.Cond.instanceMethod ({ cls := "RetentionVault", name := "figure", desc := "(I)I" } : Jvm.MethodName)) ∈ tb := tb_t3 138 rfl rfl
theorem w_619 : (Jvm.Cond.selects "RetentionVault" ({ cls := "RetentionVault", name := "figure", desc := "(I)I" } : Jvm.MethodName) ({ cls := "RetentionVault", name := "figure", desc := "(I)I" } : Jvm.MethodName)) ∈ tb := tb_t3 139 rfl rfl
theorem w_620 : (Jvm.Cond.code ({ cls := "RetentionVault", name := "figure", desc := "(I)I" } : Jvm.MethodName) prog_1_method_16_code (2 : Nat) (Option.some Jvm.ClassFile.FieldType.int)) ∈ tb := tb_t3 140 rfl rfl
theorem w_621 : (Jvm.Cond.methodLink "RetentionVault" (190 : Nat) ({ cls := "RetentionVault", name := "sumOfSizes", desc := "()I" } : Jvm.MethodName)) ∈ tb := tb_t3 141 rfl rfl
theorem w_623 : (Jvm.Cond.instanceMethod ({ cls := "RetentionVault", name := "sumOfSizes", desc := "()I" } : Jvm.MethodName)) ∈ tb := tb_t3 143 rfl rfl
theorem w_624 : (Jvm.Cond.code ({ cls := "RetentionVault", name := "sumOfSizes", desc := "()I" } : Jvm.MethodName) prog_1_method_33_code (3 : Nat) (Option.some Jvm.ClassFile.FieldType.int)) ∈ tb := tb_t3 144 rfl rfl
theorem w_625 : (Jvm.Cond.methodLink "RetentionVault" (193 : Nat) ({ cls := "RetentionVault", name := "countOfGuarded", desc := "()I" } : Jvm.MethodName)) ∈ tb := tb_t3 145 rfl rfl
theorem w_627 : (Jvm.Cond.instanceMethod ({ cls := "RetentionVault", name := "countOfGuarded", desc := "()I" } : Jvm.MethodName)) ∈ tb := tb_t3 147 rfl rfl
theorem w_628 : (Jvm.Cond.code ({ cls := "RetentionVault", name := "countOfGuarded", desc := "()I" } : Jvm.MethodName) prog_1_method_34_code (3 : Nat) (Option.some Jvm.ClassFile.FieldType.int)) ∈ tb := tb_t3 148 rfl rfl
theorem w_630 : (Jvm.Cond.classLink "RetentionVaultLaw" (68 : Nat) "RetentionVaultModel") ∈ tb := tb_t3 150 rfl rfl
theorem w_631 : (Jvm.Cond.instantiable "RetentionVaultModel" (23 : Nat)) ∈ tb := tb_t3 151 rfl rfl
theorem w_632 : (Jvm.Cond.methodLink "RetentionVaultLaw" (70 : Nat) ({ cls := "RetentionVaultModel", name := "<init>", desc := "()V" } : Jvm.MethodName)) ∈ tb := tb_t3 152 rfl rfl
theorem w_633 : (Jvm.Cond.instanceMethod ({ cls := "RetentionVaultModel", name := "<init>", desc := "()V" } : Jvm.MethodName)) ∈ tb := tb_t3 153 rfl rfl
theorem w_634 : (Jvm.Cond.code ({ cls := "RetentionVaultModel", name := "<init>", desc := "()V" } : Jvm.MethodName) prog_6_method_1_code (1 : Nat) (Option.none : Option Jvm.ClassFile.FieldType)) ∈ tb := tb_t3 154 rfl rfl
theorem w_635 : (Jvm.Cond.methodLink "RetentionVaultModel" (1 : Nat) ({ cls := "java/lang/Object", name := "<init>", desc := "()V" } : Jvm.MethodName)) ∈ tb := tb_t3 155 rfl rfl
theorem w_636 : (Jvm.Cond.constantLong "RetentionVaultModel" (62 : Nat) (7 : Int64)) ∈ tb := tb_t3 156 rfl rfl
theorem w_637 : (Jvm.Cond.fieldLink "RetentionVaultModel" (68 : Nat) "RetentionVaultModel" "code" "I") ∈ tb := tb_t3 157 rfl rfl
theorem w_638 : (Jvm.Cond.fieldLink "RetentionVaultModel" (75 : Nat) "RetentionVaultModel" "day" "I") ∈ tb := tb_t3 158 rfl rfl
theorem w_639 : (Jvm.Cond.fieldLink "RetentionVaultModel" (97 : Nat) "RetentionVaultModel" "made" "I") ∈ tb := tb_t3 159 rfl rfl
theorem w_640 : (Jvm.Cond.fieldLink "RetentionVaultModel" (80 : Nat) "RetentionVaultModel" "count" "I") ∈ tb := tb_t3 160 rfl rfl
theorem w_641 : (Jvm.Cond.fieldLink "RetentionVaultModel" (7 : Nat) "RetentionVaultModel" "number" "[I") ∈ tb := tb_t3 161 rfl rfl
theorem w_642 : (Jvm.Cond.fieldLink "RetentionVaultModel" (13 : Nat) "RetentionVaultModel" "key" "[I") ∈ tb := tb_t3 162 rfl rfl
theorem w_643 : (Jvm.Cond.fieldLink "RetentionVaultModel" (16 : Nat) "RetentionVaultModel" "size" "[I") ∈ tb := tb_t3 163 rfl rfl
theorem w_644 : (Jvm.Cond.fieldLink "RetentionVaultModel" (19 : Nat) "RetentionVaultModel" "tag" "[I") ∈ tb := tb_t3 164 rfl rfl
theorem w_645 : (Jvm.Cond.fieldLink "RetentionVaultModel" (22 : Nat) "RetentionVaultModel" "putOn" "[I") ∈ tb := tb_t3 165 rfl rfl
theorem w_646 : (Jvm.Cond.fieldLink "RetentionVaultModel" (25 : Nat) "RetentionVaultModel" "ceased" "[I") ∈ tb := tb_t3 166 rfl rfl
theorem w_647 : (Jvm.Cond.fieldLink "RetentionVaultModel" (28 : Nat) "RetentionVaultModel" "tier" "[I") ∈ tb := tb_t3 167 rfl rfl
theorem w_648 : (Jvm.Cond.fieldLink "RetentionVaultModel" (31 : Nat) "RetentionVaultModel" "until" "[I") ∈ tb := tb_t3 168 rfl rfl
theorem w_649 : (Jvm.Cond.fieldLink "RetentionVaultModel" (34 : Nat) "RetentionVaultModel" "strict" "[Z") ∈ tb := tb_t3 169 rfl rfl
theorem w_650 : (Jvm.Cond.fieldLink "RetentionVaultModel" (38 : Nat) "RetentionVaultModel" "holds" "[I") ∈ tb := tb_t3 170 rfl rfl
theorem w_651 : (Jvm.Cond.fieldLink "RetentionVaultModel" (41 : Nat) "RetentionVaultModel" "from" "[I") ∈ tb := tb_t3 171 rfl rfl
theorem w_652 : (Jvm.Cond.fieldLink "RetentionVaultModel" (44 : Nat) "RetentionVaultModel" "before" "[I") ∈ tb := tb_t3 172 rfl rfl
theorem w_653 : (Jvm.Cond.fieldLink "RetentionVaultModel" (47 : Nat) "RetentionVaultModel" "action" "[I") ∈ tb := tb_t3 173 rfl rfl
theorem w_654 : (Jvm.Cond.fieldLink "RetentionVaultModel" (50 : Nat) "RetentionVaultModel" "ruleTag" "[I") ∈ tb := tb_t3 174 rfl rfl
theorem w_655 : (Jvm.Cond.fieldLink "RetentionVaultModel" (53 : Nat) "RetentionVaultModel" "ruleCurrent" "[Z") ∈ tb := tb_t3 175 rfl rfl
theorem w_656 : (Jvm.Cond.fieldLink "RetentionVaultModel" (56 : Nat) "RetentionVaultModel" "ruleDays" "[I") ∈ tb := tb_t3 176 rfl rfl
theorem w_657 : (Jvm.Cond.fieldLink "RetentionVaultModel" (72 : Nat) "RetentionVaultModel" "entries" "I") ∈ tb := tb_t3 177 rfl rfl
theorem w_658 : (Jvm.Cond.fieldLink "RetentionVaultModel" (59 : Nat) "RetentionVaultModel" "log" "[I") ∈ tb := tb_t3 178 rfl rfl
theorem w_659 : (Jvm.Cond.fieldLink "RetentionVaultModel" (64 : Nat) "RetentionVaultModel" "link" "J") ∈ tb := tb_t3 179 rfl rfl
theorem w_660 : (Jvm.Cond.lays "RetentionVaultModel" "RetentionVaultModel" "code" "I") ∈ tb := tb_t3 180 rfl rfl
theorem w_661 : (Jvm.Cond.soleField "RetentionVaultModel" "code") ∈ tb := tb_t3 181 rfl rfl
theorem w_662 : (Jvm.Cond.lays "RetentionVaultModel" "RetentionVaultModel" "day" "I") ∈ tb := tb_t3 182 rfl rfl
theorem w_663 : (Jvm.Cond.soleField "RetentionVaultModel" "day") ∈ tb := tb_t3 183 rfl rfl
theorem w_664 : (Jvm.Cond.lays "RetentionVaultModel" "RetentionVaultModel" "made" "I") ∈ tb := tb_t3 184 rfl rfl
theorem w_665 : (Jvm.Cond.soleField "RetentionVaultModel" "made") ∈ tb := tb_t3 185 rfl rfl
theorem w_666 : (Jvm.Cond.lays "RetentionVaultModel" "RetentionVaultModel" "count" "I") ∈ tb := tb_t3 186 rfl rfl
theorem w_667 : (Jvm.Cond.soleField "RetentionVaultModel" "count") ∈ tb := tb_t3 187 rfl rfl
theorem w_668 : (Jvm.Cond.laysFinal "RetentionVaultModel" "RetentionVaultModel" "number" "[I") ∈ tb := tb_t3 188 rfl rfl
theorem w_669 : (Jvm.Cond.soleField "RetentionVaultModel" "number") ∈ tb := tb_t3 189 rfl rfl
theorem w_670 : (Jvm.Cond.laysFinal "RetentionVaultModel" "RetentionVaultModel" "key" "[I") ∈ tb := tb_t3 190 rfl rfl
theorem w_671 : (Jvm.Cond.soleField "RetentionVaultModel" "key") ∈ tb := tb_t3 191 rfl rfl
theorem w_672 : (Jvm.Cond.laysFinal "RetentionVaultModel" "RetentionVaultModel" "size" "[I") ∈ tb := tb_t3 192 rfl rfl
theorem w_673 : (Jvm.Cond.soleField "RetentionVaultModel" "size") ∈ tb := tb_t3 193 rfl rfl
theorem w_674 : (Jvm.Cond.laysFinal "RetentionVaultModel" "RetentionVaultModel" "tag" "[I") ∈ tb := tb_t3 194 rfl rfl
theorem w_675 : (Jvm.Cond.soleField "RetentionVaultModel" "tag") ∈ tb := tb_t3 195 rfl rfl
theorem w_676 : (Jvm.Cond.laysFinal "RetentionVaultModel" "RetentionVaultModel" "putOn" "[I") ∈ tb := tb_t3 196 rfl rfl
theorem w_677 : (Jvm.Cond.soleField "RetentionVaultModel" "putOn") ∈ tb := tb_t3 197 rfl rfl
theorem w_678 : (Jvm.Cond.laysFinal "RetentionVaultModel" "RetentionVaultModel" "ceased" "[I") ∈ tb := tb_t3 198 rfl rfl
theorem w_679 : (Jvm.Cond.soleField "RetentionVaultModel" "ceased") ∈ tb := tb_t3 199 rfl rfl
theorem w_680 : (Jvm.Cond.laysFinal "RetentionVaultModel" "RetentionVaultModel" "tier" "[I") ∈ tb := tb_t3 200 rfl rfl
theorem w_681 : (Jvm.Cond.soleField "RetentionVaultModel" "tier") ∈ tb := tb_t3 201 rfl rfl
theorem w_682 : (Jvm.Cond.laysFinal "RetentionVaultModel" "RetentionVaultModel" "until" "[I") ∈ tb := tb_t3 202 rfl rfl
theorem w_683 : (Jvm.Cond.soleField "RetentionVaultModel" "until") ∈ tb := tb_t3 203 rfl rfl
theorem w_684 : (Jvm.Cond.laysFinal "RetentionVaultModel" "RetentionVaultModel" "strict" "[Z") ∈ tb := tb_t3 204 rfl rfl
theorem w_685 : (Jvm.Cond.soleField "RetentionVaultModel" "strict") ∈ tb := tb_t3 205 rfl rfl
theorem w_686 : (Jvm.Cond.laysFinal "RetentionVaultModel" "RetentionVaultModel" "holds" "[I") ∈ tb := tb_t3 206 rfl rfl
theorem w_687 : (Jvm.Cond.soleField "RetentionVaultModel" "holds") ∈ tb := tb_t3 207 rfl rfl
theorem w_688 : (Jvm.Cond.laysFinal "RetentionVaultModel" "RetentionVaultModel" "from" "[I") ∈ tb := tb_t3 208 rfl rfl
theorem w_689 : (Jvm.Cond.soleField "RetentionVaultModel" "from") ∈ tb := tb_t3 209 rfl rfl
theorem w_690 : (Jvm.Cond.laysFinal "RetentionVaultModel" "RetentionVaultModel" "before" "[I") ∈ tb := tb_t3 210 rfl rfl
theorem w_691 : (Jvm.Cond.soleField "RetentionVaultModel" "before") ∈ tb := tb_t3 211 rfl rfl
theorem w_692 : (Jvm.Cond.laysFinal "RetentionVaultModel" "RetentionVaultModel" "action" "[I") ∈ tb := tb_t3 212 rfl rfl
theorem w_693 : (Jvm.Cond.soleField "RetentionVaultModel" "action") ∈ tb := tb_t3 213 rfl rfl
theorem w_694 : (Jvm.Cond.laysFinal "RetentionVaultModel" "RetentionVaultModel" "ruleTag" "[I") ∈ tb := tb_t3 214 rfl rfl
theorem w_695 : (Jvm.Cond.soleField "RetentionVaultModel" "ruleTag") ∈ tb := tb_t3 215 rfl rfl
theorem w_696 : (Jvm.Cond.laysFinal "RetentionVaultModel" "RetentionVaultModel" "ruleCurrent" "[Z") ∈ tb := tb_t3 216 rfl rfl
theorem w_697 : (Jvm.Cond.soleField "RetentionVaultModel" "ruleCurrent") ∈ tb := tb_t3 217 rfl rfl
theorem w_698 : (Jvm.Cond.laysFinal "RetentionVaultModel" "RetentionVaultModel" "ruleDays" "[I") ∈ tb := tb_t3 218 rfl rfl
theorem w_699 : (Jvm.Cond.soleField "RetentionVaultModel" "ruleDays") ∈ tb := tb_t3 219 rfl rfl
theorem w_700 : (Jvm.Cond.lays "RetentionVaultModel" "RetentionVaultModel" "entries" "I") ∈ tb := tb_t3 220 rfl rfl
theorem w_701 : (Jvm.Cond.soleField "RetentionVaultModel" "entries") ∈ tb := tb_t3 221 rfl rfl
theorem w_702 : (Jvm.Cond.laysFinal "RetentionVaultModel" "RetentionVaultModel" "log" "[I") ∈ tb := tb_t3 222 rfl rfl
theorem w_703 : (Jvm.Cond.soleField "RetentionVaultModel" "log") ∈ tb := tb_t3 223 rfl rfl
theorem w_704 : (Jvm.Cond.lays "RetentionVaultModel" "RetentionVaultModel" "link" "J") ∈ tb := tb_t3 224 rfl rfl
theorem w_705 : (Jvm.Cond.soleField "RetentionVaultModel" "link") ∈ tb := tb_t3 225 rfl rfl
theorem w_706 : (Jvm.Cond.superclass "RetentionVaultModel" "java/lang/Object") ∈ tb := tb_t3 226 rfl rfl
theorem w_707 : (Jvm.Cond.arrayClass Jvm.ClassFile.FieldType.boolean) ∈ tb := tb_t3 227 rfl rfl
theorem w_708 : (Jvm.Cond.methodLink "RetentionVaultLaw" (77 : Nat) ({ cls := "RetentionVaultModel", name := "thrown", desc := "()I" } : Jvm.MethodName)) ∈ tb := tb_t3 228 rfl rfl
theorem w_709 : (Jvm.Cond.instanceMethod ({ cls := "RetentionVaultModel", name := "thrown", desc := "()I" } : Jvm.MethodName)) ∈ tb := tb_t3 229 rfl rfl
theorem w_710 : (Jvm.Cond.selects "RetentionVaultModel" ({ cls := "RetentionVaultModel", name := "thrown", desc := "()I" } : Jvm.MethodName) ({ cls := "RetentionVaultModel", name := "thrown", desc := "()I" } : Jvm.MethodName)) ∈ tb := tb_t3 230 rfl rfl
theorem w_711 : (Jvm.Cond.code ({ cls := "RetentionVaultModel", name := "thrown", desc := "()I" } : Jvm.MethodName) prog_6_method_2_code (1 : Nat) (Option.some Jvm.ClassFile.FieldType.int)) ∈ tb := tb_t3 231 rfl rfl
theorem w_712 : (Jvm.Cond.methodLink "RetentionVaultLaw" (76 : Nat) ({ cls := "RetentionVaultModel", name := "put", desc := "(III)I" } : Jvm.MethodName)) ∈ tb := tb_t3 232 rfl rfl
theorem w_713 : (Jvm.Cond.instanceMethod ({ cls := "RetentionVaultModel", name := "put", desc := "(III)I" } : Jvm.MethodName)) ∈ tb := tb_t3 233 rfl rfl
theorem w_714 : (Jvm.Cond.selects "RetentionVaultModel" ({ cls := "RetentionVaultModel", name := "put", desc := "(III)I" } : Jvm.MethodName) ({ cls := "RetentionVaultModel", name := "put", desc := "(III)I" } : Jvm.MethodName)) ∈ tb := tb_t3 234 rfl rfl
theorem w_715 : (Jvm.Cond.code ({ cls := "RetentionVaultModel", name := "put", desc := "(III)I" } : Jvm.MethodName) prog_6_method_13_code (4 : Nat) (Option.some Jvm.ClassFile.FieldType.int)) ∈ tb := tb_t3 235 rfl rfl
theorem w_716 : (Jvm.Cond.constant "RetentionVaultModel" (104 : Nat) (1000000 : Int32)) ∈ tb := tb_t3 236 rfl rfl
theorem w_717 : (Jvm.Cond.methodLink "RetentionVaultModel" (105 : Nat) ({ cls := "RetentionVaultModel", name := "add", desc := "(III)I" } : Jvm.MethodName)) ∈ tb := tb_t3 237 rfl rfl
theorem w_719 : (Jvm.Cond.instanceMethod ({ cls := "RetentionVaultModel", name := "add", desc := "(III)I" } : Jvm.MethodName)) ∈ tb := tb_t3 239 rfl rfl
theorem w_720 : (Jvm.Cond.code ({ cls := "RetentionVaultModel", name := "add", desc := "(III)I" } : Jvm.MethodName) prog_6_method_11_code (5 : Nat) (Option.some Jvm.ClassFile.FieldType.int)) ∈ tb := tb_t4 0 rfl rfl
theorem w_721 : (Jvm.Cond.methodLink "RetentionVaultModel" (87 : Nat) ({ cls := "RetentionVaultModel", name := "currentOf", desc := "(I)I" } : Jvm.MethodName)) ∈ tb := tb_t4 1 rfl rfl
theorem w_723 : (Jvm.Cond.instanceMethod ({ cls := "RetentionVaultModel", name := "currentOf", desc := "(I)I" } : Jvm.MethodName)) ∈ tb := tb_t4 3 rfl rfl
theorem w_724 : (Jvm.Cond.code ({ cls := "RetentionVaultModel", name := "currentOf", desc := "(I)I" } : Jvm.MethodName) prog_6_method_6_code (4 : Nat) (Option.some Jvm.ClassFile.FieldType.int)) ∈ tb := tb_t4 4 rfl rfl
theorem w_725 : (Jvm.Cond.methodLink "RetentionVaultModel" (100 : Nat) ({ cls := "RetentionVaultModel", name := "enter", desc := "(III)V" } : Jvm.MethodName)) ∈ tb := tb_t4 5 rfl rfl
theorem w_727 : (Jvm.Cond.instanceMethod ({ cls := "RetentionVaultModel", name := "enter", desc := "(III)V" } : Jvm.MethodName)) ∈ tb := tb_t4 7 rfl rfl
theorem w_728 : (Jvm.Cond.code ({ cls := "RetentionVaultModel", name := "enter", desc := "(III)V" } : Jvm.MethodName) prog_6_method_3_code (6 : Nat) (Option.none : Option Jvm.ClassFile.FieldType)) ∈ tb := tb_t4 8 rfl rfl
theorem w_729 : (Jvm.Cond.constantLong "RetentionVaultModel" (78 : Nat) (1099511628211 : Int64)) ∈ tb := tb_t4 9 rfl rfl
theorem w_730 : (Jvm.Cond.methodLink "RetentionVaultLaw" (84 : Nat) ({ cls := "RetentionVaultModel", name := "mark", desc := "(I)I" } : Jvm.MethodName)) ∈ tb := tb_t4 10 rfl rfl
theorem w_731 : (Jvm.Cond.instanceMethod ({ cls := "RetentionVaultModel", name := "mark", desc := "(I)I" } : Jvm.MethodName)) ∈ tb := tb_t4 11 rfl rfl
theorem w_732 : (Jvm.Cond.selects "RetentionVaultModel" ({ cls := "RetentionVaultModel", name := "mark", desc := "(I)I" } : Jvm.MethodName) ({ cls := "RetentionVaultModel", name := "mark", desc := "(I)I" } : Jvm.MethodName)) ∈ tb := tb_t4 12 rfl rfl
theorem w_733 : (Jvm.Cond.code ({ cls := "RetentionVaultModel", name := "mark", desc := "(I)I" } : Jvm.MethodName) prog_6_method_14_code (3 : Nat) (Option.some Jvm.ClassFile.FieldType.int)) ∈ tb := tb_t4 13 rfl rfl
theorem w_734 : (Jvm.Cond.methodLink "RetentionVaultLaw" (88 : Nat) ({ cls := "RetentionVaultModel", name := "erase", desc := "(IZ)I" } : Jvm.MethodName)) ∈ tb := tb_t4 14 rfl rfl
theorem w_735 : (Jvm.Cond.instanceMethod ({ cls := "RetentionVaultModel", name := "erase", desc := "(IZ)I" } : Jvm.MethodName)) ∈ tb := tb_t4 15 rfl rfl
theorem w_736 : (Jvm.Cond.selects "RetentionVaultModel" ({ cls := "RetentionVaultModel", name := "erase", desc := "(IZ)I" } : Jvm.MethodName) ({ cls := "RetentionVaultModel", name := "erase", desc := "(IZ)I" } : Jvm.MethodName)) ∈ tb := tb_t4 16 rfl rfl
theorem w_737 : (Jvm.Cond.code ({ cls := "RetentionVaultModel", name := "erase", desc := "(IZ)I" } : Jvm.MethodName) prog_6_method_15_code (5 : Nat) (Option.some Jvm.ClassFile.FieldType.int)) ∈ tb := tb_t4 17 rfl rfl
theorem w_738 : (Jvm.Cond.methodLink "RetentionVaultModel" (83 : Nat) ({ cls := "RetentionVaultModel", name := "find", desc := "(I)I" } : Jvm.MethodName)) ∈ tb := tb_t4 18 rfl rfl
theorem w_740 : (Jvm.Cond.instanceMethod ({ cls := "RetentionVaultModel", name := "find", desc := "(I)I" } : Jvm.MethodName)) ∈ tb := tb_t4 20 rfl rfl
theorem w_741 : (Jvm.Cond.code ({ cls := "RetentionVaultModel", name := "find", desc := "(I)I" } : Jvm.MethodName) prog_6_method_4_code (4 : Nat) (Option.some Jvm.ClassFile.FieldType.int)) ∈ tb := tb_t4 21 rfl rfl
theorem w_742 : (Jvm.Cond.methodLink "RetentionVaultModel" (90 : Nat) ({ cls := "RetentionVaultModel", name := "isRetained", desc := "(I)Z" } : Jvm.MethodName)) ∈ tb := tb_t4 22 rfl rfl
theorem w_744 : (Jvm.Cond.instanceMethod ({ cls := "RetentionVaultModel", name := "isRetained", desc := "(I)Z" } : Jvm.MethodName)) ∈ tb := tb_t4 24 rfl rfl
theorem w_745 : (Jvm.Cond.code ({ cls := "RetentionVaultModel", name := "isRetained", desc := "(I)Z" } : Jvm.MethodName) prog_6_method_8_code (2 : Nat) (Option.some Jvm.ClassFile.FieldType.boolean)) ∈ tb := tb_t4 25 rfl rfl
theorem w_746 : (Jvm.Cond.methodLink "RetentionVaultModel" (109 : Nat) ({ cls := "RetentionVaultModel", name := "takeAway", desc := "(I)V" } : Jvm.MethodName)) ∈ tb := tb_t4 26 rfl rfl
theorem w_748 : (Jvm.Cond.instanceMethod ({ cls := "RetentionVaultModel", name := "takeAway", desc := "(I)V" } : Jvm.MethodName)) ∈ tb := tb_t4 28 rfl rfl
theorem w_749 : (Jvm.Cond.code ({ cls := "RetentionVaultModel", name := "takeAway", desc := "(I)V" } : Jvm.MethodName) prog_6_method_12_code (3 : Nat) (Option.none : Option Jvm.ClassFile.FieldType)) ∈ tb := tb_t4 29 rfl rfl
theorem w_750 : (Jvm.Cond.methodLink "RetentionVaultLaw" (92 : Nat) ({ cls := "RetentionVaultModel", name := "retain", desc := "(IIZ)V" } : Jvm.MethodName)) ∈ tb := tb_t4 30 rfl rfl
theorem w_751 : (Jvm.Cond.instanceMethod ({ cls := "RetentionVaultModel", name := "retain", desc := "(IIZ)V" } : Jvm.MethodName)) ∈ tb := tb_t4 31 rfl rfl
theorem w_752 : (Jvm.Cond.selects "RetentionVaultModel" ({ cls := "RetentionVaultModel", name := "retain", desc := "(IIZ)V" } : Jvm.MethodName) ({ cls := "RetentionVaultModel", name := "retain", desc := "(IIZ)V" } : Jvm.MethodName)) ∈ tb := tb_t4 32 rfl rfl
theorem w_753 : (Jvm.Cond.code ({ cls := "RetentionVaultModel", name := "retain", desc := "(IIZ)V" } : Jvm.MethodName) prog_6_method_16_code (5 : Nat) (Option.none : Option Jvm.ClassFile.FieldType)) ∈ tb := tb_t4 33 rfl rfl
theorem w_754 : (Jvm.Cond.methodLink "RetentionVaultModel" (113 : Nat) ({ cls := "RetentionVaultModel", name := "object", desc := "(I)I" } : Jvm.MethodName)) ∈ tb := tb_t4 34 rfl rfl
theorem w_756 : (Jvm.Cond.instanceMethod ({ cls := "RetentionVaultModel", name := "object", desc := "(I)I" } : Jvm.MethodName)) ∈ tb := tb_t4 36 rfl rfl
theorem w_757 : (Jvm.Cond.code ({ cls := "RetentionVaultModel", name := "object", desc := "(I)I" } : Jvm.MethodName) prog_6_method_5_code (3 : Nat) (Option.some Jvm.ClassFile.FieldType.int)) ∈ tb := tb_t4 37 rfl rfl
theorem w_758 : (Jvm.Cond.methodLink "RetentionVaultLaw" (96 : Nat) ({ cls := "RetentionVaultModel", name := "hold", desc := "(IIZ)Z" } : Jvm.MethodName)) ∈ tb := tb_t4 38 rfl rfl
theorem w_759 : (Jvm.Cond.instanceMethod ({ cls := "RetentionVaultModel", name := "hold", desc := "(IIZ)Z" } : Jvm.MethodName)) ∈ tb := tb_t4 39 rfl rfl
theorem w_760 : (Jvm.Cond.selects "RetentionVaultModel" ({ cls := "RetentionVaultModel", name := "hold", desc := "(IIZ)Z" } : Jvm.MethodName) ({ cls := "RetentionVaultModel", name := "hold", desc := "(IIZ)Z" } : Jvm.MethodName)) ∈ tb := tb_t4 40 rfl rfl
theorem w_761 : (Jvm.Cond.code ({ cls := "RetentionVaultModel", name := "hold", desc := "(IIZ)Z" } : Jvm.MethodName) prog_6_method_17_code (5 : Nat) (Option.some Jvm.ClassFile.FieldType.boolean)) ∈ tb := tb_t4 41 rfl rfl
theorem w_762 : (Jvm.Cond.methodLink "RetentionVaultLaw" (100 : Nat) ({ cls := "RetentionVaultModel", name := "rule", desc := "(IIZII)V" } : Jvm.MethodName)) ∈ tb := tb_t4 42 rfl rfl
theorem w_763 : (Jvm.Cond.instanceMethod ({ cls := "RetentionVaultModel", name := "rule", desc := "(IIZII)V" } : Jvm.MethodName)) ∈ tb := tb_t4 43 rfl rfl
theorem w_764 : (Jvm.Cond.selects "RetentionVaultModel" ({ cls := "RetentionVaultModel", name := "rule", desc := "(IIZII)V" } : Jvm.MethodName) ({ cls := "RetentionVaultModel", name := "rule", desc := "(IIZII)V" } : Jvm.MethodName)) ∈ tb := tb_t4 44 rfl rfl
theorem w_765 : (Jvm.Cond.code ({ cls := "RetentionVaultModel", name := "rule", desc := "(IIZII)V" } : Jvm.MethodName) prog_6_method_18_code (6 : Nat) (Option.none : Option Jvm.ClassFile.FieldType)) ∈ tb := tb_t4 45 rfl rfl
theorem w_766 : (Jvm.Cond.methodLink "RetentionVaultLaw" (103 : Nat) ({ cls := "RetentionVaultModel", name := "unrule", desc := "(I)Z" } : Jvm.MethodName)) ∈ tb := tb_t4 46 rfl rfl
theorem w_767 : (Jvm.Cond.instanceMethod ({ cls := "RetentionVaultModel", name := "unrule", desc := "(I)Z" } : Jvm.MethodName)) ∈ tb := tb_t4 47 rfl rfl
theorem w_768 : (Jvm.Cond.selects "RetentionVaultModel" ({ cls := "RetentionVaultModel", name := "unrule", desc := "(I)Z" } : Jvm.MethodName) ({ cls := "RetentionVaultModel", name := "unrule", desc := "(I)Z" } : Jvm.MethodName)) ∈ tb := tb_t4 48 rfl rfl
theorem w_769 : (Jvm.Cond.code ({ cls := "RetentionVaultModel", name := "unrule", desc := "(I)Z" } : Jvm.MethodName) prog_6_method_19_code (2 : Nat) (Option.some Jvm.ClassFile.FieldType.boolean)) ∈ tb := tb_t4 49 rfl rfl
theorem w_770 : (Jvm.Cond.methodLink "RetentionVaultLaw" (113 : Nat) ({ cls := "RetentionVaultModel", name := "tick", desc := "(I)I" } : Jvm.MethodName)) ∈ tb := tb_t4 50 rfl rfl
theorem w_771 : (Jvm.Cond.instanceMethod ({ cls := "RetentionVaultModel", name := "tick", desc := "(I)I" } : Jvm.MethodName)) ∈ tb := tb_t4 51 rfl rfl
theorem w_772 : (Jvm.Cond.selects "RetentionVaultModel" ({ cls := "RetentionVaultModel", name := "tick", desc := "(I)I" } : Jvm.MethodName) ({ cls := "RetentionVaultModel", name := "tick", desc := "(I)I" } : Jvm.MethodName)) ∈ tb := tb_t4 52 rfl rfl
theorem w_773 : (Jvm.Cond.code ({ cls := "RetentionVaultModel", name := "tick", desc := "(I)I" } : Jvm.MethodName) prog_6_method_24_code (4 : Nat) (Option.some Jvm.ClassFile.FieldType.int)) ∈ tb := tb_t4 53 rfl rfl
theorem w_774 : (Jvm.Cond.methodLink "RetentionVaultModel" (132 : Nat) ({ cls := "RetentionVaultModel", name := "begin", desc := "()V" } : Jvm.MethodName)) ∈ tb := tb_t4 54 rfl rfl
theorem w_776 : (Jvm.Cond.instanceMethod ({ cls := "RetentionVaultModel", name := "begin", desc := "()V" } : Jvm.MethodName)) ∈ tb := tb_t4 56 rfl rfl
theorem w_777 : (Jvm.Cond.code ({ cls := "RetentionVaultModel", name := "begin", desc := "()V" } : Jvm.MethodName) prog_6_method_23_code (4 : Nat) (Option.none : Option Jvm.ClassFile.FieldType)) ∈ tb := tb_t4 57 rfl rfl
theorem w_778 : (Jvm.Cond.methodLink "RetentionVaultModel" (126 : Nat) ({ cls := "RetentionVaultModel", name := "go", desc := "(I)V" } : Jvm.MethodName)) ∈ tb := tb_t4 58 rfl rfl
theorem w_780 : (Jvm.Cond.instanceMethod ({ cls := "RetentionVaultModel", name := "go", desc := "(I)V" } : Jvm.MethodName)) ∈ tb := tb_t4 60 rfl rfl
theorem w_781 : (Jvm.Cond.code ({ cls := "RetentionVaultModel", name := "go", desc := "(I)V" } : Jvm.MethodName) prog_6_method_21_code (4 : Nat) (Option.none : Option Jvm.ClassFile.FieldType)) ∈ tb := tb_t4 61 rfl rfl
theorem w_782 : (Jvm.Cond.methodLink "RetentionVaultModel" (119 : Nat) ({ cls := "RetentionVaultModel", name := "isDue", desc := "(II)Z" } : Jvm.MethodName)) ∈ tb := tb_t4 62 rfl rfl
theorem w_784 : (Jvm.Cond.instanceMethod ({ cls := "RetentionVaultModel", name := "isDue", desc := "(II)Z" } : Jvm.MethodName)) ∈ tb := tb_t4 64 rfl rfl
theorem w_785 : (Jvm.Cond.code ({ cls := "RetentionVaultModel", name := "isDue", desc := "(II)Z" } : Jvm.MethodName) prog_6_method_20_code (4 : Nat) (Option.some Jvm.ClassFile.FieldType.boolean)) ∈ tb := tb_t4 65 rfl rfl
theorem w_786 : (Jvm.Cond.methodLink "RetentionVaultModel" (94 : Nat) ({ cls := "RetentionVaultModel", name := "isCurrent", desc := "(I)Z" } : Jvm.MethodName)) ∈ tb := tb_t4 66 rfl rfl
theorem w_788 : (Jvm.Cond.instanceMethod ({ cls := "RetentionVaultModel", name := "isCurrent", desc := "(I)Z" } : Jvm.MethodName)) ∈ tb := tb_t4 68 rfl rfl
theorem w_789 : (Jvm.Cond.code ({ cls := "RetentionVaultModel", name := "isCurrent", desc := "(I)Z" } : Jvm.MethodName) prog_6_method_7_code (2 : Nat) (Option.some Jvm.ClassFile.FieldType.boolean)) ∈ tb := tb_t4 69 rfl rfl
theorem w_790 : (Jvm.Cond.methodLink "RetentionVaultModel" (116 : Nat) ({ cls := "RetentionVaultModel", name := "since", desc := "(I)I" } : Jvm.MethodName)) ∈ tb := tb_t4 70 rfl rfl
theorem w_792 : (Jvm.Cond.instanceMethod ({ cls := "RetentionVaultModel", name := "since", desc := "(I)I" } : Jvm.MethodName)) ∈ tb := tb_t4 72 rfl rfl
theorem w_793 : (Jvm.Cond.code ({ cls := "RetentionVaultModel", name := "since", desc := "(I)I" } : Jvm.MethodName) prog_6_method_10_code (2 : Nat) (Option.some Jvm.ClassFile.FieldType.int)) ∈ tb := tb_t4 73 rfl rfl
theorem w_794 : (Jvm.Cond.methodLink "RetentionVaultModel" (123 : Nat) ({ cls := "RetentionVaultModel", name := "isGuarded", desc := "(I)Z" } : Jvm.MethodName)) ∈ tb := tb_t4 74 rfl rfl
theorem w_796 : (Jvm.Cond.instanceMethod ({ cls := "RetentionVaultModel", name := "isGuarded", desc := "(I)Z" } : Jvm.MethodName)) ∈ tb := tb_t4 76 rfl rfl
theorem w_797 : (Jvm.Cond.code ({ cls := "RetentionVaultModel", name := "isGuarded", desc := "(I)Z" } : Jvm.MethodName) prog_6_method_9_code (2 : Nat) (Option.some Jvm.ClassFile.FieldType.boolean)) ∈ tb := tb_t4 77 rfl rfl
theorem w_798 : (Jvm.Cond.methodLink "RetentionVaultModel" (129 : Nat) ({ cls := "RetentionVaultModel", name := "versionsOf", desc := "(I)I" } : Jvm.MethodName)) ∈ tb := tb_t4 78 rfl rfl
theorem w_800 : (Jvm.Cond.instanceMethod ({ cls := "RetentionVaultModel", name := "versionsOf", desc := "(I)I" } : Jvm.MethodName)) ∈ tb := tb_t4 80 rfl rfl
theorem w_801 : (Jvm.Cond.code ({ cls := "RetentionVaultModel", name := "versionsOf", desc := "(I)I" } : Jvm.MethodName) prog_6_method_22_code (4 : Nat) (Option.some Jvm.ClassFile.FieldType.int)) ∈ tb := tb_t4 81 rfl rfl
theorem w_802 : (Jvm.Cond.methodLink "RetentionVaultLaw" (107 : Nat) ({ cls := "RetentionVaultModel", name := "fetch", desc := "(II)I" } : Jvm.MethodName)) ∈ tb := tb_t4 82 rfl rfl
theorem w_803 : (Jvm.Cond.instanceMethod ({ cls := "RetentionVaultModel", name := "fetch", desc := "(II)I" } : Jvm.MethodName)) ∈ tb := tb_t4 83 rfl rfl
theorem w_804 : (Jvm.Cond.selects "RetentionVaultModel" ({ cls := "RetentionVaultModel", name := "fetch", desc := "(II)I" } : Jvm.MethodName) ({ cls := "RetentionVaultModel", name := "fetch", desc := "(II)I" } : Jvm.MethodName)) ∈ tb := tb_t4 84 rfl rfl
theorem w_805 : (Jvm.Cond.code ({ cls := "RetentionVaultModel", name := "fetch", desc := "(II)I" } : Jvm.MethodName) prog_6_method_25_code (4 : Nat) (Option.some Jvm.ClassFile.FieldType.int)) ∈ tb := tb_t4 85 rfl rfl
theorem w_806 : (Jvm.Cond.methodLink "RetentionVaultLaw" (110 : Nat) ({ cls := "RetentionVaultModel", name := "read", desc := "(I)I" } : Jvm.MethodName)) ∈ tb := tb_t4 86 rfl rfl
theorem w_807 : (Jvm.Cond.instanceMethod ({ cls := "RetentionVaultModel", name := "read", desc := "(I)I" } : Jvm.MethodName)) ∈ tb := tb_t4 87 rfl rfl
theorem w_808 : (Jvm.Cond.selects "RetentionVaultModel" ({ cls := "RetentionVaultModel", name := "read", desc := "(I)I" } : Jvm.MethodName) ({ cls := "RetentionVaultModel", name := "read", desc := "(I)I" } : Jvm.MethodName)) ∈ tb := tb_t4 88 rfl rfl
theorem w_809 : (Jvm.Cond.code ({ cls := "RetentionVaultModel", name := "read", desc := "(I)I" } : Jvm.MethodName) prog_6_method_26_code (3 : Nat) (Option.some Jvm.ClassFile.FieldType.int)) ∈ tb := tb_t4 89 rfl rfl
theorem w_810 : (Jvm.Cond.methodLink "RetentionVaultLaw" (116 : Nat) ({ cls := "RetentionVaultModel", name := "current", desc := "(I)I" } : Jvm.MethodName)) ∈ tb := tb_t4 90 rfl rfl
theorem w_811 : (Jvm.Cond.instanceMethod ({ cls := "RetentionVaultModel", name := "current", desc := "(I)I" } : Jvm.MethodName)) ∈ tb := tb_t4 91 rfl rfl
theorem w_812 : (Jvm.Cond.selects "RetentionVaultModel" ({ cls := "RetentionVaultModel", name := "current", desc := "(I)I" } : Jvm.MethodName) ({ cls := "RetentionVaultModel", name := "current", desc := "(I)I" } : Jvm.MethodName)) ∈ tb := tb_t4 92 rfl rfl
theorem w_813 : (Jvm.Cond.code ({ cls := "RetentionVaultModel", name := "current", desc := "(I)I" } : Jvm.MethodName) prog_6_method_27_code (3 : Nat) (Option.some Jvm.ClassFile.FieldType.int)) ∈ tb := tb_t4 93 rfl rfl
theorem w_814 : (Jvm.Cond.methodLink "RetentionVaultLaw" (119 : Nat) ({ cls := "RetentionVaultModel", name := "about", desc := "(II)I" } : Jvm.MethodName)) ∈ tb := tb_t4 94 rfl rfl
theorem w_815 : (Jvm.Cond.instanceMethod ({ cls := "RetentionVaultModel", name := "about", desc := "(II)I" } : Jvm.MethodName)) ∈ tb := tb_t4 95 rfl rfl
theorem w_816 : (Jvm.Cond.selects "RetentionVaultModel" ({ cls := "RetentionVaultModel", name := "about", desc := "(II)I" } : Jvm.MethodName) ({ cls := "RetentionVaultModel", name := "about", desc := "(II)I" } : Jvm.MethodName)) ∈ tb := tb_t4 96 rfl rfl
theorem w_817 : (Jvm.Cond.code ({ cls := "RetentionVaultModel", name := "about", desc := "(II)I" } : Jvm.MethodName) prog_6_method_28_code (4 : Nat) (Option.some Jvm.ClassFile.FieldType.int)) ∈ tb := tb_t4 97 rfl rfl
theorem w_818 : (Jvm.Cond.methodLink "RetentionVaultLaw" (122 : Nat) ({ cls := "RetentionVaultModel", name := "entry", desc := "(II)I" } : Jvm.MethodName)) ∈ tb := tb_t4 98 rfl rfl
theorem w_819 : (Jvm.Cond.instanceMethod ({ cls := "RetentionVaultModel", name := "entry", desc := "(II)I" } : Jvm.MethodName)) ∈ tb := tb_t4 99 rfl rfl
theorem w_820 : (Jvm.Cond.selects "RetentionVaultModel" ({ cls := "RetentionVaultModel", name := "entry", desc := "(II)I" } : Jvm.MethodName) ({ cls := "RetentionVaultModel", name := "entry", desc := "(II)I" } : Jvm.MethodName)) ∈ tb := tb_t4 100 rfl rfl
theorem w_821 : (Jvm.Cond.code ({ cls := "RetentionVaultModel", name := "entry", desc := "(II)I" } : Jvm.MethodName) prog_6_method_29_code (3 : Nat) (Option.some Jvm.ClassFile.FieldType.int)) ∈ tb := tb_t4 101 rfl rfl
theorem w_822 : (Jvm.Cond.methodLink "RetentionVaultLaw" (127 : Nat) ({ cls := "RetentionVaultModel", name := "link", desc := "()J" } : Jvm.MethodName)) ∈ tb := tb_t4 102 rfl rfl
theorem w_823 : (Jvm.Cond.instanceMethod ({ cls := "RetentionVaultModel", name := "link", desc := "()J" } : Jvm.MethodName)) ∈ tb := tb_t4 103 rfl rfl
theorem w_824 : (Jvm.Cond.selects "RetentionVaultModel" ({ cls := "RetentionVaultModel", name := "link", desc := "()J" } : Jvm.MethodName) ({ cls := "RetentionVaultModel", name := "link", desc := "()J" } : Jvm.MethodName)) ∈ tb := tb_t4 104 rfl rfl
theorem w_825 : (Jvm.Cond.code ({ cls := "RetentionVaultModel", name := "link", desc := "()J" } : Jvm.MethodName) prog_6_method_30_code (1 : Nat) (Option.some Jvm.ClassFile.FieldType.long)) ∈ tb := tb_t4 105 rfl rfl
theorem w_826 : (Jvm.Cond.methodLink "RetentionVaultLaw" (130 : Nat) ({ cls := "RetentionVaultModel", name := "figure", desc := "(I)I" } : Jvm.MethodName)) ∈ tb := tb_t4 106 rfl rfl
theorem w_827 : (Jvm.Cond.instanceMethod ({ cls := "RetentionVaultModel", name := "figure", desc := "(I)I" } : Jvm.MethodName)) ∈ tb := tb_t4 107 rfl rfl
theorem w_828 : (Jvm.Cond.selects "RetentionVaultModel" ({ cls := "RetentionVaultModel", name := "figure", desc := "(I)I" } : Jvm.MethodName) ({ cls := "RetentionVaultModel", name := "figure", desc := "(I)I" } : Jvm.MethodName)) ∈ tb := tb_t4 108 rfl rfl
theorem w_829 : (Jvm.Cond.code ({ cls := "RetentionVaultModel", name := "figure", desc := "(I)I" } : Jvm.MethodName) prog_6_method_31_code (5 : Nat) (Option.some Jvm.ClassFile.FieldType.int)) ∈ tb := tb_t4 109 rfl rfl
theorem w_830 : (Jvm.Cond.arrayClass Jvm.ClassFile.FieldType.long) ∈ tb := tb_t4 110 rfl rfl
theorem w_831 : (Jvm.Cond.sameMethod "java/lang/Throwable" "java/lang/Throwable" "fillInStackTrace" "(I)Ljava/lang/Throwable;") ∈ tb := tb_t4 111 rfl rfl
theorem w_833 : (Jvm.Cond.sameMethod "[Ljava/lang/Object;" "java/lang/Object" "getClass" "()Ljava/lang/Class;") ∈ tb := tb_t4 113 rfl rfl
theorem w_834 : (Jvm.Cond.selects "[Ljava/lang/Object;" ({ cls := "java/lang/Object", name := "getClass", desc := "()Ljava/lang/Class;" } : Jvm.MethodName) ({ cls := "java/lang/Object", name := "getClass", desc := "()Ljava/lang/Class;" } : Jvm.MethodName)) ∈ tb := tb_t4 114 rfl rfl
theorem s_java_lang_Throwable_fillInStackTrace : Cond.selects "java/lang/Throwable" ⟨"java/lang/Throwable", "fillInStackTrace", "(I)Ljava/lang/Throwable;"⟩ ⟨"java/lang/Throwable", "fillInStackTrace", "(I)Ljava/lang/Throwable;"⟩ ∈ tb := tb_in (List.mem_append_left _ (List.mem_map.mpr ⟨(⟨"java/lang/Throwable", "fillInStackTrace", "(I)Ljava/lang/Throwable;"⟩, 6), List.mem_append_left _ (List.mem_of_getElem? (l := lw_privs_1) (i := 0) rfl), rfl⟩)) rfl
theorem s_V_demandRoom : Cond.selects "RetentionVault" ⟨"RetentionVault", "demandRoom", "()V"⟩ ⟨"RetentionVault", "demandRoom", "()V"⟩ ∈ tb := tb_in (List.mem_append_left _ (List.mem_map.mpr ⟨(⟨"RetentionVault", "demandRoom", "()V"⟩, 5), List.mem_append_left _ (List.mem_of_getElem? (l := lw_privs_1) (i := 1) rfl), rfl⟩)) rfl
theorem s_V_isFull : Cond.selects "RetentionVault" ⟨"RetentionVault", "isFull", "()Z"⟩ ⟨"RetentionVault", "isFull", "()Z"⟩ ∈ tb := tb_in (List.mem_append_left _ (List.mem_map.mpr ⟨(⟨"RetentionVault", "isFull", "()Z"⟩, 5), List.mem_append_left _ (List.mem_of_getElem? (l := lw_privs_1) (i := 2) rfl), rfl⟩)) rfl
theorem s_V_add : Cond.selects "RetentionVault" ⟨"RetentionVault", "add", "(LRetentionVault$Version;)I"⟩ ⟨"RetentionVault", "add", "(LRetentionVault$Version;)I"⟩ ∈ tb := tb_in (List.mem_append_left _ (List.mem_map.mpr ⟨(⟨"RetentionVault", "add", "(LRetentionVault$Version;)I"⟩, 5), List.mem_append_left _ (List.mem_of_getElem? (l := lw_privs_1) (i := 3) rfl), rfl⟩)) rfl
theorem s_V_latestOf : Cond.selects "RetentionVault" ⟨"RetentionVault", "latestOf", "(I)LRetentionVault$Version;"⟩ ⟨"RetentionVault", "latestOf", "(I)LRetentionVault$Version;"⟩ ∈ tb := tb_in (List.mem_append_left _ (List.mem_map.mpr ⟨(⟨"RetentionVault", "latestOf", "(I)LRetentionVault$Version;"⟩, 5), List.mem_append_left _ (List.mem_of_getElem? (l := lw_privs_1) (i := 4) rfl), rfl⟩)) rfl
theorem s_A_add1 : Cond.selects "java/util/ArrayList" ⟨"java/util/ArrayList", "add", "(Ljava/lang/Object;[Ljava/lang/Object;I)V"⟩ ⟨"java/util/ArrayList", "add", "(Ljava/lang/Object;[Ljava/lang/Object;I)V"⟩ ∈ tb := tb_in (List.mem_append_left _ (List.mem_map.mpr ⟨(⟨"java/util/ArrayList", "add", "(Ljava/lang/Object;[Ljava/lang/Object;I)V"⟩, 3), List.mem_append_left _ (List.mem_of_getElem? (l := lw_privs_1) (i := 5) rfl), rfl⟩)) rfl
theorem s_A_grow0 : Cond.selects "java/util/ArrayList" ⟨"java/util/ArrayList", "grow", "()[Ljava/lang/Object;"⟩ ⟨"java/util/ArrayList", "grow", "()[Ljava/lang/Object;"⟩ ∈ tb := tb_in (List.mem_append_left _ (List.mem_map.mpr ⟨(⟨"java/util/ArrayList", "grow", "()[Ljava/lang/Object;"⟩, 3), List.mem_append_left _ (List.mem_of_getElem? (l := lw_privs_1) (i := 6) rfl), rfl⟩)) rfl
theorem s_A_grow1 : Cond.selects "java/util/ArrayList" ⟨"java/util/ArrayList", "grow", "(I)[Ljava/lang/Object;"⟩ ⟨"java/util/ArrayList", "grow", "(I)[Ljava/lang/Object;"⟩ ∈ tb := tb_in (List.mem_append_left _ (List.mem_map.mpr ⟨(⟨"java/util/ArrayList", "grow", "(I)[Ljava/lang/Object;"⟩, 3), List.mem_append_left _ (List.mem_of_getElem? (l := lw_privs_1) (i := 7) rfl), rfl⟩)) rfl
theorem s_G_append : Cond.selects "RetentionVault$Log" ⟨"RetentionVault$Log", "append", "(II)V"⟩ ⟨"RetentionVault$Log", "append", "(II)V"⟩ ∈ tb := tb_in (List.mem_append_left _ (List.mem_map.mpr ⟨(⟨"RetentionVault$Log", "append", "(II)V"⟩, 3), List.mem_append_left _ (List.mem_of_getElem? (l := lw_privs_1) (i := 8) rfl), rfl⟩)) rfl
theorem s_V_currentObject : Cond.selects "RetentionVault" ⟨"RetentionVault", "currentObject", "(I)LRetentionVault$Version;"⟩ ⟨"RetentionVault", "currentObject", "(I)LRetentionVault$Version;"⟩ ∈ tb := tb_in (List.mem_append_left _ (List.mem_map.mpr ⟨(⟨"RetentionVault", "currentObject", "(I)LRetentionVault$Version;"⟩, 5), List.mem_append_left _ (List.mem_of_getElem? (l := lw_privs_1) (i := 9) rfl), rfl⟩)) rfl
theorem s_V_versionNumbered : Cond.selects "RetentionVault" ⟨"RetentionVault", "versionNumbered", "(I)LRetentionVault$Version;"⟩ ⟨"RetentionVault", "versionNumbered", "(I)LRetentionVault$Version;"⟩ ∈ tb := tb_in (List.mem_append_left _ (List.mem_map.mpr ⟨(⟨"RetentionVault", "versionNumbered", "(I)LRetentionVault$Version;"⟩, 5), List.mem_append_left _ (List.mem_of_getElem? (l := lw_privs_1) (i := 10) rfl), rfl⟩)) rfl
theorem s_V_takeAway : Cond.selects "RetentionVault" ⟨"RetentionVault", "takeAway", "(LRetentionVault$Version;)V"⟩ ⟨"RetentionVault", "takeAway", "(LRetentionVault$Version;)V"⟩ ∈ tb := tb_in (List.mem_append_left _ (List.mem_map.mpr ⟨(⟨"RetentionVault", "takeAway", "(LRetentionVault$Version;)V"⟩, 5), List.mem_append_left _ (List.mem_of_getElem? (l := lw_privs_1) (i := 11) rfl), rfl⟩)) rfl
theorem s_A_fastRemove : Cond.selects "java/util/ArrayList" ⟨"java/util/ArrayList", "fastRemove", "([Ljava/lang/Object;I)V"⟩ ⟨"java/util/ArrayList", "fastRemove", "([Ljava/lang/Object;I)V"⟩ ∈ tb := tb_in (List.mem_append_left _ (List.mem_map.mpr ⟨(⟨"java/util/ArrayList", "fastRemove", "([Ljava/lang/Object;I)V"⟩, 3), List.mem_append_left _ (List.mem_of_getElem? (l := lw_privs_1) (i := 12) rfl), rfl⟩)) rfl
theorem s_V_objectNumbered : Cond.selects "RetentionVault" ⟨"RetentionVault", "objectNumbered", "(I)LRetentionVault$Version;"⟩ ⟨"RetentionVault", "objectNumbered", "(I)LRetentionVault$Version;"⟩ ∈ tb := tb_in (List.mem_append_left _ (List.mem_map.mpr ⟨(⟨"RetentionVault", "objectNumbered", "(I)LRetentionVault$Version;"⟩, 5), List.mem_append_left _ (List.mem_of_getElem? (l := lw_privs_1) (i := 13) rfl), rfl⟩)) rfl
theorem s_V_goThroughVersions : Cond.selects "RetentionVault" ⟨"RetentionVault", "goThroughVersions", "()V"⟩ ⟨"RetentionVault", "goThroughVersions", "()V"⟩ ∈ tb := tb_in (List.mem_append_left _ (List.mem_map.mpr ⟨(⟨"RetentionVault", "goThroughVersions", "()V"⟩, 5), List.mem_append_left _ (List.mem_of_getElem? (l := lw_privs_1) (i := 14) rfl), rfl⟩)) rfl
theorem s_V_goThroughRules : Cond.selects "RetentionVault" ⟨"RetentionVault", "goThroughRules", "(LRetentionVault$Version;)V"⟩ ⟨"RetentionVault", "goThroughRules", "(LRetentionVault$Version;)V"⟩ ∈ tb := tb_in (List.mem_append_left _ (List.mem_map.mpr ⟨(⟨"RetentionVault", "goThroughRules", "(LRetentionVault$Version;)V"⟩, 5), List.mem_append_left _ (List.mem_of_getElem? (l := lw_privs_1) (i := 15) rfl), rfl⟩)) rfl
theorem s_V_cool : Cond.selects "RetentionVault" ⟨"RetentionVault", "cool", "(LRetentionVault$Version;I)V"⟩ ⟨"RetentionVault", "cool", "(LRetentionVault$Version;I)V"⟩ ∈ tb := tb_in (List.mem_append_left _ (List.mem_map.mpr ⟨(⟨"RetentionVault", "cool", "(LRetentionVault$Version;I)V"⟩, 5), List.mem_append_right _ (List.mem_append_left _ (List.mem_of_getElem? (l := lw_privs_2) (i := 0) rfl)), rfl⟩)) rfl
theorem s_V_expire : Cond.selects "RetentionVault" ⟨"RetentionVault", "expire", "(LRetentionVault$Version;)Z"⟩ ⟨"RetentionVault", "expire", "(LRetentionVault$Version;)Z"⟩ ∈ tb := tb_in (List.mem_append_left _ (List.mem_map.mpr ⟨(⟨"RetentionVault", "expire", "(LRetentionVault$Version;)Z"⟩, 5), List.mem_append_right _ (List.mem_append_left _ (List.mem_of_getElem? (l := lw_privs_2) (i := 1) rfl)), rfl⟩)) rfl
theorem s_V_takeLoneMarkersAway : Cond.selects "RetentionVault" ⟨"RetentionVault", "takeLoneMarkersAway", "()V"⟩ ⟨"RetentionVault", "takeLoneMarkersAway", "()V"⟩ ∈ tb := tb_in (List.mem_append_left _ (List.mem_map.mpr ⟨(⟨"RetentionVault", "takeLoneMarkersAway", "()V"⟩, 5), List.mem_append_right _ (List.mem_append_left _ (List.mem_of_getElem? (l := lw_privs_2) (i := 2) rfl)), rfl⟩)) rfl
theorem s_V_isAlone : Cond.selects "RetentionVault" ⟨"RetentionVault", "isAlone", "(LRetentionVault$Version;)Z"⟩ ⟨"RetentionVault", "isAlone", "(LRetentionVault$Version;)Z"⟩ ∈ tb := tb_in (List.mem_append_left _ (List.mem_map.mpr ⟨(⟨"RetentionVault", "isAlone", "(LRetentionVault$Version;)Z"⟩, 5), List.mem_append_right _ (List.mem_append_left _ (List.mem_of_getElem? (l := lw_privs_2) (i := 3) rfl)), rfl⟩)) rfl
theorem s_V_sumOfSizes : Cond.selects "RetentionVault" ⟨"RetentionVault", "sumOfSizes", "()I"⟩ ⟨"RetentionVault", "sumOfSizes", "()I"⟩ ∈ tb := tb_in (List.mem_append_left _ (List.mem_map.mpr ⟨(⟨"RetentionVault", "sumOfSizes", "()I"⟩, 5), List.mem_append_right _ (List.mem_append_left _ (List.mem_of_getElem? (l := lw_privs_2) (i := 4) rfl)), rfl⟩)) rfl
theorem s_V_countOfGuarded : Cond.selects "RetentionVault" ⟨"RetentionVault", "countOfGuarded", "()I"⟩ ⟨"RetentionVault", "countOfGuarded", "()I"⟩ ∈ tb := tb_in (List.mem_append_left _ (List.mem_map.mpr ⟨(⟨"RetentionVault", "countOfGuarded", "()I"⟩, 5), List.mem_append_right _ (List.mem_append_left _ (List.mem_of_getElem? (l := lw_privs_2) (i := 5) rfl)), rfl⟩)) rfl
theorem s_M_add : Cond.selects "RetentionVaultModel" ⟨"RetentionVaultModel", "add", "(III)I"⟩ ⟨"RetentionVaultModel", "add", "(III)I"⟩ ∈ tb := tb_in (List.mem_append_left _ (List.mem_map.mpr ⟨(⟨"RetentionVaultModel", "add", "(III)I"⟩, 23), List.mem_append_right _ (List.mem_append_left _ (List.mem_of_getElem? (l := lw_privs_2) (i := 6) rfl)), rfl⟩)) rfl
theorem s_M_currentOf : Cond.selects "RetentionVaultModel" ⟨"RetentionVaultModel", "currentOf", "(I)I"⟩ ⟨"RetentionVaultModel", "currentOf", "(I)I"⟩ ∈ tb := tb_in (List.mem_append_left _ (List.mem_map.mpr ⟨(⟨"RetentionVaultModel", "currentOf", "(I)I"⟩, 23), List.mem_append_right _ (List.mem_append_left _ (List.mem_of_getElem? (l := lw_privs_2) (i := 7) rfl)), rfl⟩)) rfl
theorem s_M_enter : Cond.selects "RetentionVaultModel" ⟨"RetentionVaultModel", "enter", "(III)V"⟩ ⟨"RetentionVaultModel", "enter", "(III)V"⟩ ∈ tb := tb_in (List.mem_append_left _ (List.mem_map.mpr ⟨(⟨"RetentionVaultModel", "enter", "(III)V"⟩, 23), List.mem_append_right _ (List.mem_append_left _ (List.mem_of_getElem? (l := lw_privs_2) (i := 8) rfl)), rfl⟩)) rfl
theorem s_M_find : Cond.selects "RetentionVaultModel" ⟨"RetentionVaultModel", "find", "(I)I"⟩ ⟨"RetentionVaultModel", "find", "(I)I"⟩ ∈ tb := tb_in (List.mem_append_left _ (List.mem_map.mpr ⟨(⟨"RetentionVaultModel", "find", "(I)I"⟩, 23), List.mem_append_right _ (List.mem_append_left _ (List.mem_of_getElem? (l := lw_privs_2) (i := 9) rfl)), rfl⟩)) rfl
theorem s_M_isRetained : Cond.selects "RetentionVaultModel" ⟨"RetentionVaultModel", "isRetained", "(I)Z"⟩ ⟨"RetentionVaultModel", "isRetained", "(I)Z"⟩ ∈ tb := tb_in (List.mem_append_left _ (List.mem_map.mpr ⟨(⟨"RetentionVaultModel", "isRetained", "(I)Z"⟩, 23), List.mem_append_right _ (List.mem_append_left _ (List.mem_of_getElem? (l := lw_privs_2) (i := 10) rfl)), rfl⟩)) rfl
theorem s_M_takeAway : Cond.selects "RetentionVaultModel" ⟨"RetentionVaultModel", "takeAway", "(I)V"⟩ ⟨"RetentionVaultModel", "takeAway", "(I)V"⟩ ∈ tb := tb_in (List.mem_append_left _ (List.mem_map.mpr ⟨(⟨"RetentionVaultModel", "takeAway", "(I)V"⟩, 23), List.mem_append_right _ (List.mem_append_left _ (List.mem_of_getElem? (l := lw_privs_2) (i := 11) rfl)), rfl⟩)) rfl
theorem s_M_object : Cond.selects "RetentionVaultModel" ⟨"RetentionVaultModel", "object", "(I)I"⟩ ⟨"RetentionVaultModel", "object", "(I)I"⟩ ∈ tb := tb_in (List.mem_append_left _ (List.mem_map.mpr ⟨(⟨"RetentionVaultModel", "object", "(I)I"⟩, 23), List.mem_append_right _ (List.mem_append_left _ (List.mem_of_getElem? (l := lw_privs_2) (i := 12) rfl)), rfl⟩)) rfl
theorem s_M_begin : Cond.selects "RetentionVaultModel" ⟨"RetentionVaultModel", "begin", "()V"⟩ ⟨"RetentionVaultModel", "begin", "()V"⟩ ∈ tb := tb_in (List.mem_append_left _ (List.mem_map.mpr ⟨(⟨"RetentionVaultModel", "begin", "()V"⟩, 23), List.mem_append_right _ (List.mem_append_left _ (List.mem_of_getElem? (l := lw_privs_2) (i := 13) rfl)), rfl⟩)) rfl
theorem s_M_go : Cond.selects "RetentionVaultModel" ⟨"RetentionVaultModel", "go", "(I)V"⟩ ⟨"RetentionVaultModel", "go", "(I)V"⟩ ∈ tb := tb_in (List.mem_append_left _ (List.mem_map.mpr ⟨(⟨"RetentionVaultModel", "go", "(I)V"⟩, 23), List.mem_append_right _ (List.mem_append_left _ (List.mem_of_getElem? (l := lw_privs_2) (i := 14) rfl)), rfl⟩)) rfl
theorem s_M_isDue : Cond.selects "RetentionVaultModel" ⟨"RetentionVaultModel", "isDue", "(II)Z"⟩ ⟨"RetentionVaultModel", "isDue", "(II)Z"⟩ ∈ tb := tb_in (List.mem_append_left _ (List.mem_map.mpr ⟨(⟨"RetentionVaultModel", "isDue", "(II)Z"⟩, 23), List.mem_append_right _ (List.mem_append_left _ (List.mem_of_getElem? (l := lw_privs_2) (i := 15) rfl)), rfl⟩)) rfl
theorem s_M_isCurrent : Cond.selects "RetentionVaultModel" ⟨"RetentionVaultModel", "isCurrent", "(I)Z"⟩ ⟨"RetentionVaultModel", "isCurrent", "(I)Z"⟩ ∈ tb := tb_in (List.mem_append_left _ (List.mem_map.mpr ⟨(⟨"RetentionVaultModel", "isCurrent", "(I)Z"⟩, 23), List.mem_append_right _ (List.mem_append_right _ (List.mem_of_getElem? (l := lw_privs_3) (i := 0) rfl)), rfl⟩)) rfl
theorem s_M_since : Cond.selects "RetentionVaultModel" ⟨"RetentionVaultModel", "since", "(I)I"⟩ ⟨"RetentionVaultModel", "since", "(I)I"⟩ ∈ tb := tb_in (List.mem_append_left _ (List.mem_map.mpr ⟨(⟨"RetentionVaultModel", "since", "(I)I"⟩, 23), List.mem_append_right _ (List.mem_append_right _ (List.mem_of_getElem? (l := lw_privs_3) (i := 1) rfl)), rfl⟩)) rfl
theorem s_M_isGuarded : Cond.selects "RetentionVaultModel" ⟨"RetentionVaultModel", "isGuarded", "(I)Z"⟩ ⟨"RetentionVaultModel", "isGuarded", "(I)Z"⟩ ∈ tb := tb_in (List.mem_append_left _ (List.mem_map.mpr ⟨(⟨"RetentionVaultModel", "isGuarded", "(I)Z"⟩, 23), List.mem_append_right _ (List.mem_append_right _ (List.mem_of_getElem? (l := lw_privs_3) (i := 2) rfl)), rfl⟩)) rfl
theorem s_M_versionsOf : Cond.selects "RetentionVaultModel" ⟨"RetentionVaultModel", "versionsOf", "(I)I"⟩ ⟨"RetentionVaultModel", "versionsOf", "(I)I"⟩ ∈ tb := tb_in (List.mem_append_left _ (List.mem_map.mpr ⟨(⟨"RetentionVaultModel", "versionsOf", "(I)I"⟩, 23), List.mem_append_right _ (List.mem_append_right _ (List.mem_of_getElem? (l := lw_privs_3) (i := 3) rfl)), rfl⟩)) rfl
def RV : String := "RetentionVault"
def FV : u_T := fun k => match k with
  | 0 => ("RetentionVault", "versions", "Ljava/util/ArrayList;", true)
  | 1 => ("RetentionVault", "rules", "[LRetentionVault$Rule;", true)
  | 2 => ("RetentionVault", "log", "LRetentionVault$Log;", true)
  | 3 => ("RetentionVault", "day", "I", false)
  | _ => ("RetentionVault", "everPut", "I", false)
def TV : Nat → FieldType := fun k => match k with
  | 0 => .object "java/util/ArrayList"
  | 1 => .array (.object "RetentionVault$Rule")
  | 2 => .object "RetentionVault$Log"
  | 3 => .int
  | _ => .int
theorem nmV : ∀ a, a < 5 → ∀ b, b < 5 → a ≠ b → (FV a).2.1 ≠ (FV b).2.1 := by decide +kernel
theorem tyV : ∀ k, k < 5 → parseFieldDescriptor (FV k).2.2.1 = some (TV k) := by decide +kernel
theorem inV : ∀ z ∈ u_ws RV FV 5, z ∈ tb := by
  show ∀ z ∈ [(Jvm.Cond.laysFinal "RetentionVault" "RetentionVault" "versions" "Ljava/util/ArrayList;"), (Jvm.Cond.laysFinal "RetentionVault" "RetentionVault" "rules" "[LRetentionVault$Rule;"), (Jvm.Cond.laysFinal "RetentionVault" "RetentionVault" "log" "LRetentionVault$Log;"), (Jvm.Cond.lays "RetentionVault" "RetentionVault" "day" "I"), (Jvm.Cond.lays "RetentionVault" "RetentionVault" "everPut" "I")], z ∈ tb
  exact List.forall_mem_cons.mpr ⟨w_102, List.forall_mem_cons.mpr ⟨w_104, List.forall_mem_cons.mpr ⟨w_106, List.forall_mem_cons.mpr ⟨w_108, List.forall_mem_cons.mpr ⟨w_110, fun _ h => absurd h List.not_mem_nil⟩⟩⟩⟩⟩
def RG : String := "RetentionVault$Log"
def FG : u_T := fun k => match k with
  | 0 => ("RetentionVault$Log", "ring", "[I", true)
  | 1 => ("RetentionVault$Log", "written", "I", false)
  | _ => ("RetentionVault$Log", "chain", "J", false)
def TG : Nat → FieldType := fun k => match k with
  | 0 => .array .int
  | 1 => .int
  | _ => .long
theorem nmG : ∀ a, a < 3 → ∀ b, b < 3 → a ≠ b → (FG a).2.1 ≠ (FG b).2.1 := by decide +kernel
theorem tyG : ∀ k, k < 3 → parseFieldDescriptor (FG k).2.2.1 = some (TG k) := by decide +kernel
theorem inG : ∀ z ∈ u_ws RG FG 3, z ∈ tb := by
  show ∀ z ∈ [(Jvm.Cond.laysFinal "RetentionVault$Log" "RetentionVault$Log" "ring" "[I"), (Jvm.Cond.lays "RetentionVault$Log" "RetentionVault$Log" "written" "I"), (Jvm.Cond.lays "RetentionVault$Log" "RetentionVault$Log" "chain" "J")], z ∈ tb
  exact List.forall_mem_cons.mpr ⟨w_89, List.forall_mem_cons.mpr ⟨w_91, List.forall_mem_cons.mpr ⟨w_93, fun _ h => absurd h List.not_mem_nil⟩⟩⟩
def RU : String := "RetentionVault$Rule"
def FU : u_T := fun k => match k with
  | 0 => ("RetentionVault$Rule", "tag", "I", false)
  | 1 => ("RetentionVault$Rule", "forCurrent", "Z", false)
  | 2 => ("RetentionVault$Rule", "days", "I", false)
  | _ => ("RetentionVault$Rule", "action", "I", false)
def TU : Nat → FieldType := fun k => match k with
  | 0 => .int
  | 1 => .boolean
  | 2 => .int
  | _ => .int
theorem nmU : ∀ a, a < 4 → ∀ b, b < 4 → a ≠ b → (FU a).2.1 ≠ (FU b).2.1 := by decide +kernel
theorem tyU : ∀ k, k < 4 → parseFieldDescriptor (FU k).2.2.1 = some (TU k) := by decide +kernel
theorem inU : ∀ z ∈ u_ws RU FU 4, z ∈ tb := by
  show ∀ z ∈ [(Jvm.Cond.lays "RetentionVault$Rule" "RetentionVault$Rule" "tag" "I"), (Jvm.Cond.lays "RetentionVault$Rule" "RetentionVault$Rule" "forCurrent" "Z"), (Jvm.Cond.lays "RetentionVault$Rule" "RetentionVault$Rule" "days" "I"), (Jvm.Cond.lays "RetentionVault$Rule" "RetentionVault$Rule" "action" "I")], z ∈ tb
  exact List.forall_mem_cons.mpr ⟨w_68, List.forall_mem_cons.mpr ⟨w_70, List.forall_mem_cons.mpr ⟨w_72, List.forall_mem_cons.mpr ⟨w_74, fun _ h => absurd h List.not_mem_nil⟩⟩⟩⟩
def RN : String := "RetentionVault$Version"
def FN : u_T := fun k => match k with
  | 0 => ("RetentionVault$Version", "number", "I", true)
  | 1 => ("RetentionVault$Version", "key", "I", true)
  | 2 => ("RetentionVault$Version", "putDay", "I", true)
  | 3 => ("RetentionVault$Version", "size", "I", false)
  | 4 => ("RetentionVault$Version", "tag", "I", false)
  | 5 => ("RetentionVault$Version", "tier", "I", false)
  | 6 => ("RetentionVault$Version", "isCurrent", "Z", false)
  | 7 => ("RetentionVault$Version", "ceasedDay", "I", false)
  | 8 => ("RetentionVault$Version", "retainedUntil", "I", false)
  | 9 => ("RetentionVault$Version", "strict", "Z", false)
  | 10 => ("RetentionVault$Version", "holds", "I", false)
  | 11 => ("RetentionVault$Version", "readableFrom", "I", false)
  | _ => ("RetentionVault$Version", "readableBefore", "I", false)
def TN : Nat → FieldType := fun k => match k with
  | 0 => .int
  | 1 => .int
  | 2 => .int
  | 3 => .int
  | 4 => .int
  | 5 => .int
  | 6 => .boolean
  | 7 => .int
  | 8 => .int
  | 9 => .boolean
  | 10 => .int
  | 11 => .int
  | _ => .int
theorem nmN : ∀ a, a < 13 → ∀ b, b < 13 → a ≠ b → (FN a).2.1 ≠ (FN b).2.1 := by decide +kernel
theorem tyN : ∀ k, k < 13 → parseFieldDescriptor (FN k).2.2.1 = some (TN k) := by decide +kernel
theorem inN : ∀ z ∈ u_ws RN FN 13, z ∈ tb := by
  show ∀ z ∈ [(Jvm.Cond.laysFinal "RetentionVault$Version" "RetentionVault$Version" "number" "I"), (Jvm.Cond.laysFinal "RetentionVault$Version" "RetentionVault$Version" "key" "I"), (Jvm.Cond.laysFinal "RetentionVault$Version" "RetentionVault$Version" "putDay" "I"), (Jvm.Cond.lays "RetentionVault$Version" "RetentionVault$Version" "size" "I"), (Jvm.Cond.lays "RetentionVault$Version" "RetentionVault$Version" "tag" "I"), (Jvm.Cond.lays "RetentionVault$Version" "RetentionVault$Version" "tier" "I"), (Jvm.Cond.lays "RetentionVault$Version" "RetentionVault$Version" "isCurrent" "Z"), (Jvm.Cond.lays "RetentionVault$Version" "RetentionVault$Version" "ceasedDay" "I"), (Jvm.Cond.lays "RetentionVault$Version" "RetentionVault$Version" "retainedUntil" "I"), (Jvm.Cond.lays "RetentionVault$Version" "RetentionVault$Version" "strict" "Z"), (Jvm.Cond.lays "RetentionVault$Version" "RetentionVault$Version" "holds" "I"), (Jvm.Cond.lays "RetentionVault$Version" "RetentionVault$Version" "readableFrom" "I"), (Jvm.Cond.lays "RetentionVault$Version" "RetentionVault$Version" "readableBefore" "I")], z ∈ tb
  exact List.forall_mem_cons.mpr ⟨w_262, List.forall_mem_cons.mpr ⟨w_264, List.forall_mem_cons.mpr ⟨w_266, List.forall_mem_cons.mpr ⟨w_268, List.forall_mem_cons.mpr ⟨w_270, List.forall_mem_cons.mpr ⟨w_272, List.forall_mem_cons.mpr ⟨w_274, List.forall_mem_cons.mpr ⟨w_276, List.forall_mem_cons.mpr ⟨w_278, List.forall_mem_cons.mpr ⟨w_280, List.forall_mem_cons.mpr ⟨w_282, List.forall_mem_cons.mpr ⟨w_284, List.forall_mem_cons.mpr ⟨w_286, fun _ h => absurd h List.not_mem_nil⟩⟩⟩⟩⟩⟩⟩⟩⟩⟩⟩⟩⟩
def RM : String := "RetentionVaultModel"
def FM : u_T := fun k => match k with
  | 0 => ("RetentionVaultModel", "code", "I", false)
  | 1 => ("RetentionVaultModel", "day", "I", false)
  | 2 => ("RetentionVaultModel", "made", "I", false)
  | 3 => ("RetentionVaultModel", "count", "I", false)
  | 4 => ("RetentionVaultModel", "number", "[I", true)
  | 5 => ("RetentionVaultModel", "key", "[I", true)
  | 6 => ("RetentionVaultModel", "size", "[I", true)
  | 7 => ("RetentionVaultModel", "tag", "[I", true)
  | 8 => ("RetentionVaultModel", "putOn", "[I", true)
  | 9 => ("RetentionVaultModel", "ceased", "[I", true)
  | 10 => ("RetentionVaultModel", "tier", "[I", true)
  | 11 => ("RetentionVaultModel", "until", "[I", true)
  | 12 => ("RetentionVaultModel", "strict", "[Z", true)
  | 13 => ("RetentionVaultModel", "holds", "[I", true)
  | 14 => ("RetentionVaultModel", "from", "[I", true)
  | 15 => ("RetentionVaultModel", "before", "[I", true)
  | 16 => ("RetentionVaultModel", "action", "[I", true)
  | 17 => ("RetentionVaultModel", "ruleTag", "[I", true)
  | 18 => ("RetentionVaultModel", "ruleCurrent", "[Z", true)
  | 19 => ("RetentionVaultModel", "ruleDays", "[I", true)
  | 20 => ("RetentionVaultModel", "entries", "I", false)
  | 21 => ("RetentionVaultModel", "log", "[I", true)
  | _ => ("RetentionVaultModel", "link", "J", false)
def TM : Nat → FieldType := fun k => match k with
  | 0 => .int
  | 1 => .int
  | 2 => .int
  | 3 => .int
  | 4 => .array .int
  | 5 => .array .int
  | 6 => .array .int
  | 7 => .array .int
  | 8 => .array .int
  | 9 => .array .int
  | 10 => .array .int
  | 11 => .array .int
  | 12 => .array .boolean
  | 13 => .array .int
  | 14 => .array .int
  | 15 => .array .int
  | 16 => .array .int
  | 17 => .array .int
  | 18 => .array .boolean
  | 19 => .array .int
  | 20 => .int
  | 21 => .array .int
  | _ => .long
theorem nmM : ∀ a, a < 23 → ∀ b, b < 23 → a ≠ b → (FM a).2.1 ≠ (FM b).2.1 := by decide +kernel
theorem tyM : ∀ k, k < 23 → parseFieldDescriptor (FM k).2.2.1 = some (TM k) := by decide +kernel
theorem inM : ∀ z ∈ u_ws RM FM 23, z ∈ tb := by
  show ∀ z ∈ [(Jvm.Cond.lays "RetentionVaultModel" "RetentionVaultModel" "code" "I"), (Jvm.Cond.lays "RetentionVaultModel" "RetentionVaultModel" "day" "I"), (Jvm.Cond.lays "RetentionVaultModel" "RetentionVaultModel" "made" "I"), (Jvm.Cond.lays "RetentionVaultModel" "RetentionVaultModel" "count" "I"), (Jvm.Cond.laysFinal "RetentionVaultModel" "RetentionVaultModel" "number" "[I"), (Jvm.Cond.laysFinal "RetentionVaultModel" "RetentionVaultModel" "key" "[I"), (Jvm.Cond.laysFinal "RetentionVaultModel" "RetentionVaultModel" "size" "[I"), (Jvm.Cond.laysFinal "RetentionVaultModel" "RetentionVaultModel" "tag" "[I"), (Jvm.Cond.laysFinal "RetentionVaultModel" "RetentionVaultModel" "putOn" "[I"), (Jvm.Cond.laysFinal "RetentionVaultModel" "RetentionVaultModel" "ceased" "[I"), (Jvm.Cond.laysFinal "RetentionVaultModel" "RetentionVaultModel" "tier" "[I"), (Jvm.Cond.laysFinal "RetentionVaultModel" "RetentionVaultModel" "until" "[I"), (Jvm.Cond.laysFinal "RetentionVaultModel" "RetentionVaultModel" "strict" "[Z"), (Jvm.Cond.laysFinal "RetentionVaultModel" "RetentionVaultModel" "holds" "[I"), (Jvm.Cond.laysFinal "RetentionVaultModel" "RetentionVaultModel" "from" "[I"), (Jvm.Cond.laysFinal "RetentionVaultModel" "RetentionVaultModel" "before" "[I"), (Jvm.Cond.laysFinal "RetentionVaultModel" "RetentionVaultModel" "action" "[I"), (Jvm.Cond.laysFinal "RetentionVaultModel" "RetentionVaultModel" "ruleTag" "[I"), (Jvm.Cond.laysFinal "RetentionVaultModel" "RetentionVaultModel" "ruleCurrent" "[Z"), (Jvm.Cond.laysFinal "RetentionVaultModel" "RetentionVaultModel" "ruleDays" "[I"), (Jvm.Cond.lays "RetentionVaultModel" "RetentionVaultModel" "entries" "I"), (Jvm.Cond.laysFinal "RetentionVaultModel" "RetentionVaultModel" "log" "[I"), (Jvm.Cond.lays "RetentionVaultModel" "RetentionVaultModel" "link" "J")], z ∈ tb
  exact List.forall_mem_cons.mpr ⟨w_660, List.forall_mem_cons.mpr ⟨w_662, List.forall_mem_cons.mpr ⟨w_664, List.forall_mem_cons.mpr ⟨w_666, List.forall_mem_cons.mpr ⟨w_668, List.forall_mem_cons.mpr ⟨w_670, List.forall_mem_cons.mpr ⟨w_672, List.forall_mem_cons.mpr ⟨w_674, List.forall_mem_cons.mpr ⟨w_676, List.forall_mem_cons.mpr ⟨w_678, List.forall_mem_cons.mpr ⟨w_680, List.forall_mem_cons.mpr ⟨w_682, List.forall_mem_cons.mpr ⟨w_684, List.forall_mem_cons.mpr ⟨w_686, List.forall_mem_cons.mpr ⟨w_688, List.forall_mem_cons.mpr ⟨w_690, List.forall_mem_cons.mpr ⟨w_692, List.forall_mem_cons.mpr ⟨w_694, List.forall_mem_cons.mpr ⟨w_696, List.forall_mem_cons.mpr ⟨w_698, List.forall_mem_cons.mpr ⟨w_700, List.forall_mem_cons.mpr ⟨w_702, List.forall_mem_cons.mpr ⟨w_704, fun _ h => absurd h List.not_mem_nil⟩⟩⟩⟩⟩⟩⟩⟩⟩⟩⟩⟩⟩⟩⟩⟩⟩⟩⟩⟩⟩⟩⟩
def RA : String := "java/util/ArrayList"
def FA : u_T := fun k => match k with
  | 0 => ("java/util/AbstractList", "modCount", "I", false)
  | 1 => ("java/util/ArrayList", "elementData", "[Ljava/lang/Object;", false)
  | _ => ("java/util/ArrayList", "size", "I", false)
def TA : Nat → FieldType := fun k => match k with
  | 0 => .int
  | 1 => .array (.object "java/lang/Object")
  | _ => .int
theorem nmA : ∀ a, a < 3 → ∀ b, b < 3 → a ≠ b → (FA a).2.1 ≠ (FA b).2.1 := by decide +kernel
theorem tyA : ∀ k, k < 3 → parseFieldDescriptor (FA k).2.2.1 = some (TA k) := by decide +kernel
theorem inA : ∀ z ∈ u_ws RA FA 3, z ∈ tb := by
  show ∀ z ∈ [(Jvm.Cond.lays "java/util/ArrayList" "java/util/AbstractList" "modCount" "I"), (Jvm.Cond.lays "java/util/ArrayList" "java/util/ArrayList" "elementData" "[Ljava/lang/Object;"), (Jvm.Cond.lays "java/util/ArrayList" "java/util/ArrayList" "size" "I")], z ∈ tb
  exact List.forall_mem_cons.mpr ⟨w_53, List.forall_mem_cons.mpr ⟨w_49, List.forall_mem_cons.mpr ⟨w_51, fun _ h => absurd h List.not_mem_nil⟩⟩⟩
abbrev cls : List vw_C := [(RV, FV, 5), (RG, FG, 3), (RU, FU, 4), (RN, FN, 13), (RM, FM, 23), (RA, FA, 3)]
def y_V_init : MethodName := ⟨"RetentionVault", "<init>", "()V"⟩
def y_A_init : MethodName := ⟨"java/util/ArrayList", "<init>", "()V"⟩
def y_AL_init : MethodName := ⟨"java/util/AbstractList", "<init>", "()V"⟩
def y_AC_init : MethodName := ⟨"java/util/AbstractCollection", "<init>", "()V"⟩
def y_U_init : MethodName := ⟨"RetentionVault$Rule", "<init>", "()V"⟩
def y_G_init : MethodName := ⟨"RetentionVault$Log", "<init>", "()V"⟩
def y_V_link : MethodName := ⟨"RetentionVault", "link", "()J"⟩
def y_W_put : MethodName := ⟨"RetentionVaultLaw", "put", "(LRetentionVault;III[J)I"⟩
def y_V_put : MethodName := ⟨"RetentionVault", "put", "(III)I"⟩
def y_V_isWithin : MethodName := ⟨"RetentionVault", "isWithin", "(III)Z"⟩
def y_V_demand : MethodName := ⟨"RetentionVault", "demand", "(Z)V"⟩
def y_V_demandRoom : MethodName := ⟨"RetentionVault", "demandRoom", "()V"⟩
def y_V_isFull : MethodName := ⟨"RetentionVault", "isFull", "()Z"⟩
def y_A_size : MethodName := ⟨"java/util/ArrayList", "size", "()I"⟩
def y_N_init : MethodName := ⟨"RetentionVault$Version", "<init>", "(III)V"⟩
def y_N_makeObject : MethodName := ⟨"RetentionVault$Version", "makeObject", "(II)V"⟩
def y_V_add : MethodName := ⟨"RetentionVault", "add", "(LRetentionVault$Version;)I"⟩
def y_V_latestOf : MethodName := ⟨"RetentionVault", "latestOf", "(I)LRetentionVault$Version;"⟩
def y_A_get : MethodName := ⟨"java/util/ArrayList", "get", "(I)Ljava/lang/Object;"⟩
def y_OB_checkIndex : MethodName := ⟨"java/util/Objects", "checkIndex", "(II)I"⟩
def y_PC_checkIndex : MethodName := ⟨"jdk/internal/util/Preconditions", "checkIndex", "(IILjava/util/function/BiFunction;)I"⟩
def y_A_elementData : MethodName := ⟨"java/util/ArrayList", "elementData", "(I)Ljava/lang/Object;"⟩
def y_A_add0 : MethodName := ⟨"java/util/ArrayList", "add", "(Ljava/lang/Object;)Z"⟩
def y_A_add1 : MethodName := ⟨"java/util/ArrayList", "add", "(Ljava/lang/Object;[Ljava/lang/Object;I)V"⟩
def y_A_grow0 : MethodName := ⟨"java/util/ArrayList", "grow", "()[Ljava/lang/Object;"⟩
def y_A_grow1 : MethodName := ⟨"java/util/ArrayList", "grow", "(I)[Ljava/lang/Object;"⟩
def y_AS_newLength : MethodName := ⟨"jdk/internal/util/ArraysSupport", "newLength", "(III)I"⟩
def y_MA_max : MethodName := ⟨"java/lang/Math", "max", "(II)I"⟩
def y_AS_hugeLength : MethodName := ⟨"jdk/internal/util/ArraysSupport", "hugeLength", "(II)I"⟩
def y_AR_copyOf0 : MethodName := ⟨"java/util/Arrays", "copyOf", "([Ljava/lang/Object;I)[Ljava/lang/Object;"⟩
def y_AR_copyOf1 : MethodName := ⟨"java/util/Arrays", "copyOf", "([Ljava/lang/Object;ILjava/lang/Class;)[Ljava/lang/Object;"⟩
def y_MA_min : MethodName := ⟨"java/lang/Math", "min", "(II)I"⟩
def y_N_isMarker : MethodName := ⟨"RetentionVault$Version", "isMarker", "()Z"⟩
def y_G_write : MethodName := ⟨"RetentionVault$Log", "write", "(IIII)V"⟩
def y_G_placeOf : MethodName := ⟨"RetentionVault$Log", "placeOf", "(I)I"⟩
def y_G_append : MethodName := ⟨"RetentionVault$Log", "append", "(II)V"⟩
def y_W_mark : MethodName := ⟨"RetentionVaultLaw", "mark", "(LRetentionVault;I[J)I"⟩
def y_V_mark : MethodName := ⟨"RetentionVault", "mark", "(I)I"⟩
def y_V_currentObject : MethodName := ⟨"RetentionVault", "currentObject", "(I)LRetentionVault$Version;"⟩
def y_W_erase : MethodName := ⟨"RetentionVaultLaw", "erase", "(LRetentionVault;IZ[J)I"⟩
def y_V_erase : MethodName := ⟨"RetentionVault", "erase", "(IZ)I"⟩
def y_V_versionNumbered : MethodName := ⟨"RetentionVault", "versionNumbered", "(I)LRetentionVault$Version;"⟩
def y_N_isRetainedStrictly : MethodName := ⟨"RetentionVault$Version", "isRetainedStrictly", "(I)Z"⟩
def y_N_isRetained : MethodName := ⟨"RetentionVault$Version", "isRetained", "(I)Z"⟩
def y_N_isHeld : MethodName := ⟨"RetentionVault$Version", "isHeld", "()Z"⟩
def y_V_takeAway : MethodName := ⟨"RetentionVault", "takeAway", "(LRetentionVault$Version;)V"⟩
def y_A_remove : MethodName := ⟨"java/util/ArrayList", "remove", "(I)Ljava/lang/Object;"⟩
def y_A_fastRemove : MethodName := ⟨"java/util/ArrayList", "fastRemove", "([Ljava/lang/Object;I)V"⟩
def y_W_retain : MethodName := ⟨"RetentionVaultLaw", "retain", "(LRetentionVault;IIZ)I"⟩
def y_V_retain : MethodName := ⟨"RetentionVault", "retain", "(IIZ)V"⟩
def y_V_objectNumbered : MethodName := ⟨"RetentionVault", "objectNumbered", "(I)LRetentionVault$Version;"⟩
def y_W_hold : MethodName := ⟨"RetentionVaultLaw", "hold", "(LRetentionVault;IIZ[J)I"⟩
def y_V_hold : MethodName := ⟨"RetentionVault", "hold", "(IIZ)Z"⟩
def y_W_rule : MethodName := ⟨"RetentionVaultLaw", "rule", "(LRetentionVault;IIZII)I"⟩
def y_V_rule : MethodName := ⟨"RetentionVault", "rule", "(IIZII)V"⟩
def y_U_become : MethodName := ⟨"RetentionVault$Rule", "become", "(IZII)V"⟩
def y_W_unrule : MethodName := ⟨"RetentionVaultLaw", "unrule", "(LRetentionVault;I[J)I"⟩
def y_V_unrule : MethodName := ⟨"RetentionVault", "unrule", "(I)Z"⟩
def y_U_isEmpty : MethodName := ⟨"RetentionVault$Rule", "isEmpty", "()Z"⟩
def y_W_fetch : MethodName := ⟨"RetentionVaultLaw", "fetch", "(LRetentionVault;II[J)I"⟩
def y_V_fetch : MethodName := ⟨"RetentionVault", "fetch", "(II)I"⟩
def y_N_isCold : MethodName := ⟨"RetentionVault$Version", "isCold", "()Z"⟩
def y_W_read : MethodName := ⟨"RetentionVaultLaw", "read", "(LRetentionVault;I[J)I"⟩
def y_V_read : MethodName := ⟨"RetentionVault", "read", "(I)I"⟩
def y_N_isFetchedFor : MethodName := ⟨"RetentionVault$Version", "isFetchedFor", "(I)Z"⟩
def y_W_tick : MethodName := ⟨"RetentionVaultLaw", "tick", "(LRetentionVault;I[J)I"⟩
def y_V_tick : MethodName := ⟨"RetentionVault", "tick", "(I)I"⟩
def y_V_goThroughVersions : MethodName := ⟨"RetentionVault", "goThroughVersions", "()V"⟩
def y_V_goThroughRules : MethodName := ⟨"RetentionVault", "goThroughRules", "(LRetentionVault$Version;)V"⟩
def y_U_isDue : MethodName := ⟨"RetentionVault$Rule", "isDue", "(LRetentionVault$Version;I)Z"⟩
def y_N_since : MethodName := ⟨"RetentionVault$Version", "since", "()I"⟩
def y_V_cool : MethodName := ⟨"RetentionVault", "cool", "(LRetentionVault$Version;I)V"⟩
def y_V_expire : MethodName := ⟨"RetentionVault", "expire", "(LRetentionVault$Version;)Z"⟩
def y_N_isGuarded : MethodName := ⟨"RetentionVault$Version", "isGuarded", "(I)Z"⟩
def y_V_takeLoneMarkersAway : MethodName := ⟨"RetentionVault", "takeLoneMarkersAway", "()V"⟩
def y_V_isAlone : MethodName := ⟨"RetentionVault", "isAlone", "(LRetentionVault$Version;)Z"⟩
def y_W_current : MethodName := ⟨"RetentionVaultLaw", "current", "(LRetentionVault;I[J)I"⟩
def y_V_current : MethodName := ⟨"RetentionVault", "current", "(I)I"⟩
def y_W_about : MethodName := ⟨"RetentionVaultLaw", "about", "(LRetentionVault;II[J)I"⟩
def y_V_about : MethodName := ⟨"RetentionVault", "about", "(II)I"⟩
def y_W_entry : MethodName := ⟨"RetentionVaultLaw", "entry", "(LRetentionVault;II[J)I"⟩
def y_V_entry : MethodName := ⟨"RetentionVault", "entry", "(II)I"⟩
def y_G_keeps : MethodName := ⟨"RetentionVault$Log", "keeps", "(I)Z"⟩
def y_G_numberOf : MethodName := ⟨"RetentionVault$Log", "numberOf", "(II)I"⟩
def y_W_figure : MethodName := ⟨"RetentionVaultLaw", "figure", "(LRetentionVault;I[J)I"⟩
def y_V_figure : MethodName := ⟨"RetentionVault", "figure", "(I)I"⟩
def y_V_sumOfSizes : MethodName := ⟨"RetentionVault", "sumOfSizes", "()I"⟩
def y_V_countOfGuarded : MethodName := ⟨"RetentionVault", "countOfGuarded", "()I"⟩
def y_M_init : MethodName := ⟨"RetentionVaultModel", "<init>", "()V"⟩
def y_M_thrown : MethodName := ⟨"RetentionVaultModel", "thrown", "()I"⟩
def y_M_put : MethodName := ⟨"RetentionVaultModel", "put", "(III)I"⟩
def y_M_add : MethodName := ⟨"RetentionVaultModel", "add", "(III)I"⟩
def y_M_currentOf : MethodName := ⟨"RetentionVaultModel", "currentOf", "(I)I"⟩
def y_M_enter : MethodName := ⟨"RetentionVaultModel", "enter", "(III)V"⟩
def y_M_mark : MethodName := ⟨"RetentionVaultModel", "mark", "(I)I"⟩
def y_M_erase : MethodName := ⟨"RetentionVaultModel", "erase", "(IZ)I"⟩
def y_M_find : MethodName := ⟨"RetentionVaultModel", "find", "(I)I"⟩
def y_M_isRetained : MethodName := ⟨"RetentionVaultModel", "isRetained", "(I)Z"⟩
def y_M_takeAway : MethodName := ⟨"RetentionVaultModel", "takeAway", "(I)V"⟩
def y_M_retain : MethodName := ⟨"RetentionVaultModel", "retain", "(IIZ)V"⟩
def y_M_object : MethodName := ⟨"RetentionVaultModel", "object", "(I)I"⟩
def y_M_hold : MethodName := ⟨"RetentionVaultModel", "hold", "(IIZ)Z"⟩
def y_M_rule : MethodName := ⟨"RetentionVaultModel", "rule", "(IIZII)V"⟩
def y_M_unrule : MethodName := ⟨"RetentionVaultModel", "unrule", "(I)Z"⟩
def y_M_tick : MethodName := ⟨"RetentionVaultModel", "tick", "(I)I"⟩
def y_M_begin : MethodName := ⟨"RetentionVaultModel", "begin", "()V"⟩
def y_M_go : MethodName := ⟨"RetentionVaultModel", "go", "(I)V"⟩
def y_M_isDue : MethodName := ⟨"RetentionVaultModel", "isDue", "(II)Z"⟩
def y_M_isCurrent : MethodName := ⟨"RetentionVaultModel", "isCurrent", "(I)Z"⟩
def y_M_since : MethodName := ⟨"RetentionVaultModel", "since", "(I)I"⟩
def y_M_isGuarded : MethodName := ⟨"RetentionVaultModel", "isGuarded", "(I)Z"⟩
def y_M_versionsOf : MethodName := ⟨"RetentionVaultModel", "versionsOf", "(I)I"⟩
def y_M_fetch : MethodName := ⟨"RetentionVaultModel", "fetch", "(II)I"⟩
def y_M_read : MethodName := ⟨"RetentionVaultModel", "read", "(I)I"⟩
def y_M_current : MethodName := ⟨"RetentionVaultModel", "current", "(I)I"⟩
def y_M_about : MethodName := ⟨"RetentionVaultModel", "about", "(II)I"⟩
def y_M_entry : MethodName := ⟨"RetentionVaultModel", "entry", "(II)I"⟩
def y_M_link : MethodName := ⟨"RetentionVaultModel", "link", "()J"⟩
def y_M_figure : MethodName := ⟨"RetentionVaultModel", "figure", "(I)I"⟩
