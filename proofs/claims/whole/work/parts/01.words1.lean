-- WORDS of the tables, each by its place
theorem mt_0 : (.initialized "LayerQuantitiesLaw" : Cond) ∈ TW := tw_t (List.mem_of_getElem? (i := 0) (by decide +kernel)) rfl
theorem mt_1 : (.initialized "LayerQuantities" : Cond) ∈ TW := tw_t (List.mem_of_getElem? (i := 1) (by decide +kernel)) rfl
theorem mt_2 : (.initialized "LayerQuantities$Wall" : Cond) ∈ TW := tw_t (List.mem_of_getElem? (i := 2) (by decide +kernel)) rfl
theorem mt_3 : (.initialized "LayerQuantities$Shelf" : Cond) ∈ TW := tw_t (List.mem_of_getElem? (i := 3) (by decide +kernel)) rfl
theorem mt_4 : (.initialized "LayerQuantities$Saw" : Cond) ∈ TW := tw_t (List.mem_of_getElem? (i := 4) (by decide +kernel)) rfl
theorem mt_5 : (.initialized "LayerQuantitiesModel" : Cond) ∈ TW := tw_t (List.mem_of_getElem? (i := 5) (by decide +kernel)) rfl
theorem mt_6 : (.initialized "java/lang/Throwable" : Cond) ∈ TW := tw_t (List.mem_of_getElem? (i := 6) (by decide +kernel)) rfl
theorem mt_7 : (.initialized "java/lang/Exception" : Cond) ∈ TW := tw_t (List.mem_of_getElem? (i := 7) (by decide +kernel)) rfl
theorem mt_8 : (.initialized "java/lang/RuntimeException" : Cond) ∈ TW := tw_t (List.mem_of_getElem? (i := 8) (by decide +kernel)) rfl
theorem mt_9 : (.initialized "java/lang/IllegalArgumentException" : Cond) ∈ TW := tw_t (List.mem_of_getElem? (i := 9) (by decide +kernel)) rfl
theorem mt_10 : (.initialized "java/lang/IllegalStateException" : Cond) ∈ TW := tw_t (List.mem_of_getElem? (i := 10) (by decide +kernel)) rfl
theorem mt_11 : (.initialized "java/lang/Math" : Cond) ∈ TW := tw_t (List.mem_of_getElem? (i := 11) (by decide +kernel)) rfl
theorem mt_12 : (.initialized "java/util/Arrays" : Cond) ∈ TW := tw_t (List.mem_of_getElem? (i := 12) (by decide +kernel)) rfl
theorem mt_13 : (.initialized "java/lang/System" : Cond) ∈ TW := tw_t (List.mem_of_getElem? (i := 13) (by decide +kernel)) rfl
theorem mt_14 : (.classLink "LayerQuantitiesLaw" 8 "LayerQuantities" : Cond) ∈ TW := tw_t (List.mem_of_getElem? (i := 14) (by decide +kernel)) rfl
theorem mt_15 : (.instantiable "LayerQuantities" 5 : Cond) ∈ TW := tw_t (List.mem_of_getElem? (i := 15) (by decide +kernel)) rfl
theorem mt_16 : (.methodLink "LayerQuantitiesLaw" 60 ⟨"LayerQuantities", "<init>", "()V"⟩ : Cond) ∈ TW := tw_t (List.mem_of_getElem? (i := 16) (by decide +kernel)) rfl
theorem mt_17 : (.instanceMethod ⟨"LayerQuantities", "<init>", "()V"⟩ : Cond) ∈ TW := tw_t (List.mem_of_getElem? (i := 17) (by decide +kernel)) rfl
theorem mt_18 : (.code ⟨"LayerQuantities", "<init>", "()V"⟩ prog_1_method_1_code 2 none : Cond) ∈ TW := tw_t (List.mem_of_getElem? (i := 18) (by decide +kernel)) rfl
theorem mt_19 : (.methodLink "LayerQuantities" 3 ⟨"java/lang/Object", "<init>", "()V"⟩ : Cond) ∈ TW := tw_t (List.mem_of_getElem? (i := 19) (by decide +kernel)) rfl
theorem mt_20 : (.instanceMethod ⟨"java/lang/Object", "<init>", "()V"⟩ : Cond) ∈ TW := tw_t (List.mem_of_getElem? (i := 20) (by decide +kernel)) rfl
theorem mt_21 : (.code ⟨"java/lang/Object", "<init>", "()V"⟩ object_method_1_code 1 none : Cond) ∈ TW := tw_t (List.mem_of_getElem? (i := 21) (by decide +kernel)) rfl
theorem mt_22 : (.classLink "LayerQuantities" 9 "LayerQuantities$Wall" : Cond) ∈ TW := tw_t (List.mem_of_getElem? (i := 22) (by decide +kernel)) rfl
theorem mt_23 : (.arrayOver (.object "LayerQuantities$Wall") : Cond) ∈ TW := tw_t (List.mem_of_getElem? (i := 23) (by decide +kernel)) rfl
theorem mt_24 : (.instantiable "LayerQuantities$Wall" 4 : Cond) ∈ TW := tw_t (List.mem_of_getElem? (i := 24) (by decide +kernel)) rfl
theorem mt_25 : (.methodLinkNest "LayerQuantities" 15 ⟨"LayerQuantities$Wall", "<init>", "()V"⟩ "LayerQuantities" : Cond) ∈ TW := tw_t (List.mem_of_getElem? (i := 25) (by decide +kernel)) rfl
theorem mt_26 : (.instanceMethod ⟨"LayerQuantities$Wall", "<init>", "()V"⟩ : Cond) ∈ TW := tw_t (List.mem_of_getElem? (i := 26) (by decide +kernel)) rfl
theorem mt_27 : (.code ⟨"LayerQuantities$Wall", "<init>", "()V"⟩ prog_4_method_1_code 1 none : Cond) ∈ TW := tw_t (List.mem_of_getElem? (i := 27) (by decide +kernel)) rfl
theorem mt_28 : (.methodLink "LayerQuantities$Wall" 3 ⟨"java/lang/Object", "<init>", "()V"⟩ : Cond) ∈ TW := tw_t (List.mem_of_getElem? (i := 28) (by decide +kernel)) rfl
theorem mt_29 : (.fieldLinkNest "LayerQuantities" 46 "LayerQuantities$Wall" "area" "I" "LayerQuantities" : Cond) ∈ TW := tw_t (List.mem_of_getElem? (i := 29) (by decide +kernel)) rfl
theorem mt_30 : (.fieldLinkNest "LayerQuantities" 52 "LayerQuantities$Wall" "openingCount" "I" "LayerQuantities" : Cond) ∈ TW := tw_t (List.mem_of_getElem? (i := 30) (by decide +kernel)) rfl
theorem mt_31 : (.fieldLinkNest "LayerQuantities" 62 "LayerQuantities$Wall" "layerCount" "I" "LayerQuantities" : Cond) ∈ TW := tw_t (List.mem_of_getElem? (i := 31) (by decide +kernel)) rfl
theorem mt_32 : (.fieldLink "LayerQuantities$Wall" 9 "LayerQuantities$Wall" "thicknessOf" "[I" : Cond) ∈ TW := tw_t (List.mem_of_getElem? (i := 32) (by decide +kernel)) rfl
theorem mt_33 : (.fieldLinkNest "LayerQuantities" 65 "LayerQuantities$Wall" "thicknessOf" "[I" "LayerQuantities" : Cond) ∈ TW := tw_t (List.mem_of_getElem? (i := 33) (by decide +kernel)) rfl
theorem mt_34 : (.lays "LayerQuantities$Wall" "LayerQuantities$Wall" "area" "I" : Cond) ∈ TW := tw_t (List.mem_of_getElem? (i := 34) (by decide +kernel)) rfl
theorem mt_35 : (.soleField "LayerQuantities$Wall" "area" : Cond) ∈ TW := tw_t (List.mem_of_getElem? (i := 35) (by decide +kernel)) rfl
theorem mt_36 : (.lays "LayerQuantities$Wall" "LayerQuantities$Wall" "openingCount" "I" : Cond) ∈ TW := tw_t (List.mem_of_getElem? (i := 36) (by decide +kernel)) rfl
theorem mt_37 : (.soleField "LayerQuantities$Wall" "openingCount" : Cond) ∈ TW := tw_t (List.mem_of_getElem? (i := 37) (by decide +kernel)) rfl
theorem mt_38 : (.lays "LayerQuantities$Wall" "LayerQuantities$Wall" "layerCount" "I" : Cond) ∈ TW := tw_t (List.mem_of_getElem? (i := 38) (by decide +kernel)) rfl
theorem mt_39 : (.soleField "LayerQuantities$Wall" "layerCount" : Cond) ∈ TW := tw_t (List.mem_of_getElem? (i := 39) (by decide +kernel)) rfl
theorem mt_40 : (.laysFinal "LayerQuantities$Wall" "LayerQuantities$Wall" "thicknessOf" "[I" : Cond) ∈ TW := tw_t (List.mem_of_getElem? (i := 40) (by decide +kernel)) rfl
theorem mt_41 : (.soleField "LayerQuantities$Wall" "thicknessOf" : Cond) ∈ TW := tw_t (List.mem_of_getElem? (i := 41) (by decide +kernel)) rfl
theorem mt_42 : (.superclass "LayerQuantities$Wall" "java/lang/Object" : Cond) ∈ TW := tw_t (List.mem_of_getElem? (i := 42) (by decide +kernel)) rfl
theorem mt_43 : (.arrayClass .int : Cond) ∈ TW := tw_t (List.mem_of_getElem? (i := 43) (by decide +kernel)) rfl
theorem mt_44 : (.classLink "LayerQuantities" 20 "LayerQuantities$Shelf" : Cond) ∈ TW := tw_t (List.mem_of_getElem? (i := 44) (by decide +kernel)) rfl
theorem mt_45 : (.arrayOver (.object "LayerQuantities$Shelf") : Cond) ∈ TW := tw_t (List.mem_of_getElem? (i := 45) (by decide +kernel)) rfl
theorem mt_46 : (.instantiable "LayerQuantities$Shelf" 10 : Cond) ∈ TW := tw_t (List.mem_of_getElem? (i := 46) (by decide +kernel)) rfl
theorem mt_47 : (.methodLinkNest "LayerQuantities" 26 ⟨"LayerQuantities$Shelf", "<init>", "()V"⟩ "LayerQuantities" : Cond) ∈ TW := tw_t (List.mem_of_getElem? (i := 47) (by decide +kernel)) rfl
theorem mt_48 : (.instanceMethod ⟨"LayerQuantities$Shelf", "<init>", "()V"⟩ : Cond) ∈ TW := tw_t (List.mem_of_getElem? (i := 48) (by decide +kernel)) rfl
theorem mt_49 : (.code ⟨"LayerQuantities$Shelf", "<init>", "()V"⟩ prog_3_method_1_code 1 none : Cond) ∈ TW := tw_t (List.mem_of_getElem? (i := 49) (by decide +kernel)) rfl
theorem mt_50 : (.methodLink "LayerQuantities$Shelf" 3 ⟨"java/lang/Object", "<init>", "()V"⟩ : Cond) ∈ TW := tw_t (List.mem_of_getElem? (i := 50) (by decide +kernel)) rfl
theorem mt_51 : (.constantLong "LayerQuantities$Shelf" 30 (-1) : Cond) ∈ TW := tw_t (List.mem_of_getElem? (i := 51) (by decide +kernel)) rfl
theorem mt_52 : (.fieldLink "LayerQuantities$Shelf" 36 "LayerQuantities$Shelf" "kinds" "I" : Cond) ∈ TW := tw_t (List.mem_of_getElem? (i := 52) (by decide +kernel)) rfl
theorem mt_53 : (.fieldLinkNest "LayerQuantities" 78 "LayerQuantities$Shelf" "kinds" "I" "LayerQuantities" : Cond) ∈ TW := tw_t (List.mem_of_getElem? (i := 53) (by decide +kernel)) rfl
theorem mt_54 : (.fieldLink "LayerQuantities$Shelf" 9 "LayerQuantities$Shelf" "much" "[I" : Cond) ∈ TW := tw_t (List.mem_of_getElem? (i := 54) (by decide +kernel)) rfl
theorem mt_55 : (.fieldLink "LayerQuantities$Shelf" 15 "LayerQuantities$Shelf" "price" "[I" : Cond) ∈ TW := tw_t (List.mem_of_getElem? (i := 55) (by decide +kernel)) rfl
theorem mt_56 : (.fieldLink "LayerQuantities$Shelf" 18 "LayerQuantities$Shelf" "biggest" "[I" : Cond) ∈ TW := tw_t (List.mem_of_getElem? (i := 56) (by decide +kernel)) rfl
theorem mt_57 : (.fieldLink "LayerQuantities$Shelf" 21 "LayerQuantities$Shelf" "cheapest" "[I" : Cond) ∈ TW := tw_t (List.mem_of_getElem? (i := 57) (by decide +kernel)) rfl
theorem mt_58 : (.fieldLink "LayerQuantities$Shelf" 24 "LayerQuantities$Shelf" "tried" "[I" : Cond) ∈ TW := tw_t (List.mem_of_getElem? (i := 58) (by decide +kernel)) rfl
theorem mt_59 : (.fieldLink "LayerQuantities$Shelf" 27 "LayerQuantities$Shelf" "best" "[I" : Cond) ∈ TW := tw_t (List.mem_of_getElem? (i := 59) (by decide +kernel)) rfl
theorem mt_60 : (.fieldLink "LayerQuantities$Shelf" 47 "LayerQuantities$Shelf" "bestPrice" "I" : Cond) ∈ TW := tw_t (List.mem_of_getElem? (i := 60) (by decide +kernel)) rfl
theorem mt_61 : (.fieldLink "LayerQuantities$Shelf" 55 "LayerQuantities$Shelf" "bestCount" "I" : Cond) ∈ TW := tw_t (List.mem_of_getElem? (i := 61) (by decide +kernel)) rfl
theorem mt_62 : (.fieldLink "LayerQuantities$Shelf" 32 "LayerQuantities$Shelf" "searchedFor" "J" : Cond) ∈ TW := tw_t (List.mem_of_getElem? (i := 62) (by decide +kernel)) rfl
theorem mt_63 : (.lays "LayerQuantities$Shelf" "LayerQuantities$Shelf" "kinds" "I" : Cond) ∈ TW := tw_t (List.mem_of_getElem? (i := 63) (by decide +kernel)) rfl
theorem mt_64 : (.soleField "LayerQuantities$Shelf" "kinds" : Cond) ∈ TW := tw_t (List.mem_of_getElem? (i := 64) (by decide +kernel)) rfl
theorem mt_65 : (.laysFinal "LayerQuantities$Shelf" "LayerQuantities$Shelf" "much" "[I" : Cond) ∈ TW := tw_t (List.mem_of_getElem? (i := 65) (by decide +kernel)) rfl
theorem mt_66 : (.soleField "LayerQuantities$Shelf" "much" : Cond) ∈ TW := tw_t (List.mem_of_getElem? (i := 66) (by decide +kernel)) rfl
theorem mt_67 : (.laysFinal "LayerQuantities$Shelf" "LayerQuantities$Shelf" "price" "[I" : Cond) ∈ TW := tw_t (List.mem_of_getElem? (i := 67) (by decide +kernel)) rfl
theorem mt_68 : (.soleField "LayerQuantities$Shelf" "price" : Cond) ∈ TW := tw_t (List.mem_of_getElem? (i := 68) (by decide +kernel)) rfl
theorem mt_69 : (.laysFinal "LayerQuantities$Shelf" "LayerQuantities$Shelf" "biggest" "[I" : Cond) ∈ TW := tw_t (List.mem_of_getElem? (i := 69) (by decide +kernel)) rfl
theorem mt_70 : (.soleField "LayerQuantities$Shelf" "biggest" : Cond) ∈ TW := tw_t (List.mem_of_getElem? (i := 70) (by decide +kernel)) rfl
theorem mt_71 : (.laysFinal "LayerQuantities$Shelf" "LayerQuantities$Shelf" "cheapest" "[I" : Cond) ∈ TW := tw_t (List.mem_of_getElem? (i := 71) (by decide +kernel)) rfl
theorem mt_72 : (.soleField "LayerQuantities$Shelf" "cheapest" : Cond) ∈ TW := tw_t (List.mem_of_getElem? (i := 72) (by decide +kernel)) rfl
theorem mt_73 : (.laysFinal "LayerQuantities$Shelf" "LayerQuantities$Shelf" "tried" "[I" : Cond) ∈ TW := tw_t (List.mem_of_getElem? (i := 73) (by decide +kernel)) rfl
theorem mt_74 : (.soleField "LayerQuantities$Shelf" "tried" : Cond) ∈ TW := tw_t (List.mem_of_getElem? (i := 74) (by decide +kernel)) rfl
theorem mt_75 : (.laysFinal "LayerQuantities$Shelf" "LayerQuantities$Shelf" "best" "[I" : Cond) ∈ TW := tw_t (List.mem_of_getElem? (i := 75) (by decide +kernel)) rfl
theorem mt_76 : (.soleField "LayerQuantities$Shelf" "best" : Cond) ∈ TW := tw_t (List.mem_of_getElem? (i := 76) (by decide +kernel)) rfl
theorem mt_77 : (.lays "LayerQuantities$Shelf" "LayerQuantities$Shelf" "bestPrice" "I" : Cond) ∈ TW := tw_t (List.mem_of_getElem? (i := 77) (by decide +kernel)) rfl
theorem mt_78 : (.soleField "LayerQuantities$Shelf" "bestPrice" : Cond) ∈ TW := tw_t (List.mem_of_getElem? (i := 78) (by decide +kernel)) rfl
theorem mt_79 : (.lays "LayerQuantities$Shelf" "LayerQuantities$Shelf" "bestCount" "I" : Cond) ∈ TW := tw_t (List.mem_of_getElem? (i := 79) (by decide +kernel)) rfl
theorem mt_80 : (.soleField "LayerQuantities$Shelf" "bestCount" : Cond) ∈ TW := tw_t (List.mem_of_getElem? (i := 80) (by decide +kernel)) rfl
theorem mt_81 : (.lays "LayerQuantities$Shelf" "LayerQuantities$Shelf" "searchedFor" "J" : Cond) ∈ TW := tw_t (List.mem_of_getElem? (i := 81) (by decide +kernel)) rfl
theorem mt_82 : (.soleField "LayerQuantities$Shelf" "searchedFor" : Cond) ∈ TW := tw_t (List.mem_of_getElem? (i := 82) (by decide +kernel)) rfl
theorem mt_83 : (.superclass "LayerQuantities$Shelf" "java/lang/Object" : Cond) ∈ TW := tw_t (List.mem_of_getElem? (i := 83) (by decide +kernel)) rfl
theorem mt_84 : (.classLink "LayerQuantities" 27 "LayerQuantities$Saw" : Cond) ∈ TW := tw_t (List.mem_of_getElem? (i := 84) (by decide +kernel)) rfl
theorem mt_85 : (.instantiable "LayerQuantities$Saw" 10 : Cond) ∈ TW := tw_t (List.mem_of_getElem? (i := 85) (by decide +kernel)) rfl
theorem mt_86 : (.methodLinkNest "LayerQuantities" 29 ⟨"LayerQuantities$Saw", "<init>", "()V"⟩ "LayerQuantities" : Cond) ∈ TW := tw_t (List.mem_of_getElem? (i := 86) (by decide +kernel)) rfl
theorem mt_87 : (.instanceMethod ⟨"LayerQuantities$Saw", "<init>", "()V"⟩ : Cond) ∈ TW := tw_t (List.mem_of_getElem? (i := 87) (by decide +kernel)) rfl
theorem mt_88 : (.code ⟨"LayerQuantities$Saw", "<init>", "()V"⟩ prog_2_method_1_code 1 none : Cond) ∈ TW := tw_t (List.mem_of_getElem? (i := 88) (by decide +kernel)) rfl
theorem mt_89 : (.methodLink "LayerQuantities$Saw" 3 ⟨"java/lang/Object", "<init>", "()V"⟩ : Cond) ∈ TW := tw_t (List.mem_of_getElem? (i := 89) (by decide +kernel)) rfl
theorem mt_90 : (.fieldLink "LayerQuantities$Saw" 9 "LayerQuantities$Saw" "barLength" "I" : Cond) ∈ TW := tw_t (List.mem_of_getElem? (i := 90) (by decide +kernel)) rfl
theorem mt_91 : (.fieldLinkNest "LayerQuantities" 110 "LayerQuantities$Saw" "barLength" "I" "LayerQuantities" : Cond) ∈ TW := tw_t (List.mem_of_getElem? (i := 91) (by decide +kernel)) rfl
theorem mt_92 : (.fieldLink "LayerQuantities$Saw" 40 "LayerQuantities$Saw" "cut" "I" : Cond) ∈ TW := tw_t (List.mem_of_getElem? (i := 92) (by decide +kernel)) rfl
theorem mt_93 : (.fieldLink "LayerQuantities$Saw" 31 "LayerQuantities$Saw" "pieceCount" "I" : Cond) ∈ TW := tw_t (List.mem_of_getElem? (i := 93) (by decide +kernel)) rfl
theorem mt_94 : (.fieldLinkNest "LayerQuantities" 113 "LayerQuantities$Saw" "pieceCount" "I" "LayerQuantities" : Cond) ∈ TW := tw_t (List.mem_of_getElem? (i := 94) (by decide +kernel)) rfl
theorem mt_95 : (.fieldLink "LayerQuantities$Saw" 15 "LayerQuantities$Saw" "lengths" "[I" : Cond) ∈ TW := tw_t (List.mem_of_getElem? (i := 95) (by decide +kernel)) rfl
theorem mt_96 : (.fieldLink "LayerQuantities$Saw" 43 "LayerQuantities$Saw" "planned" "Z" : Cond) ∈ TW := tw_t (List.mem_of_getElem? (i := 96) (by decide +kernel)) rfl
theorem mt_97 : (.fieldLink "LayerQuantities$Saw" 50 "LayerQuantities$Saw" "barCount" "I" : Cond) ∈ TW := tw_t (List.mem_of_getElem? (i := 97) (by decide +kernel)) rfl
theorem mt_98 : (.fieldLinkNest "LayerQuantities" 126 "LayerQuantities$Saw" "barCount" "I" "LayerQuantities" : Cond) ∈ TW := tw_t (List.mem_of_getElem? (i := 98) (by decide +kernel)) rfl
theorem mt_99 : (.fieldLink "LayerQuantities$Saw" 19 "LayerQuantities$Saw" "barOf" "[I" : Cond) ∈ TW := tw_t (List.mem_of_getElem? (i := 99) (by decide +kernel)) rfl
theorem mt_100 : (.fieldLinkNest "LayerQuantities" 129 "LayerQuantities$Saw" "barOf" "[I" "LayerQuantities" : Cond) ∈ TW := tw_t (List.mem_of_getElem? (i := 100) (by decide +kernel)) rfl
theorem mt_101 : (.fieldLink "LayerQuantities$Saw" 22 "LayerQuantities$Saw" "free" "[I" : Cond) ∈ TW := tw_t (List.mem_of_getElem? (i := 101) (by decide +kernel)) rfl
theorem mt_102 : (.fieldLinkNest "LayerQuantities" 132 "LayerQuantities$Saw" "free" "[I" "LayerQuantities" : Cond) ∈ TW := tw_t (List.mem_of_getElem? (i := 102) (by decide +kernel)) rfl
theorem mt_103 : (.fieldLink "LayerQuantities$Saw" 25 "LayerQuantities$Saw" "load" "[I" : Cond) ∈ TW := tw_t (List.mem_of_getElem? (i := 103) (by decide +kernel)) rfl
theorem mt_104 : (.fieldLink "LayerQuantities$Saw" 28 "LayerQuantities$Saw" "smallest" "[I" : Cond) ∈ TW := tw_t (List.mem_of_getElem? (i := 104) (by decide +kernel)) rfl
theorem mt_105 : (.lays "LayerQuantities$Saw" "LayerQuantities$Saw" "barLength" "I" : Cond) ∈ TW := tw_t (List.mem_of_getElem? (i := 105) (by decide +kernel)) rfl
theorem mt_106 : (.soleField "LayerQuantities$Saw" "barLength" : Cond) ∈ TW := tw_t (List.mem_of_getElem? (i := 106) (by decide +kernel)) rfl
theorem mt_107 : (.lays "LayerQuantities$Saw" "LayerQuantities$Saw" "cut" "I" : Cond) ∈ TW := tw_t (List.mem_of_getElem? (i := 107) (by decide +kernel)) rfl
theorem mt_108 : (.soleField "LayerQuantities$Saw" "cut" : Cond) ∈ TW := tw_t (List.mem_of_getElem? (i := 108) (by decide +kernel)) rfl
theorem mt_109 : (.lays "LayerQuantities$Saw" "LayerQuantities$Saw" "pieceCount" "I" : Cond) ∈ TW := tw_t (List.mem_of_getElem? (i := 109) (by decide +kernel)) rfl
theorem mt_110 : (.soleField "LayerQuantities$Saw" "pieceCount" : Cond) ∈ TW := tw_t (List.mem_of_getElem? (i := 110) (by decide +kernel)) rfl
theorem mt_111 : (.laysFinal "LayerQuantities$Saw" "LayerQuantities$Saw" "lengths" "[I" : Cond) ∈ TW := tw_t (List.mem_of_getElem? (i := 111) (by decide +kernel)) rfl
theorem mt_112 : (.soleField "LayerQuantities$Saw" "lengths" : Cond) ∈ TW := tw_t (List.mem_of_getElem? (i := 112) (by decide +kernel)) rfl
theorem mt_113 : (.lays "LayerQuantities$Saw" "LayerQuantities$Saw" "planned" "Z" : Cond) ∈ TW := tw_t (List.mem_of_getElem? (i := 113) (by decide +kernel)) rfl
theorem mt_114 : (.soleField "LayerQuantities$Saw" "planned" : Cond) ∈ TW := tw_t (List.mem_of_getElem? (i := 114) (by decide +kernel)) rfl
theorem mt_115 : (.lays "LayerQuantities$Saw" "LayerQuantities$Saw" "barCount" "I" : Cond) ∈ TW := tw_t (List.mem_of_getElem? (i := 115) (by decide +kernel)) rfl
theorem mt_116 : (.soleField "LayerQuantities$Saw" "barCount" : Cond) ∈ TW := tw_t (List.mem_of_getElem? (i := 116) (by decide +kernel)) rfl
theorem mt_117 : (.laysFinal "LayerQuantities$Saw" "LayerQuantities$Saw" "barOf" "[I" : Cond) ∈ TW := tw_t (List.mem_of_getElem? (i := 117) (by decide +kernel)) rfl
theorem mt_118 : (.soleField "LayerQuantities$Saw" "barOf" : Cond) ∈ TW := tw_t (List.mem_of_getElem? (i := 118) (by decide +kernel)) rfl
theorem mt_119 : (.laysFinal "LayerQuantities$Saw" "LayerQuantities$Saw" "free" "[I" : Cond) ∈ TW := tw_t (List.mem_of_getElem? (i := 119) (by decide +kernel)) rfl
theorem mt_120 : (.soleField "LayerQuantities$Saw" "free" : Cond) ∈ TW := tw_t (List.mem_of_getElem? (i := 120) (by decide +kernel)) rfl
theorem mt_121 : (.laysFinal "LayerQuantities$Saw" "LayerQuantities$Saw" "load" "[I" : Cond) ∈ TW := tw_t (List.mem_of_getElem? (i := 121) (by decide +kernel)) rfl
theorem mt_122 : (.soleField "LayerQuantities$Saw" "load" : Cond) ∈ TW := tw_t (List.mem_of_getElem? (i := 122) (by decide +kernel)) rfl
theorem mt_123 : (.laysFinal "LayerQuantities$Saw" "LayerQuantities$Saw" "smallest" "[I" : Cond) ∈ TW := tw_t (List.mem_of_getElem? (i := 123) (by decide +kernel)) rfl
theorem mt_124 : (.soleField "LayerQuantities$Saw" "smallest" : Cond) ∈ TW := tw_t (List.mem_of_getElem? (i := 124) (by decide +kernel)) rfl
theorem mt_125 : (.superclass "LayerQuantities$Saw" "java/lang/Object" : Cond) ∈ TW := tw_t (List.mem_of_getElem? (i := 125) (by decide +kernel)) rfl
theorem mt_126 : (.fieldLink "LayerQuantities" 11 "LayerQuantities" "walls" "[LLayerQuantities$Wall;" : Cond) ∈ TW := tw_t (List.mem_of_getElem? (i := 126) (by decide +kernel)) rfl
theorem mt_127 : (.fieldLink "LayerQuantities" 38 "LayerQuantities" "wallCount" "I" : Cond) ∈ TW := tw_t (List.mem_of_getElem? (i := 127) (by decide +kernel)) rfl
theorem mt_128 : (.fieldLink "LayerQuantities" 16 "LayerQuantities" "wastes" "[I" : Cond) ∈ TW := tw_t (List.mem_of_getElem? (i := 128) (by decide +kernel)) rfl
theorem mt_129 : (.fieldLink "LayerQuantities" 22 "LayerQuantities" "shelves" "[LLayerQuantities$Shelf;" : Cond) ∈ TW := tw_t (List.mem_of_getElem? (i := 129) (by decide +kernel)) rfl
theorem mt_130 : (.fieldLink "LayerQuantities" 30 "LayerQuantities" "saw" "LLayerQuantities$Saw;" : Cond) ∈ TW := tw_t (List.mem_of_getElem? (i := 130) (by decide +kernel)) rfl
theorem mt_131 : (.laysFinal "LayerQuantities" "LayerQuantities" "walls" "[LLayerQuantities$Wall;" : Cond) ∈ TW := tw_t (List.mem_of_getElem? (i := 131) (by decide +kernel)) rfl
theorem mt_132 : (.soleField "LayerQuantities" "walls" : Cond) ∈ TW := tw_t (List.mem_of_getElem? (i := 132) (by decide +kernel)) rfl
theorem mt_133 : (.lays "LayerQuantities" "LayerQuantities" "wallCount" "I" : Cond) ∈ TW := tw_t (List.mem_of_getElem? (i := 133) (by decide +kernel)) rfl
theorem mt_134 : (.soleField "LayerQuantities" "wallCount" : Cond) ∈ TW := tw_t (List.mem_of_getElem? (i := 134) (by decide +kernel)) rfl
theorem mt_135 : (.laysFinal "LayerQuantities" "LayerQuantities" "wastes" "[I" : Cond) ∈ TW := tw_t (List.mem_of_getElem? (i := 135) (by decide +kernel)) rfl
theorem mt_136 : (.soleField "LayerQuantities" "wastes" : Cond) ∈ TW := tw_t (List.mem_of_getElem? (i := 136) (by decide +kernel)) rfl
theorem mt_137 : (.laysFinal "LayerQuantities" "LayerQuantities" "shelves" "[LLayerQuantities$Shelf;" : Cond) ∈ TW := tw_t (List.mem_of_getElem? (i := 137) (by decide +kernel)) rfl
theorem mt_138 : (.soleField "LayerQuantities" "shelves" : Cond) ∈ TW := tw_t (List.mem_of_getElem? (i := 138) (by decide +kernel)) rfl
theorem mt_139 : (.laysFinal "LayerQuantities" "LayerQuantities" "saw" "LLayerQuantities$Saw;" : Cond) ∈ TW := tw_t (List.mem_of_getElem? (i := 139) (by decide +kernel)) rfl
theorem mt_140 : (.soleField "LayerQuantities" "saw" : Cond) ∈ TW := tw_t (List.mem_of_getElem? (i := 140) (by decide +kernel)) rfl
theorem mt_141 : (.superclass "LayerQuantities" "java/lang/Object" : Cond) ∈ TW := tw_t (List.mem_of_getElem? (i := 141) (by decide +kernel)) rfl
theorem mt_142 : (.methodLink "LayerQuantitiesLaw" 100 ⟨"LayerQuantities", "cents", "()J"⟩ : Cond) ∈ TW := tw_t (List.mem_of_getElem? (i := 142) (by decide +kernel)) rfl
theorem mt_143 : (.instanceMethod ⟨"LayerQuantities", "cents", "()J"⟩ : Cond) ∈ TW := tw_t (List.mem_of_getElem? (i := 143) (by decide +kernel)) rfl
theorem mt_144 : (.selects "LayerQuantities" ⟨"LayerQuantities", "cents", "()J"⟩ ⟨"LayerQuantities", "cents", "()J"⟩ : Cond) ∈ TW := tw_t (List.mem_of_getElem? (i := 144) (by decide +kernel)) rfl
theorem mt_145 : (.code ⟨"LayerQuantities", "cents", "()J"⟩ prog_1_method_11_code 6 (some (.long)) : Cond) ∈ TW := tw_t (List.mem_of_getElem? (i := 145) (by decide +kernel)) rfl
theorem mt_146 : (.methodLink "LayerQuantities" 97 ⟨"LayerQuantities", "cents", "(I)J"⟩ : Cond) ∈ TW := tw_t (List.mem_of_getElem? (i := 146) (by decide +kernel)) rfl
theorem mt_147 : (.instanceMethod ⟨"LayerQuantities", "cents", "(I)J"⟩ : Cond) ∈ TW := tw_t (List.mem_of_getElem? (i := 147) (by decide +kernel)) rfl
theorem mt_148 : (.selects "LayerQuantities" ⟨"LayerQuantities", "cents", "(I)J"⟩ ⟨"LayerQuantities", "cents", "(I)J"⟩ : Cond) ∈ TW := tw_t (List.mem_of_getElem? (i := 148) (by decide +kernel)) rfl
theorem mt_149 : (.code ⟨"LayerQuantities", "cents", "(I)J"⟩ prog_1_method_10_code 2 (some (.long)) : Cond) ∈ TW := tw_t (List.mem_of_getElem? (i := 149) (by decide +kernel)) rfl
theorem mt_150 : (.methodLink "LayerQuantities" 49 ⟨"LayerQuantities", "checkNumber", "(II)V"⟩ : Cond) ∈ TW := tw_t (List.mem_of_getElem? (i := 150) (by decide +kernel)) rfl
theorem mt_151 : (.static ⟨"LayerQuantities", "checkNumber", "(II)V"⟩ : Cond) ∈ TW := tw_t (List.mem_of_getElem? (i := 151) (by decide +kernel)) rfl
theorem mt_152 : (.code ⟨"LayerQuantities", "checkNumber", "(II)V"⟩ prog_1_method_19_code 2 none : Cond) ∈ TW := tw_t (List.mem_of_getElem? (i := 152) (by decide +kernel)) rfl
theorem mt_153 : (.classLink "LayerQuantities" 135 "java/lang/IllegalArgumentException" : Cond) ∈ TW := tw_t (List.mem_of_getElem? (i := 153) (by decide +kernel)) rfl
theorem mt_154 : (.instantiable "java/lang/IllegalArgumentException" 6 : Cond) ∈ TW := tw_t (List.mem_of_getElem? (i := 154) (by decide +kernel)) rfl
theorem mt_155 : (.castable "java/lang/IllegalArgumentException" "java/lang/IllegalArgumentException" : Cond) ∈ TW := tw_t (List.mem_of_getElem? (i := 155) (by decide +kernel)) rfl
theorem mt_156 : (.declares ⟨"java/lang/RuntimeException", "<init>", "()V"⟩ : Cond) ∈ TW := tw_t (List.mem_of_getElem? (i := 156) (by decide +kernel)) rfl
theorem mt_157 : (.declares ⟨"java/lang/RuntimeException", "<init>", "(Ljava/lang/String;)V"⟩ : Cond) ∈ TW := tw_t (List.mem_of_getElem? (i := 157) (by decide +kernel)) rfl
theorem mt_158 : (.declares ⟨"java/lang/Exception", "<init>", "()V"⟩ : Cond) ∈ TW := tw_t (List.mem_of_getElem? (i := 158) (by decide +kernel)) rfl
theorem mt_159 : (.declares ⟨"java/lang/Exception", "<init>", "(Ljava/lang/String;)V"⟩ : Cond) ∈ TW := tw_t (List.mem_of_getElem? (i := 159) (by decide +kernel)) rfl
theorem mt_160 : (.declares ⟨"java/lang/Throwable", "<init>", "()V"⟩ : Cond) ∈ TW := tw_t (List.mem_of_getElem? (i := 160) (by decide +kernel)) rfl
theorem mt_161 : (.declares ⟨"java/lang/Throwable", "<init>", "(Ljava/lang/String;)V"⟩ : Cond) ∈ TW := tw_t (List.mem_of_getElem? (i := 161) (by decide +kernel)) rfl
theorem mt_162 : (.selects "java/lang/IllegalArgumentException" ⟨"java/lang/Throwable", "fillInStackTrace", "(I)Ljava/lang/Throwable;"⟩ ⟨"java/lang/Throwable", "fillInStackTrace", "(I)Ljava/lang/Throwable;"⟩ : Cond) ∈ TW := tw_t (List.mem_of_getElem? (i := 162) (by decide +kernel)) rfl
theorem mt_163 : (.selects "java/lang/IllegalArgumentException" ⟨"java/lang/Throwable", "fillInStackTrace", "()Ljava/lang/Throwable;"⟩ ⟨"java/lang/Throwable", "fillInStackTrace", "()Ljava/lang/Throwable;"⟩ : Cond) ∈ TW := tw_t (List.mem_of_getElem? (i := 163) (by decide +kernel)) rfl
theorem mt_164 : (.lays "java/lang/IllegalArgumentException" "java/lang/Throwable" "cause" "Ljava/lang/Throwable;" : Cond) ∈ TW := tw_t (List.mem_of_getElem? (i := 164) (by decide +kernel)) rfl
theorem mt_165 : (.lays "java/lang/Throwable" "java/lang/Throwable" "cause" "Ljava/lang/Throwable;" : Cond) ∈ TW := tw_t (List.mem_of_getElem? (i := 165) (by decide +kernel)) rfl
theorem mt_166 : (.lays "java/lang/IllegalArgumentException" "java/lang/Throwable" "stackTrace" "[Ljava/lang/StackTraceElement;" : Cond) ∈ TW := tw_t (List.mem_of_getElem? (i := 166) (by decide +kernel)) rfl
theorem mt_167 : (.lays "java/lang/Throwable" "java/lang/Throwable" "stackTrace" "[Ljava/lang/StackTraceElement;" : Cond) ∈ TW := tw_t (List.mem_of_getElem? (i := 167) (by decide +kernel)) rfl
theorem mt_168 : (.lays "java/lang/IllegalArgumentException" "java/lang/Throwable" "suppressedExceptions" "Ljava/util/List;" : Cond) ∈ TW := tw_t (List.mem_of_getElem? (i := 168) (by decide +kernel)) rfl
theorem mt_169 : (.lays "java/lang/Throwable" "java/lang/Throwable" "suppressedExceptions" "Ljava/util/List;" : Cond) ∈ TW := tw_t (List.mem_of_getElem? (i := 169) (by decide +kernel)) rfl
theorem mt_170 : (.lays "java/lang/IllegalArgumentException" "java/lang/Throwable" "detailMessage" "Ljava/lang/String;" : Cond) ∈ TW := tw_t (List.mem_of_getElem? (i := 170) (by decide +kernel)) rfl
theorem mt_171 : (.lays "java/lang/Throwable" "java/lang/Throwable" "detailMessage" "Ljava/lang/String;" : Cond) ∈ TW := tw_t (List.mem_of_getElem? (i := 171) (by decide +kernel)) rfl
theorem mt_172 : (.lays "java/lang/IllegalArgumentException" "java/lang/Throwable" "backtrace" "Ljava/lang/Object;" : Cond) ∈ TW := tw_t (List.mem_of_getElem? (i := 172) (by decide +kernel)) rfl
theorem mt_173 : (.lays "java/lang/Throwable" "java/lang/Throwable" "backtrace" "Ljava/lang/Object;" : Cond) ∈ TW := tw_t (List.mem_of_getElem? (i := 173) (by decide +kernel)) rfl
theorem mt_174 : (.fieldLink "java/lang/Throwable" 198 "java/lang/Throwable" "backtrace" "Ljava/lang/Object;" : Cond) ∈ TW := tw_t (List.mem_of_getElem? (i := 174) (by decide +kernel)) rfl
theorem mt_175 : (.superclass "java/lang/Throwable" "java/lang/Object" : Cond) ∈ TW := tw_t (List.mem_of_getElem? (i := 175) (by decide +kernel)) rfl
theorem mt_176 : (.instanceMethod ⟨"java/lang/Throwable", "<init>", "()V"⟩ : Cond) ∈ TW := tw_t (List.mem_of_getElem? (i := 176) (by decide +kernel)) rfl
theorem mt_177 : (.code ⟨"java/lang/Throwable", "<init>", "()V"⟩ prog_14_method_1_code 1 none : Cond) ∈ TW := tw_t (List.mem_of_getElem? (i := 177) (by decide +kernel)) rfl
theorem mt_178 : (.methodLink "java/lang/Throwable" 1 ⟨"java/lang/Object", "<init>", "()V"⟩ : Cond) ∈ TW := tw_t (List.mem_of_getElem? (i := 178) (by decide +kernel)) rfl
theorem mt_179 : (.fieldLink "java/lang/Throwable" 13 "java/lang/Throwable" "UNASSIGNED_STACK" "[Ljava/lang/StackTraceElement;" : Cond) ∈ TW := tw_t (List.mem_of_getElem? (i := 179) (by decide +kernel)) rfl
theorem ml_180 : (.laysStatic "java/lang/Throwable" "UNASSIGNED_STACK" "[Ljava/lang/StackTraceElement;" : Cond) ∈ lw_tbl := List.mem_append_right _ (List.mem_of_getElem? (i := 180) (by decide +kernel))
theorem mt_181 : (.fieldLink "java/lang/Throwable" 20 "java/lang/Throwable" "SUPPRESSED_SENTINEL" "Ljava/util/List;" : Cond) ∈ TW := tw_t (List.mem_of_getElem? (i := 181) (by decide +kernel)) rfl
theorem ml_182 : (.laysStatic "java/lang/Throwable" "SUPPRESSED_SENTINEL" "Ljava/util/List;" : Cond) ∈ lw_tbl := List.mem_append_right _ (List.mem_of_getElem? (i := 182) (by decide +kernel))
theorem mt_183 : (.methodLink "java/lang/Throwable" 27 ⟨"java/lang/Throwable", "fillInStackTrace", "()Ljava/lang/Throwable;"⟩ : Cond) ∈ TW := tw_t (List.mem_of_getElem? (i := 183) (by decide +kernel)) rfl
theorem mt_184 : (.instanceMethod ⟨"java/lang/Throwable", "fillInStackTrace", "()Ljava/lang/Throwable;"⟩ : Cond) ∈ TW := tw_t (List.mem_of_getElem? (i := 184) (by decide +kernel)) rfl
theorem mt_185 : (.sameMethod "java/lang/Throwable" "java/lang/Throwable" "fillInStackTrace" "()Ljava/lang/Throwable;" : Cond) ∈ TW := tw_t (List.mem_of_getElem? (i := 185) (by decide +kernel)) rfl
theorem mt_186 : (.selects "java/lang/IllegalStateException" ⟨"java/lang/Throwable", "fillInStackTrace", "()Ljava/lang/Throwable;"⟩ ⟨"java/lang/Throwable", "fillInStackTrace", "()Ljava/lang/Throwable;"⟩ : Cond) ∈ TW := tw_t (List.mem_of_getElem? (i := 186) (by decide +kernel)) rfl
theorem mt_187 : (.codeSync ⟨"java/lang/Throwable", "fillInStackTrace", "()Ljava/lang/Throwable;"⟩ prog_14_method_18_code 1 (some (.object "java/lang/Throwable")) : Cond) ∈ TW := tw_t (List.mem_of_getElem? (i := 187) (by decide +kernel)) rfl
theorem mt_188 : (.methodLink "java/lang/Throwable" 202 ⟨"java/lang/Throwable", "fillInStackTrace", "(I)Ljava/lang/Throwable;"⟩ : Cond) ∈ TW := tw_t (List.mem_of_getElem? (i := 188) (by decide +kernel)) rfl
theorem mt_189 : (.privateMethod ⟨"java/lang/Throwable", "fillInStackTrace", "(I)Ljava/lang/Throwable;"⟩ : Cond) ∈ TW := tw_t (List.mem_of_getElem? (i := 189) (by decide +kernel)) rfl
theorem mt_190 : (.instanceMethod ⟨"java/lang/Throwable", "fillInStackTrace", "(I)Ljava/lang/Throwable;"⟩ : Cond) ∈ TW := tw_t (List.mem_of_getElem? (i := 190) (by decide +kernel)) rfl
theorem mt_191 : (.instantiable "java/lang/Throwable" 6 : Cond) ∈ TW := tw_t (List.mem_of_getElem? (i := 191) (by decide +kernel)) rfl
theorem mt_192 : (.native ⟨"java/lang/Throwable", "fillInStackTrace", "(I)Ljava/lang/Throwable;"⟩ : Cond) ∈ TW := tw_t (List.mem_of_getElem? (i := 192) (by decide +kernel)) rfl
theorem mt_193 : (.stringRef "LayerQuantities" 140 "there is nothing of this number" : Cond) ∈ TW := tw_t (List.mem_of_getElem? (i := 193) (by decide +kernel)) rfl
theorem mt_194 : (.methodLink "LayerQuantities" 139 ⟨"java/lang/IllegalArgumentException", "<init>", "(Ljava/lang/String;)V"⟩ : Cond) ∈ TW := tw_t (List.mem_of_getElem? (i := 194) (by decide +kernel)) rfl
theorem mt_195 : (.instanceMethod ⟨"java/lang/IllegalArgumentException", "<init>", "(Ljava/lang/String;)V"⟩ : Cond) ∈ TW := tw_t (List.mem_of_getElem? (i := 195) (by decide +kernel)) rfl
theorem mt_196 : (.code ⟨"java/lang/IllegalArgumentException", "<init>", "(Ljava/lang/String;)V"⟩ prog_8_method_2_code 2 none : Cond) ∈ TW := tw_t (List.mem_of_getElem? (i := 196) (by decide +kernel)) rfl
theorem mt_197 : (.methodLink "java/lang/IllegalArgumentException" 7 ⟨"java/lang/RuntimeException", "<init>", "(Ljava/lang/String;)V"⟩ : Cond) ∈ TW := tw_t (List.mem_of_getElem? (i := 197) (by decide +kernel)) rfl
theorem mt_198 : (.instanceMethod ⟨"java/lang/RuntimeException", "<init>", "(Ljava/lang/String;)V"⟩ : Cond) ∈ TW := tw_t (List.mem_of_getElem? (i := 198) (by decide +kernel)) rfl
theorem mt_199 : (.code ⟨"java/lang/RuntimeException", "<init>", "(Ljava/lang/String;)V"⟩ prog_11_method_2_code 2 none : Cond) ∈ TW := tw_t (List.mem_of_getElem? (i := 199) (by decide +kernel)) rfl
theorem mt_200 : (.methodLink "java/lang/RuntimeException" 7 ⟨"java/lang/Exception", "<init>", "(Ljava/lang/String;)V"⟩ : Cond) ∈ TW := tw_t (List.mem_of_getElem? (i := 200) (by decide +kernel)) rfl
theorem mt_201 : (.instanceMethod ⟨"java/lang/Exception", "<init>", "(Ljava/lang/String;)V"⟩ : Cond) ∈ TW := tw_t (List.mem_of_getElem? (i := 201) (by decide +kernel)) rfl
theorem mt_202 : (.code ⟨"java/lang/Exception", "<init>", "(Ljava/lang/String;)V"⟩ prog_7_method_2_code 2 none : Cond) ∈ TW := tw_t (List.mem_of_getElem? (i := 202) (by decide +kernel)) rfl
theorem mt_203 : (.methodLink "java/lang/Exception" 7 ⟨"java/lang/Throwable", "<init>", "(Ljava/lang/String;)V"⟩ : Cond) ∈ TW := tw_t (List.mem_of_getElem? (i := 203) (by decide +kernel)) rfl
theorem mt_204 : (.instanceMethod ⟨"java/lang/Throwable", "<init>", "(Ljava/lang/String;)V"⟩ : Cond) ∈ TW := tw_t (List.mem_of_getElem? (i := 204) (by decide +kernel)) rfl
theorem mt_205 : (.code ⟨"java/lang/Throwable", "<init>", "(Ljava/lang/String;)V"⟩ prog_14_method_2_code 2 none : Cond) ∈ TW := tw_t (List.mem_of_getElem? (i := 205) (by decide +kernel)) rfl
theorem mt_206 : (.fieldLink "java/lang/Throwable" 198 "java/lang/Throwable" "backtrace" "Ljava/lang/Object;" : Cond) ∈ TW := tw_t (List.mem_of_getElem? (i := 206) (by decide +kernel)) rfl
theorem mt_207 : (.fieldLink "java/lang/Throwable" 31 "java/lang/Throwable" "detailMessage" "Ljava/lang/String;" : Cond) ∈ TW := tw_t (List.mem_of_getElem? (i := 207) (by decide +kernel)) rfl
theorem mt_208 : (.fieldLink "java/lang/Throwable" 7 "java/lang/Throwable" "cause" "Ljava/lang/Throwable;" : Cond) ∈ TW := tw_t (List.mem_of_getElem? (i := 208) (by decide +kernel)) rfl
theorem mt_209 : (.fieldLink "java/lang/Throwable" 17 "java/lang/Throwable" "stackTrace" "[Ljava/lang/StackTraceElement;" : Cond) ∈ TW := tw_t (List.mem_of_getElem? (i := 209) (by decide +kernel)) rfl
theorem mt_210 : (.fieldLink "java/lang/Throwable" 24 "java/lang/Throwable" "suppressedExceptions" "Ljava/util/List;" : Cond) ∈ TW := tw_t (List.mem_of_getElem? (i := 210) (by decide +kernel)) rfl
theorem mt_211 : (.soleField "java/lang/Throwable" "backtrace" : Cond) ∈ TW := tw_t (List.mem_of_getElem? (i := 211) (by decide +kernel)) rfl
theorem mt_212 : (.soleField "java/lang/Throwable" "detailMessage" : Cond) ∈ TW := tw_t (List.mem_of_getElem? (i := 212) (by decide +kernel)) rfl
theorem mt_213 : (.soleField "java/lang/Throwable" "cause" : Cond) ∈ TW := tw_t (List.mem_of_getElem? (i := 213) (by decide +kernel)) rfl
theorem mt_214 : (.soleField "java/lang/Throwable" "stackTrace" : Cond) ∈ TW := tw_t (List.mem_of_getElem? (i := 214) (by decide +kernel)) rfl
theorem mt_215 : (.lays "java/lang/IllegalArgumentException" "java/lang/Throwable" "depth" "I" : Cond) ∈ TW := tw_t (List.mem_of_getElem? (i := 215) (by decide +kernel)) rfl
theorem mt_216 : (.soleField "java/lang/Throwable" "depth" : Cond) ∈ TW := tw_t (List.mem_of_getElem? (i := 216) (by decide +kernel)) rfl
theorem mt_217 : (.soleField "java/lang/Throwable" "suppressedExceptions" : Cond) ∈ TW := tw_t (List.mem_of_getElem? (i := 217) (by decide +kernel)) rfl
theorem mt_218 : (.superclass "java/lang/IllegalArgumentException" "java/lang/RuntimeException" : Cond) ∈ TW := tw_t (List.mem_of_getElem? (i := 218) (by decide +kernel)) rfl
theorem mt_219 : (.arrayClass .byte : Cond) ∈ TW := tw_t (List.mem_of_getElem? (i := 219) (by decide +kernel)) rfl
theorem mt_220 : (.methodLink "LayerQuantities" 85 ⟨"LayerQuantities", "need", "(I)J"⟩ : Cond) ∈ TW := tw_t (List.mem_of_getElem? (i := 220) (by decide +kernel)) rfl
theorem mt_221 : (.instanceMethod ⟨"LayerQuantities", "need", "(I)J"⟩ : Cond) ∈ TW := tw_t (List.mem_of_getElem? (i := 221) (by decide +kernel)) rfl
theorem mt_222 : (.selects "LayerQuantities" ⟨"LayerQuantities", "need", "(I)J"⟩ ⟨"LayerQuantities", "need", "(I)J"⟩ : Cond) ∈ TW := tw_t (List.mem_of_getElem? (i := 222) (by decide +kernel)) rfl
theorem mt_223 : (.code ⟨"LayerQuantities", "need", "(I)J"⟩ prog_1_method_7_code 5 (some (.long)) : Cond) ∈ TW := tw_t (List.mem_of_getElem? (i := 223) (by decide +kernel)) rfl
theorem mt_224 : (.methodLink "LayerQuantities" 72 ⟨"LayerQuantities", "ratioRoundedUp", "(JI)J"⟩ : Cond) ∈ TW := tw_t (List.mem_of_getElem? (i := 224) (by decide +kernel)) rfl
theorem mt_225 : (.static ⟨"LayerQuantities", "ratioRoundedUp", "(JI)J"⟩ : Cond) ∈ TW := tw_t (List.mem_of_getElem? (i := 225) (by decide +kernel)) rfl
theorem mt_226 : (.code ⟨"LayerQuantities", "ratioRoundedUp", "(JI)J"⟩ prog_1_method_21_code 3 (some (.long)) : Cond) ∈ TW := tw_t (List.mem_of_getElem? (i := 226) (by decide +kernel)) rfl
theorem mt_227 : (.methodLinkNest "LayerQuantities" 93 ⟨"LayerQuantities$Shelf", "priceFor", "(J)I"⟩ "LayerQuantities" : Cond) ∈ TW := tw_t (List.mem_of_getElem? (i := 227) (by decide +kernel)) rfl
theorem mt_228 : (.privateMethod ⟨"LayerQuantities$Shelf", "priceFor", "(J)I"⟩ : Cond) ∈ TW := tw_t (List.mem_of_getElem? (i := 228) (by decide +kernel)) rfl
theorem mt_229 : (.instanceMethod ⟨"LayerQuantities$Shelf", "priceFor", "(J)I"⟩ : Cond) ∈ TW := tw_t (List.mem_of_getElem? (i := 229) (by decide +kernel)) rfl
theorem mt_230 : (.code ⟨"LayerQuantities$Shelf", "priceFor", "(J)I"⟩ prog_3_method_5_code 3 (some (.int)) : Cond) ∈ TW := tw_t (List.mem_of_getElem? (i := 230) (by decide +kernel)) rfl
theorem mt_231 : (.methodLink "LayerQuantities$Shelf" 43 ⟨"LayerQuantities$Shelf", "search", "(J)V"⟩ : Cond) ∈ TW := tw_t (List.mem_of_getElem? (i := 231) (by decide +kernel)) rfl
theorem mt_232 : (.privateMethod ⟨"LayerQuantities$Shelf", "search", "(J)V"⟩ : Cond) ∈ TW := tw_t (List.mem_of_getElem? (i := 232) (by decide +kernel)) rfl
theorem mt_233 : (.instanceMethod ⟨"LayerQuantities$Shelf", "search", "(J)V"⟩ : Cond) ∈ TW := tw_t (List.mem_of_getElem? (i := 233) (by decide +kernel)) rfl
theorem mt_234 : (.code ⟨"LayerQuantities$Shelf", "search", "(J)V"⟩ prog_3_method_6_code 3 none : Cond) ∈ TW := tw_t (List.mem_of_getElem? (i := 234) (by decide +kernel)) rfl
theorem mt_235 : (.methodLink "LayerQuantities$Shelf" 51 ⟨"LayerQuantities$Shelf", "priceOfOneKind", "(J)I"⟩ : Cond) ∈ TW := tw_t (List.mem_of_getElem? (i := 235) (by decide +kernel)) rfl
theorem mt_236 : (.privateMethod ⟨"LayerQuantities$Shelf", "priceOfOneKind", "(J)I"⟩ : Cond) ∈ TW := tw_t (List.mem_of_getElem? (i := 236) (by decide +kernel)) rfl
theorem mt_237 : (.instanceMethod ⟨"LayerQuantities$Shelf", "priceOfOneKind", "(J)I"⟩ : Cond) ∈ TW := tw_t (List.mem_of_getElem? (i := 237) (by decide +kernel)) rfl
theorem mt_238 : (.code ⟨"LayerQuantities$Shelf", "priceOfOneKind", "(J)I"⟩ prog_3_method_7_code 8 (some (.int)) : Cond) ∈ TW := tw_t (List.mem_of_getElem? (i := 238) (by decide +kernel)) rfl
theorem mt_239 : (.constantLong "LayerQuantities$Shelf" 68 (6000001) : Cond) ∈ TW := tw_t (List.mem_of_getElem? (i := 239) (by decide +kernel)) rfl
theorem mt_240 : (.methodLinkNest "LayerQuantities$Shelf" 70 ⟨"LayerQuantities", "ratioRoundedUp", "(JI)J"⟩ "LayerQuantities" : Cond) ∈ TW := tw_t (List.mem_of_getElem? (i := 240) (by decide +kernel)) rfl
theorem mt_241 : (.constantLong "LayerQuantities$Shelf" 74 (60) : Cond) ∈ TW := tw_t (List.mem_of_getElem? (i := 241) (by decide +kernel)) rfl
theorem mt_242 : (.methodLink "LayerQuantities$Shelf" 76 ⟨"java/lang/Math", "min", "(JJ)J"⟩ : Cond) ∈ TW := tw_t (List.mem_of_getElem? (i := 242) (by decide +kernel)) rfl
theorem mt_243 : (.static ⟨"java/lang/Math", "min", "(JJ)J"⟩ : Cond) ∈ TW := tw_t (List.mem_of_getElem? (i := 243) (by decide +kernel)) rfl
theorem mt_244 : (.code ⟨"java/lang/Math", "min", "(JJ)J"⟩ prog_10_method_70_code 4 (some (.long)) : Cond) ∈ TW := tw_t (List.mem_of_getElem? (i := 244) (by decide +kernel)) rfl
theorem mt_245 : (.methodLink "LayerQuantities$Shelf" 58 ⟨"java/util/Arrays", "fill", "([II)V"⟩ : Cond) ∈ TW := tw_t (List.mem_of_getElem? (i := 245) (by decide +kernel)) rfl
theorem mt_246 : (.static ⟨"java/util/Arrays", "fill", "([II)V"⟩ : Cond) ∈ TW := tw_t (List.mem_of_getElem? (i := 246) (by decide +kernel)) rfl
theorem mt_247 : (.code ⟨"java/util/Arrays", "fill", "([II)V"⟩ prog_15_method_103_code 4 none : Cond) ∈ TW := tw_t (List.mem_of_getElem? (i := 247) (by decide +kernel)) rfl
theorem mt_248 : (.methodLink "LayerQuantities$Shelf" 64 ⟨"LayerQuantities$Shelf", "tryKind", "(IJII)V"⟩ : Cond) ∈ TW := tw_t (List.mem_of_getElem? (i := 248) (by decide +kernel)) rfl
theorem mt_249 : (.privateMethod ⟨"LayerQuantities$Shelf", "tryKind", "(IJII)V"⟩ : Cond) ∈ TW := tw_t (List.mem_of_getElem? (i := 249) (by decide +kernel)) rfl
theorem mt_250 : (.instanceMethod ⟨"LayerQuantities$Shelf", "tryKind", "(IJII)V"⟩ : Cond) ∈ TW := tw_t (List.mem_of_getElem? (i := 250) (by decide +kernel)) rfl
theorem mt_251 : (.code ⟨"LayerQuantities$Shelf", "tryKind", "(IJII)V"⟩ prog_3_method_8_code 11 none : Cond) ∈ TW := tw_t (List.mem_of_getElem? (i := 251) (by decide +kernel)) rfl
theorem mt_252 : (.methodLink "LayerQuantities$Shelf" 82 ⟨"LayerQuantities$Shelf", "keepIfBetter", "(II)V"⟩ : Cond) ∈ TW := tw_t (List.mem_of_getElem? (i := 252) (by decide +kernel)) rfl
theorem mt_253 : (.privateMethod ⟨"LayerQuantities$Shelf", "keepIfBetter", "(II)V"⟩ : Cond) ∈ TW := tw_t (List.mem_of_getElem? (i := 253) (by decide +kernel)) rfl
theorem mt_254 : (.instanceMethod ⟨"LayerQuantities$Shelf", "keepIfBetter", "(II)V"⟩ : Cond) ∈ TW := tw_t (List.mem_of_getElem? (i := 254) (by decide +kernel)) rfl
theorem mt_255 : (.code ⟨"LayerQuantities$Shelf", "keepIfBetter", "(II)V"⟩ prog_3_method_11_code 3 none : Cond) ∈ TW := tw_t (List.mem_of_getElem? (i := 255) (by decide +kernel)) rfl
theorem mt_256 : (.methodLink "LayerQuantities$Shelf" 90 ⟨"LayerQuantities$Shelf", "isBetter", "(JJ)Z"⟩ : Cond) ∈ TW := tw_t (List.mem_of_getElem? (i := 256) (by decide +kernel)) rfl
theorem mt_257 : (.privateMethod ⟨"LayerQuantities$Shelf", "isBetter", "(JJ)Z"⟩ : Cond) ∈ TW := tw_t (List.mem_of_getElem? (i := 257) (by decide +kernel)) rfl
theorem mt_258 : (.instanceMethod ⟨"LayerQuantities$Shelf", "isBetter", "(JJ)Z"⟩ : Cond) ∈ TW := tw_t (List.mem_of_getElem? (i := 258) (by decide +kernel)) rfl
theorem mt_259 : (.code ⟨"LayerQuantities$Shelf", "isBetter", "(JJ)Z"⟩ prog_3_method_10_code 5 (some (.boolean)) : Cond) ∈ TW := tw_t (List.mem_of_getElem? (i := 259) (by decide +kernel)) rfl
theorem mt_260 : (.methodLink "LayerQuantities$Shelf" 94 ⟨"java/lang/System", "arraycopy", "(Ljava/lang/Object;ILjava/lang/Object;II)V"⟩ : Cond) ∈ TW := tw_t (List.mem_of_getElem? (i := 260) (by decide +kernel)) rfl
theorem mt_261 : (.static ⟨"java/lang/System", "arraycopy", "(Ljava/lang/Object;ILjava/lang/Object;II)V"⟩ : Cond) ∈ TW := tw_t (List.mem_of_getElem? (i := 261) (by decide +kernel)) rfl
theorem mt_262 : (.native ⟨"java/lang/System", "arraycopy", "(Ljava/lang/Object;ILjava/lang/Object;II)V"⟩ : Cond) ∈ TW := tw_t (List.mem_of_getElem? (i := 262) (by decide +kernel)) rfl
theorem mt_263 : (.methodLink "LayerQuantities$Shelf" 86 ⟨"LayerQuantities$Shelf", "isHopeless", "(IJII)Z"⟩ : Cond) ∈ TW := tw_t (List.mem_of_getElem? (i := 263) (by decide +kernel)) rfl
theorem mt_264 : (.privateMethod ⟨"LayerQuantities$Shelf", "isHopeless", "(IJII)Z"⟩ : Cond) ∈ TW := tw_t (List.mem_of_getElem? (i := 264) (by decide +kernel)) rfl
theorem mt_265 : (.instanceMethod ⟨"LayerQuantities$Shelf", "isHopeless", "(IJII)Z"⟩ : Cond) ∈ TW := tw_t (List.mem_of_getElem? (i := 265) (by decide +kernel)) rfl
theorem mt_266 : (.code ⟨"LayerQuantities$Shelf", "isHopeless", "(IJII)Z"⟩ prog_3_method_9_code 11 (some (.boolean)) : Cond) ∈ TW := tw_t (List.mem_of_getElem? (i := 266) (by decide +kernel)) rfl
theorem mt_267 : (.constant "LayerQuantities$Shelf" 50 (6000001) : Cond) ∈ TW := tw_t (List.mem_of_getElem? (i := 267) (by decide +kernel)) rfl
theorem mt_268 : (.constantLong "LayerQuantities" 100 (-1) : Cond) ∈ TW := tw_t (List.mem_of_getElem? (i := 268) (by decide +kernel)) rfl
theorem mt_269 : (.methodLink "LayerQuantitiesLaw" 114 ⟨"LayerQuantities", "plan", "()I"⟩ : Cond) ∈ TW := tw_t (List.mem_of_getElem? (i := 269) (by decide +kernel)) rfl
theorem mt_270 : (.instanceMethod ⟨"LayerQuantities", "plan", "()I"⟩ : Cond) ∈ TW := tw_t (List.mem_of_getElem? (i := 270) (by decide +kernel)) rfl
theorem mt_271 : (.selects "LayerQuantities" ⟨"LayerQuantities", "plan", "()I"⟩ ⟨"LayerQuantities", "plan", "()I"⟩ : Cond) ∈ TW := tw_t (List.mem_of_getElem? (i := 271) (by decide +kernel)) rfl
theorem mt_272 : (.code ⟨"LayerQuantities", "plan", "()I"⟩ prog_1_method_15_code 1 (some (.int)) : Cond) ∈ TW := tw_t (List.mem_of_getElem? (i := 272) (by decide +kernel)) rfl
theorem mt_273 : (.methodLinkNest "LayerQuantities" 123 ⟨"LayerQuantities$Saw", "makePlan", "()V"⟩ "LayerQuantities" : Cond) ∈ TW := tw_t (List.mem_of_getElem? (i := 273) (by decide +kernel)) rfl
theorem mt_274 : (.privateMethod ⟨"LayerQuantities$Saw", "makePlan", "()V"⟩ : Cond) ∈ TW := tw_t (List.mem_of_getElem? (i := 274) (by decide +kernel)) rfl
theorem mt_275 : (.instanceMethod ⟨"LayerQuantities$Saw", "makePlan", "()V"⟩ : Cond) ∈ TW := tw_t (List.mem_of_getElem? (i := 275) (by decide +kernel)) rfl
theorem mt_276 : (.code ⟨"LayerQuantities$Saw", "makePlan", "()V"⟩ prog_2_method_6_code 1 none : Cond) ∈ TW := tw_t (List.mem_of_getElem? (i := 276) (by decide +kernel)) rfl
theorem mt_277 : (.methodLink "LayerQuantities$Saw" 47 ⟨"LayerQuantities$Saw", "sumFromBehind", "()V"⟩ : Cond) ∈ TW := tw_t (List.mem_of_getElem? (i := 277) (by decide +kernel)) rfl
theorem mt_278 : (.privateMethod ⟨"LayerQuantities$Saw", "sumFromBehind", "()V"⟩ : Cond) ∈ TW := tw_t (List.mem_of_getElem? (i := 278) (by decide +kernel)) rfl
theorem mt_279 : (.instanceMethod ⟨"LayerQuantities$Saw", "sumFromBehind", "()V"⟩ : Cond) ∈ TW := tw_t (List.mem_of_getElem? (i := 279) (by decide +kernel)) rfl
theorem mt_280 : (.code ⟨"LayerQuantities$Saw", "sumFromBehind", "()V"⟩ prog_2_method_7_code 4 none : Cond) ∈ TW := tw_t (List.mem_of_getElem? (i := 280) (by decide +kernel)) rfl
theorem mt_281 : (.methodLink "LayerQuantities$Saw" 57 ⟨"java/lang/Math", "min", "(II)I"⟩ : Cond) ∈ TW := tw_t (List.mem_of_getElem? (i := 281) (by decide +kernel)) rfl
theorem mt_282 : (.static ⟨"java/lang/Math", "min", "(II)I"⟩ : Cond) ∈ TW := tw_t (List.mem_of_getElem? (i := 282) (by decide +kernel)) rfl
theorem mt_283 : (.code ⟨"java/lang/Math", "min", "(II)I"⟩ prog_10_method_69_code 2 (some (.int)) : Cond) ∈ TW := tw_t (List.mem_of_getElem? (i := 283) (by decide +kernel)) rfl
theorem mt_284 : (.methodLink "LayerQuantities$Saw" 53 ⟨"LayerQuantities$Saw", "placeAll", "()Z"⟩ : Cond) ∈ TW := tw_t (List.mem_of_getElem? (i := 284) (by decide +kernel)) rfl
theorem mt_285 : (.privateMethod ⟨"LayerQuantities$Saw", "placeAll", "()Z"⟩ : Cond) ∈ TW := tw_t (List.mem_of_getElem? (i := 285) (by decide +kernel)) rfl
theorem mt_286 : (.instanceMethod ⟨"LayerQuantities$Saw", "placeAll", "()Z"⟩ : Cond) ∈ TW := tw_t (List.mem_of_getElem? (i := 286) (by decide +kernel)) rfl
theorem mt_287 : (.code ⟨"LayerQuantities$Saw", "placeAll", "()Z"⟩ prog_2_method_8_code 1 (some (.boolean)) : Cond) ∈ TW := tw_t (List.mem_of_getElem? (i := 287) (by decide +kernel)) rfl
theorem mt_288 : (.methodLink "LayerQuantities$Saw" 60 ⟨"java/util/Arrays", "fill", "([II)V"⟩ : Cond) ∈ TW := tw_t (List.mem_of_getElem? (i := 288) (by decide +kernel)) rfl
theorem mt_289 : (.methodLink "LayerQuantities$Saw" 66 ⟨"LayerQuantities$Saw", "placeFrom", "(I)Z"⟩ : Cond) ∈ TW := tw_t (List.mem_of_getElem? (i := 289) (by decide +kernel)) rfl
theorem mt_290 : (.privateMethod ⟨"LayerQuantities$Saw", "placeFrom", "(I)Z"⟩ : Cond) ∈ TW := tw_t (List.mem_of_getElem? (i := 290) (by decide +kernel)) rfl
theorem mt_291 : (.instanceMethod ⟨"LayerQuantities$Saw", "placeFrom", "(I)Z"⟩ : Cond) ∈ TW := tw_t (List.mem_of_getElem? (i := 291) (by decide +kernel)) rfl
theorem mt_292 : (.code ⟨"LayerQuantities$Saw", "placeFrom", "(I)Z"⟩ prog_2_method_9_code 4 (some (.boolean)) : Cond) ∈ TW := tw_t (List.mem_of_getElem? (i := 292) (by decide +kernel)) rfl
theorem mt_293 : (.methodLink "LayerQuantities$Saw" 70 ⟨"LayerQuantities$Saw", "usable", "(I)I"⟩ : Cond) ∈ TW := tw_t (List.mem_of_getElem? (i := 293) (by decide +kernel)) rfl
theorem mt_294 : (.privateMethod ⟨"LayerQuantities$Saw", "usable", "(I)I"⟩ : Cond) ∈ TW := tw_t (List.mem_of_getElem? (i := 294) (by decide +kernel)) rfl
theorem mt_295 : (.instanceMethod ⟨"LayerQuantities$Saw", "usable", "(I)I"⟩ : Cond) ∈ TW := tw_t (List.mem_of_getElem? (i := 295) (by decide +kernel)) rfl
theorem mt_296 : (.code ⟨"LayerQuantities$Saw", "usable", "(I)I"⟩ prog_2_method_10_code 4 (some (.int)) : Cond) ∈ TW := tw_t (List.mem_of_getElem? (i := 296) (by decide +kernel)) rfl
theorem mt_297 : (.methodLink "LayerQuantities$Saw" 74 ⟨"LayerQuantities$Saw", "isLikeEarlier", "(I)Z"⟩ : Cond) ∈ TW := tw_t (List.mem_of_getElem? (i := 297) (by decide +kernel)) rfl
theorem mt_298 : (.privateMethod ⟨"LayerQuantities$Saw", "isLikeEarlier", "(I)Z"⟩ : Cond) ∈ TW := tw_t (List.mem_of_getElem? (i := 298) (by decide +kernel)) rfl
theorem mt_299 : (.instanceMethod ⟨"LayerQuantities$Saw", "isLikeEarlier", "(I)Z"⟩ : Cond) ∈ TW := tw_t (List.mem_of_getElem? (i := 299) (by decide +kernel)) rfl
theorem mt_300 : (.code ⟨"LayerQuantities$Saw", "isLikeEarlier", "(I)Z"⟩ prog_2_method_11_code 3 (some (.boolean)) : Cond) ∈ TW := tw_t (List.mem_of_getElem? (i := 300) (by decide +kernel)) rfl
theorem mt_301 : (.methodLink "LayerQuantitiesLaw" 64 ⟨"LayerQuantitiesLaw", "wall", "(LLayerQuantities;II[J)I"⟩ : Cond) ∈ TW := tw_t (List.mem_of_getElem? (i := 301) (by decide +kernel)) rfl
theorem mt_302 : (.static ⟨"LayerQuantitiesLaw", "wall", "(LLayerQuantities;II[J)I"⟩ : Cond) ∈ TW := tw_t (List.mem_of_getElem? (i := 302) (by decide +kernel)) rfl
theorem mt_303 : (.codeWith ⟨"LayerQuantitiesLaw", "wall", "(LLayerQuantities;II[J)I"⟩ method_3_code 5 (some (.int)) [(0, 10, 13, 13), (0, 10, 17, 15)] : Cond) ∈ TW := tw_t (List.mem_of_getElem? (i := 303) (by decide +kernel)) rfl
theorem mt_304 : (.classLink "LayerQuantitiesLaw" 13 "java/lang/IllegalArgumentException" : Cond) ∈ TW := tw_t (List.mem_of_getElem? (i := 304) (by decide +kernel)) rfl
theorem mt_305 : (.classLink "LayerQuantitiesLaw" 15 "java/lang/IllegalStateException" : Cond) ∈ TW := tw_t (List.mem_of_getElem? (i := 305) (by decide +kernel)) rfl
theorem mt_306 : (.methodLink "LayerQuantitiesLaw" 7 ⟨"LayerQuantities", "wall", "(II)I"⟩ : Cond) ∈ TW := tw_t (List.mem_of_getElem? (i := 306) (by decide +kernel)) rfl
theorem mt_307 : (.instanceMethod ⟨"LayerQuantities", "wall", "(II)I"⟩ : Cond) ∈ TW := tw_t (List.mem_of_getElem? (i := 307) (by decide +kernel)) rfl
theorem mt_308 : (.selects "LayerQuantities" ⟨"LayerQuantities", "wall", "(II)I"⟩ ⟨"LayerQuantities", "wall", "(II)I"⟩ : Cond) ∈ TW := tw_t (List.mem_of_getElem? (i := 308) (by decide +kernel)) rfl
theorem mt_309 : (.code ⟨"LayerQuantities", "wall", "(II)I"⟩ prog_1_method_2_code 3 (some (.int)) : Cond) ∈ TW := tw_t (List.mem_of_getElem? (i := 309) (by decide +kernel)) rfl
theorem mt_310 : (.methodLink "LayerQuantities" 34 ⟨"LayerQuantities", "checkBounds", "(III)V"⟩ : Cond) ∈ TW := tw_t (List.mem_of_getElem? (i := 310) (by decide +kernel)) rfl
theorem mt_311 : (.static ⟨"LayerQuantities", "checkBounds", "(III)V"⟩ : Cond) ∈ TW := tw_t (List.mem_of_getElem? (i := 311) (by decide +kernel)) rfl
theorem mt_312 : (.code ⟨"LayerQuantities", "checkBounds", "(III)V"⟩ prog_1_method_18_code 3 none : Cond) ∈ TW := tw_t (List.mem_of_getElem? (i := 312) (by decide +kernel)) rfl
theorem mt_313 : (.stringRef "LayerQuantities" 137 "a number is out of its bounds" : Cond) ∈ TW := tw_t (List.mem_of_getElem? (i := 313) (by decide +kernel)) rfl
theorem mt_314 : (.methodLink "LayerQuantities" 42 ⟨"LayerQuantities", "checkSpace", "(II)V"⟩ : Cond) ∈ TW := tw_t (List.mem_of_getElem? (i := 314) (by decide +kernel)) rfl
theorem mt_315 : (.static ⟨"LayerQuantities", "checkSpace", "(II)V"⟩ : Cond) ∈ TW := tw_t (List.mem_of_getElem? (i := 315) (by decide +kernel)) rfl
theorem mt_316 : (.code ⟨"LayerQuantities", "checkSpace", "(II)V"⟩ prog_1_method_20_code 2 none : Cond) ∈ TW := tw_t (List.mem_of_getElem? (i := 316) (by decide +kernel)) rfl
theorem mt_317 : (.classLink "LayerQuantities" 55 "java/lang/IllegalStateException" : Cond) ∈ TW := tw_t (List.mem_of_getElem? (i := 317) (by decide +kernel)) rfl
theorem mt_318 : (.instantiable "java/lang/IllegalStateException" 6 : Cond) ∈ TW := tw_t (List.mem_of_getElem? (i := 318) (by decide +kernel)) rfl
theorem mt_319 : (.castable "java/lang/IllegalStateException" "java/lang/IllegalStateException" : Cond) ∈ TW := tw_t (List.mem_of_getElem? (i := 319) (by decide +kernel)) rfl
theorem mt_320 : (.selects "java/lang/IllegalStateException" ⟨"java/lang/Throwable", "fillInStackTrace", "(I)Ljava/lang/Throwable;"⟩ ⟨"java/lang/Throwable", "fillInStackTrace", "(I)Ljava/lang/Throwable;"⟩ : Cond) ∈ TW := tw_t (List.mem_of_getElem? (i := 320) (by decide +kernel)) rfl
theorem mt_321 : (.lays "java/lang/IllegalStateException" "java/lang/Throwable" "cause" "Ljava/lang/Throwable;" : Cond) ∈ TW := tw_t (List.mem_of_getElem? (i := 321) (by decide +kernel)) rfl
theorem mt_322 : (.lays "java/lang/IllegalStateException" "java/lang/Throwable" "stackTrace" "[Ljava/lang/StackTraceElement;" : Cond) ∈ TW := tw_t (List.mem_of_getElem? (i := 322) (by decide +kernel)) rfl
theorem mt_323 : (.lays "java/lang/IllegalStateException" "java/lang/Throwable" "suppressedExceptions" "Ljava/util/List;" : Cond) ∈ TW := tw_t (List.mem_of_getElem? (i := 323) (by decide +kernel)) rfl
theorem mt_324 : (.lays "java/lang/IllegalStateException" "java/lang/Throwable" "detailMessage" "Ljava/lang/String;" : Cond) ∈ TW := tw_t (List.mem_of_getElem? (i := 324) (by decide +kernel)) rfl
theorem mt_325 : (.lays "java/lang/IllegalStateException" "java/lang/Throwable" "backtrace" "Ljava/lang/Object;" : Cond) ∈ TW := tw_t (List.mem_of_getElem? (i := 325) (by decide +kernel)) rfl
theorem mt_326 : (.stringRef "LayerQuantities" 142 "there are as many as there may be" : Cond) ∈ TW := tw_t (List.mem_of_getElem? (i := 326) (by decide +kernel)) rfl
theorem mt_327 : (.methodLink "LayerQuantities" 59 ⟨"java/lang/IllegalStateException", "<init>", "(Ljava/lang/String;)V"⟩ : Cond) ∈ TW := tw_t (List.mem_of_getElem? (i := 327) (by decide +kernel)) rfl
theorem mt_328 : (.instanceMethod ⟨"java/lang/IllegalStateException", "<init>", "(Ljava/lang/String;)V"⟩ : Cond) ∈ TW := tw_t (List.mem_of_getElem? (i := 328) (by decide +kernel)) rfl
theorem mt_329 : (.code ⟨"java/lang/IllegalStateException", "<init>", "(Ljava/lang/String;)V"⟩ prog_9_method_2_code 2 none : Cond) ∈ TW := tw_t (List.mem_of_getElem? (i := 329) (by decide +kernel)) rfl
theorem mt_330 : (.methodLink "java/lang/IllegalStateException" 7 ⟨"java/lang/RuntimeException", "<init>", "(Ljava/lang/String;)V"⟩ : Cond) ∈ TW := tw_t (List.mem_of_getElem? (i := 330) (by decide +kernel)) rfl
theorem mt_331 : (.lays "java/lang/IllegalStateException" "java/lang/Throwable" "depth" "I" : Cond) ∈ TW := tw_t (List.mem_of_getElem? (i := 331) (by decide +kernel)) rfl
theorem mt_332 : (.superclass "java/lang/IllegalStateException" "java/lang/RuntimeException" : Cond) ∈ TW := tw_t (List.mem_of_getElem? (i := 332) (by decide +kernel)) rfl
theorem mt_333 : (.methodLink "LayerQuantitiesLaw" 74 ⟨"LayerQuantitiesLaw", "opening", "(LLayerQuantities;III[J)I"⟩ : Cond) ∈ TW := tw_t (List.mem_of_getElem? (i := 333) (by decide +kernel)) rfl
theorem mt_334 : (.static ⟨"LayerQuantitiesLaw", "opening", "(LLayerQuantities;III[J)I"⟩ : Cond) ∈ TW := tw_t (List.mem_of_getElem? (i := 334) (by decide +kernel)) rfl
theorem mt_335 : (.codeWith ⟨"LayerQuantitiesLaw", "opening", "(LLayerQuantities;III[J)I"⟩ method_4_code 6 (some (.int)) [(0, 12, 15, 13), (0, 12, 19, 15)] : Cond) ∈ TW := tw_t (List.mem_of_getElem? (i := 335) (by decide +kernel)) rfl
theorem mt_336 : (.methodLink "LayerQuantitiesLaw" 17 ⟨"LayerQuantities", "opening", "(III)I"⟩ : Cond) ∈ TW := tw_t (List.mem_of_getElem? (i := 336) (by decide +kernel)) rfl
theorem mt_337 : (.instanceMethod ⟨"LayerQuantities", "opening", "(III)I"⟩ : Cond) ∈ TW := tw_t (List.mem_of_getElem? (i := 337) (by decide +kernel)) rfl
theorem mt_338 : (.selects "LayerQuantities" ⟨"LayerQuantities", "opening", "(III)I"⟩ ⟨"LayerQuantities", "opening", "(III)I"⟩ : Cond) ∈ TW := tw_t (List.mem_of_getElem? (i := 338) (by decide +kernel)) rfl
