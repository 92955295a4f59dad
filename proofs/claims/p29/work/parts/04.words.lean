-- the good words of the tables: each by its place
def wAll : List Cond := lw_tbl.filter goodWord
theorem wAll_in : ∀ w ∈ wAll, w ∈ lw_tbl := fun _ h => (List.mem_filter.mp h).1
theorem wAll_good : ∀ w ∈ wAll, goodWord w = true := fun _ h => (List.mem_filter.mp h).2
theorem inT1 : ∀ w ∈ tables_1_1, w ∈ tables_1 := fun _ h => List.mem_append_left _ h
theorem inT2 : ∀ w ∈ tables_1_2, w ∈ tables_1 := fun _ h => List.mem_append_right _ (List.mem_append_left _ h)
theorem inT3 : ∀ w ∈ tables_1_3, w ∈ tables_1 := fun _ h => List.mem_append_right _ (List.mem_append_right _ (List.mem_append_left _ h))
theorem inT4 : ∀ w ∈ tables_1_4, w ∈ tables_1 := fun _ h => List.mem_append_right _ (List.mem_append_right _ (List.mem_append_right _ h))
theorem gd_sub {ws : List Cond} (h : ∀ w ∈ ws, w ∈ wAll) : GoodIn wAll ws := fun w hw => ⟨h w hw, good_of_word (wAll_good w (h w hw))⟩
theorem gd_I {cd : Cond} (h : cd ∈ wAll) : GoodIn wAll (cd :: wAll) := gd_sub (fun w hw => by rcases List.mem_cons.mp hw with rfl | h2; exact h; exact h2)
theorem gd_V {own C : String} {i : Nat} {y : MethodName} {cd : Cond} (h1 : Cond.methodLink own i y ∈ wAll) (h2 : Cond.instanceMethod y ∈ wAll) (h3 : Cond.selects C y y ∈ wAll) (h4 : Cond.initialized C ∈ wAll) (h5 : cd ∈ wAll) : GoodIn wAll (wsV own i C y (cd :: wAll)) := gd_sub (fun w hw => by
  rcases List.mem_append.mp hw with h | h
  · simp only [List.mem_cons, List.not_mem_nil, or_false] at h
    rcases h with rfl | rfl | rfl | rfl
    · exact h1
    · exact h2
    · exact h3
    · exact h4
  · rcases List.mem_cons.mp h with rfl | h
    · exact h5
    · exact h)
theorem gd_S {own : String} {i : Nat} {y : MethodName} {cd : Cond} (h1 : Cond.methodLink own i y ∈ wAll) (h2 : Cond.static y ∈ wAll) (h4 : Cond.initialized y.cls ∈ wAll) (h5 : cd ∈ wAll) : GoodIn wAll (va_wsS own i y (cd :: wAll)) := gd_sub (fun w hw => by
  rcases List.mem_append.mp hw with h | h
  · simp only [List.mem_cons, List.not_mem_nil, or_false] at h
    rcases h with rfl | rfl | rfl
    · exact h1
    · exact h2
    · exact h4
  · rcases List.mem_cons.mp h with rfl | h
    · exact h5
    · exact h)
theorem ht_of {cd : Cond} {args : Array Value} {s : State} {rm : Room} (h : (headSpec (cd :: wAll) rm).pre.before args s = true) : ∀ w ∈ wAll, w.before args s = true := fun w hw => atoms_spec (ws := cd :: wAll) h w (List.mem_cons_of_mem _ hw)
theorem wd_1_0 : Cond.initialized RL ∈ wAll := List.mem_filter.mpr ⟨List.mem_append_right _ (inT1 _ (List.mem_of_getElem? (i := 0) rfl)), rfl⟩
theorem wd_1_1 : Cond.initialized RX5 ∈ wAll := List.mem_filter.mpr ⟨List.mem_append_right _ (inT1 _ (List.mem_of_getElem? (i := 1) rfl)), rfl⟩
theorem wd_1_2 : Cond.initialized RX1 ∈ wAll := List.mem_filter.mpr ⟨List.mem_append_right _ (inT1 _ (List.mem_of_getElem? (i := 2) rfl)), rfl⟩
theorem wd_1_3 : Cond.initialized RX0 ∈ wAll := List.mem_filter.mpr ⟨List.mem_append_right _ (inT1 _ (List.mem_of_getElem? (i := 3) rfl)), rfl⟩
theorem wd_1_4 : Cond.initialized RX2 ∈ wAll := List.mem_filter.mpr ⟨List.mem_append_right _ (inT1 _ (List.mem_of_getElem? (i := 4) rfl)), rfl⟩
theorem wd_1_5 : Cond.initialized RX4 ∈ wAll := List.mem_filter.mpr ⟨List.mem_append_right _ (inT1 _ (List.mem_of_getElem? (i := 5) rfl)), rfl⟩
theorem wd_1_6 : Cond.initialized RX3 ∈ wAll := List.mem_filter.mpr ⟨List.mem_append_right _ (inT1 _ (List.mem_of_getElem? (i := 6) rfl)), rfl⟩
theorem wd_1_7 : Cond.initialized "java/lang/Throwable" ∈ wAll := List.mem_filter.mpr ⟨List.mem_append_right _ (inT1 _ (List.mem_of_getElem? (i := 7) rfl)), rfl⟩
theorem wd_1_8 : Cond.initialized "java/lang/Exception" ∈ wAll := List.mem_filter.mpr ⟨List.mem_append_right _ (inT1 _ (List.mem_of_getElem? (i := 8) rfl)), rfl⟩
theorem wd_1_9 : Cond.initialized "java/lang/RuntimeException" ∈ wAll := List.mem_filter.mpr ⟨List.mem_append_right _ (inT1 _ (List.mem_of_getElem? (i := 9) rfl)), rfl⟩
theorem wd_1_10 : Cond.initialized "java/lang/IndexOutOfBoundsException" ∈ wAll := List.mem_filter.mpr ⟨List.mem_append_right _ (inT1 _ (List.mem_of_getElem? (i := 10) rfl)), rfl⟩
theorem wd_1_11 : Cond.initialized "java/lang/IllegalArgumentException" ∈ wAll := List.mem_filter.mpr ⟨List.mem_append_right _ (inT1 _ (List.mem_of_getElem? (i := 11) rfl)), rfl⟩
theorem wd_1_12 : Cond.initialized "java/lang/IllegalStateException" ∈ wAll := List.mem_filter.mpr ⟨List.mem_append_right _ (inT1 _ (List.mem_of_getElem? (i := 12) rfl)), rfl⟩
theorem wd_1_13 : Cond.initialized RJ9 ∈ wAll := List.mem_filter.mpr ⟨List.mem_append_right _ (inT1 _ (List.mem_of_getElem? (i := 13) rfl)), rfl⟩
theorem wd_1_14 : Cond.methodLink RL 193 yL_bench ∈ wAll := List.mem_filter.mpr ⟨List.mem_append_right _ (inT1 _ (List.mem_of_getElem? (i := 14) rfl)), rfl⟩
theorem wd_1_15 : Cond.static yL_bench ∈ wAll := List.mem_filter.mpr ⟨List.mem_append_right _ (inT1 _ (List.mem_of_getElem? (i := 15) rfl)), rfl⟩
theorem wd_1_16 : Cond.code yL_bench method_15_code 13 (some .boolean) ∈ wAll := List.mem_filter.mpr ⟨List.mem_append_right _ (inT1 _ (List.mem_of_getElem? (i := 16) rfl)), rfl⟩
theorem wd_1_17 : Cond.classLink RL 31 RX5 ∈ wAll := List.mem_filter.mpr ⟨List.mem_append_right _ (inT1 _ (List.mem_of_getElem? (i := 17) rfl)), rfl⟩
theorem wd_1_18 : Cond.instantiable RX5 2 ∈ wAll := List.mem_filter.mpr ⟨List.mem_append_right _ (inT1 _ (List.mem_of_getElem? (i := 18) rfl)), rfl⟩
theorem wd_1_19 : Cond.methodLink RL 175 yX5_init ∈ wAll := List.mem_filter.mpr ⟨List.mem_append_right _ (inT1 _ (List.mem_of_getElem? (i := 19) rfl)), rfl⟩
theorem wd_1_20 : Cond.instanceMethod yX5_init ∈ wAll := List.mem_filter.mpr ⟨List.mem_append_right _ (inT1 _ (List.mem_of_getElem? (i := 20) rfl)), rfl⟩
theorem wd_1_21 : Cond.code yX5_init prog_1_method_1_code 2 none ∈ wAll := List.mem_filter.mpr ⟨List.mem_append_right _ (inT1 _ (List.mem_of_getElem? (i := 21) rfl)), rfl⟩
theorem wd_1_22 : Cond.methodLink RX5 1 ⟨"java/lang/Object", "<init>", "()V"⟩ ∈ wAll := List.mem_filter.mpr ⟨List.mem_append_right _ (inT1 _ (List.mem_of_getElem? (i := 22) rfl)), rfl⟩
theorem wd_1_23 : Cond.instanceMethod ⟨"java/lang/Object", "<init>", "()V"⟩ ∈ wAll := List.mem_filter.mpr ⟨List.mem_append_right _ (inT1 _ (List.mem_of_getElem? (i := 23) rfl)), rfl⟩
theorem wd_1_24 : Cond.code ⟨"java/lang/Object", "<init>", "()V"⟩ object_method_1_code 1 none ∈ wAll := List.mem_filter.mpr ⟨List.mem_append_right _ (inT1 _ (List.mem_of_getElem? (i := 24) rfl)), rfl⟩
theorem wd_1_25 : Cond.classLink RX5 9 RX1 ∈ wAll := List.mem_filter.mpr ⟨List.mem_append_right _ (inT1 _ (List.mem_of_getElem? (i := 25) rfl)), rfl⟩
theorem wd_1_27 : Cond.instantiable RX1 10 ∈ wAll := List.mem_filter.mpr ⟨List.mem_append_right _ (inT1 _ (List.mem_of_getElem? (i := 27) rfl)), rfl⟩
theorem wd_1_29 : Cond.instanceMethod yX1_init ∈ wAll := List.mem_filter.mpr ⟨List.mem_append_right _ (inT1 _ (List.mem_of_getElem? (i := 29) rfl)), rfl⟩
theorem wd_1_30 : Cond.code yX1_init prog_3_method_1_code 1 none ∈ wAll := List.mem_filter.mpr ⟨List.mem_append_right _ (inT1 _ (List.mem_of_getElem? (i := 30) rfl)), rfl⟩
theorem wd_1_31 : Cond.methodLink RX1 3 ⟨"java/lang/Object", "<init>", "()V"⟩ ∈ wAll := List.mem_filter.mpr ⟨List.mem_append_right _ (inT1 _ (List.mem_of_getElem? (i := 31) rfl)), rfl⟩
theorem wd_1_32 : Cond.classLink RX1 9 RX0 ∈ wAll := List.mem_filter.mpr ⟨List.mem_append_right _ (inT1 _ (List.mem_of_getElem? (i := 32) rfl)), rfl⟩
theorem wd_1_33 : Cond.instantiable RX0 15 ∈ wAll := List.mem_filter.mpr ⟨List.mem_append_right _ (inT1 _ (List.mem_of_getElem? (i := 33) rfl)), rfl⟩
theorem wd_1_35 : Cond.instanceMethod yX0_init ∈ wAll := List.mem_filter.mpr ⟨List.mem_append_right _ (inT1 _ (List.mem_of_getElem? (i := 35) rfl)), rfl⟩
theorem wd_1_36 : Cond.code yX0_init prog_2_method_1_code 1 none ∈ wAll := List.mem_filter.mpr ⟨List.mem_append_right _ (inT1 _ (List.mem_of_getElem? (i := 36) rfl)), rfl⟩
theorem wd_1_37 : Cond.methodLink RX0 1 ⟨"java/lang/Object", "<init>", "()V"⟩ ∈ wAll := List.mem_filter.mpr ⟨List.mem_append_right _ (inT1 _ (List.mem_of_getElem? (i := 37) rfl)), rfl⟩
theorem wd_1_38 : Cond.constant RX0 16 (100000) ∈ wAll := List.mem_filter.mpr ⟨List.mem_append_right _ (inT1 _ (List.mem_of_getElem? (i := 38) rfl)), rfl⟩
theorem wd_1_39 : Cond.classLink RX0 23 RX2 ∈ wAll := List.mem_filter.mpr ⟨List.mem_append_right _ (inT1 _ (List.mem_of_getElem? (i := 39) rfl)), rfl⟩
theorem wd_1_40 : Cond.instantiable RX2 9 ∈ wAll := List.mem_filter.mpr ⟨List.mem_append_right _ (inT1 _ (List.mem_of_getElem? (i := 40) rfl)), rfl⟩
theorem wd_1_42 : Cond.instanceMethod yX2_init ∈ wAll := List.mem_filter.mpr ⟨List.mem_append_right _ (inT1 _ (List.mem_of_getElem? (i := 42) rfl)), rfl⟩
theorem wd_1_43 : Cond.code yX2_init prog_4_method_1_code 1 none ∈ wAll := List.mem_filter.mpr ⟨List.mem_append_right _ (inT1 _ (List.mem_of_getElem? (i := 43) rfl)), rfl⟩
theorem wd_1_44 : Cond.methodLink RX2 3 ⟨"java/lang/Object", "<init>", "()V"⟩ ∈ wAll := List.mem_filter.mpr ⟨List.mem_append_right _ (inT1 _ (List.mem_of_getElem? (i := 44) rfl)), rfl⟩
theorem wd_1_45 : Cond.fieldLink RX2 9 "ControlBench$Plant" "a1" "I" ∈ wAll := List.mem_filter.mpr ⟨List.mem_append_right _ (inT1 _ (List.mem_of_getElem? (i := 45) rfl)), rfl⟩
theorem wd_1_46 : Cond.fieldLink RX5 30 "ControlBench$Plant" "a1" "I" ∈ wAll := List.mem_filter.mpr ⟨List.mem_append_right _ (inT1 _ (List.mem_of_getElem? (i := 46) rfl)), rfl⟩
theorem wd_1_47 : Cond.fieldLink RX2 38 "ControlBench$Plant" "a2" "I" ∈ wAll := List.mem_filter.mpr ⟨List.mem_append_right _ (inT1 _ (List.mem_of_getElem? (i := 47) rfl)), rfl⟩
theorem wd_1_48 : Cond.fieldLink RX5 34 "ControlBench$Plant" "a2" "I" ∈ wAll := List.mem_filter.mpr ⟨List.mem_append_right _ (inT1 _ (List.mem_of_getElem? (i := 48) rfl)), rfl⟩
theorem wd_1_49 : Cond.fieldLink RX2 15 "ControlBench$Plant" "b" "I" ∈ wAll := List.mem_filter.mpr ⟨List.mem_append_right _ (inT1 _ (List.mem_of_getElem? (i := 49) rfl)), rfl⟩
theorem wd_1_50 : Cond.fieldLink RX5 37 "ControlBench$Plant" "b" "I" ∈ wAll := List.mem_filter.mpr ⟨List.mem_append_right _ (inT1 _ (List.mem_of_getElem? (i := 50) rfl)), rfl⟩
theorem wd_1_51 : Cond.fieldLink RX2 31 "ControlBench$Plant" "deadTime" "I" ∈ wAll := List.mem_filter.mpr ⟨List.mem_append_right _ (inT1 _ (List.mem_of_getElem? (i := 51) rfl)), rfl⟩
theorem wd_1_52 : Cond.fieldLink RX5 40 "ControlBench$Plant" "deadTime" "I" ∈ wAll := List.mem_filter.mpr ⟨List.mem_append_right _ (inT1 _ (List.mem_of_getElem? (i := 52) rfl)), rfl⟩
theorem wd_1_53 : Cond.fieldLink RX2 50 "ControlBench$Plant" "load" "I" ∈ wAll := List.mem_filter.mpr ⟨List.mem_append_right _ (inT1 _ (List.mem_of_getElem? (i := 53) rfl)), rfl⟩
theorem wd_1_54 : Cond.fieldLink RX5 43 "ControlBench$Plant" "load" "I" ∈ wAll := List.mem_filter.mpr ⟨List.mem_append_right _ (inT1 _ (List.mem_of_getElem? (i := 54) rfl)), rfl⟩
theorem wd_1_55 : Cond.fieldLink RX0 34 "ControlBench$Plant" "measure" "J" ∈ wAll := List.mem_filter.mpr ⟨List.mem_append_right _ (inT1 _ (List.mem_of_getElem? (i := 55) rfl)), rfl⟩
theorem wd_1_56 : Cond.fieldLink RX2 34 "ControlBench$Plant" "measure" "J" ∈ wAll := List.mem_filter.mpr ⟨List.mem_append_right _ (inT1 _ (List.mem_of_getElem? (i := 56) rfl)), rfl⟩
theorem wd_1_57 : Cond.fieldLink RX1 72 "ControlBench$Plant" "measure" "J" ∈ wAll := List.mem_filter.mpr ⟨List.mem_append_right _ (inT1 _ (List.mem_of_getElem? (i := 57) rfl)), rfl⟩
theorem wd_1_58 : Cond.fieldLink RX5 128 "ControlBench$Plant" "measure" "J" ∈ wAll := List.mem_filter.mpr ⟨List.mem_append_right _ (inT1 _ (List.mem_of_getElem? (i := 58) rfl)), rfl⟩
theorem wd_1_59 : Cond.fieldLink RX2 41 "ControlBench$Plant" "measureBefore" "J" ∈ wAll := List.mem_filter.mpr ⟨List.mem_append_right _ (inT1 _ (List.mem_of_getElem? (i := 59) rfl)), rfl⟩
theorem wd_1_60 : Cond.fieldLink RX0 37 "ControlBench$Plant" "measureBefore" "J" ∈ wAll := List.mem_filter.mpr ⟨List.mem_append_right _ (inT1 _ (List.mem_of_getElem? (i := 60) rfl)), rfl⟩
theorem wd_1_61 : Cond.fieldLink RX2 18 "ControlBench$Plant" "outputs" "[J" ∈ wAll := List.mem_filter.mpr ⟨List.mem_append_right _ (inT1 _ (List.mem_of_getElem? (i := 61) rfl)), rfl⟩
theorem wd_1_62 : Cond.fieldLink RX2 22 "ControlBench$Plant" "latest" "I" ∈ wAll := List.mem_filter.mpr ⟨List.mem_append_right _ (inT1 _ (List.mem_of_getElem? (i := 62) rfl)), rfl⟩
theorem wd_1_63 : Cond.lays RX2 "ControlBench$Plant" "a1" "I" ∈ wAll := List.mem_filter.mpr ⟨List.mem_append_right _ (inT1 _ (List.mem_of_getElem? (i := 63) rfl)), rfl⟩
theorem wd_1_65 : Cond.lays RX2 "ControlBench$Plant" "a2" "I" ∈ wAll := List.mem_filter.mpr ⟨List.mem_append_right _ (inT1 _ (List.mem_of_getElem? (i := 65) rfl)), rfl⟩
theorem wd_1_67 : Cond.lays RX2 "ControlBench$Plant" "b" "I" ∈ wAll := List.mem_filter.mpr ⟨List.mem_append_right _ (inT1 _ (List.mem_of_getElem? (i := 67) rfl)), rfl⟩
theorem wd_1_69 : Cond.lays RX2 "ControlBench$Plant" "deadTime" "I" ∈ wAll := List.mem_filter.mpr ⟨List.mem_append_right _ (inT1 _ (List.mem_of_getElem? (i := 69) rfl)), rfl⟩
theorem wd_1_71 : Cond.lays RX2 "ControlBench$Plant" "load" "I" ∈ wAll := List.mem_filter.mpr ⟨List.mem_append_right _ (inT1 _ (List.mem_of_getElem? (i := 71) rfl)), rfl⟩
theorem wd_1_73 : Cond.lays RX2 "ControlBench$Plant" "measure" "J" ∈ wAll := List.mem_filter.mpr ⟨List.mem_append_right _ (inT1 _ (List.mem_of_getElem? (i := 73) rfl)), rfl⟩
theorem wd_1_75 : Cond.lays RX2 "ControlBench$Plant" "measureBefore" "J" ∈ wAll := List.mem_filter.mpr ⟨List.mem_append_right _ (inT1 _ (List.mem_of_getElem? (i := 75) rfl)), rfl⟩
theorem wd_1_77 : Cond.laysFinal RX2 "ControlBench$Plant" "outputs" "[J" ∈ wAll := List.mem_filter.mpr ⟨List.mem_append_right _ (inT1 _ (List.mem_of_getElem? (i := 77) rfl)), rfl⟩
theorem wd_1_79 : Cond.lays RX2 "ControlBench$Plant" "latest" "I" ∈ wAll := List.mem_filter.mpr ⟨List.mem_append_right _ (inT1 _ (List.mem_of_getElem? (i := 79) rfl)), rfl⟩
theorem wd_1_82 : Cond.arrayClass .long ∈ wAll := List.mem_filter.mpr ⟨List.mem_append_right _ (inT1 _ (List.mem_of_getElem? (i := 82) rfl)), rfl⟩
theorem wd_1_83 : Cond.fieldLink RX0 7 "ControlBench$Controller" "p" "I" ∈ wAll := List.mem_filter.mpr ⟨List.mem_append_right _ (inT1 _ (List.mem_of_getElem? (i := 83) rfl)), rfl⟩
theorem wd_1_84 : Cond.fieldLink RX5 151 "ControlBench$Controller" "p" "I" ∈ wAll := List.mem_filter.mpr ⟨List.mem_append_right _ (inT1 _ (List.mem_of_getElem? (i := 84) rfl)), rfl⟩
theorem wd_1_85 : Cond.fieldLink RX0 13 "ControlBench$Controller" "i" "I" ∈ wAll := List.mem_filter.mpr ⟨List.mem_append_right _ (inT1 _ (List.mem_of_getElem? (i := 85) rfl)), rfl⟩
theorem wd_1_86 : Cond.fieldLink RX5 154 "ControlBench$Controller" "i" "I" ∈ wAll := List.mem_filter.mpr ⟨List.mem_append_right _ (inT1 _ (List.mem_of_getElem? (i := 86) rfl)), rfl⟩
theorem wd_1_87 : Cond.fieldLink RX0 56 "ControlBench$Controller" "d" "I" ∈ wAll := List.mem_filter.mpr ⟨List.mem_append_right _ (inT1 _ (List.mem_of_getElem? (i := 87) rfl)), rfl⟩
theorem wd_1_88 : Cond.fieldLink RX5 157 "ControlBench$Controller" "d" "I" ∈ wAll := List.mem_filter.mpr ⟨List.mem_append_right _ (inT1 _ (List.mem_of_getElem? (i := 88) rfl)), rfl⟩
theorem wd_1_89 : Cond.fieldLink RX0 40 "ControlBench$Controller" "low" "I" ∈ wAll := List.mem_filter.mpr ⟨List.mem_append_right _ (inT1 _ (List.mem_of_getElem? (i := 89) rfl)), rfl⟩
theorem wd_1_90 : Cond.fieldLink RX5 92 "ControlBench$Controller" "low" "I" ∈ wAll := List.mem_filter.mpr ⟨List.mem_append_right _ (inT1 _ (List.mem_of_getElem? (i := 90) rfl)), rfl⟩
theorem wd_1_91 : Cond.fieldLink RX0 17 "ControlBench$Controller" "high" "I" ∈ wAll := List.mem_filter.mpr ⟨List.mem_append_right _ (inT1 _ (List.mem_of_getElem? (i := 91) rfl)), rfl⟩
theorem wd_1_92 : Cond.fieldLink RX5 95 "ControlBench$Controller" "high" "I" ∈ wAll := List.mem_filter.mpr ⟨List.mem_append_right _ (inT1 _ (List.mem_of_getElem? (i := 92) rfl)), rfl⟩
theorem wd_1_93 : Cond.fieldLink RX5 98 "ControlBench$Controller" "guard" "I" ∈ wAll := List.mem_filter.mpr ⟨List.mem_append_right _ (inT1 _ (List.mem_of_getElem? (i := 93) rfl)), rfl⟩
theorem wd_1_94 : Cond.fieldLink RX0 97 "ControlBench$Controller" "guard" "I" ∈ wAll := List.mem_filter.mpr ⟨List.mem_append_right _ (inT1 _ (List.mem_of_getElem? (i := 94) rfl)), rfl⟩
theorem wd_1_95 : Cond.fieldLink RX0 20 "ControlBench$Controller" "share" "I" ∈ wAll := List.mem_filter.mpr ⟨List.mem_append_right _ (inT1 _ (List.mem_of_getElem? (i := 95) rfl)), rfl⟩
theorem wd_1_96 : Cond.fieldLink RX5 101 "ControlBench$Controller" "share" "I" ∈ wAll := List.mem_filter.mpr ⟨List.mem_append_right _ (inT1 _ (List.mem_of_getElem? (i := 96) rfl)), rfl⟩
theorem wd_1_97 : Cond.fieldLink RX0 82 "ControlBench$Controller" "heldSamples" "I" ∈ wAll := List.mem_filter.mpr ⟨List.mem_append_right _ (inT1 _ (List.mem_of_getElem? (i := 97) rfl)), rfl⟩
theorem wd_1_98 : Cond.fieldLink RX5 163 "ControlBench$Controller" "heldSamples" "I" ∈ wAll := List.mem_filter.mpr ⟨List.mem_append_right _ (inT1 _ (List.mem_of_getElem? (i := 98) rfl)), rfl⟩
theorem wd_1_99 : Cond.fieldLink RX0 30 "ControlBench$Controller" "setpoint" "J" ∈ wAll := List.mem_filter.mpr ⟨List.mem_append_right _ (inT1 _ (List.mem_of_getElem? (i := 99) rfl)), rfl⟩
theorem wd_1_100 : Cond.fieldLink RX1 77 "ControlBench$Controller" "setpoint" "J" ∈ wAll := List.mem_filter.mpr ⟨List.mem_append_right _ (inT1 _ (List.mem_of_getElem? (i := 100) rfl)), rfl⟩
theorem wd_1_101 : Cond.fieldLink RX5 104 "ControlBench$Controller" "setpoint" "J" ∈ wAll := List.mem_filter.mpr ⟨List.mem_append_right _ (inT1 _ (List.mem_of_getElem? (i := 101) rfl)), rfl⟩
theorem wd_1_102 : Cond.fieldLink RX0 49 "ControlBench$Controller" "integral" "J" ∈ wAll := List.mem_filter.mpr ⟨List.mem_append_right _ (inT1 _ (List.mem_of_getElem? (i := 102) rfl)), rfl⟩
theorem wd_1_103 : Cond.fieldLink RX5 145 "ControlBench$Controller" "integral" "J" ∈ wAll := List.mem_filter.mpr ⟨List.mem_append_right _ (inT1 _ (List.mem_of_getElem? (i := 103) rfl)), rfl⟩
theorem wd_1_104 : Cond.fieldLink RX0 88 "ControlBench$Controller" "sumByIncrements" "J" ∈ wAll := List.mem_filter.mpr ⟨List.mem_append_right _ (inT1 _ (List.mem_of_getElem? (i := 104) rfl)), rfl⟩
theorem wd_1_105 : Cond.fieldLink RX5 134 "ControlBench$Controller" "sumByIncrements" "J" ∈ wAll := List.mem_filter.mpr ⟨List.mem_append_right _ (inT1 _ (List.mem_of_getElem? (i := 105) rfl)), rfl⟩
theorem wd_1_106 : Cond.fieldLink RX1 18 "ControlBench$Controller" "plant" "LControlBench$Plant;" ∈ wAll := List.mem_filter.mpr ⟨List.mem_append_right _ (inT1 _ (List.mem_of_getElem? (i := 106) rfl)), rfl⟩
theorem wd_1_107 : Cond.fieldLink RX0 26 "ControlBench$Controller" "plant" "LControlBench$Plant;" ∈ wAll := List.mem_filter.mpr ⟨List.mem_append_right _ (inT1 _ (List.mem_of_getElem? (i := 107) rfl)), rfl⟩
theorem wd_1_108 : Cond.fieldLink RX0 91 "ControlBench$Controller" "latestError" "J" ∈ wAll := List.mem_filter.mpr ⟨List.mem_append_right _ (inT1 _ (List.mem_of_getElem? (i := 108) rfl)), rfl⟩
theorem wd_1_109 : Cond.fieldLink RX0 94 "ControlBench$Controller" "latestRate" "J" ∈ wAll := List.mem_filter.mpr ⟨List.mem_append_right _ (inT1 _ (List.mem_of_getElem? (i := 109) rfl)), rfl⟩
theorem wd_1_110 : Cond.fieldLink RX0 64 "ControlBench$Controller" "goesOn" "Z" ∈ wAll := List.mem_filter.mpr ⟨List.mem_append_right _ (inT1 _ (List.mem_of_getElem? (i := 110) rfl)), rfl⟩
theorem wd_1_111 : Cond.lays RX0 "ControlBench$Controller" "p" "I" ∈ wAll := List.mem_filter.mpr ⟨List.mem_append_right _ (inT1 _ (List.mem_of_getElem? (i := 111) rfl)), rfl⟩
theorem wd_1_113 : Cond.lays RX0 "ControlBench$Controller" "i" "I" ∈ wAll := List.mem_filter.mpr ⟨List.mem_append_right _ (inT1 _ (List.mem_of_getElem? (i := 113) rfl)), rfl⟩
theorem wd_1_115 : Cond.lays RX0 "ControlBench$Controller" "d" "I" ∈ wAll := List.mem_filter.mpr ⟨List.mem_append_right _ (inT1 _ (List.mem_of_getElem? (i := 115) rfl)), rfl⟩
theorem wd_1_117 : Cond.lays RX0 "ControlBench$Controller" "low" "I" ∈ wAll := List.mem_filter.mpr ⟨List.mem_append_right _ (inT1 _ (List.mem_of_getElem? (i := 117) rfl)), rfl⟩
theorem wd_1_119 : Cond.lays RX0 "ControlBench$Controller" "high" "I" ∈ wAll := List.mem_filter.mpr ⟨List.mem_append_right _ (inT1 _ (List.mem_of_getElem? (i := 119) rfl)), rfl⟩
theorem wd_1_121 : Cond.lays RX0 "ControlBench$Controller" "guard" "I" ∈ wAll := List.mem_filter.mpr ⟨List.mem_append_right _ (inT1 _ (List.mem_of_getElem? (i := 121) rfl)), rfl⟩
theorem wd_1_123 : Cond.lays RX0 "ControlBench$Controller" "share" "I" ∈ wAll := List.mem_filter.mpr ⟨List.mem_append_right _ (inT1 _ (List.mem_of_getElem? (i := 123) rfl)), rfl⟩
theorem wd_1_125 : Cond.lays RX0 "ControlBench$Controller" "heldSamples" "I" ∈ wAll := List.mem_filter.mpr ⟨List.mem_append_right _ (inT1 _ (List.mem_of_getElem? (i := 125) rfl)), rfl⟩
theorem wd_1_127 : Cond.lays RX0 "ControlBench$Controller" "setpoint" "J" ∈ wAll := List.mem_filter.mpr ⟨List.mem_append_right _ (inT1 _ (List.mem_of_getElem? (i := 127) rfl)), rfl⟩
theorem wd_1_129 : Cond.lays RX0 "ControlBench$Controller" "integral" "J" ∈ wAll := List.mem_filter.mpr ⟨List.mem_append_right _ (inT1 _ (List.mem_of_getElem? (i := 129) rfl)), rfl⟩
theorem wd_1_131 : Cond.lays RX0 "ControlBench$Controller" "sumByIncrements" "J" ∈ wAll := List.mem_filter.mpr ⟨List.mem_append_right _ (inT1 _ (List.mem_of_getElem? (i := 131) rfl)), rfl⟩
theorem wd_1_133 : Cond.laysFinal RX0 "ControlBench$Controller" "plant" "LControlBench$Plant;" ∈ wAll := List.mem_filter.mpr ⟨List.mem_append_right _ (inT1 _ (List.mem_of_getElem? (i := 133) rfl)), rfl⟩
theorem wd_1_135 : Cond.lays RX0 "ControlBench$Controller" "latestError" "J" ∈ wAll := List.mem_filter.mpr ⟨List.mem_append_right _ (inT1 _ (List.mem_of_getElem? (i := 135) rfl)), rfl⟩
theorem wd_1_137 : Cond.lays RX0 "ControlBench$Controller" "latestRate" "J" ∈ wAll := List.mem_filter.mpr ⟨List.mem_append_right _ (inT1 _ (List.mem_of_getElem? (i := 137) rfl)), rfl⟩
theorem wd_1_139 : Cond.lays RX0 "ControlBench$Controller" "goesOn" "Z" ∈ wAll := List.mem_filter.mpr ⟨List.mem_append_right _ (inT1 _ (List.mem_of_getElem? (i := 139) rfl)), rfl⟩
theorem wd_1_142 : Cond.classLink RX1 23 RX4 ∈ wAll := List.mem_filter.mpr ⟨List.mem_append_right _ (inT1 _ (List.mem_of_getElem? (i := 142) rfl)), rfl⟩
theorem wd_1_143 : Cond.instantiable RX4 5 ∈ wAll := List.mem_filter.mpr ⟨List.mem_append_right _ (inT1 _ (List.mem_of_getElem? (i := 143) rfl)), rfl⟩
theorem wd_1_145 : Cond.instanceMethod yX4_init ∈ wAll := List.mem_filter.mpr ⟨List.mem_append_right _ (inT1 _ (List.mem_of_getElem? (i := 145) rfl)), rfl⟩
theorem wd_1_146 : Cond.code yX4_init prog_6_method_1_code 1 none ∈ wAll := List.mem_filter.mpr ⟨List.mem_append_right _ (inT1 _ (List.mem_of_getElem? (i := 146) rfl)), rfl⟩
theorem wd_1_147 : Cond.methodLink RX4 1 ⟨"java/lang/Object", "<init>", "()V"⟩ ∈ wAll := List.mem_filter.mpr ⟨List.mem_append_right _ (inT1 _ (List.mem_of_getElem? (i := 147) rfl)), rfl⟩
theorem wd_1_148 : Cond.fieldLink RX4 22 "ControlBench$Schedule" "points" "I" ∈ wAll := List.mem_filter.mpr ⟨List.mem_append_right _ (inT1 _ (List.mem_of_getElem? (i := 148) rfl)), rfl⟩
theorem wd_1_149 : Cond.fieldLink RX4 9 "ControlBench$Schedule" "measures" "[I" ∈ wAll := List.mem_filter.mpr ⟨List.mem_append_right _ (inT1 _ (List.mem_of_getElem? (i := 149) rfl)), rfl⟩
theorem wd_1_150 : Cond.fieldLink RX4 13 "ControlBench$Schedule" "ps" "[I" ∈ wAll := List.mem_filter.mpr ⟨List.mem_append_right _ (inT1 _ (List.mem_of_getElem? (i := 150) rfl)), rfl⟩
theorem wd_1_151 : Cond.fieldLink RX4 16 "ControlBench$Schedule" "is" "[I" ∈ wAll := List.mem_filter.mpr ⟨List.mem_append_right _ (inT1 _ (List.mem_of_getElem? (i := 151) rfl)), rfl⟩
theorem wd_1_152 : Cond.fieldLink RX4 19 "ControlBench$Schedule" "ds" "[I" ∈ wAll := List.mem_filter.mpr ⟨List.mem_append_right _ (inT1 _ (List.mem_of_getElem? (i := 152) rfl)), rfl⟩
theorem wd_1_153 : Cond.lays RX4 "ControlBench$Schedule" "points" "I" ∈ wAll := List.mem_filter.mpr ⟨List.mem_append_right _ (inT1 _ (List.mem_of_getElem? (i := 153) rfl)), rfl⟩
theorem wd_1_155 : Cond.laysFinal RX4 "ControlBench$Schedule" "measures" "[I" ∈ wAll := List.mem_filter.mpr ⟨List.mem_append_right _ (inT1 _ (List.mem_of_getElem? (i := 155) rfl)), rfl⟩
theorem wd_1_157 : Cond.laysFinal RX4 "ControlBench$Schedule" "ps" "[I" ∈ wAll := List.mem_filter.mpr ⟨List.mem_append_right _ (inT1 _ (List.mem_of_getElem? (i := 157) rfl)), rfl⟩
theorem wd_1_159 : Cond.laysFinal RX4 "ControlBench$Schedule" "is" "[I" ∈ wAll := List.mem_filter.mpr ⟨List.mem_append_right _ (inT1 _ (List.mem_of_getElem? (i := 159) rfl)), rfl⟩
theorem wd_1_161 : Cond.laysFinal RX4 "ControlBench$Schedule" "ds" "[I" ∈ wAll := List.mem_filter.mpr ⟨List.mem_append_right _ (inT1 _ (List.mem_of_getElem? (i := 161) rfl)), rfl⟩
theorem wd_1_164 : Cond.arrayClass .int ∈ wAll := List.mem_filter.mpr ⟨List.mem_append_right _ (inT1 _ (List.mem_of_getElem? (i := 164) rfl)), rfl⟩
theorem wd_1_165 : Cond.classLink RX1 30 RX3 ∈ wAll := List.mem_filter.mpr ⟨List.mem_append_right _ (inT1 _ (List.mem_of_getElem? (i := 165) rfl)), rfl⟩
theorem wd_1_166 : Cond.instantiable RX3 12 ∈ wAll := List.mem_filter.mpr ⟨List.mem_append_right _ (inT1 _ (List.mem_of_getElem? (i := 166) rfl)), rfl⟩
theorem wd_1_168 : Cond.instanceMethod yX3_init ∈ wAll := List.mem_filter.mpr ⟨List.mem_append_right _ (inT1 _ (List.mem_of_getElem? (i := 168) rfl)), rfl⟩
theorem wd_1_169 : Cond.code yX3_init prog_5_method_1_code 1 none ∈ wAll := List.mem_filter.mpr ⟨List.mem_append_right _ (inT1 _ (List.mem_of_getElem? (i := 169) rfl)), rfl⟩
theorem wd_1_170 : Cond.methodLink RX3 1 ⟨"java/lang/Object", "<init>", "()V"⟩ ∈ wAll := List.mem_filter.mpr ⟨List.mem_append_right _ (inT1 _ (List.mem_of_getElem? (i := 170) rfl)), rfl⟩
theorem wd_1_171 : Cond.fieldLink RX3 9 "ControlBench$Relay" "progress" "I" ∈ wAll := List.mem_filter.mpr ⟨List.mem_append_right _ (inT1 _ (List.mem_of_getElem? (i := 171) rfl)), rfl⟩
theorem wd_1_172 : Cond.fieldLink RX1 116 "ControlBench$Relay" "progress" "I" ∈ wAll := List.mem_filter.mpr ⟨List.mem_append_right _ (inT1 _ (List.mem_of_getElem? (i := 172) rfl)), rfl⟩
theorem wd_1_173 : Cond.fieldLink RX5 177 "ControlBench$Relay" "progress" "I" ∈ wAll := List.mem_filter.mpr ⟨List.mem_append_right _ (inT1 _ (List.mem_of_getElem? (i := 173) rfl)), rfl⟩
theorem wd_1_174 : Cond.fieldLink RX3 55 "ControlBench$Relay" "period" "I" ∈ wAll := List.mem_filter.mpr ⟨List.mem_append_right _ (inT1 _ (List.mem_of_getElem? (i := 174) rfl)), rfl⟩
theorem wd_1_175 : Cond.fieldLink RX5 180 "ControlBench$Relay" "period" "I" ∈ wAll := List.mem_filter.mpr ⟨List.mem_append_right _ (inT1 _ (List.mem_of_getElem? (i := 175) rfl)), rfl⟩
theorem wd_1_176 : Cond.fieldLink RX3 58 "ControlBench$Relay" "swing" "J" ∈ wAll := List.mem_filter.mpr ⟨List.mem_append_right _ (inT1 _ (List.mem_of_getElem? (i := 176) rfl)), rfl⟩
theorem wd_1_177 : Cond.fieldLink RX5 183 "ControlBench$Relay" "swing" "J" ∈ wAll := List.mem_filter.mpr ⟨List.mem_append_right _ (inT1 _ (List.mem_of_getElem? (i := 177) rfl)), rfl⟩
theorem wd_1_178 : Cond.fieldLink RX3 13 "ControlBench$Relay" "center" "J" ∈ wAll := List.mem_filter.mpr ⟨List.mem_append_right _ (inT1 _ (List.mem_of_getElem? (i := 178) rfl)), rfl⟩
theorem wd_1_179 : Cond.fieldLink RX1 119 "ControlBench$Relay" "center" "J" ∈ wAll := List.mem_filter.mpr ⟨List.mem_append_right _ (inT1 _ (List.mem_of_getElem? (i := 179) rfl)), rfl⟩
theorem wd_1_180 : Cond.fieldLink RX3 17 "ControlBench$Relay" "height" "I" ∈ wAll := List.mem_filter.mpr ⟨List.mem_append_right _ (inT1 _ (List.mem_of_getElem? (i := 180) rfl)), rfl⟩
theorem wd_1_181 : Cond.fieldLink RX3 20 "ControlBench$Relay" "band" "I" ∈ wAll := List.mem_filter.mpr ⟨List.mem_append_right _ (inT1 _ (List.mem_of_getElem? (i := 181) rfl)), rfl⟩
theorem wd_1_182 : Cond.fieldLink RX3 23 "ControlBench$Relay" "up" "Z" ∈ wAll := List.mem_filter.mpr ⟨List.mem_append_right _ (inT1 _ (List.mem_of_getElem? (i := 182) rfl)), rfl⟩
theorem wd_1_183 : Cond.fieldLink RX3 27 "ControlBench$Relay" "samples" "I" ∈ wAll := List.mem_filter.mpr ⟨List.mem_append_right _ (inT1 _ (List.mem_of_getElem? (i := 183) rfl)), rfl⟩
theorem wd_1_184 : Cond.fieldLink RX3 30 "ControlBench$Relay" "rises" "I" ∈ wAll := List.mem_filter.mpr ⟨List.mem_append_right _ (inT1 _ (List.mem_of_getElem? (i := 184) rfl)), rfl⟩
theorem wd_1_185 : Cond.fieldLink RX3 52 "ControlBench$Relay" "sampleOfSecondRise" "I" ∈ wAll := List.mem_filter.mpr ⟨List.mem_append_right _ (inT1 _ (List.mem_of_getElem? (i := 185) rfl)), rfl⟩
theorem wd_1_186 : Cond.fieldLink RX3 37 "ControlBench$Relay" "greatest" "J" ∈ wAll := List.mem_filter.mpr ⟨List.mem_append_right _ (inT1 _ (List.mem_of_getElem? (i := 186) rfl)), rfl⟩
theorem wd_1_187 : Cond.fieldLink RX3 46 "ControlBench$Relay" "least" "J" ∈ wAll := List.mem_filter.mpr ⟨List.mem_append_right _ (inT1 _ (List.mem_of_getElem? (i := 187) rfl)), rfl⟩
theorem wd_1_188 : Cond.lays RX3 "ControlBench$Relay" "progress" "I" ∈ wAll := List.mem_filter.mpr ⟨List.mem_append_right _ (inT1 _ (List.mem_of_getElem? (i := 188) rfl)), rfl⟩
theorem wd_1_190 : Cond.lays RX3 "ControlBench$Relay" "period" "I" ∈ wAll := List.mem_filter.mpr ⟨List.mem_append_right _ (inT1 _ (List.mem_of_getElem? (i := 190) rfl)), rfl⟩
theorem wd_1_192 : Cond.lays RX3 "ControlBench$Relay" "swing" "J" ∈ wAll := List.mem_filter.mpr ⟨List.mem_append_right _ (inT1 _ (List.mem_of_getElem? (i := 192) rfl)), rfl⟩
theorem wd_1_194 : Cond.lays RX3 "ControlBench$Relay" "center" "J" ∈ wAll := List.mem_filter.mpr ⟨List.mem_append_right _ (inT1 _ (List.mem_of_getElem? (i := 194) rfl)), rfl⟩
theorem wd_1_196 : Cond.lays RX3 "ControlBench$Relay" "height" "I" ∈ wAll := List.mem_filter.mpr ⟨List.mem_append_right _ (inT1 _ (List.mem_of_getElem? (i := 196) rfl)), rfl⟩
theorem wd_1_198 : Cond.lays RX3 "ControlBench$Relay" "band" "I" ∈ wAll := List.mem_filter.mpr ⟨List.mem_append_right _ (inT1 _ (List.mem_of_getElem? (i := 198) rfl)), rfl⟩
theorem wd_1_200 : Cond.lays RX3 "ControlBench$Relay" "up" "Z" ∈ wAll := List.mem_filter.mpr ⟨List.mem_append_right _ (inT1 _ (List.mem_of_getElem? (i := 200) rfl)), rfl⟩
theorem wd_1_202 : Cond.lays RX3 "ControlBench$Relay" "samples" "I" ∈ wAll := List.mem_filter.mpr ⟨List.mem_append_right _ (inT1 _ (List.mem_of_getElem? (i := 202) rfl)), rfl⟩
theorem wd_1_204 : Cond.lays RX3 "ControlBench$Relay" "rises" "I" ∈ wAll := List.mem_filter.mpr ⟨List.mem_append_right _ (inT1 _ (List.mem_of_getElem? (i := 204) rfl)), rfl⟩
theorem wd_1_206 : Cond.lays RX3 "ControlBench$Relay" "sampleOfSecondRise" "I" ∈ wAll := List.mem_filter.mpr ⟨List.mem_append_right _ (inT1 _ (List.mem_of_getElem? (i := 206) rfl)), rfl⟩
theorem wd_1_208 : Cond.lays RX3 "ControlBench$Relay" "greatest" "J" ∈ wAll := List.mem_filter.mpr ⟨List.mem_append_right _ (inT1 _ (List.mem_of_getElem? (i := 208) rfl)), rfl⟩
theorem wd_1_210 : Cond.lays RX3 "ControlBench$Relay" "least" "J" ∈ wAll := List.mem_filter.mpr ⟨List.mem_append_right _ (inT1 _ (List.mem_of_getElem? (i := 210) rfl)), rfl⟩
theorem wd_1_213 : Cond.fieldLink RX1 12 "ControlBench$Loop" "controller" "LControlBench$Controller;" ∈ wAll := List.mem_filter.mpr ⟨List.mem_append_right _ (inT1 _ (List.mem_of_getElem? (i := 213) rfl)), rfl⟩
theorem wd_1_214 : Cond.fieldLink RX5 56 "ControlBench$Loop" "controller" "LControlBench$Controller;" ∈ wAll := List.mem_filter.mpr ⟨List.mem_append_right _ (inT1 _ (List.mem_of_getElem? (i := 214) rfl)), rfl⟩
theorem wd_1_215 : Cond.fieldLink RX1 22 "ControlBench$Loop" "plant" "LControlBench$Plant;" ∈ wAll := List.mem_filter.mpr ⟨List.mem_append_right _ (inT1 _ (List.mem_of_getElem? (i := 215) rfl)), rfl⟩
theorem wd_1_216 : Cond.fieldLink RX5 20 "ControlBench$Loop" "plant" "LControlBench$Plant;" ∈ wAll := List.mem_filter.mpr ⟨List.mem_append_right _ (inT1 _ (List.mem_of_getElem? (i := 216) rfl)), rfl⟩
theorem wd_1_217 : Cond.fieldLink RX1 26 "ControlBench$Loop" "schedule" "LControlBench$Schedule;" ∈ wAll := List.mem_filter.mpr ⟨List.mem_append_right _ (inT1 _ (List.mem_of_getElem? (i := 217) rfl)), rfl⟩
theorem wd_1_218 : Cond.fieldLink RX5 65 "ControlBench$Loop" "schedule" "LControlBench$Schedule;" ∈ wAll := List.mem_filter.mpr ⟨List.mem_append_right _ (inT1 _ (List.mem_of_getElem? (i := 218) rfl)), rfl⟩
theorem wd_1_219 : Cond.fieldLink RX1 33 "ControlBench$Loop" "relay" "LControlBench$Relay;" ∈ wAll := List.mem_filter.mpr ⟨List.mem_append_right _ (inT1 _ (List.mem_of_getElem? (i := 219) rfl)), rfl⟩
theorem wd_1_220 : Cond.fieldLink RX5 167 "ControlBench$Loop" "relay" "LControlBench$Relay;" ∈ wAll := List.mem_filter.mpr ⟨List.mem_append_right _ (inT1 _ (List.mem_of_getElem? (i := 220) rfl)), rfl⟩
theorem wd_1_221 : Cond.fieldLink RX1 37 "ControlBench$Loop" "mode" "I" ∈ wAll := List.mem_filter.mpr ⟨List.mem_append_right _ (inT1 _ (List.mem_of_getElem? (i := 221) rfl)), rfl⟩
theorem wd_1_222 : Cond.fieldLink RX5 49 "ControlBench$Loop" "mode" "I" ∈ wAll := List.mem_filter.mpr ⟨List.mem_append_right _ (inT1 _ (List.mem_of_getElem? (i := 222) rfl)), rfl⟩
theorem wd_1_223 : Cond.fieldLink RX1 52 "ControlBench$Loop" "handValue" "J" ∈ wAll := List.mem_filter.mpr ⟨List.mem_append_right _ (inT1 _ (List.mem_of_getElem? (i := 223) rfl)), rfl⟩
theorem wd_1_224 : Cond.fieldLink RX5 108 "ControlBench$Loop" "handValue" "J" ∈ wAll := List.mem_filter.mpr ⟨List.mem_append_right _ (inT1 _ (List.mem_of_getElem? (i := 224) rfl)), rfl⟩
theorem wd_1_225 : Cond.fieldLink RX1 69 "ControlBench$Loop" "follows" "Z" ∈ wAll := List.mem_filter.mpr ⟨List.mem_append_right _ (inT1 _ (List.mem_of_getElem? (i := 225) rfl)), rfl⟩
theorem wd_1_226 : Cond.fieldLink RX5 111 "ControlBench$Loop" "follows" "Z" ∈ wAll := List.mem_filter.mpr ⟨List.mem_append_right _ (inT1 _ (List.mem_of_getElem? (i := 226) rfl)), rfl⟩
theorem wd_1_227 : Cond.fieldLink RX1 58 "ControlBench$Loop" "hasMaster" "Z" ∈ wAll := List.mem_filter.mpr ⟨List.mem_append_right _ (inT1 _ (List.mem_of_getElem? (i := 227) rfl)), rfl⟩
theorem wd_1_228 : Cond.fieldLink RX5 115 "ControlBench$Loop" "hasMaster" "Z" ∈ wAll := List.mem_filter.mpr ⟨List.mem_append_right _ (inT1 _ (List.mem_of_getElem? (i := 228) rfl)), rfl⟩
theorem wd_1_229 : Cond.fieldLink RX1 62 "ControlBench$Loop" "starved" "Z" ∈ wAll := List.mem_filter.mpr ⟨List.mem_append_right _ (inT1 _ (List.mem_of_getElem? (i := 229) rfl)), rfl⟩
theorem wd_1_230 : Cond.fieldLink RX5 160 "ControlBench$Loop" "starved" "Z" ∈ wAll := List.mem_filter.mpr ⟨List.mem_append_right _ (inT1 _ (List.mem_of_getElem? (i := 230) rfl)), rfl⟩
theorem wd_1_231 : Cond.fieldLink RX1 44 "ControlBench$Loop" "output" "J" ∈ wAll := List.mem_filter.mpr ⟨List.mem_append_right _ (inT1 _ (List.mem_of_getElem? (i := 231) rfl)), rfl⟩
theorem wd_1_232 : Cond.fieldLink RX5 131 "ControlBench$Loop" "output" "J" ∈ wAll := List.mem_filter.mpr ⟨List.mem_append_right _ (inT1 _ (List.mem_of_getElem? (i := 232) rfl)), rfl⟩
theorem wd_1_233 : Cond.laysFinal RX1 "ControlBench$Loop" "controller" "LControlBench$Controller;" ∈ wAll := List.mem_filter.mpr ⟨List.mem_append_right _ (inT1 _ (List.mem_of_getElem? (i := 233) rfl)), rfl⟩
theorem wd_1_235 : Cond.laysFinal RX1 "ControlBench$Loop" "plant" "LControlBench$Plant;" ∈ wAll := List.mem_filter.mpr ⟨List.mem_append_right _ (inT1 _ (List.mem_of_getElem? (i := 235) rfl)), rfl⟩
theorem wd_1_237 : Cond.laysFinal RX1 "ControlBench$Loop" "schedule" "LControlBench$Schedule;" ∈ wAll := List.mem_filter.mpr ⟨List.mem_append_right _ (inT1 _ (List.mem_of_getElem? (i := 237) rfl)), rfl⟩
theorem wd_1_239 : Cond.laysFinal RX1 "ControlBench$Loop" "relay" "LControlBench$Relay;" ∈ wAll := List.mem_filter.mpr ⟨List.mem_append_right _ (inT1 _ (List.mem_of_getElem? (i := 239) rfl)), rfl⟩
theorem wd_2_1 : Cond.lays RX1 "ControlBench$Loop" "mode" "I" ∈ wAll := List.mem_filter.mpr ⟨List.mem_append_right _ (inT2 _ (List.mem_of_getElem? (i := 1) rfl)), rfl⟩
theorem wd_2_3 : Cond.lays RX1 "ControlBench$Loop" "handValue" "J" ∈ wAll := List.mem_filter.mpr ⟨List.mem_append_right _ (inT2 _ (List.mem_of_getElem? (i := 3) rfl)), rfl⟩
theorem wd_2_5 : Cond.lays RX1 "ControlBench$Loop" "follows" "Z" ∈ wAll := List.mem_filter.mpr ⟨List.mem_append_right _ (inT2 _ (List.mem_of_getElem? (i := 5) rfl)), rfl⟩
theorem wd_2_7 : Cond.lays RX1 "ControlBench$Loop" "hasMaster" "Z" ∈ wAll := List.mem_filter.mpr ⟨List.mem_append_right _ (inT2 _ (List.mem_of_getElem? (i := 7) rfl)), rfl⟩
theorem wd_2_9 : Cond.lays RX1 "ControlBench$Loop" "starved" "Z" ∈ wAll := List.mem_filter.mpr ⟨List.mem_append_right _ (inT2 _ (List.mem_of_getElem? (i := 9) rfl)), rfl⟩
theorem wd_2_11 : Cond.lays RX1 "ControlBench$Loop" "output" "J" ∈ wAll := List.mem_filter.mpr ⟨List.mem_append_right _ (inT2 _ (List.mem_of_getElem? (i := 11) rfl)), rfl⟩
theorem wd_2_14 : Cond.fieldLink RX5 11 "ControlBench" "loops" "[LControlBench$Loop;" ∈ wAll := List.mem_filter.mpr ⟨List.mem_append_right _ (inT2 _ (List.mem_of_getElem? (i := 14) rfl)), rfl⟩
theorem wd_2_15 : Cond.fieldLink RX5 125 "ControlBench" "samplesSoFar" "I" ∈ wAll := List.mem_filter.mpr ⟨List.mem_append_right _ (inT2 _ (List.mem_of_getElem? (i := 15) rfl)), rfl⟩
theorem wd_2_16 : Cond.laysFinal RX5 "ControlBench" "loops" "[LControlBench$Loop;" ∈ wAll := List.mem_filter.mpr ⟨List.mem_append_right _ (inT2 _ (List.mem_of_getElem? (i := 16) rfl)), rfl⟩
theorem wd_2_18 : Cond.lays RX5 "ControlBench" "samplesSoFar" "I" ∈ wAll := List.mem_filter.mpr ⟨List.mem_append_right _ (inT2 _ (List.mem_of_getElem? (i := 18) rfl)), rfl⟩
theorem wd_2_21 : Cond.constantLong RL 176 (800) ∈ wAll := List.mem_filter.mpr ⟨List.mem_append_right _ (inT2 _ (List.mem_of_getElem? (i := 21) rfl)), rfl⟩
theorem wd_2_22 : Cond.constantLong RL 178 (200) ∈ wAll := List.mem_filter.mpr ⟨List.mem_append_right _ (inT2 _ (List.mem_of_getElem? (i := 22) rfl)), rfl⟩
theorem wd_2_23 : Cond.constantLong RL 26 (100000) ∈ wAll := List.mem_filter.mpr ⟨List.mem_append_right _ (inT2 _ (List.mem_of_getElem? (i := 23) rfl)), rfl⟩
theorem wd_2_24 : Cond.constant RL 180 (1073741824) ∈ wAll := List.mem_filter.mpr ⟨List.mem_append_right _ (inT2 _ (List.mem_of_getElem? (i := 24) rfl)), rfl⟩
theorem wd_2_25 : Cond.methodLink RL 181 yL_draw ∈ wAll := List.mem_filter.mpr ⟨List.mem_append_right _ (inT2 _ (List.mem_of_getElem? (i := 25) rfl)), rfl⟩
theorem wd_2_26 : Cond.static yL_draw ∈ wAll := List.mem_filter.mpr ⟨List.mem_append_right _ (inT2 _ (List.mem_of_getElem? (i := 26) rfl)), rfl⟩
theorem wd_2_27 : Cond.code yL_draw method_2_code 4 (some .int) ∈ wAll := List.mem_filter.mpr ⟨List.mem_append_right _ (inT2 _ (List.mem_of_getElem? (i := 27) rfl)), rfl⟩
theorem wd_2_28 : Cond.constant RL 7 (797696469) ∈ wAll := List.mem_filter.mpr ⟨List.mem_append_right _ (inT2 _ (List.mem_of_getElem? (i := 28) rfl)), rfl⟩
theorem wd_2_29 : Cond.constant RL 8 (1472506211) ∈ wAll := List.mem_filter.mpr ⟨List.mem_append_right _ (inT2 _ (List.mem_of_getElem? (i := 29) rfl)), rfl⟩
theorem wd_2_30 : Cond.constant RL 9 (2147483647) ∈ wAll := List.mem_filter.mpr ⟨List.mem_append_right _ (inT2 _ (List.mem_of_getElem? (i := 30) rfl)), rfl⟩
theorem wd_2_31 : Cond.methodLink RL 185 yL_step ∈ wAll := List.mem_filter.mpr ⟨List.mem_append_right _ (inT2 _ (List.mem_of_getElem? (i := 31) rfl)), rfl⟩
theorem wd_2_32 : Cond.static yL_step ∈ wAll := List.mem_filter.mpr ⟨List.mem_append_right _ (inT2 _ (List.mem_of_getElem? (i := 32) rfl)), rfl⟩
theorem wd_2_33 : Cond.code yL_step method_14_code 18 (some .boolean) ∈ wAll := List.mem_filter.mpr ⟨List.mem_append_right _ (inT2 _ (List.mem_of_getElem? (i := 33) rfl)), rfl⟩
theorem wd_2_34 : Cond.methodLink RL 130 yX5_setPlant ∈ wAll := List.mem_filter.mpr ⟨List.mem_append_right _ (inT2 _ (List.mem_of_getElem? (i := 34) rfl)), rfl⟩
theorem wd_2_35 : Cond.instanceMethod yX5_setPlant ∈ wAll := List.mem_filter.mpr ⟨List.mem_append_right _ (inT2 _ (List.mem_of_getElem? (i := 35) rfl)), rfl⟩
theorem wd_2_36 : Cond.selects RX5 yX5_setPlant yX5_setPlant ∈ wAll := List.mem_filter.mpr ⟨List.mem_append_right _ (inT2 _ (List.mem_of_getElem? (i := 36) rfl)), rfl⟩
theorem wd_2_37 : Cond.code yX5_setPlant prog_1_method_2_code 7 none ∈ wAll := List.mem_filter.mpr ⟨List.mem_append_right _ (inT2 _ (List.mem_of_getElem? (i := 37) rfl)), rfl⟩
theorem wd_2_38 : Cond.methodLink RX5 16 yX5_loopAt ∈ wAll := List.mem_filter.mpr ⟨List.mem_append_right _ (inT2 _ (List.mem_of_getElem? (i := 38) rfl)), rfl⟩
theorem wd_2_40 : Cond.instanceMethod yX5_loopAt ∈ wAll := List.mem_filter.mpr ⟨List.mem_append_right _ (inT2 _ (List.mem_of_getElem? (i := 40) rfl)), rfl⟩
theorem wd_2_41 : Cond.code yX5_loopAt prog_1_method_28_code 2 (some (.object "ControlBench$Loop")) ∈ wAll := List.mem_filter.mpr ⟨List.mem_append_right _ (inT2 _ (List.mem_of_getElem? (i := 41) rfl)), rfl⟩
theorem wd_2_42 : Cond.classLink RX5 209 "java/lang/IndexOutOfBoundsException" ∈ wAll := List.mem_filter.mpr ⟨List.mem_append_right _ (inT2 _ (List.mem_of_getElem? (i := 42) rfl)), rfl⟩
theorem wd_2_43 : Cond.instantiable "java/lang/IndexOutOfBoundsException" 6 ∈ wAll := List.mem_filter.mpr ⟨List.mem_append_right _ (inT2 _ (List.mem_of_getElem? (i := 43) rfl)), rfl⟩
theorem wd_2_51 : Cond.selects "java/lang/IndexOutOfBoundsException" ⟨"java/lang/Throwable", "fillInStackTrace", "(I)Ljava/lang/Throwable;"⟩ ⟨"java/lang/Throwable", "fillInStackTrace", "(I)Ljava/lang/Throwable;"⟩ ∈ wAll := List.mem_filter.mpr ⟨List.mem_append_right _ (inT2 _ (List.mem_of_getElem? (i := 51) rfl)), rfl⟩
theorem wd_2_52 : Cond.selects "java/lang/IndexOutOfBoundsException" ⟨"java/lang/Throwable", "fillInStackTrace", "()Ljava/lang/Throwable;"⟩ ⟨"java/lang/Throwable", "fillInStackTrace", "()Ljava/lang/Throwable;"⟩ ∈ wAll := List.mem_filter.mpr ⟨List.mem_append_right _ (inT2 _ (List.mem_of_getElem? (i := 52) rfl)), rfl⟩
theorem wd_2_53 : Cond.lays "java/lang/IndexOutOfBoundsException" "java/lang/Throwable" "cause" "Ljava/lang/Throwable;" ∈ wAll := List.mem_filter.mpr ⟨List.mem_append_right _ (inT2 _ (List.mem_of_getElem? (i := 53) rfl)), rfl⟩
theorem wd_2_54 : Cond.lays "java/lang/Throwable" "java/lang/Throwable" "cause" "Ljava/lang/Throwable;" ∈ wAll := List.mem_filter.mpr ⟨List.mem_append_right _ (inT2 _ (List.mem_of_getElem? (i := 54) rfl)), rfl⟩
theorem wd_2_55 : Cond.lays "java/lang/IndexOutOfBoundsException" "java/lang/Throwable" "stackTrace" "[Ljava/lang/StackTraceElement;" ∈ wAll := List.mem_filter.mpr ⟨List.mem_append_right _ (inT2 _ (List.mem_of_getElem? (i := 55) rfl)), rfl⟩
theorem wd_2_56 : Cond.lays "java/lang/Throwable" "java/lang/Throwable" "stackTrace" "[Ljava/lang/StackTraceElement;" ∈ wAll := List.mem_filter.mpr ⟨List.mem_append_right _ (inT2 _ (List.mem_of_getElem? (i := 56) rfl)), rfl⟩
theorem wd_2_57 : Cond.lays "java/lang/IndexOutOfBoundsException" "java/lang/Throwable" "suppressedExceptions" "Ljava/util/List;" ∈ wAll := List.mem_filter.mpr ⟨List.mem_append_right _ (inT2 _ (List.mem_of_getElem? (i := 57) rfl)), rfl⟩
theorem wd_2_58 : Cond.lays "java/lang/Throwable" "java/lang/Throwable" "suppressedExceptions" "Ljava/util/List;" ∈ wAll := List.mem_filter.mpr ⟨List.mem_append_right _ (inT2 _ (List.mem_of_getElem? (i := 58) rfl)), rfl⟩
theorem wd_2_59 : Cond.lays "java/lang/IndexOutOfBoundsException" "java/lang/Throwable" "detailMessage" "Ljava/lang/String;" ∈ wAll := List.mem_filter.mpr ⟨List.mem_append_right _ (inT2 _ (List.mem_of_getElem? (i := 59) rfl)), rfl⟩
theorem wd_2_60 : Cond.lays "java/lang/Throwable" "java/lang/Throwable" "detailMessage" "Ljava/lang/String;" ∈ wAll := List.mem_filter.mpr ⟨List.mem_append_right _ (inT2 _ (List.mem_of_getElem? (i := 60) rfl)), rfl⟩
theorem wd_2_61 : Cond.lays "java/lang/IndexOutOfBoundsException" "java/lang/Throwable" "backtrace" "Ljava/lang/Object;" ∈ wAll := List.mem_filter.mpr ⟨List.mem_append_right _ (inT2 _ (List.mem_of_getElem? (i := 61) rfl)), rfl⟩
theorem wd_2_62 : Cond.lays "java/lang/Throwable" "java/lang/Throwable" "backtrace" "Ljava/lang/Object;" ∈ wAll := List.mem_filter.mpr ⟨List.mem_append_right _ (inT2 _ (List.mem_of_getElem? (i := 62) rfl)), rfl⟩
theorem wd_2_63 : Cond.fieldLink "java/lang/Throwable" 198 "java/lang/Throwable" "backtrace" "Ljava/lang/Object;" ∈ wAll := List.mem_filter.mpr ⟨List.mem_append_right _ (inT2 _ (List.mem_of_getElem? (i := 63) rfl)), rfl⟩
theorem wd_2_65 : Cond.instanceMethod ⟨"java/lang/Throwable", "<init>", "()V"⟩ ∈ wAll := List.mem_filter.mpr ⟨List.mem_append_right _ (inT2 _ (List.mem_of_getElem? (i := 65) rfl)), rfl⟩
theorem wd_2_66 : Cond.code ⟨"java/lang/Throwable", "<init>", "()V"⟩ prog_16_method_1_code 1 none ∈ wAll := List.mem_filter.mpr ⟨List.mem_append_right _ (inT2 _ (List.mem_of_getElem? (i := 66) rfl)), rfl⟩
theorem wd_2_67 : Cond.methodLink "java/lang/Throwable" 1 ⟨"java/lang/Object", "<init>", "()V"⟩ ∈ wAll := List.mem_filter.mpr ⟨List.mem_append_right _ (inT2 _ (List.mem_of_getElem? (i := 67) rfl)), rfl⟩
theorem wd_2_68 : Cond.fieldLink "java/lang/Throwable" 13 "java/lang/Throwable" "UNASSIGNED_STACK" "[Ljava/lang/StackTraceElement;" ∈ wAll := List.mem_filter.mpr ⟨List.mem_append_right _ (inT2 _ (List.mem_of_getElem? (i := 68) rfl)), rfl⟩
theorem wd_2_70 : Cond.fieldLink "java/lang/Throwable" 20 "java/lang/Throwable" "SUPPRESSED_SENTINEL" "Ljava/util/List;" ∈ wAll := List.mem_filter.mpr ⟨List.mem_append_right _ (inT2 _ (List.mem_of_getElem? (i := 70) rfl)), rfl⟩
theorem wd_2_72 : Cond.methodLink "java/lang/Throwable" 27 ⟨"java/lang/Throwable", "fillInStackTrace", "()Ljava/lang/Throwable;"⟩ ∈ wAll := List.mem_filter.mpr ⟨List.mem_append_right _ (inT2 _ (List.mem_of_getElem? (i := 72) rfl)), rfl⟩
theorem wd_2_73 : Cond.instanceMethod ⟨"java/lang/Throwable", "fillInStackTrace", "()Ljava/lang/Throwable;"⟩ ∈ wAll := List.mem_filter.mpr ⟨List.mem_append_right _ (inT2 _ (List.mem_of_getElem? (i := 73) rfl)), rfl⟩
theorem wd_2_75 : Cond.selects "java/lang/IllegalArgumentException" ⟨"java/lang/Throwable", "fillInStackTrace", "()Ljava/lang/Throwable;"⟩ ⟨"java/lang/Throwable", "fillInStackTrace", "()Ljava/lang/Throwable;"⟩ ∈ wAll := List.mem_filter.mpr ⟨List.mem_append_right _ (inT2 _ (List.mem_of_getElem? (i := 75) rfl)), rfl⟩
theorem wd_2_76 : Cond.selects "java/lang/IllegalStateException" ⟨"java/lang/Throwable", "fillInStackTrace", "()Ljava/lang/Throwable;"⟩ ⟨"java/lang/Throwable", "fillInStackTrace", "()Ljava/lang/Throwable;"⟩ ∈ wAll := List.mem_filter.mpr ⟨List.mem_append_right _ (inT2 _ (List.mem_of_getElem? (i := 76) rfl)), rfl⟩
theorem wd_2_78 : Cond.methodLink "java/lang/Throwable" 202 ⟨"java/lang/Throwable", "fillInStackTrace", "(I)Ljava/lang/Throwable;"⟩ ∈ wAll := List.mem_filter.mpr ⟨List.mem_append_right _ (inT2 _ (List.mem_of_getElem? (i := 78) rfl)), rfl⟩
theorem wd_2_80 : Cond.instanceMethod ⟨"java/lang/Throwable", "fillInStackTrace", "(I)Ljava/lang/Throwable;"⟩ ∈ wAll := List.mem_filter.mpr ⟨List.mem_append_right _ (inT2 _ (List.mem_of_getElem? (i := 80) rfl)), rfl⟩
theorem wd_2_81 : Cond.instantiable "java/lang/Throwable" 6 ∈ wAll := List.mem_filter.mpr ⟨List.mem_append_right _ (inT2 _ (List.mem_of_getElem? (i := 81) rfl)), rfl⟩
theorem wd_2_84 : Cond.methodLink RX5 213 ⟨"java/lang/IndexOutOfBoundsException", "<init>", "(Ljava/lang/String;)V"⟩ ∈ wAll := List.mem_filter.mpr ⟨List.mem_append_right _ (inT2 _ (List.mem_of_getElem? (i := 84) rfl)), rfl⟩
theorem wd_2_85 : Cond.instanceMethod ⟨"java/lang/IndexOutOfBoundsException", "<init>", "(Ljava/lang/String;)V"⟩ ∈ wAll := List.mem_filter.mpr ⟨List.mem_append_right _ (inT2 _ (List.mem_of_getElem? (i := 85) rfl)), rfl⟩
theorem wd_2_86 : Cond.code ⟨"java/lang/IndexOutOfBoundsException", "<init>", "(Ljava/lang/String;)V"⟩ prog_12_method_2_code 2 none ∈ wAll := List.mem_filter.mpr ⟨List.mem_append_right _ (inT2 _ (List.mem_of_getElem? (i := 86) rfl)), rfl⟩
theorem wd_2_87 : Cond.methodLink "java/lang/IndexOutOfBoundsException" 7 ⟨"java/lang/RuntimeException", "<init>", "(Ljava/lang/String;)V"⟩ ∈ wAll := List.mem_filter.mpr ⟨List.mem_append_right _ (inT2 _ (List.mem_of_getElem? (i := 87) rfl)), rfl⟩
theorem wd_2_88 : Cond.instanceMethod ⟨"java/lang/RuntimeException", "<init>", "(Ljava/lang/String;)V"⟩ ∈ wAll := List.mem_filter.mpr ⟨List.mem_append_right _ (inT2 _ (List.mem_of_getElem? (i := 88) rfl)), rfl⟩
theorem wd_2_89 : Cond.code ⟨"java/lang/RuntimeException", "<init>", "(Ljava/lang/String;)V"⟩ prog_14_method_2_code 2 none ∈ wAll := List.mem_filter.mpr ⟨List.mem_append_right _ (inT2 _ (List.mem_of_getElem? (i := 89) rfl)), rfl⟩
theorem wd_2_90 : Cond.methodLink "java/lang/RuntimeException" 7 ⟨"java/lang/Exception", "<init>", "(Ljava/lang/String;)V"⟩ ∈ wAll := List.mem_filter.mpr ⟨List.mem_append_right _ (inT2 _ (List.mem_of_getElem? (i := 90) rfl)), rfl⟩
theorem wd_2_91 : Cond.instanceMethod ⟨"java/lang/Exception", "<init>", "(Ljava/lang/String;)V"⟩ ∈ wAll := List.mem_filter.mpr ⟨List.mem_append_right _ (inT2 _ (List.mem_of_getElem? (i := 91) rfl)), rfl⟩
theorem wd_2_92 : Cond.code ⟨"java/lang/Exception", "<init>", "(Ljava/lang/String;)V"⟩ prog_9_method_2_code 2 none ∈ wAll := List.mem_filter.mpr ⟨List.mem_append_right _ (inT2 _ (List.mem_of_getElem? (i := 92) rfl)), rfl⟩
theorem wd_2_93 : Cond.methodLink "java/lang/Exception" 7 ⟨"java/lang/Throwable", "<init>", "(Ljava/lang/String;)V"⟩ ∈ wAll := List.mem_filter.mpr ⟨List.mem_append_right _ (inT2 _ (List.mem_of_getElem? (i := 93) rfl)), rfl⟩
theorem wd_2_94 : Cond.instanceMethod ⟨"java/lang/Throwable", "<init>", "(Ljava/lang/String;)V"⟩ ∈ wAll := List.mem_filter.mpr ⟨List.mem_append_right _ (inT2 _ (List.mem_of_getElem? (i := 94) rfl)), rfl⟩
theorem wd_2_95 : Cond.code ⟨"java/lang/Throwable", "<init>", "(Ljava/lang/String;)V"⟩ prog_16_method_2_code 2 none ∈ wAll := List.mem_filter.mpr ⟨List.mem_append_right _ (inT2 _ (List.mem_of_getElem? (i := 95) rfl)), rfl⟩
theorem wd_2_96 : Cond.fieldLink "java/lang/Throwable" 198 "java/lang/Throwable" "backtrace" "Ljava/lang/Object;" ∈ wAll := List.mem_filter.mpr ⟨List.mem_append_right _ (inT2 _ (List.mem_of_getElem? (i := 96) rfl)), rfl⟩
theorem wd_2_97 : Cond.fieldLink "java/lang/Throwable" 31 "java/lang/Throwable" "detailMessage" "Ljava/lang/String;" ∈ wAll := List.mem_filter.mpr ⟨List.mem_append_right _ (inT2 _ (List.mem_of_getElem? (i := 97) rfl)), rfl⟩
theorem wd_2_98 : Cond.fieldLink "java/lang/Throwable" 7 "java/lang/Throwable" "cause" "Ljava/lang/Throwable;" ∈ wAll := List.mem_filter.mpr ⟨List.mem_append_right _ (inT2 _ (List.mem_of_getElem? (i := 98) rfl)), rfl⟩
theorem wd_2_99 : Cond.fieldLink "java/lang/Throwable" 17 "java/lang/Throwable" "stackTrace" "[Ljava/lang/StackTraceElement;" ∈ wAll := List.mem_filter.mpr ⟨List.mem_append_right _ (inT2 _ (List.mem_of_getElem? (i := 99) rfl)), rfl⟩
theorem wd_2_100 : Cond.fieldLink "java/lang/Throwable" 24 "java/lang/Throwable" "suppressedExceptions" "Ljava/util/List;" ∈ wAll := List.mem_filter.mpr ⟨List.mem_append_right _ (inT2 _ (List.mem_of_getElem? (i := 100) rfl)), rfl⟩
theorem wd_2_105 : Cond.lays "java/lang/IndexOutOfBoundsException" "java/lang/Throwable" "depth" "I" ∈ wAll := List.mem_filter.mpr ⟨List.mem_append_right _ (inT2 _ (List.mem_of_getElem? (i := 105) rfl)), rfl⟩
theorem wd_2_109 : Cond.arrayClass .byte ∈ wAll := List.mem_filter.mpr ⟨List.mem_append_right _ (inT2 _ (List.mem_of_getElem? (i := 109) rfl)), rfl⟩
theorem wd_2_110 : Cond.methodLink RX5 24 yX5_requireWithin ∈ wAll := List.mem_filter.mpr ⟨List.mem_append_right _ (inT2 _ (List.mem_of_getElem? (i := 110) rfl)), rfl⟩
theorem wd_2_111 : Cond.static yX5_requireWithin ∈ wAll := List.mem_filter.mpr ⟨List.mem_append_right _ (inT2 _ (List.mem_of_getElem? (i := 111) rfl)), rfl⟩
theorem wd_2_112 : Cond.code yX5_requireWithin prog_1_method_31_code 3 none ∈ wAll := List.mem_filter.mpr ⟨List.mem_append_right _ (inT2 _ (List.mem_of_getElem? (i := 112) rfl)), rfl⟩
theorem wd_2_113 : Cond.methodLink RX5 81 yX5_requireArgument ∈ wAll := List.mem_filter.mpr ⟨List.mem_append_right _ (inT2 _ (List.mem_of_getElem? (i := 113) rfl)), rfl⟩
theorem wd_2_114 : Cond.static yX5_requireArgument ∈ wAll := List.mem_filter.mpr ⟨List.mem_append_right _ (inT2 _ (List.mem_of_getElem? (i := 114) rfl)), rfl⟩
theorem wd_2_115 : Cond.code yX5_requireArgument prog_1_method_32_code 1 none ∈ wAll := List.mem_filter.mpr ⟨List.mem_append_right _ (inT2 _ (List.mem_of_getElem? (i := 115) rfl)), rfl⟩
theorem wd_2_116 : Cond.classLink RX5 220 "java/lang/IllegalArgumentException" ∈ wAll := List.mem_filter.mpr ⟨List.mem_append_right _ (inT2 _ (List.mem_of_getElem? (i := 116) rfl)), rfl⟩
theorem wd_2_117 : Cond.instantiable "java/lang/IllegalArgumentException" 6 ∈ wAll := List.mem_filter.mpr ⟨List.mem_append_right _ (inT2 _ (List.mem_of_getElem? (i := 117) rfl)), rfl⟩
theorem wd_2_119 : Cond.selects "java/lang/IllegalArgumentException" ⟨"java/lang/Throwable", "fillInStackTrace", "(I)Ljava/lang/Throwable;"⟩ ⟨"java/lang/Throwable", "fillInStackTrace", "(I)Ljava/lang/Throwable;"⟩ ∈ wAll := List.mem_filter.mpr ⟨List.mem_append_right _ (inT2 _ (List.mem_of_getElem? (i := 119) rfl)), rfl⟩
theorem wd_2_120 : Cond.lays "java/lang/IllegalArgumentException" "java/lang/Throwable" "cause" "Ljava/lang/Throwable;" ∈ wAll := List.mem_filter.mpr ⟨List.mem_append_right _ (inT2 _ (List.mem_of_getElem? (i := 120) rfl)), rfl⟩
theorem wd_2_121 : Cond.lays "java/lang/IllegalArgumentException" "java/lang/Throwable" "stackTrace" "[Ljava/lang/StackTraceElement;" ∈ wAll := List.mem_filter.mpr ⟨List.mem_append_right _ (inT2 _ (List.mem_of_getElem? (i := 121) rfl)), rfl⟩
theorem wd_2_122 : Cond.lays "java/lang/IllegalArgumentException" "java/lang/Throwable" "suppressedExceptions" "Ljava/util/List;" ∈ wAll := List.mem_filter.mpr ⟨List.mem_append_right _ (inT2 _ (List.mem_of_getElem? (i := 122) rfl)), rfl⟩
theorem wd_2_123 : Cond.lays "java/lang/IllegalArgumentException" "java/lang/Throwable" "detailMessage" "Ljava/lang/String;" ∈ wAll := List.mem_filter.mpr ⟨List.mem_append_right _ (inT2 _ (List.mem_of_getElem? (i := 123) rfl)), rfl⟩
theorem wd_2_124 : Cond.lays "java/lang/IllegalArgumentException" "java/lang/Throwable" "backtrace" "Ljava/lang/Object;" ∈ wAll := List.mem_filter.mpr ⟨List.mem_append_right _ (inT2 _ (List.mem_of_getElem? (i := 124) rfl)), rfl⟩
theorem wd_2_126 : Cond.methodLink RX5 224 ⟨"java/lang/IllegalArgumentException", "<init>", "(Ljava/lang/String;)V"⟩ ∈ wAll := List.mem_filter.mpr ⟨List.mem_append_right _ (inT2 _ (List.mem_of_getElem? (i := 126) rfl)), rfl⟩
theorem wd_2_127 : Cond.instanceMethod ⟨"java/lang/IllegalArgumentException", "<init>", "(Ljava/lang/String;)V"⟩ ∈ wAll := List.mem_filter.mpr ⟨List.mem_append_right _ (inT2 _ (List.mem_of_getElem? (i := 127) rfl)), rfl⟩
theorem wd_2_128 : Cond.code ⟨"java/lang/IllegalArgumentException", "<init>", "(Ljava/lang/String;)V"⟩ prog_10_method_2_code 2 none ∈ wAll := List.mem_filter.mpr ⟨List.mem_append_right _ (inT2 _ (List.mem_of_getElem? (i := 128) rfl)), rfl⟩
theorem wd_2_129 : Cond.methodLink "java/lang/IllegalArgumentException" 7 ⟨"java/lang/RuntimeException", "<init>", "(Ljava/lang/String;)V"⟩ ∈ wAll := List.mem_filter.mpr ⟨List.mem_append_right _ (inT2 _ (List.mem_of_getElem? (i := 129) rfl)), rfl⟩
theorem wd_2_130 : Cond.lays "java/lang/IllegalArgumentException" "java/lang/Throwable" "depth" "I" ∈ wAll := List.mem_filter.mpr ⟨List.mem_append_right _ (inT2 _ (List.mem_of_getElem? (i := 130) rfl)), rfl⟩
theorem wd_2_132 : Cond.methodLink RL 134 yX5_setLoad ∈ wAll := List.mem_filter.mpr ⟨List.mem_append_right _ (inT2 _ (List.mem_of_getElem? (i := 132) rfl)), rfl⟩
theorem wd_2_133 : Cond.instanceMethod yX5_setLoad ∈ wAll := List.mem_filter.mpr ⟨List.mem_append_right _ (inT2 _ (List.mem_of_getElem? (i := 133) rfl)), rfl⟩
theorem wd_2_134 : Cond.selects RX5 yX5_setLoad yX5_setLoad ∈ wAll := List.mem_filter.mpr ⟨List.mem_append_right _ (inT2 _ (List.mem_of_getElem? (i := 134) rfl)), rfl⟩
theorem wd_2_135 : Cond.code yX5_setLoad prog_1_method_3_code 5 (some .int) ∈ wAll := List.mem_filter.mpr ⟨List.mem_append_right _ (inT2 _ (List.mem_of_getElem? (i := 135) rfl)), rfl⟩
theorem wd_2_136 : Cond.constant RL 137 (40001) ∈ wAll := List.mem_filter.mpr ⟨List.mem_append_right _ (inT2 _ (List.mem_of_getElem? (i := 136) rfl)), rfl⟩
theorem wd_2_137 : Cond.methodLink RL 138 yL_gains ∈ wAll := List.mem_filter.mpr ⟨List.mem_append_right _ (inT2 _ (List.mem_of_getElem? (i := 137) rfl)), rfl⟩
theorem wd_2_138 : Cond.static yL_gains ∈ wAll := List.mem_filter.mpr ⟨List.mem_append_right _ (inT2 _ (List.mem_of_getElem? (i := 138) rfl)), rfl⟩
theorem wd_2_139 : Cond.code yL_gains method_13_code 14 (some .boolean) ∈ wAll := List.mem_filter.mpr ⟨List.mem_append_right _ (inT2 _ (List.mem_of_getElem? (i := 139) rfl)), rfl⟩
theorem wd_2_140 : Cond.methodLink RL 30 yX5_mode ∈ wAll := List.mem_filter.mpr ⟨List.mem_append_right _ (inT2 _ (List.mem_of_getElem? (i := 140) rfl)), rfl⟩
theorem wd_2_141 : Cond.instanceMethod yX5_mode ∈ wAll := List.mem_filter.mpr ⟨List.mem_append_right _ (inT2 _ (List.mem_of_getElem? (i := 141) rfl)), rfl⟩
theorem wd_2_142 : Cond.selects RX5 yX5_mode yX5_mode ∈ wAll := List.mem_filter.mpr ⟨List.mem_append_right _ (inT2 _ (List.mem_of_getElem? (i := 142) rfl)), rfl⟩
theorem wd_2_143 : Cond.code yX5_mode prog_1_method_19_code 2 (some .int) ∈ wAll := List.mem_filter.mpr ⟨List.mem_append_right _ (inT2 _ (List.mem_of_getElem? (i := 143) rfl)), rfl⟩
theorem wd_2_144 : Cond.methodLink RL 46 yX5_setpoint ∈ wAll := List.mem_filter.mpr ⟨List.mem_append_right _ (inT2 _ (List.mem_of_getElem? (i := 144) rfl)), rfl⟩
theorem wd_2_145 : Cond.instanceMethod yX5_setpoint ∈ wAll := List.mem_filter.mpr ⟨List.mem_append_right _ (inT2 _ (List.mem_of_getElem? (i := 145) rfl)), rfl⟩
theorem wd_2_146 : Cond.selects RX5 yX5_setpoint yX5_setpoint ∈ wAll := List.mem_filter.mpr ⟨List.mem_append_right _ (inT2 _ (List.mem_of_getElem? (i := 146) rfl)), rfl⟩
theorem wd_2_147 : Cond.code yX5_setpoint prog_1_method_16_code 2 (some .long) ∈ wAll := List.mem_filter.mpr ⟨List.mem_append_right _ (inT2 _ (List.mem_of_getElem? (i := 147) rfl)), rfl⟩
theorem wd_2_148 : Cond.methodLink RL 42 yX5_measure ∈ wAll := List.mem_filter.mpr ⟨List.mem_append_right _ (inT2 _ (List.mem_of_getElem? (i := 148) rfl)), rfl⟩
theorem wd_2_149 : Cond.instanceMethod yX5_measure ∈ wAll := List.mem_filter.mpr ⟨List.mem_append_right _ (inT2 _ (List.mem_of_getElem? (i := 149) rfl)), rfl⟩
theorem wd_2_150 : Cond.selects RX5 yX5_measure yX5_measure ∈ wAll := List.mem_filter.mpr ⟨List.mem_append_right _ (inT2 _ (List.mem_of_getElem? (i := 150) rfl)), rfl⟩
theorem wd_2_151 : Cond.code yX5_measure prog_1_method_13_code 2 (some .long) ∈ wAll := List.mem_filter.mpr ⟨List.mem_append_right _ (inT2 _ (List.mem_of_getElem? (i := 151) rfl)), rfl⟩
theorem wd_2_152 : Cond.methodLink RL 82 yX5_integral ∈ wAll := List.mem_filter.mpr ⟨List.mem_append_right _ (inT2 _ (List.mem_of_getElem? (i := 152) rfl)), rfl⟩
theorem wd_2_153 : Cond.instanceMethod yX5_integral ∈ wAll := List.mem_filter.mpr ⟨List.mem_append_right _ (inT2 _ (List.mem_of_getElem? (i := 153) rfl)), rfl⟩
theorem wd_2_154 : Cond.selects RX5 yX5_integral yX5_integral ∈ wAll := List.mem_filter.mpr ⟨List.mem_append_right _ (inT2 _ (List.mem_of_getElem? (i := 154) rfl)), rfl⟩
theorem wd_2_155 : Cond.code yX5_integral prog_1_method_17_code 2 (some .long) ∈ wAll := List.mem_filter.mpr ⟨List.mem_append_right _ (inT2 _ (List.mem_of_getElem? (i := 155) rfl)), rfl⟩
theorem wd_2_156 : Cond.methodLink RL 71 yX5_gain ∈ wAll := List.mem_filter.mpr ⟨List.mem_append_right _ (inT2 _ (List.mem_of_getElem? (i := 156) rfl)), rfl⟩
theorem wd_2_157 : Cond.instanceMethod yX5_gain ∈ wAll := List.mem_filter.mpr ⟨List.mem_append_right _ (inT2 _ (List.mem_of_getElem? (i := 157) rfl)), rfl⟩
theorem wd_2_158 : Cond.selects RX5 yX5_gain yX5_gain ∈ wAll := List.mem_filter.mpr ⟨List.mem_append_right _ (inT2 _ (List.mem_of_getElem? (i := 158) rfl)), rfl⟩
theorem wd_2_159 : Cond.code yX5_gain prog_1_method_18_code 4 (some .int) ∈ wAll := List.mem_filter.mpr ⟨List.mem_append_right _ (inT2 _ (List.mem_of_getElem? (i := 159) rfl)), rfl⟩
theorem wd_2_160 : Cond.methodLink RX5 148 yX5_requireGainNumber ∈ wAll := List.mem_filter.mpr ⟨List.mem_append_right _ (inT2 _ (List.mem_of_getElem? (i := 160) rfl)), rfl⟩
theorem wd_2_161 : Cond.static yX5_requireGainNumber ∈ wAll := List.mem_filter.mpr ⟨List.mem_append_right _ (inT2 _ (List.mem_of_getElem? (i := 161) rfl)), rfl⟩
theorem wd_2_162 : Cond.code yX5_requireGainNumber prog_1_method_29_code 1 none ∈ wAll := List.mem_filter.mpr ⟨List.mem_append_right _ (inT2 _ (List.mem_of_getElem? (i := 162) rfl)), rfl⟩
theorem wd_2_164 : Cond.methodLink RL 126 yX5_setGains ∈ wAll := List.mem_filter.mpr ⟨List.mem_append_right _ (inT2 _ (List.mem_of_getElem? (i := 164) rfl)), rfl⟩
theorem wd_2_165 : Cond.instanceMethod yX5_setGains ∈ wAll := List.mem_filter.mpr ⟨List.mem_append_right _ (inT2 _ (List.mem_of_getElem? (i := 165) rfl)), rfl⟩
theorem wd_2_166 : Cond.selects RX5 yX5_setGains yX5_setGains ∈ wAll := List.mem_filter.mpr ⟨List.mem_append_right _ (inT2 _ (List.mem_of_getElem? (i := 166) rfl)), rfl⟩
theorem wd_2_167 : Cond.code yX5_setGains prog_1_method_4_code 6 (some .int) ∈ wAll := List.mem_filter.mpr ⟨List.mem_append_right _ (inT2 _ (List.mem_of_getElem? (i := 167) rfl)), rfl⟩
theorem wd_2_168 : Cond.methodLink RX5 46 yX5_requireGains ∈ wAll := List.mem_filter.mpr ⟨List.mem_append_right _ (inT2 _ (List.mem_of_getElem? (i := 168) rfl)), rfl⟩
theorem wd_2_169 : Cond.static yX5_requireGains ∈ wAll := List.mem_filter.mpr ⟨List.mem_append_right _ (inT2 _ (List.mem_of_getElem? (i := 169) rfl)), rfl⟩
theorem wd_2_170 : Cond.code yX5_requireGains prog_1_method_30_code 3 none ∈ wAll := List.mem_filter.mpr ⟨List.mem_append_right _ (inT2 _ (List.mem_of_getElem? (i := 170) rfl)), rfl⟩
theorem wd_2_171 : Cond.constant RX5 218 (-50000) ∈ wAll := List.mem_filter.mpr ⟨List.mem_append_right _ (inT2 _ (List.mem_of_getElem? (i := 171) rfl)), rfl⟩
theorem wd_2_172 : Cond.constant RX5 219 (50000) ∈ wAll := List.mem_filter.mpr ⟨List.mem_append_right _ (inT2 _ (List.mem_of_getElem? (i := 172) rfl)), rfl⟩
theorem wd_2_173 : Cond.methodLink RX5 52 yX5_requireState ∈ wAll := List.mem_filter.mpr ⟨List.mem_append_right _ (inT2 _ (List.mem_of_getElem? (i := 173) rfl)), rfl⟩
theorem wd_2_174 : Cond.static yX5_requireState ∈ wAll := List.mem_filter.mpr ⟨List.mem_append_right _ (inT2 _ (List.mem_of_getElem? (i := 174) rfl)), rfl⟩
theorem wd_2_175 : Cond.code yX5_requireState prog_1_method_33_code 1 none ∈ wAll := List.mem_filter.mpr ⟨List.mem_append_right _ (inT2 _ (List.mem_of_getElem? (i := 175) rfl)), rfl⟩
theorem wd_2_176 : Cond.classLink RX5 225 "java/lang/IllegalStateException" ∈ wAll := List.mem_filter.mpr ⟨List.mem_append_right _ (inT2 _ (List.mem_of_getElem? (i := 176) rfl)), rfl⟩
theorem wd_2_177 : Cond.instantiable "java/lang/IllegalStateException" 6 ∈ wAll := List.mem_filter.mpr ⟨List.mem_append_right _ (inT2 _ (List.mem_of_getElem? (i := 177) rfl)), rfl⟩
theorem wd_2_179 : Cond.selects "java/lang/IllegalStateException" ⟨"java/lang/Throwable", "fillInStackTrace", "(I)Ljava/lang/Throwable;"⟩ ⟨"java/lang/Throwable", "fillInStackTrace", "(I)Ljava/lang/Throwable;"⟩ ∈ wAll := List.mem_filter.mpr ⟨List.mem_append_right _ (inT2 _ (List.mem_of_getElem? (i := 179) rfl)), rfl⟩
theorem wd_2_180 : Cond.lays "java/lang/IllegalStateException" "java/lang/Throwable" "cause" "Ljava/lang/Throwable;" ∈ wAll := List.mem_filter.mpr ⟨List.mem_append_right _ (inT2 _ (List.mem_of_getElem? (i := 180) rfl)), rfl⟩
theorem wd_2_181 : Cond.lays "java/lang/IllegalStateException" "java/lang/Throwable" "stackTrace" "[Ljava/lang/StackTraceElement;" ∈ wAll := List.mem_filter.mpr ⟨List.mem_append_right _ (inT2 _ (List.mem_of_getElem? (i := 181) rfl)), rfl⟩
theorem wd_2_182 : Cond.lays "java/lang/IllegalStateException" "java/lang/Throwable" "suppressedExceptions" "Ljava/util/List;" ∈ wAll := List.mem_filter.mpr ⟨List.mem_append_right _ (inT2 _ (List.mem_of_getElem? (i := 182) rfl)), rfl⟩
theorem wd_2_183 : Cond.lays "java/lang/IllegalStateException" "java/lang/Throwable" "detailMessage" "Ljava/lang/String;" ∈ wAll := List.mem_filter.mpr ⟨List.mem_append_right _ (inT2 _ (List.mem_of_getElem? (i := 183) rfl)), rfl⟩
theorem wd_2_184 : Cond.lays "java/lang/IllegalStateException" "java/lang/Throwable" "backtrace" "Ljava/lang/Object;" ∈ wAll := List.mem_filter.mpr ⟨List.mem_append_right _ (inT2 _ (List.mem_of_getElem? (i := 184) rfl)), rfl⟩
theorem wd_2_186 : Cond.methodLink RX5 229 ⟨"java/lang/IllegalStateException", "<init>", "(Ljava/lang/String;)V"⟩ ∈ wAll := List.mem_filter.mpr ⟨List.mem_append_right _ (inT2 _ (List.mem_of_getElem? (i := 186) rfl)), rfl⟩
theorem wd_2_187 : Cond.instanceMethod ⟨"java/lang/IllegalStateException", "<init>", "(Ljava/lang/String;)V"⟩ ∈ wAll := List.mem_filter.mpr ⟨List.mem_append_right _ (inT2 _ (List.mem_of_getElem? (i := 187) rfl)), rfl⟩
theorem wd_2_188 : Cond.code ⟨"java/lang/IllegalStateException", "<init>", "(Ljava/lang/String;)V"⟩ prog_11_method_2_code 2 none ∈ wAll := List.mem_filter.mpr ⟨List.mem_append_right _ (inT2 _ (List.mem_of_getElem? (i := 188) rfl)), rfl⟩
theorem wd_2_189 : Cond.methodLink "java/lang/IllegalStateException" 7 ⟨"java/lang/RuntimeException", "<init>", "(Ljava/lang/String;)V"⟩ ∈ wAll := List.mem_filter.mpr ⟨List.mem_append_right _ (inT2 _ (List.mem_of_getElem? (i := 189) rfl)), rfl⟩
theorem wd_2_190 : Cond.lays "java/lang/IllegalStateException" "java/lang/Throwable" "depth" "I" ∈ wAll := List.mem_filter.mpr ⟨List.mem_append_right _ (inT2 _ (List.mem_of_getElem? (i := 190) rfl)), rfl⟩
theorem wd_2_192 : Cond.methodLink RX5 60 yX0_changeGains ∈ wAll := List.mem_filter.mpr ⟨List.mem_append_right _ (inT2 _ (List.mem_of_getElem? (i := 192) rfl)), rfl⟩
theorem wd_2_193 : Cond.instanceMethod yX0_changeGains ∈ wAll := List.mem_filter.mpr ⟨List.mem_append_right _ (inT2 _ (List.mem_of_getElem? (i := 193) rfl)), rfl⟩
theorem wd_2_194 : Cond.selects RX0 yX0_changeGains yX0_changeGains ∈ wAll := List.mem_filter.mpr ⟨List.mem_append_right _ (inT2 _ (List.mem_of_getElem? (i := 194) rfl)), rfl⟩
theorem wd_2_195 : Cond.code yX0_changeGains prog_2_method_5_code 4 none ∈ wAll := List.mem_filter.mpr ⟨List.mem_append_right _ (inT2 _ (List.mem_of_getElem? (i := 195) rfl)), rfl⟩
theorem wd_2_196 : Cond.methodLink RX0 52 yX0_error ∈ wAll := List.mem_filter.mpr ⟨List.mem_append_right _ (inT2 _ (List.mem_of_getElem? (i := 196) rfl)), rfl⟩
theorem wd_2_197 : Cond.instanceMethod yX0_error ∈ wAll := List.mem_filter.mpr ⟨List.mem_append_right _ (inT2 _ (List.mem_of_getElem? (i := 197) rfl)), rfl⟩
theorem wd_2_198 : Cond.selects RX0 yX0_error yX0_error ∈ wAll := List.mem_filter.mpr ⟨List.mem_append_right _ (inT2 _ (List.mem_of_getElem? (i := 198) rfl)), rfl⟩
theorem wd_2_199 : Cond.code yX0_error prog_2_method_2_code 1 (some .long) ∈ wAll := List.mem_filter.mpr ⟨List.mem_append_right _ (inT2 _ (List.mem_of_getElem? (i := 199) rfl)), rfl⟩
theorem wd_2_200 : Cond.methodLink RX0 59 yX0_rate ∈ wAll := List.mem_filter.mpr ⟨List.mem_append_right _ (inT2 _ (List.mem_of_getElem? (i := 200) rfl)), rfl⟩
theorem wd_2_202 : Cond.instanceMethod yX0_rate ∈ wAll := List.mem_filter.mpr ⟨List.mem_append_right _ (inT2 _ (List.mem_of_getElem? (i := 202) rfl)), rfl⟩
theorem wd_2_203 : Cond.code yX0_rate prog_2_method_3_code 1 (some .long) ∈ wAll := List.mem_filter.mpr ⟨List.mem_append_right _ (inT2 _ (List.mem_of_getElem? (i := 203) rfl)), rfl⟩
theorem wd_2_204 : Cond.methodLink RX5 69 yX4_takeAway ∈ wAll := List.mem_filter.mpr ⟨List.mem_append_right _ (inT2 _ (List.mem_of_getElem? (i := 204) rfl)), rfl⟩
theorem wd_2_205 : Cond.instanceMethod yX4_takeAway ∈ wAll := List.mem_filter.mpr ⟨List.mem_append_right _ (inT2 _ (List.mem_of_getElem? (i := 205) rfl)), rfl⟩
theorem wd_2_206 : Cond.selects RX4 yX4_takeAway yX4_takeAway ∈ wAll := List.mem_filter.mpr ⟨List.mem_append_right _ (inT2 _ (List.mem_of_getElem? (i := 206) rfl)), rfl⟩
theorem wd_2_207 : Cond.code yX4_takeAway prog_6_method_6_code 2 (some .int) ∈ wAll := List.mem_filter.mpr ⟨List.mem_append_right _ (inT2 _ (List.mem_of_getElem? (i := 207) rfl)), rfl⟩
theorem wd_2_208 : Cond.constantLong RL 142 (-20000) ∈ wAll := List.mem_filter.mpr ⟨List.mem_append_right _ (inT2 _ (List.mem_of_getElem? (i := 208) rfl)), rfl⟩
theorem wd_2_209 : Cond.methodLink RL 144 yX5_addPoint ∈ wAll := List.mem_filter.mpr ⟨List.mem_append_right _ (inT2 _ (List.mem_of_getElem? (i := 209) rfl)), rfl⟩
theorem wd_2_210 : Cond.instanceMethod yX5_addPoint ∈ wAll := List.mem_filter.mpr ⟨List.mem_append_right _ (inT2 _ (List.mem_of_getElem? (i := 210) rfl)), rfl⟩
theorem wd_2_211 : Cond.selects RX5 yX5_addPoint yX5_addPoint ∈ wAll := List.mem_filter.mpr ⟨List.mem_append_right _ (inT2 _ (List.mem_of_getElem? (i := 211) rfl)), rfl⟩
theorem wd_2_212 : Cond.code yX5_addPoint prog_1_method_5_code 7 (some .int) ∈ wAll := List.mem_filter.mpr ⟨List.mem_append_right _ (inT2 _ (List.mem_of_getElem? (i := 212) rfl)), rfl⟩
theorem wd_2_213 : Cond.constant RX5 75 (-1000000) ∈ wAll := List.mem_filter.mpr ⟨List.mem_append_right _ (inT2 _ (List.mem_of_getElem? (i := 213) rfl)), rfl⟩
theorem wd_2_214 : Cond.constant RX5 76 (1000000) ∈ wAll := List.mem_filter.mpr ⟨List.mem_append_right _ (inT2 _ (List.mem_of_getElem? (i := 214) rfl)), rfl⟩
theorem wd_2_215 : Cond.methodLink RX5 77 yX4_endsBelow ∈ wAll := List.mem_filter.mpr ⟨List.mem_append_right _ (inT2 _ (List.mem_of_getElem? (i := 215) rfl)), rfl⟩
theorem wd_2_216 : Cond.instanceMethod yX4_endsBelow ∈ wAll := List.mem_filter.mpr ⟨List.mem_append_right _ (inT2 _ (List.mem_of_getElem? (i := 216) rfl)), rfl⟩
theorem wd_2_217 : Cond.selects RX4 yX4_endsBelow yX4_endsBelow ∈ wAll := List.mem_filter.mpr ⟨List.mem_append_right _ (inT2 _ (List.mem_of_getElem? (i := 217) rfl)), rfl⟩
theorem wd_2_218 : Cond.code yX4_endsBelow prog_6_method_4_code 2 (some .boolean) ∈ wAll := List.mem_filter.mpr ⟨List.mem_append_right _ (inT2 _ (List.mem_of_getElem? (i := 218) rfl)), rfl⟩
theorem wd_2_219 : Cond.methodLink RX5 84 yX4_isFull ∈ wAll := List.mem_filter.mpr ⟨List.mem_append_right _ (inT2 _ (List.mem_of_getElem? (i := 219) rfl)), rfl⟩
theorem wd_2_220 : Cond.instanceMethod yX4_isFull ∈ wAll := List.mem_filter.mpr ⟨List.mem_append_right _ (inT2 _ (List.mem_of_getElem? (i := 220) rfl)), rfl⟩
theorem wd_2_221 : Cond.selects RX4 yX4_isFull yX4_isFull ∈ wAll := List.mem_filter.mpr ⟨List.mem_append_right _ (inT2 _ (List.mem_of_getElem? (i := 221) rfl)), rfl⟩
theorem wd_2_222 : Cond.code yX4_isFull prog_6_method_3_code 1 (some .boolean) ∈ wAll := List.mem_filter.mpr ⟨List.mem_append_right _ (inT2 _ (List.mem_of_getElem? (i := 222) rfl)), rfl⟩
theorem wd_2_223 : Cond.methodLink RX5 88 yX4_addLast ∈ wAll := List.mem_filter.mpr ⟨List.mem_append_right _ (inT2 _ (List.mem_of_getElem? (i := 223) rfl)), rfl⟩
theorem wd_2_224 : Cond.instanceMethod yX4_addLast ∈ wAll := List.mem_filter.mpr ⟨List.mem_append_right _ (inT2 _ (List.mem_of_getElem? (i := 224) rfl)), rfl⟩
theorem wd_2_225 : Cond.selects RX4 yX4_addLast yX4_addLast ∈ wAll := List.mem_filter.mpr ⟨List.mem_append_right _ (inT2 _ (List.mem_of_getElem? (i := 225) rfl)), rfl⟩
theorem wd_2_226 : Cond.code yX4_addLast prog_6_method_5_code 5 (some .int) ∈ wAll := List.mem_filter.mpr ⟨List.mem_append_right _ (inT2 _ (List.mem_of_getElem? (i := 226) rfl)), rfl⟩
theorem wd_2_227 : Cond.constant RL 148 (200001) ∈ wAll := List.mem_filter.mpr ⟨List.mem_append_right _ (inT2 _ (List.mem_of_getElem? (i := 227) rfl)), rfl⟩
theorem wd_2_228 : Cond.constant RL 149 (100000) ∈ wAll := List.mem_filter.mpr ⟨List.mem_append_right _ (inT2 _ (List.mem_of_getElem? (i := 228) rfl)), rfl⟩
theorem wd_2_229 : Cond.constant RL 150 (60000) ∈ wAll := List.mem_filter.mpr ⟨List.mem_append_right _ (inT2 _ (List.mem_of_getElem? (i := 229) rfl)), rfl⟩
theorem wd_2_230 : Cond.methodLink RL 151 yX5_setLimits ∈ wAll := List.mem_filter.mpr ⟨List.mem_append_right _ (inT2 _ (List.mem_of_getElem? (i := 230) rfl)), rfl⟩
theorem wd_2_231 : Cond.instanceMethod yX5_setLimits ∈ wAll := List.mem_filter.mpr ⟨List.mem_append_right _ (inT2 _ (List.mem_of_getElem? (i := 231) rfl)), rfl⟩
theorem wd_2_232 : Cond.selects RX5 yX5_setLimits yX5_setLimits ∈ wAll := List.mem_filter.mpr ⟨List.mem_append_right _ (inT2 _ (List.mem_of_getElem? (i := 232) rfl)), rfl⟩
theorem wd_2_233 : Cond.code yX5_setLimits prog_1_method_6_code 5 none ∈ wAll := List.mem_filter.mpr ⟨List.mem_append_right _ (inT2 _ (List.mem_of_getElem? (i := 233) rfl)), rfl⟩
theorem wd_2_234 : Cond.methodLink RL 155 yX5_setGuard ∈ wAll := List.mem_filter.mpr ⟨List.mem_append_right _ (inT2 _ (List.mem_of_getElem? (i := 234) rfl)), rfl⟩
theorem wd_2_235 : Cond.instanceMethod yX5_setGuard ∈ wAll := List.mem_filter.mpr ⟨List.mem_append_right _ (inT2 _ (List.mem_of_getElem? (i := 235) rfl)), rfl⟩
theorem wd_2_236 : Cond.selects RX5 yX5_setGuard yX5_setGuard ∈ wAll := List.mem_filter.mpr ⟨List.mem_append_right _ (inT2 _ (List.mem_of_getElem? (i := 236) rfl)), rfl⟩
theorem wd_2_237 : Cond.code yX5_setGuard prog_1_method_7_code 6 (some .int) ∈ wAll := List.mem_filter.mpr ⟨List.mem_append_right _ (inT2 _ (List.mem_of_getElem? (i := 237) rfl)), rfl⟩
theorem wd_2_238 : Cond.methodLink RL 158 yX5_setSetpoint ∈ wAll := List.mem_filter.mpr ⟨List.mem_append_right _ (inT2 _ (List.mem_of_getElem? (i := 238) rfl)), rfl⟩
theorem wd_2_239 : Cond.instanceMethod yX5_setSetpoint ∈ wAll := List.mem_filter.mpr ⟨List.mem_append_right _ (inT2 _ (List.mem_of_getElem? (i := 239) rfl)), rfl⟩
theorem wd_3_0 : Cond.selects RX5 yX5_setSetpoint yX5_setSetpoint ∈ wAll := List.mem_filter.mpr ⟨List.mem_append_right _ (inT3 _ (List.mem_of_getElem? (i := 0) rfl)), rfl⟩
theorem wd_3_1 : Cond.code yX5_setSetpoint prog_1_method_8_code 6 (some .int) ∈ wAll := List.mem_filter.mpr ⟨List.mem_append_right _ (inT3 _ (List.mem_of_getElem? (i := 1) rfl)), rfl⟩
theorem wd_3_2 : Cond.methodLink RL 161 yX5_setHand ∈ wAll := List.mem_filter.mpr ⟨List.mem_append_right _ (inT3 _ (List.mem_of_getElem? (i := 2) rfl)), rfl⟩
theorem wd_3_3 : Cond.instanceMethod yX5_setHand ∈ wAll := List.mem_filter.mpr ⟨List.mem_append_right _ (inT3 _ (List.mem_of_getElem? (i := 3) rfl)), rfl⟩
theorem wd_3_4 : Cond.selects RX5 yX5_setHand yX5_setHand ∈ wAll := List.mem_filter.mpr ⟨List.mem_append_right _ (inT3 _ (List.mem_of_getElem? (i := 4) rfl)), rfl⟩
theorem wd_3_5 : Cond.code yX5_setHand prog_1_method_9_code 6 (some .int) ∈ wAll := List.mem_filter.mpr ⟨List.mem_append_right _ (inT3 _ (List.mem_of_getElem? (i := 5) rfl)), rfl⟩
theorem wd_3_6 : Cond.methodLink RL 164 yX5_setTies ∈ wAll := List.mem_filter.mpr ⟨List.mem_append_right _ (inT3 _ (List.mem_of_getElem? (i := 6) rfl)), rfl⟩
theorem wd_3_7 : Cond.instanceMethod yX5_setTies ∈ wAll := List.mem_filter.mpr ⟨List.mem_append_right _ (inT3 _ (List.mem_of_getElem? (i := 7) rfl)), rfl⟩
theorem wd_3_8 : Cond.selects RX5 yX5_setTies yX5_setTies ∈ wAll := List.mem_filter.mpr ⟨List.mem_append_right _ (inT3 _ (List.mem_of_getElem? (i := 8) rfl)), rfl⟩
theorem wd_3_9 : Cond.code yX5_setTies prog_1_method_10_code 5 none ∈ wAll := List.mem_filter.mpr ⟨List.mem_append_right _ (inT3 _ (List.mem_of_getElem? (i := 9) rfl)), rfl⟩
theorem wd_3_10 : Cond.methodLink RL 168 yL_modes ∈ wAll := List.mem_filter.mpr ⟨List.mem_append_right _ (inT3 _ (List.mem_of_getElem? (i := 10) rfl)), rfl⟩
theorem wd_3_11 : Cond.static yL_modes ∈ wAll := List.mem_filter.mpr ⟨List.mem_append_right _ (inT3 _ (List.mem_of_getElem? (i := 11) rfl)), rfl⟩
theorem wd_3_12 : Cond.code yL_modes method_12_code 8 (some .boolean) ∈ wAll := List.mem_filter.mpr ⟨List.mem_append_right _ (inT3 _ (List.mem_of_getElem? (i := 12) rfl)), rfl⟩
theorem wd_3_13 : Cond.methodLink RL 119 yX5_setMode ∈ wAll := List.mem_filter.mpr ⟨List.mem_append_right _ (inT3 _ (List.mem_of_getElem? (i := 13) rfl)), rfl⟩
theorem wd_3_14 : Cond.instanceMethod yX5_setMode ∈ wAll := List.mem_filter.mpr ⟨List.mem_append_right _ (inT3 _ (List.mem_of_getElem? (i := 14) rfl)), rfl⟩
theorem wd_3_15 : Cond.selects RX5 yX5_setMode yX5_setMode ∈ wAll := List.mem_filter.mpr ⟨List.mem_append_right _ (inT3 _ (List.mem_of_getElem? (i := 15) rfl)), rfl⟩
theorem wd_3_16 : Cond.code yX5_setMode prog_1_method_11_code 5 (some .int) ∈ wAll := List.mem_filter.mpr ⟨List.mem_append_right _ (inT3 _ (List.mem_of_getElem? (i := 16) rfl)), rfl⟩
theorem wd_3_17 : Cond.methodLink RX5 118 yX1_changeMode ∈ wAll := List.mem_filter.mpr ⟨List.mem_append_right _ (inT3 _ (List.mem_of_getElem? (i := 17) rfl)), rfl⟩
theorem wd_3_18 : Cond.instanceMethod yX1_changeMode ∈ wAll := List.mem_filter.mpr ⟨List.mem_append_right _ (inT3 _ (List.mem_of_getElem? (i := 18) rfl)), rfl⟩
theorem wd_3_19 : Cond.selects RX1 yX1_changeMode yX1_changeMode ∈ wAll := List.mem_filter.mpr ⟨List.mem_append_right _ (inT3 _ (List.mem_of_getElem? (i := 19) rfl)), rfl⟩
theorem wd_3_20 : Cond.code yX1_changeMode prog_3_method_2_code 2 none ∈ wAll := List.mem_filter.mpr ⟨List.mem_append_right _ (inT3 _ (List.mem_of_getElem? (i := 20) rfl)), rfl⟩
theorem wd_3_21 : Cond.methodLink RX1 41 yX1_goToHand ∈ wAll := List.mem_filter.mpr ⟨List.mem_append_right _ (inT3 _ (List.mem_of_getElem? (i := 21) rfl)), rfl⟩
theorem wd_3_23 : Cond.instanceMethod yX1_goToHand ∈ wAll := List.mem_filter.mpr ⟨List.mem_append_right _ (inT3 _ (List.mem_of_getElem? (i := 23) rfl)), rfl⟩
theorem wd_3_24 : Cond.code yX1_goToHand prog_3_method_3_code 1 none ∈ wAll := List.mem_filter.mpr ⟨List.mem_append_right _ (inT3 _ (List.mem_of_getElem? (i := 24) rfl)), rfl⟩
theorem wd_3_25 : Cond.methodLink RX1 55 yX3_giveUp ∈ wAll := List.mem_filter.mpr ⟨List.mem_append_right _ (inT3 _ (List.mem_of_getElem? (i := 25) rfl)), rfl⟩
theorem wd_3_26 : Cond.instanceMethod yX3_giveUp ∈ wAll := List.mem_filter.mpr ⟨List.mem_append_right _ (inT3 _ (List.mem_of_getElem? (i := 26) rfl)), rfl⟩
theorem wd_3_27 : Cond.selects RX3 yX3_giveUp yX3_giveUp ∈ wAll := List.mem_filter.mpr ⟨List.mem_append_right _ (inT3 _ (List.mem_of_getElem? (i := 27) rfl)), rfl⟩
theorem wd_3_28 : Cond.code yX3_giveUp prog_5_method_3_code 1 none ∈ wAll := List.mem_filter.mpr ⟨List.mem_append_right _ (inT3 _ (List.mem_of_getElem? (i := 28) rfl)), rfl⟩
theorem wd_3_29 : Cond.methodLink RX1 48 yX0_settle ∈ wAll := List.mem_filter.mpr ⟨List.mem_append_right _ (inT3 _ (List.mem_of_getElem? (i := 29) rfl)), rfl⟩
theorem wd_3_30 : Cond.instanceMethod yX0_settle ∈ wAll := List.mem_filter.mpr ⟨List.mem_append_right _ (inT3 _ (List.mem_of_getElem? (i := 30) rfl)), rfl⟩
theorem wd_3_31 : Cond.selects RX0 yX0_settle yX0_settle ∈ wAll := List.mem_filter.mpr ⟨List.mem_append_right _ (inT3 _ (List.mem_of_getElem? (i := 31) rfl)), rfl⟩
theorem wd_3_32 : Cond.code yX0_settle prog_2_method_6_code 3 none ∈ wAll := List.mem_filter.mpr ⟨List.mem_append_right _ (inT3 _ (List.mem_of_getElem? (i := 32) rfl)), rfl⟩
theorem wd_3_33 : Cond.constantLong RX0 62 (1000) ∈ wAll := List.mem_filter.mpr ⟨List.mem_append_right _ (inT3 _ (List.mem_of_getElem? (i := 33) rfl)), rfl⟩
theorem wd_3_34 : Cond.methodLink RL 52 yX5_output ∈ wAll := List.mem_filter.mpr ⟨List.mem_append_right _ (inT3 _ (List.mem_of_getElem? (i := 34) rfl)), rfl⟩
theorem wd_3_35 : Cond.instanceMethod yX5_output ∈ wAll := List.mem_filter.mpr ⟨List.mem_append_right _ (inT3 _ (List.mem_of_getElem? (i := 35) rfl)), rfl⟩
theorem wd_3_36 : Cond.selects RX5 yX5_output yX5_output ∈ wAll := List.mem_filter.mpr ⟨List.mem_append_right _ (inT3 _ (List.mem_of_getElem? (i := 36) rfl)), rfl⟩
theorem wd_3_37 : Cond.code yX5_output prog_1_method_14_code 2 (some .long) ∈ wAll := List.mem_filter.mpr ⟨List.mem_append_right _ (inT3 _ (List.mem_of_getElem? (i := 37) rfl)), rfl⟩
theorem wd_3_38 : Cond.methodLink RL 122 yL_isSettled ∈ wAll := List.mem_filter.mpr ⟨List.mem_append_right _ (inT3 _ (List.mem_of_getElem? (i := 38) rfl)), rfl⟩
theorem wd_3_39 : Cond.static yL_isSettled ∈ wAll := List.mem_filter.mpr ⟨List.mem_append_right _ (inT3 _ (List.mem_of_getElem? (i := 39) rfl)), rfl⟩
theorem wd_3_40 : Cond.code yL_isSettled method_11_code 7 (some .boolean) ∈ wAll := List.mem_filter.mpr ⟨List.mem_append_right _ (inT3 _ (List.mem_of_getElem? (i := 40) rfl)), rfl⟩
theorem wd_3_41 : Cond.constantLong RL 10 (1000) ∈ wAll := List.mem_filter.mpr ⟨List.mem_append_right _ (inT3 _ (List.mem_of_getElem? (i := 41) rfl)), rfl⟩
theorem wd_3_42 : Cond.methodLink RL 39 yX5_experiment ∈ wAll := List.mem_filter.mpr ⟨List.mem_append_right _ (inT3 _ (List.mem_of_getElem? (i := 42) rfl)), rfl⟩
theorem wd_3_43 : Cond.instanceMethod yX5_experiment ∈ wAll := List.mem_filter.mpr ⟨List.mem_append_right _ (inT3 _ (List.mem_of_getElem? (i := 43) rfl)), rfl⟩
theorem wd_3_44 : Cond.selects RX5 yX5_experiment yX5_experiment ∈ wAll := List.mem_filter.mpr ⟨List.mem_append_right _ (inT3 _ (List.mem_of_getElem? (i := 44) rfl)), rfl⟩
theorem wd_3_45 : Cond.code yX5_experiment prog_1_method_23_code 2 (some .int) ∈ wAll := List.mem_filter.mpr ⟨List.mem_append_right _ (inT3 _ (List.mem_of_getElem? (i := 45) rfl)), rfl⟩
theorem wd_3_46 : Cond.methodLink RL 172 yX5_startRelay ∈ wAll := List.mem_filter.mpr ⟨List.mem_append_right _ (inT3 _ (List.mem_of_getElem? (i := 46) rfl)), rfl⟩
theorem wd_3_47 : Cond.instanceMethod yX5_startRelay ∈ wAll := List.mem_filter.mpr ⟨List.mem_append_right _ (inT3 _ (List.mem_of_getElem? (i := 47) rfl)), rfl⟩
theorem wd_3_48 : Cond.selects RX5 yX5_startRelay yX5_startRelay ∈ wAll := List.mem_filter.mpr ⟨List.mem_append_right _ (inT3 _ (List.mem_of_getElem? (i := 48) rfl)), rfl⟩
theorem wd_3_49 : Cond.code yX5_startRelay prog_1_method_22_code 5 none ∈ wAll := List.mem_filter.mpr ⟨List.mem_append_right _ (inT3 _ (List.mem_of_getElem? (i := 49) rfl)), rfl⟩
theorem wd_3_50 : Cond.constant RX5 166 (100000) ∈ wAll := List.mem_filter.mpr ⟨List.mem_append_right _ (inT3 _ (List.mem_of_getElem? (i := 50) rfl)), rfl⟩
theorem wd_3_51 : Cond.methodLink RX5 171 yX3_begin ∈ wAll := List.mem_filter.mpr ⟨List.mem_append_right _ (inT3 _ (List.mem_of_getElem? (i := 51) rfl)), rfl⟩
theorem wd_3_52 : Cond.instanceMethod yX3_begin ∈ wAll := List.mem_filter.mpr ⟨List.mem_append_right _ (inT3 _ (List.mem_of_getElem? (i := 52) rfl)), rfl⟩
theorem wd_3_53 : Cond.selects RX3 yX3_begin yX3_begin ∈ wAll := List.mem_filter.mpr ⟨List.mem_append_right _ (inT3 _ (List.mem_of_getElem? (i := 53) rfl)), rfl⟩
theorem wd_3_54 : Cond.code yX3_begin prog_5_method_2_code 5 none ∈ wAll := List.mem_filter.mpr ⟨List.mem_append_right _ (inT3 _ (List.mem_of_getElem? (i := 54) rfl)), rfl⟩
theorem wd_3_55 : Cond.methodLink RL 189 yL_samples ∈ wAll := List.mem_filter.mpr ⟨List.mem_append_right _ (inT3 _ (List.mem_of_getElem? (i := 55) rfl)), rfl⟩
theorem wd_3_56 : Cond.static yL_samples ∈ wAll := List.mem_filter.mpr ⟨List.mem_append_right _ (inT3 _ (List.mem_of_getElem? (i := 56) rfl)), rfl⟩
theorem wd_3_57 : Cond.code yL_samples method_7_code 25 (some .boolean) ∈ wAll := List.mem_filter.mpr ⟨List.mem_append_right _ (inT3 _ (List.mem_of_getElem? (i := 57) rfl)), rfl⟩
theorem wd_3_58 : Cond.methodLink RL 36 yX5_held ∈ wAll := List.mem_filter.mpr ⟨List.mem_append_right _ (inT3 _ (List.mem_of_getElem? (i := 58) rfl)), rfl⟩
theorem wd_3_59 : Cond.instanceMethod yX5_held ∈ wAll := List.mem_filter.mpr ⟨List.mem_append_right _ (inT3 _ (List.mem_of_getElem? (i := 59) rfl)), rfl⟩
theorem wd_3_60 : Cond.selects RX5 yX5_held yX5_held ∈ wAll := List.mem_filter.mpr ⟨List.mem_append_right _ (inT3 _ (List.mem_of_getElem? (i := 60) rfl)), rfl⟩
theorem wd_3_61 : Cond.code yX5_held prog_1_method_21_code 2 (some .int) ∈ wAll := List.mem_filter.mpr ⟨List.mem_append_right _ (inT3 _ (List.mem_of_getElem? (i := 61) rfl)), rfl⟩
theorem wd_3_62 : Cond.methodLink RL 49 yX5_run ∈ wAll := List.mem_filter.mpr ⟨List.mem_append_right _ (inT3 _ (List.mem_of_getElem? (i := 62) rfl)), rfl⟩
theorem wd_3_63 : Cond.instanceMethod yX5_run ∈ wAll := List.mem_filter.mpr ⟨List.mem_append_right _ (inT3 _ (List.mem_of_getElem? (i := 63) rfl)), rfl⟩
theorem wd_3_64 : Cond.selects RX5 yX5_run yX5_run ∈ wAll := List.mem_filter.mpr ⟨List.mem_append_right _ (inT3 _ (List.mem_of_getElem? (i := 64) rfl)), rfl⟩
theorem wd_3_65 : Cond.code yX5_run prog_1_method_12_code 3 (some .int) ∈ wAll := List.mem_filter.mpr ⟨List.mem_append_right _ (inT3 _ (List.mem_of_getElem? (i := 65) rfl)), rfl⟩
theorem wd_3_66 : Cond.methodLink RX5 122 yX5_letOneSampleGoBy ∈ wAll := List.mem_filter.mpr ⟨List.mem_append_right _ (inT3 _ (List.mem_of_getElem? (i := 66) rfl)), rfl⟩
theorem wd_3_68 : Cond.instanceMethod yX5_letOneSampleGoBy ∈ wAll := List.mem_filter.mpr ⟨List.mem_append_right _ (inT3 _ (List.mem_of_getElem? (i := 68) rfl)), rfl⟩
theorem wd_3_69 : Cond.code yX5_letOneSampleGoBy prog_1_method_34_code 2 none ∈ wAll := List.mem_filter.mpr ⟨List.mem_append_right _ (inT3 _ (List.mem_of_getElem? (i := 69) rfl)), rfl⟩
theorem wd_3_70 : Cond.methodLink RX5 230 yX5_takeTurn ∈ wAll := List.mem_filter.mpr ⟨List.mem_append_right _ (inT3 _ (List.mem_of_getElem? (i := 70) rfl)), rfl⟩
theorem wd_3_72 : Cond.instanceMethod yX5_takeTurn ∈ wAll := List.mem_filter.mpr ⟨List.mem_append_right _ (inT3 _ (List.mem_of_getElem? (i := 72) rfl)), rfl⟩
theorem wd_3_73 : Cond.code yX5_takeTurn prog_1_method_35_code 3 none ∈ wAll := List.mem_filter.mpr ⟨List.mem_append_right _ (inT3 _ (List.mem_of_getElem? (i := 73) rfl)), rfl⟩
theorem wd_3_74 : Cond.methodLink RX5 237 yX1_isStarvedBy ∈ wAll := List.mem_filter.mpr ⟨List.mem_append_right _ (inT3 _ (List.mem_of_getElem? (i := 74) rfl)), rfl⟩
theorem wd_3_75 : Cond.instanceMethod yX1_isStarvedBy ∈ wAll := List.mem_filter.mpr ⟨List.mem_append_right _ (inT3 _ (List.mem_of_getElem? (i := 75) rfl)), rfl⟩
theorem wd_3_76 : Cond.selects RX1 yX1_isStarvedBy yX1_isStarvedBy ∈ wAll := List.mem_filter.mpr ⟨List.mem_append_right _ (inT3 _ (List.mem_of_getElem? (i := 76) rfl)), rfl⟩
theorem wd_3_77 : Cond.code yX1_isStarvedBy prog_3_method_4_code 3 (some .boolean) ∈ wAll := List.mem_filter.mpr ⟨List.mem_append_right _ (inT3 _ (List.mem_of_getElem? (i := 77) rfl)), rfl⟩
theorem wd_3_78 : Cond.methodLink RX5 241 yX1_giveWay ∈ wAll := List.mem_filter.mpr ⟨List.mem_append_right _ (inT3 _ (List.mem_of_getElem? (i := 78) rfl)), rfl⟩
theorem wd_3_79 : Cond.instanceMethod yX1_giveWay ∈ wAll := List.mem_filter.mpr ⟨List.mem_append_right _ (inT3 _ (List.mem_of_getElem? (i := 79) rfl)), rfl⟩
theorem wd_3_80 : Cond.selects RX1 yX1_giveWay yX1_giveWay ∈ wAll := List.mem_filter.mpr ⟨List.mem_append_right _ (inT3 _ (List.mem_of_getElem? (i := 80) rfl)), rfl⟩
theorem wd_3_81 : Cond.code yX1_giveWay prog_3_method_5_code 3 none ∈ wAll := List.mem_filter.mpr ⟨List.mem_append_right _ (inT3 _ (List.mem_of_getElem? (i := 81) rfl)), rfl⟩
theorem wd_3_82 : Cond.methodLink RX1 65 yX0_withinLimits ∈ wAll := List.mem_filter.mpr ⟨List.mem_append_right _ (inT3 _ (List.mem_of_getElem? (i := 82) rfl)), rfl⟩
theorem wd_3_83 : Cond.instanceMethod yX0_withinLimits ∈ wAll := List.mem_filter.mpr ⟨List.mem_append_right _ (inT3 _ (List.mem_of_getElem? (i := 83) rfl)), rfl⟩
theorem wd_3_84 : Cond.selects RX0 yX0_withinLimits yX0_withinLimits ∈ wAll := List.mem_filter.mpr ⟨List.mem_append_right _ (inT3 _ (List.mem_of_getElem? (i := 84) rfl)), rfl⟩
theorem wd_3_85 : Cond.code yX0_withinLimits prog_2_method_4_code 3 (some .long) ∈ wAll := List.mem_filter.mpr ⟨List.mem_append_right _ (inT3 _ (List.mem_of_getElem? (i := 85) rfl)), rfl⟩
theorem wd_3_87 : Cond.static yX5_hold ∈ wAll := List.mem_filter.mpr ⟨List.mem_append_right _ (inT3 _ (List.mem_of_getElem? (i := 87) rfl)), rfl⟩
theorem wd_3_88 : Cond.code yX5_hold prog_1_method_36_code 6 (some .long) ∈ wAll := List.mem_filter.mpr ⟨List.mem_append_right _ (inT3 _ (List.mem_of_getElem? (i := 88) rfl)), rfl⟩
theorem wd_3_89 : Cond.methodLink RX5 196 yJ9_min_f86c9 ∈ wAll := List.mem_filter.mpr ⟨List.mem_append_right _ (inT3 _ (List.mem_of_getElem? (i := 89) rfl)), rfl⟩
theorem wd_3_90 : Cond.static yJ9_min_f86c9 ∈ wAll := List.mem_filter.mpr ⟨List.mem_append_right _ (inT3 _ (List.mem_of_getElem? (i := 90) rfl)), rfl⟩
theorem wd_3_91 : Cond.code yJ9_min_f86c9 prog_13_method_70_code 4 (some .long) ∈ wAll := List.mem_filter.mpr ⟨List.mem_append_right _ (inT3 _ (List.mem_of_getElem? (i := 91) rfl)), rfl⟩
theorem wd_3_92 : Cond.methodLink RX5 253 yJ9_max_f86c9 ∈ wAll := List.mem_filter.mpr ⟨List.mem_append_right _ (inT3 _ (List.mem_of_getElem? (i := 92) rfl)), rfl⟩
theorem wd_3_93 : Cond.static yJ9_max_f86c9 ∈ wAll := List.mem_filter.mpr ⟨List.mem_append_right _ (inT3 _ (List.mem_of_getElem? (i := 93) rfl)), rfl⟩
theorem wd_3_94 : Cond.code yJ9_max_f86c9 prog_13_method_66_code 4 (some .long) ∈ wAll := List.mem_filter.mpr ⟨List.mem_append_right _ (inT3 _ (List.mem_of_getElem? (i := 94) rfl)), rfl⟩
theorem wd_3_95 : Cond.methodLink RX5 244 yX1_actByHand ∈ wAll := List.mem_filter.mpr ⟨List.mem_append_right _ (inT3 _ (List.mem_of_getElem? (i := 95) rfl)), rfl⟩
theorem wd_3_96 : Cond.instanceMethod yX1_actByHand ∈ wAll := List.mem_filter.mpr ⟨List.mem_append_right _ (inT3 _ (List.mem_of_getElem? (i := 96) rfl)), rfl⟩
theorem wd_3_97 : Cond.selects RX1 yX1_actByHand yX1_actByHand ∈ wAll := List.mem_filter.mpr ⟨List.mem_append_right _ (inT3 _ (List.mem_of_getElem? (i := 97) rfl)), rfl⟩
theorem wd_3_98 : Cond.code yX1_actByHand prog_3_method_6_code 1 none ∈ wAll := List.mem_filter.mpr ⟨List.mem_append_right _ (inT3 _ (List.mem_of_getElem? (i := 98) rfl)), rfl⟩
theorem wd_3_99 : Cond.methodLink RX5 247 yX1_actAsRelay ∈ wAll := List.mem_filter.mpr ⟨List.mem_append_right _ (inT3 _ (List.mem_of_getElem? (i := 99) rfl)), rfl⟩
theorem wd_3_100 : Cond.instanceMethod yX1_actAsRelay ∈ wAll := List.mem_filter.mpr ⟨List.mem_append_right _ (inT3 _ (List.mem_of_getElem? (i := 100) rfl)), rfl⟩
theorem wd_3_101 : Cond.selects RX1 yX1_actAsRelay yX1_actAsRelay ∈ wAll := List.mem_filter.mpr ⟨List.mem_append_right _ (inT3 _ (List.mem_of_getElem? (i := 101) rfl)), rfl⟩
theorem wd_3_102 : Cond.code yX1_actAsRelay prog_3_method_8_code 1 none ∈ wAll := List.mem_filter.mpr ⟨List.mem_append_right _ (inT3 _ (List.mem_of_getElem? (i := 102) rfl)), rfl⟩
theorem wd_3_103 : Cond.methodLink RX1 106 yX0_error ∈ wAll := List.mem_filter.mpr ⟨List.mem_append_right _ (inT3 _ (List.mem_of_getElem? (i := 103) rfl)), rfl⟩
theorem wd_3_104 : Cond.methodLink RX1 109 yX3_sample ∈ wAll := List.mem_filter.mpr ⟨List.mem_append_right _ (inT3 _ (List.mem_of_getElem? (i := 104) rfl)), rfl⟩
theorem wd_3_105 : Cond.instanceMethod yX3_sample ∈ wAll := List.mem_filter.mpr ⟨List.mem_append_right _ (inT3 _ (List.mem_of_getElem? (i := 105) rfl)), rfl⟩
theorem wd_3_106 : Cond.selects RX3 yX3_sample yX3_sample ∈ wAll := List.mem_filter.mpr ⟨List.mem_append_right _ (inT3 _ (List.mem_of_getElem? (i := 106) rfl)), rfl⟩
theorem wd_3_107 : Cond.code yX3_sample prog_5_method_5_code 6 none ∈ wAll := List.mem_filter.mpr ⟨List.mem_append_right _ (inT3 _ (List.mem_of_getElem? (i := 107) rfl)), rfl⟩
theorem wd_3_108 : Cond.methodLink RX3 33 yX3_noteRise ∈ wAll := List.mem_filter.mpr ⟨List.mem_append_right _ (inT3 _ (List.mem_of_getElem? (i := 108) rfl)), rfl⟩
theorem wd_3_110 : Cond.instanceMethod yX3_noteRise ∈ wAll := List.mem_filter.mpr ⟨List.mem_append_right _ (inT3 _ (List.mem_of_getElem? (i := 110) rfl)), rfl⟩
theorem wd_3_111 : Cond.code yX3_noteRise prog_5_method_6_code 3 none ∈ wAll := List.mem_filter.mpr ⟨List.mem_append_right _ (inT3 _ (List.mem_of_getElem? (i := 111) rfl)), rfl⟩
theorem wd_3_112 : Cond.methodLink RX3 40 yJ9_max_f86c9 ∈ wAll := List.mem_filter.mpr ⟨List.mem_append_right _ (inT3 _ (List.mem_of_getElem? (i := 112) rfl)), rfl⟩
theorem wd_3_113 : Cond.methodLink RX3 49 yJ9_min_f86c9 ∈ wAll := List.mem_filter.mpr ⟨List.mem_append_right _ (inT3 _ (List.mem_of_getElem? (i := 113) rfl)), rfl⟩
theorem wd_3_114 : Cond.methodLink RX1 113 yX3_wanted ∈ wAll := List.mem_filter.mpr ⟨List.mem_append_right _ (inT3 _ (List.mem_of_getElem? (i := 114) rfl)), rfl⟩
theorem wd_3_115 : Cond.instanceMethod yX3_wanted ∈ wAll := List.mem_filter.mpr ⟨List.mem_append_right _ (inT3 _ (List.mem_of_getElem? (i := 115) rfl)), rfl⟩
theorem wd_3_116 : Cond.selects RX3 yX3_wanted yX3_wanted ∈ wAll := List.mem_filter.mpr ⟨List.mem_append_right _ (inT3 _ (List.mem_of_getElem? (i := 116) rfl)), rfl⟩
theorem wd_3_117 : Cond.code yX3_wanted prog_5_method_4_code 1 (some .long) ∈ wAll := List.mem_filter.mpr ⟨List.mem_append_right _ (inT3 _ (List.mem_of_getElem? (i := 117) rfl)), rfl⟩
theorem wd_3_118 : Cond.methodLink RX5 250 yX1_actAutomatically ∈ wAll := List.mem_filter.mpr ⟨List.mem_append_right _ (inT3 _ (List.mem_of_getElem? (i := 118) rfl)), rfl⟩
theorem wd_3_119 : Cond.instanceMethod yX1_actAutomatically ∈ wAll := List.mem_filter.mpr ⟨List.mem_append_right _ (inT3 _ (List.mem_of_getElem? (i := 119) rfl)), rfl⟩
theorem wd_3_120 : Cond.selects RX1 yX1_actAutomatically yX1_actAutomatically ∈ wAll := List.mem_filter.mpr ⟨List.mem_append_right _ (inT3 _ (List.mem_of_getElem? (i := 120) rfl)), rfl⟩
theorem wd_3_121 : Cond.code yX1_actAutomatically prog_3_method_7_code 4 none ∈ wAll := List.mem_filter.mpr ⟨List.mem_append_right _ (inT3 _ (List.mem_of_getElem? (i := 121) rfl)), rfl⟩
theorem wd_3_122 : Cond.methodLink RX1 80 yX4_hasPoints ∈ wAll := List.mem_filter.mpr ⟨List.mem_append_right _ (inT3 _ (List.mem_of_getElem? (i := 122) rfl)), rfl⟩
theorem wd_3_123 : Cond.instanceMethod yX4_hasPoints ∈ wAll := List.mem_filter.mpr ⟨List.mem_append_right _ (inT3 _ (List.mem_of_getElem? (i := 123) rfl)), rfl⟩
theorem wd_3_124 : Cond.selects RX4 yX4_hasPoints yX4_hasPoints ∈ wAll := List.mem_filter.mpr ⟨List.mem_append_right _ (inT3 _ (List.mem_of_getElem? (i := 124) rfl)), rfl⟩
theorem wd_3_125 : Cond.code yX4_hasPoints prog_6_method_2_code 1 (some .boolean) ∈ wAll := List.mem_filter.mpr ⟨List.mem_append_right _ (inT3 _ (List.mem_of_getElem? (i := 125) rfl)), rfl⟩
theorem wd_3_126 : Cond.methodLink RX1 84 yX4_pointsReached ∈ wAll := List.mem_filter.mpr ⟨List.mem_append_right _ (inT3 _ (List.mem_of_getElem? (i := 126) rfl)), rfl⟩
theorem wd_3_127 : Cond.instanceMethod yX4_pointsReached ∈ wAll := List.mem_filter.mpr ⟨List.mem_append_right _ (inT3 _ (List.mem_of_getElem? (i := 127) rfl)), rfl⟩
theorem wd_3_128 : Cond.selects RX4 yX4_pointsReached yX4_pointsReached ∈ wAll := List.mem_filter.mpr ⟨List.mem_append_right _ (inT3 _ (List.mem_of_getElem? (i := 128) rfl)), rfl⟩
theorem wd_3_129 : Cond.code yX4_pointsReached prog_6_method_7_code 4 (some .int) ∈ wAll := List.mem_filter.mpr ⟨List.mem_append_right _ (inT3 _ (List.mem_of_getElem? (i := 129) rfl)), rfl⟩
theorem wd_3_130 : Cond.methodLink RX1 88 yX4_pAt ∈ wAll := List.mem_filter.mpr ⟨List.mem_append_right _ (inT3 _ (List.mem_of_getElem? (i := 130) rfl)), rfl⟩
theorem wd_3_131 : Cond.instanceMethod yX4_pAt ∈ wAll := List.mem_filter.mpr ⟨List.mem_append_right _ (inT3 _ (List.mem_of_getElem? (i := 131) rfl)), rfl⟩
theorem wd_3_132 : Cond.selects RX4 yX4_pAt yX4_pAt ∈ wAll := List.mem_filter.mpr ⟨List.mem_append_right _ (inT3 _ (List.mem_of_getElem? (i := 132) rfl)), rfl⟩
theorem wd_3_133 : Cond.code yX4_pAt prog_6_method_8_code 4 (some .int) ∈ wAll := List.mem_filter.mpr ⟨List.mem_append_right _ (inT3 _ (List.mem_of_getElem? (i := 133) rfl)), rfl⟩
theorem wd_3_134 : Cond.methodLink RX4 26 yX4_gainAt ∈ wAll := List.mem_filter.mpr ⟨List.mem_append_right _ (inT3 _ (List.mem_of_getElem? (i := 134) rfl)), rfl⟩
theorem wd_3_136 : Cond.instanceMethod yX4_gainAt ∈ wAll := List.mem_filter.mpr ⟨List.mem_append_right _ (inT3 _ (List.mem_of_getElem? (i := 136) rfl)), rfl⟩
theorem wd_3_137 : Cond.code yX4_gainAt prog_6_method_11_code 10 (some .int) ∈ wAll := List.mem_filter.mpr ⟨List.mem_append_right _ (inT3 _ (List.mem_of_getElem? (i := 137) rfl)), rfl⟩
theorem wd_3_138 : Cond.methodLink RX4 30 yJ9_min_7cf53 ∈ wAll := List.mem_filter.mpr ⟨List.mem_append_right _ (inT3 _ (List.mem_of_getElem? (i := 138) rfl)), rfl⟩
theorem wd_3_139 : Cond.static yJ9_min_7cf53 ∈ wAll := List.mem_filter.mpr ⟨List.mem_append_right _ (inT3 _ (List.mem_of_getElem? (i := 139) rfl)), rfl⟩
theorem wd_3_140 : Cond.code yJ9_min_7cf53 prog_13_method_69_code 2 (some .int) ∈ wAll := List.mem_filter.mpr ⟨List.mem_append_right _ (inT3 _ (List.mem_of_getElem? (i := 140) rfl)), rfl⟩
theorem wd_3_141 : Cond.methodLink RX4 36 yJ9_floorDiv_f86c9 ∈ wAll := List.mem_filter.mpr ⟨List.mem_append_right _ (inT3 _ (List.mem_of_getElem? (i := 141) rfl)), rfl⟩
theorem wd_3_142 : Cond.static yJ9_floorDiv_f86c9 ∈ wAll := List.mem_filter.mpr ⟨List.mem_append_right _ (inT3 _ (List.mem_of_getElem? (i := 142) rfl)), rfl⟩
theorem wd_3_143 : Cond.code yJ9_floorDiv_f86c9 prog_13_method_49_code 6 (some .long) ∈ wAll := List.mem_filter.mpr ⟨List.mem_append_right _ (inT3 _ (List.mem_of_getElem? (i := 143) rfl)), rfl⟩
theorem wd_3_144 : Cond.methodLink RX1 92 yX4_iAt ∈ wAll := List.mem_filter.mpr ⟨List.mem_append_right _ (inT3 _ (List.mem_of_getElem? (i := 144) rfl)), rfl⟩
theorem wd_3_145 : Cond.instanceMethod yX4_iAt ∈ wAll := List.mem_filter.mpr ⟨List.mem_append_right _ (inT3 _ (List.mem_of_getElem? (i := 145) rfl)), rfl⟩
theorem wd_3_146 : Cond.selects RX4 yX4_iAt yX4_iAt ∈ wAll := List.mem_filter.mpr ⟨List.mem_append_right _ (inT3 _ (List.mem_of_getElem? (i := 146) rfl)), rfl⟩
theorem wd_3_147 : Cond.code yX4_iAt prog_6_method_9_code 4 (some .int) ∈ wAll := List.mem_filter.mpr ⟨List.mem_append_right _ (inT3 _ (List.mem_of_getElem? (i := 147) rfl)), rfl⟩
theorem wd_3_148 : Cond.methodLink RX1 95 yX4_dAt ∈ wAll := List.mem_filter.mpr ⟨List.mem_append_right _ (inT3 _ (List.mem_of_getElem? (i := 148) rfl)), rfl⟩
theorem wd_3_149 : Cond.instanceMethod yX4_dAt ∈ wAll := List.mem_filter.mpr ⟨List.mem_append_right _ (inT3 _ (List.mem_of_getElem? (i := 149) rfl)), rfl⟩
theorem wd_3_150 : Cond.selects RX4 yX4_dAt yX4_dAt ∈ wAll := List.mem_filter.mpr ⟨List.mem_append_right _ (inT3 _ (List.mem_of_getElem? (i := 150) rfl)), rfl⟩
theorem wd_3_151 : Cond.code yX4_dAt prog_6_method_10_code 4 (some .int) ∈ wAll := List.mem_filter.mpr ⟨List.mem_append_right _ (inT3 _ (List.mem_of_getElem? (i := 151) rfl)), rfl⟩
theorem wd_3_152 : Cond.methodLink RX1 98 yX0_changeGains ∈ wAll := List.mem_filter.mpr ⟨List.mem_append_right _ (inT3 _ (List.mem_of_getElem? (i := 152) rfl)), rfl⟩
theorem wd_3_153 : Cond.methodLink RX1 102 yX0_automaticSample ∈ wAll := List.mem_filter.mpr ⟨List.mem_append_right _ (inT3 _ (List.mem_of_getElem? (i := 153) rfl)), rfl⟩
theorem wd_3_154 : Cond.instanceMethod yX0_automaticSample ∈ wAll := List.mem_filter.mpr ⟨List.mem_append_right _ (inT3 _ (List.mem_of_getElem? (i := 154) rfl)), rfl⟩
theorem wd_3_155 : Cond.selects RX0 yX0_automaticSample yX0_automaticSample ∈ wAll := List.mem_filter.mpr ⟨List.mem_append_right _ (inT3 _ (List.mem_of_getElem? (i := 155) rfl)), rfl⟩
theorem wd_3_156 : Cond.code yX0_automaticSample prog_2_method_7_code 11 (some .long) ∈ wAll := List.mem_filter.mpr ⟨List.mem_append_right _ (inT3 _ (List.mem_of_getElem? (i := 156) rfl)), rfl⟩
theorem wd_3_157 : Cond.methodLink RX0 68 yX0_countIncrements ∈ wAll := List.mem_filter.mpr ⟨List.mem_append_right _ (inT3 _ (List.mem_of_getElem? (i := 157) rfl)), rfl⟩
theorem wd_3_159 : Cond.instanceMethod yX0_countIncrements ∈ wAll := List.mem_filter.mpr ⟨List.mem_append_right _ (inT3 _ (List.mem_of_getElem? (i := 159) rfl)), rfl⟩
theorem wd_3_160 : Cond.code yX0_countIncrements prog_2_method_8_code 7 none ∈ wAll := List.mem_filter.mpr ⟨List.mem_append_right _ (inT3 _ (List.mem_of_getElem? (i := 160) rfl)), rfl⟩
theorem wd_3_161 : Cond.methodLink RX0 72 yJ9_floorDiv_f86c9 ∈ wAll := List.mem_filter.mpr ⟨List.mem_append_right _ (inT3 _ (List.mem_of_getElem? (i := 161) rfl)), rfl⟩
theorem wd_3_162 : Cond.methodLink RX0 78 yX0_withinLimits ∈ wAll := List.mem_filter.mpr ⟨List.mem_append_right _ (inT3 _ (List.mem_of_getElem? (i := 162) rfl)), rfl⟩
theorem wd_3_163 : Cond.methodLink RX0 85 yX0_guardAgainstWindup ∈ wAll := List.mem_filter.mpr ⟨List.mem_append_right _ (inT3 _ (List.mem_of_getElem? (i := 163) rfl)), rfl⟩
theorem wd_3_165 : Cond.instanceMethod yX0_guardAgainstWindup ∈ wAll := List.mem_filter.mpr ⟨List.mem_append_right _ (inT3 _ (List.mem_of_getElem? (i := 165) rfl)), rfl⟩
theorem wd_3_166 : Cond.code yX0_guardAgainstWindup prog_2_method_9_code 8 none ∈ wAll := List.mem_filter.mpr ⟨List.mem_append_right _ (inT3 _ (List.mem_of_getElem? (i := 166) rfl)), rfl⟩
theorem wd_3_167 : Cond.methodLink RX5 233 yX2_goOn ∈ wAll := List.mem_filter.mpr ⟨List.mem_append_right _ (inT3 _ (List.mem_of_getElem? (i := 167) rfl)), rfl⟩
theorem wd_3_168 : Cond.instanceMethod yX2_goOn ∈ wAll := List.mem_filter.mpr ⟨List.mem_append_right _ (inT3 _ (List.mem_of_getElem? (i := 168) rfl)), rfl⟩
theorem wd_3_169 : Cond.selects RX2 yX2_goOn yX2_goOn ∈ wAll := List.mem_filter.mpr ⟨List.mem_append_right _ (inT3 _ (List.mem_of_getElem? (i := 169) rfl)), rfl⟩
theorem wd_3_170 : Cond.code yX2_goOn prog_4_method_2_code 7 none ∈ wAll := List.mem_filter.mpr ⟨List.mem_append_right _ (inT3 _ (List.mem_of_getElem? (i := 170) rfl)), rfl⟩
theorem wd_3_171 : Cond.methodLink RX2 25 yJ9_floorMod_7cf53 ∈ wAll := List.mem_filter.mpr ⟨List.mem_append_right _ (inT3 _ (List.mem_of_getElem? (i := 171) rfl)), rfl⟩
theorem wd_3_172 : Cond.static yJ9_floorMod_7cf53 ∈ wAll := List.mem_filter.mpr ⟨List.mem_append_right _ (inT3 _ (List.mem_of_getElem? (i := 172) rfl)), rfl⟩
theorem wd_3_173 : Cond.code yJ9_floorMod_7cf53 prog_13_method_50_code 3 (some .int) ∈ wAll := List.mem_filter.mpr ⟨List.mem_append_right _ (inT3 _ (List.mem_of_getElem? (i := 173) rfl)), rfl⟩
theorem wd_3_174 : Cond.constantLong RX2 44 (1000) ∈ wAll := List.mem_filter.mpr ⟨List.mem_append_right _ (inT3 _ (List.mem_of_getElem? (i := 174) rfl)), rfl⟩
theorem wd_3_175 : Cond.methodLink RX2 46 yJ9_floorDiv_f86c9 ∈ wAll := List.mem_filter.mpr ⟨List.mem_append_right _ (inT3 _ (List.mem_of_getElem? (i := 175) rfl)), rfl⟩
theorem wd_3_176 : Cond.constantLong RX2 53 (-1000000) ∈ wAll := List.mem_filter.mpr ⟨List.mem_append_right _ (inT3 _ (List.mem_of_getElem? (i := 176) rfl)), rfl⟩
theorem wd_3_177 : Cond.constantLong RX2 55 (1000000) ∈ wAll := List.mem_filter.mpr ⟨List.mem_append_right _ (inT3 _ (List.mem_of_getElem? (i := 177) rfl)), rfl⟩
theorem wd_3_179 : Cond.methodLink RL 55 yX5_wasStarved ∈ wAll := List.mem_filter.mpr ⟨List.mem_append_right _ (inT3 _ (List.mem_of_getElem? (i := 179) rfl)), rfl⟩
theorem wd_3_180 : Cond.instanceMethod yX5_wasStarved ∈ wAll := List.mem_filter.mpr ⟨List.mem_append_right _ (inT3 _ (List.mem_of_getElem? (i := 180) rfl)), rfl⟩
theorem wd_3_181 : Cond.selects RX5 yX5_wasStarved yX5_wasStarved ∈ wAll := List.mem_filter.mpr ⟨List.mem_append_right _ (inT3 _ (List.mem_of_getElem? (i := 181) rfl)), rfl⟩
theorem wd_3_182 : Cond.code yX5_wasStarved prog_1_method_20_code 2 (some .boolean) ∈ wAll := List.mem_filter.mpr ⟨List.mem_append_right _ (inT3 _ (List.mem_of_getElem? (i := 182) rfl)), rfl⟩
theorem wd_3_183 : Cond.methodLink RL 22 yL_within ∈ wAll := List.mem_filter.mpr ⟨List.mem_append_right _ (inT3 _ (List.mem_of_getElem? (i := 183) rfl)), rfl⟩
theorem wd_3_184 : Cond.static yL_within ∈ wAll := List.mem_filter.mpr ⟨List.mem_append_right _ (inT3 _ (List.mem_of_getElem? (i := 184) rfl)), rfl⟩
theorem wd_3_185 : Cond.code yL_within method_4_code 6 (some .long) ∈ wAll := List.mem_filter.mpr ⟨List.mem_append_right _ (inT3 _ (List.mem_of_getElem? (i := 185) rfl)), rfl⟩
theorem wd_3_186 : Cond.methodLink RL 59 yL_isRelay ∈ wAll := List.mem_filter.mpr ⟨List.mem_append_right _ (inT3 _ (List.mem_of_getElem? (i := 186) rfl)), rfl⟩
theorem wd_3_187 : Cond.static yL_isRelay ∈ wAll := List.mem_filter.mpr ⟨List.mem_append_right _ (inT3 _ (List.mem_of_getElem? (i := 187) rfl)), rfl⟩
theorem wd_3_188 : Cond.code yL_isRelay method_9_code 21 (some .boolean) ∈ wAll := List.mem_filter.mpr ⟨List.mem_append_right _ (inT3 _ (List.mem_of_getElem? (i := 188) rfl)), rfl⟩
theorem wd_3_189 : Cond.methodLink RL 85 yL_isTold ∈ wAll := List.mem_filter.mpr ⟨List.mem_append_right _ (inT3 _ (List.mem_of_getElem? (i := 189) rfl)), rfl⟩
theorem wd_3_190 : Cond.static yL_isTold ∈ wAll := List.mem_filter.mpr ⟨List.mem_append_right _ (inT3 _ (List.mem_of_getElem? (i := 190) rfl)), rfl⟩
theorem wd_3_191 : Cond.code yL_isTold method_10_code 13 (some .boolean) ∈ wAll := List.mem_filter.mpr ⟨List.mem_append_right _ (inT3 _ (List.mem_of_getElem? (i := 191) rfl)), rfl⟩
theorem wd_3_192 : Cond.methodLink RL 89 yX5_swing ∈ wAll := List.mem_filter.mpr ⟨List.mem_append_right _ (inT3 _ (List.mem_of_getElem? (i := 192) rfl)), rfl⟩
theorem wd_3_193 : Cond.instanceMethod yX5_swing ∈ wAll := List.mem_filter.mpr ⟨List.mem_append_right _ (inT3 _ (List.mem_of_getElem? (i := 193) rfl)), rfl⟩
theorem wd_3_194 : Cond.selects RX5 yX5_swing yX5_swing ∈ wAll := List.mem_filter.mpr ⟨List.mem_append_right _ (inT3 _ (List.mem_of_getElem? (i := 194) rfl)), rfl⟩
theorem wd_3_195 : Cond.code yX5_swing prog_1_method_25_code 3 (some .long) ∈ wAll := List.mem_filter.mpr ⟨List.mem_append_right _ (inT3 _ (List.mem_of_getElem? (i := 195) rfl)), rfl⟩
theorem wd_3_196 : Cond.methodLink RL 92 yX5_period ∈ wAll := List.mem_filter.mpr ⟨List.mem_append_right _ (inT3 _ (List.mem_of_getElem? (i := 196) rfl)), rfl⟩
theorem wd_3_197 : Cond.instanceMethod yX5_period ∈ wAll := List.mem_filter.mpr ⟨List.mem_append_right _ (inT3 _ (List.mem_of_getElem? (i := 197) rfl)), rfl⟩
theorem wd_3_198 : Cond.selects RX5 yX5_period yX5_period ∈ wAll := List.mem_filter.mpr ⟨List.mem_append_right _ (inT3 _ (List.mem_of_getElem? (i := 198) rfl)), rfl⟩
theorem wd_3_199 : Cond.code yX5_period prog_1_method_24_code 3 (some .int) ∈ wAll := List.mem_filter.mpr ⟨List.mem_append_right _ (inT3 _ (List.mem_of_getElem? (i := 199) rfl)), rfl⟩
theorem wd_3_200 : Cond.methodLink RL 95 yX5_ultimateGain ∈ wAll := List.mem_filter.mpr ⟨List.mem_append_right _ (inT3 _ (List.mem_of_getElem? (i := 200) rfl)), rfl⟩
theorem wd_3_201 : Cond.instanceMethod yX5_ultimateGain ∈ wAll := List.mem_filter.mpr ⟨List.mem_append_right _ (inT3 _ (List.mem_of_getElem? (i := 201) rfl)), rfl⟩
theorem wd_3_202 : Cond.selects RX5 yX5_ultimateGain yX5_ultimateGain ∈ wAll := List.mem_filter.mpr ⟨List.mem_append_right _ (inT3 _ (List.mem_of_getElem? (i := 202) rfl)), rfl⟩
theorem wd_3_203 : Cond.code yX5_ultimateGain prog_1_method_26_code 3 (some .int) ∈ wAll := List.mem_filter.mpr ⟨List.mem_append_right _ (inT3 _ (List.mem_of_getElem? (i := 203) rfl)), rfl⟩
theorem wd_3_204 : Cond.methodLink RX5 186 yX3_gainAtTheEdge ∈ wAll := List.mem_filter.mpr ⟨List.mem_append_right _ (inT3 _ (List.mem_of_getElem? (i := 204) rfl)), rfl⟩
theorem wd_3_205 : Cond.instanceMethod yX3_gainAtTheEdge ∈ wAll := List.mem_filter.mpr ⟨List.mem_append_right _ (inT3 _ (List.mem_of_getElem? (i := 205) rfl)), rfl⟩
theorem wd_3_206 : Cond.selects RX3 yX3_gainAtTheEdge yX3_gainAtTheEdge ∈ wAll := List.mem_filter.mpr ⟨List.mem_append_right _ (inT3 _ (List.mem_of_getElem? (i := 206) rfl)), rfl⟩
theorem wd_3_207 : Cond.code yX3_gainAtTheEdge prog_5_method_7_code 1 (some .long) ∈ wAll := List.mem_filter.mpr ⟨List.mem_append_right _ (inT3 _ (List.mem_of_getElem? (i := 207) rfl)), rfl⟩
theorem wd_3_208 : Cond.constantLong RX3 61 (904000) ∈ wAll := List.mem_filter.mpr ⟨List.mem_append_right _ (inT3 _ (List.mem_of_getElem? (i := 208) rfl)), rfl⟩
theorem wd_3_209 : Cond.constantLong RX3 63 (355) ∈ wAll := List.mem_filter.mpr ⟨List.mem_append_right _ (inT3 _ (List.mem_of_getElem? (i := 209) rfl)), rfl⟩
theorem wd_3_210 : Cond.methodLink RX3 65 yJ9_floorDiv_f86c9 ∈ wAll := List.mem_filter.mpr ⟨List.mem_append_right _ (inT3 _ (List.mem_of_getElem? (i := 210) rfl)), rfl⟩
theorem wd_3_211 : Cond.constantLong RL 98 (904000) ∈ wAll := List.mem_filter.mpr ⟨List.mem_append_right _ (inT3 _ (List.mem_of_getElem? (i := 211) rfl)), rfl⟩
theorem wd_3_212 : Cond.constantLong RL 100 (355) ∈ wAll := List.mem_filter.mpr ⟨List.mem_append_right _ (inT3 _ (List.mem_of_getElem? (i := 212) rfl)), rfl⟩
theorem wd_3_213 : Cond.constantLong RL 102 (6) ∈ wAll := List.mem_filter.mpr ⟨List.mem_append_right _ (inT3 _ (List.mem_of_getElem? (i := 213) rfl)), rfl⟩
theorem wd_3_214 : Cond.constantLong RL 104 (10) ∈ wAll := List.mem_filter.mpr ⟨List.mem_append_right _ (inT3 _ (List.mem_of_getElem? (i := 214) rfl)), rfl⟩
theorem wd_3_215 : Cond.constantLong RL 106 (100) ∈ wAll := List.mem_filter.mpr ⟨List.mem_append_right _ (inT3 _ (List.mem_of_getElem? (i := 215) rfl)), rfl⟩
theorem wd_3_216 : Cond.constantLong RL 108 (484) ∈ wAll := List.mem_filter.mpr ⟨List.mem_append_right _ (inT3 _ (List.mem_of_getElem? (i := 216) rfl)), rfl⟩
theorem wd_3_217 : Cond.methodLink RL 110 yX5_proposed ∈ wAll := List.mem_filter.mpr ⟨List.mem_append_right _ (inT3 _ (List.mem_of_getElem? (i := 217) rfl)), rfl⟩
theorem wd_3_218 : Cond.instanceMethod yX5_proposed ∈ wAll := List.mem_filter.mpr ⟨List.mem_append_right _ (inT3 _ (List.mem_of_getElem? (i := 218) rfl)), rfl⟩
theorem wd_3_219 : Cond.selects RX5 yX5_proposed yX5_proposed ∈ wAll := List.mem_filter.mpr ⟨List.mem_append_right _ (inT3 _ (List.mem_of_getElem? (i := 219) rfl)), rfl⟩
theorem wd_3_220 : Cond.code yX5_proposed prog_1_method_27_code 5 (some .int) ∈ wAll := List.mem_filter.mpr ⟨List.mem_append_right _ (inT3 _ (List.mem_of_getElem? (i := 220) rfl)), rfl⟩
theorem wd_3_221 : Cond.methodLink RX5 190 yX3_proposedP ∈ wAll := List.mem_filter.mpr ⟨List.mem_append_right _ (inT3 _ (List.mem_of_getElem? (i := 221) rfl)), rfl⟩
theorem wd_3_222 : Cond.instanceMethod yX3_proposedP ∈ wAll := List.mem_filter.mpr ⟨List.mem_append_right _ (inT3 _ (List.mem_of_getElem? (i := 222) rfl)), rfl⟩
theorem wd_3_223 : Cond.selects RX3 yX3_proposedP yX3_proposedP ∈ wAll := List.mem_filter.mpr ⟨List.mem_append_right _ (inT3 _ (List.mem_of_getElem? (i := 223) rfl)), rfl⟩
theorem wd_3_224 : Cond.code yX3_proposedP prog_5_method_8_code 4 (some .long) ∈ wAll := List.mem_filter.mpr ⟨List.mem_append_right _ (inT3 _ (List.mem_of_getElem? (i := 224) rfl)), rfl⟩
theorem wd_3_225 : Cond.methodLink RX3 68 yX3_gainAtTheEdge ∈ wAll := List.mem_filter.mpr ⟨List.mem_append_right _ (inT3 _ (List.mem_of_getElem? (i := 225) rfl)), rfl⟩
theorem wd_3_226 : Cond.constantLong RX3 72 (6) ∈ wAll := List.mem_filter.mpr ⟨List.mem_append_right _ (inT3 _ (List.mem_of_getElem? (i := 226) rfl)), rfl⟩
theorem wd_3_227 : Cond.constantLong RX3 74 (10) ∈ wAll := List.mem_filter.mpr ⟨List.mem_append_right _ (inT3 _ (List.mem_of_getElem? (i := 227) rfl)), rfl⟩
theorem wd_3_228 : Cond.constantLong RX3 76 (22) ∈ wAll := List.mem_filter.mpr ⟨List.mem_append_right _ (inT3 _ (List.mem_of_getElem? (i := 228) rfl)), rfl⟩
theorem wd_3_229 : Cond.constantLong RX5 194 (20000) ∈ wAll := List.mem_filter.mpr ⟨List.mem_append_right _ (inT3 _ (List.mem_of_getElem? (i := 229) rfl)), rfl⟩
theorem wd_3_230 : Cond.methodLink RX5 199 yX3_proposedI ∈ wAll := List.mem_filter.mpr ⟨List.mem_append_right _ (inT3 _ (List.mem_of_getElem? (i := 230) rfl)), rfl⟩
theorem wd_3_231 : Cond.instanceMethod yX3_proposedI ∈ wAll := List.mem_filter.mpr ⟨List.mem_append_right _ (inT3 _ (List.mem_of_getElem? (i := 231) rfl)), rfl⟩
theorem wd_3_232 : Cond.selects RX3 yX3_proposedI yX3_proposedI ∈ wAll := List.mem_filter.mpr ⟨List.mem_append_right _ (inT3 _ (List.mem_of_getElem? (i := 232) rfl)), rfl⟩
theorem wd_3_233 : Cond.code yX3_proposedI prog_5_method_9_code 4 (some .long) ∈ wAll := List.mem_filter.mpr ⟨List.mem_append_right _ (inT3 _ (List.mem_of_getElem? (i := 233) rfl)), rfl⟩
theorem wd_3_234 : Cond.constantLong RX3 78 (12) ∈ wAll := List.mem_filter.mpr ⟨List.mem_append_right _ (inT3 _ (List.mem_of_getElem? (i := 234) rfl)), rfl⟩
theorem wd_3_235 : Cond.constantLong RX3 80 (100) ∈ wAll := List.mem_filter.mpr ⟨List.mem_append_right _ (inT3 _ (List.mem_of_getElem? (i := 235) rfl)), rfl⟩
theorem wd_3_236 : Cond.constantLong RX3 82 (484) ∈ wAll := List.mem_filter.mpr ⟨List.mem_append_right _ (inT3 _ (List.mem_of_getElem? (i := 236) rfl)), rfl⟩
theorem wd_3_237 : Cond.constantLong RX5 202 (5000) ∈ wAll := List.mem_filter.mpr ⟨List.mem_append_right _ (inT3 _ (List.mem_of_getElem? (i := 237) rfl)), rfl⟩
theorem wd_3_238 : Cond.methodLink RX5 204 yX3_proposedD ∈ wAll := List.mem_filter.mpr ⟨List.mem_append_right _ (inT3 _ (List.mem_of_getElem? (i := 238) rfl)), rfl⟩
theorem wd_3_239 : Cond.instanceMethod yX3_proposedD ∈ wAll := List.mem_filter.mpr ⟨List.mem_append_right _ (inT3 _ (List.mem_of_getElem? (i := 239) rfl)), rfl⟩
theorem wd_4_0 : Cond.selects RX3 yX3_proposedD yX3_proposedD ∈ wAll := List.mem_filter.mpr ⟨List.mem_append_right _ (inT4 _ (List.mem_of_getElem? (i := 0) rfl)), rfl⟩
theorem wd_4_1 : Cond.code yX3_proposedD prog_5_method_10_code 4 (some .long) ∈ wAll := List.mem_filter.mpr ⟨List.mem_append_right _ (inT4 _ (List.mem_of_getElem? (i := 1) rfl)), rfl⟩
theorem wd_4_2 : Cond.constantLong RX3 84 (3) ∈ wAll := List.mem_filter.mpr ⟨List.mem_append_right _ (inT4 _ (List.mem_of_getElem? (i := 2) rfl)), rfl⟩
theorem wd_4_3 : Cond.constantLong RX3 86 (40) ∈ wAll := List.mem_filter.mpr ⟨List.mem_append_right _ (inT4 _ (List.mem_of_getElem? (i := 3) rfl)), rfl⟩
theorem wd_4_4 : Cond.constantLong RX3 88 (1386) ∈ wAll := List.mem_filter.mpr ⟨List.mem_append_right _ (inT4 _ (List.mem_of_getElem? (i := 4) rfl)), rfl⟩
theorem wd_4_5 : Cond.constantLong RX5 207 (50000) ∈ wAll := List.mem_filter.mpr ⟨List.mem_append_right _ (inT4 _ (List.mem_of_getElem? (i := 5) rfl)), rfl⟩
theorem wd_4_6 : Cond.constantLong RL 114 (20000) ∈ wAll := List.mem_filter.mpr ⟨List.mem_append_right _ (inT4 _ (List.mem_of_getElem? (i := 6) rfl)), rfl⟩
theorem wd_4_7 : Cond.constantLong RL 116 (5000) ∈ wAll := List.mem_filter.mpr ⟨List.mem_append_right _ (inT4 _ (List.mem_of_getElem? (i := 7) rfl)), rfl⟩
theorem wd_4_8 : Cond.constant RL 118 (50000) ∈ wAll := List.mem_filter.mpr ⟨List.mem_append_right _ (inT4 _ (List.mem_of_getElem? (i := 8) rfl)), rfl⟩
theorem wd_4_9 : Cond.methodLink RL 63 yL_isSum ∈ wAll := List.mem_filter.mpr ⟨List.mem_append_right _ (inT4 _ (List.mem_of_getElem? (i := 9) rfl)), rfl⟩
theorem wd_4_10 : Cond.static yL_isSum ∈ wAll := List.mem_filter.mpr ⟨List.mem_append_right _ (inT4 _ (List.mem_of_getElem? (i := 10) rfl)), rfl⟩
theorem wd_4_11 : Cond.code yL_isSum method_8_code 12 (some .boolean) ∈ wAll := List.mem_filter.mpr ⟨List.mem_append_right _ (inT4 _ (List.mem_of_getElem? (i := 11) rfl)), rfl⟩
theorem wd_4_12 : Cond.methodLink RL 75 yL_isGain ∈ wAll := List.mem_filter.mpr ⟨List.mem_append_right _ (inT4 _ (List.mem_of_getElem? (i := 12) rfl)), rfl⟩
theorem wd_4_13 : Cond.static yL_isGain ∈ wAll := List.mem_filter.mpr ⟨List.mem_append_right _ (inT4 _ (List.mem_of_getElem? (i := 13) rfl)), rfl⟩
theorem wd_4_14 : Cond.code yL_isGain method_6_code 13 (some .boolean) ∈ wAll := List.mem_filter.mpr ⟨List.mem_append_right _ (inT4 _ (List.mem_of_getElem? (i := 14) rfl)), rfl⟩
theorem wd_4_15 : Cond.constantLong RL 28 (-100000) ∈ wAll := List.mem_filter.mpr ⟨List.mem_append_right _ (inT4 _ (List.mem_of_getElem? (i := 15) rfl)), rfl⟩
theorem wd_4_16 : Cond.methodLink RL 12 yL_floor ∈ wAll := List.mem_filter.mpr ⟨List.mem_append_right _ (inT4 _ (List.mem_of_getElem? (i := 16) rfl)), rfl⟩
theorem wd_4_17 : Cond.static yL_floor ∈ wAll := List.mem_filter.mpr ⟨List.mem_append_right _ (inT4 _ (List.mem_of_getElem? (i := 17) rfl)), rfl⟩
theorem wd_4_18 : Cond.code yL_floor method_3_code 6 (some .long) ∈ wAll := List.mem_filter.mpr ⟨List.mem_append_right _ (inT4 _ (List.mem_of_getElem? (i := 18) rfl)), rfl⟩
theorem wd_4_19 : Cond.methodLink RL 79 yX5_outputByIncrements ∈ wAll := List.mem_filter.mpr ⟨List.mem_append_right _ (inT4 _ (List.mem_of_getElem? (i := 19) rfl)), rfl⟩
theorem wd_4_20 : Cond.instanceMethod yX5_outputByIncrements ∈ wAll := List.mem_filter.mpr ⟨List.mem_append_right _ (inT4 _ (List.mem_of_getElem? (i := 20) rfl)), rfl⟩
theorem wd_4_21 : Cond.selects RX5 yX5_outputByIncrements yX5_outputByIncrements ∈ wAll := List.mem_filter.mpr ⟨List.mem_append_right _ (inT4 _ (List.mem_of_getElem? (i := 21) rfl)), rfl⟩
theorem wd_4_22 : Cond.code yX5_outputByIncrements prog_1_method_15_code 2 (some .long) ∈ wAll := List.mem_filter.mpr ⟨List.mem_append_right _ (inT4 _ (List.mem_of_getElem? (i := 22) rfl)), rfl⟩
theorem wd_4_23 : Cond.constantLong RX5 137 (1000) ∈ wAll := List.mem_filter.mpr ⟨List.mem_append_right _ (inT4 _ (List.mem_of_getElem? (i := 23) rfl)), rfl⟩
theorem wd_4_24 : Cond.methodLink RX5 139 yJ9_floorDiv_f86c9 ∈ wAll := List.mem_filter.mpr ⟨List.mem_append_right _ (inT4 _ (List.mem_of_getElem? (i := 24) rfl)), rfl⟩
theorem wd_4_25 : Cond.methodLink RL 67 yL_next ∈ wAll := List.mem_filter.mpr ⟨List.mem_append_right _ (inT4 _ (List.mem_of_getElem? (i := 25) rfl)), rfl⟩
theorem wd_4_26 : Cond.static yL_next ∈ wAll := List.mem_filter.mpr ⟨List.mem_append_right _ (inT4 _ (List.mem_of_getElem? (i := 26) rfl)), rfl⟩
theorem wd_4_27 : Cond.code yL_next method_5_code 8 (some .long) ∈ wAll := List.mem_filter.mpr ⟨List.mem_append_right _ (inT4 _ (List.mem_of_getElem? (i := 27) rfl)), rfl⟩
theorem wd_4_28 : Cond.constantLong RL 18 (-1000000) ∈ wAll := List.mem_filter.mpr ⟨List.mem_append_right _ (inT4 _ (List.mem_of_getElem? (i := 28) rfl)), rfl⟩
theorem wd_4_29 : Cond.constantLong RL 20 (1000000) ∈ wAll := List.mem_filter.mpr ⟨List.mem_append_right _ (inT4 _ (List.mem_of_getElem? (i := 29) rfl)), rfl⟩
theorem wd_p_0 : Cond.selects RX5 yX5_loopAt yX5_loopAt ∈ wAll := List.mem_filter.mpr ⟨List.mem_append_left _ (List.mem_of_getElem? (i := 0) rfl), rfl⟩
theorem wd_p_2 : Cond.selects RX0 yX0_rate yX0_rate ∈ wAll := List.mem_filter.mpr ⟨List.mem_append_left _ (List.mem_of_getElem? (i := 2) rfl), rfl⟩
theorem wd_p_3 : Cond.selects RX1 yX1_goToHand yX1_goToHand ∈ wAll := List.mem_filter.mpr ⟨List.mem_append_left _ (List.mem_of_getElem? (i := 3) rfl), rfl⟩
theorem wd_p_4 : Cond.selects RX5 yX5_letOneSampleGoBy yX5_letOneSampleGoBy ∈ wAll := List.mem_filter.mpr ⟨List.mem_append_left _ (List.mem_of_getElem? (i := 4) rfl), rfl⟩
theorem wd_p_5 : Cond.selects RX5 yX5_takeTurn yX5_takeTurn ∈ wAll := List.mem_filter.mpr ⟨List.mem_append_left _ (List.mem_of_getElem? (i := 5) rfl), rfl⟩
theorem wd_p_6 : Cond.selects RX3 yX3_noteRise yX3_noteRise ∈ wAll := List.mem_filter.mpr ⟨List.mem_append_left _ (List.mem_of_getElem? (i := 6) rfl), rfl⟩
theorem wd_p_7 : Cond.selects RX4 yX4_gainAt yX4_gainAt ∈ wAll := List.mem_filter.mpr ⟨List.mem_append_left _ (List.mem_of_getElem? (i := 7) rfl), rfl⟩
theorem wd_p_8 : Cond.selects RX0 yX0_countIncrements yX0_countIncrements ∈ wAll := List.mem_filter.mpr ⟨List.mem_append_left _ (List.mem_of_getElem? (i := 8) rfl), rfl⟩
theorem wd_p_9 : Cond.selects RX0 yX0_guardAgainstWindup yX0_guardAgainstWindup ∈ wAll := List.mem_filter.mpr ⟨List.mem_append_left _ (List.mem_of_getElem? (i := 9) rfl), rfl⟩
theorem inW_X0 : ∀ w ∈ wsX00, w ∈ wAll := fun w h => by
  obtain ⟨k, hk, rfl⟩ := List.mem_map.mp h
  replace hk := List.mem_range.mp hk
  match k, hk with
  | 0, _ => exact wd_1_111
  | 1, _ => exact wd_1_113
  | 2, _ => exact wd_1_115
  | 3, _ => exact wd_1_117
  | 4, _ => exact wd_1_119
  | 5, _ => exact wd_1_121
  | 6, _ => exact wd_1_123
  | 7, _ => exact wd_1_125
  | 8, _ => exact wd_1_127
  | 9, _ => exact wd_1_129
  | 10, _ => exact wd_1_131
  | 11, _ => exact wd_1_133
  | 12, _ => exact wd_1_135
  | 13, _ => exact wd_1_137
  | 14, _ => exact wd_1_139
  | k + 15, hk => exact absurd hk (by omega)
theorem inW_X1 : ∀ w ∈ wsX10, w ∈ wAll := fun w h => by
  obtain ⟨k, hk, rfl⟩ := List.mem_map.mp h
  replace hk := List.mem_range.mp hk
  match k, hk with
  | 0, _ => exact wd_1_233
  | 1, _ => exact wd_1_235
  | 2, _ => exact wd_1_237
  | 3, _ => exact wd_1_239
  | 4, _ => exact wd_2_1
  | 5, _ => exact wd_2_3
  | 6, _ => exact wd_2_5
  | 7, _ => exact wd_2_7
  | 8, _ => exact wd_2_9
  | 9, _ => exact wd_2_11
  | k + 10, hk => exact absurd hk (by omega)
theorem inW_X2 : ∀ w ∈ wsX20, w ∈ wAll := fun w h => by
  obtain ⟨k, hk, rfl⟩ := List.mem_map.mp h
  replace hk := List.mem_range.mp hk
  match k, hk with
  | 0, _ => exact wd_1_63
  | 1, _ => exact wd_1_65
  | 2, _ => exact wd_1_67
  | 3, _ => exact wd_1_69
  | 4, _ => exact wd_1_71
  | 5, _ => exact wd_1_73
  | 6, _ => exact wd_1_75
  | 7, _ => exact wd_1_77
  | 8, _ => exact wd_1_79
  | k + 9, hk => exact absurd hk (by omega)
theorem inW_X3 : ∀ w ∈ wsX30, w ∈ wAll := fun w h => by
  obtain ⟨k, hk, rfl⟩ := List.mem_map.mp h
  replace hk := List.mem_range.mp hk
  match k, hk with
  | 0, _ => exact wd_1_188
  | 1, _ => exact wd_1_190
  | 2, _ => exact wd_1_192
  | 3, _ => exact wd_1_194
  | 4, _ => exact wd_1_196
  | 5, _ => exact wd_1_198
  | 6, _ => exact wd_1_200
  | 7, _ => exact wd_1_202
  | 8, _ => exact wd_1_204
  | 9, _ => exact wd_1_206
  | 10, _ => exact wd_1_208
  | 11, _ => exact wd_1_210
  | k + 12, hk => exact absurd hk (by omega)
theorem inW_X4 : ∀ w ∈ wsX40, w ∈ wAll := fun w h => by
  obtain ⟨k, hk, rfl⟩ := List.mem_map.mp h
  replace hk := List.mem_range.mp hk
  match k, hk with
  | 0, _ => exact wd_1_153
  | 1, _ => exact wd_1_155
  | 2, _ => exact wd_1_157
  | 3, _ => exact wd_1_159
  | 4, _ => exact wd_1_161
  | k + 5, hk => exact absurd hk (by omega)
theorem inW_X5 : ∀ w ∈ wsX50, w ∈ wAll := fun w h => by
  obtain ⟨k, hk, rfl⟩ := List.mem_map.mp h
  replace hk := List.mem_range.mp hk
  match k, hk with
  | 0, _ => exact wd_2_16
  | 1, _ => exact wd_2_18
  | k + 2, hk => exact absurd hk (by omega)
